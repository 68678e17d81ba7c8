/-! bits of natural numbers -/
section AZBIT
variable {M : az_Me} {d rc rs pc : Nat} {ls : List (Nat × Value)} {st : List Value} {hp : az_Hp} {Q : Option Value → az_Hp → Prop}
theorem nI_bv (n : Nat) : (nI n).toBitVec = BitVec.ofNat 32 n := rfl
theorem nI_or (a b : Nat) : nI a ||| nI b = nI (a ||| b) := by
  apply Int32.toBitVec_inj.mp
  rw [Int32.toBitVec_or, nI_bv, nI_bv, nI_bv]
  apply BitVec.eq_of_getLsbD_eq
  intro i hi
  simp [BitVec.getLsbD_ofNat, hi]
theorem nI_and (a b : Nat) : nI a &&& nI b = nI (a &&& b) := by
  apply Int32.toBitVec_inj.mp
  rw [Int32.toBitVec_and, nI_bv, nI_bv, nI_bv]
  apply BitVec.eq_of_getLsbD_eq
  intro i hi
  simp [BitVec.getLsbD_ofNat, hi]
theorem nI_shl1F : ∀ k : Fin 31, nI 1 <<< (nI k.val &&& 31) = nI (2 ^ k.val) := by decide +kernel
theorem nI_shl1 {k : Nat} (h : k < 31) : nI 1 <<< (nI k &&& 31) = nI (2 ^ k) := nI_shl1F ⟨k, h⟩
theorem nI_andF : ∀ k : Fin 32, nI k.val &&& 31 = nI k.val := by decide +kernel
theorem nI_shrF : ∀ a : Fin 64, ∀ k : Fin 6, nI a.val >>> (nI k.val &&& 31) = nI (a.val >>> k.val) := by decide +kernel
theorem nI_shr {a k : Nat} (ha : a < 64) (hk : k < 6) : nI a >>> (nI k &&& 31) = nI (a >>> k) := nI_shrF ⟨a, ha⟩ ⟨k, hk⟩
theorem az_iorN {x y : Nat} (hdg : decode M.2.1 pc = .ok (.ior, 1)) (k : az_W M d rc rs (pc + 1) ls (.int (nI (x ||| y)) :: st) hp Q) : az_W M d rc rs pc ls (.int (nI y) :: .int (nI x) :: st) hp Q :=
  az_ior hdg (az_W.stk (by rw [nI_or]) k)
theorem az_iandN {x y : Nat} (hdg : decode M.2.1 pc = .ok (.iand, 1)) (k : az_W M d rc rs (pc + 1) ls (.int (nI (x &&& y)) :: st) hp Q) : az_W M d rc rs pc ls (.int (nI y) :: .int (nI x) :: st) hp Q :=
  az_iand hdg (az_W.stk (by rw [nI_and]) k)
theorem az_ishl1N {y : Nat} (hdg : decode M.2.1 pc = .ok (.ishl, 1)) (k : az_W M d rc rs (pc + 1) ls (.int (nI (2 ^ y)) :: st) hp Q) (h : y < 31 := by omega) : az_W M d rc rs pc ls (.int (nI y) :: .int (nI 1) :: st) hp Q :=
  az_ishl hdg (az_W.stk (by rw [nI_shl1 h]) k)
theorem az_ishrN {x y : Nat} (hdg : decode M.2.1 pc = .ok (.ishr, 1)) (k : az_W M d rc rs (pc + 1) ls (.int (nI (x >>> y)) :: st) hp Q) (hx : x < 64 := by omega) (h : y < 6 := by omega) : az_W M d rc rs pc ls (.int (nI y) :: .int (nI x) :: st) hp Q :=
  az_ishr hdg (az_W.stk (by rw [nI_shr hx h]) k)
end AZBIT
