/-! The model's reader: words of its text -/
abbrev kyT : String := " street tables moon stands rule nothing picks sleeps if then else end night front back rest and or not "
def kyP (k : Nat) : Nat := [1, 8, 15, 20, 27, 32, 40, 46, 53, 56, 61, 66, 70, 76, 82, 87, 92, 96, 99, 103].getD k 0
def kyN (k : Nat) : Nat := [6, 6, 4, 6, 4, 7, 5, 6, 2, 4, 4, 3, 5, 5, 4, 4, 3, 2, 3].getD k 0
theorem ky_len : (az_byt kyT).length = 103 := by decide +kernel
theorem ky_F : ∀ k : Fin 19, az_ch kyT (kyP k.val + kyN k.val) = 32 ∧ kyP (k.val + 1) = kyP k.val + kyN k.val + 1 ∧ kyP k.val + kyN k.val < 103 ∧ kyN k.val ≤ 7 ∧ 1 ≤ kyN k.val ∧ ∀ j : Fin 8, j.val < kyN k.val → az_ch kyT (kyP k.val + j.val) ≠ 32 := by decide +kernel
theorem ky_f {k : Nat} (h : k < 19) : az_ch kyT (kyP k + kyN k) = 32 ∧ kyP (k + 1) = kyP k + kyN k + 1 ∧ kyP k + kyN k < 103 ∧ kyN k ≤ 7 ∧ 1 ≤ kyN k ∧ ∀ j, j < kyN k → az_ch kyT (kyP k + j) ≠ 32 := by
  obtain ⟨h1, h2, h3, h4, h5, h6⟩ := ky_F ⟨k, h⟩
  have h4 : kyN k ≤ 7 := h4
  exact ⟨h1, h2, h3, h4, h5, fun j hj => h6 ⟨j, by omega⟩ hj⟩
theorem ky_chF : ∀ j : Fin 103, az_ch kyT j.val < 128 := by decide +kernel
theorem ky_ch {j : Nat} (h : j < 103) : az_ch kyT j < 128 := ky_chF ⟨j, h⟩
theorem ky_pF : ∀ k : Fin 20, kyP k.val ≤ 103 := by decide +kernel
theorem ky_p {k : Nat} (h : k ≤ 19) : kyP k ≤ 103 := ky_pF ⟨k, by omega⟩
theorem ky_end : kyP 19 = 103 ∧ kyP 0 = 1 := by decide
/-- the letters from a to z are the k-th word -/
def kyM (b : Nat → Nat) (a z k : Nat) : Prop := z = a + kyN k ∧ ∀ j, j < kyN k → b (a + j) = az_ch kyT (kyP k + j)
theorem ky_dF : ∀ k m : Fin 19, k ≠ m → kyN k.val ≠ kyN m.val ∨ ∃ j : Fin 8, j.val < kyN k.val ∧ az_ch kyT (kyP k.val + j.val) ≠ az_ch kyT (kyP m.val + j.val) := by decide +kernel
theorem kyM_1 {b : Nat → Nat} {a z k m : Nat} (hk : k < 19) (hm : m < 19) (h1 : kyM b a z k) (h2 : kyM b a z m) : k = m := by
  apply Classical.byContradiction
  intro q
  rcases ky_dF ⟨k, hk⟩ ⟨m, hm⟩ (fun e => q (congrArg Fin.val e)) with h | ⟨j, h3, h4⟩
  · exact h (by have e1 := h1.1; have e2 := h2.1; show kyN k = kyN m; omega)
  · have e : kyN k = kyN m := by have e1 := h1.1; have e2 := h2.1; omega
    have h3 : j.val < kyN k := h3
    exact h4 ((h1.2 j.val h3).symm.trans (h2.2 j.val (by omega)))
abbrev mr_o (sc : Nat → Value) (a z n : Nat) (ki nu wr wa : Int32) : az_C := az_O 11 [sc 0, .ref 65, .ref 66, .ref 67, .ref 68, sc 5, .int (nI a), .int (nI z), .int (nI n), .int ki, .int nu, .int wr, .int wa, sc 13, sc 14, .ref 69, .ref 70, .ref 71, sc 18, .ref 72, .ref 73, .ref 74, sc 22, sc 23, .ref 75, sc 25, .ref 76, .ref 77, .ref 78, sc 29, .ref 79, .ref 80, .ref 81, .ref 82, .ref 83, .ref 84, .ref 85, sc 37, .ref 86, .ref 87, .ref 88, .ref 89, .ref 90, .ref 91, .ref 92]
/-- what stands at a place of the text -/
def vS (b : Nat → Nat) (n i : Nat) : Int32 := if i < n then nI (b i) else (-1)
theorem vS_in {b : Nat → Nat} {n i : Nat} (h : i < n) : vS b n i = nI (b i) := if_pos h
theorem vS_out {b : Nat → Nat} {n i : Nat} (h : n ≤ i) : vS b n i = (-1) := if_neg (by omega)
theorem vS_eq {b : Nat → Nat} {n i k : Nat} (hb : ∀ j, b j < 256) (hk : k < 256) : vS b n i = nI k ↔ (i < n ∧ b i = k) := by
  by_cases h : i < n
  · rw [vS_in h]
    constructor
    · intro q; exact ⟨h, lN_2 q (by have := hb i; omega) (by omega)⟩
    · intro q; rw [q.2]
  · rw [vS_out (by omega)]
    constructor
    · intro q
      have q1 := congrArg Int32.toInt q
      rw [nI_toI (by omega)] at q1
      have q2 : (-1 : Int32).toInt = -1 := by decide
      omega
    · intro q; exact absurd q.1 h
theorem vS_lt {b : Nat → Nat} {n i k : Nat} (hb : ∀ j, b j < 256) (hk : k < 256) : vS b n i < nI k ↔ ¬ (i < n ∧ k ≤ b i) := by
  by_cases h : i < n
  · rw [vS_in h, Int32.lt_iff_toInt_lt, nI_toI (by have := hb i; omega), nI_toI (by omega)]; omega
  · rw [vS_out (by omega), Int32.lt_iff_toInt_lt, nI_toI (by omega)]
    have q2 : (-1 : Int32).toInt = -1 := by decide
    omega
theorem vS_gt {b : Nat → Nat} {n i k : Nat} (hb : ∀ j, b j < 256) (hk : k < 256) : nI k < vS b n i ↔ (i < n ∧ k < b i) := by
  by_cases h : i < n
  · rw [vS_in h, Int32.lt_iff_toInt_lt, nI_toI (by omega), nI_toI (by have := hb i; omega)]; omega
  · rw [vS_out (by omega), Int32.lt_iff_toInt_lt, nI_toI (by omega)]
    have q2 : (-1 : Int32).toInt = -1 := by decide
    omega
set_option maxHeartbeats 4000000 in
set_option maxRecDepth 100000 in
theorem m_see {d a z n : Nat} {sc : Nat → Value} {ki nu wr wa : Int32} {b tf : Nat → Nat} {hp : az_Hp} {Q : Option Value → az_Hp → Prop} {i : Nat} (hb : ∀ j, b j < 256) (hn9 : n ≤ 900) (h67 : hp.2 67 = some (az_I 900 (fun j => nI (tf j)))) (htf : ∀ j, j < n → tf j = b j) (h64 : hp.2 64 = some (mr_o sc a z n ki nu wr wa)) (hi : i < 2 ^ 31) (hQ : Q (some (.int (vS b n i))) hp) : az_M mX12_see d 0 0 [.ref 64, .int (nI i)] hp Q := by
  refine az_M.of rfl (Nat.le_of_ble_eq_true rfl) ?_
  show az_W _ _ _ _ 0 [(0, .ref 64), (1, .int (nI i))] [] _ _
  refine az_iload_n dX12_see_0 ?_
  refine az_aload_n dX12_see_1 ?_
  refine az_getf (v := .int (nI n)) dX12_see_2 fl_X12_110 h64 ?_
  refine az_icmp_geN (tgt := 17) dX12_see_5 (fun c5 => ?_) (fun c5 => ?_)
  · refine az_iconst (v := (-1)) dX12_see_17 ?_
    exact az_iret dX12_see_18 (by first | (rw [vS_in (by omega)] at hQ; exact hQ) | (rw [vS_out (by omega)] at hQ; exact hQ))
  · refine az_aload_n dX12_see_8 ?_
    refine az_getf (v := .ref 67) dX12_see_9 fl_X12_21 h64 ?_
    refine az_iload_n dX12_see_12 ?_
    refine az_ialdN (j := i) dX12_see_13 h67 ?_
    rw [htf i (by omega)]
    refine az_goto (tgt := 18) dX12_see_14 ?_
    exact az_iret dX12_see_18 (by first | (rw [vS_in (by omega)] at hQ; exact hQ) | (rw [vS_out (by omega)] at hQ; exact hQ))
def sS (lo hi : Nat) (b : Nat → Nat) (n i : Nat) : Nat := if i < n ∧ lo ≤ b i ∧ b i ≤ hi then 1 else 0
theorem sS_1 {lo hi n i : Nat} {b : Nat → Nat} (h : i < n ∧ lo ≤ b i ∧ b i ≤ hi) : sS lo hi b n i = 1 := if_pos h
theorem sS_0 {lo hi n i : Nat} {b : Nat → Nat} (h : ¬ (i < n ∧ lo ≤ b i ∧ b i ≤ hi)) : sS lo hi b n i = 0 := if_neg h
theorem sS_le {lo hi n i : Nat} {b : Nat → Nat} : sS lo hi b n i ≤ 1 := by unfold sS; split <;> omega
theorem sS_ne {lo hi n i : Nat} {b : Nat → Nat} (h : ¬ sS lo hi b n i = 0) : i < n ∧ lo ≤ b i ∧ b i ≤ hi := Classical.byContradiction (fun q => h (sS_0 q))
theorem sS_z {lo hi n i : Nat} {b : Nat → Nat} (h : sS lo hi b n i = 0) : ¬ (i < n ∧ lo ≤ b i ∧ b i ≤ hi) := fun q => by rw [sS_1 q] at h; omega
set_option maxHeartbeats 4000000 in
set_option maxRecDepth 100000 in
theorem m_isSmall {d n i : Nat} {b : Nat → Nat} {hp : az_Hp} {Q : Option Value → az_Hp → Prop} (hb : ∀ j, b j < 256) (hQ : Q (some (.int (nI (sS 97 122 b n i)))) hp) : az_M mX12_isSmall d 0 0 [.int (vS b n i)] hp Q := by
  refine az_M.of rfl (Nat.le_of_ble_eq_true rfl) ?_
  show az_W _ _ _ _ 0 [(0, .int (vS b n i))] [] _ _
  refine az_iload_n dX12_isSmall_0 ?_
  refine az_bipush (v := nI 97) dX12_isSmall_1 ?_
  refine az_icmp_lt (tgt := 16) dX12_isSmall_3 (fun c3 => ?_) (fun c3 => ?_)
  · refine az_iconst (v := nI 0) dX12_isSmall_16 ?_
    exact az_iret dX12_isSmall_17 (by first | (rw [vS_lt hb (by decide)] at c3; rw [sS_0 (by omega)] at hQ; exact hQ) | (have _g := c9; rw [vS_lt hb (by decide)] at c3; rw [vS_gt hb (by decide)] at c9; first | (rw [sS_0 (by omega)] at hQ; exact hQ) | (rw [sS_1 (by omega)] at hQ; exact hQ)))
  · refine az_iload_n dX12_isSmall_6 ?_
    refine az_bipush (v := nI 122) dX12_isSmall_7 ?_
    refine az_icmp_gt (tgt := 16) dX12_isSmall_9 (fun c9 => ?_) (fun c9 => ?_)
    · refine az_iconst (v := nI 0) dX12_isSmall_16 ?_
      exact az_iret dX12_isSmall_17 (by first | (rw [vS_lt hb (by decide)] at c3; rw [sS_0 (by omega)] at hQ; exact hQ) | (have _g := c9; rw [vS_lt hb (by decide)] at c3; rw [vS_gt hb (by decide)] at c9; first | (rw [sS_0 (by omega)] at hQ; exact hQ) | (rw [sS_1 (by omega)] at hQ; exact hQ)))
    · refine az_iconst (v := nI 1) dX12_isSmall_12 ?_
      refine az_goto (tgt := 17) dX12_isSmall_13 ?_
      exact az_iret dX12_isSmall_17 (by first | (rw [vS_lt hb (by decide)] at c3; rw [sS_0 (by omega)] at hQ; exact hQ) | (have _g := c9; rw [vS_lt hb (by decide)] at c3; rw [vS_gt hb (by decide)] at c9; first | (rw [sS_0 (by omega)] at hQ; exact hQ) | (rw [sS_1 (by omega)] at hQ; exact hQ)))
set_option maxHeartbeats 4000000 in
set_option maxRecDepth 100000 in
theorem m_isDigit {d n i : Nat} {b : Nat → Nat} {hp : az_Hp} {Q : Option Value → az_Hp → Prop} (hb : ∀ j, b j < 256) (hQ : Q (some (.int (nI (sS 48 57 b n i)))) hp) : az_M mX12_isDigit d 0 0 [.int (vS b n i)] hp Q := by
  refine az_M.of rfl (Nat.le_of_ble_eq_true rfl) ?_
  show az_W _ _ _ _ 0 [(0, .int (vS b n i))] [] _ _
  refine az_iload_n dX12_isDigit_0 ?_
  refine az_bipush (v := nI 48) dX12_isDigit_1 ?_
  refine az_icmp_lt (tgt := 16) dX12_isDigit_3 (fun c3 => ?_) (fun c3 => ?_)
  · refine az_iconst (v := nI 0) dX12_isDigit_16 ?_
    exact az_iret dX12_isDigit_17 (by first | (rw [vS_lt hb (by decide)] at c3; rw [sS_0 (by omega)] at hQ; exact hQ) | (have _g := c9; rw [vS_lt hb (by decide)] at c3; rw [vS_gt hb (by decide)] at c9; first | (rw [sS_0 (by omega)] at hQ; exact hQ) | (rw [sS_1 (by omega)] at hQ; exact hQ)))
  · refine az_iload_n dX12_isDigit_6 ?_
    refine az_bipush (v := nI 57) dX12_isDigit_7 ?_
    refine az_icmp_gt (tgt := 16) dX12_isDigit_9 (fun c9 => ?_) (fun c9 => ?_)
    · refine az_iconst (v := nI 0) dX12_isDigit_16 ?_
      exact az_iret dX12_isDigit_17 (by first | (rw [vS_lt hb (by decide)] at c3; rw [sS_0 (by omega)] at hQ; exact hQ) | (have _g := c9; rw [vS_lt hb (by decide)] at c3; rw [vS_gt hb (by decide)] at c9; first | (rw [sS_0 (by omega)] at hQ; exact hQ) | (rw [sS_1 (by omega)] at hQ; exact hQ)))
    · refine az_iconst (v := nI 1) dX12_isDigit_12 ?_
      refine az_goto (tgt := 17) dX12_isDigit_13 ?_
      exact az_iret dX12_isDigit_17 (by first | (rw [vS_lt hb (by decide)] at c3; rw [sS_0 (by omega)] at hQ; exact hQ) | (have _g := c9; rw [vS_lt hb (by decide)] at c3; rw [vS_gt hb (by decide)] at c9; first | (rw [sS_0 (by omega)] at hQ; exact hQ) | (rw [sS_1 (by omega)] at hQ; exact hQ)))
theorem ky_r : az_txt[20]? = some ("LetterNightsModel", 113, kyT) := rfl
set_option maxHeartbeats 4000000 in
set_option maxRecDepth 100000 in
theorem m_keyAt {d a z n : Nat} {sc : Nat → Value} {ki nu wr wa : Int32} {b tf : Nat → Nat} {hp : az_Hp} {Q : Option Value → az_Hp → Prop} (hd : 5 ≤ d) (hb : ∀ j, b j < 256) (hn9 : n ≤ 900) (h67 : hp.2 67 = some (az_I 900 (fun j => nI (tf j)))) (htf : ∀ j, j < n → tf j = b j) (h64 : hp.2 64 = some (mr_o sc a z n ki nu wr wa)) (haz : a ≤ z) (hzn : z ≤ n) (hQ1 : ∀ k, k < 19 → kyM b a z k → Q (some (.int (nI k))) hp) (hQ2 : (∀ k, k < 19 → ¬ kyM b a z k) → Q (some (.int (nI 22))) hp) : az_M mX12_keyAt d 0 0 [.ref 64] hp Q := by
  have hr := ky_r
  have skip : ∀ (k : Nat) (p9 w9 i9 : Nat) (hw9 : w9 < 19) (hf9 : az_ch kyT (kyP w9 + kyN w9) = 32 ∧ kyP (w9 + 1) = kyP w9 + kyN w9 + 1 ∧ kyP w9 + kyN w9 < 103 ∧ kyN w9 ≤ 7 ∧ 1 ≤ kyN w9 ∧ ∀ j, j < kyN w9 → az_ch kyT (kyP w9 + j) ≠ 32) (hK : ∀ p : Nat, p = kyP w9 + kyN w9 → ∀ i3 : Nat, az_W mX12_keyAt d 0 0 114 [(0, .ref 64), (1, .int (nI w9)), (2, .int (nI p)), (3, .int (nI i3))] [] hp Q), 103 - p9 = k → (kyP w9 ≤ p9) → (p9 ≤ kyP w9 + kyN w9) → az_W mX12_keyAt d 0 0 97 [(0, .ref 64), (1, .int (nI w9)), (2, .int (nI p9)), (3, .int (nI i9))] [] hp Q := by
    intro k
    induction k using Nat.strongRecOn with
    | _ k ih =>
    intro p9 w9 i9 hw9 hf9 hK hk hp9 hq9
    obtain ⟨g1, g2, g3, g4, g5, g6⟩ := id hf9
    refine az_ldcS (k := 20) dX12_keyAt_97 rfl rfl rfl ?_
    refine az_iload_n dX12_keyAt_99 ?_
    refine az_cVS (st := []) dX12_keyAt_100 sv_M_121 rfl hr (s_charAt (d := d - 1) (k := 20) (by omega) ky_r (i := p9) (by rw [ky_len]; omega) ?_)
    have hch100 := az_ch_b ky_r (j := p9) (by rw [ky_len]; omega)
    refine az_bipush (v := nI 32) dX12_keyAt_103 ?_
    refine az_icmp_eqN (tgt := 114) dX12_keyAt_105 (fun c105 => ?_) (fun c105 => ?_)
    · exact hK p9 (by apply Classical.byContradiction; intro q; have := hf9.2.2.2.2.2 (p9 - kyP w9) (by omega); rw [show kyP w9 + (p9 - kyP w9) = p9 by omega] at this; exact this c105) i9
    · refine az_iincN (n := 1) (ls' := [(0, .ref 64), (1, .int (nI w9)), (2, .int (nI (p9 + 1))), (3, .int (nI i9))]) dX12_keyAt_108 ?_
      refine az_goto (tgt := 97) dX12_keyAt_111 ?_
      exact ih _ (by omega) (p9 + 1) w9 i9 hw9 hf9 hK rfl (by omega) (by by_cases e : p9 = kyP w9 + kyN w9; rw [e] at c105; exact absurd hf9.1 c105; omega)
  have cmp : ∀ (k : Nat) (i w9 : Nat) (hw9 : w9 < 19) (hf9 : az_ch kyT (kyP w9 + kyN w9) = 32 ∧ kyP (w9 + 1) = kyP w9 + kyN w9 + 1 ∧ kyP w9 + kyN w9 < 103 ∧ kyN w9 ≤ 7 ∧ 1 ≤ kyN w9 ∧ ∀ j, j < kyN w9 → az_ch kyT (kyP w9 + j) ≠ 32) (hK : ∀ i : Nat, i ≤ kyN w9 → a + i ≤ z → (∀ j, j < i → b (a + j) = az_ch kyT (kyP w9 + j)) → (i = kyN w9 ∨ z ≤ a + i ∨ b (a + i) ≠ az_ch kyT (kyP w9 + i)) → az_W mX12_keyAt d 0 0 69 [(0, .ref 64), (1, .int (nI w9)), (2, .int (nI (kyP w9))), (3, .int (nI i))] [] hp Q), 8 - i = k → (i ≤ kyN w9) → (a + i ≤ z) → (∀ j, j < i → b (a + j) = az_ch kyT (kyP w9 + j)) → az_W mX12_keyAt d 0 0 15 [(0, .ref 64), (1, .int (nI w9)), (2, .int (nI (kyP w9))), (3, .int (nI i))] [] hp Q := by
    intro k
    induction k using Nat.strongRecOn with
    | _ k ih =>
    intro i w9 hw9 hf9 hK hk hi hz9 hm
    obtain ⟨g1, g2, g3, g4, g5, g6⟩ := id hf9
    refine az_ldcS (k := 20) dX12_keyAt_15 rfl rfl rfl ?_
    refine az_iload_n dX12_keyAt_17 ?_
    refine az_iload_n dX12_keyAt_18 ?_
    refine az_iaddN dX12_keyAt_19 ?_
    refine az_cVS (st := []) dX12_keyAt_20 sv_M_121 rfl hr (s_charAt (d := d - 1) (k := 20) (by omega) ky_r (i := kyP w9 + i) (by rw [ky_len]; omega) ?_)
    have hch20 := az_ch_b ky_r (j := kyP w9 + i) (by rw [ky_len]; omega)
    refine az_bipush (v := nI 32) dX12_keyAt_23 ?_
    refine az_icmp_eqN (tgt := 69) dX12_keyAt_25 (fun c25 => ?_) (fun c25 => ?_)
    · exact hK i hi (by omega) hm (by first | exact Or.inr (Or.inr c60) | exact Or.inr (Or.inl (by omega)) | (refine Or.inl ?_; apply Classical.byContradiction; intro q; exact g6 i (by omega) c25))
    · refine az_aload_n dX12_keyAt_28 ?_
      refine az_getf (v := .int (nI a)) dX12_keyAt_29 fl_X12_125 h64 ?_
      refine az_iload_n dX12_keyAt_32 ?_
      refine az_iaddN dX12_keyAt_33 ?_
      refine az_aload_n dX12_keyAt_34 ?_
      refine az_getf (v := .int (nI z)) dX12_keyAt_35 fl_X12_128 h64 ?_
      refine az_icmp_geN (tgt := 69) dX12_keyAt_38 (fun c38 => ?_) (fun c38 => ?_)
      · exact hK i hi (by omega) hm (by first | exact Or.inr (Or.inr c60) | exact Or.inr (Or.inl (by omega)) | (refine Or.inl ?_; apply Classical.byContradiction; intro q; exact g6 i (by omega) c25))
      · refine az_aload_n dX12_keyAt_41 ?_
        refine az_getf (v := .ref 67) dX12_keyAt_42 fl_X12_21 h64 ?_
        refine az_aload_n dX12_keyAt_45 ?_
        refine az_getf (v := .int (nI a)) dX12_keyAt_46 fl_X12_125 h64 ?_
        refine az_iload_n dX12_keyAt_49 ?_
        refine az_iaddN dX12_keyAt_50 ?_
        refine az_ialdN (j := a + i) dX12_keyAt_51 h67 ?_
        rw [htf (a + i) (by omega)]
        have hb9 := hb (a + i)
        refine az_ldcS (k := 20) dX12_keyAt_52 rfl rfl rfl ?_
        refine az_iload_n dX12_keyAt_54 ?_
        refine az_iload_n dX12_keyAt_55 ?_
        refine az_iaddN dX12_keyAt_56 ?_
        refine az_cVS (st := [.int (nI (b (a + i)))]) dX12_keyAt_57 sv_M_121 rfl hr (s_charAt (d := d - 1) (k := 20) (by omega) ky_r (i := kyP w9 + i) (by rw [ky_len]; omega) ?_)
        have hch57 := az_ch_b ky_r (j := kyP w9 + i) (by rw [ky_len]; omega)
        refine az_icmp_neN (tgt := 69) dX12_keyAt_60 (fun c60 => ?_) (fun c60 => ?_)
        · exact hK i hi (by omega) hm (by first | exact Or.inr (Or.inr c60) | exact Or.inr (Or.inl (by omega)) | (refine Or.inl ?_; apply Classical.byContradiction; intro q; exact g6 i (by omega) c25))
        · refine az_iincN (n := 1) (ls' := [(0, .ref 64), (1, .int (nI w9)), (2, .int (nI (kyP w9))), (3, .int (nI (i + 1)))]) dX12_keyAt_63 ?_
          refine az_goto (tgt := 15) dX12_keyAt_66 ?_
          exact ih _ (by omega) (i + 1) w9 hw9 hf9 hK rfl (by by_cases e : i = kyN w9; rw [e] at c25; exact absurd g1 c25; omega) (by omega) (fun j hj => (by by_cases e : j = i; rw [e]; exact c60; exact hm j (by omega)))
  have out : ∀ (k : Nat) (w9 : Nat), 19 - w9 = k → (w9 ≤ 19) → (∀ j, j < w9 → ¬ kyM b a z j) → az_W mX12_keyAt d 0 0 4 [(0, .ref 64), (1, .int (nI w9)), (2, .int (nI (kyP w9)))] [] hp Q := by
    intro k
    induction k using Nat.strongRecOn with
    | _ k ih =>
    intro w9 hk hw9 hno
    have hkp := ky_p hw9
    refine az_iload_n dX12_keyAt_4 ?_
    refine az_ldcS (k := 20) dX12_keyAt_5 rfl rfl rfl ?_
    refine az_cVS (st := [.int (nI (kyP w9))]) dX12_keyAt_7 sv_M_115 rfl hr (s_strlen (d := d - 1) (k := 20) (by omega) ky_r ?_)
    rw [ky_len]
    refine az_icmp_geN (tgt := 123) dX12_keyAt_10 (fun c10 => ?_) (fun c10 => ?_)
    · refine az_bipush (v := nI 22) dX12_keyAt_123 ?_
      exact az_iret dX12_keyAt_125 (hQ2 (fun k9 hk9 => hno k9 (by apply Classical.byContradiction; intro q; have := (ky_f (k := w9) (by omega)).2.2.1; omega)))
    · have hw19 : w9 < 19 := (by apply Classical.byContradiction; intro q; rw [show w9 = 19 by omega, ky_end.1] at c10; omega)
      have hf9 := ky_f hw19
      obtain ⟨g1, g2, g3, g4, g5, g6⟩ := id hf9
      refine az_iconst (v := nI 0) dX12_keyAt_13 ?_
      refine az_istore_n (ls' := [(0, .ref 64), (1, .int (nI w9)), (2, .int (nI (kyP w9))), (3, .int (nI 0))]) dX12_keyAt_14 ?_
      refine cmp _ 0 w9 hw19 hf9 (fun i hi hz9 hm hst => ?_) rfl (Nat.zero_le _) (by omega) (fun j hj => absurd hj (by omega))
      refine az_ldcS (k := 20) dX12_keyAt_69 rfl rfl rfl ?_
      refine az_iload_n dX12_keyAt_71 ?_
      refine az_iload_n dX12_keyAt_72 ?_
      refine az_iaddN dX12_keyAt_73 ?_
      refine az_cVS (st := []) dX12_keyAt_74 sv_M_121 rfl hr (s_charAt (d := d - 1) (k := 20) (by omega) ky_r (i := kyP w9 + i) (by rw [ky_len]; omega) ?_)
      have hch74 := az_ch_b ky_r (j := kyP w9 + i) (by rw [ky_len]; omega)
      refine az_bipush (v := nI 32) dX12_keyAt_77 ?_
      refine az_icmp_neN (tgt := 97) dX12_keyAt_79 (fun c79 => ?_) (fun c79 => ?_)
      · have hnM : ¬ kyM b a z w9 := (fun q => (by have e : i = kyN w9 := (by apply Classical.byContradiction; intro q2; rcases hst with h | h | h; exact q2 h; have := q.1; omega; exact h (q.2 i (by omega))); first | exact c79 (by rw [e]; exact g1) | exact c92 (by rw [e]; exact q.1.symm)))
        refine skip _ (kyP w9) w9 i hw19 hf9 (fun p hp2 i3 => ?_) rfl (Nat.le_refl _) (by omega)
        refine az_iincN (n := 1) (ls' := [(0, .ref 64), (1, .int (nI w9)), (2, .int (nI (p + 1))), (3, .int (nI i3))]) dX12_keyAt_114 ?_
        refine az_iincN (n := 1) (ls' := [(0, .ref 64), (1, .int (nI (w9 + 1))), (2, .int (nI (p + 1))), (3, .int (nI i3))]) dX12_keyAt_117 ?_
        refine az_goto (tgt := 4) dX12_keyAt_120 ?_
        refine az_W.keep (ls' := [(0, .ref 64), (1, .int (nI (w9 + 1))), (2, .int (nI (p + 1)))]) [0, 1, 2] rfl ?_
        rw [show p + 1 = kyP (w9 + 1) by omega]
        exact ih _ (by omega) (w9 + 1) rfl (by omega) (fun j hj => (by by_cases e : j = w9; rw [e]; exact hnM; exact hno j (by omega)))
      · refine az_aload_n dX12_keyAt_82 ?_
        refine az_getf (v := .int (nI a)) dX12_keyAt_83 fl_X12_125 h64 ?_
        refine az_iload_n dX12_keyAt_86 ?_
        refine az_iaddN dX12_keyAt_87 ?_
        refine az_aload_n dX12_keyAt_88 ?_
        refine az_getf (v := .int (nI z)) dX12_keyAt_89 fl_X12_128 h64 ?_
        refine az_icmp_neN (tgt := 97) dX12_keyAt_92 (fun c92 => ?_) (fun c92 => ?_)
        · have hnM : ¬ kyM b a z w9 := (fun q => (by have e : i = kyN w9 := (by apply Classical.byContradiction; intro q2; rcases hst with h | h | h; exact q2 h; have := q.1; omega; exact h (q.2 i (by omega))); first | exact c79 (by rw [e]; exact g1) | exact c92 (by rw [e]; exact q.1.symm)))
          refine skip _ (kyP w9) w9 i hw19 hf9 (fun p hp2 i3 => ?_) rfl (Nat.le_refl _) (by omega)
          refine az_iincN (n := 1) (ls' := [(0, .ref 64), (1, .int (nI w9)), (2, .int (nI (p + 1))), (3, .int (nI i3))]) dX12_keyAt_114 ?_
          refine az_iincN (n := 1) (ls' := [(0, .ref 64), (1, .int (nI (w9 + 1))), (2, .int (nI (p + 1))), (3, .int (nI i3))]) dX12_keyAt_117 ?_
          refine az_goto (tgt := 4) dX12_keyAt_120 ?_
          refine az_W.keep (ls' := [(0, .ref 64), (1, .int (nI (w9 + 1))), (2, .int (nI (p + 1)))]) [0, 1, 2] rfl ?_
          rw [show p + 1 = kyP (w9 + 1) by omega]
          exact ih _ (by omega) (w9 + 1) rfl (by omega) (fun j hj => (by by_cases e : j = w9; rw [e]; exact hnM; exact hno j (by omega)))
        · refine az_iload_n dX12_keyAt_95 ?_
          exact az_iret dX12_keyAt_96 (hQ1 w9 hw19 (by have e : i = kyN w9 := (by apply Classical.byContradiction; intro q; exact g6 i (by omega) c79); rw [e] at hm c92; exact ⟨c92.symm, hm⟩))
  refine az_M.of rfl (Nat.le_of_ble_eq_true rfl) ?_
  show az_W _ _ _ _ 0 [(0, .ref 64)] [] _ _
  refine az_iconst (v := nI 0) dX12_keyAt_0 ?_
  refine az_istore_n (ls' := [(0, .ref 64), (1, .int (nI 0))]) dX12_keyAt_1 ?_
  refine az_iconst (v := nI 1) dX12_keyAt_2 ?_
  refine az_istore_n (ls' := [(0, .ref 64), (1, .int (nI 0)), (2, .int (nI 1))]) dX12_keyAt_3 ?_
  rw [show nI 1 = nI (kyP 0) from rfl]
  exact out _ 0 rfl (Nat.zero_le _) (fun j hj => absurd hj (by omega))

