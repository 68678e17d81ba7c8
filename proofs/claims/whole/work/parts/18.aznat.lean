/-! rules over numbers that are natural: nI n, lN n -/
section AZN
variable {M : az_Me} {d rc rs pc : Nat} {ls : List (Nat × Value)} {st : List Value} {hp : az_Hp} {Q : Option Value → az_Hp → Prop}
theorem nI_mul (a b : Nat) : nI a * nI b = nI (a * b) := (Int32.ofNat_mul a b).symm
theorem nI_subN {a b : Nat} (h : b ≤ a) : nI a - nI b = nI (a - b) := by
  have : nI (a - b) + nI b = nI a := by rw [nI_add, Nat.sub_add_cancel h]
  rw [← this]
  simp
theorem lN_toI {n : Nat} (h : n < 2 ^ 63) : (lN n).toInt = (n : Int) := lg_ofNat_toInt h
theorem lN_leN {a b : Nat} (ha : a < 2 ^ 63) (hb : b < 2 ^ 63) : lN a ≤ lN b ↔ a ≤ b := by
  rw [Int64.le_iff_toInt_le, lN_toI ha, lN_toI hb]; omega
theorem lN_ltN {a b : Nat} (ha : a < 2 ^ 63) (hb : b < 2 ^ 63) : lN a < lN b ↔ a < b := by
  rw [Int64.lt_iff_toInt_lt, lN_toI ha, lN_toI hb]; omega
theorem lN_eqN {a b : Nat} (ha : a < 2 ^ 63) (hb : b < 2 ^ 63) : lN a = lN b ↔ a = b := by
  refine ⟨fun h => ?_, fun h => by rw [h]⟩
  have := congrArg Int64.toInt h
  rw [lN_toI ha, lN_toI hb] at this
  omega
theorem nI_lN {n : Nat} (h : n < 2 ^ 31) : (nI n).toInt64 = lN n := nI_l h
theorem az_W.stk {stk stk' : List Value} (h : stk' = stk) (k : az_W M d rc rs pc ls stk hp Q) : az_W M d rc rs pc ls stk' hp Q := h ▸ k
theorem az_iaddN {x y : Nat} (hdg : decode M.2.1 pc = .ok (.iadd, 1)) (k : az_W M d rc rs (pc + 1) ls (.int (nI (x + y)) :: st) hp Q) : az_W M d rc rs pc ls (.int (nI y) :: .int (nI x) :: st) hp Q :=
  az_iadd hdg (az_W.stk (by rw [nI_add x y]) k)
theorem az_imulN {x y : Nat} (hdg : decode M.2.1 pc = .ok (.imul, 1)) (k : az_W M d rc rs (pc + 1) ls (.int (nI (x * y)) :: st) hp Q) : az_W M d rc rs pc ls (.int (nI y) :: .int (nI x) :: st) hp Q :=
  az_imul hdg (az_W.stk (by rw [nI_mul x y]) k)
theorem az_isubN {x y : Nat} (hdg : decode M.2.1 pc = .ok (.isub, 1)) (h : y ≤ x) (k : az_W M d rc rs (pc + 1) ls (.int (nI (x - y)) :: st) hp Q) : az_W M d rc rs pc ls (.int (nI y) :: .int (nI x) :: st) hp Q :=
  az_isub hdg (az_W.stk (by rw [nI_subN h]) k)
theorem az_laddN {x y : Nat} (hdg : decode M.2.1 pc = .ok (.ladd, 1)) (k : az_W M d rc rs (pc + 1) ls (.long (lN (x + y)) :: st) hp Q) : az_W M d rc rs pc ls (.long (lN y) :: .long (lN x) :: st) hp Q :=
  az_ladd hdg (az_W.stk (by rw [lN_add x y]) k)
theorem az_lmulN {x y : Nat} (hdg : decode M.2.1 pc = .ok (.lmul, 1)) (k : az_W M d rc rs (pc + 1) ls (.long (lN (x * y)) :: st) hp Q) : az_W M d rc rs pc ls (.long (lN y) :: .long (lN x) :: st) hp Q :=
  az_lmul hdg (az_W.stk (by rw [lN_mul x y]) k)
theorem az_lsubN {x y : Nat} (hdg : decode M.2.1 pc = .ok (.lsub, 1)) (h : y ≤ x) (k : az_W M d rc rs (pc + 1) ls (.long (lN (x - y)) :: st) hp Q) : az_W M d rc rs pc ls (.long (lN y) :: .long (lN x) :: st) hp Q :=
  az_lsub hdg (az_W.stk (by rw [lN_sub h]) k)
theorem az_i2lN {x : Nat} (hdg : decode M.2.1 pc = .ok (.i2l, 1)) (k : az_W M d rc rs (pc + 1) ls (.long (lN x) :: st) hp Q) (h : x < 2 ^ 31 := by omega) : az_W M d rc rs pc ls (.int (nI x) :: st) hp Q :=
  az_i2l hdg (az_W.stk (by rw [nI_lN h]) k)
theorem az_l2iN {x : Nat} (hdg : decode M.2.1 pc = .ok (.l2i, 1)) (k : az_W M d rc rs (pc + 1) ls (.int (nI x) :: st) hp Q) : az_W M d rc rs pc ls (.long (lN x) :: st) hp Q :=
  az_l2i hdg (az_W.stk (by rw [lN_i]) k)
theorem az_iincN {i x n : Nat} {z : Int} {ls' : List (Nat × Value)} (hdg : decode M.2.1 pc = .ok (.iinc i z, 3)) (k : az_W M d rc rs (pc + 3) ls' st hp Q) (hz : z = (n : Int) := by rfl) (hv : az_get ls i = some (.int (nI x)) := by rfl) (hs : az_set1 ls i (.int (nI (x + n))) = ls' := by rfl) (hn : i < M.2.2.1 := by decide) : az_W M d rc rs pc ls st hp Q :=
  az_iinc (v := nI (x + n)) hdg k hv (by subst hz; rw [← nI_add]; rfl) hs hn
theorem az_icmp_eqN {x y : Nat} {off : Int} {tgt : Nat} (hdg : decode M.2.1 pc = .ok (.if_icmp .eq off, 3)) (kt : x = y → az_W M d rc rs tgt ls st hp Q) (kf : ¬ (x = y) → az_W M d rc rs (pc + 3) ls st hp Q) (ht : (pc : Int) + off = (tgt : Int) := by decide) (hx : x < 2 ^ 31 := by omega) (hy : y < 2 ^ 31 := by omega) : az_W M d rc rs pc ls (.int (nI y) :: .int (nI x) :: st) hp Q :=
  az_icmp_eq hdg (fun h => kt ((nI_eq hx hy).mp h)) (fun h => kf (fun q => h ((nI_eq hx hy).mpr q))) ht
theorem az_icmp_neN {x y : Nat} {off : Int} {tgt : Nat} (hdg : decode M.2.1 pc = .ok (.if_icmp .ne off, 3)) (kt : ¬ x = y → az_W M d rc rs tgt ls st hp Q) (kf : x = y → az_W M d rc rs (pc + 3) ls st hp Q) (ht : (pc : Int) + off = (tgt : Int) := by decide) (hx : x < 2 ^ 31 := by omega) (hy : y < 2 ^ 31 := by omega) : az_W M d rc rs pc ls (.int (nI y) :: .int (nI x) :: st) hp Q :=
  az_icmp_ne hdg (fun h => kt ((not_congr (nI_eq hx hy)).mp h)) (fun h => kf ((nI_eq hx hy).mp h)) ht
theorem az_icmp_ltN {x y : Nat} {off : Int} {tgt : Nat} (hdg : decode M.2.1 pc = .ok (.if_icmp .lt off, 3)) (kt : x < y → az_W M d rc rs tgt ls st hp Q) (kf : ¬ (x < y) → az_W M d rc rs (pc + 3) ls st hp Q) (ht : (pc : Int) + off = (tgt : Int) := by decide) (hx : x < 2 ^ 31 := by omega) (hy : y < 2 ^ 31 := by omega) : az_W M d rc rs pc ls (.int (nI y) :: .int (nI x) :: st) hp Q :=
  az_icmp_lt hdg (fun h => kt ((nI_ltI hx hy).mp h)) (fun h => kf (fun q => h ((nI_ltI hx hy).mpr q))) ht
theorem az_icmp_geN {x y : Nat} {off : Int} {tgt : Nat} (hdg : decode M.2.1 pc = .ok (.if_icmp .ge off, 3)) (kt : y ≤ x → az_W M d rc rs tgt ls st hp Q) (kf : ¬ (y ≤ x) → az_W M d rc rs (pc + 3) ls st hp Q) (ht : (pc : Int) + off = (tgt : Int) := by decide) (hx : x < 2 ^ 31 := by omega) (hy : y < 2 ^ 31 := by omega) : az_W M d rc rs pc ls (.int (nI y) :: .int (nI x) :: st) hp Q :=
  az_icmp_ge hdg (fun h => kt ((nI_leI hy hx).mp h)) (fun h => kf (fun q => h ((nI_leI hy hx).mpr q))) ht
theorem az_icmp_gtN {x y : Nat} {off : Int} {tgt : Nat} (hdg : decode M.2.1 pc = .ok (.if_icmp .gt off, 3)) (kt : y < x → az_W M d rc rs tgt ls st hp Q) (kf : ¬ (y < x) → az_W M d rc rs (pc + 3) ls st hp Q) (ht : (pc : Int) + off = (tgt : Int) := by decide) (hx : x < 2 ^ 31 := by omega) (hy : y < 2 ^ 31 := by omega) : az_W M d rc rs pc ls (.int (nI y) :: .int (nI x) :: st) hp Q :=
  az_icmp_gt hdg (fun h => kt ((nI_ltI hy hx).mp h)) (fun h => kf (fun q => h ((nI_ltI hy hx).mpr q))) ht
theorem az_icmp_leN {x y : Nat} {off : Int} {tgt : Nat} (hdg : decode M.2.1 pc = .ok (.if_icmp .le off, 3)) (kt : x ≤ y → az_W M d rc rs tgt ls st hp Q) (kf : ¬ (x ≤ y) → az_W M d rc rs (pc + 3) ls st hp Q) (ht : (pc : Int) + off = (tgt : Int) := by decide) (hx : x < 2 ^ 31 := by omega) (hy : y < 2 ^ 31 := by omega) : az_W M d rc rs pc ls (.int (nI y) :: .int (nI x) :: st) hp Q :=
  az_icmp_le hdg (fun h => kt ((nI_leI hx hy).mp h)) (fun h => kf (fun q => h ((nI_leI hx hy).mpr q))) ht
theorem az_lcmp_eq {x y : Int64} {off : Int} {tgt : Nat} (hdg : decode M.2.1 pc = .ok (.lcmp, 1)) (hdg2 : decode M.2.1 (pc + 1) = .ok (.ifCond .eq off, 3)) (kt : x = y → az_W M d rc rs tgt ls st hp Q) (kf : ¬ (x = y) → az_W M d rc rs (pc + 4) ls st hp Q) (ht : ((pc + 1 : Nat) : Int) + off = (tgt : Int) := by decide) : az_W M d rc rs pc ls (.long y :: .long x :: st) hp Q :=
  az_lcmp hdg (az_if_eq hdg2 (fun h => kt ((lg_cmp_eq x y).mp h)) (fun h => kf (fun q => h ((lg_cmp_eq x y).mpr q))) ht)
theorem az_lcmp_eqN {x y : Nat} {off : Int} {tgt : Nat} (hdg : decode M.2.1 pc = .ok (.lcmp, 1)) (hdg2 : decode M.2.1 (pc + 1) = .ok (.ifCond .eq off, 3)) (kt : x = y → az_W M d rc rs tgt ls st hp Q) (kf : ¬ (x = y) → az_W M d rc rs (pc + 4) ls st hp Q) (ht : ((pc + 1 : Nat) : Int) + off = (tgt : Int) := by decide) (hx : x < 2 ^ 63 := by omega) (hy : y < 2 ^ 63 := by omega) : az_W M d rc rs pc ls (.long (lN y) :: .long (lN x) :: st) hp Q :=
  az_lcmp_eq hdg hdg2 (fun h => kt ((lN_eqN hx hy).mp h)) (fun h => kf (fun q => h ((lN_eqN hx hy).mpr q))) ht
theorem az_lcmp_ne {x y : Int64} {off : Int} {tgt : Nat} (hdg : decode M.2.1 pc = .ok (.lcmp, 1)) (hdg2 : decode M.2.1 (pc + 1) = .ok (.ifCond .ne off, 3)) (kt : ¬ x = y → az_W M d rc rs tgt ls st hp Q) (kf : x = y → az_W M d rc rs (pc + 4) ls st hp Q) (ht : ((pc + 1 : Nat) : Int) + off = (tgt : Int) := by decide) : az_W M d rc rs pc ls (.long y :: .long x :: st) hp Q :=
  az_lcmp hdg (az_if_ne hdg2 (fun h => kt ((not_congr (lg_cmp_eq x y)).mp h)) (fun h => kf ((lg_cmp_eq x y).mp h)) ht)
theorem az_lcmp_neN {x y : Nat} {off : Int} {tgt : Nat} (hdg : decode M.2.1 pc = .ok (.lcmp, 1)) (hdg2 : decode M.2.1 (pc + 1) = .ok (.ifCond .ne off, 3)) (kt : ¬ x = y → az_W M d rc rs tgt ls st hp Q) (kf : x = y → az_W M d rc rs (pc + 4) ls st hp Q) (ht : ((pc + 1 : Nat) : Int) + off = (tgt : Int) := by decide) (hx : x < 2 ^ 63 := by omega) (hy : y < 2 ^ 63 := by omega) : az_W M d rc rs pc ls (.long (lN y) :: .long (lN x) :: st) hp Q :=
  az_lcmp_ne hdg hdg2 (fun h => kt ((not_congr (lN_eqN hx hy)).mp h)) (fun h => kf ((lN_eqN hx hy).mp h)) ht
theorem az_lcmp_lt {x y : Int64} {off : Int} {tgt : Nat} (hdg : decode M.2.1 pc = .ok (.lcmp, 1)) (hdg2 : decode M.2.1 (pc + 1) = .ok (.ifCond .lt off, 3)) (kt : x < y → az_W M d rc rs tgt ls st hp Q) (kf : ¬ (x < y) → az_W M d rc rs (pc + 4) ls st hp Q) (ht : ((pc + 1 : Nat) : Int) + off = (tgt : Int) := by decide) : az_W M d rc rs pc ls (.long y :: .long x :: st) hp Q :=
  az_lcmp hdg (az_if_lt hdg2 (fun h => kt ((lg_cmp_lt x y).mp h)) (fun h => kf (fun q => h ((lg_cmp_lt x y).mpr q))) ht)
theorem az_lcmp_ltN {x y : Nat} {off : Int} {tgt : Nat} (hdg : decode M.2.1 pc = .ok (.lcmp, 1)) (hdg2 : decode M.2.1 (pc + 1) = .ok (.ifCond .lt off, 3)) (kt : x < y → az_W M d rc rs tgt ls st hp Q) (kf : ¬ (x < y) → az_W M d rc rs (pc + 4) ls st hp Q) (ht : ((pc + 1 : Nat) : Int) + off = (tgt : Int) := by decide) (hx : x < 2 ^ 63 := by omega) (hy : y < 2 ^ 63 := by omega) : az_W M d rc rs pc ls (.long (lN y) :: .long (lN x) :: st) hp Q :=
  az_lcmp_lt hdg hdg2 (fun h => kt ((lN_ltN hx hy).mp h)) (fun h => kf (fun q => h ((lN_ltN hx hy).mpr q))) ht
theorem az_lcmp_ge {x y : Int64} {off : Int} {tgt : Nat} (hdg : decode M.2.1 pc = .ok (.lcmp, 1)) (hdg2 : decode M.2.1 (pc + 1) = .ok (.ifCond .ge off, 3)) (kt : y ≤ x → az_W M d rc rs tgt ls st hp Q) (kf : ¬ (y ≤ x) → az_W M d rc rs (pc + 4) ls st hp Q) (ht : ((pc + 1 : Nat) : Int) + off = (tgt : Int) := by decide) : az_W M d rc rs pc ls (.long y :: .long x :: st) hp Q :=
  az_lcmp hdg (az_if_ge hdg2 (fun h => kt ((lg_cmp_ge x y).mp h)) (fun h => kf (fun q => h ((lg_cmp_ge x y).mpr q))) ht)
theorem az_lcmp_geN {x y : Nat} {off : Int} {tgt : Nat} (hdg : decode M.2.1 pc = .ok (.lcmp, 1)) (hdg2 : decode M.2.1 (pc + 1) = .ok (.ifCond .ge off, 3)) (kt : y ≤ x → az_W M d rc rs tgt ls st hp Q) (kf : ¬ (y ≤ x) → az_W M d rc rs (pc + 4) ls st hp Q) (ht : ((pc + 1 : Nat) : Int) + off = (tgt : Int) := by decide) (hx : x < 2 ^ 63 := by omega) (hy : y < 2 ^ 63 := by omega) : az_W M d rc rs pc ls (.long (lN y) :: .long (lN x) :: st) hp Q :=
  az_lcmp_ge hdg hdg2 (fun h => kt ((lN_leN hy hx).mp h)) (fun h => kf (fun q => h ((lN_leN hy hx).mpr q))) ht
theorem az_lcmp_gt {x y : Int64} {off : Int} {tgt : Nat} (hdg : decode M.2.1 pc = .ok (.lcmp, 1)) (hdg2 : decode M.2.1 (pc + 1) = .ok (.ifCond .gt off, 3)) (kt : y < x → az_W M d rc rs tgt ls st hp Q) (kf : ¬ (y < x) → az_W M d rc rs (pc + 4) ls st hp Q) (ht : ((pc + 1 : Nat) : Int) + off = (tgt : Int) := by decide) : az_W M d rc rs pc ls (.long y :: .long x :: st) hp Q :=
  az_lcmp hdg (az_if_gt hdg2 (fun h => kt ((lg_cmp_gt x y).mp h)) (fun h => kf (fun q => h ((lg_cmp_gt x y).mpr q))) ht)
theorem az_lcmp_gtN {x y : Nat} {off : Int} {tgt : Nat} (hdg : decode M.2.1 pc = .ok (.lcmp, 1)) (hdg2 : decode M.2.1 (pc + 1) = .ok (.ifCond .gt off, 3)) (kt : y < x → az_W M d rc rs tgt ls st hp Q) (kf : ¬ (y < x) → az_W M d rc rs (pc + 4) ls st hp Q) (ht : ((pc + 1 : Nat) : Int) + off = (tgt : Int) := by decide) (hx : x < 2 ^ 63 := by omega) (hy : y < 2 ^ 63 := by omega) : az_W M d rc rs pc ls (.long (lN y) :: .long (lN x) :: st) hp Q :=
  az_lcmp_gt hdg hdg2 (fun h => kt ((lN_ltN hy hx).mp h)) (fun h => kf (fun q => h ((lN_ltN hy hx).mpr q))) ht
theorem az_lcmp_le {x y : Int64} {off : Int} {tgt : Nat} (hdg : decode M.2.1 pc = .ok (.lcmp, 1)) (hdg2 : decode M.2.1 (pc + 1) = .ok (.ifCond .le off, 3)) (kt : x ≤ y → az_W M d rc rs tgt ls st hp Q) (kf : ¬ (x ≤ y) → az_W M d rc rs (pc + 4) ls st hp Q) (ht : ((pc + 1 : Nat) : Int) + off = (tgt : Int) := by decide) : az_W M d rc rs pc ls (.long y :: .long x :: st) hp Q :=
  az_lcmp hdg (az_if_le hdg2 (fun h => kt ((lg_cmp_le x y).mp h)) (fun h => kf (fun q => h ((lg_cmp_le x y).mpr q))) ht)
theorem az_lcmp_leN {x y : Nat} {off : Int} {tgt : Nat} (hdg : decode M.2.1 pc = .ok (.lcmp, 1)) (hdg2 : decode M.2.1 (pc + 1) = .ok (.ifCond .le off, 3)) (kt : x ≤ y → az_W M d rc rs tgt ls st hp Q) (kf : ¬ (x ≤ y) → az_W M d rc rs (pc + 4) ls st hp Q) (ht : ((pc + 1 : Nat) : Int) + off = (tgt : Int) := by decide) (hx : x < 2 ^ 63 := by omega) (hy : y < 2 ^ 63 := by omega) : az_W M d rc rs pc ls (.long (lN y) :: .long (lN x) :: st) hp Q :=
  az_lcmp_le hdg hdg2 (fun h => kt ((lN_leN hx hy).mp h)) (fun h => kf (fun q => h ((lN_leN hx hy).mpr q))) ht
theorem az_if_eqN {x : Nat} {off : Int} {tgt : Nat} (hdg : decode M.2.1 pc = .ok (.ifCond .eq off, 3)) (kt : x = 0 → az_W M d rc rs tgt ls st hp Q) (kf : ¬ (x = 0) → az_W M d rc rs (pc + 3) ls st hp Q) (ht : (pc : Int) + off = (tgt : Int) := by decide) (hx : x < 2 ^ 31 := by omega) : az_W M d rc rs pc ls (.int (nI x) :: st) hp Q :=
  az_if_eq hdg (fun h => kt ((nI_eq hx (by decide)).mp (nI_0 ▸ h))) (fun h => kf (fun q => h (nI_0 ▸ (nI_eq hx (by decide)).mpr q))) ht
theorem az_if_neN {x : Nat} {off : Int} {tgt : Nat} (hdg : decode M.2.1 pc = .ok (.ifCond .ne off, 3)) (kt : ¬ x = 0 → az_W M d rc rs tgt ls st hp Q) (kf : x = 0 → az_W M d rc rs (pc + 3) ls st hp Q) (ht : (pc : Int) + off = (tgt : Int) := by decide) (hx : x < 2 ^ 31 := by omega) : az_W M d rc rs pc ls (.int (nI x) :: st) hp Q :=
  az_if_ne hdg (fun h => kt ((not_congr (nI_eq hx (by decide))).mp (nI_0 ▸ h))) (fun h => kf ((nI_eq hx (by decide)).mp (nI_0 ▸ h))) ht
theorem az_if_gtN {x : Nat} {off : Int} {tgt : Nat} (hdg : decode M.2.1 pc = .ok (.ifCond .gt off, 3)) (kt : 0 < x → az_W M d rc rs tgt ls st hp Q) (kf : ¬ (0 < x) → az_W M d rc rs (pc + 3) ls st hp Q) (ht : (pc : Int) + off = (tgt : Int) := by decide) (hx : x < 2 ^ 31 := by omega) : az_W M d rc rs pc ls (.int (nI x) :: st) hp Q :=
  az_if_gt hdg (fun h => kt ((nI_ltI (by decide) hx).mp (nI_0 ▸ h))) (fun h => kf (fun q => h (nI_0 ▸ (nI_ltI (by decide) hx).mpr q))) ht
theorem az_if_leN {x : Nat} {off : Int} {tgt : Nat} (hdg : decode M.2.1 pc = .ok (.ifCond .le off, 3)) (kt : x ≤ 0 → az_W M d rc rs tgt ls st hp Q) (kf : ¬ (x ≤ 0) → az_W M d rc rs (pc + 3) ls st hp Q) (ht : (pc : Int) + off = (tgt : Int) := by decide) (hx : x < 2 ^ 31 := by omega) : az_W M d rc rs pc ls (.int (nI x) :: st) hp Q :=
  az_if_le hdg (fun h => kt ((nI_leI hx (by decide)).mp (nI_0 ▸ h))) (fun h => kf (fun q => h (nI_0 ▸ (nI_leI hx (by decide)).mpr q))) ht
theorem az_if_ltN {x : Nat} {off : Int} {tgt : Nat} (hdg : decode M.2.1 pc = .ok (.ifCond .lt off, 3)) (kt : x < 0 → az_W M d rc rs tgt ls st hp Q) (kf : ¬ (x < 0) → az_W M d rc rs (pc + 3) ls st hp Q) (ht : (pc : Int) + off = (tgt : Int) := by decide) (hx : x < 2 ^ 31 := by omega) : az_W M d rc rs pc ls (.int (nI x) :: st) hp Q :=
  az_if_lt hdg (fun h => kt ((nI_ltI hx (by decide)).mp (nI_0 ▸ h))) (fun h => kf (fun q => h (nI_0 ▸ (nI_ltI hx (by decide)).mpr q))) ht
theorem az_if_geN {x : Nat} {off : Int} {tgt : Nat} (hdg : decode M.2.1 pc = .ok (.ifCond .ge off, 3)) (kt : 0 ≤ x → az_W M d rc rs tgt ls st hp Q) (kf : ¬ (0 ≤ x) → az_W M d rc rs (pc + 3) ls st hp Q) (ht : (pc : Int) + off = (tgt : Int) := by decide) (hx : x < 2 ^ 31 := by omega) : az_W M d rc rs pc ls (.int (nI x) :: st) hp Q :=
  az_if_ge hdg (fun h => kt ((nI_leI (by decide) hx).mp (nI_0 ▸ h))) (fun h => kf (fun q => h (nI_0 ▸ (nI_leI (by decide) hx).mpr q))) ht
theorem az_ialdN {a n j : Nat} {f : Nat → Int32} (hdg : decode M.2.1 pc = .ok (.iaload, 1)) (ha : hp.2 a = some (az_I n f)) (kk : az_W M d rc rs (pc + 1) ls (.int (f j) :: st) hp Q) (hj : j < n := by omega) (hb : j < 2 ^ 31 := by omega) : az_W M d rc rs pc ls (.int (nI j) :: .ref a :: st) hp Q :=
  az_iald hdg ha (az_ix_nI hb) hj kk
theorem az_baldN {a n j : Nat} {f : Nat → Int32} (hdg : decode M.2.1 pc = .ok (.baload, 1)) (ha : hp.2 a = some (az_Y n f)) (kk : az_W M d rc rs (pc + 1) ls (.int (f j) :: st) hp Q) (hj : j < n := by omega) (hb : j < 2 ^ 31 := by omega) : az_W M d rc rs pc ls (.int (nI j) :: .ref a :: st) hp Q :=
  az_bald hdg ha (az_ix_nI hb) hj kk
theorem az_zaldN {a n j : Nat} {f : Nat → Int32} (hdg : decode M.2.1 pc = .ok (.baload, 1)) (ha : hp.2 a = some (az_Z n f)) (kk : az_W M d rc rs (pc + 1) ls (.int (f j) :: st) hp Q) (hj : j < n := by omega) (hb : j < 2 ^ 31 := by omega) : az_W M d rc rs pc ls (.int (nI j) :: .ref a :: st) hp Q :=
  az_zald hdg ha (az_ix_nI hb) hj kk
theorem az_laldN {a n j : Nat} {f : Nat → Int64} (hdg : decode M.2.1 pc = .ok (.laload, 1)) (ha : hp.2 a = some (az_J n f)) (kk : az_W M d rc rs (pc + 1) ls (.long (f j) :: st) hp Q) (hj : j < n := by omega) (hb : j < 2 ^ 31 := by omega) : az_W M d rc rs pc ls (.int (nI j) :: .ref a :: st) hp Q :=
  az_lald hdg ha (az_ix_nI hb) hj kk
theorem az_iastN {a n j : Nat} {f : Nat → Int32} {x : Int32} (hdg : decode M.2.1 pc = .ok (.iastore, 1)) (ha : hp.2 a = some (az_I n f)) (kk : az_W M d rc rs (pc + 1) ls st (az_up hp a (az_I n (az_s f j x))) Q) (hj : j < n := by omega) (hb : j < 2 ^ 31 := by omega) : az_W M d rc rs pc ls (.int x :: .int (nI j) :: .ref a :: st) hp Q :=
  az_iast hdg ha (az_ix_nI hb) hj kk
theorem az_bastN {a n j : Nat} {f : Nat → Int32} {x : Int32} (hdg : decode M.2.1 pc = .ok (.bastore, 1)) (ha : hp.2 a = some (az_Y n f)) (kk : az_W M d rc rs (pc + 1) ls st (az_up hp a (az_Y n (az_s f j x.toInt8.toInt32))) Q) (hj : j < n := by omega) (hb : j < 2 ^ 31 := by omega) : az_W M d rc rs pc ls (.int x :: .int (nI j) :: .ref a :: st) hp Q :=
  az_bast hdg ha (az_ix_nI hb) hj kk
theorem az_zastN {a n j : Nat} {f : Nat → Int32} {x : Int32} (hdg : decode M.2.1 pc = .ok (.bastore, 1)) (ha : hp.2 a = some (az_Z n f)) (kk : az_W M d rc rs (pc + 1) ls st (az_up hp a (az_Z n (az_s f j (x &&& 1)))) Q) (hj : j < n := by omega) (hb : j < 2 ^ 31 := by omega) : az_W M d rc rs pc ls (.int x :: .int (nI j) :: .ref a :: st) hp Q :=
  az_zast hdg ha (az_ix_nI hb) hj kk
theorem az_lastN {a n j : Nat} {f : Nat → Int64} {x : Int64} (hdg : decode M.2.1 pc = .ok (.lastore, 1)) (ha : hp.2 a = some (az_J n f)) (kk : az_W M d rc rs (pc + 1) ls st (az_up hp a (az_J n (az_s f j x))) Q) (hj : j < n := by omega) (hb : j < 2 ^ 31 := by omega) : az_W M d rc rs pc ls (.long x :: .int (nI j) :: .ref a :: st) hp Q :=
  az_last hdg ha (az_ix_nI hb) hj kk
theorem az_aaldN {a n j : Nat} {N : String} {f : Nat → Value} (hdg : decode M.2.1 pc = .ok (.aaload, 1)) (ha : hp.2 a = some (az_Q N n f)) (kk : az_W M d rc rs (pc + 1) ls (f j :: st) hp Q) (hj : j < n := by omega) (hb : j < 2 ^ 31 := by omega) : az_W M d rc rs pc ls (.int (nI j) :: .ref a :: st) hp Q :=
  az_aald hdg ha (az_ix_nI hb) hj kk
theorem az_up_eq {hp : az_Hp} {a : Nat} {c : az_C} : (az_up hp a c).2 a = some c := by simp [az_up]
theorem az_up_ne {hp : az_Hp} {a b : Nat} {c : az_C} {x : Option az_C} (h : hp.2 b = x) (hne : b ≠ a := by omega) : (az_up hp a c).2 b = x := by simp [az_up, hne, h]
theorem az_nw_eq {hp : az_Hp} {c : az_C} : (az_nw hp c).2 hp.1 = some c := by simp [az_nw]
theorem az_nw_ne {hp : az_Hp} {b : Nat} {c : az_C} {x : Option az_C} (h : hp.2 b = x) (hne : b ≠ hp.1 := by omega) : (az_nw hp c).2 b = x := by simp [az_nw, hne, h]
theorem az_up_up {hp : az_Hp} {a : Nat} {c c' : az_C} : az_up (az_up hp a c) a c' = az_up hp a c' := by
  unfold az_up
  congr 1
  funext q
  by_cases h : q = a <;> simp [h]
theorem az_up_up2 {hp : az_Hp} {a b : Nat} {c c' c2 : az_C} (hne : a ≠ b := by omega) : az_up (az_up (az_up hp a c) b c2) a c' = az_up (az_up hp a c') b c2 := by
  unfold az_up
  congr 1
  funext q
  by_cases h : q = a
  · subst h; simp [hne]
  · by_cases h2 : q = b
    · subst h2; simp [h]
    · simp [h, h2]
theorem az_up_same {hp : az_Hp} {a : Nat} {c : az_C} (h : hp.2 a = some c) : az_up hp a c = hp := by
  unfold az_up
  apply Prod.ext
  · rfl
  · funext q
    by_cases hq : q = a
    · subst hq; simp [h]
    · simp [hq]
theorem az_up_1 {hp : az_Hp} {a : Nat} {c : az_C} : (az_up hp a c).1 = hp.1 := rfl
theorem az_nw_1 {hp : az_Hp} {c : az_C} : (az_nw hp c).1 = hp.1 + 1 := rfl
theorem az_s_eq {α : Type} {f : Nat → α} {j : Nat} {x : α} : az_s f j x j = x := by simp [az_s]
theorem az_s_ne {α : Type} {f : Nat → α} {j k : Nat} {x : α} (h : k ≠ j) : az_s f j x k = f k := by simp [az_s, h]
end AZN
