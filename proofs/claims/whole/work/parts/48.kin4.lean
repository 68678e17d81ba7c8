/-! Kin: doubles, fateOf; Town.childBitsOfAll -/
/-- of the first k children of x, how many come to x again -/
def kn_ag (w : ln_W) (f : Nat → Nat) (tb x : Nat) : Nat → Nat
  | 0 => 0
  | k + 1 => if ln_ch w ((tb * 6 + x) * 4 + k) = x then kn_ag w f tb x k + 1 else if kb f (ln_ch w ((tb * 6 + x) * 4 + k)) x = 0 then kn_ag w f tb x k else kn_ag w f tb x k + 1
theorem kn_ag_le (w : ln_W) (f : Nat → Nat) (tb x k : Nat) : kn_ag w f tb x k ≤ k := by
  induction k with
  | zero => exact Nat.le_refl _
  | succ k ih => rw [kn_ag]; (split; omega; split <;> omega)
def kn_db (w : ln_W) (f : Nat → Nat) (tb x : Nat) : Nat := if kn_ag w f tb x (ln_sz w (tb * 6 + x)) < 2 then 0 else 1
theorem kn_db_le (w : ln_W) (f : Nat → Nat) (tb x : Nat) : kn_db w f tb x ≤ 1 := by unfold kn_db; split <;> omega
set_option maxRecDepth 100000 in
theorem s_doubles {d q t tb x : Nat} {f : Nat → Nat} {w : ln_W} {hp : az_Hp} {Q : Option Value → az_Hp → Prop} (hd : 1 ≤ d) (hw : ln_ok w) (hT : ln_Town hp t w) (h3 : tb < 3) (hx : x < 6) (h0 : hp.2 q = some (az_O 2 [.ref (q + 1), .ref (q + 2)])) (h1 : hp.2 (q + 1) = some (az_I 6 (fun j => nI (f j)))) (hf : ∀ y, f y < 64) (hQ : Q (some (.int (nI (kn_db w f tb x)))) hp) : az_M mX2_doubles d 0 0 [.ref q, .ref t, .int (nI tb), .int (nI x)] hp Q := by
  obtain ⟨a4, a5, hT0, -⟩ := id hT
  have hsz : ln_sz w (tb * 6 + x) ≤ 4 := hw.2.2.2.2.2.2.1 _
  have hch : ∀ j, ln_ch w j < 6 := hw.2.2.2.2.2.2.2.1
  have loop : ∀ (k : Nat) (i : Nat), ln_sz w (tb * 6 + x) - i = k → (i ≤ ln_sz w (tb * 6 + x)) → az_W mX2_doubles d 0 0 14 [(0, .ref q), (1, .ref t), (2, .int (nI tb)), (3, .int (nI x)), (4, .int (nI (ln_sz w (tb * 6 + x)))), (5, .int (nI (kn_ag w f tb x i))), (6, .int (nI i))] [] hp Q := by
    intro k
    induction k using Nat.strongRecOn with
    | _ k ih =>
    intro i hk h6
    refine az_iload dX2_doubles_14 ?_
    refine az_iload dX2_doubles_16 ?_
    refine az_icmp_geN (tgt := 56) dX2_doubles_18 (fun c18 => ?_) (fun c18 => ?_)
    · have hi6 : i = ln_sz w (tb * 6 + x) := by omega
      refine az_iload dX2_doubles_56 ?_
      refine az_iconst (v := nI 2) dX2_doubles_58 ?_
      have hag := kn_ag_le w f tb x i
      refine az_icmp_ltN (tgt := 66) dX2_doubles_59 (fun c59 => ?_) (fun c59 => ?_)
      · refine az_iconst (v := nI 0) dX2_doubles_66 ?_
        exact az_iret dX2_doubles_67 (by first | (rw [kn_db, ← hi6, if_pos c59] at hQ; exact hQ) | (rw [kn_db, ← hi6, if_neg c59] at hQ; exact hQ))
      · refine az_iconst (v := nI 1) dX2_doubles_62 ?_
        refine az_goto (tgt := 67) dX2_doubles_63 ?_
        exact az_iret dX2_doubles_67 (by first | (rw [kn_db, ← hi6, if_pos c59] at hQ; exact hQ) | (rw [kn_db, ← hi6, if_neg c59] at hQ; exact hQ))
    · refine az_aload_n dX2_doubles_21 ?_
      refine az_iload_n dX2_doubles_22 ?_
      refine az_iload_n dX2_doubles_23 ?_
      refine az_iload dX2_doubles_24 ?_
      refine az_cV0 (st := []) dX2_doubles_26 ml_X2_56 hT0 (s_childOf (d := d - 1) hT h3 hx (i := i) (by omega) ?_)
      have hc6 := hch ((tb * 6 + x) * 4 + i)
      refine az_istore (ls' := [(0, .ref q), (1, .ref t), (2, .int (nI tb)), (3, .int (nI x)), (4, .int (nI (ln_sz w (tb * 6 + x)))), (5, .int (nI (kn_ag w f tb x i))), (6, .int (nI i)), (7, .int (nI (ln_ch w ((tb * 6 + x) * 4 + i))))]) dX2_doubles_29 ?_
      refine az_iload dX2_doubles_31 ?_
      refine az_iload_n dX2_doubles_33 ?_
      refine az_icmp_eqN (tgt := 47) dX2_doubles_34 (fun c34 => ?_) (fun c34 => ?_)
      · have hag := kn_ag_le w f tb x i
        refine az_iincN (n := 1) (ls' := [(0, .ref q), (1, .ref t), (2, .int (nI tb)), (3, .int (nI x)), (4, .int (nI (ln_sz w (tb * 6 + x)))), (5, .int (nI (kn_ag w f tb x i + 1))), (6, .int (nI i)), (7, .int (nI (ln_ch w ((tb * 6 + x) * 4 + i))))]) dX2_doubles_47 ?_
        refine az_iincN (n := 1) (ls' := [(0, .ref q), (1, .ref t), (2, .int (nI tb)), (3, .int (nI x)), (4, .int (nI (ln_sz w (tb * 6 + x)))), (5, .int (nI (kn_ag w f tb x i + 1))), (6, .int (nI (i + 1))), (7, .int (nI (ln_ch w ((tb * 6 + x) * 4 + i))))]) dX2_doubles_50 ?_
        refine az_goto (tgt := 14) dX2_doubles_53 ?_
        refine az_W.keep (ls' := [(0, .ref q), (1, .ref t), (2, .int (nI tb)), (3, .int (nI x)), (4, .int (nI (ln_sz w (tb * 6 + x)))), (5, .int (nI (kn_ag w f tb x i + 1))), (6, .int (nI (i + 1)))]) [0, 1, 2, 3, 4, 5, 6] rfl ?_
        have hstep : kn_ag w f tb x (i + 1) = (kn_ag w f tb x i + 1) := by first | (rw [kn_ag, if_pos c34]) | (rw [kn_ag, if_neg c34, if_pos c44]) | (rw [kn_ag, if_neg c34, if_neg c44])
        rw [← hstep]
        exact ih _ (by omega) (i + 1) rfl (by omega)
      · refine az_aload_n dX2_doubles_37 ?_
        refine az_iload dX2_doubles_38 ?_
        refine az_iload_n dX2_doubles_40 ?_
        refine az_cV0 (st := []) dX2_doubles_41 ml_X2_24 h0 (s_reaches (d := d - 1) h0 h1 (hf _) (x := ln_ch w ((tb * 6 + x) * 4 + i)) (by omega) hx ?_)
        have hkb := kb_le f (ln_ch w ((tb * 6 + x) * 4 + i)) x
        refine az_if_eqN (tgt := 50) dX2_doubles_44 (fun c44 => ?_) (fun c44 => ?_)
        · refine az_iincN (n := 1) (ls' := [(0, .ref q), (1, .ref t), (2, .int (nI tb)), (3, .int (nI x)), (4, .int (nI (ln_sz w (tb * 6 + x)))), (5, .int (nI (kn_ag w f tb x i))), (6, .int (nI (i + 1))), (7, .int (nI (ln_ch w ((tb * 6 + x) * 4 + i))))]) dX2_doubles_50 ?_
          refine az_goto (tgt := 14) dX2_doubles_53 ?_
          refine az_W.keep (ls' := [(0, .ref q), (1, .ref t), (2, .int (nI tb)), (3, .int (nI x)), (4, .int (nI (ln_sz w (tb * 6 + x)))), (5, .int (nI (kn_ag w f tb x i))), (6, .int (nI (i + 1)))]) [0, 1, 2, 3, 4, 5, 6] rfl ?_
          have hstep : kn_ag w f tb x (i + 1) = (kn_ag w f tb x i) := by first | (rw [kn_ag, if_pos c34]) | (rw [kn_ag, if_neg c34, if_pos c44]) | (rw [kn_ag, if_neg c34, if_neg c44])
          rw [← hstep]
          exact ih _ (by omega) (i + 1) rfl (by omega)
        · have hag := kn_ag_le w f tb x i
          refine az_iincN (n := 1) (ls' := [(0, .ref q), (1, .ref t), (2, .int (nI tb)), (3, .int (nI x)), (4, .int (nI (ln_sz w (tb * 6 + x)))), (5, .int (nI (kn_ag w f tb x i + 1))), (6, .int (nI i)), (7, .int (nI (ln_ch w ((tb * 6 + x) * 4 + i))))]) dX2_doubles_47 ?_
          refine az_iincN (n := 1) (ls' := [(0, .ref q), (1, .ref t), (2, .int (nI tb)), (3, .int (nI x)), (4, .int (nI (ln_sz w (tb * 6 + x)))), (5, .int (nI (kn_ag w f tb x i + 1))), (6, .int (nI (i + 1))), (7, .int (nI (ln_ch w ((tb * 6 + x) * 4 + i))))]) dX2_doubles_50 ?_
          refine az_goto (tgt := 14) dX2_doubles_53 ?_
          refine az_W.keep (ls' := [(0, .ref q), (1, .ref t), (2, .int (nI tb)), (3, .int (nI x)), (4, .int (nI (ln_sz w (tb * 6 + x)))), (5, .int (nI (kn_ag w f tb x i + 1))), (6, .int (nI (i + 1)))]) [0, 1, 2, 3, 4, 5, 6] rfl ?_
          have hstep : kn_ag w f tb x (i + 1) = (kn_ag w f tb x i + 1) := by first | (rw [kn_ag, if_pos c34]) | (rw [kn_ag, if_neg c34, if_pos c44]) | (rw [kn_ag, if_neg c34, if_neg c44])
          rw [← hstep]
          exact ih _ (by omega) (i + 1) rfl (by omega)
  refine az_M.of rfl (Nat.le_of_ble_eq_true rfl) ?_
  show az_W _ _ _ _ 0 [(0, .ref q), (1, .ref t), (2, .int (nI tb)), (3, .int (nI x))] [] _ _
  refine az_aload_n dX2_doubles_0 ?_
  refine az_iload_n dX2_doubles_1 ?_
  refine az_iload_n dX2_doubles_2 ?_
  refine az_cV0 (st := []) dX2_doubles_3 ml_X2_53 hT0 (s_sizeOf (d := d - 1) hT h3 hx ?_)
  refine az_istore (ls' := [(0, .ref q), (1, .ref t), (2, .int (nI tb)), (3, .int (nI x)), (4, .int (nI (ln_sz w (tb * 6 + x))))]) dX2_doubles_6 ?_
  refine az_iconst (v := nI 0) dX2_doubles_8 ?_
  refine az_istore (ls' := [(0, .ref q), (1, .ref t), (2, .int (nI tb)), (3, .int (nI x)), (4, .int (nI (ln_sz w (tb * 6 + x)))), (5, .int (nI 0))]) dX2_doubles_9 ?_
  refine az_iconst (v := nI 0) dX2_doubles_11 ?_
  refine az_istore (ls' := [(0, .ref q), (1, .ref t), (2, .int (nI tb)), (3, .int (nI x)), (4, .int (nI (ln_sz w (tb * 6 + x)))), (5, .int (nI 0)), (6, .int (nI 0))]) dX2_doubles_12 ?_
  exact loop _ 0 rfl (Nat.zero_le _)
/-- is one of x and those it comes to, below k, doubled -/
def kn_an (w : ln_W) (f : Nat → Nat) (tb x : Nat) : Nat → Nat
  | 0 => 0
  | k + 1 => if kn_an w f tb x k = 1 then 1 else if k = x ∨ kb f x k = 1 then kn_db w f tb k else 0
def kn_ft (w : ln_W) (f c : Nat → Nat) (tb x : Nat) : Nat := if kn_cf f c x 6 = 0 then 0 else if kn_an w f tb x 6 = 1 then 3 else if kn_cf f c x 6 = 1 then 1 else 2
theorem kn_an_mono {w : ln_W} {f : Nat → Nat} {tb x k : Nat} (h : kn_an w f tb x k = 1) : ∀ {n : Nat}, k ≤ n → kn_an w f tb x n = 1 := by
  intro n hn
  induction n with
  | zero => rw [show k = 0 by omega] at h; exact h
  | succ n ih =>
    by_cases e : k = n + 1
    · rw [← e]; exact h
    · rw [kn_an, if_pos (ih (by omega))]
theorem kb_01 {f : Nat → Nat} {x y : Nat} (h : ¬ kb f x y = 0) : kb f x y = 1 := by have := kb_le f x y; omega
theorem kn_db_01 {w : ln_W} {f : Nat → Nat} {tb x : Nat} (h : ¬ kn_db w f tb x = 0) : kn_db w f tb x = 1 := by have := kn_db_le w f tb x; omega
set_option maxRecDepth 100000 in
theorem s_fateOf {d q t tb x m : Nat} {f c : Nat → Nat} {w : ln_W} {hp : az_Hp} {Q : Option Value → az_Hp → Prop} (hd : 2 ≤ d) (hw : ln_ok w) (hT : ln_Town hp t w) (h3 : tb < 3) (hx : x < 6) (h0 : hp.2 q = some (az_O 2 [.ref (q + 1), .ref (q + 2)])) (h1 : hp.2 (q + 1) = some (az_I 6 (fun j => nI (f j)))) (h2 : hp.2 (q + 2) = some (az_I 6 (fun j => nI (c j)))) (hf : ∀ y, f y < 64) (hc : ∀ y, c y ≤ m) (hm : m < 2 ^ 30) (hQ : Q (some (.int (nI (kn_ft w f c tb x)))) hp) : az_M mX2_fateOf d 0 0 [.ref q, .ref t, .int (nI tb), .int (nI x)] hp Q := by
  have hcf := kn_cf_le (f := f) (x := x) hc 6
  have loop : ∀ (k : Nat) (y : Nat) (hne : ¬ kn_cf f c x 6 = 0), 6 - y = k → (y ≤ 6) → (kn_an w f tb x y = 0) → az_W mX2_fateOf d 0 0 17 [(0, .ref q), (1, .ref t), (2, .int (nI tb)), (3, .int (nI x)), (4, .int (nI (kn_cf f c x 6))), (5, .int (nI y))] [] hp Q := by
    intro k
    induction k using Nat.strongRecOn with
    | _ k ih =>
    intro y hne hk h6 han
    refine az_iload dX2_fateOf_17 ?_
    refine az_bipush (v := nI 6) dX2_fateOf_19 ?_
    refine az_icmp_geN (tgt := 59) dX2_fateOf_21 (fun c21 => ?_) (fun c21 => ?_)
    · refine az_iload dX2_fateOf_59 ?_
      refine az_iconst (v := nI 1) dX2_fateOf_61 ?_
      refine az_icmp_neN (tgt := 69) dX2_fateOf_62 (fun c62 => ?_) (fun c62 => ?_)
      · refine az_iconst (v := nI 2) dX2_fateOf_69 ?_
        exact az_iret dX2_fateOf_70 (by first | (rw [kn_ft, if_neg hne, if_neg (by rw [show (6 : Nat) = y by omega]; omega), if_pos c62] at hQ; exact hQ) | (rw [kn_ft, if_neg hne, if_neg (by rw [show (6 : Nat) = y by omega]; omega), if_neg c62] at hQ; exact hQ))
      · refine az_iconst (v := nI 1) dX2_fateOf_65 ?_
        refine az_goto (tgt := 70) dX2_fateOf_66 ?_
        exact az_iret dX2_fateOf_70 (by first | (rw [kn_ft, if_neg hne, if_neg (by rw [show (6 : Nat) = y by omega]; omega), if_pos c62] at hQ; exact hQ) | (rw [kn_ft, if_neg hne, if_neg (by rw [show (6 : Nat) = y by omega]; omega), if_neg c62] at hQ; exact hQ))
    · refine az_iload dX2_fateOf_24 ?_
      refine az_iload_n dX2_fateOf_26 ?_
      refine az_icmp_eqN (tgt := 40) dX2_fateOf_27 (fun c27 => ?_) (fun c27 => ?_)
      · refine az_aload_n dX2_fateOf_40 ?_
        refine az_aload_n dX2_fateOf_41 ?_
        refine az_iload_n dX2_fateOf_42 ?_
        refine az_iload dX2_fateOf_43 ?_
        refine az_cV0 (st := []) dX2_fateOf_45 ml_X2_49 h0 (s_doubles (d := d - 1) (by omega) hw hT h3 (x := y) (by omega) h0 h1 hf ?_)
        have hdb := kn_db_le w f tb y
        refine az_if_eqN (tgt := 53) dX2_fateOf_48 (fun c48 => ?_) (fun c48 => ?_)
        · refine az_iincN (n := 1) (ls' := [(0, .ref q), (1, .ref t), (2, .int (nI tb)), (3, .int (nI x)), (4, .int (nI (kn_cf f c x 6))), (5, .int (nI (y + 1)))]) dX2_fateOf_53 ?_
          refine az_goto (tgt := 17) dX2_fateOf_56 ?_
          exact ih _ (by omega) (y + 1) hne rfl (by omega) (by first | (rw [kn_an, if_neg (by omega), if_pos (Or.inl c27)]; exact c48) | (rw [kn_an, if_neg (by omega), if_pos (Or.inr (kb_01 c37))]; exact c48) | (rw [kn_an, if_neg (by omega), if_neg (fun e => e.elim c27 (by omega))]))
        · refine az_iconst (v := nI 3) dX2_fateOf_51 ?_
          exact az_iret dX2_fateOf_52 (by rw [kn_ft, if_neg hne, if_pos (kn_an_mono (k := y + 1) (by first | (rw [kn_an, if_neg (by omega), if_pos (Or.inl c27)]; exact kn_db_01 c48) | (rw [kn_an, if_neg (by omega), if_pos (Or.inr (kb_01 c37))]; exact kn_db_01 c48)) (by omega))] at hQ; exact hQ)
      · refine az_aload_n dX2_fateOf_30 ?_
        refine az_iload_n dX2_fateOf_31 ?_
        refine az_iload dX2_fateOf_32 ?_
        refine az_cV0 (st := []) dX2_fateOf_34 ml_X2_24 h0 (s_reaches (d := d - 1) h0 h1 (hf _) hx (y := y) (by omega) ?_)
        have hkb := kb_le f x y
        refine az_if_eqN (tgt := 53) dX2_fateOf_37 (fun c37 => ?_) (fun c37 => ?_)
        · refine az_iincN (n := 1) (ls' := [(0, .ref q), (1, .ref t), (2, .int (nI tb)), (3, .int (nI x)), (4, .int (nI (kn_cf f c x 6))), (5, .int (nI (y + 1)))]) dX2_fateOf_53 ?_
          refine az_goto (tgt := 17) dX2_fateOf_56 ?_
          exact ih _ (by omega) (y + 1) hne rfl (by omega) (by first | (rw [kn_an, if_neg (by omega), if_pos (Or.inl c27)]; exact c48) | (rw [kn_an, if_neg (by omega), if_pos (Or.inr (kb_01 c37))]; exact c48) | (rw [kn_an, if_neg (by omega), if_neg (fun e => e.elim c27 (by omega))]))
        · refine az_aload_n dX2_fateOf_40 ?_
          refine az_aload_n dX2_fateOf_41 ?_
          refine az_iload_n dX2_fateOf_42 ?_
          refine az_iload dX2_fateOf_43 ?_
          refine az_cV0 (st := []) dX2_fateOf_45 ml_X2_49 h0 (s_doubles (d := d - 1) (by omega) hw hT h3 (x := y) (by omega) h0 h1 hf ?_)
          have hdb := kn_db_le w f tb y
          refine az_if_eqN (tgt := 53) dX2_fateOf_48 (fun c48 => ?_) (fun c48 => ?_)
          · refine az_iincN (n := 1) (ls' := [(0, .ref q), (1, .ref t), (2, .int (nI tb)), (3, .int (nI x)), (4, .int (nI (kn_cf f c x 6))), (5, .int (nI (y + 1)))]) dX2_fateOf_53 ?_
            refine az_goto (tgt := 17) dX2_fateOf_56 ?_
            exact ih _ (by omega) (y + 1) hne rfl (by omega) (by first | (rw [kn_an, if_neg (by omega), if_pos (Or.inl c27)]; exact c48) | (rw [kn_an, if_neg (by omega), if_pos (Or.inr (kb_01 c37))]; exact c48) | (rw [kn_an, if_neg (by omega), if_neg (fun e => e.elim c27 (by omega))]))
          · refine az_iconst (v := nI 3) dX2_fateOf_51 ?_
            exact az_iret dX2_fateOf_52 (by rw [kn_ft, if_neg hne, if_pos (kn_an_mono (k := y + 1) (by first | (rw [kn_an, if_neg (by omega), if_pos (Or.inl c27)]; exact kn_db_01 c48) | (rw [kn_an, if_neg (by omega), if_pos (Or.inr (kb_01 c37))]; exact kn_db_01 c48)) (by omega))] at hQ; exact hQ)
  refine az_M.of rfl (Nat.le_of_ble_eq_true rfl) ?_
  show az_W _ _ _ _ 0 [(0, .ref q), (1, .ref t), (2, .int (nI tb)), (3, .int (nI x))] [] _ _
  refine az_aload_n dX2_fateOf_0 ?_
  refine az_iload_n dX2_fateOf_1 ?_
  refine az_cV0 (st := []) dX2_fateOf_2 ml_X2_46 h0 (s_chainFrom (d := d - 1) (by omega) h0 h1 h2 hf hx hc hm ?_)
  refine az_istore (ls' := [(0, .ref q), (1, .ref t), (2, .int (nI tb)), (3, .int (nI x)), (4, .int (nI (kn_cf f c x 6)))]) dX2_fateOf_5 ?_
  refine az_iload dX2_fateOf_7 ?_
  refine az_if_neN (tgt := 14) dX2_fateOf_9 (fun c9 => ?_) (fun c9 => ?_)
  · refine az_iconst (v := nI 0) dX2_fateOf_14 ?_
    refine az_istore (ls' := [(0, .ref q), (1, .ref t), (2, .int (nI tb)), (3, .int (nI x)), (4, .int (nI (kn_cf f c x 6))), (5, .int (nI 0))]) dX2_fateOf_15 ?_
    exact loop _ 0 c9 rfl (Nat.zero_le _) rfl
  · refine az_iconst (v := nI 0) dX2_fateOf_12 ?_
    exact az_iret dX2_fateOf_13 (by rw [kn_ft, if_pos c9] at hQ; exact hQ)
/-- the children of all letters of a set, below k -/
def ln_ca (w : ln_W) (tb s : Nat) : Nat → Nat
  | 0 => 0
  | k + 1 => if s >>> k &&& 1 = 0 then ln_ca w tb s k else ln_ca w tb s k ||| ln_cb w (tb * 6 + k) (ln_sz w (tb * 6 + k))
theorem ln_ca_lt {w : ln_W} (hw : ln_ok w) (tb s k : Nat) : ln_ca w tb s k < 64 := by
  induction k with
  | zero => exact (by decide : (0 : Nat) < 64)
  | succ k ih =>
    rw [ln_ca]
    split
    · exact ih
    · exact or_lt64 ih (ln_cb_lt hw _ _)
set_option maxRecDepth 100000 in
theorem s_childBitsOfAll {d t tb s : Nat} {w : ln_W} {hp : az_Hp} {Q : Option Value → az_Hp → Prop} (hd : 2 ≤ d) (hw : ln_ok w) (hT : ln_Town hp t w) (h3 : tb < 3) (hs : s < 64) (hQ : Q (some (.int (nI (ln_ca w tb s 6)))) hp) : az_M mX9_childBitsOfAll d 0 0 [.ref t, .int (nI tb), .int (nI s)] hp Q := by
  obtain ⟨a4, a5, hT0, -⟩ := id hT
  have loop : ∀ (k : Nat) (y : Nat), 6 - y = k → (y ≤ 6) → az_W mX9_childBitsOfAll d 0 0 5 [(0, .ref t), (1, .int (nI tb)), (2, .int (nI s)), (3, .int (nI (ln_ca w tb s y))), (4, .int (nI y))] [] hp Q := by
    intro k
    induction k using Nat.strongRecOn with
    | _ k ih =>
    intro y hk h6
    refine az_iload dX9_childBitsOfAll_5 ?_
    refine az_bipush (v := nI 6) dX9_childBitsOfAll_7 ?_
    refine az_icmp_geN (tgt := 37) dX9_childBitsOfAll_9 (fun c9 => ?_) (fun c9 => ?_)
    · refine az_iload_n dX9_childBitsOfAll_37 ?_
      exact az_iret dX9_childBitsOfAll_38 (by rw [show y = 6 by omega]; exact hQ)
    · refine az_iload_n dX9_childBitsOfAll_12 ?_
      refine az_iload dX9_childBitsOfAll_13 ?_
      refine az_ishrN dX9_childBitsOfAll_15 ?_
      refine az_iconst (v := nI 1) dX9_childBitsOfAll_16 ?_
      refine az_iandN dX9_childBitsOfAll_17 ?_
      have hs1 : s >>> y &&& 1 ≤ 1 := Nat.and_le_right
      refine az_if_eqN (tgt := 31) dX9_childBitsOfAll_18 (fun c18 => ?_) (fun c18 => ?_)
      · refine az_iincN (n := 1) (ls' := [(0, .ref t), (1, .int (nI tb)), (2, .int (nI s)), (3, .int (nI (ln_ca w tb s y))), (4, .int (nI (y + 1)))]) dX9_childBitsOfAll_31 ?_
        refine az_goto (tgt := 5) dX9_childBitsOfAll_34 ?_
        have hstep : ln_ca w tb s (y + 1) = (ln_ca w tb s y) := by first | (rw [ln_ca, if_pos c18]) | (rw [ln_ca, if_neg c18])
        rw [← hstep]
        exact ih _ (by omega) (y + 1) rfl (by omega)
      · refine az_iload_n dX9_childBitsOfAll_21 ?_
        refine az_aload_n dX9_childBitsOfAll_22 ?_
        refine az_iload_n dX9_childBitsOfAll_23 ?_
        refine az_iload dX9_childBitsOfAll_24 ?_
        refine az_cV0 (st := [.int (nI (ln_ca w tb s y))]) dX9_childBitsOfAll_26 ml_X9_48 hT0 (s_childBits (d := d - 1) (by omega) hT hw h3 (lt := y) (by omega) ?_)
        have hcb := ln_cb_lt hw (tb * 6 + y) (ln_sz w (tb * 6 + y))
        have hca := ln_ca_lt hw tb s y
        refine az_iorN dX9_childBitsOfAll_29 ?_
        refine az_istore_n (ls' := [(0, .ref t), (1, .int (nI tb)), (2, .int (nI s)), (3, .int (nI ((ln_ca w tb s y) ||| (ln_cb w (tb * 6 + y) (ln_sz w (tb * 6 + y)))))), (4, .int (nI y))]) dX9_childBitsOfAll_30 ?_
        refine az_iincN (n := 1) (ls' := [(0, .ref t), (1, .int (nI tb)), (2, .int (nI s)), (3, .int (nI ((ln_ca w tb s y) ||| (ln_cb w (tb * 6 + y) (ln_sz w (tb * 6 + y)))))), (4, .int (nI (y + 1)))]) dX9_childBitsOfAll_31 ?_
        refine az_goto (tgt := 5) dX9_childBitsOfAll_34 ?_
        have hstep : ln_ca w tb s (y + 1) = ((ln_ca w tb s y) ||| (ln_cb w (tb * 6 + y) (ln_sz w (tb * 6 + y)))) := by first | (rw [ln_ca, if_pos c18]) | (rw [ln_ca, if_neg c18])
        rw [← hstep]
        exact ih _ (by omega) (y + 1) rfl (by omega)
  refine az_M.of rfl (Nat.le_of_ble_eq_true rfl) ?_
  show az_W _ _ _ _ 0 [(0, .ref t), (1, .int (nI tb)), (2, .int (nI s))] [] _ _
  refine az_iconst (v := nI 0) dX9_childBitsOfAll_0 ?_
  refine az_istore_n (ls' := [(0, .ref t), (1, .int (nI tb)), (2, .int (nI s)), (3, .int (nI 0))]) dX9_childBitsOfAll_1 ?_
  refine az_iconst (v := nI 0) dX9_childBitsOfAll_2 ?_
  refine az_istore (ls' := [(0, .ref t), (1, .int (nI tb)), (2, .int (nI s)), (3, .int (nI 0)), (4, .int (nI 0))]) dX9_childBitsOfAll_3 ?_
  exact loop _ 0 rfl (Nat.zero_le _)
