/-! Town and Tray: what lies at their places, and their reads -/
/-- a town's words: tables, moon, lines, standing; stands, sizes, children; the laws -/
abbrev ln_W : Type := Nat × Nat × Nat × Nat × (Nat → Nat) × (Nat → Nat) × (Nat → Nat) × (Nat × (Nat → Int32)) × (Nat × (Nat → Int32))
abbrev ln_tb (w : ln_W) : Nat := w.1
abbrev ln_mo (w : ln_W) : Nat := w.2.1
abbrev ln_li (w : ln_W) : Nat := w.2.2.1
abbrev ln_sd (w : ln_W) : Nat := w.2.2.2.1
abbrev ln_st (w : ln_W) : Nat → Nat := w.2.2.2.2.1
abbrev ln_sz (w : ln_W) : Nat → Nat := w.2.2.2.2.2.1
abbrev ln_ch (w : ln_W) : Nat → Nat := w.2.2.2.2.2.2.1
abbrev ln_pk (w : ln_W) : Nat × (Nat → Int32) := w.2.2.2.2.2.2.2.1
abbrev ln_sl (w : ln_W) : Nat × (Nat → Int32) := w.2.2.2.2.2.2.2.2
def ln_Town (h : az_Hp) (t : Nat) (w : ln_W) : Prop := ∃ a4 a5 : Nat,
  h.2 t = some (az_O 8 [.int (nI (ln_tb w)), .int (nI (ln_mo w)), .int (nI (ln_li w)), .int (nI (ln_sd w)), .ref (t + 1), .ref (t + 2), .ref (t + 3), .ref a4, .ref a5]) ∧ h.2 (t + 1) = some (az_I 12 (fun j => nI (ln_st w j))) ∧ h.2 (t + 2) = some (az_I 18 (fun j => nI (ln_sz w j))) ∧ h.2 (t + 3) = some (az_I 72 (fun j => nI (ln_ch w j))) ∧ h.2 a4 = some (az_I (ln_pk w).1 (ln_pk w).2) ∧ h.2 a5 = some (az_I (ln_sl w).1 (ln_sl w).2)
/-- what holds of every town that is read -/
def ln_ok (w : ln_W) : Prop := 1 ≤ ln_tb w ∧ ln_tb w ≤ 3 ∧ ln_mo w ≤ 9 ∧ 1 ≤ ln_sd w ∧ ln_sd w ≤ 12 ∧ (∀ j, ln_st w j < 6) ∧ (∀ j, ln_sz w j ≤ 4) ∧ (∀ j, ln_ch w j < 6) ∧ (ln_pk w).1 ≤ 900 ∧ (ln_sl w).1 ≤ 900
set_option maxRecDepth 100000 in
theorem s_sizeOf {d t tb lt : Nat} {hp : az_Hp} {w : ln_W} {Q : Option Value → az_Hp → Prop} (hT : ln_Town hp t w) (h1 : tb < 3) (h2 : lt < 6) (hQ : Q (some (.int (nI (ln_sz w (tb * 6 + lt))))) hp) : az_M mX9_sizeOf d 0 0 [.ref t, .int (nI tb), .int (nI lt)] hp Q := by
  obtain ⟨a4, a5, hT0, hT1, hT2, hT3, hT4, hT5⟩ := hT
  refine az_M.of rfl (Nat.le_of_ble_eq_true rfl) ?_
  show az_W _ _ _ _ 0 [(0, .ref t), (1, .int (nI tb)), (2, .int (nI lt))] [] _ _
  refine az_iload_n dX9_sizeOf_0 ?_
  refine az_bipush (v := nI 6) dX9_sizeOf_1 ?_
  refine az_imulN dX9_sizeOf_3 ?_
  refine az_iload_n dX9_sizeOf_4 ?_
  refine az_iaddN dX9_sizeOf_5 ?_
  refine az_istore_n (ls' := [(0, .ref t), (1, .int (nI tb)), (2, .int (nI lt)), (3, .int (nI ((tb * 6) + lt)))]) dX9_sizeOf_6 ?_
  refine az_iload_n dX9_sizeOf_7 ?_
  refine az_if_ltN (tgt := 29) dX9_sizeOf_8 (fun c8 => ?_) (fun c8 => ?_)
  · exact absurd c8 (by omega)
  · refine az_iload_n dX9_sizeOf_11 ?_
    refine az_aload_n dX9_sizeOf_12 ?_
    refine az_getf (v := .ref (t + 2)) dX9_sizeOf_13 fl_X9_28 hT0 ?_
    refine az_alen dX9_sizeOf_16 hT2 ?_
    refine az_icmp_geN (tgt := 29) dX9_sizeOf_17 (fun c17 => ?_) (fun c17 => ?_)
    · exact absurd c17 (by omega)
    · refine az_aload_n dX9_sizeOf_20 ?_
      refine az_getf (v := .ref (t + 2)) dX9_sizeOf_21 fl_X9_28 hT0 ?_
      refine az_iload_n dX9_sizeOf_24 ?_
      refine az_ialdN (j := (tb * 6) + lt) dX9_sizeOf_25 hT2 ?_
      refine az_goto (tgt := 30) dX9_sizeOf_26 ?_
      exact az_iret dX9_sizeOf_30 (hQ)
set_option maxRecDepth 100000 in
theorem s_childOf {d t tb lt i : Nat} {hp : az_Hp} {w : ln_W} {Q : Option Value → az_Hp → Prop} (hT : ln_Town hp t w) (h1 : tb < 3) (h2 : lt < 6) (h3 : i < 4) (hQ : Q (some (.int (nI (ln_ch w ((tb * 6 + lt) * 4 + i))))) hp) : az_M mX9_childOf d 0 0 [.ref t, .int (nI tb), .int (nI lt), .int (nI i)] hp Q := by
  obtain ⟨a4, a5, hT0, hT1, hT2, hT3, hT4, hT5⟩ := hT
  refine az_M.of rfl (Nat.le_of_ble_eq_true rfl) ?_
  show az_W _ _ _ _ 0 [(0, .ref t), (1, .int (nI tb)), (2, .int (nI lt)), (3, .int (nI i))] [] _ _
  refine az_iload_n dX9_childOf_0 ?_
  refine az_bipush (v := nI 6) dX9_childOf_1 ?_
  refine az_imulN dX9_childOf_3 ?_
  refine az_iload_n dX9_childOf_4 ?_
  refine az_iaddN dX9_childOf_5 ?_
  refine az_iconst (v := nI 4) dX9_childOf_6 ?_
  refine az_imulN dX9_childOf_7 ?_
  refine az_iload_n dX9_childOf_8 ?_
  refine az_iaddN dX9_childOf_9 ?_
  refine az_istore (ls' := [(0, .ref t), (1, .int (nI tb)), (2, .int (nI lt)), (3, .int (nI i)), (4, .int (nI ((((tb * 6) + lt) * 4) + i)))]) dX9_childOf_10 ?_
  refine az_iload dX9_childOf_12 ?_
  refine az_if_ltN (tgt := 37) dX9_childOf_14 (fun c14 => ?_) (fun c14 => ?_)
  · exact absurd c14 (by omega)
  · refine az_iload dX9_childOf_17 ?_
    refine az_aload_n dX9_childOf_19 ?_
    refine az_getf (v := .ref (t + 3)) dX9_childOf_20 fl_X9_31 hT0 ?_
    refine az_alen dX9_childOf_23 hT3 ?_
    refine az_icmp_geN (tgt := 37) dX9_childOf_24 (fun c24 => ?_) (fun c24 => ?_)
    · exact absurd c24 (by omega)
    · refine az_aload_n dX9_childOf_27 ?_
      refine az_getf (v := .ref (t + 3)) dX9_childOf_28 fl_X9_31 hT0 ?_
      refine az_iload dX9_childOf_31 ?_
      refine az_ialdN (j := (((tb * 6) + lt) * 4) + i) dX9_childOf_33 hT3 ?_
      refine az_goto (tgt := 38) dX9_childOf_34 ?_
      exact az_iret dX9_childOf_38 (hQ)
/-- the kinds that a rule's first k children are, as bits -/
def ln_cb (w : ln_W) (r : Nat) : Nat → Nat
  | 0 => 0
  | k + 1 => ln_cb w r k ||| 2 ^ ln_ch w (r * 4 + k)
theorem or_lt64 {a b : Nat} (ha : a < 64) (hb : b < 64) : a ||| b < 64 := Nat.or_lt_two_pow (n := 6) ha hb
theorem two_lt64 {k : Nat} (h : k < 6) : 2 ^ k < 64 := Nat.pow_lt_pow_right (by decide) h
theorem ln_cb_lt {w : ln_W} (hw : ln_ok w) (r k : Nat) : ln_cb w r k < 64 := by
  induction k with
  | zero => exact Nat.zero_lt_succ _
  | succ k ih => exact or_lt64 ih (two_lt64 (hw.2.2.2.2.2.2.2.1 _))
set_option maxRecDepth 100000 in
theorem s_childBits {d t tb lt : Nat} {hp : az_Hp} {w : ln_W} {Q : Option Value → az_Hp → Prop} (hd : 1 ≤ d) (hT : ln_Town hp t w) (hw : ln_ok w) (h1 : tb < 3) (h2 : lt < 6) (hQ : Q (some (.int (nI (ln_cb w (tb * 6 + lt) (ln_sz w (tb * 6 + lt)))))) hp) : az_M mX9_childBits d 0 0 [.ref t, .int (nI tb), .int (nI lt)] hp Q := by
  have hs4 := hw.2.2.2.2.2.2.1 (tb * 6 + lt)
  obtain ⟨a4, a5, hT0, -⟩ := id hT
  have loop : ∀ (k : Nat) (i : Nat), ln_sz w (tb * 6 + lt) - i = k → (i ≤ ln_sz w (tb * 6 + lt)) → az_W mX9_childBits d 0 0 13 [(0, .ref t), (1, .int (nI tb)), (2, .int (nI lt)), (3, .int (nI (ln_sz w (tb * 6 + lt)))), (4, .int (nI (ln_cb w (tb * 6 + lt) i))), (5, .int (nI i))] [] hp Q := by
    intro k
    induction k using Nat.strongRecOn with
    | _ k ih =>
    intro i hk hi
    refine az_iload dX9_childBits_13 ?_
    refine az_iload_n dX9_childBits_15 ?_
    refine az_icmp_geN (tgt := 40) dX9_childBits_16 (fun c16 => ?_) (fun c16 => ?_)
    · refine az_iload dX9_childBits_40 ?_
      exact az_iret dX9_childBits_42 (by rw [show i = ln_sz w (tb * 6 + lt) by omega]; exact hQ)
    · refine az_iload dX9_childBits_19 ?_
      refine az_iconst (v := nI 1) dX9_childBits_21 ?_
      refine az_aload_n dX9_childBits_22 ?_
      refine az_iload_n dX9_childBits_23 ?_
      refine az_iload_n dX9_childBits_24 ?_
      refine az_iload dX9_childBits_25 ?_
      refine az_cV0 (st := [.int (nI 1), .int (nI (ln_cb w (tb * 6 + lt) i))]) dX9_childBits_27 ml_X9_44 hT0 (s_childOf (d := d - 1) hT h1 h2 (i := i) (by omega) ?_)
      refine az_ishl1N dX9_childBits_30 ?_ (by have := hw.2.2.2.2.2.2.2.1 ((tb * 6 + lt) * 4 + i); omega)
      refine az_iorN dX9_childBits_31 ?_
      refine az_istore (ls' := [(0, .ref t), (1, .int (nI tb)), (2, .int (nI lt)), (3, .int (nI (ln_sz w (tb * 6 + lt)))), (4, .int (nI ((ln_cb w (tb * 6 + lt) i) ||| (2 ^ (ln_ch w ((tb * 6 + lt) * 4 + i)))))), (5, .int (nI i))]) dX9_childBits_32 ?_
      refine az_iincN (n := 1) (ls' := [(0, .ref t), (1, .int (nI tb)), (2, .int (nI lt)), (3, .int (nI (ln_sz w (tb * 6 + lt)))), (4, .int (nI ((ln_cb w (tb * 6 + lt) i) ||| (2 ^ (ln_ch w ((tb * 6 + lt) * 4 + i)))))), (5, .int (nI (i + 1)))]) dX9_childBits_34 ?_
      refine az_goto (tgt := 13) dX9_childBits_37 ?_
      exact ih _ (by omega) (i + 1) rfl (by omega)
  refine az_M.of rfl (Nat.le_of_ble_eq_true rfl) ?_
  show az_W _ _ _ _ 0 [(0, .ref t), (1, .int (nI tb)), (2, .int (nI lt))] [] _ _
  refine az_aload_n dX9_childBits_0 ?_
  refine az_iload_n dX9_childBits_1 ?_
  refine az_iload_n dX9_childBits_2 ?_
  refine az_cV0 (st := []) dX9_childBits_3 ml_X9_40 hT0 (s_sizeOf (d := d - 1) hT h1 h2 ?_)
  refine az_istore_n (ls' := [(0, .ref t), (1, .int (nI tb)), (2, .int (nI lt)), (3, .int (nI (ln_sz w (tb * 6 + lt))))]) dX9_childBits_6 ?_
  refine az_iconst (v := nI 0) dX9_childBits_7 ?_
  refine az_istore (ls' := [(0, .ref t), (1, .int (nI tb)), (2, .int (nI lt)), (3, .int (nI (ln_sz w (tb * 6 + lt)))), (4, .int (nI 0))]) dX9_childBits_8 ?_
  refine az_iconst (v := nI 0) dX9_childBits_10 ?_
  refine az_istore (ls' := [(0, .ref t), (1, .int (nI tb)), (2, .int (nI lt)), (3, .int (nI (ln_sz w (tb * 6 + lt)))), (4, .int (nI 0)), (5, .int (nI 0))]) dX9_childBits_11 ?_
  exact loop _ 0 rfl (Nat.zero_le _)
