/-! Town and Tray: what lies at their places, and their reads -/
/-- a town's words: tables, moon, lines, standing; stands, sizes, children; the laws -/
abbrev ln_W : Type := Nat × Nat × Nat × Nat × (Nat → Nat) × (Nat → Nat) × (Nat → Nat) × (Nat × (Nat → Int32)) × (Nat × (Nat → Int32))
abbrev ln_tb (w : ln_W) : Nat := w.1
abbrev ln_mo (w : ln_W) : Nat := w.2.1
abbrev ln_li (w : ln_W) : Nat := w.2.2.1
abbrev ln_sd (w : ln_W) : Nat := w.2.2.2.1
abbrev ln_st (w : ln_W) : Nat → Nat := w.2.2.2.2.1
abbrev ln_sz (w : ln_W) : Nat → Nat := w.2.2.2.2.2.1
abbrev ln_ch (w : ln_W) : Nat → Nat := w.2.2.2.2.2.2.1
abbrev ln_pk (w : ln_W) : Nat × (Nat → Int32) := w.2.2.2.2.2.2.2.1
abbrev ln_sl (w : ln_W) : Nat × (Nat → Int32) := w.2.2.2.2.2.2.2.2
def ln_Town (h : az_Hp) (t : Nat) (w : ln_W) : Prop := ∃ a4 a5 : Nat,
  h.2 t = some (az_O 8 [.int (nI (ln_tb w)), .int (nI (ln_mo w)), .int (nI (ln_li w)), .int (nI (ln_sd w)), .ref (t + 1), .ref (t + 2), .ref (t + 3), .ref a4, .ref a5]) ∧ h.2 (t + 1) = some (az_I 12 (fun j => nI (ln_st w j))) ∧ h.2 (t + 2) = some (az_I 18 (fun j => nI (ln_sz w j))) ∧ h.2 (t + 3) = some (az_I 72 (fun j => nI (ln_ch w j))) ∧ h.2 a4 = some (az_I (ln_pk w).1 (ln_pk w).2) ∧ h.2 a5 = some (az_I (ln_sl w).1 (ln_sl w).2)
/-- what holds of every town that is read -/
def ln_ok (w : ln_W) : Prop := 1 ≤ ln_tb w ∧ ln_tb w ≤ 3 ∧ ln_mo w ≤ 9 ∧ 1 ≤ ln_sd w ∧ ln_sd w ≤ 12 ∧ (∀ j, ln_st w j < 6) ∧ (∀ j, ln_sz w j ≤ 4) ∧ (∀ j, ln_ch w j < 6) ∧ (ln_pk w).1 ≤ 900 ∧ (ln_sl w).1 ≤ 900
set_option maxRecDepth 100000 in
theorem s_sizeOf {d t tb lt : Nat} {hp : az_Hp} {w : ln_W} (hT : ln_Town hp t w) (h1 : tb < 3) (h2 : lt < 6) : az_M mX9_sizeOf d 0 0 [.ref t, .int (nI tb), .int (nI lt)] hp (fun v h => v = some (.int (nI (ln_sz w (tb * 6 + lt)))) ∧ h = hp) := by
  obtain ⟨a4, a5, hT0, hT1, hT2, hT3, hT4, hT5⟩ := hT
  refine az_M.of rfl (Nat.le_of_ble_eq_true rfl) ?_
  show az_W _ _ _ _ 0 [(0, .ref t), (1, .int (nI tb)), (2, .int (nI lt))] [] _ _
  refine az_iload_n dX9_sizeOf_0 ?_
  refine az_bipush (v := nI 6) dX9_sizeOf_1 ?_
  refine az_imulN dX9_sizeOf_3 ?_
  refine az_iload_n dX9_sizeOf_4 ?_
  refine az_iaddN dX9_sizeOf_5 ?_
  refine az_istore_n (ls' := [(0, .ref t), (1, .int (nI tb)), (2, .int (nI lt)), (3, .int (nI ((tb * 6) + lt)))]) dX9_sizeOf_6 ?_
  refine az_iload_n dX9_sizeOf_7 ?_
  refine az_if_ltN (tgt := 29) dX9_sizeOf_8 (fun c8 => ?_) (fun c8 => ?_)
  · exact absurd c8 (by omega)
  · refine az_iload_n dX9_sizeOf_11 ?_
    refine az_aload_n dX9_sizeOf_12 ?_
    refine az_getf (v := .ref (t + 2)) dX9_sizeOf_13 fl_X9_28 hT0 ?_
    refine az_alen dX9_sizeOf_16 hT2 ?_
    refine az_icmp_geN (tgt := 29) dX9_sizeOf_17 (fun c17 => ?_) (fun c17 => ?_)
    · exact absurd c17 (by omega)
    · refine az_aload_n dX9_sizeOf_20 ?_
      refine az_getf (v := .ref (t + 2)) dX9_sizeOf_21 fl_X9_28 hT0 ?_
      refine az_iload_n dX9_sizeOf_24 ?_
      refine az_ialdN (j := (tb * 6) + lt) dX9_sizeOf_25 hT2 ?_
      refine az_goto (tgt := 30) dX9_sizeOf_26 ?_
      exact az_iret dX9_sizeOf_30 (⟨rfl, rfl⟩)
