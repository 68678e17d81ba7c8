/-! Tray -/
def ln_cut (so : Nat) (v : Int64) : Int64 := if so = 0 then v.toInt32.toInt8.toInt32.toInt64 else if so = 1 then v.toInt32.toInt16.toInt32.toInt64 else if so = 2 then v.toInt32.toInt64 else v
/-- a tray at r: missing, or its sort and its numbers -/
def ln_Tray (h : az_Hp) (r : Nat) (tr : Option (Nat × List Int64)) : Prop := match tr with
  | none => ∃ (so : Int32) (f : Nat → Int64), h.2 r = some (az_O 9 [.int (-1), .int so, .ref (r + 1)]) ∧ h.2 (r + 1) = some (az_J 40 f)
  | some x => x.2.length ≤ 40 ∧ x.1 ≤ 3 ∧ ∃ f : Nat → Int64, h.2 r = some (az_O 9 [.int (nI x.2.length), .int (nI x.1), .ref (r + 1)]) ∧ h.2 (r + 1) = some (az_J 40 f) ∧ ∀ i, i < x.2.length → f i = x.2.getD i 0
set_option maxRecDepth 100000 in
theorem s_missing0 {d r : Nat} {hp : az_Hp} {Q : Option Value → az_Hp → Prop} (hR : ln_Tray hp r none) (hQ : Q (some (.int (nI 1))) hp) : az_M mX10_missing d 0 0 [.ref r] hp Q := by
  obtain ⟨so, f, h0, h1⟩ := hR
  refine az_M.of rfl (Nat.le_of_ble_eq_true rfl) ?_
  show az_W _ _ _ _ 0 [(0, .ref r)] [] _ _
  refine az_aload_n dX10_missing_0 ?_
  refine az_getf (v := .int ((-1))) dX10_missing_1 fl_X10_9 h0 ?_
  refine az_iconst (v := (-1)) dX10_missing_4 ?_
  refine az_icmp_ne (tgt := 12) dX10_missing_5 (fun c5 => ?_) (fun c5 => ?_)
  · exact absurd rfl c5
  · refine az_iconst (v := nI 1) dX10_missing_8 ?_
    refine az_goto (tgt := 13) dX10_missing_9 ?_
    exact az_iret dX10_missing_13 (hQ)
set_option maxRecDepth 100000 in
theorem s_missing1 {d r : Nat} {x : Nat × List Int64} {hp : az_Hp} {Q : Option Value → az_Hp → Prop} (hR : ln_Tray hp r (some x)) (hQ : Q (some (.int (nI 0))) hp) : az_M mX10_missing d 0 0 [.ref r] hp Q := by
  obtain ⟨hl, hs, f, h0, h1, hf⟩ := hR
  have hne : ¬ nI x.2.length = (-1) := by
    intro q
    have := congrArg Int32.toInt q
    rw [nI_toInt (by omega)] at this
    have h9 : (-1 : Int32).toInt = -1 := by decide
    omega
  refine az_M.of rfl (Nat.le_of_ble_eq_true rfl) ?_
  show az_W _ _ _ _ 0 [(0, .ref r)] [] _ _
  refine az_aload_n dX10_missing_0 ?_
  refine az_getf (v := .int (nI x.2.length)) dX10_missing_1 fl_X10_9 h0 ?_
  refine az_iconst (v := (-1)) dX10_missing_4 ?_
  refine az_icmp_ne (tgt := 12) dX10_missing_5 (fun c5 => ?_) (fun c5 => ?_)
  · refine az_iconst (v := nI 0) dX10_missing_12 ?_
    exact az_iret dX10_missing_13 (hQ)
  · exact absurd c5 hne
set_option maxRecDepth 100000 in
theorem s_get {d r i : Nat} {x : Nat × List Int64} {hp : az_Hp} {Q : Option Value → az_Hp → Prop} (hR : ln_Tray hp r (some x)) (hi : i < x.2.length) (hQ : Q (some (.long (x.2.getD i 0))) hp) : az_M mX10_get d 0 0 [.ref r, .int (nI i)] hp Q := by
  obtain ⟨hl, hs, f, h0, h1, hf⟩ := hR
  refine az_M.of rfl (Nat.le_of_ble_eq_true rfl) ?_
  show az_W _ _ _ _ 0 [(0, .ref r), (1, .int (nI i))] [] _ _
  refine az_iload_n dX10_get_0 ?_
  refine az_if_ltN (tgt := 21) dX10_get_1 (fun c1 => ?_) (fun c1 => ?_)
  · exact absurd c1 (by omega)
  · refine az_iload_n dX10_get_4 ?_
    refine az_aload_n dX10_get_5 ?_
    refine az_getf (v := .int (nI x.2.length)) dX10_get_6 fl_X10_9 h0 ?_
    refine az_icmp_geN (tgt := 21) dX10_get_9 (fun c9 => ?_) (fun c9 => ?_)
    · exact absurd c9 (by omega)
    · refine az_aload_n dX10_get_12 ?_
      refine az_getf (v := .ref (r + 1)) dX10_get_13 fl_X10_15 h0 ?_
      refine az_iload_n dX10_get_16 ?_
      refine az_laldN (j := i) dX10_get_17 h1 ?_
      rw [hf i hi]
      refine az_goto (tgt := 22) dX10_get_18 ?_
      exact az_lret dX10_get_22 (hQ)
set_option maxRecDepth 100000 in
theorem s_cut_0 {d r : Nat} {v : Int64} {sz : Value} {hp : az_Hp} {Q : Option Value → az_Hp → Prop} (h0 : hp.2 r = some (az_O 9 [sz, .int (nI 0), .ref (r + 1)])) (hQ : Q (some (.long (ln_cut 0 v))) hp) : az_M mX10_cut d 0 0 [.ref r, .long v] hp Q := by
  refine az_M.of rfl (Nat.le_of_ble_eq_true rfl) ?_
  show az_W _ _ _ _ 0 [(0, .ref r), (1, .long v)] [] _ _
  refine az_aload_n dX10_cut_0 ?_
  refine az_getf (v := .int (nI 0)) dX10_cut_1 fl_X10_19 h0 ?_
  refine az_tswIn (off := 28) (tgt := 32) dX10_cut_4 (by decide) (by decide) (by rfl) (by decide) ?_
  refine az_lload_n dX10_cut_32 ?_
  refine az_l2i dX10_cut_33 ?_
  refine az_i2b dX10_cut_34 ?_
  refine az_i2l dX10_cut_35 ?_
  exact az_lret dX10_cut_36 (hQ)
set_option maxRecDepth 100000 in
theorem s_cut_1 {d r : Nat} {v : Int64} {sz : Value} {hp : az_Hp} {Q : Option Value → az_Hp → Prop} (h0 : hp.2 r = some (az_O 9 [sz, .int (nI 1), .ref (r + 1)])) (hQ : Q (some (.long (ln_cut 1 v))) hp) : az_M mX10_cut d 0 0 [.ref r, .long v] hp Q := by
  refine az_M.of rfl (Nat.le_of_ble_eq_true rfl) ?_
  show az_W _ _ _ _ 0 [(0, .ref r), (1, .long v)] [] _ _
  refine az_aload_n dX10_cut_0 ?_
  refine az_getf (v := .int (nI 1)) dX10_cut_1 fl_X10_19 h0 ?_
  refine az_tswIn (off := 33) (tgt := 37) dX10_cut_4 (by decide) (by decide) (by rfl) (by decide) ?_
  refine az_lload_n dX10_cut_37 ?_
  refine az_l2i dX10_cut_38 ?_
  refine az_i2s dX10_cut_39 ?_
  refine az_i2l dX10_cut_40 ?_
  exact az_lret dX10_cut_41 (hQ)
set_option maxRecDepth 100000 in
theorem s_cut_2 {d r : Nat} {v : Int64} {sz : Value} {hp : az_Hp} {Q : Option Value → az_Hp → Prop} (h0 : hp.2 r = some (az_O 9 [sz, .int (nI 2), .ref (r + 1)])) (hQ : Q (some (.long (ln_cut 2 v))) hp) : az_M mX10_cut d 0 0 [.ref r, .long v] hp Q := by
  refine az_M.of rfl (Nat.le_of_ble_eq_true rfl) ?_
  show az_W _ _ _ _ 0 [(0, .ref r), (1, .long v)] [] _ _
  refine az_aload_n dX10_cut_0 ?_
  refine az_getf (v := .int (nI 2)) dX10_cut_1 fl_X10_19 h0 ?_
  refine az_tswIn (off := 38) (tgt := 42) dX10_cut_4 (by decide) (by decide) (by rfl) (by decide) ?_
  refine az_lload_n dX10_cut_42 ?_
  refine az_l2i dX10_cut_43 ?_
  refine az_i2l dX10_cut_44 ?_
  exact az_lret dX10_cut_45 (hQ)
set_option maxRecDepth 100000 in
theorem s_cut_3 {d r : Nat} {v : Int64} {sz : Value} {hp : az_Hp} {Q : Option Value → az_Hp → Prop} (h0 : hp.2 r = some (az_O 9 [sz, .int (nI 3), .ref (r + 1)])) (hQ : Q (some (.long (ln_cut 3 v))) hp) : az_M mX10_cut d 0 0 [.ref r, .long v] hp Q := by
  refine az_M.of rfl (Nat.le_of_ble_eq_true rfl) ?_
  show az_W _ _ _ _ 0 [(0, .ref r), (1, .long v)] [] _ _
  refine az_aload_n dX10_cut_0 ?_
  refine az_getf (v := .int (nI 3)) dX10_cut_1 fl_X10_19 h0 ?_
  refine az_tswOut (tgt := 46) dX10_cut_4 (by decide) (by decide) ?_
  refine az_lload_n dX10_cut_46 ?_
  exact az_lret dX10_cut_47 (hQ)
theorem s_cut {d r so : Nat} {v : Int64} {sz : Value} {hp : az_Hp} {Q : Option Value → az_Hp → Prop} (hs : so ≤ 3) (h0 : hp.2 r = some (az_O 9 [sz, .int (nI so), .ref (r + 1)])) (hQ : Q (some (.long (ln_cut so v))) hp) : az_M mX10_cut d 0 0 [.ref r, .long v] hp Q := by
  have : so = 0 ∨ so = 1 ∨ so = 2 ∨ so = 3 := by omega
  rcases this with rfl | rfl | rfl | rfl
  · exact s_cut_0 h0 hQ
  · exact s_cut_1 h0 hQ
  · exact s_cut_2 h0 hQ
  · exact s_cut_3 h0 hQ
theorem getD_set_eq {l : List Int64} {i : Nat} {v : Int64} (h : i < l.length) : (l.set i v).getD i 0 = v := by
  rw [List.getD_eq_getElem?_getD, List.getElem?_set_self h]; rfl
theorem getD_set_ne {l : List Int64} {i j : Nat} {v : Int64} (h : j ≠ i) : (l.set i v).getD j 0 = l.getD j 0 := by
  rw [List.getD_eq_getElem?_getD, List.getD_eq_getElem?_getD, List.getElem?_set_ne (Ne.symm h)]
set_option maxRecDepth 100000 in
theorem s_put {d r i : Nat} {x : Nat × List Int64} {v : Int64} {hp : az_Hp} {Q : Option Value → az_Hp → Prop} (hd : 1 ≤ d) (hR : ln_Tray hp r (some x)) (hi : i < x.2.length) (hQ : ∀ h', ln_Tray h' r (some (x.1, x.2.set i (ln_cut x.1 v))) → az_fr hp h' r (r + 2) → Q none h') : az_M mX10_put d 0 0 [.ref r, .int (nI i), .long v] hp Q := by
  obtain ⟨hl, hs, f, h0, h1, hf⟩ := hR
  refine az_M.of rfl (Nat.le_of_ble_eq_true rfl) ?_
  show az_W _ _ _ _ 0 [(0, .ref r), (1, .int (nI i)), (2, .long v)] [] _ _
  refine az_iload_n dX10_put_0 ?_
  refine az_if_ltN (tgt := 23) dX10_put_1 (fun c1 => ?_) (fun c1 => ?_)
  · exact absurd c1 (by omega)
  · refine az_iload_n dX10_put_4 ?_
    refine az_aload_n dX10_put_5 ?_
    refine az_getf (v := .int (nI x.2.length)) dX10_put_6 fl_X10_9 h0 ?_
    refine az_icmp_geN (tgt := 23) dX10_put_9 (fun c9 => ?_) (fun c9 => ?_)
    · exact absurd c9 (by omega)
    · refine az_aload_n dX10_put_12 ?_
      refine az_getf (v := .ref (r + 1)) dX10_put_13 fl_X10_15 h0 ?_
      refine az_iload_n dX10_put_16 ?_
      refine az_aload_n dX10_put_17 ?_
      refine az_lload_n dX10_put_18 ?_
      refine az_cV0 (st := [.int (nI i), .ref (r + 1)]) dX10_put_19 ml_X10_37 h0 (s_cut (d := d - 1) hs h0 ?_)
      refine az_lastN (j := i) dX10_put_22 h1 ?_
      exact az_vret dX10_put_23 (hQ _ ⟨by rw [List.length_set]; exact hl, hs, _, by rw [List.length_set]; exact az_up_ne h0, az_up_eq, fun j hj => by rw [List.length_set] at hj; by_cases e : j = i; (rw [e, az_s_eq, getD_set_eq hi]); (rw [az_s_ne e, getD_set_ne e]; exact hf j hj)⟩ az_fr.rf.up)
set_option maxRecDepth 100000 in
theorem s_lay {d r so n : Nat} {tr : Option (Nat × List Int64)} {hp : az_Hp} {Q : Option Value → az_Hp → Prop} (hd : 1 ≤ d) (hR : ln_Tray hp r tr) (hs : so ≤ 3) (hn : n ≤ 40) (hQ : ∀ h', ln_Tray h' r (some (so, List.replicate n 0)) → az_fr hp h' r (r + 2) → Q none h') : az_M mX10_lay d 0 0 [.ref r, .int (nI so), .int (nI n)] hp Q := by
  obtain ⟨v0, v1, f, h0, h1⟩ : ∃ (v0 v1 : Value) (f : Nat → Int64), hp.2 r = some (az_O 9 [v0, v1, .ref (r + 1)]) ∧ hp.2 (r + 1) = some (az_J 40 f) := by
    cases tr with
    | none => obtain ⟨so, f, h0, h1⟩ := hR; exact ⟨_, _, f, h0, h1⟩
    | some x => obtain ⟨hl, hs, f, h0, h1, hf⟩ := hR; exact ⟨_, _, f, h0, h1⟩
  refine az_M.of rfl (Nat.le_of_ble_eq_true rfl) ?_
  show az_W _ _ _ _ 0 [(0, .ref r), (1, .int (nI so)), (2, .int (nI n))] [] _ _
  refine az_aload_n dX10_lay_0 ?_
  refine az_iload_n dX10_lay_1 ?_
  refine az_putf (fs' := [v0, .int (nI so), .ref (r + 1)]) dX10_lay_2 fl_X10_19 h0 ?_
  refine az_aload_n dX10_lay_5 ?_
  refine az_iconst (v := nI 0) dX10_lay_6 ?_
  refine az_iload_n dX10_lay_7 ?_
  refine az_bipush (v := nI 40) dX10_lay_8 ?_
  refine az_mminN dX10_lay_10 ml_X10_22 ?_
  refine az_mmaxN dX10_lay_13 ml_X10_28 ?_
  rw [show max 0 (min n 40) = n by omega]
  refine az_putf (fs' := [.int (nI n), .int (nI so), .ref (r + 1)]) dX10_lay_16 fl_X10_9 az_up_eq ?_
  rw [az_up_up]
  refine az_aload_n dX10_lay_19 ?_
  refine az_getf (v := .ref (r + 1)) dX10_lay_20 fl_X10_15 az_up_eq ?_
  refine az_lconst (v := lN 0) dX10_lay_23 ?_
  refine az_cS0 (st := []) dX10_lay_24 ml_X10_31 (s_fillJ (d := d - 1) (by decide) (az_up_ne h1) ?_)
  exact az_vret dX10_lay_27 (hQ _ ⟨by rw [List.length_replicate]; exact hn, hs, _, by rw [List.length_replicate]; exact az_up_ne az_up_eq, az_up_eq, fun j hj => by rw [List.length_replicate] at hj; simp [List.getD_eq_getElem?_getD, hj]; rfl⟩ az_fr.rf.up.up)
