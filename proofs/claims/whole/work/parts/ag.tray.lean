/-! The model: refusals of trays; trays written -/
set_option maxHeartbeats 4000000 in
set_option maxRecDepth 100000 in
theorem m_noLongW {d n : Nat} {sc : Nat → Value} {rm : Nat → Int32} {nu : Nat → Int64} {y : Nat × List Int64} {lo : Int32} {hp : az_Hp} {Q : Option Value → az_Hp → Prop} (hn : n < 4) (h64 : hp.2 64 = some (mo_o sc)) (h91 : hp.2 91 = some (az_I 4 rm)) (h92 : hp.2 92 = some (az_J 160 nu)) (r2 : rm n = nI y.2.length) (r4 : y.2.length ≤ 40) (r5 : ∀ j, j < y.2.length → nu (40 * n + j) = y.2.getD j 0) (hQ3 : ¬ cs_ln y.2 lo.toInt64 → Q (some (.int (-3))) hp) (hQ0 : cs_ln y.2 lo.toInt64 → Q (some (.int (nI 0))) hp) : az_W mX12_noLong d 0 0 32 [(0, .ref 64), (1, .int (nI n)), (2, .int lo), (3, .int (nI 0))] [] hp Q := by
  have loop : ∀ (k : Nat) (i : Nat), y.2.length - i = k → (i ≤ y.2.length) → (∀ j, j < i → ¬ y.2.getD j 0 < lo.toInt64) → az_W mX12_noLong d 0 0 35 [(0, .ref 64), (1, .int (nI n)), (2, .int lo), (3, .int (nI 0)), (4, .int (nI i))] [] hp Q := by
    intro k
    induction k using Nat.strongRecOn with
    | _ k ih =>
    intro i hk hi hF
    refine az_iload dX12_noLong_35 ?_
    refine az_aload_n dX12_noLong_37 ?_
    refine az_getf (v := .ref 91) dX12_noLong_38 fl_X12_97 h64 ?_
    refine az_iload_n dX12_noLong_41 ?_
    refine az_ialdN (j := n) dX12_noLong_42 h91 ?_
    rw [r2]
    refine az_icmp_geN (tgt := 73) dX12_noLong_43 (fun c43 => ?_) (fun c43 => ?_)
    · refine az_iconst (v := nI 0) dX12_noLong_73 ?_
      exact az_iret dX12_noLong_74 (hQ0 (fun j hj => hF j (by omega)))
    · refine az_aload_n dX12_noLong_46 ?_
      refine az_getf (v := .ref 92) dX12_noLong_47 fl_X12_100 h64 ?_
      refine az_bipush (v := nI 40) dX12_noLong_50 ?_
      refine az_iload_n dX12_noLong_52 ?_
      refine az_imulN dX12_noLong_53 ?_
      refine az_iload dX12_noLong_54 ?_
      refine az_iaddN dX12_noLong_56 ?_
      refine az_laldN (j := (40 * n) + i) dX12_noLong_57 h92 ?_
      rw [r5 i (by omega)]
      refine az_iload_n dX12_noLong_58 ?_
      refine az_i2l dX12_noLong_59 ?_
      refine az_lcmp_ge (tgt := 67) dX12_noLong_60 dX12_noLong_61 (fun c60 => ?_) (fun c60 => ?_)
      · refine az_iincN (n := 1) (ls' := [(0, .ref 64), (1, .int (nI n)), (2, .int lo), (3, .int (nI 0)), (4, .int (nI (i + 1)))]) dX12_noLong_67 ?_
        refine az_goto (tgt := 35) dX12_noLong_70 ?_
        exact ih _ (by omega) (i + 1) rfl (by omega) (fun j hj => if e : j = i then (by rw [e]; exact Int64.not_lt.mpr c60) else hF j (by omega))
      · refine az_bipush (v := (-3)) dX12_noLong_64 ?_
        exact az_iret dX12_noLong_66 (hQ3 (fun q => q i (by omega) (Int64.not_le.mp c60)))
  refine az_iconst (v := nI 0) dX12_noLong_32 ?_
  refine az_istore (ls' := [(0, .ref 64), (1, .int (nI n)), (2, .int lo), (3, .int (nI 0)), (4, .int (nI 0))]) dX12_noLong_33 ?_
  exact loop _ 0 rfl (Nat.zero_le _) (fun j hj => absurd hj (by omega))
set_option maxHeartbeats 4000000 in
set_option maxRecDepth 100000 in
theorem m_noLong {d : Nat} {sc : Nat → Value} {rs rm : Nat → Int32} {nu : Nat → Int64} {tr : Nat → Option (Nat × List Int64)} {hp : az_Hp} {Q : Option Value → az_Hp → Prop} {x lo : Int32} (hd : 2 ≤ d) (h64 : hp.2 64 = some (mo_o sc)) (h90 : hp.2 90 = some (az_I 4 rs)) (h91 : hp.2 91 = some (az_I 4 rm)) (h92 : hp.2 92 = some (az_J 160 nu)) (hR : mR rs rm nu tr) (hQ2 : (∀ n, n < 4 → x ≠ nI n) → Q (some (.int (-2))) hp) (hQ6 : ∀ n, x = nI n → n < 4 → tr n = none → Q (some (.int (-6))) hp) (hQ4 : ∀ n y, x = nI n → n < 4 → tr n = some y → ¬ (1 ≤ y.2.length ∧ y.2.length ≤ 8) → Q (some (.int (-4))) hp) (hQ3 : ∀ n y, x = nI n → n < 4 → tr n = some y → 1 ≤ y.2.length → y.2.length ≤ 8 → ¬ cs_ln y.2 lo.toInt64 → Q (some (.int (-3))) hp) (hQ0 : ∀ n y, x = nI n → n < 4 → tr n = some y → 1 ≤ y.2.length → y.2.length ≤ 8 → cs_ln y.2 lo.toInt64 → Q (some (.int (nI 0))) hp) : az_M mX12_noLong d 0 0 [.ref 64, .int x, .int lo] hp Q := by
  refine az_M.of rfl (Nat.le_of_ble_eq_true rfl) ?_
  show az_W _ _ _ _ 0 [(0, .ref 64), (1, .int x), (2, .int lo)] [] _ _
  refine az_aload_n dX12_noLong_0 ?_
  refine az_iload_n dX12_noLong_1 ?_
  refine az_cV0 (st := []) dX12_noLong_2 ml_X12_347 h64 (m_noTray (v := rd_v0) (A := fun _ => 0) (d := d - 1) (by omega) h64 h90 hR ?_ ?_ ?_)
  · intro hno
    refine az_istore_n (ls' := [(0, .ref 64), (1, .int x), (2, .int lo), (3, .int ((-2)))]) dX12_noLong_5 ?_
    refine az_iload_n dX12_noLong_6 ?_
    refine az_if_eq (tgt := 12) dX12_noLong_7 (fun c7 => ?_) (fun c7 => ?_)
    · exact absurd c7 (by decide)
    · refine az_iload_n dX12_noLong_10 ?_
      exact az_iret dX12_noLong_11 (by first | exact hQ2 hno | exact hQ6 n hx hn hno)
  · intro n hx hn hno
    refine az_istore_n (ls' := [(0, .ref 64), (1, .int x), (2, .int lo), (3, .int ((-6)))]) dX12_noLong_5 ?_
    refine az_iload_n dX12_noLong_6 ?_
    refine az_if_eq (tgt := 12) dX12_noLong_7 (fun c7 => ?_) (fun c7 => ?_)
    · exact absurd c7 (by decide)
    · refine az_iload_n dX12_noLong_10 ?_
      exact az_iret dX12_noLong_11 (by first | exact hQ2 hno | exact hQ6 n hx hn hno)
  · intro n y hx hn hy
    have h3 := hR n hn
    rw [hy] at h3
    obtain ⟨r1, r2, r3, r4, r5⟩ := h3
    refine az_istore_n (ls' := [(0, .ref 64), (1, .int x), (2, .int lo), (3, .int (nI 0))]) dX12_noLong_5 ?_
    refine az_iload_n dX12_noLong_6 ?_
    refine az_if_eqN (tgt := 12) dX12_noLong_7 (fun c7 => ?_) (fun c7 => ?_)
    · subst hx
      refine az_aload_n dX12_noLong_12 ?_
      refine az_getf (v := .ref 91) dX12_noLong_13 fl_X12_97 h64 ?_
      refine az_iload_n dX12_noLong_16 ?_
      refine az_ialdN (j := n) dX12_noLong_17 h91 ?_
      rw [r2]
      refine az_i2lN dX12_noLong_18 ?_
      refine az_lconst (v := lN 1) dX12_noLong_19 ?_
      refine az_ldc2 (v := lN 8) dX12_noLong_20 cn_X12_454 ?_
      refine az_cS0 (st := []) dX12_noLong_23 ml_X12_169 (m_withinJ (d := d - 1) (lo := 1) (hi := 8) (by decide) (by decide) ?_ ?_)
      · intro m9 hm9 hm1 hm8
        have hml : y.2.length = m9 := (by have q := congrArg Int64.toInt hm9; rw [lN_toI (by omega), lN_toI (by omega)] at q; omega)
        refine az_if_neN (tgt := 32) dX12_noLong_26 (fun c26 => ?_) (fun c26 => ?_)
        · exact m_noLongW hn h64 h91 h92 r2 r4 r5 (fun q => hQ3 n y rfl hn hy (by omega) (by omega) q) (fun q => hQ0 n y rfl hn hy (by omega) (by omega) q)
        · exact absurd c26 (by omega)
      · intro hm9
        refine az_if_neN (tgt := 32) dX12_noLong_26 (fun c26 => ?_) (fun c26 => ?_)
        · exact absurd c26 (by omega)
        · refine az_bipush (v := (-4)) dX12_noLong_29 ?_
          exact az_iret dX12_noLong_31 (hQ4 n y rfl hn hy (fun q => hm9 y.2.length q.1 q.2 rfl))
    · exact absurd c7 (by omega)
set_option maxHeartbeats 4000000 in
set_option maxRecDepth 100000 in
theorem m_noWordW {d n : Nat} {sc : Nat → Value} {rm : Nat → Int32} {nu : Nat → Int64} {y : Nat × List Int64} {hp : az_Hp} {Q : Option Value → az_Hp → Prop} (hd : 2 ≤ d) (hn : n < 4) (h64 : hp.2 64 = some (mo_o sc)) (h91 : hp.2 91 = some (az_I 4 rm)) (h92 : hp.2 92 = some (az_J 160 nu)) (r2 : rm n = nI y.2.length) (r4 : y.2.length ≤ 40) (r5 : ∀ j, j < y.2.length → nu (40 * n + j) = y.2.getD j 0) (hQ3 : ¬ cs_wd y.2 → Q (some (.int (-3))) hp) (hQ0 : cs_wd y.2 → Q (some (.int (nI 0))) hp) : az_W mX12_noWord d 0 0 32 [(0, .ref 64), (1, .int (nI n)), (2, .int (nI 0))] [] hp Q := by
  have loop : ∀ (k : Nat) (i : Nat), y.2.length - i = k → (i ≤ y.2.length) → (∀ j, j < i → y.2.getD j 0 = lN (cs_g y.2 j) ∧ cs_g y.2 j < 6) → az_W mX12_noWord d 0 0 34 [(0, .ref 64), (1, .int (nI n)), (2, .int (nI 0)), (3, .int (nI i))] [] hp Q := by
    intro k
    induction k using Nat.strongRecOn with
    | _ k ih =>
    intro i hk hi hF
    refine az_iload_n dX12_noWord_34 ?_
    refine az_aload_n dX12_noWord_35 ?_
    refine az_getf (v := .ref 91) dX12_noWord_36 fl_X12_97 h64 ?_
    refine az_iload_n dX12_noWord_39 ?_
    refine az_ialdN (j := n) dX12_noWord_40 h91 ?_
    rw [r2]
    refine az_icmp_geN (tgt := 70) dX12_noWord_41 (fun c41 => ?_) (fun c41 => ?_)
    · refine az_iconst (v := nI 0) dX12_noWord_70 ?_
      exact az_iret dX12_noWord_71 (hQ0 (fun j hj => hF j (by omega)))
    · refine az_aload_n dX12_noWord_44 ?_
      refine az_getf (v := .ref 92) dX12_noWord_45 fl_X12_100 h64 ?_
      refine az_bipush (v := nI 40) dX12_noWord_48 ?_
      refine az_iload_n dX12_noWord_50 ?_
      refine az_imulN dX12_noWord_51 ?_
      refine az_iload_n dX12_noWord_52 ?_
      refine az_iaddN dX12_noWord_53 ?_
      refine az_laldN (j := (40 * n) + i) dX12_noWord_54 h92 ?_
      rw [r5 i (by omega)]
      refine az_cS0 (st := []) dX12_noWord_55 ml_X12_293 (m_isLetterJ (d := d - 1) (by omega) ?_ ?_)
      · intro l9 hl9 hl6
        refine az_if_neN (tgt := 64) dX12_noWord_58 (fun c58 => ?_) (fun c58 => ?_)
        · refine az_iincN (n := 1) (ls' := [(0, .ref 64), (1, .int (nI n)), (2, .int (nI 0)), (3, .int (nI (i + 1)))]) dX12_noWord_64 ?_
          refine az_goto (tgt := 34) dX12_noWord_67 ?_
          exact ih _ (by omega) (i + 1) rfl (by omega) (fun j hj => if e : j = i then (by rw [e, cs_g, hl9, lN_toI (by omega)]; exact ⟨rfl, hl6⟩) else hF j (by omega))
        · exact absurd c58 (by omega)
      · intro hl9
        refine az_if_neN (tgt := 64) dX12_noWord_58 (fun c58 => ?_) (fun c58 => ?_)
        · exact absurd c58 (by omega)
        · refine az_bipush (v := (-3)) dX12_noWord_61 ?_
          exact az_iret dX12_noWord_63 (hQ3 (fun q => hl9 _ (q i (by omega)).2 (q i (by omega)).1))
  refine az_iconst (v := nI 0) dX12_noWord_32 ?_
  refine az_istore_n (ls' := [(0, .ref 64), (1, .int (nI n)), (2, .int (nI 0)), (3, .int (nI 0))]) dX12_noWord_33 ?_
  exact loop _ 0 rfl (Nat.zero_le _) (fun j hj => absurd hj (by omega))
set_option maxHeartbeats 4000000 in
set_option maxRecDepth 100000 in
theorem m_noWord {d : Nat} {sc : Nat → Value} {rs rm : Nat → Int32} {nu : Nat → Int64} {tr : Nat → Option (Nat × List Int64)} {hp : az_Hp} {Q : Option Value → az_Hp → Prop} {x : Int32} (hd : 3 ≤ d) (h64 : hp.2 64 = some (mo_o sc)) (h90 : hp.2 90 = some (az_I 4 rs)) (h91 : hp.2 91 = some (az_I 4 rm)) (h92 : hp.2 92 = some (az_J 160 nu)) (hR : mR rs rm nu tr) (hQ2 : (∀ n, n < 4 → x ≠ nI n) → Q (some (.int (-2))) hp) (hQ6 : ∀ n, x = nI n → n < 4 → tr n = none → Q (some (.int (-6))) hp) (hQ4 : ∀ n y, x = nI n → n < 4 → tr n = some y → ¬ (1 ≤ y.2.length ∧ y.2.length ≤ 6) → Q (some (.int (-4))) hp) (hQ3 : ∀ n y, x = nI n → n < 4 → tr n = some y → 1 ≤ y.2.length → y.2.length ≤ 6 → ¬ cs_wd y.2 → Q (some (.int (-3))) hp) (hQ0 : ∀ n y, x = nI n → n < 4 → tr n = some y → 1 ≤ y.2.length → y.2.length ≤ 6 → cs_wd y.2 → Q (some (.int (nI 0))) hp) : az_M mX12_noWord d 0 0 [.ref 64, .int x] hp Q := by
  refine az_M.of rfl (Nat.le_of_ble_eq_true rfl) ?_
  show az_W _ _ _ _ 0 [(0, .ref 64), (1, .int x)] [] _ _
  refine az_aload_n dX12_noWord_0 ?_
  refine az_iload_n dX12_noWord_1 ?_
  refine az_cV0 (st := []) dX12_noWord_2 ml_X12_347 h64 (m_noTray (v := rd_v0) (A := fun _ => 0) (d := d - 1) (by omega) h64 h90 hR ?_ ?_ ?_)
  · intro hno
    refine az_istore_n (ls' := [(0, .ref 64), (1, .int x), (2, .int ((-2)))]) dX12_noWord_5 ?_
    refine az_iload_n dX12_noWord_6 ?_
    refine az_if_eq (tgt := 12) dX12_noWord_7 (fun c7 => ?_) (fun c7 => ?_)
    · exact absurd c7 (by decide)
    · refine az_iload_n dX12_noWord_10 ?_
      exact az_iret dX12_noWord_11 (by first | exact hQ2 hno | exact hQ6 n hx hn hno)
  · intro n hx hn hno
    refine az_istore_n (ls' := [(0, .ref 64), (1, .int x), (2, .int ((-6)))]) dX12_noWord_5 ?_
    refine az_iload_n dX12_noWord_6 ?_
    refine az_if_eq (tgt := 12) dX12_noWord_7 (fun c7 => ?_) (fun c7 => ?_)
    · exact absurd c7 (by decide)
    · refine az_iload_n dX12_noWord_10 ?_
      exact az_iret dX12_noWord_11 (by first | exact hQ2 hno | exact hQ6 n hx hn hno)
  · intro n y hx hn hy
    have h3 := hR n hn
    rw [hy] at h3
    obtain ⟨r1, r2, r3, r4, r5⟩ := h3
    refine az_istore_n (ls' := [(0, .ref 64), (1, .int x), (2, .int (nI 0))]) dX12_noWord_5 ?_
    refine az_iload_n dX12_noWord_6 ?_
    refine az_if_eqN (tgt := 12) dX12_noWord_7 (fun c7 => ?_) (fun c7 => ?_)
    · subst hx
      refine az_aload_n dX12_noWord_12 ?_
      refine az_getf (v := .ref 91) dX12_noWord_13 fl_X12_97 h64 ?_
      refine az_iload_n dX12_noWord_16 ?_
      refine az_ialdN (j := n) dX12_noWord_17 h91 ?_
      rw [r2]
      refine az_i2lN dX12_noWord_18 ?_
      refine az_lconst (v := lN 1) dX12_noWord_19 ?_
      refine az_ldc2 (v := lN 6) dX12_noWord_20 cn_X12_374 ?_
      refine az_cS0 (st := []) dX12_noWord_23 ml_X12_169 (m_withinJ (d := d - 1) (lo := 1) (hi := 6) (by decide) (by decide) ?_ ?_)
      · intro m9 hm9 hm1 hm8
        have hml : y.2.length = m9 := (by have q := congrArg Int64.toInt hm9; rw [lN_toI (by omega), lN_toI (by omega)] at q; omega)
        refine az_if_neN (tgt := 32) dX12_noWord_26 (fun c26 => ?_) (fun c26 => ?_)
        · exact m_noWordW (by omega) hn h64 h91 h92 r2 r4 r5 (fun q => hQ3 n y rfl hn hy (by omega) (by omega) q) (fun q => hQ0 n y rfl hn hy (by omega) (by omega) q)
        · exact absurd c26 (by omega)
      · intro hm9
        refine az_if_neN (tgt := 32) dX12_noWord_26 (fun c26 => ?_) (fun c26 => ?_)
        · exact absurd c26 (by omega)
        · refine az_bipush (v := (-4)) dX12_noWord_29 ?_
          exact az_iret dX12_noWord_31 (hQ4 n y rfl hn hy (fun q => hm9 y.2.length q.1 q.2 rfl))
    · exact absurd c7 (by omega)
set_option maxHeartbeats 4000000 in
set_option maxRecDepth 100000 in
theorem m_laysSpelling {d n : Nat} {sc : Nat → Value} {rm : Nat → Int32} {nu : Nat → Int64} {y : Nat × List Int64} {f77 : Nat → Int32} {hp : az_Hp} {Q : Option Value → az_Hp → Prop} (hn : n < 4) (h64 : hp.2 64 = some (mo_o sc)) (h91 : hp.2 91 = some (az_I 4 rm)) (h92 : hp.2 92 = some (az_J 160 nu)) (h77 : hp.2 77 = some (az_I 6 f77)) (r2 : rm n = nI y.2.length) (hy6 : y.2.length ≤ 6) (r5 : ∀ j, j < y.2.length → nu (40 * n + j) = y.2.getD j 0) (hwd : cs_wd y.2) (hQ : ∀ f, (∀ i, i < y.2.length → f i = nI (cs_g y.2 i)) → Q none (az_up (az_up hp 64 (mo_o (su sc 29 (.int (nI y.2.length))))) 77 (az_I 6 f))) : az_M mX12_laysSpelling d 0 0 [.ref 64, .int (nI n)] hp Q := by
  have loop : ∀ (k : Nat) (i : Nat) (f : Nat → Int32) (h' : az_Hp), y.2.length - i = k → (i ≤ y.2.length) → (∀ j, j < i → f j = nI (cs_g y.2 j)) → (h' = az_up (az_up hp 64 (mo_o (su sc 29 (.int (nI y.2.length))))) 77 (az_I 6 f)) → az_W mX12_laysSpelling d 0 0 12 [(0, .ref 64), (1, .int (nI n)), (2, .int (nI i))] [] h' Q := by
    intro k
    induction k using Nat.strongRecOn with
    | _ k ih =>
    intro i f h' hk hi hF he
    refine az_iload_n dX12_laysSpelling_12 ?_
    refine az_aload_n dX12_laysSpelling_13 ?_
    refine az_getf (v := .int (nI y.2.length)) dX12_laysSpelling_14 fl_X12_376 (by rw [he]; exact az_up_ne az_up_eq) ?_
    refine az_icmp_geN (tgt := 44) dX12_laysSpelling_17 (fun c17 => ?_) (fun c17 => ?_)
    · exact az_vret dX12_laysSpelling_44 (by rw [he]; exact hQ f (fun j hj => hF j (by omega)))
    · refine az_aload_n dX12_laysSpelling_20 ?_
      refine az_getf (v := .ref 77) dX12_laysSpelling_21 fl_X12_55 (by rw [he]; exact az_up_ne az_up_eq) ?_
      refine az_iload_n dX12_laysSpelling_24 ?_
      refine az_aload_n dX12_laysSpelling_25 ?_
      refine az_getf (v := .ref 92) dX12_laysSpelling_26 fl_X12_100 (by rw [he]; exact az_up_ne az_up_eq) ?_
      refine az_bipush (v := nI 40) dX12_laysSpelling_29 ?_
      refine az_iload_n dX12_laysSpelling_31 ?_
      refine az_imulN dX12_laysSpelling_32 ?_
      refine az_iload_n dX12_laysSpelling_33 ?_
      refine az_iaddN dX12_laysSpelling_34 ?_
      refine az_laldN (j := (40 * n) + i) dX12_laysSpelling_35 (by rw [he]; exact az_up_ne (az_up_ne h92)) ?_
      rw [r5 i (by omega), (hwd i (by omega)).1]
      refine az_l2iN dX12_laysSpelling_36 ?_
      refine az_iastN (j := i) dX12_laysSpelling_37 (by rw [he]; exact az_up_eq) ?_
      refine az_iincN (n := 1) (ls' := [(0, .ref 64), (1, .int (nI n)), (2, .int (nI (i + 1)))]) dX12_laysSpelling_38 ?_
      refine az_goto (tgt := 12) dX12_laysSpelling_41 ?_
      exact ih _ (by omega) (i + 1) (az_s f i (nI (cs_g y.2 i))) _ rfl (by omega) (fun j hj => if e : j = i then (by rw [e, az_s_eq]) else (by rw [az_s_ne e]; exact hF j (by omega))) (by rw [he, az_up_up])
  refine az_M.of rfl (Nat.le_of_ble_eq_true rfl) ?_
  show az_W _ _ _ _ 0 [(0, .ref 64), (1, .int (nI n))] [] _ _
  refine az_aload_n dX12_laysSpelling_0 ?_
  refine az_aload_n dX12_laysSpelling_1 ?_
  refine az_getf (v := .ref 91) dX12_laysSpelling_2 fl_X12_97 h64 ?_
  refine az_iload_n dX12_laysSpelling_5 ?_
  refine az_ialdN (j := n) dX12_laysSpelling_6 h91 ?_
  rw [r2]
  refine az_putf (fs' := [sc 0, .ref 65, .ref 66, .ref 67, .ref 68, sc 5, fI (sc 6), sc 7, sc 8, fI (sc 9), fI (sc 10), sc 11, fI (sc 12), sc 13, sc 14, .ref 69, .ref 70, .ref 71, sc 18, .ref 72, .ref 73, .ref 74, sc 22, sc 23, .ref 75, sc 25, .ref 76, .ref 77, .ref 78, .int (nI y.2.length), .ref 79, .ref 80, .ref 81, .ref 82, .ref 83, .ref 84, .ref 85, sc 37, .ref 86, .ref 87, .ref 88, .ref 89, .ref 90, .ref 91, .ref 92]) dX12_laysSpelling_7 fl_X12_376 h64 ?_
  refine az_iconst (v := nI 0) dX12_laysSpelling_10 ?_
  refine az_istore_n (ls' := [(0, .ref 64), (1, .int (nI n)), (2, .int (nI 0))]) dX12_laysSpelling_11 ?_
  exact loop _ 0 f77 _ rfl (Nat.zero_le _) (fun j hj => absurd hj (by omega)) (az_up_same (az_up_ne h77)).symm
set_option maxHeartbeats 4000000 in
set_option maxRecDepth 100000 in
theorem m_noBack {d : Nat} {sc : Nat → Value} {rs rm : Nat → Int32} {nu : Nat → Int64} {tr : Nat → Option (Nat × List Int64)} {hp : az_Hp} {Q : Option Value → az_Hp → Prop} {A : Nat → Nat} {v : rd_V} {x xt : Int32} (hd : 4 ≤ d) (hw : ln_ok (rd_w v)) (h65 : hp.2 65 = some (az_I 3318 (fun j => nI (A j)))) (hV : mV A v) (h64 : hp.2 64 = some (mo_o sc)) (h90 : hp.2 90 = some (az_I 4 rs)) (h91 : hp.2 91 = some (az_I 4 rm)) (h92 : hp.2 92 = some (az_J 160 nu)) (hR : mR rs rm nu tr) (hQ2 : ¬ (cs_in x 4 ∧ cs_in xt (ln_tb (rd_w v))) → Q (some (.int (-2))) hp) (hQ6 : ∀ n, x = nI n → n < 4 → cs_in xt (ln_tb (rd_w v)) → tr n = none → Q (some (.int (-6))) hp) (hQ4 : ∀ n y, x = nI n → n < 4 → cs_in xt (ln_tb (rd_w v)) → tr n = some y → ¬ (1 ≤ y.2.length ∧ y.2.length ≤ 6) → Q (some (.int (-4))) hp) (hQ3 : ∀ n y, x = nI n → n < 4 → cs_in xt (ln_tb (rd_w v)) → tr n = some y → 1 ≤ y.2.length → y.2.length ≤ 6 → ¬ cs_wd y.2 → Q (some (.int (-3))) hp) (hQ0 : ∀ n y tb, x = nI n → n < 4 → xt = nI tb → tb < ln_tb (rd_w v) → tr n = some y → 1 ≤ y.2.length → y.2.length ≤ 6 → cs_wd y.2 → Q (some (.int (nI 0))) hp) : az_M mX12_noBack d 0 0 [.ref 64, .int x, .int xt] hp Q := by
  have ht3 := hw.2.1
  refine az_M.of rfl (Nat.le_of_ble_eq_true rfl) ?_
  show az_W _ _ _ _ 0 [(0, .ref 64), (1, .int x), (2, .int xt)] [] _ _
  refine az_iload_n dX12_noBack_0 ?_
  refine az_i2l dX12_noBack_1 ?_
  refine az_lconst (v := lN 0) dX12_noBack_2 ?_
  refine az_ldc2 (v := lN 3) dX12_noBack_3 cn_X12_334 ?_
  refine az_cS0 (st := []) dX12_noBack_6 ml_X12_169 (m_withinI (d := d - 1) (lo := 0) (hi := 3) (by decide) (by decide) ?_ ?_)
  · intro n9 hx9 hn0 hn9
    refine az_if_eqN (tgt := 20) dX12_noBack_9 (fun c9 => ?_) (fun c9 => ?_)
    · exact absurd c9 (by omega)
    · refine az_aload_n dX12_noBack_12 ?_
      refine az_iload_n dX12_noBack_13 ?_
      refine az_cV0 (st := []) dX12_noBack_14 ml_X12_290 h64 (m_isTable (d := d - 1) (by omega) hw h64 h65 hV ?_ ?_)
      · intro tb hxt htb
        have hit := (cs_in_n htb (by omega)).1
        rw [← hxt] at hit
        refine az_if_neN (tgt := 25) dX12_noBack_17 (fun c17 => ?_) (fun c17 => ?_)
        · refine az_aload_n dX12_noBack_25 ?_
          refine az_iload_n dX12_noBack_26 ?_
          refine az_cV0 (st := []) dX12_noBack_27 ml_X12_383 h64 (m_noWord (d := d - 1) (by omega) h64 h90 h91 h92 hR ?_ ?_ ?_ ?_ ?_)
          · intro hno
            exact az_iret dX12_noBack_30 (by first | exact hQ2 (fun q => cs_in_no (fun n hn => hx9 n (Nat.zero_le _) (by omega)) q.1) | exact hQ2 (fun q => cs_in_no hxt q.2) | exact absurd hx9 (hno n9 (by omega)) | exact hQ6 n hx hn hit hno | exact hQ4 n y hx hn hit hy hno | exact hQ3 n y hx hn hit hy h1 h6 hno | exact hQ0 n y tb hx hn hxt htb hy h1 h6 hwd)
          · intro n hx hn hno
            exact az_iret dX12_noBack_30 (by first | exact hQ2 (fun q => cs_in_no (fun n hn => hx9 n (Nat.zero_le _) (by omega)) q.1) | exact hQ2 (fun q => cs_in_no hxt q.2) | exact absurd hx9 (hno n9 (by omega)) | exact hQ6 n hx hn hit hno | exact hQ4 n y hx hn hit hy hno | exact hQ3 n y hx hn hit hy h1 h6 hno | exact hQ0 n y tb hx hn hxt htb hy h1 h6 hwd)
          · intro n y hx hn hy hno
            exact az_iret dX12_noBack_30 (by first | exact hQ2 (fun q => cs_in_no (fun n hn => hx9 n (Nat.zero_le _) (by omega)) q.1) | exact hQ2 (fun q => cs_in_no hxt q.2) | exact absurd hx9 (hno n9 (by omega)) | exact hQ6 n hx hn hit hno | exact hQ4 n y hx hn hit hy hno | exact hQ3 n y hx hn hit hy h1 h6 hno | exact hQ0 n y tb hx hn hxt htb hy h1 h6 hwd)
          · intro n y hx hn hy h1 h6 hno
            exact az_iret dX12_noBack_30 (by first | exact hQ2 (fun q => cs_in_no (fun n hn => hx9 n (Nat.zero_le _) (by omega)) q.1) | exact hQ2 (fun q => cs_in_no hxt q.2) | exact absurd hx9 (hno n9 (by omega)) | exact hQ6 n hx hn hit hno | exact hQ4 n y hx hn hit hy hno | exact hQ3 n y hx hn hit hy h1 h6 hno | exact hQ0 n y tb hx hn hxt htb hy h1 h6 hwd)
          · intro n y hx hn hy h1 h6 hwd
            exact az_iret dX12_noBack_30 (by first | exact hQ2 (fun q => cs_in_no (fun n hn => hx9 n (Nat.zero_le _) (by omega)) q.1) | exact hQ2 (fun q => cs_in_no hxt q.2) | exact absurd hx9 (hno n9 (by omega)) | exact hQ6 n hx hn hit hno | exact hQ4 n y hx hn hit hy hno | exact hQ3 n y hx hn hit hy h1 h6 hno | exact hQ0 n y tb hx hn hxt htb hy h1 h6 hwd)
        · exact absurd c17 (by omega)
      · intro hxt
        refine az_if_neN (tgt := 25) dX12_noBack_17 (fun c17 => ?_) (fun c17 => ?_)
        · exact absurd c17 (by omega)
        · refine az_bipush (v := (-2)) dX12_noBack_20 ?_
          refine az_goto (tgt := 30) dX12_noBack_22 ?_
          exact az_iret dX12_noBack_30 (by first | exact hQ2 (fun q => cs_in_no (fun n hn => hx9 n (Nat.zero_le _) (by omega)) q.1) | exact hQ2 (fun q => cs_in_no hxt q.2) | exact absurd hx9 (hno n9 (by omega)) | exact hQ6 n hx hn hit hno | exact hQ4 n y hx hn hit hy hno | exact hQ3 n y hx hn hit hy h1 h6 hno | exact hQ0 n y tb hx hn hxt htb hy h1 h6 hwd)
  · intro hx9
    refine az_if_eqN (tgt := 20) dX12_noBack_9 (fun c9 => ?_) (fun c9 => ?_)
    · refine az_bipush (v := (-2)) dX12_noBack_20 ?_
      refine az_goto (tgt := 30) dX12_noBack_22 ?_
      exact az_iret dX12_noBack_30 (by first | exact hQ2 (fun q => cs_in_no (fun n hn => hx9 n (Nat.zero_le _) (by omega)) q.1) | exact hQ2 (fun q => cs_in_no hxt q.2) | exact absurd hx9 (hno n9 (by omega)) | exact hQ6 n hx hn hit hno | exact hQ4 n y hx hn hit hy hno | exact hQ3 n y hx hn hit hy h1 h6 hno | exact hQ0 n y tb hx hn hxt htb hy h1 h6 hwd)
    · exact absurd c9 (by omega)

