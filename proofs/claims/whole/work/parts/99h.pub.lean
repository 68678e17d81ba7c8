/-! LetterNights: letter, count, place -/
theorem J_of {x : Int64} (h : ¬ x < lN 0) : ∃ n : Nat, n < 2 ^ 63 ∧ x = lN n := by
  have h1 : (0 : Int) ≤ x.toInt := by
    have h9 := Int64.le_iff_toInt_le.mp (Int64.not_lt.mp h)
    rw [lN_toI (by decide)] at h9
    exact h9
  have h2 : x.toInt < 2 ^ 63 := Int64.toInt_lt x
  refine ⟨x.toInt.toNat, by omega, ?_⟩
  apply Int64.toInt_inj.mp
  rw [lN_toI (by omega)]
  omega
theorem ln_SurvM.s {h : az_Hp} {p : Nat} {w : ln_W} {bs : List Nat} (H : ln_SurvM h p w bs) : ln_Surv h p := by
  obtain ⟨v3, v4, g9, f2, h0, h1, -, h2⟩ := H
  exact ⟨v3, v4, _, f2, h0, h1, h2⟩
set_option maxHeartbeats 4000000 in
set_option maxRecDepth 100000 in
theorem p_letter {d : Nat} {x : Int64} {tp fk mo ni K : Nat} {bt : Nat → Nat} {fp : Int32} {v : rd_V} {bs : List Nat} {U : ln_U} {im : Nat → Option (rd_V × ln_Z)} {tr : Nat → Option (Nat × List Int64)} {hp : az_Hp} {Q : Option Value → az_Hp → Prop} (hd : 6 ≤ d) (hC : cs hp ((tp, bt), (fk, fp), v, (mo, ni, bs), U, im, tr) K) (hQ3 : x < lN 0 → Q (some (.int (-3))) hp) (hQN : ∀ k, x = lN k → k < 2 ^ 63 → (ln_str (rd_w v) bs).length ≤ k → Q (some (.int (-1))) hp) (hQ : ∀ k, x = lN k → k < (ln_str (rd_w v) bs).length → ∀ h', cs h' ((tp, bt), (fk, fp), v, (mo, ni, bs), U, im, tr) K → cs_f hp h' → Q (some (.int (nI ((ln_str (rd_w v) bs).getD k 0)))) h') : az_M mX11_letter d 0 0 [.ref 0, .long x] hp Q := by
  obtain ⟨hok, t, F, ia, kk, kt, x1, x2, x3, x4, x5, x6, x7, x8, x9, x10, x11, x12, x13, x14⟩ := id hC
  have hw : ln_ok (rd_w v) := hok.2.2.1.1
  have hlaw : ln_law (rd_w v) v.2.2.2.2.2.2.2.1 v.2.2.2.2.2.2.2.2 := hok.2.2.1.2
  have hba : ln_ba (rd_w v) bs := hok.2.2.2.1
  have hb : ln_by (rd_w v) bs := hba.b
  have x4 : ln_Past hp 6 U := x4
  have x5 : cs_im hp im ia F := x5
  have x6 : cs_tr hp tr := x6
  have x10 : ln_Scene hp 30 t (rd_w v) mo ni bs := x10
  have x13 : ln_Tf hp t (rd_w v) F := x13
  have x14 : cs_ad hp im F ia kk kt := x14
  obtain ⟨hi, fr, la, no, wa, nc, g0, -⟩ := id x10
  have hT := x13.to (lo := 12) (hi := 15) (fun q hq => (by have := x14.2.2.2.2.2.1 q hq; omega))
  obtain ⟨sv3, sv4, sf1, sf2, sv0, -⟩ := id x7
  have hlen := hb.2.2
  refine az_M.of rfl (Nat.le_of_ble_eq_true rfl) ?_
  show az_W _ _ _ _ 0 [(0, .ref 0), (1, .long x)] [] _ _
  refine az_lload_n dX11_letter_0 ?_
  refine az_lconst (v := lN 0) dX11_letter_1 ?_
  refine az_lcmp_ge (tgt := 9) dX11_letter_2 dX11_letter_3 (fun c2 => ?_) (fun c2 => ?_)
  · obtain ⟨k9, hk63, hx⟩ := J_of (Int64.not_lt.mpr c2)
    rw [hx]
    refine az_lload_n dX11_letter_9 ?_
    refine az_aload_n dX11_letter_10 ?_
    refine az_getf (v := .ref 30) dX11_letter_11 fl_X11_66 x1 ?_
    refine az_getf (v := .long (lN ((ln_str (rd_w v) bs).length))) dX11_letter_14 fl_X11_136 g0 ?_
    refine az_lcmp_ltN (tgt := 23) dX11_letter_17 dX11_letter_18 (fun c17 => ?_) (fun c17 => ?_)
    · refine az_aload_n dX11_letter_23 ?_
      refine az_getf (v := .ref 12) dX11_letter_24 fl_X11_42 x1 ?_
      refine az_aload_n dX11_letter_27 ?_
      refine az_getf (v := .ref 30) dX11_letter_28 fl_X11_66 x1 ?_
      refine az_cV0 (st := []) dX11_letter_31 ml_X11_140 sv0 (s_measure (d := d - 1) (s := 12) (a := 30) (by omega) hw hb hT x10 (by omega) x7 ?_)
      intro h1 hV1 hf1
      obtain ⟨mv3, mv4, mg, mf, mv0, -⟩ := id hV1
      have hS1 := ln_Scene.fr x10 hf1 (by omega)
      refine az_aload_n dX11_letter_34 ?_
      refine az_getf (v := .ref 12) dX11_letter_35 fl_X11_42 (hf1.at x1) ?_
      refine az_aload_n dX11_letter_38 ?_
      refine az_getf (v := .ref 30) dX11_letter_39 fl_X11_66 (hf1.at x1) ?_
      refine az_lload_n dX11_letter_42 ?_
      refine az_cV0 (st := []) dX11_letter_43 ml_X11_144 mv0 (s_letterAt (d := d - 1) (s := 12) (a := 30) (k := k9) (by omega) hw hb (hT.fr hf1) hS1 (by omega) hV1 (by omega) ?_)
      intro h2 hV2 hf2
      have hf := hf1.tr hf2
      exact az_iret dX11_letter_46 (hQ k9 hx (by omega) h2 (by exact ⟨hok, ⟨t, F, ia, kk, kt, (hf.at x1), (x2.fr hf), (x3.fr hf), (ln_PastX.fr x4 hf (by omega)), (x5.fr hf x14), (x6.fr hf), hV2.s, (x8.fr hf), (x9.fr hf), (ln_Scene.fr x10 hf (by omega)), (x11.fr hf), (x12.fr hf (by omega) (by have := x14.2.1; omega) (by have := x14.2.2.1; omega)), (x13.fr hf (fun q hq => (by have := x14.2.2.2.2.2.1 q hq; omega))), (x14.fr hf)⟩⟩) hf.cs)
    · refine az_iconst (v := (-1)) dX11_letter_21 ?_
      exact az_iret dX11_letter_22 (hQN k9 hx hk63 (by omega))
  · refine az_bipush (v := (-3)) dX11_letter_6 ?_
    exact az_iret dX11_letter_8 (hQ3 (Int64.not_le.mp c2))
set_option maxHeartbeats 4000000 in
set_option maxRecDepth 100000 in
theorem p_count {d : Nat} {xl : Int32} {x : Int64} {tp fk mo ni K : Nat} {bt : Nat → Nat} {fp : Int32} {v : rd_V} {bs : List Nat} {U : ln_U} {im : Nat → Option (rd_V × ln_Z)} {tr : Nat → Option (Nat × List Int64)} {hp : az_Hp} {Q : Option Value → az_Hp → Prop} (hd : 6 ≤ d) (hC : cs hp ((tp, bt), (fk, fp), v, (mo, ni, bs), U, im, tr) K) (hQ2 : ¬ cs_in xl 6 → Q (some (.long (-2))) hp) (hQ3 : cs_in xl 6 → (∀ k, k ≤ (ln_str (rd_w v) bs).length → x ≠ lN k) → Q (some (.long (-3))) hp) (hQ : ∀ l k, xl = nI l → l < 6 → x = lN k → k ≤ (ln_str (rd_w v) bs).length → ∀ h', cs h' ((tp, bt), (fk, fp), v, (mo, ni, bs), U, im, tr) K → cs_f hp h' → Q (some (.long (lN (((ln_str (rd_w v) bs).take k).count l)))) h') : az_M mX11_count d 0 0 [.ref 0, .int xl, .long x] hp Q := by
  obtain ⟨hok, t, F, ia, kk, kt, x1, x2, x3, x4, x5, x6, x7, x8, x9, x10, x11, x12, x13, x14⟩ := id hC
  have hw : ln_ok (rd_w v) := hok.2.2.1.1
  have hlaw : ln_law (rd_w v) v.2.2.2.2.2.2.2.1 v.2.2.2.2.2.2.2.2 := hok.2.2.1.2
  have hba : ln_ba (rd_w v) bs := hok.2.2.2.1
  have hb : ln_by (rd_w v) bs := hba.b
  have x4 : ln_Past hp 6 U := x4
  have x5 : cs_im hp im ia F := x5
  have x6 : cs_tr hp tr := x6
  have x10 : ln_Scene hp 30 t (rd_w v) mo ni bs := x10
  have x13 : ln_Tf hp t (rd_w v) F := x13
  have x14 : cs_ad hp im F ia kk kt := x14
  obtain ⟨hi, fr, la, no, wa, nc, g0, gc, -⟩ := id x10
  have hT := x13.to (lo := 12) (hi := 15) (fun q hq => (by have := x14.2.2.2.2.2.1 q hq; omega))
  obtain ⟨sv3, sv4, sf1, sf2, sv0, -⟩ := id x7
  have hlen := hb.2.2
  refine az_M.of rfl (Nat.le_of_ble_eq_true rfl) ?_
  show az_W _ _ _ _ 0 [(0, .ref 0), (1, .int xl), (2, .long x)] [] _ _
  refine az_iload_n dX11_count_0 ?_
  refine az_i2l dX11_count_1 ?_
  refine az_cS0 (st := []) dX11_count_2 ml_X11_112 (p_isLetter (d := d - 1) ?_ ?_)
  · intro l hxl hl
    have hxl2 := I_J (by omega) hxl
    have i1 := (cs_in_n (k := 6) hl (by omega)).1
    rw [← hxl2] at i1
    refine az_if_neN (tgt := 12) dX11_count_5 (fun c5 => ?_) (fun c5 => ?_)
    · refine az_lload_n dX11_count_12 ?_
      refine az_lconst (v := lN 0) dX11_count_13 ?_
      refine az_lcmp_lt (tgt := 30) dX11_count_14 dX11_count_15 (fun c14 => ?_) (fun c14 => ?_)
      · refine az_ldc2 (v := (-3)) dX11_count_30 cn_X11_150 ?_
        exact az_lret dX11_count_33 (hQ3 i1 (fun k9 hk hx => (by first | (rw [hx] at c14; exact absurd ((lN_ltN (by omega) (by omega)).mp c14) (by omega)) | (rw [hx] at c26; exact c26 ((lN_leN (by omega) (by omega)).mpr hk)))))
      · refine az_lload_n dX11_count_18 ?_
        refine az_aload_n dX11_count_19 ?_
        refine az_getf (v := .ref 30) dX11_count_20 fl_X11_66 x1 ?_
        refine az_getf (v := .long (lN ((ln_str (rd_w v) bs).length))) dX11_count_23 fl_X11_136 g0 ?_
        refine az_lcmp_le (tgt := 34) dX11_count_26 dX11_count_27 (fun c26 => ?_) (fun c26 => ?_)
        · obtain ⟨k9, hk63, hx⟩ := J_of c14
          have hk9 : k9 ≤ (ln_str (rd_w v) bs).length := (by rw [hx] at c26; exact (lN_leN (by omega) (by omega)).mp c26)
          rw [hxl2, hx]
          refine az_lload_n dX11_count_34 ?_
          refine az_aload_n dX11_count_35 ?_
          refine az_getf (v := .ref 30) dX11_count_36 fl_X11_66 x1 ?_
          refine az_getf (v := .long (lN ((ln_str (rd_w v) bs).length))) dX11_count_39 fl_X11_136 g0 ?_
          refine az_lcmp_neN (tgt := 56) dX11_count_42 dX11_count_43 (fun c42 => ?_) (fun c42 => ?_)
          · refine az_aload_n dX11_count_56 ?_
            refine az_getf (v := .ref 12) dX11_count_57 fl_X11_42 x1 ?_
            refine az_aload_n dX11_count_60 ?_
            refine az_getf (v := .ref 30) dX11_count_61 fl_X11_66 x1 ?_
            refine az_cV0 (st := []) dX11_count_64 ml_X11_140 sv0 (s_measure (d := d - 1) (s := 12) (a := 30) (by omega) hw hb hT x10 (by omega) x7 ?_)
            intro h1 hV1 hf1
            obtain ⟨mv3, mv4, mg, mf, mv0, -⟩ := id hV1
            have hS1 := ln_Scene.fr x10 hf1 (by omega)
            refine az_aload_n dX11_count_67 ?_
            refine az_getf (v := .ref 12) dX11_count_68 fl_X11_42 (hf1.at x1) ?_
            refine az_aload_n dX11_count_71 ?_
            refine az_getf (v := .ref 30) dX11_count_72 fl_X11_66 (hf1.at x1) ?_
            refine az_iload_n dX11_count_75 ?_
            refine az_lload_n dX11_count_76 ?_
            refine az_cV0 (st := []) dX11_count_77 ml_X11_156 mv0 (s_countAhead (d := d - 1) (s := 12) (a := 30) (c := l) (k := k9) (by omega) hw hb (hT.fr hf1) hS1 (by omega) hV1 hl (by omega) ?_)
            intro h2 hV2 hf2
            have hf := hf1.tr hf2
            exact az_lret dX11_count_80 (hQ l k9 hxl2 hl hx (by omega) h2 (by exact ⟨hok, ⟨t, F, ia, kk, kt, (hf.at x1), (x2.fr hf), (x3.fr hf), (ln_PastX.fr x4 hf (by omega)), (x5.fr hf x14), (x6.fr hf), hV2.s, (x8.fr hf), (x9.fr hf), (ln_Scene.fr x10 hf (by omega)), (x11.fr hf), (x12.fr hf (by omega) (by have := x14.2.1; omega) (by have := x14.2.2.1; omega)), (x13.fr hf (fun q hq => (by have := x14.2.2.2.2.2.1 q hq; omega))), (x14.fr hf)⟩⟩) hf.cs)
          · refine az_aload_n dX11_count_46 ?_
            refine az_getf (v := .ref 30) dX11_count_47 fl_X11_66 x1 ?_
            refine az_getf (v := .ref (30 + 1)) dX11_count_50 fl_X11_152 g0 ?_
            refine az_iload_n dX11_count_53 ?_
            refine az_laldN (j := l) dX11_count_54 gc ?_
            exact az_lret dX11_count_55 (by have h9 := hQ l k9 hxl2 hl hx (by omega) hp hC cs_f.rf; rw [c42, List.take_length] at h9; exact h9)
        · refine az_ldc2 (v := (-3)) dX11_count_30 cn_X11_150 ?_
          exact az_lret dX11_count_33 (hQ3 i1 (fun k9 hk hx => (by first | (rw [hx] at c14; exact absurd ((lN_ltN (by omega) (by omega)).mp c14) (by omega)) | (rw [hx] at c26; exact c26 ((lN_leN (by omega) (by omega)).mpr hk)))))
    · exact absurd c5 (by omega)
  · intro hnl
    refine az_if_neN (tgt := 12) dX11_count_5 (fun c5 => ?_) (fun c5 => ?_)
    · exact absurd c5 (by omega)
    · refine az_ldc2 (v := (-2)) dX11_count_8 cn_X11_148 ?_
      exact az_lret dX11_count_11 (hQ2 (cs_no (fun n hn hx => hnl n hn (by rw [hx]; exact J_I (by omega)))))
set_option maxHeartbeats 4000000 in
set_option maxRecDepth 100000 in
theorem p_place {d : Nat} {xl : Int32} {x : Int64} {tp fk mo ni K : Nat} {bt : Nat → Nat} {fp : Int32} {v : rd_V} {bs : List Nat} {U : ln_U} {im : Nat → Option (rd_V × ln_Z)} {tr : Nat → Option (Nat × List Int64)} {hp : az_Hp} {Q : Option Value → az_Hp → Prop} (hd : 6 ≤ d) (hC : cs hp ((tp, bt), (fk, fp), v, (mo, ni, bs), U, im, tr) K) (hQ2 : ¬ cs_in xl 6 → Q (some (.long (-2))) hp) (hQ3 : cs_in xl 6 → x < lN 1 → Q (some (.long (-3))) hp) (hQN : ∀ l k, xl = nI l → l < 6 → x = lN k → 1 ≤ k → k < 2 ^ 63 → (ln_str (rd_w v) bs).count l < k → Q (some (.long (-1))) hp) (hQ : ∀ l k, xl = nI l → l < 6 → x = lN k → 1 ≤ k → k ≤ (ln_str (rd_w v) bs).count l → ∀ h', cs h' ((tp, bt), (fk, fp), v, (mo, ni, bs), U, im, tr) K → cs_f hp h' → Q (some (.long (lN (ln_pos l (ln_str (rd_w v) bs) (k - 1))))) h') : az_M mX11_place d 0 0 [.ref 0, .int xl, .long x] hp Q := by
  obtain ⟨hok, t, F, ia, kk, kt, x1, x2, x3, x4, x5, x6, x7, x8, x9, x10, x11, x12, x13, x14⟩ := id hC
  have hw : ln_ok (rd_w v) := hok.2.2.1.1
  have hlaw : ln_law (rd_w v) v.2.2.2.2.2.2.2.1 v.2.2.2.2.2.2.2.2 := hok.2.2.1.2
  have hba : ln_ba (rd_w v) bs := hok.2.2.2.1
  have hb : ln_by (rd_w v) bs := hba.b
  have x4 : ln_Past hp 6 U := x4
  have x5 : cs_im hp im ia F := x5
  have x6 : cs_tr hp tr := x6
  have x10 : ln_Scene hp 30 t (rd_w v) mo ni bs := x10
  have x13 : ln_Tf hp t (rd_w v) F := x13
  have x14 : cs_ad hp im F ia kk kt := x14
  obtain ⟨hi, fr, la, no, wa, nc, g0, gc, -⟩ := id x10
  have hT := x13.to (lo := 12) (hi := 15) (fun q hq => (by have := x14.2.2.2.2.2.1 q hq; omega))
  obtain ⟨sv3, sv4, sf1, sf2, sv0, -⟩ := id x7
  have hlen := hb.2.2
  refine az_M.of rfl (Nat.le_of_ble_eq_true rfl) ?_
  show az_W _ _ _ _ 0 [(0, .ref 0), (1, .int xl), (2, .long x)] [] _ _
  refine az_iload_n dX11_place_0 ?_
  refine az_i2l dX11_place_1 ?_
  refine az_cS0 (st := []) dX11_place_2 ml_X11_112 (p_isLetter (d := d - 1) ?_ ?_)
  · intro l hxl hl
    have hxl2 := I_J (by omega) hxl
    have i1 := (cs_in_n (k := 6) hl (by omega)).1
    rw [← hxl2] at i1
    have hcl := List.count_le_length (a := l) (l := (ln_str (rd_w v) bs))
    refine az_if_neN (tgt := 12) dX11_place_5 (fun c5 => ?_) (fun c5 => ?_)
    · refine az_lload_n dX11_place_12 ?_
      refine az_lconst (v := lN 1) dX11_place_13 ?_
      refine az_lcmp_ge (tgt := 22) dX11_place_14 dX11_place_15 (fun c14 => ?_) (fun c14 => ?_)
      · obtain ⟨k9, hk63, hx⟩ := J_of (x := x) (fun q9 => (by have h8 := Int64.le_iff_toInt_le.mp c14; have h7 := Int64.lt_iff_toInt_lt.mp q9; rw [lN_toI (by decide)] at h8 h7; omega))
        have hk1 : 1 ≤ k9 := (by rw [hx] at c14; exact (lN_leN (by omega) (by omega)).mp c14)
        rw [hxl2, hx]
        refine az_lload_n dX11_place_22 ?_
        refine az_aload_n dX11_place_23 ?_
        refine az_getf (v := .ref 30) dX11_place_24 fl_X11_66 x1 ?_
        refine az_getf (v := .ref (30 + 1)) dX11_place_27 fl_X11_152 g0 ?_
        refine az_iload_n dX11_place_30 ?_
        refine az_laldN (j := l) dX11_place_31 gc ?_
        refine az_lcmp_leN (tgt := 40) dX11_place_32 dX11_place_33 (fun c32 => ?_) (fun c32 => ?_)
        · refine az_aload_n dX11_place_40 ?_
          refine az_getf (v := .ref 12) dX11_place_41 fl_X11_42 x1 ?_
          refine az_aload_n dX11_place_44 ?_
          refine az_getf (v := .ref 30) dX11_place_45 fl_X11_66 x1 ?_
          refine az_cV0 (st := []) dX11_place_48 ml_X11_140 sv0 (s_measure (d := d - 1) (s := 12) (a := 30) (by omega) hw hb hT x10 (by omega) x7 ?_)
          intro h1 hV1 hf1
          obtain ⟨mv3, mv4, mg, mf, mv0, -⟩ := id hV1
          have hS1 := ln_Scene.fr x10 hf1 (by omega)
          refine az_aload_n dX11_place_51 ?_
          refine az_getf (v := .ref 12) dX11_place_52 fl_X11_42 (hf1.at x1) ?_
          refine az_aload_n dX11_place_55 ?_
          refine az_getf (v := .ref 30) dX11_place_56 fl_X11_66 (hf1.at x1) ?_
          refine az_iload_n dX11_place_59 ?_
          refine az_lload_n dX11_place_60 ?_
          refine az_lconst (v := lN 1) dX11_place_61 ?_
          refine az_lsubN dX11_place_62 (by omega) ?_
          refine az_cV0 (st := []) dX11_place_63 ml_X11_162 mv0 (s_placeOf (d := d - 1) (s := 12) (a := 30) (c := l) (k := k9 - 1) (by omega) hw hb (hT.fr hf1) hS1 (by omega) hV1 hl (by omega) ?_)
          intro h2 hV2 hf2
          have hf := hf1.tr hf2
          exact az_lret dX11_place_66 (hQ l k9 hxl2 hl hx hk1 (by omega) h2 (by exact ⟨hok, ⟨t, F, ia, kk, kt, (hf.at x1), (x2.fr hf), (x3.fr hf), (ln_PastX.fr x4 hf (by omega)), (x5.fr hf x14), (x6.fr hf), hV2.s, (x8.fr hf), (x9.fr hf), (ln_Scene.fr x10 hf (by omega)), (x11.fr hf), (x12.fr hf (by omega) (by have := x14.2.1; omega) (by have := x14.2.2.1; omega)), (x13.fr hf (fun q hq => (by have := x14.2.2.2.2.2.1 q hq; omega))), (x14.fr hf)⟩⟩) hf.cs)
        · refine az_ldc2 (v := (-1)) dX11_place_36 cn_X11_160 ?_
          exact az_lret dX11_place_39 (hQN l k9 hxl2 hl hx hk1 hk63 (by omega))
      · refine az_ldc2 (v := (-3)) dX11_place_18 cn_X11_150 ?_
        exact az_lret dX11_place_21 (hQ3 i1 (Int64.not_le.mp c14))
    · exact absurd c5 (by omega)
  · intro hnl
    refine az_if_neN (tgt := 12) dX11_place_5 (fun c5 => ?_) (fun c5 => ?_)
    · exact absurd c5 (by omega)
    · refine az_ldc2 (v := (-2)) dX11_place_8 cn_X11_148 ?_
      exact az_lret dX11_place_11 (hQ2 (cs_no (fun n hn hx => hnl n hn (by rw [hx]; exact J_I (by omega)))))

