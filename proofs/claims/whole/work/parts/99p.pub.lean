/-! LetterNights: words read back, fates, what comes -/
set_option maxHeartbeats 4000000 in
set_option maxRecDepth 100000 in
theorem p_backs {d : Nat} {x xt : Int32} {tp fk mo ni K : Nat} {bt : Nat → Nat} {fp : Int32} {v : rd_V} {bs : List Nat} {U : ln_U} {im : Nat → Option (rd_V × ln_Z)} {tr : Nat → Option (Nat × List Int64)} {hp : az_Hp} {Q : Option Value → az_Hp → Prop} (hd : 6 ≤ d) (hC : cs hp ((tp, bt), (fk, fp), v, (mo, ni, bs), U, im, tr) K) (hQ2 : ¬ (cs_in x 4 ∧ cs_in xt (ln_tb (rd_w v))) → Q (some (.int (-2))) hp) (hQ6 : ∀ n, x = nI n → n < 4 → cs_in xt (ln_tb (rd_w v)) → tr n = none → Q (some (.int (-6))) hp) (hQ4 : ∀ n y, x = nI n → n < 4 → cs_in xt (ln_tb (rd_w v)) → tr n = some y → ¬ (1 ≤ y.2.length ∧ y.2.length ≤ 6) → Q (some (.int (-4))) hp) (hQ3 : ∀ n y, x = nI n → n < 4 → cs_in xt (ln_tb (rd_w v)) → tr n = some y → 1 ≤ y.2.length → y.2.length ≤ 6 → ¬ cs_wd y.2 → Q (some (.int (-3))) hp) (hQ : ∀ n y tb, x = nI n → n < 4 → xt = nI tb → tb < ln_tb (rd_w v) → tr n = some y → 1 ≤ y.2.length → y.2.length ≤ 6 → cs_wd y.2 → ∀ h', cs h' ((tp, bt), (fk, fp), v, (mo, ni, bs), U, im, tr) K → cs_f hp h' → Q (some (.int (nI (fw (rd_w v) tb (cs_g y.2) y.2.length y.2.length 0)))) h') : az_M mX11_backs d 0 0 [.ref 0, .int x, .int xt] hp Q := by
  obtain ⟨hok, t, F, ia, kk, kt, x1, x2, x3, x4, x5, x6, x7, x8, x9, x10, x11, x12, x13, x14⟩ := id hC
  have hw : ln_ok (rd_w v) := hok.2.2.1.1
  have hlaw : ln_law (rd_w v) v.2.2.2.2.2.2.2.1 v.2.2.2.2.2.2.2.2 := hok.2.2.1.2
  have hba : ln_ba (rd_w v) bs := hok.2.2.2.1
  have hb : ln_by (rd_w v) bs := hba.b
  have x4 : ln_Past hp 6 U := x4
  have x5 : cs_im hp im ia F := x5
  have x6 : cs_tr hp tr := x6
  have x10 : ln_Scene hp 30 t (rd_w v) mo ni bs := x10
  have x13 : ln_Tf hp t (rd_w v) F := x13
  have x14 : cs_ad hp im F ia kk kt := x14
  obtain ⟨hi, fr, la, no, wa, nc, g0, -⟩ := id x10
  obtain ⟨a1, a5, a6, ff, ffb, fwb, fsG, fhN, i0, i1, i2, i3, i4, i5⟩ := id (show cs_fi hp from x8)
  obtain ⟨g, hg, hgt⟩ := id x6
  refine az_M.of rfl (Nat.le_of_ble_eq_true rfl) ?_
  show az_W _ _ _ _ 0 [(0, .ref 0), (1, .int x), (2, .int xt)] [] _ _
  refine az_aload_n dX11_backs_0 ?_
  refine az_iload_n dX11_backs_1 ?_
  refine az_iload_n dX11_backs_2 ?_
  refine az_cV0 (st := []) dX11_backs_3 ml_X11_240 x1 (p_refB (d := d - 1) (by omega) hC ?_ ?_ ?_ ?_ ?_)
  · intro hno
    refine az_istore_n (ls' := [(0, .ref 0), (1, .int x), (2, .int xt), (3, .int ((-2)))]) dX11_backs_6 ?_
    refine az_iload_n dX11_backs_7 ?_
    refine az_if_eq (tgt := 13) dX11_backs_8 (fun c8 => ?_) (fun c8 => ?_)
    · exact absurd c8 (by decide)
    · refine az_iload_n dX11_backs_11 ?_
      exact az_iret dX11_backs_12 (by first | exact hQ2 hno | exact hQ6 n hx hn it hno | exact hQ4 n y hx hn it hy h1 | exact hQ3 n y hx hn it hy h1 h6 hwd)
  · intro n hx hn it hno
    refine az_istore_n (ls' := [(0, .ref 0), (1, .int x), (2, .int xt), (3, .int ((-6)))]) dX11_backs_6 ?_
    refine az_iload_n dX11_backs_7 ?_
    refine az_if_eq (tgt := 13) dX11_backs_8 (fun c8 => ?_) (fun c8 => ?_)
    · exact absurd c8 (by decide)
    · refine az_iload_n dX11_backs_11 ?_
      exact az_iret dX11_backs_12 (by first | exact hQ2 hno | exact hQ6 n hx hn it hno | exact hQ4 n y hx hn it hy h1 | exact hQ3 n y hx hn it hy h1 h6 hwd)
  · intro n y hx hn it hy h1
    refine az_istore_n (ls' := [(0, .ref 0), (1, .int x), (2, .int xt), (3, .int ((-4)))]) dX11_backs_6 ?_
    refine az_iload_n dX11_backs_7 ?_
    refine az_if_eq (tgt := 13) dX11_backs_8 (fun c8 => ?_) (fun c8 => ?_)
    · exact absurd c8 (by decide)
    · refine az_iload_n dX11_backs_11 ?_
      exact az_iret dX11_backs_12 (by first | exact hQ2 hno | exact hQ6 n hx hn it hno | exact hQ4 n y hx hn it hy h1 | exact hQ3 n y hx hn it hy h1 h6 hwd)
  · intro n y hx hn it hy h1 h6 hwd
    refine az_istore_n (ls' := [(0, .ref 0), (1, .int x), (2, .int xt), (3, .int ((-3)))]) dX11_backs_6 ?_
    refine az_iload_n dX11_backs_7 ?_
    refine az_if_eq (tgt := 13) dX11_backs_8 (fun c8 => ?_) (fun c8 => ?_)
    · exact absurd c8 (by decide)
    · refine az_iload_n dX11_backs_11 ?_
      exact az_iret dX11_backs_12 (by first | exact hQ2 hno | exact hQ6 n hx hn it hno | exact hQ4 n y hx hn it hy h1 | exact hQ3 n y hx hn it hy h1 h6 hwd)
  · intro n y hx hn it hy h1 h6 hwd
    have hgn := (hgt n hn).1
    have hgR := (hgt n hn).2
    rw [hy] at hgR
    obtain ⟨hl40, hs3, f, q0, -⟩ := id hgR
    obtain ⟨tb, htb, htb3⟩ : ∃ tb, xt = nI tb ∧ tb < ln_tb (rd_w v) := ⟨_, cs_in_of it⟩
    have htbm := hw.2.1
    refine az_istore_n (ls' := [(0, .ref 0), (1, .int x), (2, .int xt), (3, .int (nI 0))]) dX11_backs_6 ?_
    refine az_iload_n dX11_backs_7 ?_
    refine az_if_eqN (tgt := 13) dX11_backs_8 (fun c8 => ?_) (fun c8 => ?_)
    · rw [hx, htb]
      refine az_aload_n dX11_backs_13 ?_
      refine az_getf (v := .ref 15) dX11_backs_14 fl_X11_49 x1 ?_
      refine az_aload_n dX11_backs_17 ?_
      refine az_getf (v := .ref 11) dX11_backs_18 fl_X11_35 x1 ?_
      refine az_iload_n dX11_backs_21 ?_
      refine az_aaldN (j := n) dX11_backs_22 hg ?_
      rw [hgn]
      refine az_aload_n dX11_backs_23 ?_
      refine az_getf (v := .ref 30) dX11_backs_24 fl_X11_66 x1 ?_
      refine az_getf (v := .ref t) dX11_backs_27 fl_X11_116 g0 ?_
      refine az_iload_n dX11_backs_30 ?_
      refine az_cV0 (st := []) dX11_backs_31 ml_X11_243 i0 (s_readBack (d := d - 1) (q := 15) (n := y.2.length) (g := cs_g y.2) (xt := y) (t := t) (w := rd_w v) (tb := tb) (by omega) hw (x13.to (lo := 15) (hi := 21) (fun q hq => (by have := x14.2.2.2.2.2.1 q hq; omega))) hgR (by omega) rfl h6 (fun i hi => (hwd i hi).2) (fun i hi => (hwd i hi).1) (by omega) i0 i5 ?_)
      intro f9 hf9
      have hf := (az_fr.rf (h := hp) (lo := 15) (hi := 21)).up (a := 15 + 5) (c := az_I 7 f9)
      refine az_aload_n dX11_backs_34 ?_
      refine az_getf (v := .ref 15) dX11_backs_35 fl_X11_49 (az_up_ne x1) ?_
      refine az_getf (v := .ref (15 + 5)) dX11_backs_38 fl_X11_247 (az_up_ne i0) ?_
      refine az_iconst (v := nI 0) dX11_backs_41 ?_
      refine az_ialdN (j := 0) dX11_backs_42 az_up_eq ?_
      exact az_iret dX11_backs_43 (by first | (rw [hf9 0 (by omega)]; exact hQ n y tb hx hn htb htb3 hy h1 h6 hwd _ ⟨hok, ⟨t, F, ia, kk, kt, (hf.at x1), (x2.fr hf), (x3.fr hf), (ln_PastX.fr x4 hf (by omega)), (x5.fr hf x14), (x6.fr hf), (x7.fr hf), ⟨_, _, _, ff, ffb, f9, fsG, fhN, az_up_ne i0, az_up_ne i1, az_up_ne i2, az_up_ne i3, az_up_ne i4, az_up_eq⟩, (x9.fr hf), (ln_Scene.fr x10 hf (by omega)), (x11.fr hf), (x12.fr hf (by omega) (by have := x14.2.1; omega) (by have := x14.2.2.1; omega)), (x13.fr hf (fun q hq => (by have := x14.2.2.2.2.2.1 q hq; omega))), (x14.fr hf)⟩⟩ hf.cs) | (show Q (some (.int (f9 0))) _; rw [hf9 0 (by omega)]; exact hQ n y tb hx hn htb htb3 hy h1 h6 hwd _ ⟨hok, ⟨t, F, ia, kk, kt, (hf.at x1), (x2.fr hf), (x3.fr hf), (ln_PastX.fr x4 hf (by omega)), (x5.fr hf x14), (x6.fr hf), (x7.fr hf), ⟨_, _, _, ff, ffb, f9, fsG, fhN, az_up_ne i0, az_up_ne i1, az_up_ne i2, az_up_ne i3, az_up_ne i4, az_up_eq⟩, (x9.fr hf), (ln_Scene.fr x10 hf (by omega)), (x11.fr hf), (x12.fr hf (by omega) (by have := x14.2.1; omega) (by have := x14.2.2.1; omega)), (x13.fr hf (fun q hq => (by have := x14.2.2.2.2.2.1 q hq; omega))), (x14.fr hf)⟩⟩ hf.cs))
    · exact absurd c8 (by omega)
set_option maxHeartbeats 4000000 in
set_option maxRecDepth 100000 in
theorem p_backBy {d : Nat} {x xt xi : Int32} {tp fk mo ni K : Nat} {bt : Nat → Nat} {fp : Int32} {v : rd_V} {bs : List Nat} {U : ln_U} {im : Nat → Option (rd_V × ln_Z)} {tr : Nat → Option (Nat × List Int64)} {hp : az_Hp} {Q : Option Value → az_Hp → Prop} (hd : 6 ≤ d) (hC : cs hp ((tp, bt), (fk, fp), v, (mo, ni, bs), U, im, tr) K) (hQ2 : ¬ (cs_in x 4 ∧ cs_in xt (ln_tb (rd_w v))) → Q (some (.int (-2))) hp) (hQ6 : ∀ n, x = nI n → n < 4 → cs_in xt (ln_tb (rd_w v)) → tr n = none → Q (some (.int (-6))) hp) (hQ4 : ∀ n y, x = nI n → n < 4 → cs_in xt (ln_tb (rd_w v)) → tr n = some y → ¬ (1 ≤ y.2.length ∧ y.2.length ≤ 6) → Q (some (.int (-4))) hp) (hQ3 : ∀ n y, x = nI n → n < 4 → cs_in xt (ln_tb (rd_w v)) → tr n = some y → 1 ≤ y.2.length → y.2.length ≤ 6 → ¬ cs_wd y.2 → Q (some (.int (-3))) hp) (hQi : ∀ n y, x = nI n → n < 4 → cs_in xt (ln_tb (rd_w v)) → tr n = some y → 1 ≤ y.2.length → y.2.length ≤ 6 → cs_wd y.2 → xi < 0 → Q (some (.int (-3))) hp) (hQ : ∀ n y tb i, x = nI n → n < 4 → xt = nI tb → tb < ln_tb (rd_w v) → tr n = some y → 1 ≤ y.2.length → y.2.length ≤ 6 → cs_wd y.2 → xi = nI i → i < 2 ^ 31 → ∀ h', cs h' ((tp, bt), (fk, fp), v, (mo, ni, bs), U, im, tr) K → cs_f hp h' → Q (some (.int (ln_opt (fl_go (rd_w v) tb (cs_g y.2) y.2.length 7 0 i)))) h') : az_M mX11_backBy d 0 0 [.ref 0, .int x, .int xt, .int xi] hp Q := by
  obtain ⟨hok, t, F, ia, kk, kt, x1, x2, x3, x4, x5, x6, x7, x8, x9, x10, x11, x12, x13, x14⟩ := id hC
  have hw : ln_ok (rd_w v) := hok.2.2.1.1
  have hlaw : ln_law (rd_w v) v.2.2.2.2.2.2.2.1 v.2.2.2.2.2.2.2.2 := hok.2.2.1.2
  have hba : ln_ba (rd_w v) bs := hok.2.2.2.1
  have hb : ln_by (rd_w v) bs := hba.b
  have x4 : ln_Past hp 6 U := x4
  have x5 : cs_im hp im ia F := x5
  have x6 : cs_tr hp tr := x6
  have x10 : ln_Scene hp 30 t (rd_w v) mo ni bs := x10
  have x13 : ln_Tf hp t (rd_w v) F := x13
  have x14 : cs_ad hp im F ia kk kt := x14
  obtain ⟨hi, fr, la, no, wa, nc, g0, -⟩ := id x10
  obtain ⟨a1, a5, a6, ff, ffb, fwb, fsG, fhN, i0, i1, i2, i3, i4, i5⟩ := id (show cs_fi hp from x8)
  obtain ⟨g, hg, hgt⟩ := id x6
  refine az_M.of rfl (Nat.le_of_ble_eq_true rfl) ?_
  show az_W _ _ _ _ 0 [(0, .ref 0), (1, .int x), (2, .int xt), (3, .int xi)] [] _ _
  refine az_aload_n dX11_backBy_0 ?_
  refine az_iload_n dX11_backBy_1 ?_
  refine az_iload_n dX11_backBy_2 ?_
  refine az_cV0 (st := []) dX11_backBy_3 ml_X11_240 x1 (p_refB (d := d - 1) (by omega) hC ?_ ?_ ?_ ?_ ?_)
  · intro hno
    refine az_istore (ls' := [(0, .ref 0), (1, .int x), (2, .int xt), (3, .int xi), (4, .int ((-2)))]) dX11_backBy_6 ?_
    refine az_iload dX11_backBy_8 ?_
    refine az_if_eq (tgt := 16) dX11_backBy_10 (fun c10 => ?_) (fun c10 => ?_)
    · exact absurd c10 (by decide)
    · refine az_iload dX11_backBy_13 ?_
      exact az_iret dX11_backBy_15 (by first | exact hQ2 hno | exact hQ6 n hx hn it hno | exact hQ4 n y hx hn it hy h1 | exact hQ3 n y hx hn it hy h1 h6 hwd)
  · intro n hx hn it hno
    refine az_istore (ls' := [(0, .ref 0), (1, .int x), (2, .int xt), (3, .int xi), (4, .int ((-6)))]) dX11_backBy_6 ?_
    refine az_iload dX11_backBy_8 ?_
    refine az_if_eq (tgt := 16) dX11_backBy_10 (fun c10 => ?_) (fun c10 => ?_)
    · exact absurd c10 (by decide)
    · refine az_iload dX11_backBy_13 ?_
      exact az_iret dX11_backBy_15 (by first | exact hQ2 hno | exact hQ6 n hx hn it hno | exact hQ4 n y hx hn it hy h1 | exact hQ3 n y hx hn it hy h1 h6 hwd)
  · intro n y hx hn it hy h1
    refine az_istore (ls' := [(0, .ref 0), (1, .int x), (2, .int xt), (3, .int xi), (4, .int ((-4)))]) dX11_backBy_6 ?_
    refine az_iload dX11_backBy_8 ?_
    refine az_if_eq (tgt := 16) dX11_backBy_10 (fun c10 => ?_) (fun c10 => ?_)
    · exact absurd c10 (by decide)
    · refine az_iload dX11_backBy_13 ?_
      exact az_iret dX11_backBy_15 (by first | exact hQ2 hno | exact hQ6 n hx hn it hno | exact hQ4 n y hx hn it hy h1 | exact hQ3 n y hx hn it hy h1 h6 hwd)
  · intro n y hx hn it hy h1 h6 hwd
    refine az_istore (ls' := [(0, .ref 0), (1, .int x), (2, .int xt), (3, .int xi), (4, .int ((-3)))]) dX11_backBy_6 ?_
    refine az_iload dX11_backBy_8 ?_
    refine az_if_eq (tgt := 16) dX11_backBy_10 (fun c10 => ?_) (fun c10 => ?_)
    · exact absurd c10 (by decide)
    · refine az_iload dX11_backBy_13 ?_
      exact az_iret dX11_backBy_15 (by first | exact hQ2 hno | exact hQ6 n hx hn it hno | exact hQ4 n y hx hn it hy h1 | exact hQ3 n y hx hn it hy h1 h6 hwd)
  · intro n y hx hn it hy h1 h6 hwd
    have hgn := (hgt n hn).1
    have hgR := (hgt n hn).2
    rw [hy] at hgR
    obtain ⟨hl40, hs3, f, q0, -⟩ := id hgR
    obtain ⟨tb, htb, htb3⟩ : ∃ tb, xt = nI tb ∧ tb < ln_tb (rd_w v) := ⟨_, cs_in_of it⟩
    have htbm := hw.2.1
    refine az_istore (ls' := [(0, .ref 0), (1, .int x), (2, .int xt), (3, .int xi), (4, .int (nI 0))]) dX11_backBy_6 ?_
    refine az_iload dX11_backBy_8 ?_
    refine az_if_eqN (tgt := 16) dX11_backBy_10 (fun c10 => ?_) (fun c10 => ?_)
    · rw [hx, htb]
      refine az_iload_n dX11_backBy_16 ?_
      refine az_if_ge (tgt := 23) dX11_backBy_17 (fun c17 => ?_) (fun c17 => ?_)
      · obtain ⟨i, hi31, hxi⟩ := I_of (x := xi) (by first | exact Int32.not_lt.mpr c17 | exact c17)
        rw [hxi]
        refine az_aload_n dX11_backBy_23 ?_
        refine az_getf (v := .ref 15) dX11_backBy_24 fl_X11_49 x1 ?_
        refine az_aload_n dX11_backBy_27 ?_
        refine az_getf (v := .ref 11) dX11_backBy_28 fl_X11_35 x1 ?_
        refine az_iload_n dX11_backBy_31 ?_
        refine az_aaldN (j := n) dX11_backBy_32 hg ?_
        rw [hgn]
        refine az_aload_n dX11_backBy_33 ?_
        refine az_getf (v := .ref 30) dX11_backBy_34 fl_X11_66 x1 ?_
        refine az_getf (v := .ref t) dX11_backBy_37 fl_X11_116 g0 ?_
        refine az_iload_n dX11_backBy_40 ?_
        refine az_cV0 (st := []) dX11_backBy_41 ml_X11_243 i0 (s_readBack (d := d - 1) (q := 15) (n := y.2.length) (g := cs_g y.2) (xt := y) (t := t) (w := rd_w v) (tb := tb) (by omega) hw (x13.to (lo := 15) (hi := 21) (fun q hq => (by have := x14.2.2.2.2.2.1 q hq; omega))) hgR (by omega) rfl h6 (fun i hi => (hwd i hi).2) (fun i hi => (hwd i hi).1) (by omega) i0 i5 ?_)
        intro f9 hf9
        have hf := (az_fr.rf (h := hp) (lo := 15) (hi := 21)).up (a := 15 + 5) (c := az_I 7 f9)
        refine az_aload_n dX11_backBy_44 ?_
        refine az_getf (v := .ref 15) dX11_backBy_45 fl_X11_49 (az_up_ne x1) ?_
        refine az_aload_n dX11_backBy_48 ?_
        refine az_getf (v := .ref 11) dX11_backBy_49 fl_X11_35 (az_up_ne x1) ?_
        refine az_iload_n dX11_backBy_52 ?_
        refine az_aaldN (j := n) dX11_backBy_53 (az_up_ne hg) ?_
        rw [hgn]
        refine az_aload_n dX11_backBy_54 ?_
        refine az_getf (v := .ref 30) dX11_backBy_55 fl_X11_66 (az_up_ne x1) ?_
        refine az_getf (v := .ref t) dX11_backBy_58 fl_X11_116 (az_up_ne g0) ?_
        refine az_iload_n dX11_backBy_61 ?_
        refine az_iload_n dX11_backBy_62 ?_
        refine az_cV0 (st := []) dX11_backBy_63 ml_X11_251 (az_up_ne i0) (s_letterBack (d := d - 1) (q := 15) (n := y.2.length) (g := cs_g y.2) (xt := y) (t := t) (w := rd_w v) (tb := tb) (i := i) (f := f9) (by omega) hw (x13.fr hf (fun q hq => (by have := x14.2.2.2.2.2.1 q hq; omega))).town (hgR.eqv (hf.2 _ (by omega)) (hf.2 _ (by omega))) rfl h6 (fun i hi => (hwd i hi).2) (fun i hi => (hwd i hi).1) (by omega) hi31 (az_up_ne i0) az_up_eq hf9 ?_)
        exact az_iret dX11_backBy_66 (hQ n y tb i hx hn htb htb3 hy h1 h6 hwd hxi hi31 _ ⟨hok, ⟨t, F, ia, kk, kt, (hf.at x1), (x2.fr hf), (x3.fr hf), (ln_PastX.fr x4 hf (by omega)), (x5.fr hf x14), (x6.fr hf), (x7.fr hf), ⟨_, _, _, ff, ffb, f9, fsG, fhN, az_up_ne i0, az_up_ne i1, az_up_ne i2, az_up_ne i3, az_up_ne i4, az_up_eq⟩, (x9.fr hf), (ln_Scene.fr x10 hf (by omega)), (x11.fr hf), (x12.fr hf (by omega) (by have := x14.2.1; omega) (by have := x14.2.2.1; omega)), (x13.fr hf (fun q hq => (by have := x14.2.2.2.2.2.1 q hq; omega))), (x14.fr hf)⟩⟩ hf.cs)
      · refine az_bipush (v := (-3)) dX11_backBy_20 ?_
        exact az_iret dX11_backBy_22 (hQi n y hx hn it hy h1 h6 hwd (by first | exact Int32.not_le.mp c17 | exact c17))
    · exact absurd c10 (by omega)
set_option maxHeartbeats 4000000 in
set_option maxRecDepth 100000 in
theorem p_fate {d : Nat} {xt xl : Int32} {tp fk mo ni K : Nat} {bt : Nat → Nat} {fp : Int32} {v : rd_V} {bs : List Nat} {U : ln_U} {im : Nat → Option (rd_V × ln_Z)} {tr : Nat → Option (Nat × List Int64)} {hp : az_Hp} {Q : Option Value → az_Hp → Prop} (hd : 6 ≤ d) (hC : cs hp ((tp, bt), (fk, fp), v, (mo, ni, bs), U, im, tr) K) (hQ2 : ¬ (cs_in xt (ln_tb (rd_w v)) ∧ cs_in xl 6) → Q (some (.int (-2))) hp) (hQ : ∀ tn lt, xt = nI tn → tn < ln_tb (rd_w v) → xl = nI lt → lt < 6 → ∀ h', cs h' ((tp, bt), (fk, fp), v, (mo, ni, bs), U, im, tr) K → cs_f hp h' → Q (some (.int (nI (kn_ft (rd_w v) (kn_al (kn_0 (rd_w v) tn) 6) (kc_al (kn_al (kn_0 (rd_w v) tn) 6) 6) tn lt)))) h') : az_M mX11_fate d 0 0 [.ref 0, .int xt, .int xl] hp Q := by
  obtain ⟨hok, t, F, ia, kk, kt, x1, x2, x3, x4, x5, x6, x7, x8, x9, x10, x11, x12, x13, x14⟩ := id hC
  have hw : ln_ok (rd_w v) := hok.2.2.1.1
  have hlaw : ln_law (rd_w v) v.2.2.2.2.2.2.2.1 v.2.2.2.2.2.2.2.2 := hok.2.2.1.2
  have hba : ln_ba (rd_w v) bs := hok.2.2.2.1
  have hb : ln_by (rd_w v) bs := hba.b
  have x4 : ln_Past hp 6 U := x4
  have x5 : cs_im hp im ia F := x5
  have x6 : cs_tr hp tr := x6
  have x10 : ln_Scene hp 30 t (rd_w v) mo ni bs := x10
  have x13 : ln_Tf hp t (rd_w v) F := x13
  have x14 : cs_ad hp im F ia kk kt := x14
  obtain ⟨hi, fr, la, no, wa, nc, g0, -⟩ := id x10
  have htbm := hw.2.1
  obtain ⟨kf, kc, k0, k1, k2⟩ := id (show cs_ki hp from x9)
  refine az_M.of rfl (Nat.le_of_ble_eq_true rfl) ?_
  show az_W _ _ _ _ 0 [(0, .ref 0), (1, .int xt), (2, .int xl)] [] _ _
  refine az_aload_n dX11_fate_0 ?_
  refine az_iload_n dX11_fate_1 ?_
  refine az_cV0 (st := []) dX11_fate_2 ml_X11_108 x1 (p_isTable (d := d - 1) hC ?_ ?_)
  · intro tn hxt htn
    refine az_if_eqN (tgt := 16) dX11_fate_5 (fun c5 => ?_) (fun c5 => ?_)
    · exact absurd c5 (by omega)
    · refine az_iload_n dX11_fate_8 ?_
      refine az_i2l dX11_fate_9 ?_
      refine az_cS0 (st := []) dX11_fate_10 ml_X11_112 (p_isLetter (d := d - 1) ?_ ?_)
      · intro lt hxl hlt
        have hxl2 := I_J (by omega) hxl
        refine az_if_neN (tgt := 19) dX11_fate_13 (fun c13 => ?_) (fun c13 => ?_)
        · rw [hxt, hxl2]
          refine az_aload_n dX11_fate_19 ?_
          refine az_getf (v := .ref 21) dX11_fate_20 fl_X11_56 x1 ?_
          refine az_aload_n dX11_fate_23 ?_
          refine az_getf (v := .ref 30) dX11_fate_24 fl_X11_66 x1 ?_
          refine az_getf (v := .ref t) dX11_fate_27 fl_X11_116 g0 ?_
          refine az_iload_n dX11_fate_30 ?_
          refine az_cV0 (st := []) dX11_fate_31 ml_X11_255 k0 (s_learn2 (d := d - 1) (q := 21) (t := t) (tb := tn) (w := (rd_w v)) (by omega) hw (x13.to (lo := 21) (hi := 24) (fun q hq => (by have := x14.2.2.2.2.2.1 q hq; omega))) (by omega) k0 k1 k2 ?_)
          intro h1 m0 m1 m2 hf
          have hKF : ∀ y, (kn_al (kn_0 (rd_w v) tn) 6) y < 64 := kn_al_lt (kn_0_lt hw tn) 6
          have hT1 := (x13.fr hf (fun q hq => (by have := x14.2.2.2.2.2.1 q hq; omega))).town
          have hH1 : cs h1 ((tp, bt), (fk, fp), v, (mo, ni, bs), U, im, tr) K := ⟨hok, ⟨t, F, ia, kk, kt, (hf.at x1), (x2.fr hf), (x3.fr hf), (ln_PastX.fr x4 hf (by omega)), (x5.fr hf x14), (x6.fr hf), (x7.fr hf), (x8.fr hf), ⟨_, _, m0, m1, m2⟩, (ln_Scene.fr x10 hf (by omega)), (x11.fr hf), (x12.fr hf (by omega) (by have := x14.2.1; omega) (by have := x14.2.2.1; omega)), (x13.fr hf (fun q hq => (by have := x14.2.2.2.2.2.1 q hq; omega))), (x14.fr hf)⟩⟩
          refine az_aload_n dX11_fate_34 ?_
          refine az_getf (v := .ref 21) dX11_fate_35 fl_X11_56 (hf.at x1) ?_
          refine az_aload_n dX11_fate_38 ?_
          refine az_getf (v := .ref 30) dX11_fate_39 fl_X11_66 (hf.at x1) ?_
          refine az_getf (v := .ref t) dX11_fate_42 fl_X11_116 (hf.at g0) ?_
          refine az_iload_n dX11_fate_45 ?_
          refine az_iload_n dX11_fate_46 ?_
          refine az_cV0 (st := []) dX11_fate_47 ml_X11_258 m0 (s_fateOf (d := d - 1) (q := 21) (t := t) (tb := tn) (x := lt) (m := 36) (w := (rd_w v)) (by omega) hw hT1 (by omega) hlt m0 m1 m2 hKF (kc_al_le _ 6) (by omega) ?_)
          exact az_iret dX11_fate_50 (hQ tn lt hxt htn hxl2 hlt h1 hH1 hf.cs)
        · exact absurd c13 (by omega)
      · intro hnl
        refine az_if_neN (tgt := 19) dX11_fate_13 (fun c13 => ?_) (fun c13 => ?_)
        · exact absurd c13 (by omega)
        · refine az_bipush (v := (-2)) dX11_fate_16 ?_
          exact az_iret dX11_fate_18 (by first | exact hQ2 (fun q9 => cs_no hno q9.1) | exact hQ2 (fun q9 => cs_no (fun n hn hx => hnl n hn (by rw [hx]; exact J_I (by omega))) q9.2))
  · intro hno
    refine az_if_eqN (tgt := 16) dX11_fate_5 (fun c5 => ?_) (fun c5 => ?_)
    · refine az_bipush (v := (-2)) dX11_fate_16 ?_
      exact az_iret dX11_fate_18 (by first | exact hQ2 (fun q9 => cs_no hno q9.1) | exact hQ2 (fun q9 => cs_no (fun n hn hx => hnl n hn (by rw [hx]; exact J_I (by omega))) q9.2))
    · exact absurd c5 (by omega)
set_option maxHeartbeats 4000000 in
set_option maxRecDepth 100000 in
theorem p_degree {d : Nat} {xt xl : Int32} {tp fk mo ni K : Nat} {bt : Nat → Nat} {fp : Int32} {v : rd_V} {bs : List Nat} {U : ln_U} {im : Nat → Option (rd_V × ln_Z)} {tr : Nat → Option (Nat × List Int64)} {hp : az_Hp} {Q : Option Value → az_Hp → Prop} (hd : 6 ≤ d) (hC : cs hp ((tp, bt), (fk, fp), v, (mo, ni, bs), U, im, tr) K) (hQ2 : ¬ (cs_in xt (ln_tb (rd_w v)) ∧ cs_in xl 6) → Q (some (.int (-2))) hp) (hQ : ∀ tn lt, xt = nI tn → tn < ln_tb (rd_w v) → xl = nI lt → lt < 6 → ∀ h', cs h' ((tp, bt), (fk, fp), v, (mo, ni, bs), U, im, tr) K → cs_f hp h' → Q (some (.int (if (kn_ft (rd_w v) (kn_al (kn_0 (rd_w v) tn) 6) (kc_al (kn_al (kn_0 (rd_w v) tn) 6) 6) tn lt) = 2 then nI (kn_cf (kn_al (kn_0 (rd_w v) tn) 6) (kc_al (kn_al (kn_0 (rd_w v) tn) 6) 6) lt 6 - 1) else (-1)))) h') : az_M mX11_degree d 0 0 [.ref 0, .int xt, .int xl] hp Q := by
  obtain ⟨hok, t, F, ia, kk, kt, x1, x2, x3, x4, x5, x6, x7, x8, x9, x10, x11, x12, x13, x14⟩ := id hC
  have hw : ln_ok (rd_w v) := hok.2.2.1.1
  have hlaw : ln_law (rd_w v) v.2.2.2.2.2.2.2.1 v.2.2.2.2.2.2.2.2 := hok.2.2.1.2
  have hba : ln_ba (rd_w v) bs := hok.2.2.2.1
  have hb : ln_by (rd_w v) bs := hba.b
  have x4 : ln_Past hp 6 U := x4
  have x5 : cs_im hp im ia F := x5
  have x6 : cs_tr hp tr := x6
  have x10 : ln_Scene hp 30 t (rd_w v) mo ni bs := x10
  have x13 : ln_Tf hp t (rd_w v) F := x13
  have x14 : cs_ad hp im F ia kk kt := x14
  obtain ⟨hi, fr, la, no, wa, nc, g0, -⟩ := id x10
  have htbm := hw.2.1
  obtain ⟨kf, kc, k0, k1, k2⟩ := id (show cs_ki hp from x9)
  refine az_M.of rfl (Nat.le_of_ble_eq_true rfl) ?_
  show az_W _ _ _ _ 0 [(0, .ref 0), (1, .int xt), (2, .int xl)] [] _ _
  refine az_aload_n dX11_degree_0 ?_
  refine az_iload_n dX11_degree_1 ?_
  refine az_cV0 (st := []) dX11_degree_2 ml_X11_108 x1 (p_isTable (d := d - 1) hC ?_ ?_)
  · intro tn hxt htn
    refine az_if_eqN (tgt := 16) dX11_degree_5 (fun c5 => ?_) (fun c5 => ?_)
    · exact absurd c5 (by omega)
    · refine az_iload_n dX11_degree_8 ?_
      refine az_i2l dX11_degree_9 ?_
      refine az_cS0 (st := []) dX11_degree_10 ml_X11_112 (p_isLetter (d := d - 1) ?_ ?_)
      · intro lt hxl hlt
        have hxl2 := I_J (by omega) hxl
        refine az_if_neN (tgt := 19) dX11_degree_13 (fun c13 => ?_) (fun c13 => ?_)
        · rw [hxt, hxl2]
          refine az_aload_n dX11_degree_19 ?_
          refine az_getf (v := .ref 21) dX11_degree_20 fl_X11_56 x1 ?_
          refine az_aload_n dX11_degree_23 ?_
          refine az_getf (v := .ref 30) dX11_degree_24 fl_X11_66 x1 ?_
          refine az_getf (v := .ref t) dX11_degree_27 fl_X11_116 g0 ?_
          refine az_iload_n dX11_degree_30 ?_
          refine az_cV0 (st := []) dX11_degree_31 ml_X11_255 k0 (s_learn2 (d := d - 1) (q := 21) (t := t) (tb := tn) (w := (rd_w v)) (by omega) hw (x13.to (lo := 21) (hi := 24) (fun q hq => (by have := x14.2.2.2.2.2.1 q hq; omega))) (by omega) k0 k1 k2 ?_)
          intro h1 m0 m1 m2 hf
          have hKF : ∀ y, (kn_al (kn_0 (rd_w v) tn) 6) y < 64 := kn_al_lt (kn_0_lt hw tn) 6
          have hT1 := (x13.fr hf (fun q hq => (by have := x14.2.2.2.2.2.1 q hq; omega))).town
          have hH1 : cs h1 ((tp, bt), (fk, fp), v, (mo, ni, bs), U, im, tr) K := ⟨hok, ⟨t, F, ia, kk, kt, (hf.at x1), (x2.fr hf), (x3.fr hf), (ln_PastX.fr x4 hf (by omega)), (x5.fr hf x14), (x6.fr hf), (x7.fr hf), (x8.fr hf), ⟨_, _, m0, m1, m2⟩, (ln_Scene.fr x10 hf (by omega)), (x11.fr hf), (x12.fr hf (by omega) (by have := x14.2.1; omega) (by have := x14.2.2.1; omega)), (x13.fr hf (fun q hq => (by have := x14.2.2.2.2.2.1 q hq; omega))), (x14.fr hf)⟩⟩
          refine az_aload_n dX11_degree_34 ?_
          refine az_getf (v := .ref 21) dX11_degree_35 fl_X11_56 (hf.at x1) ?_
          refine az_aload_n dX11_degree_38 ?_
          refine az_getf (v := .ref 30) dX11_degree_39 fl_X11_66 (hf.at x1) ?_
          refine az_getf (v := .ref t) dX11_degree_42 fl_X11_116 (hf.at g0) ?_
          refine az_iload_n dX11_degree_45 ?_
          refine az_iload_n dX11_degree_46 ?_
          refine az_cV0 (st := []) dX11_degree_47 ml_X11_258 m0 (s_fateOf (d := d - 1) (q := 21) (t := t) (tb := tn) (x := lt) (m := 36) (w := (rd_w v)) (by omega) hw hT1 (by omega) hlt m0 m1 m2 hKF (kc_al_le _ 6) (by omega) ?_)
          have hft : (kn_ft (rd_w v) (kn_al (kn_0 (rd_w v) tn) 6) (kc_al (kn_al (kn_0 (rd_w v) tn) 6) 6) tn lt) < 4 := (by unfold kn_ft; split <;> (try split) <;> (try split) <;> omega)
          refine az_iconst (v := nI 2) dX11_degree_50 ?_
          refine az_icmp_eqN (tgt := 56) dX11_degree_51 (fun c51 => ?_) (fun c51 => ?_)
          · refine az_aload_n dX11_degree_56 ?_
            refine az_getf (v := .ref 21) dX11_degree_57 fl_X11_56 (hf.at x1) ?_
            refine az_iload_n dX11_degree_60 ?_
            refine az_cV0 (st := []) dX11_degree_61 ml_X11_262 m0 (s_chainFrom (d := d - 1) (q := 21) (x := lt) (m := 36) (by omega) m0 m1 m2 hKF hlt (kc_al_le _ 6) (by omega) ?_)
            have hcf : 1 ≤ kn_cf (kn_al (kn_0 (rd_w v) tn) 6) (kc_al (kn_al (kn_0 (rd_w v) tn) 6) 6) lt 6 := (Nat.pos_of_ne_zero (fun q9 => (by rw [kn_ft, if_pos q9] at c51; omega)))
            have hcl : kn_cf (kn_al (kn_0 (rd_w v) tn) 6) (kc_al (kn_al (kn_0 (rd_w v) tn) 6) 6) lt 6 ≤ 36 := kn_cf_le (kc_al_le _ 6) 6
            refine az_iconst (v := nI 1) dX11_degree_64 ?_
            refine az_isubN dX11_degree_65 (by omega) ?_
            exact az_iret dX11_degree_66 (by have h8 := hQ tn lt hxt htn hxl2 hlt h1 hH1 hf.cs; rw [if_pos (by omega)] at h8; exact h8)
          · refine az_iconst (v := (-1)) dX11_degree_54 ?_
            exact az_iret dX11_degree_55 (by have h8 := hQ tn lt hxt htn hxl2 hlt h1 hH1 hf.cs; rw [if_neg (by omega)] at h8; exact h8)
        · exact absurd c13 (by omega)
      · intro hnl
        refine az_if_neN (tgt := 19) dX11_degree_13 (fun c13 => ?_) (fun c13 => ?_)
        · exact absurd c13 (by omega)
        · refine az_bipush (v := (-2)) dX11_degree_16 ?_
          exact az_iret dX11_degree_18 (by first | exact hQ2 (fun q9 => cs_no hno q9.1) | exact hQ2 (fun q9 => cs_no (fun n hn hx => hnl n hn (by rw [hx]; exact J_I (by omega))) q9.2))
  · intro hno
    refine az_if_eqN (tgt := 16) dX11_degree_5 (fun c5 => ?_) (fun c5 => ?_)
    · refine az_bipush (v := (-2)) dX11_degree_16 ?_
      exact az_iret dX11_degree_18 (by first | exact hQ2 (fun q9 => cs_no hno q9.1) | exact hQ2 (fun q9 => cs_no (fun n hn hx => hnl n hn (by rw [hx]; exact J_I (by omega))) q9.2))
    · exact absurd c5 (by omega)
/-- the letters that begin their own words -/
def bg (w : ln_W) (tb : Nat) : Nat → Nat
  | 0 => 0
  | k + 1 => if 2 ≤ ln_sz w (tb * 6 + k) ∧ ln_ch w ((tb * 6 + k) * 4 + 0) = k then bg w tb k ||| 2 ^ k else bg w tb k
set_option maxHeartbeats 4000000 in
set_option maxRecDepth 100000 in
theorem p_begins {d : Nat} {xt : Int32} {tp fk mo ni K : Nat} {bt : Nat → Nat} {fp : Int32} {v : rd_V} {bs : List Nat} {U : ln_U} {im : Nat → Option (rd_V × ln_Z)} {tr : Nat → Option (Nat × List Int64)} {hp : az_Hp} {Q : Option Value → az_Hp → Prop} (hd : 3 ≤ d) (hC : cs hp ((tp, bt), (fk, fp), v, (mo, ni, bs), U, im, tr) K) (hQ2 : ¬ cs_in xt (ln_tb (rd_w v)) → Q (some (.int (-2))) hp) (hQ : ∀ tn, xt = nI tn → tn < ln_tb (rd_w v) → Q (some (.int (nI (bg (rd_w v) tn 6)))) hp) : az_M mX11_begins d 0 0 [.ref 0, .int xt] hp Q := by
  obtain ⟨hok, t, F, ia, kk, kt, x1, x2, x3, x4, x5, x6, x7, x8, x9, x10, x11, x12, x13, x14⟩ := id hC
  have hw : ln_ok (rd_w v) := hok.2.2.1.1
  have hlaw : ln_law (rd_w v) v.2.2.2.2.2.2.2.1 v.2.2.2.2.2.2.2.2 := hok.2.2.1.2
  have hba : ln_ba (rd_w v) bs := hok.2.2.2.1
  have hb : ln_by (rd_w v) bs := hba.b
  have x4 : ln_Past hp 6 U := x4
  have x5 : cs_im hp im ia F := x5
  have x6 : cs_tr hp tr := x6
  have x10 : ln_Scene hp 30 t (rd_w v) mo ni bs := x10
  have x13 : ln_Tf hp t (rd_w v) F := x13
  have x14 : cs_ad hp im F ia kk kt := x14
  obtain ⟨hi, fr, la, no, wa, nc, g0, -⟩ := id x10
  obtain ⟨a4, a5, t0, -⟩ := id x13
  have htbm := hw.2.1
  have loop : ∀ (k : Nat) (tn : Nat) (hxt : xt = nI tn) (htn : tn < ln_tb (rd_w v)) (j : Nat), 6 - j = k → (j ≤ 6) → az_W mX11_begins d 0 0 15 [(0, .ref 0), (1, .int (nI tn)), (2, .int (nI (bg (rd_w v) tn j))), (3, .int (nI j))] [] hp Q := by
    intro k
    induction k using Nat.strongRecOn with
    | _ k ih =>
    intro tn hxt htn j hk h6
    refine az_iload_n dX11_begins_15 ?_
    refine az_bipush (v := nI 6) dX11_begins_16 ?_
    refine az_icmp_geN (tgt := 66) dX11_begins_18 (fun c18 => ?_) (fun c18 => ?_)
    · refine az_iload_n dX11_begins_66 ?_
      exact az_iret dX11_begins_67 (by rw [show j = 6 by omega]; exact hQ tn hxt htn)
    · refine az_aload_n dX11_begins_21 ?_
      refine az_getf (v := .ref 30) dX11_begins_22 fl_X11_66 x1 ?_
      refine az_getf (v := .ref t) dX11_begins_25 fl_X11_116 g0 ?_
      refine az_iload_n dX11_begins_28 ?_
      refine az_iload_n dX11_begins_29 ?_
      refine az_cV0 (st := []) dX11_begins_30 ml_X11_120 t0 (s_sizeOf (d := d - 1) x13.town (tb := tn) (lt := j) (by omega) (by omega) ?_)
      have hsz := hw.2.2.2.2.2.2.1 (tn * 6 + j)
      refine az_iconst (v := nI 2) dX11_begins_33 ?_
      refine az_icmp_ltN (tgt := 60) dX11_begins_34 (fun c34 => ?_) (fun c34 => ?_)
      · refine az_iincN (n := 1) (ls' := [(0, .ref 0), (1, .int (nI tn)), (2, .int (nI (bg (rd_w v) tn j))), (3, .int (nI (j + 1)))]) dX11_begins_60 ?_
        refine az_goto (tgt := 15) dX11_begins_63 ?_
        have hstep : bg (rd_w v) tn (j + 1) = (bg (rd_w v) tn j) := by first | (rw [bg, if_neg (by omega)]) | (rw [bg, if_pos (by omega)])
        rw [← hstep]
        exact ih _ (by omega) tn hxt htn (j + 1) rfl (by omega)
      · refine az_aload_n dX11_begins_37 ?_
        refine az_getf (v := .ref 30) dX11_begins_38 fl_X11_66 x1 ?_
        refine az_getf (v := .ref t) dX11_begins_41 fl_X11_116 g0 ?_
        refine az_iload_n dX11_begins_44 ?_
        refine az_iload_n dX11_begins_45 ?_
        refine az_iconst (v := nI 0) dX11_begins_46 ?_
        refine az_cV0 (st := []) dX11_begins_47 ml_X11_124 t0 (s_childOf (d := d - 1) x13.town (tb := tn) (lt := j) (i := 0) (by omega) (by omega) (by omega) ?_)
        have hch := hw.2.2.2.2.2.2.2.1 ((tn * 6 + j) * 4 + 0)
        refine az_iload_n dX11_begins_50 ?_
        refine az_icmp_neN (tgt := 60) dX11_begins_51 (fun c51 => ?_) (fun c51 => ?_)
        · refine az_iincN (n := 1) (ls' := [(0, .ref 0), (1, .int (nI tn)), (2, .int (nI (bg (rd_w v) tn j))), (3, .int (nI (j + 1)))]) dX11_begins_60 ?_
          refine az_goto (tgt := 15) dX11_begins_63 ?_
          have hstep : bg (rd_w v) tn (j + 1) = (bg (rd_w v) tn j) := by first | (rw [bg, if_neg (by omega)]) | (rw [bg, if_pos (by omega)])
          rw [← hstep]
          exact ih _ (by omega) tn hxt htn (j + 1) rfl (by omega)
        · refine az_iload_n dX11_begins_54 ?_
          refine az_iconst (v := nI 1) dX11_begins_55 ?_
          refine az_iload_n dX11_begins_56 ?_
          refine az_ishl1N dX11_begins_57 ?_
          refine az_iorN dX11_begins_58 ?_
          refine az_istore_n (ls' := [(0, .ref 0), (1, .int (nI tn)), (2, .int (nI ((bg (rd_w v) tn j) ||| (2 ^ j)))), (3, .int (nI j))]) dX11_begins_59 ?_
          refine az_iincN (n := 1) (ls' := [(0, .ref 0), (1, .int (nI tn)), (2, .int (nI ((bg (rd_w v) tn j) ||| (2 ^ j)))), (3, .int (nI (j + 1)))]) dX11_begins_60 ?_
          refine az_goto (tgt := 15) dX11_begins_63 ?_
          have hstep : bg (rd_w v) tn (j + 1) = ((bg (rd_w v) tn j) ||| (2 ^ j)) := by first | (rw [bg, if_neg (by omega)]) | (rw [bg, if_pos (by omega)])
          rw [← hstep]
          exact ih _ (by omega) tn hxt htn (j + 1) rfl (by omega)
  refine az_M.of rfl (Nat.le_of_ble_eq_true rfl) ?_
  show az_W _ _ _ _ 0 [(0, .ref 0), (1, .int xt)] [] _ _
  refine az_aload_n dX11_begins_0 ?_
  refine az_iload_n dX11_begins_1 ?_
  refine az_cV0 (st := []) dX11_begins_2 ml_X11_108 x1 (p_isTable (d := d - 1) hC ?_ ?_)
  · intro tn hxt htn
    refine az_if_neN (tgt := 11) dX11_begins_5 (fun c5 => ?_) (fun c5 => ?_)
    · rw [hxt]
      refine az_iconst (v := nI 0) dX11_begins_11 ?_
      refine az_istore_n (ls' := [(0, .ref 0), (1, .int (nI tn)), (2, .int (nI 0))]) dX11_begins_12 ?_
      refine az_iconst (v := nI 0) dX11_begins_13 ?_
      refine az_istore_n (ls' := [(0, .ref 0), (1, .int (nI tn)), (2, .int (nI 0)), (3, .int (nI 0))]) dX11_begins_14 ?_
      exact loop _ tn hxt htn 0 rfl (Nat.zero_le _)
    · exact absurd c5 (by omega)
  · intro hno
    refine az_if_neN (tgt := 11) dX11_begins_5 (fun c5 => ?_) (fun c5 => ?_)
    · exact absurd c5 (by omega)
    · refine az_bipush (v := (-2)) dX11_begins_8 ?_
      exact az_iret dX11_begins_10 (hQ2 (cs_no hno))
/-- what stands a night later by some table or stood -/
def cm_st (w : ln_W) (s : Nat) : Nat → Nat
  | 0 => s
  | k + 1 => cm_st w s k ||| ln_ca w k s 6
theorem cm_st_lt {w : ln_W} (hw : ln_ok w) {s : Nat} (hs : s < 64) (k : Nat) : cm_st w s k < 64 := by
  induction k with
  | zero => exact hs
  | succ k ih => exact Nat.or_lt_two_pow (n := 6) ih (ln_ca_lt hw k s 6)
def cm (w : ln_W) (lt : Nat) : Nat → Nat → Nat → Option Nat
  | 0, _, _ => none
  | k + 1, i, s => if s >>> lt &&& 1 = 0 then cm w lt k (i + 1) (cm_st w s (ln_tb w)) else some i
set_option maxHeartbeats 4000000 in
set_option maxRecDepth 100000 in
theorem p_comes {d : Nat} {xl : Int32} {tp fk mo ni K : Nat} {bt : Nat → Nat} {fp : Int32} {v : rd_V} {bs : List Nat} {U : ln_U} {im : Nat → Option (rd_V × ln_Z)} {tr : Nat → Option (Nat × List Int64)} {hp : az_Hp} {Q : Option Value → az_Hp → Prop} (hd : 4 ≤ d) (hC : cs hp ((tp, bt), (fk, fp), v, (mo, ni, bs), U, im, tr) K) (hQ2 : ¬ cs_in xl 6 → Q (some (.int (-2))) hp) (hQ : ∀ lt, xl = nI lt → lt < 6 → Q (some (.int (ln_opt (cm (rd_w v) lt 6 0 (ln_sb (ln_str (rd_w v) bs) 6))))) hp) : az_M mX11_comes d 0 0 [.ref 0, .int xl] hp Q := by
  obtain ⟨hok, t, F, ia, kk, kt, x1, x2, x3, x4, x5, x6, x7, x8, x9, x10, x11, x12, x13, x14⟩ := id hC
  have hw : ln_ok (rd_w v) := hok.2.2.1.1
  have hlaw : ln_law (rd_w v) v.2.2.2.2.2.2.2.1 v.2.2.2.2.2.2.2.2 := hok.2.2.1.2
  have hba : ln_ba (rd_w v) bs := hok.2.2.2.1
  have hb : ln_by (rd_w v) bs := hba.b
  have x4 : ln_Past hp 6 U := x4
  have x5 : cs_im hp im ia F := x5
  have x6 : cs_tr hp tr := x6
  have x10 : ln_Scene hp 30 t (rd_w v) mo ni bs := x10
  have x13 : ln_Tf hp t (rd_w v) F := x13
  have x14 : cs_ad hp im F ia kk kt := x14
  obtain ⟨hi, fr, la, no, wa, nc, g0, -⟩ := id x10
  obtain ⟨a4, a5, t0, -⟩ := id x13
  have htbm := hw.2.1
  have lin : ∀ (k : Nat) (lt i s : Nat) (hxl : xl = nI lt) (hlt : lt < 6) (hs64 : s < 64) (hi : i < 6) (c32 : s >>> lt &&& 1 = 0) (hR : cm (rd_w v) lt (6 - i) i s = cm (rd_w v) lt 6 0 (ln_sb (ln_str (rd_w v) bs) 6)) (hK : ∀ i' s', s' < 64 → i' ≤ 6 → 6 - i' < 6 - i → cm (rd_w v) lt (6 - i') i' s' = cm (rd_w v) lt 6 0 (ln_sb (ln_str (rd_w v) bs) 6) → az_W mX11_comes d 0 0 21 [(0, .ref 0), (1, .int (nI lt)), (2, .int (nI s')), (3, .int (nI i'))] [] hp Q) (j : Nat), ln_tb (rd_w v) - j = k → (j ≤ ln_tb (rd_w v)) → az_W mX11_comes d 0 0 43 [(0, .ref 0), (1, .int (nI lt)), (2, .int (nI s)), (3, .int (nI i)), (4, .int (nI (cm_st (rd_w v) s j))), (5, .int (nI j))] [] hp Q := by
    intro k
    induction k using Nat.strongRecOn with
    | _ k ih =>
    intro lt i s hxl hlt hs64 hi c32 hR hK j hk hj
    refine az_iload dX11_comes_43 ?_
    refine az_aload_n dX11_comes_45 ?_
    refine az_getf (v := .ref 30) dX11_comes_46 fl_X11_66 x1 ?_
    refine az_getf (v := .ref t) dX11_comes_49 fl_X11_116 g0 ?_
    refine az_getf (v := .int (nI (ln_tb (rd_w v)))) dX11_comes_52 fl_X11_268 t0 ?_
    refine az_icmp_geN (tgt := 82) dX11_comes_55 (fun c55 => ?_) (fun c55 => ?_)
    · refine az_iload dX11_comes_82 ?_
      refine az_istore_n (ls' := [(0, .ref 0), (1, .int (nI lt)), (2, .int (nI (cm_st (rd_w v) s j))), (3, .int (nI i)), (4, .int (nI (cm_st (rd_w v) s j))), (5, .int (nI j))]) dX11_comes_84 ?_
      refine az_iincN (n := 1) (ls' := [(0, .ref 0), (1, .int (nI lt)), (2, .int (nI (cm_st (rd_w v) s j))), (3, .int (nI (i + 1))), (4, .int (nI (cm_st (rd_w v) s j))), (5, .int (nI j))]) dX11_comes_85 ?_
      refine az_goto (tgt := 21) dX11_comes_88 ?_
      have hj : j = ln_tb (rd_w v) := (by omega)
      refine az_W.keep (ls' := [(0, .ref 0), (1, .int (nI lt)), (2, .int (nI (cm_st (rd_w v) s j))), (3, .int (nI (i + 1)))]) [0, 1, 2, 3] rfl ?_
      exact hK (i + 1) (cm_st (rd_w v) s j) (by rw [hj]; exact cm_st_lt hw hs64 _) (by omega) (by omega) (by rw [← hR, show 6 - i = (6 - (i + 1)) + 1 by omega, cm, if_pos c32, hj])
    · refine az_iload dX11_comes_58 ?_
      refine az_aload_n dX11_comes_60 ?_
      refine az_getf (v := .ref 30) dX11_comes_61 fl_X11_66 x1 ?_
      refine az_getf (v := .ref t) dX11_comes_64 fl_X11_116 g0 ?_
      refine az_iload dX11_comes_67 ?_
      refine az_iload_n dX11_comes_69 ?_
      refine az_cV0 (st := [.int (nI (cm_st (rd_w v) s j))]) dX11_comes_70 ml_X11_271 t0 (s_childBitsOfAll (d := d - 1) (t := t) (tb := j) (s := s) (by omega) hw x13.town (by omega) hs64 ?_)
      refine az_iorN dX11_comes_73 ?_
      refine az_istore (ls' := [(0, .ref 0), (1, .int (nI lt)), (2, .int (nI s)), (3, .int (nI i)), (4, .int (nI ((cm_st (rd_w v) s j) ||| (ln_ca (rd_w v) j s 6)))), (5, .int (nI j))]) dX11_comes_74 ?_
      refine az_iincN (n := 1) (ls' := [(0, .ref 0), (1, .int (nI lt)), (2, .int (nI s)), (3, .int (nI i)), (4, .int (nI ((cm_st (rd_w v) s j) ||| (ln_ca (rd_w v) j s 6)))), (5, .int (nI (j + 1)))]) dX11_comes_76 ?_
      refine az_goto (tgt := 43) dX11_comes_79 ?_
      exact ih _ (by omega) lt i s hxl hlt hs64 hi c32 hR hK (j + 1) rfl (by omega)
  have loop : ∀ (k : Nat) (lt i s : Nat) (hxl : xl = nI lt) (hlt : lt < 6), 6 - i = k → (s < 64) → (i ≤ 6) → (cm (rd_w v) lt (6 - i) i s = cm (rd_w v) lt 6 0 (ln_sb (ln_str (rd_w v) bs) 6)) → az_W mX11_comes d 0 0 21 [(0, .ref 0), (1, .int (nI lt)), (2, .int (nI s)), (3, .int (nI i))] [] hp Q := by
    intro k
    induction k using Nat.strongRecOn with
    | _ k ih =>
    intro lt i s hxl hlt hk hs64 hi hR
    refine az_iload_n dX11_comes_21 ?_
    refine az_bipush (v := nI 6) dX11_comes_22 ?_
    refine az_icmp_geN (tgt := 91) dX11_comes_24 (fun c24 => ?_) (fun c24 => ?_)
    · refine az_iconst (v := (-1)) dX11_comes_91 ?_
      exact az_iret dX11_comes_92 (by have h8 := hQ lt hxl hlt; rw [← hR, show 6 - i = 0 by omega, cm] at h8; exact h8)
    · refine az_iload_n dX11_comes_27 ?_
      refine az_iload_n dX11_comes_28 ?_
      have hs1 : s >>> lt &&& 1 ≤ 1 := Nat.and_le_right
      refine az_ishrN dX11_comes_29 ?_
      refine az_iconst (v := nI 1) dX11_comes_30 ?_
      refine az_iandN dX11_comes_31 ?_
      refine az_if_eqN (tgt := 37) dX11_comes_32 (fun c32 => ?_) (fun c32 => ?_)
      · refine az_iload_n dX11_comes_37 ?_
        refine az_istore (ls' := [(0, .ref 0), (1, .int (nI lt)), (2, .int (nI s)), (3, .int (nI i)), (4, .int (nI s))]) dX11_comes_38 ?_
        refine az_iconst (v := nI 0) dX11_comes_40 ?_
        refine az_istore (ls' := [(0, .ref 0), (1, .int (nI lt)), (2, .int (nI s)), (3, .int (nI i)), (4, .int (nI s)), (5, .int (nI 0))]) dX11_comes_41 ?_
        exact lin _ lt i s hxl hlt hs64 (by omega) c32 hR (fun i' s' a1 a2 a3 a4 => ih _ (by omega) lt i' s' hxl hlt rfl a1 a2 a4) 0 rfl (Nat.zero_le _)
      · refine az_iload_n dX11_comes_35 ?_
        exact az_iret dX11_comes_36 (by have h8 := hQ lt hxl hlt; rw [← hR, show 6 - i = (6 - (i + 1)) + 1 by omega, cm, if_neg (by omega)] at h8; exact h8)
  refine az_M.of rfl (Nat.le_of_ble_eq_true rfl) ?_
  show az_W _ _ _ _ 0 [(0, .ref 0), (1, .int xl)] [] _ _
  refine az_iload_n dX11_comes_0 ?_
  refine az_i2l dX11_comes_1 ?_
  refine az_cS0 (st := []) dX11_comes_2 ml_X11_112 (p_isLetter (d := d - 1) ?_ ?_)
  · intro lt hxl hlt
    have hxl2 := I_J (by omega) hxl
    refine az_if_neN (tgt := 11) dX11_comes_5 (fun c5 => ?_) (fun c5 => ?_)
    · rw [hxl2]
      refine az_aload_n dX11_comes_11 ?_
      refine az_getf (v := .ref 30) dX11_comes_12 fl_X11_66 x1 ?_
      refine az_cV0 (st := []) dX11_comes_15 ml_X11_265 g0 (s_standingBits (d := d - 1) (a := 30) hb x10 ?_)
      refine az_istore_n (ls' := [(0, .ref 0), (1, .int (nI lt)), (2, .int (nI (ln_sb (ln_str (rd_w v) bs) 6)))]) dX11_comes_18 ?_
      refine az_iconst (v := nI 0) dX11_comes_19 ?_
      refine az_istore_n (ls' := [(0, .ref 0), (1, .int (nI lt)), (2, .int (nI (ln_sb (ln_str (rd_w v) bs) 6))), (3, .int (nI 0))]) dX11_comes_20 ?_
      exact loop _ lt 0 _ hxl2 hlt rfl (ln_sb_lt _ (by omega)) (by omega) rfl
    · exact absurd c5 (by omega)
  · intro hnl
    refine az_if_neN (tgt := 11) dX11_comes_5 (fun c5 => ?_) (fun c5 => ?_)
    · exact absurd c5 (by omega)
    · refine az_bipush (v := (-2)) dX11_comes_8 ?_
      exact az_iret dX11_comes_10 (hQ2 (cs_no (fun n hn hx => hnl n hn (by rw [hx]; exact J_I (by omega)))))

