/-! LetterNights: words in the street, words read back -/
set_option maxHeartbeats 4000000 in
set_option maxRecDepth 100000 in
theorem p_occurs {d : Nat} {x : Int32} {tp fk mo ni K : Nat} {bt : Nat → Nat} {fp : Int32} {v : rd_V} {bs : List Nat} {U : ln_U} {im : Nat → Option (rd_V × ln_Z)} {tr : Nat → Option (Nat × List Int64)} {hp : az_Hp} {Q : Option Value → az_Hp → Prop} (hd : 6 ≤ d) (hC : cs hp ((tp, bt), (fk, fp), v, (mo, ni, bs), U, im, tr) K) (hQ2 : (∀ n, n < 4 → x ≠ nI n) → Q (some (.long (-2))) hp) (hQ6 : ∀ n, x = nI n → n < 4 → tr n = none → Q (some (.long (-6))) hp) (hQ4 : ∀ n y, x = nI n → n < 4 → tr n = some y → ¬ (1 ≤ y.2.length ∧ y.2.length ≤ 6) → Q (some (.long (-4))) hp) (hQ3 : ∀ n y, x = nI n → n < 4 → tr n = some y → 1 ≤ y.2.length → y.2.length ≤ 6 → ¬ cs_wd y.2 → Q (some (.long (-3))) hp) (hQ : ∀ n y, x = nI n → n < 4 → tr n = some y → 1 ≤ y.2.length → y.2.length ≤ 6 → cs_wd y.2 → ∀ h', cs h' ((tp, bt), (fk, fp), v, (mo, ni, bs), U, im, tr) K → cs_f hp h' → Q (some (.long (lN (fa_h (cs_g y.2) y.2.length 0 (ln_str (rd_w v) bs))))) h') : az_M mX11_occurs d 0 0 [.ref 0, .int x] hp Q := by
  obtain ⟨hok, t, F, ia, kk, kt, x1, x2, x3, x4, x5, x6, x7, x8, x9, x10, x11, x12, x13, x14⟩ := id hC
  have hw : ln_ok (rd_w v) := hok.2.2.1.1
  have hlaw : ln_law (rd_w v) v.2.2.2.2.2.2.2.1 v.2.2.2.2.2.2.2.2 := hok.2.2.1.2
  have hba : ln_ba (rd_w v) bs := hok.2.2.2.1
  have hb : ln_by (rd_w v) bs := hba.b
  have x4 : ln_Past hp 6 U := x4
  have x5 : cs_im hp im ia F := x5
  have x6 : cs_tr hp tr := x6
  have x10 : ln_Scene hp 30 t (rd_w v) mo ni bs := x10
  have x13 : ln_Tf hp t (rd_w v) F := x13
  have x14 : cs_ad hp im F ia kk kt := x14
  obtain ⟨hi, fr, la, no, wa, nc, g0, -⟩ := id x10
  obtain ⟨a1, a5, a6, ff, ffb, fwb, fsG, fhN, i0, i1, i2, i3, i4, i5⟩ := id (show cs_fi hp from x8)
  obtain ⟨g, hg, hgt⟩ := id x6
  obtain ⟨s3, s4, s5, s6, sv0, -⟩ := id (show ln_Surv hp 12 from x7)
  refine az_M.of rfl (Nat.le_of_ble_eq_true rfl) ?_
  show az_W _ _ _ _ 0 [(0, .ref 0), (1, .int x)] [] _ _
  refine az_aload_n dX11_occurs_0 ?_
  refine az_iload_n dX11_occurs_1 ?_
  refine az_cV0 (st := []) dX11_occurs_2 ml_X11_219 x1 (p_refW (d := d - 1) (by omega) hC ?_ ?_ ?_ ?_ ?_)
  · intro hno
    refine az_istore_n (ls' := [(0, .ref 0), (1, .int x), (2, .int ((-2)))]) dX11_occurs_5 ?_
    refine az_iload_n dX11_occurs_6 ?_
    refine az_if_eq (tgt := 13) dX11_occurs_7 (fun c7 => ?_) (fun c7 => ?_)
    · exact absurd c7 (by decide)
    · refine az_iload_n dX11_occurs_10 ?_
      refine az_i2l dX11_occurs_11 ?_
      exact az_lret dX11_occurs_12 (by first | exact hQ2 hno | exact hQ6 n hx hn hno | exact hQ4 n y hx hn hy h1 | exact hQ3 n y hx hn hy h1 h6 hwd)
  · intro n hx hn hno
    refine az_istore_n (ls' := [(0, .ref 0), (1, .int x), (2, .int ((-6)))]) dX11_occurs_5 ?_
    refine az_iload_n dX11_occurs_6 ?_
    refine az_if_eq (tgt := 13) dX11_occurs_7 (fun c7 => ?_) (fun c7 => ?_)
    · exact absurd c7 (by decide)
    · refine az_iload_n dX11_occurs_10 ?_
      refine az_i2l dX11_occurs_11 ?_
      exact az_lret dX11_occurs_12 (by first | exact hQ2 hno | exact hQ6 n hx hn hno | exact hQ4 n y hx hn hy h1 | exact hQ3 n y hx hn hy h1 h6 hwd)
  · intro n y hx hn hy h1
    refine az_istore_n (ls' := [(0, .ref 0), (1, .int x), (2, .int ((-4)))]) dX11_occurs_5 ?_
    refine az_iload_n dX11_occurs_6 ?_
    refine az_if_eq (tgt := 13) dX11_occurs_7 (fun c7 => ?_) (fun c7 => ?_)
    · exact absurd c7 (by decide)
    · refine az_iload_n dX11_occurs_10 ?_
      refine az_i2l dX11_occurs_11 ?_
      exact az_lret dX11_occurs_12 (by first | exact hQ2 hno | exact hQ6 n hx hn hno | exact hQ4 n y hx hn hy h1 | exact hQ3 n y hx hn hy h1 h6 hwd)
  · intro n y hx hn hy h1 h6 hwd
    refine az_istore_n (ls' := [(0, .ref 0), (1, .int x), (2, .int ((-3)))]) dX11_occurs_5 ?_
    refine az_iload_n dX11_occurs_6 ?_
    refine az_if_eq (tgt := 13) dX11_occurs_7 (fun c7 => ?_) (fun c7 => ?_)
    · exact absurd c7 (by decide)
    · refine az_iload_n dX11_occurs_10 ?_
      refine az_i2l dX11_occurs_11 ?_
      exact az_lret dX11_occurs_12 (by first | exact hQ2 hno | exact hQ6 n hx hn hno | exact hQ4 n y hx hn hy h1 | exact hQ3 n y hx hn hy h1 h6 hwd)
  · intro n y hx hn hy h1 h6 hwd
    have hgn := (hgt n hn).1
    have hgR := (hgt n hn).2
    rw [hy] at hgR
    obtain ⟨hl40, hs3, f, q0, -⟩ := id hgR
    refine az_istore_n (ls' := [(0, .ref 0), (1, .int x), (2, .int (nI 0))]) dX11_occurs_5 ?_
    refine az_iload_n dX11_occurs_6 ?_
    refine az_if_eqN (tgt := 13) dX11_occurs_7 (fun c7 => ?_) (fun c7 => ?_)
    · rw [hx]
      refine az_aload_n dX11_occurs_13 ?_
      refine az_getf (v := .ref 15) dX11_occurs_14 fl_X11_49 x1 ?_
      refine az_aload_n dX11_occurs_17 ?_
      refine az_getf (v := .ref 11) dX11_occurs_18 fl_X11_35 x1 ?_
      refine az_iload_n dX11_occurs_21 ?_
      refine az_aaldN (j := n) dX11_occurs_22 hg ?_
      rw [hgn]
      refine az_cV0 (st := []) dX11_occurs_23 ml_X11_222 i0 (s_learn (d := d - 1) (q := 15) (n := y.2.length) (g := cs_g y.2) (xt := y) (by omega) rfl h1 h6 (by omega) i0 i1 i2 hgR (fun i hi => (hwd i hi).2) (fun i hi => (hwd i hi).1) ?_)
      intro h9 hW1 hf1
      obtain ⟨f1, fb1, w0, w1, w2, w3, w4⟩ := id hW1
      have hT1 := x13.fr hf1 (fun q hq => (by have := x14.2.2.2.2.2.1 q hq; omega))
      have hS1 := ln_Scene.fr x10 hf1 (by omega)
      refine az_aload_n dX11_occurs_26 ?_
      refine az_getf (v := .ref 15) dX11_occurs_27 fl_X11_49 (hf1.at x1) ?_
      refine az_aload_n dX11_occurs_30 ?_
      refine az_getf (v := .ref 30) dX11_occurs_31 fl_X11_66 (hf1.at x1) ?_
      refine az_cV0 (st := []) dX11_occurs_34 ml_X11_226 w0 (s_search (d := d - 1) (q := 15) (a := 30) (n := y.2.length) (g := cs_g y.2) (t := t) (w := rd_w v) (bs := bs) (by omega) hw hb (hT1.to (lo := 15) (hi := 21) (fun q hq => (by have := x14.2.2.2.2.2.1 q hq; omega))) hS1 (by omega) h1 h6 (fun i hi => (hwd i hi).2) hW1 (hf1.at i3) (hf1.at i4) ?_)
      intro h2 hF2 hf2
      obtain ⟨sG, hN, t3, t4, t5⟩ := id hF2
      have hf12 : az_fr hp h2 15 21 := hf1.wide.tr hf2.wide
      have hT2 := x13.fr hf12 (fun q hq => (by have := x14.2.2.2.2.2.1 q hq; omega))
      have hS2 := ln_Scene.fr x10 hf12 (by omega)
      refine az_aload_n dX11_occurs_37 ?_
      refine az_getf (v := .ref 15) dX11_occurs_38 fl_X11_49 (hf2.at (hf1.at x1)) ?_
      refine az_aload_n dX11_occurs_41 ?_
      refine az_getf (v := .ref 30) dX11_occurs_42 fl_X11_66 (hf2.at (hf1.at x1)) ?_
      refine az_cV0 (st := []) dX11_occurs_45 ml_X11_229 (hf2.at w0) (s_hitsInAll (d := d - 1) (q := 15) (a := 30) (n := y.2.length) (g := cs_g y.2) (by omega) hw hb hT2.town hS2 h1 h6 (hf2.at w0) hF2 ?_)
      exact az_lret dX11_occurs_48 (hQ n y hx hn hy h1 h6 hwd h2 ⟨hok, ⟨t, F, ia, kk, kt, (hf12.at x1), (x2.fr hf12), (x3.fr hf12), (ln_PastX.fr x4 hf12 (by omega)), (x5.fr hf12 x14), (x6.fr hf12), (x7.fr hf12), ⟨_, _, _, f1, fb1, fwb, sG, (fun j => lN (hN j)), hf2.at w0, hf2.at w1, hf2.at w2, t3, t4, hf2.at (hf1.at i5)⟩, (x9.fr hf12), (ln_Scene.fr x10 hf12 (by omega)), (x11.fr hf12), (x12.fr hf12 (by omega) (by have := x14.2.1; omega) (by have := x14.2.2.1; omega)), (x13.fr hf12 (fun q hq => (by have := x14.2.2.2.2.2.1 q hq; omega))), (x14.fr hf12)⟩⟩ hf12.cs)
    · exact absurd c7 (by omega)
def cs_first (l : List Int64) (s : List Nat) : Int64 := match fa_f (cs_g l) l.length 0 0 s with
  | none => (-1)
  | some p => lN (p + 1) - lN l.length
set_option maxHeartbeats 4000000 in
set_option maxRecDepth 100000 in
theorem p_first {d : Nat} {x : Int32} {tp fk mo ni K : Nat} {bt : Nat → Nat} {fp : Int32} {v : rd_V} {bs : List Nat} {U : ln_U} {im : Nat → Option (rd_V × ln_Z)} {tr : Nat → Option (Nat × List Int64)} {hp : az_Hp} {Q : Option Value → az_Hp → Prop} (hd : 6 ≤ d) (hC : cs hp ((tp, bt), (fk, fp), v, (mo, ni, bs), U, im, tr) K) (hQ2 : (∀ n, n < 4 → x ≠ nI n) → Q (some (.long (-2))) hp) (hQ6 : ∀ n, x = nI n → n < 4 → tr n = none → Q (some (.long (-6))) hp) (hQ4 : ∀ n y, x = nI n → n < 4 → tr n = some y → ¬ (1 ≤ y.2.length ∧ y.2.length ≤ 6) → Q (some (.long (-4))) hp) (hQ3 : ∀ n y, x = nI n → n < 4 → tr n = some y → 1 ≤ y.2.length → y.2.length ≤ 6 → ¬ cs_wd y.2 → Q (some (.long (-3))) hp) (hQ : ∀ n y, x = nI n → n < 4 → tr n = some y → 1 ≤ y.2.length → y.2.length ≤ 6 → cs_wd y.2 → ∀ h', cs h' ((tp, bt), (fk, fp), v, (mo, ni, bs), U, im, tr) K → cs_f hp h' → Q (some (.long (cs_first y.2 (ln_str (rd_w v) bs)))) h') : az_M mX11_first d 0 0 [.ref 0, .int x] hp Q := by
  obtain ⟨hok, t, F, ia, kk, kt, x1, x2, x3, x4, x5, x6, x7, x8, x9, x10, x11, x12, x13, x14⟩ := id hC
  have hw : ln_ok (rd_w v) := hok.2.2.1.1
  have hlaw : ln_law (rd_w v) v.2.2.2.2.2.2.2.1 v.2.2.2.2.2.2.2.2 := hok.2.2.1.2
  have hba : ln_ba (rd_w v) bs := hok.2.2.2.1
  have hb : ln_by (rd_w v) bs := hba.b
  have x4 : ln_Past hp 6 U := x4
  have x5 : cs_im hp im ia F := x5
  have x6 : cs_tr hp tr := x6
  have x10 : ln_Scene hp 30 t (rd_w v) mo ni bs := x10
  have x13 : ln_Tf hp t (rd_w v) F := x13
  have x14 : cs_ad hp im F ia kk kt := x14
  obtain ⟨hi, fr, la, no, wa, nc, g0, -⟩ := id x10
  obtain ⟨a1, a5, a6, ff, ffb, fwb, fsG, fhN, i0, i1, i2, i3, i4, i5⟩ := id (show cs_fi hp from x8)
  obtain ⟨g, hg, hgt⟩ := id x6
  obtain ⟨s3, s4, s5, s6, sv0, -⟩ := id (show ln_Surv hp 12 from x7)
  refine az_M.of rfl (Nat.le_of_ble_eq_true rfl) ?_
  show az_W _ _ _ _ 0 [(0, .ref 0), (1, .int x)] [] _ _
  refine az_aload_n dX11_first_0 ?_
  refine az_iload_n dX11_first_1 ?_
  refine az_cV0 (st := []) dX11_first_2 ml_X11_219 x1 (p_refW (d := d - 1) (by omega) hC ?_ ?_ ?_ ?_ ?_)
  · intro hno
    refine az_istore_n (ls' := [(0, .ref 0), (1, .int x), (2, .int ((-2)))]) dX11_first_5 ?_
    refine az_iload_n dX11_first_6 ?_
    refine az_if_eq (tgt := 13) dX11_first_7 (fun c7 => ?_) (fun c7 => ?_)
    · exact absurd c7 (by decide)
    · refine az_iload_n dX11_first_10 ?_
      refine az_i2l dX11_first_11 ?_
      exact az_lret dX11_first_12 (by first | exact hQ2 hno | exact hQ6 n hx hn hno | exact hQ4 n y hx hn hy h1 | exact hQ3 n y hx hn hy h1 h6 hwd)
  · intro n hx hn hno
    refine az_istore_n (ls' := [(0, .ref 0), (1, .int x), (2, .int ((-6)))]) dX11_first_5 ?_
    refine az_iload_n dX11_first_6 ?_
    refine az_if_eq (tgt := 13) dX11_first_7 (fun c7 => ?_) (fun c7 => ?_)
    · exact absurd c7 (by decide)
    · refine az_iload_n dX11_first_10 ?_
      refine az_i2l dX11_first_11 ?_
      exact az_lret dX11_first_12 (by first | exact hQ2 hno | exact hQ6 n hx hn hno | exact hQ4 n y hx hn hy h1 | exact hQ3 n y hx hn hy h1 h6 hwd)
  · intro n y hx hn hy h1
    refine az_istore_n (ls' := [(0, .ref 0), (1, .int x), (2, .int ((-4)))]) dX11_first_5 ?_
    refine az_iload_n dX11_first_6 ?_
    refine az_if_eq (tgt := 13) dX11_first_7 (fun c7 => ?_) (fun c7 => ?_)
    · exact absurd c7 (by decide)
    · refine az_iload_n dX11_first_10 ?_
      refine az_i2l dX11_first_11 ?_
      exact az_lret dX11_first_12 (by first | exact hQ2 hno | exact hQ6 n hx hn hno | exact hQ4 n y hx hn hy h1 | exact hQ3 n y hx hn hy h1 h6 hwd)
  · intro n y hx hn hy h1 h6 hwd
    refine az_istore_n (ls' := [(0, .ref 0), (1, .int x), (2, .int ((-3)))]) dX11_first_5 ?_
    refine az_iload_n dX11_first_6 ?_
    refine az_if_eq (tgt := 13) dX11_first_7 (fun c7 => ?_) (fun c7 => ?_)
    · exact absurd c7 (by decide)
    · refine az_iload_n dX11_first_10 ?_
      refine az_i2l dX11_first_11 ?_
      exact az_lret dX11_first_12 (by first | exact hQ2 hno | exact hQ6 n hx hn hno | exact hQ4 n y hx hn hy h1 | exact hQ3 n y hx hn hy h1 h6 hwd)
  · intro n y hx hn hy h1 h6 hwd
    have hgn := (hgt n hn).1
    have hgR := (hgt n hn).2
    rw [hy] at hgR
    obtain ⟨hl40, hs3, f, q0, -⟩ := id hgR
    refine az_istore_n (ls' := [(0, .ref 0), (1, .int x), (2, .int (nI 0))]) dX11_first_5 ?_
    refine az_iload_n dX11_first_6 ?_
    refine az_if_eqN (tgt := 13) dX11_first_7 (fun c7 => ?_) (fun c7 => ?_)
    · rw [hx]
      refine az_aload_n dX11_first_13 ?_
      refine az_getf (v := .ref 15) dX11_first_14 fl_X11_49 x1 ?_
      refine az_aload_n dX11_first_17 ?_
      refine az_getf (v := .ref 11) dX11_first_18 fl_X11_35 x1 ?_
      refine az_iload_n dX11_first_21 ?_
      refine az_aaldN (j := n) dX11_first_22 hg ?_
      rw [hgn]
      refine az_cV0 (st := []) dX11_first_23 ml_X11_222 i0 (s_learn (d := d - 1) (q := 15) (n := y.2.length) (g := cs_g y.2) (xt := y) (by omega) rfl h1 h6 (by omega) i0 i1 i2 hgR (fun i hi => (hwd i hi).2) (fun i hi => (hwd i hi).1) ?_)
      intro h9 hW1 hf1
      obtain ⟨f1, fb1, w0, w1, w2, w3, w4⟩ := id hW1
      have hT1 := x13.fr hf1 (fun q hq => (by have := x14.2.2.2.2.2.1 q hq; omega))
      have hS1 := ln_Scene.fr x10 hf1 (by omega)
      refine az_aload_n dX11_first_26 ?_
      refine az_getf (v := .ref 15) dX11_first_27 fl_X11_49 (hf1.at x1) ?_
      refine az_aload_n dX11_first_30 ?_
      refine az_getf (v := .ref 30) dX11_first_31 fl_X11_66 (hf1.at x1) ?_
      refine az_cV0 (st := []) dX11_first_34 ml_X11_226 w0 (s_search (d := d - 1) (q := 15) (a := 30) (n := y.2.length) (g := cs_g y.2) (t := t) (w := rd_w v) (bs := bs) (by omega) hw hb (hT1.to (lo := 15) (hi := 21) (fun q hq => (by have := x14.2.2.2.2.2.1 q hq; omega))) hS1 (by omega) h1 h6 (fun i hi => (hwd i hi).2) hW1 (hf1.at i3) (hf1.at i4) ?_)
      intro h2 hF2 hf2
      obtain ⟨sG, hN, t3, t4, t5⟩ := id hF2
      have hf12 : az_fr hp h2 15 21 := hf1.wide.tr hf2.wide
      have hT2 := x13.fr hf12 (fun q hq => (by have := x14.2.2.2.2.2.1 q hq; omega))
      have hS2 := ln_Scene.fr x10 hf12 (by omega)
      refine az_aload_n dX11_first_37 ?_
      refine az_getf (v := .ref 12) dX11_first_38 fl_X11_42 (hf2.at (hf1.at x1)) ?_
      refine az_aload_n dX11_first_41 ?_
      refine az_getf (v := .ref 30) dX11_first_42 fl_X11_66 (hf2.at (hf1.at x1)) ?_
      refine az_cV0 (st := []) dX11_first_45 ml_X11_140 (hf2.at (hf1.at sv0)) (s_measure (d := d - 1) (s := 12) (a := 30) (by omega) hw hb (hT2.to (lo := 12) (hi := 15) (fun q hq => (by have := x14.2.2.2.2.2.1 q hq; omega))) hS2 (by omega) ((show ln_Surv hp 12 from x7).fr hf12) ?_)
      intro h3 hV3 hf3
      obtain ⟨u3, u4, g9, u5, u0, u1, u2, -⟩ := id hV3
      have hf13 : az_fr hp h3 12 21 := hf12.wide.tr hf3.wide
      have hT3 := x13.fr hf13 (fun q hq => (by have := x14.2.2.2.2.2.1 q hq; omega))
      have hS3 := ln_Scene.fr x10 hf13 (by omega)
      refine az_aload_n dX11_first_48 ?_
      refine az_getf (v := .ref 15) dX11_first_49 fl_X11_49 (hf3.at (hf2.at (hf1.at x1))) ?_
      refine az_aload_n dX11_first_52 ?_
      refine az_getf (v := .ref 30) dX11_first_53 fl_X11_66 (hf3.at (hf2.at (hf1.at x1))) ?_
      refine az_aload_n dX11_first_56 ?_
      refine az_getf (v := .ref 12) dX11_first_57 fl_X11_42 (hf3.at (hf2.at (hf1.at x1))) ?_
      refine az_getf (v := .ref (12 + 1)) dX11_first_60 fl_X11_233 u0 ?_
      refine az_cV0 (st := []) dX11_first_63 ml_X11_236 (hf3.at (hf2.at w0)) (s_firstPlace (d := d - 1) (q := 15) (a := 30) (o := 12 + 1) (n := y.2.length) (g := cs_g y.2) (g9 := g9) (by omega) hw hb (hT3.to (lo := 15) (hi := 21) (fun q hq => (by have := x14.2.2.2.2.2.1 q hq; omega))) hS3 (by omega) h1 h6 (hf3.at (hf2.at w0)) ⟨sG, hN, hf3.at t3, hf3.at t4, t5⟩ u1 u2 (by omega) ?_ ?_)
      · intro zs zp hno
        exact az_lret dX11_first_66 (by first | (have hf4 := (hf13.up (a := 15) (c := az_O 0 [.ref (15 + 1), .int (nI y.2.length), .ref (15 + 2), .ref (15 + 3), .ref (15 + 4), .int (nI zs), .long (lN zp), .ref (15 + 5)])); have h8 := hQ n y hx hn hy h1 h6 hwd _ ⟨hok, ⟨t, F, ia, kk, kt, (hf4.at x1), (x2.fr hf4), (x3.fr hf4), (ln_PastX.fr x4 hf4 (by omega)), (x5.fr hf4 x14), (x6.fr hf4), (ln_Surv.fr (lo := 15) (hi := 16) hV3.s (az_fr.rf.up)), ⟨_, _, _, f1, fb1, fwb, sG, (fun j => lN (hN j)), az_up_eq, az_up_ne (hf3.at (hf2.at w1)), az_up_ne (hf3.at (hf2.at w2)), az_up_ne (hf3.at t3), az_up_ne (hf3.at t4), az_up_ne (hf3.at (hf2.at (hf1.at i5)))⟩, (x9.fr hf4), (ln_Scene.fr x10 hf4 (by omega)), (x11.fr hf4), (x12.fr hf4 (by omega) (by have := x14.2.1; omega) (by have := x14.2.2.1; omega)), (x13.fr hf4 (fun q hq => (by have := x14.2.2.2.2.2.1 q hq; omega))), (x14.fr hf4)⟩⟩ hf4.cs; rw [cs_first, hno] at h8; exact h8) | (have hf4 := (hf13.up (a := 15) (c := az_O 0 [.ref (15 + 1), .int (nI y.2.length), .ref (15 + 2), .ref (15 + 3), .ref (15 + 4), .int (nI zs), .long (lN p), .ref (15 + 5)])); have h8 := hQ n y hx hn hy h1 h6 hwd _ ⟨hok, ⟨t, F, ia, kk, kt, (hf4.at x1), (x2.fr hf4), (x3.fr hf4), (ln_PastX.fr x4 hf4 (by omega)), (x5.fr hf4 x14), (x6.fr hf4), (ln_Surv.fr (lo := 15) (hi := 16) hV3.s (az_fr.rf.up)), ⟨_, _, _, f1, fb1, fwb, sG, (fun j => lN (hN j)), az_up_eq, az_up_ne (hf3.at (hf2.at w1)), az_up_ne (hf3.at (hf2.at w2)), az_up_ne (hf3.at t3), az_up_ne (hf3.at t4), az_up_ne (hf3.at (hf2.at (hf1.at i5)))⟩, (x9.fr hf4), (ln_Scene.fr x10 hf4 (by omega)), (x11.fr hf4), (x12.fr hf4 (by omega) (by have := x14.2.1; omega) (by have := x14.2.2.1; omega)), (x13.fr hf4 (fun q hq => (by have := x14.2.2.2.2.2.1 q hq; omega))), (x14.fr hf4)⟩⟩ hf4.cs; rw [cs_first, hp9] at h8; exact h8))
      · intro zs p hp9 hp2
        exact az_lret dX11_first_66 (by first | (have hf4 := (hf13.up (a := 15) (c := az_O 0 [.ref (15 + 1), .int (nI y.2.length), .ref (15 + 2), .ref (15 + 3), .ref (15 + 4), .int (nI zs), .long (lN zp), .ref (15 + 5)])); have h8 := hQ n y hx hn hy h1 h6 hwd _ ⟨hok, ⟨t, F, ia, kk, kt, (hf4.at x1), (x2.fr hf4), (x3.fr hf4), (ln_PastX.fr x4 hf4 (by omega)), (x5.fr hf4 x14), (x6.fr hf4), (ln_Surv.fr (lo := 15) (hi := 16) hV3.s (az_fr.rf.up)), ⟨_, _, _, f1, fb1, fwb, sG, (fun j => lN (hN j)), az_up_eq, az_up_ne (hf3.at (hf2.at w1)), az_up_ne (hf3.at (hf2.at w2)), az_up_ne (hf3.at t3), az_up_ne (hf3.at t4), az_up_ne (hf3.at (hf2.at (hf1.at i5)))⟩, (x9.fr hf4), (ln_Scene.fr x10 hf4 (by omega)), (x11.fr hf4), (x12.fr hf4 (by omega) (by have := x14.2.1; omega) (by have := x14.2.2.1; omega)), (x13.fr hf4 (fun q hq => (by have := x14.2.2.2.2.2.1 q hq; omega))), (x14.fr hf4)⟩⟩ hf4.cs; rw [cs_first, hno] at h8; exact h8) | (have hf4 := (hf13.up (a := 15) (c := az_O 0 [.ref (15 + 1), .int (nI y.2.length), .ref (15 + 2), .ref (15 + 3), .ref (15 + 4), .int (nI zs), .long (lN p), .ref (15 + 5)])); have h8 := hQ n y hx hn hy h1 h6 hwd _ ⟨hok, ⟨t, F, ia, kk, kt, (hf4.at x1), (x2.fr hf4), (x3.fr hf4), (ln_PastX.fr x4 hf4 (by omega)), (x5.fr hf4 x14), (x6.fr hf4), (ln_Surv.fr (lo := 15) (hi := 16) hV3.s (az_fr.rf.up)), ⟨_, _, _, f1, fb1, fwb, sG, (fun j => lN (hN j)), az_up_eq, az_up_ne (hf3.at (hf2.at w1)), az_up_ne (hf3.at (hf2.at w2)), az_up_ne (hf3.at t3), az_up_ne (hf3.at t4), az_up_ne (hf3.at (hf2.at (hf1.at i5)))⟩, (x9.fr hf4), (ln_Scene.fr x10 hf4 (by omega)), (x11.fr hf4), (x12.fr hf4 (by omega) (by have := x14.2.1; omega) (by have := x14.2.2.1; omega)), (x13.fr hf4 (fun q hq => (by have := x14.2.2.2.2.2.1 q hq; omega))), (x14.fr hf4)⟩⟩ hf4.cs; rw [cs_first, hp9] at h8; exact h8))
    · exact absurd c7 (by omega)

