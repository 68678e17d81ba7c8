/-! LetterNights: long, tables, attempt -/
theorem cs_H.go {h h' : az_Hp} {s : cs_S} {t kk kt K kk' kt' K' : Nat} {F : Nat → Prop} {ia : Nat → Nat × Nat} (H : cs_H h s t F ia kk kt K) (h1 : h.1 ≤ h'.1) (hf : ∀ q, q < h.1 → (q < 46 ∨ 56 ≤ q) → q ≠ kk → q ≠ kt → h'.2 q = h.2 q) (hU : fu_U h' 46 kk' kt' K') (hk : (kk' = kk ∧ kt' = kt) ∨ (h.1 ≤ kk' ∧ kk' < h'.1 ∧ h.1 ≤ kt' ∧ kt' < h'.1)) : cs_H h' s t F ia kk' kt' K' := by
  obtain ⟨x1, x2, x3, x4, x5, x6, x7, x8, x9, x10, x11, x12, x13, x14⟩ := H
  obtain ⟨a1, a2, a3, a4, a5, a6, a7, a8⟩ := x14
  have E : ∀ q, q < 46 → h'.2 q = h.2 q := fun q b => hf q (by omega) (by omega) (by omega) (by omega)
  refine ⟨(E 0 (by omega)).trans x1, ?_, ?_, ?_, ?_, ?_, ?_, ?_, ?_, ln_Scene.eqv x10 (fun z _ b => E z (by omega)), ?_, hU, x13.eqv (fun q hq => (by have := a6 q hq; exact hf q (by omega) (by omega) (by omega) (by omega))) (fun _ q => q), ?_⟩
  · obtain ⟨tf, q1, q2⟩ := x2
    exact ⟨tf, (E _ (by omega)).trans q1, q2⟩
  · obtain ⟨tx, sz, ki, aa, zz, va, k5, cf, ol, q1, q2, q3, q4⟩ := x3
    exact ⟨tx, sz, ki, aa, zz, va, k5, cf, ol, (E _ (by omega)).trans q1, q2, (E _ (by omega)).trans q3, (E _ (by omega)).trans q4⟩
  · obtain ⟨fa, fn, fm, q1, q2, q3, q4, q5⟩ := x4
    exact ⟨fa, fn, fm, (E _ (by omega)).trans q1, (E _ (by omega)).trans q2, (E _ (by omega)).trans q3, (E _ (by omega)).trans q4, q5⟩
  · obtain ⟨g, q1, q2⟩ := x5
    refine ⟨g, (E _ (by omega)).trans q1, fun i hi => ?_⟩
    have h3 := q2 i hi
    cases hm : s.2.2.2.2.2.1 i with
    | none => rw [hm] at h3; exact h3
    | some x =>
      rw [hm] at h3
      have h4 := a7 i hi (by rw [hm]; exact fun q => by cases q)
      exact ⟨h3.1, ln_Scene.eqv h3.2.1 (fun z b1 b2 => hf z (by omega) (by omega) (by omega) (by omega)), h3.2.2.eqv (fun q hq => (by have := a6 q hq; exact hf q (by omega) (by omega) (by omega) (by omega))) (fun _ q => q)⟩
  · obtain ⟨g, q1, q2⟩ := x6
    exact ⟨g, (E _ (by omega)).trans q1, fun i hi => ⟨(q2 i hi).1, (q2 i hi).2.eqv (hf _ (by omega) (by omega) (by omega) (by omega)) (hf _ (by omega) (by omega) (by omega) (by omega))⟩⟩
  · obtain ⟨v3, v4, f1, f2, q1, q2, q3⟩ := x7
    exact ⟨v3, v4, f1, f2, (E _ (by omega)).trans q1, (E _ (by omega)).trans q2, (E _ (by omega)).trans q3⟩
  · obtain ⟨v1, v5, v6, f, fb, wb, sG, hN, q1, q2, q3, q4, q5, q6⟩ := x8
    exact ⟨v1, v5, v6, f, fb, wb, sG, hN, (E _ (by omega)).trans q1, (E _ (by omega)).trans q2, (E _ (by omega)).trans q3, (E _ (by omega)).trans q4, (E _ (by omega)).trans q5, (E _ (by omega)).trans q6⟩
  · obtain ⟨f, c, q1, q2, q3⟩ := x9
    exact ⟨f, c, (E _ (by omega)).trans q1, (E _ (by omega)).trans q2, (E _ (by omega)).trans q3⟩
  · obtain ⟨t0, v1, v2, v3, v4, v5, c, c2, c3, c4, no, wa, nc, q1, q2, q3, q4, q5, q6, q7, q8⟩ := x11
    exact ⟨t0, v1, v2, v3, v4, v5, c, c2, c3, c4, no, wa, nc, (E _ (by omega)).trans q1, (E _ (by omega)).trans q2, (E _ (by omega)).trans q3, (E _ (by omega)).trans q4, (E _ (by omega)).trans q5, (E _ (by omega)).trans q6, (E _ (by omega)).trans q7, (E _ (by omega)).trans q8⟩
  · refine ⟨by omega, by omega, by omega, by omega, by omega, fun q hq => ?_, fun i hi hm => ?_, a8⟩
    · have := a6 q hq
      omega
    · obtain ⟨b1, b2, b3, b4, b5⟩ := a7 i hi hm
      exact ⟨b1, by omega, by omega, by omega, b5⟩
theorem cs.go {h h' : az_Hp} {s : cs_S} {t kk kt K kk' kt' K' : Nat} {F : Nat → Prop} {ia : Nat → Nat × Nat} (hok : cs_ok s) (H : cs_H h s t F ia kk kt K) (h1 : h.1 ≤ h'.1) (hf : ∀ q, q < h.1 → (q < 46 ∨ 56 ≤ q) → q ≠ kk → q ≠ kt → h'.2 q = h.2 q) (hU : fu_U h' 46 kk' kt' K') (hk : (kk' = kk ∧ kt' = kt) ∨ (h.1 ≤ kk' ∧ kk' < h'.1 ∧ h.1 ≤ kt' ∧ kt' < h'.1)) : cs h' s K' := ⟨hok, t, F, ia, kk', kt', H.go h1 hf hU hk⟩
theorem fu_U.le {h : az_Hp} {u kk kt K : Nat} (H : fu_U h u kk kt K) : K ≤ 32768 := by
  obtain ⟨t9, tl, wn, wx, fS, ff, fr9, fs, fa, fb, fL, u0, u1, u2, u3, ta, -⟩ := H
  exact ta.2.1.2.1
set_option maxHeartbeats 4000000 in
set_option maxRecDepth 100000 in
theorem p_longBy {d : Nat} {x : Int32} {tp fk mo ni K : Nat} {bt : Nat → Nat} {fp : Int32} {v : rd_V} {bs : List Nat} {U : ln_U} {im : Nat → Option (rd_V × ln_Z)} {tr : Nat → Option (Nat × List Int64)} {hp : az_Hp} {Q : Option Value → az_Hp → Prop} (hd : 18 ≤ d) (hC : cs hp ((tp, bt), (fk, fp), v, (mo, ni, bs), U, im, tr) K) (hQ2 : (∀ n, n < 4 → x ≠ nI n) → Q (some (.int (-2))) hp) (hQ6 : ∀ n, x = nI n → n < 4 → tr n = none → Q (some (.int (-6))) hp) (hQ4 : ∀ n y, x = nI n → n < 4 → tr n = some y → ¬ (1 ≤ y.2.length ∧ y.2.length ≤ 8) → Q (some (.int (-4))) hp) (hQ3 : ∀ n y, x = nI n → n < 4 → tr n = some y → 1 ≤ y.2.length → y.2.length ≤ 8 → ¬ cs_ln y.2 (-1) → Q (some (.int (-3))) hp) (hQ : ∀ n y, x = nI n → n < 4 → tr n = some y → 1 ≤ y.2.length → y.2.length ≤ 8 → cs_ln y.2 (-1) → ∀ h', cs h' ((tp, bt), (fk, fp), v, (mo, ni, bs), U, im, tr) K → cs_f hp h' → Q (some (.int (nI (fu_lg (rd_w v) (fun j => y.2.getD j 0) y.2.length 0 (fun x => (ln_str (rd_w v) bs).count x)).length))) h') : az_M mX11_longBy d 0 0 [.ref 0, .int x] hp Q := by
  obtain ⟨hok, t, F, ia, kk, kt, x1, x2, x3, x4, x5, x6, x7, x8, x9, x10, x11, x12, x13, x14⟩ := id hC
  have hH0 : cs_H hp ((tp, bt), (fk, fp), v, (mo, ni, bs), U, im, tr) t F ia kk kt K := ⟨x1, x2, x3, x4, x5, x6, x7, x8, x9, x10, x11, x12, x13, x14⟩
  have hw : ln_ok (rd_w v) := hok.2.2.1.1
  have hlaw : ln_law (rd_w v) v.2.2.2.2.2.2.2.1 v.2.2.2.2.2.2.2.2 := hok.2.2.1.2
  have hba : ln_ba (rd_w v) bs := hok.2.2.2.1
  have hb : ln_by (rd_w v) bs := hba.b
  have x4 : ln_Past hp 6 U := x4
  have x5 : cs_im hp im ia F := x5
  have x6 : cs_tr hp tr := x6
  have x10 : ln_Scene hp 30 t (rd_w v) mo ni bs := x10
  have x13 : ln_Tf hp t (rd_w v) F := x13
  have x14 : cs_ad hp im F ia kk kt := x14
  obtain ⟨hi, fr, la, no, wa, nc, g0, -⟩ := id x10
  obtain ⟨t9, tl, wn, wx, fS, ff, fr9, fs, fa, fb, fL, u0, u1, u2, u3, ta, pr, u4, u5, k9⟩ := id (show fu_U hp 46 kk kt K from x12)
  have prb := pr.b
  obtain ⟨kb1, kb2⟩ := id k9
  obtain ⟨g, hg, hgt⟩ := id x6
  have ad := x14
  refine az_M.of rfl (Nat.le_of_ble_eq_true rfl) ?_
  show az_W _ _ _ _ 0 [(0, .ref 0), (1, .int x)] [] _ _
  refine az_aload_n dX11_longBy_0 ?_
  refine az_iload_n dX11_longBy_1 ?_
  refine az_ldc2 (v := (-1)) dX11_longBy_2 cn_X11_160 ?_
  refine az_cV0 (st := []) dX11_longBy_5 ml_X11_284 x1 (p_refL (d := d - 1) (by omega) hC ?_ ?_ ?_ ?_ ?_)
  · intro hno
    refine az_istore_n (ls' := [(0, .ref 0), (1, .int x), (2, .int ((-2)))]) dX11_longBy_8 ?_
    refine az_iload_n dX11_longBy_9 ?_
    refine az_if_eq (tgt := 15) dX11_longBy_10 (fun c10 => ?_) (fun c10 => ?_)
    · exact absurd c10 (by decide)
    · refine az_iload_n dX11_longBy_13 ?_
      exact az_iret dX11_longBy_14 (by first | exact hQ2 hno | exact hQ6 n hx hn hno | exact hQ4 n y hx hn hy h1 | exact hQ3 n y hx hn hy h1 h6 hln)
  · intro n hx hn hno
    refine az_istore_n (ls' := [(0, .ref 0), (1, .int x), (2, .int ((-6)))]) dX11_longBy_8 ?_
    refine az_iload_n dX11_longBy_9 ?_
    refine az_if_eq (tgt := 15) dX11_longBy_10 (fun c10 => ?_) (fun c10 => ?_)
    · exact absurd c10 (by decide)
    · refine az_iload_n dX11_longBy_13 ?_
      exact az_iret dX11_longBy_14 (by first | exact hQ2 hno | exact hQ6 n hx hn hno | exact hQ4 n y hx hn hy h1 | exact hQ3 n y hx hn hy h1 h6 hln)
  · intro n y hx hn hy h1
    refine az_istore_n (ls' := [(0, .ref 0), (1, .int x), (2, .int ((-4)))]) dX11_longBy_8 ?_
    refine az_iload_n dX11_longBy_9 ?_
    refine az_if_eq (tgt := 15) dX11_longBy_10 (fun c10 => ?_) (fun c10 => ?_)
    · exact absurd c10 (by decide)
    · refine az_iload_n dX11_longBy_13 ?_
      exact az_iret dX11_longBy_14 (by first | exact hQ2 hno | exact hQ6 n hx hn hno | exact hQ4 n y hx hn hy h1 | exact hQ3 n y hx hn hy h1 h6 hln)
  · intro n y hx hn hy h1 h6 hln
    refine az_istore_n (ls' := [(0, .ref 0), (1, .int x), (2, .int ((-3)))]) dX11_longBy_8 ?_
    refine az_iload_n dX11_longBy_9 ?_
    refine az_if_eq (tgt := 15) dX11_longBy_10 (fun c10 => ?_) (fun c10 => ?_)
    · exact absurd c10 (by decide)
    · refine az_iload_n dX11_longBy_13 ?_
      exact az_iret dX11_longBy_14 (by first | exact hQ2 hno | exact hQ6 n hx hn hno | exact hQ4 n y hx hn hy h1 | exact hQ3 n y hx hn hy h1 h6 hln)
  · intro n y hx hn hy h1 h6 hln
    have hgn := (hgt n hn).1
    have hgR := (hgt n hn).2
    rw [hy] at hgR
    obtain ⟨hl40, hs3, f, q0, -⟩ := id hgR
    refine az_istore_n (ls' := [(0, .ref 0), (1, .int x), (2, .int (nI 0))]) dX11_longBy_8 ?_
    refine az_iload_n dX11_longBy_9 ?_
    refine az_if_eqN (tgt := 15) dX11_longBy_10 (fun c10 => ?_) (fun c10 => ?_)
    · rw [hx]
      refine az_aload_n dX11_longBy_15 ?_
      refine az_getf (v := .ref 46) dX11_longBy_16 fl_X11_76 x1 ?_
      refine az_aload_n dX11_longBy_19 ?_
      refine az_getf (v := .ref 30) dX11_longBy_20 fl_X11_66 x1 ?_
      refine az_aload_n dX11_longBy_23 ?_
      refine az_getf (v := .ref 11) dX11_longBy_24 fl_X11_35 x1 ?_
      refine az_iload_n dX11_longBy_27 ?_
      refine az_aaldN (j := n) dX11_longBy_28 hg ?_
      rw [hgn]
      refine az_cV0 (st := []) dX11_longBy_29 ml_X11_288 u0 (s_rowsOfLong (d := d - 1) (u := 46) (a := 30) (t := t) (r := 56 + 2 * n) (x := y) (w := (rd_w v)) (bs := bs) (by omega) hw hb k9 (by unfold fu_rd; have a1 := ad.2.1; have a2 := ad.2.2.1; omega) (x13.fu (fun q hq => (by have := ad.2.2.2.2.2.1 q hq; omega))) x10 (by omega) h1 h6 hgR u0 u1 u3 ta ?_)
      intro h9 f' s' n0 n1 n1' n3 hs' hta fr1
      have a1 := ad.2.1
      have a2 := ad.2.2.1
      have hfo : ∀ q, q < hp.1 → (q < 46 ∨ 56 ≤ q) → q ≠ kk → q ≠ kt → h9.2 q = hp.2 q := (fun q b0 b1 b2 b3 => (fr1.at (az_up_ne rfl)))
      have hU9 : fu_U h9 46 kk kt K := ⟨_, _, wn, wx, fS, f', fr9, s', fa, fb, fL, n0, n1, fr1.at (az_up_ne u2), n3, hta, pr, fr1.at (az_up_ne u4), fr1.at (az_up_ne u5), k9⟩
      have hC9 : cs h9 ((tp, bt), (fk, fp), v, (mo, ni, bs), U, im, tr) K := cs.go hok hH0 (Nat.le_of_eq fr1.1.symm) hfo hU9 (Or.inl ⟨rfl, rfl⟩)
      have hf9 : cs_f hp h9 := ⟨Nat.le_of_eq fr1.1.symm, fun z b1 b2 => hfo z (by have := ad.1; omega) (by omega) (by omega) (by omega)⟩
      exact az_iret dX11_longBy_32 (hQ n y hx hn hy h1 h6 hln h9 hC9 hf9)
    · exact absurd c10 (by omega)
set_option maxHeartbeats 4000000 in
set_option maxRecDepth 100000 in
theorem p_tables {d : Nat} {x xi : Int32} {tp fk mo ni K : Nat} {bt : Nat → Nat} {fp : Int32} {v : rd_V} {bs : List Nat} {U : ln_U} {im : Nat → Option (rd_V × ln_Z)} {tr : Nat → Option (Nat × List Int64)} {hp : az_Hp} {Q : Option Value → az_Hp → Prop} (hd : 18 ≤ d) (hC : cs hp ((tp, bt), (fk, fp), v, (mo, ni, bs), U, im, tr) K) (hQ2 : (∀ n, n < 4 → x ≠ nI n) → Q (some (.int (-2))) hp) (hQ6 : ∀ n, x = nI n → n < 4 → tr n = none → Q (some (.int (-6))) hp) (hQ4 : ∀ n y, x = nI n → n < 4 → tr n = some y → ¬ (1 ≤ y.2.length ∧ y.2.length ≤ 8) → Q (some (.int (-4))) hp) (hQ3 : ∀ n y, x = nI n → n < 4 → tr n = some y → 1 ≤ y.2.length → y.2.length ≤ 8 → ¬ cs_ln y.2 (-1) → Q (some (.int (-3))) hp) (hQi : ∀ n y, x = nI n → n < 4 → tr n = some y → 1 ≤ y.2.length → y.2.length ≤ 8 → cs_ln y.2 (-1) → xi < 0 → Q (some (.int (-3))) hp) (hQ7 : ∀ n y i, x = nI n → n < 4 → tr n = some y → 1 ≤ y.2.length → y.2.length ≤ 8 → cs_ln y.2 (-1) → xi = nI i → i < 2 ^ 31 → y.2.length ≤ i → Q (some (.int (-7))) hp) (hQ : ∀ n y i, x = nI n → n < 4 → tr n = some y → 1 ≤ y.2.length → y.2.length ≤ 8 → cs_ln y.2 (-1) → xi = nI i → i < y.2.length → ∀ h', cs h' ((tp, bt), (fk, fp), v, (mo, ni, bs), U, im, tr) K → cs_f hp h' → Q (some (.int (nI (fu_or i (fu_lg (rd_w v) (fun j => y.2.getD j 0) y.2.length 0 (fun x => (ln_str (rd_w v) bs).count x)))))) h') : az_M mX11_tables d 0 0 [.ref 0, .int x, .int xi] hp Q := by
  obtain ⟨hok, t, F, ia, kk, kt, x1, x2, x3, x4, x5, x6, x7, x8, x9, x10, x11, x12, x13, x14⟩ := id hC
  have hH0 : cs_H hp ((tp, bt), (fk, fp), v, (mo, ni, bs), U, im, tr) t F ia kk kt K := ⟨x1, x2, x3, x4, x5, x6, x7, x8, x9, x10, x11, x12, x13, x14⟩
  have hw : ln_ok (rd_w v) := hok.2.2.1.1
  have hlaw : ln_law (rd_w v) v.2.2.2.2.2.2.2.1 v.2.2.2.2.2.2.2.2 := hok.2.2.1.2
  have hba : ln_ba (rd_w v) bs := hok.2.2.2.1
  have hb : ln_by (rd_w v) bs := hba.b
  have x4 : ln_Past hp 6 U := x4
  have x5 : cs_im hp im ia F := x5
  have x6 : cs_tr hp tr := x6
  have x10 : ln_Scene hp 30 t (rd_w v) mo ni bs := x10
  have x13 : ln_Tf hp t (rd_w v) F := x13
  have x14 : cs_ad hp im F ia kk kt := x14
  obtain ⟨hi, fr, la, no, wa, nc, g0, -⟩ := id x10
  obtain ⟨t9, tl, wn, wx, fS, ff, fr9, fs, fa, fb, fL, u0, u1, u2, u3, ta, pr, u4, u5, k9⟩ := id (show fu_U hp 46 kk kt K from x12)
  have prb := pr.b
  obtain ⟨kb1, kb2⟩ := id k9
  obtain ⟨g, hg, hgt⟩ := id x6
  have ad := x14
  refine az_M.of rfl (Nat.le_of_ble_eq_true rfl) ?_
  show az_W _ _ _ _ 0 [(0, .ref 0), (1, .int x), (2, .int xi)] [] _ _
  refine az_aload_n dX11_tables_0 ?_
  refine az_iload_n dX11_tables_1 ?_
  refine az_ldc2 (v := (-1)) dX11_tables_2 cn_X11_160 ?_
  refine az_cV0 (st := []) dX11_tables_5 ml_X11_284 x1 (p_refL (d := d - 1) (by omega) hC ?_ ?_ ?_ ?_ ?_)
  · intro hno
    refine az_istore_n (ls' := [(0, .ref 0), (1, .int x), (2, .int xi), (3, .int ((-2)))]) dX11_tables_8 ?_
    refine az_iload_n dX11_tables_9 ?_
    refine az_if_eq (tgt := 15) dX11_tables_10 (fun c10 => ?_) (fun c10 => ?_)
    · exact absurd c10 (by decide)
    · refine az_iload_n dX11_tables_13 ?_
      exact az_iret dX11_tables_14 (by first | exact hQ2 hno | exact hQ6 n hx hn hno | exact hQ4 n y hx hn hy h1 | exact hQ3 n y hx hn hy h1 h6 hln)
  · intro n hx hn hno
    refine az_istore_n (ls' := [(0, .ref 0), (1, .int x), (2, .int xi), (3, .int ((-6)))]) dX11_tables_8 ?_
    refine az_iload_n dX11_tables_9 ?_
    refine az_if_eq (tgt := 15) dX11_tables_10 (fun c10 => ?_) (fun c10 => ?_)
    · exact absurd c10 (by decide)
    · refine az_iload_n dX11_tables_13 ?_
      exact az_iret dX11_tables_14 (by first | exact hQ2 hno | exact hQ6 n hx hn hno | exact hQ4 n y hx hn hy h1 | exact hQ3 n y hx hn hy h1 h6 hln)
  · intro n y hx hn hy h1
    refine az_istore_n (ls' := [(0, .ref 0), (1, .int x), (2, .int xi), (3, .int ((-4)))]) dX11_tables_8 ?_
    refine az_iload_n dX11_tables_9 ?_
    refine az_if_eq (tgt := 15) dX11_tables_10 (fun c10 => ?_) (fun c10 => ?_)
    · exact absurd c10 (by decide)
    · refine az_iload_n dX11_tables_13 ?_
      exact az_iret dX11_tables_14 (by first | exact hQ2 hno | exact hQ6 n hx hn hno | exact hQ4 n y hx hn hy h1 | exact hQ3 n y hx hn hy h1 h6 hln)
  · intro n y hx hn hy h1 h6 hln
    refine az_istore_n (ls' := [(0, .ref 0), (1, .int x), (2, .int xi), (3, .int ((-3)))]) dX11_tables_8 ?_
    refine az_iload_n dX11_tables_9 ?_
    refine az_if_eq (tgt := 15) dX11_tables_10 (fun c10 => ?_) (fun c10 => ?_)
    · exact absurd c10 (by decide)
    · refine az_iload_n dX11_tables_13 ?_
      exact az_iret dX11_tables_14 (by first | exact hQ2 hno | exact hQ6 n hx hn hno | exact hQ4 n y hx hn hy h1 | exact hQ3 n y hx hn hy h1 h6 hln)
  · intro n y hx hn hy h1 h6 hln
    have hgn := (hgt n hn).1
    have hgR := (hgt n hn).2
    rw [hy] at hgR
    obtain ⟨hl40, hs3, f, q0, -⟩ := id hgR
    refine az_istore_n (ls' := [(0, .ref 0), (1, .int x), (2, .int xi), (3, .int (nI 0))]) dX11_tables_8 ?_
    refine az_iload_n dX11_tables_9 ?_
    refine az_if_eqN (tgt := 15) dX11_tables_10 (fun c10 => ?_) (fun c10 => ?_)
    · rw [hx]
      refine az_iload_n dX11_tables_15 ?_
      refine az_if_ge (tgt := 22) dX11_tables_16 (fun c16 => ?_) (fun c16 => ?_)
      · obtain ⟨i, hi31, hxi⟩ := I_of (x := xi) (by first | exact Int32.not_lt.mpr c16 | exact c16)
        rw [hxi]
        refine az_iload_n dX11_tables_22 ?_
        refine az_aload_n dX11_tables_23 ?_
        refine az_getf (v := .ref 11) dX11_tables_24 fl_X11_35 x1 ?_
        refine az_iload_n dX11_tables_27 ?_
        refine az_aaldN (j := n) dX11_tables_28 hg ?_
        rw [hgn]
        refine az_getf (v := .int (nI y.2.length)) dX11_tables_29 fl_X11_199 q0 ?_
        refine az_icmp_ltN (tgt := 38) dX11_tables_32 (fun c32 => ?_) (fun c32 => ?_)
        · refine az_aload_n dX11_tables_38 ?_
          refine az_getf (v := .ref 46) dX11_tables_39 fl_X11_76 x1 ?_
          refine az_aload_n dX11_tables_42 ?_
          refine az_getf (v := .ref 30) dX11_tables_43 fl_X11_66 x1 ?_
          refine az_aload_n dX11_tables_46 ?_
          refine az_getf (v := .ref 11) dX11_tables_47 fl_X11_35 x1 ?_
          refine az_iload_n dX11_tables_50 ?_
          refine az_aaldN (j := n) dX11_tables_51 hg ?_
          rw [hgn]
          refine az_cV0 (st := []) dX11_tables_52 ml_X11_288 u0 (s_rowsOfLong (d := d - 1) (u := 46) (a := 30) (t := t) (r := 56 + 2 * n) (x := y) (w := (rd_w v)) (bs := bs) (by omega) hw hb k9 (by unfold fu_rd; have a1 := ad.2.1; have a2 := ad.2.2.1; omega) (x13.fu (fun q hq => (by have := ad.2.2.2.2.2.1 q hq; omega))) x10 (by omega) h1 h6 hgR u0 u1 u3 ta ?_)
          intro h9 f' s' n0 n1 n1' n3 hs' hta fr1
          have a1 := ad.2.1
          have a2 := ad.2.2.1
          have hfo : ∀ q, q < hp.1 → (q < 46 ∨ 56 ≤ q) → q ≠ kk → q ≠ kt → h9.2 q = hp.2 q := (fun q b0 b1 b2 b3 => (fr1.at (az_up_ne rfl)))
          have hU9 : fu_U h9 46 kk kt K := ⟨_, _, wn, wx, fS, f', fr9, s', fa, fb, fL, n0, n1, fr1.at (az_up_ne u2), n3, hta, pr, fr1.at (az_up_ne u4), fr1.at (az_up_ne u5), k9⟩
          have hC9 : cs h9 ((tp, bt), (fk, fp), v, (mo, ni, bs), U, im, tr) K := cs.go hok hH0 (Nat.le_of_eq fr1.1.symm) hfo hU9 (Or.inl ⟨rfl, rfl⟩)
          have hf9 : cs_f hp h9 := ⟨Nat.le_of_eq fr1.1.symm, fun z b1 b2 => hfo z (by have := ad.1; omega) (by omega) (by omega) (by omega)⟩
          refine az_pop dX11_tables_55 ?_
          refine az_aload_n dX11_tables_56 ?_
          refine az_getf (v := .ref 46) dX11_tables_57 fl_X11_76 (fr1.at (az_up_ne x1)) ?_
          refine az_iload_n dX11_tables_60 ?_
          refine az_cV0 (st := []) dX11_tables_61 ml_X11_292 n0 (s_tablesSeen (d := d - 1) (u := 46) (i := i) n0 n3 (by omega) ?_)
          exact az_iret dX11_tables_64 (by rw [hs' i (by omega)]; exact hQ n y i hx hn hy h1 h6 hln hxi (by omega) h9 hC9 hf9)
        · refine az_bipush (v := (-7)) dX11_tables_35 ?_
          exact az_iret dX11_tables_37 (hQ7 n y i hx hn hy h1 h6 hln hxi hi31 (by omega))
      · refine az_bipush (v := (-3)) dX11_tables_19 ?_
        exact az_iret dX11_tables_21 (hQi n y hx hn hy h1 h6 hln (by first | exact Int32.not_le.mp c16 | exact c16))
    · exact absurd c10 (by omega)
set_option maxHeartbeats 4000000 in
set_option maxRecDepth 100000 in
theorem p_attempt {d rs : Nat} {x : Int32} {tp fk mo ni K : Nat} {bt : Nat → Nat} {fp : Int32} {v : rd_V} {bs : List Nat} {U : ln_U} {im : Nat → Option (rd_V × ln_Z)} {tr : Nat → Option (Nat × List Int64)} {hp : az_Hp} {Q : Option Value → az_Hp → Prop} (hd : 24 ≤ d) (hC : cs hp ((tp, bt), (fk, fp), v, (mo, ni, bs), U, im, tr) K) (hrs2 : ∀ e, e ≤ 19683 → K < ta_sl e → 2 * ta_sl e ≤ rs) (hQ2 : (∀ n, n < 4 → x ≠ nI n) → Q (some (.int (-2))) hp) (hQ6 : ∀ n, x = nI n → n < 4 → tr n = none → Q (some (.int (-6))) hp) (hQ4 : ∀ n y, x = nI n → n < 4 → tr n = some y → ¬ (1 ≤ y.2.length ∧ y.2.length ≤ 8) → Q (some (.int (-4))) hp) (hQ3 : ∀ n y, x = nI n → n < 4 → tr n = some y → 1 ≤ y.2.length → y.2.length ≤ 8 → ¬ cs_ln y.2 (-1) → Q (some (.int (-3))) hp) (hQ0 : ∀ n y, x = nI n → n < 4 → tr n = some y → 1 ≤ y.2.length → y.2.length ≤ 8 → cs_ln y.2 (-1) → (fu_lg (rd_w v) (fun j => y.2.getD j 0) y.2.length 0 (fun x => (ln_str (rd_w v) bs).count x)).length = 0 → ∀ h', cs h' ((tp, bt), (fk, fp), v, (mo, ni, bs), U, im, tr) K → cs_f hp h' → Q (some (.int (-1))) h') (hQ : ∀ n y, x = nI n → n < 4 → tr n = some y → 1 ≤ y.2.length → y.2.length ≤ 8 → cs_ln y.2 (-1) → (fu_lg (rd_w v) (fun j => y.2.getD j 0) y.2.length 0 (fun x => (ln_str (rd_w v) bs).count x)).length ≠ 0 → ∀ h' K', K ≤ K' → K' ≤ 32768 → cs h' ((tp, bt), (fk, fp), v, (mo, ni, bs), U, im, tr) K' → cs_f hp h' → Q (some (.int (nI (fu_lv (fun tb => ta_mx tb (fu_ads (rd_w v) ((fu_lg (rd_w v) (fun j => y.2.getD j 0) y.2.length 0 (fun x => (ln_str (rd_w v) bs).count x)).map (fun r => fu_to (rd_w v) r (fun x => (ln_str (rd_w v) bs).count x))) [])) (ln_tb (rd_w v)))))) h') : az_M mX11_attempt d 2 rs [.ref 0, .int x] hp Q := by
  obtain ⟨hok, t, F, ia, kk, kt, x1, x2, x3, x4, x5, x6, x7, x8, x9, x10, x11, x12, x13, x14⟩ := id hC
  have hH0 : cs_H hp ((tp, bt), (fk, fp), v, (mo, ni, bs), U, im, tr) t F ia kk kt K := ⟨x1, x2, x3, x4, x5, x6, x7, x8, x9, x10, x11, x12, x13, x14⟩
  have hw : ln_ok (rd_w v) := hok.2.2.1.1
  have hlaw : ln_law (rd_w v) v.2.2.2.2.2.2.2.1 v.2.2.2.2.2.2.2.2 := hok.2.2.1.2
  have hba : ln_ba (rd_w v) bs := hok.2.2.2.1
  have hb : ln_by (rd_w v) bs := hba.b
  have x4 : ln_Past hp 6 U := x4
  have x5 : cs_im hp im ia F := x5
  have x6 : cs_tr hp tr := x6
  have x10 : ln_Scene hp 30 t (rd_w v) mo ni bs := x10
  have x13 : ln_Tf hp t (rd_w v) F := x13
  have x14 : cs_ad hp im F ia kk kt := x14
  obtain ⟨hi, fr, la, no, wa, nc, g0, -⟩ := id x10
  obtain ⟨t9, tl, wn, wx, fS, ff, fr9, fs, fa, fb, fL, u0, u1, u2, u3, ta, pr, u4, u5, k9⟩ := id (show fu_U hp 46 kk kt K from x12)
  have prb := pr.b
  obtain ⟨kb1, kb2⟩ := id k9
  obtain ⟨g, hg, hgt⟩ := id x6
  have ad := x14
  refine az_M.of rfl (Nat.le_of_ble_eq_true rfl) ?_
  show az_W _ _ _ _ 0 [(0, .ref 0), (1, .int x)] [] _ _
  refine az_aload_n dX11_attempt_0 ?_
  refine az_iload_n dX11_attempt_1 ?_
  refine az_ldc2 (v := (-1)) dX11_attempt_2 cn_X11_160 ?_
  refine az_cV0 (st := []) dX11_attempt_5 ml_X11_284 x1 (p_refL (d := d - 1) (by omega) hC ?_ ?_ ?_ ?_ ?_)
  · intro hno
    refine az_istore_n (ls' := [(0, .ref 0), (1, .int x), (2, .int ((-2)))]) dX11_attempt_8 ?_
    refine az_iload_n dX11_attempt_9 ?_
    refine az_if_eq (tgt := 15) dX11_attempt_10 (fun c10 => ?_) (fun c10 => ?_)
    · exact absurd c10 (by decide)
    · refine az_iload_n dX11_attempt_13 ?_
      exact az_iret dX11_attempt_14 (by first | exact hQ2 hno | exact hQ6 n hx hn hno | exact hQ4 n y hx hn hy h1 | exact hQ3 n y hx hn hy h1 h6 hln)
  · intro n hx hn hno
    refine az_istore_n (ls' := [(0, .ref 0), (1, .int x), (2, .int ((-6)))]) dX11_attempt_8 ?_
    refine az_iload_n dX11_attempt_9 ?_
    refine az_if_eq (tgt := 15) dX11_attempt_10 (fun c10 => ?_) (fun c10 => ?_)
    · exact absurd c10 (by decide)
    · refine az_iload_n dX11_attempt_13 ?_
      exact az_iret dX11_attempt_14 (by first | exact hQ2 hno | exact hQ6 n hx hn hno | exact hQ4 n y hx hn hy h1 | exact hQ3 n y hx hn hy h1 h6 hln)
  · intro n y hx hn hy h1
    refine az_istore_n (ls' := [(0, .ref 0), (1, .int x), (2, .int ((-4)))]) dX11_attempt_8 ?_
    refine az_iload_n dX11_attempt_9 ?_
    refine az_if_eq (tgt := 15) dX11_attempt_10 (fun c10 => ?_) (fun c10 => ?_)
    · exact absurd c10 (by decide)
    · refine az_iload_n dX11_attempt_13 ?_
      exact az_iret dX11_attempt_14 (by first | exact hQ2 hno | exact hQ6 n hx hn hno | exact hQ4 n y hx hn hy h1 | exact hQ3 n y hx hn hy h1 h6 hln)
  · intro n y hx hn hy h1 h6 hln
    refine az_istore_n (ls' := [(0, .ref 0), (1, .int x), (2, .int ((-3)))]) dX11_attempt_8 ?_
    refine az_iload_n dX11_attempt_9 ?_
    refine az_if_eq (tgt := 15) dX11_attempt_10 (fun c10 => ?_) (fun c10 => ?_)
    · exact absurd c10 (by decide)
    · refine az_iload_n dX11_attempt_13 ?_
      exact az_iret dX11_attempt_14 (by first | exact hQ2 hno | exact hQ6 n hx hn hno | exact hQ4 n y hx hn hy h1 | exact hQ3 n y hx hn hy h1 h6 hln)
  · intro n y hx hn hy h1 h6 hln
    have hgn := (hgt n hn).1
    have hgR := (hgt n hn).2
    rw [hy] at hgR
    obtain ⟨hl40, hs3, f, q0, -⟩ := id hgR
    refine az_istore_n (ls' := [(0, .ref 0), (1, .int x), (2, .int (nI 0))]) dX11_attempt_8 ?_
    refine az_iload_n dX11_attempt_9 ?_
    refine az_if_eqN (tgt := 15) dX11_attempt_10 (fun c10 => ?_) (fun c10 => ?_)
    · rw [hx]
      refine az_aload_n dX11_attempt_15 ?_
      refine az_getf (v := .ref 46) dX11_attempt_16 fl_X11_76 x1 ?_
      refine az_aload_n dX11_attempt_19 ?_
      refine az_getf (v := .ref 30) dX11_attempt_20 fl_X11_66 x1 ?_
      refine az_aload_n dX11_attempt_23 ?_
      refine az_getf (v := .ref 11) dX11_attempt_24 fl_X11_35 x1 ?_
      refine az_iload_n dX11_attempt_27 ?_
      refine az_aaldN (j := n) dX11_attempt_28 hg ?_
      rw [hgn]
      refine az_cV (st := []) dX11_attempt_29 ml_X11_299 u0 (s_tableToTry (d := d - 1) (u := 46) (a := 30) (t := t) (r := 56 + 2 * n) (x := y) (w := (rd_w v)) (bs := bs) (F := F) (by omega) hw hb (fun q hq => (by have := ad.2.2.2.2.2.1 q hq; omega)) (by unfold fu_rd; have a1 := ad.2.1; have a2 := ad.2.2.1; omega) x13 x10 (by omega) h1 h6 hgR (show fu_U hp 46 kk kt K from x12) (by have a0 := ad.1; have a3 := ad.2.2.2.1; have a4 := ad.2.2.2.2.1; omega) (fun b1 b2 => hrs2 _ (by have hml := fu_lg_len hw (fun j => y.2.getD j 0) y.2.length 0 (fun x => (ln_str (rd_w v) bs).count x); have hp3 : 3 ^ y.2.length ≤ 3 ^ 8 := Nat.pow_le_pow_right (by decide) h6; have hp4 : 3 ^ 8 = 6561 := rfl; have := Nat.mul_le_mul (show (fu_lg (rd_w v) (fun j => y.2.getD j 0) y.2.length 0 (fun x => (ln_str (rd_w v) bs).count x)).length ≤ 6561 by omega) hw.2.1; omega) b2) ?_ ?_)
      · intro hno h9 hU9 hfo
        exact az_iret dX11_attempt_32 (by have a1 := ad.2.1; have a2 := ad.2.2.1; have a0 := ad.1; have a3 := ad.2.2.2.1; have a4 := ad.2.2.2.2.1; first | exact hQ0 n y hx hn hy h1 h6 hln hno h9 (cs.go hok hH0 (Nat.le_of_eq hfo.1.symm) (fun q _ b1 b2 b3 => hfo.2 q b1 b2 b3) hU9 (Or.inl ⟨rfl, rfl⟩)) ⟨Nat.le_of_eq hfo.1.symm, fun z b1 b2 => hfo.2 z (by omega) (by omega) (by omega)⟩ | exact hQ n y hx hn hy h1 h6 hln hno h9 K' (by unfold ta_cl at hcl; omega) (hU9.le) (cs.go hok hH0 hup.1 hfo hU9 (by unfold ta_cl at hcl; omega)) ⟨hup.1, fun z b1 b2 => hfo z (by omega) (by omega) (by omega) (by omega)⟩)
      · intro hno h9 K' kk' kt' hcl hU9 hup hfo
        exact az_iret dX11_attempt_32 (by have a1 := ad.2.1; have a2 := ad.2.2.1; have a0 := ad.1; have a3 := ad.2.2.2.1; have a4 := ad.2.2.2.2.1; first | exact hQ0 n y hx hn hy h1 h6 hln hno h9 (cs.go hok hH0 (Nat.le_of_eq hfo.1.symm) (fun q _ b1 b2 b3 => hfo.2 q b1 b2 b3) hU9 (Or.inl ⟨rfl, rfl⟩)) ⟨Nat.le_of_eq hfo.1.symm, fun z b1 b2 => hfo.2 z (by omega) (by omega) (by omega)⟩ | exact hQ n y hx hn hy h1 h6 hln hno h9 K' (by unfold ta_cl at hcl; omega) (hU9.le) (cs.go hok hH0 hup.1 hfo hU9 (by unfold ta_cl at hcl; omega)) ⟨hup.1, fun z b1 b2 => hfo z (by omega) (by omega) (by omega) (by omega)⟩)
    · exact absurd c10 (by omega)

