/-! LetterNights: attempt, its room by what grows -/
set_option maxHeartbeats 4000000 in
set_option maxRecDepth 100000 in
theorem p_attempt2 {d rs : Nat} {x : Int32} {tp fk mo ni K : Nat} {bt : Nat → Nat} {fp : Int32} {v : rd_V} {bs : List Nat} {U : ln_U} {im : Nat → Option (rd_V × ln_Z)} {tr : Nat → Option (Nat × List Int64)} {hp : az_Hp} {Q : Option Value → az_Hp → Prop} (hd : 24 ≤ d) (hC : cs hp ((tp, bt), (fk, fp), v, (mo, ni, bs), U, im, tr) K) (hrs2 : ∀ n y, x = nI n → n < 4 → tr n = some y → 1 ≤ y.2.length → y.2.length ≤ 8 → cs_ln y.2 (-1) → (fu_lg (rd_w v) (fun j => y.2.getD j 0) y.2.length 0 (fun x => (ln_str (rd_w v) bs).count x)).length ≠ 0 → K < ta_sl ((fu_lg (rd_w v) (fun j => y.2.getD j 0) y.2.length 0 (fun x => (ln_str (rd_w v) bs).count x)).length * ln_tb (rd_w v)) → 2 * ta_sl ((fu_lg (rd_w v) (fun j => y.2.getD j 0) y.2.length 0 (fun x => (ln_str (rd_w v) bs).count x)).length * ln_tb (rd_w v)) ≤ rs) (hQ2 : (∀ n, n < 4 → x ≠ nI n) → Q (some (.int (-2))) hp) (hQ6 : ∀ n, x = nI n → n < 4 → tr n = none → Q (some (.int (-6))) hp) (hQ4 : ∀ n y, x = nI n → n < 4 → tr n = some y → ¬ (1 ≤ y.2.length ∧ y.2.length ≤ 8) → Q (some (.int (-4))) hp) (hQ3 : ∀ n y, x = nI n → n < 4 → tr n = some y → 1 ≤ y.2.length → y.2.length ≤ 8 → ¬ cs_ln y.2 (-1) → Q (some (.int (-3))) hp) (hQ0 : ∀ n y, x = nI n → n < 4 → tr n = some y → 1 ≤ y.2.length → y.2.length ≤ 8 → cs_ln y.2 (-1) → (fu_lg (rd_w v) (fun j => y.2.getD j 0) y.2.length 0 (fun x => (ln_str (rd_w v) bs).count x)).length = 0 → ∀ h', cs h' ((tp, bt), (fk, fp), v, (mo, ni, bs), U, im, tr) K → cs_f hp h' → Q (some (.int (-1))) h') (hQ : ∀ n y, x = nI n → n < 4 → tr n = some y → 1 ≤ y.2.length → y.2.length ≤ 8 → cs_ln y.2 (-1) → (fu_lg (rd_w v) (fun j => y.2.getD j 0) y.2.length 0 (fun x => (ln_str (rd_w v) bs).count x)).length ≠ 0 → ∀ h' K', ((ta_sl ((fu_lg (rd_w v) (fun j => y.2.getD j 0) y.2.length 0 (fun x => (ln_str (rd_w v) bs).count x)).length * ln_tb (rd_w v)) ≤ K ∧ K' = K) ∨ (K < ta_sl ((fu_lg (rd_w v) (fun j => y.2.getD j 0) y.2.length 0 (fun x => (ln_str (rd_w v) bs).count x)).length * ln_tb (rd_w v)) ∧ K' = ta_sl ((fu_lg (rd_w v) (fun j => y.2.getD j 0) y.2.length 0 (fun x => (ln_str (rd_w v) bs).count x)).length * ln_tb (rd_w v)))) → K' ≤ 32768 → cs h' ((tp, bt), (fk, fp), v, (mo, ni, bs), U, im, tr) K' → cs_f hp h' → Q (some (.int (nI (fu_lv (fun tb => ta_mx tb (fu_ads (rd_w v) ((fu_lg (rd_w v) (fun j => y.2.getD j 0) y.2.length 0 (fun x => (ln_str (rd_w v) bs).count x)).map (fun r => fu_to (rd_w v) r (fun x => (ln_str (rd_w v) bs).count x))) [])) (ln_tb (rd_w v)))))) h') : az_M mX11_attempt d 2 rs [.ref 0, .int x] hp Q := by
  obtain ⟨hok, t, F, ia, kk, kt, x1, x2, x3, x4, x5, x6, x7, x8, x9, x10, x11, x12, x13, x14⟩ := id hC
  have hH0 : cs_H hp ((tp, bt), (fk, fp), v, (mo, ni, bs), U, im, tr) t F ia kk kt K := ⟨x1, x2, x3, x4, x5, x6, x7, x8, x9, x10, x11, x12, x13, x14⟩
  have hw : ln_ok (rd_w v) := hok.2.2.1.1
  have hlaw : ln_law (rd_w v) v.2.2.2.2.2.2.2.1 v.2.2.2.2.2.2.2.2 := hok.2.2.1.2
  have hba : ln_ba (rd_w v) bs := hok.2.2.2.1
  have hb : ln_by (rd_w v) bs := hba.b
  have x4 : ln_Past hp 6 U := x4
  have x5 : cs_im hp im ia F := x5
  have x6 : cs_tr hp tr := x6
  have x10 : ln_Scene hp 30 t (rd_w v) mo ni bs := x10
  have x13 : ln_Tf hp t (rd_w v) F := x13
  have x14 : cs_ad hp im F ia kk kt := x14
  obtain ⟨hi, fr, la, no, wa, nc, g0, -⟩ := id x10
  obtain ⟨t9, tl, wn, wx, fS, ff, fr9, fs, fa, fb, fL, u0, u1, u2, u3, ta, pr, u4, u5, k9⟩ := id (show fu_U hp 46 kk kt K from x12)
  have prb := pr.b
  obtain ⟨kb1, kb2⟩ := id k9
  obtain ⟨g, hg, hgt⟩ := id x6
  have ad := x14
  refine az_M.of rfl (Nat.le_of_ble_eq_true rfl) ?_
  show az_W _ _ _ _ 0 [(0, .ref 0), (1, .int x)] [] _ _
  refine az_aload_n dX11_attempt_0 ?_
  refine az_iload_n dX11_attempt_1 ?_
  refine az_ldc2 (v := (-1)) dX11_attempt_2 cn_X11_160 ?_
  refine az_cV0 (st := []) dX11_attempt_5 ml_X11_284 x1 (p_refL (d := d - 1) (by omega) hC ?_ ?_ ?_ ?_ ?_)
  · intro hno
    refine az_istore_n (ls' := [(0, .ref 0), (1, .int x), (2, .int ((-2)))]) dX11_attempt_8 ?_
    refine az_iload_n dX11_attempt_9 ?_
    refine az_if_eq (tgt := 15) dX11_attempt_10 (fun c10 => ?_) (fun c10 => ?_)
    · exact absurd c10 (by decide)
    · refine az_iload_n dX11_attempt_13 ?_
      exact az_iret dX11_attempt_14 (by first | exact hQ2 hno | exact hQ6 n hx hn hno | exact hQ4 n y hx hn hy h1 | exact hQ3 n y hx hn hy h1 h6 hln)
  · intro n hx hn hno
    refine az_istore_n (ls' := [(0, .ref 0), (1, .int x), (2, .int ((-6)))]) dX11_attempt_8 ?_
    refine az_iload_n dX11_attempt_9 ?_
    refine az_if_eq (tgt := 15) dX11_attempt_10 (fun c10 => ?_) (fun c10 => ?_)
    · exact absurd c10 (by decide)
    · refine az_iload_n dX11_attempt_13 ?_
      exact az_iret dX11_attempt_14 (by first | exact hQ2 hno | exact hQ6 n hx hn hno | exact hQ4 n y hx hn hy h1 | exact hQ3 n y hx hn hy h1 h6 hln)
  · intro n y hx hn hy h1
    refine az_istore_n (ls' := [(0, .ref 0), (1, .int x), (2, .int ((-4)))]) dX11_attempt_8 ?_
    refine az_iload_n dX11_attempt_9 ?_
    refine az_if_eq (tgt := 15) dX11_attempt_10 (fun c10 => ?_) (fun c10 => ?_)
    · exact absurd c10 (by decide)
    · refine az_iload_n dX11_attempt_13 ?_
      exact az_iret dX11_attempt_14 (by first | exact hQ2 hno | exact hQ6 n hx hn hno | exact hQ4 n y hx hn hy h1 | exact hQ3 n y hx hn hy h1 h6 hln)
  · intro n y hx hn hy h1 h6 hln
    refine az_istore_n (ls' := [(0, .ref 0), (1, .int x), (2, .int ((-3)))]) dX11_attempt_8 ?_
    refine az_iload_n dX11_attempt_9 ?_
    refine az_if_eq (tgt := 15) dX11_attempt_10 (fun c10 => ?_) (fun c10 => ?_)
    · exact absurd c10 (by decide)
    · refine az_iload_n dX11_attempt_13 ?_
      exact az_iret dX11_attempt_14 (by first | exact hQ2 hno | exact hQ6 n hx hn hno | exact hQ4 n y hx hn hy h1 | exact hQ3 n y hx hn hy h1 h6 hln)
  · intro n y hx hn hy h1 h6 hln
    have hgn := (hgt n hn).1
    have hgR := (hgt n hn).2
    rw [hy] at hgR
    obtain ⟨hl40, hs3, f, q0, -⟩ := id hgR
    refine az_istore_n (ls' := [(0, .ref 0), (1, .int x), (2, .int (nI 0))]) dX11_attempt_8 ?_
    refine az_iload_n dX11_attempt_9 ?_
    refine az_if_eqN (tgt := 15) dX11_attempt_10 (fun c10 => ?_) (fun c10 => ?_)
    · rw [hx]
      refine az_aload_n dX11_attempt_15 ?_
      refine az_getf (v := .ref 46) dX11_attempt_16 fl_X11_76 x1 ?_
      refine az_aload_n dX11_attempt_19 ?_
      refine az_getf (v := .ref 30) dX11_attempt_20 fl_X11_66 x1 ?_
      refine az_aload_n dX11_attempt_23 ?_
      refine az_getf (v := .ref 11) dX11_attempt_24 fl_X11_35 x1 ?_
      refine az_iload_n dX11_attempt_27 ?_
      refine az_aaldN (j := n) dX11_attempt_28 hg ?_
      rw [hgn]
      refine az_cV (st := []) dX11_attempt_29 ml_X11_299 u0 (s_tableToTry (d := d - 1) (u := 46) (a := 30) (t := t) (r := 56 + 2 * n) (x := y) (w := (rd_w v)) (bs := bs) (F := F) (by omega) hw hb (fun q hq => (by have := ad.2.2.2.2.2.1 q hq; omega)) (by unfold fu_rd; have a1 := ad.2.1; have a2 := ad.2.2.1; omega) x13 x10 (by omega) h1 h6 hgR (show fu_U hp 46 kk kt K from x12) (by have a0 := ad.1; have a3 := ad.2.2.2.1; have a4 := ad.2.2.2.2.1; omega) (fun b1 b2 => hrs2 n y hx hn hy h1 h6 hln b1 b2) ?_ ?_)
      · intro hno h9 hU9 hfo
        exact az_iret dX11_attempt_32 (by have a1 := ad.2.1; have a2 := ad.2.2.1; have a0 := ad.1; have a3 := ad.2.2.2.1; have a4 := ad.2.2.2.2.1; first | exact hQ0 n y hx hn hy h1 h6 hln hno h9 (cs.go hok hH0 (Nat.le_of_eq hfo.1.symm) (fun q _ b1 b2 b3 => hfo.2 q b1 b2 b3) hU9 (Or.inl ⟨rfl, rfl⟩)) ⟨Nat.le_of_eq hfo.1.symm, fun z b1 b2 => hfo.2 z (by omega) (by omega) (by omega)⟩ | exact hQ n y hx hn hy h1 h6 hln hno h9 K' (by unfold ta_cl at hcl; exact hcl.imp (fun q => ⟨q.1, q.2.1⟩) (fun q => ⟨q.1, q.2.1⟩)) (hU9.le) (cs.go hok hH0 hup.1 hfo hU9 (by unfold ta_cl at hcl; omega)) ⟨hup.1, fun z b1 b2 => hfo z (by omega) (by omega) (by omega) (by omega)⟩)
      · intro hno h9 K' kk' kt' hcl hU9 hup hfo
        exact az_iret dX11_attempt_32 (by have a1 := ad.2.1; have a2 := ad.2.2.1; have a0 := ad.1; have a3 := ad.2.2.2.1; have a4 := ad.2.2.2.2.1; first | exact hQ0 n y hx hn hy h1 h6 hln hno h9 (cs.go hok hH0 (Nat.le_of_eq hfo.1.symm) (fun q _ b1 b2 b3 => hfo.2 q b1 b2 b3) hU9 (Or.inl ⟨rfl, rfl⟩)) ⟨Nat.le_of_eq hfo.1.symm, fun z b1 b2 => hfo.2 z (by omega) (by omega) (by omega)⟩ | exact hQ n y hx hn hy h1 h6 hln hno h9 K' (by unfold ta_cl at hcl; exact hcl.imp (fun q => ⟨q.1, q.2.1⟩) (fun q => ⟨q.1, q.2.1⟩)) (hU9.le) (cs.go hok hH0 hup.1 hfo hU9 (by unfold ta_cl at hcl; omega)) ⟨hup.1, fun z b1 b2 => hfo z (by omega) (by omega) (by omega) (by omega)⟩)
    · exact absurd c10 (by omega)

