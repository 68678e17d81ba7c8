/-! LetterNights: deeds that are told -/
/-- the deeds of a list, as far as the first that can't be: how many, why not more, what is then -/
def dl (w : ln_W) (pk sl : List Nat) : List Int64 → ln_Z → Nat × Nat × ln_Z
  | [], z => (0, 0, z)
  | x :: l, z => if (dz w pk sl z x).1 = 0 then ((dl w pk sl l (dz w pk sl z x).2).1 + 1, (dl w pk sl l (dz w pk sl z x).2).2) else (0, (dz w pk sl z x).1, z)
theorem dropJ {l : List Int64} {i : Nat} (h : i < l.length) : l.drop i = l.getD i 0 :: l.drop (i + 1) := by
  rw [List.drop_eq_getElem_cons h, List.getD_eq_getElem?_getD, List.getElem?_eq_getElem h]
  rfl
set_option maxHeartbeats 4000000 in
set_option maxRecDepth 100000 in
theorem p_perform {d : Nat} {x : Int32} {tp fk mo ni K : Nat} {bt : Nat → Nat} {fp : Int32} {v : rd_V} {bs : List Nat} {U : ln_U} {im : Nat → Option (rd_V × ln_Z)} {tr : Nat → Option (Nat × List Int64)} {hp : az_Hp} {Q : Option Value → az_Hp → Prop} (hd : 9 ≤ d) (hC : cs hp ((tp, bt), (fk, fp), v, (mo, ni, bs), U, im, tr) K) (hQ2 : (∀ n, n < 4 → x ≠ nI n) → Q (some (.int (-2))) hp) (hQ6 : ∀ n, x = nI n → n < 4 → tr n = none → Q (some (.int (-6))) hp) (hQ : ∀ n y, x = nI n → n < 4 → tr n = some y → ∀ h', cs h' ((tp, bt), (fk, fp), v, (dl (rd_w v) v.2.2.2.2.2.2.2.1 v.2.2.2.2.2.2.2.2 y.2 (mo, ni, bs)).2.2, cs_push U (dl (rd_w v) v.2.2.2.2.2.2.2.1 v.2.2.2.2.2.2.2.2 y.2 (mo, ni, bs)).1 (bs.length, ni, mo), im, tr) K → cs_f hp h' → Q (some (.int (nI (dl (rd_w v) v.2.2.2.2.2.2.2.1 v.2.2.2.2.2.2.2.2 y.2 (mo, ni, bs)).1))) h') : az_M mX11_perform d 0 0 [.ref 0, .int x] hp Q := by
  obtain ⟨hok, t, F, ia, kk, kt, x1, x2, x3, x4, x5, x6, x7, x8, x9, x10, x11, x12, x13, x14⟩ := id hC
  have hw : ln_ok (rd_w v) := hok.2.2.1.1
  have hlaw : ln_law (rd_w v) v.2.2.2.2.2.2.2.1 v.2.2.2.2.2.2.2.2 := hok.2.2.1.2
  have hba : ln_ba (rd_w v) bs := hok.2.2.2.1
  have hb : ln_by (rd_w v) bs := hba.b
  have x4 : ln_Past hp 6 U := x4
  have x5 : cs_im hp im ia F := x5
  have x6 : cs_tr hp tr := x6
  have x10 : ln_Scene hp 30 t (rd_w v) mo ni bs := x10
  have x13 : ln_Tf hp t (rd_w v) F := x13
  have x14 : cs_ad hp im F ia kk kt := x14
  obtain ⟨hi, fr, la, no, wa, nc, g0, -⟩ := id x10
  obtain ⟨fa, fn, fm, p0, -⟩ := id x4
  obtain ⟨g, hg, hgt⟩ := id x6
  have hU : U.length ≤ 10 := hok.2.2.2.2.1
  have fin : ∀ (k : Nat) (n : Nat) (y : Nat × List Int64) (h1 : az_Hp) (hx : x = nI n) (hn : n < 4) (hy : tr n = some y) (hl40 : y.2.length ≤ 40) (hgR : ln_Tray h1 (56 + 2 * n) (some y)) (hf1 : az_fr hp h1 6 10) (hP1 : ln_PastX h1 6 U.length (U ++ [(bs.length, ni, mo)])) (hH1 : cs_H h1 ((tp, bt), (fk, fp), v, (mo, ni, bs), U, im, tr) t F ia kk kt K) (i m9 n9 : Nat) (b9 l9 : List Nat) (h' : az_Hp), 0 = k → (i ≤ 40) → (b9 = bs ++ l9) → (ln_ba (rd_w v) (bs ++ l9)) → (ln_Scene h' 30 t (rd_w v) m9 n9 b9) → (az_fr h1 h' 30 38) → (i = (dl (rd_w v) v.2.2.2.2.2.2.2.1 v.2.2.2.2.2.2.2.2 y.2 (mo, ni, bs)).1 ∧ (m9, n9, b9) = (dl (rd_w v) v.2.2.2.2.2.2.2.1 v.2.2.2.2.2.2.2.2 y.2 (mo, ni, bs)).2.2) → az_W mX11_perform d 0 0 64 [(0, .ref 0), (1, .int (nI n)), (2, .int (nI 0)), (3, .ref (56 + 2 * n)), (4, .int (nI i))] [] h' Q := by
    intro k
    induction k using Nat.strongRecOn with
    | _ k ih =>
    intro n y h1 hx hn hy hl40 hgR hf1 hP1 hH1 i m9 n9 b9 l9 h' hk hi60 hz9 hba9 hS9 hf9 hR
    obtain ⟨y1, y2, y3, y4, y5, y6, y7, y8, y9, y10, y11, y12, y13, y14⟩ := id hH1
    have y5 : cs_im h1 im ia F := y5
    have y13 : ln_Tf h1 t (rd_w v) F := y13
    have y14 : cs_ad h1 im F ia kk kt := y14
    have e0 := hf9.at (hf1.at x1)
    obtain ⟨hi9, fr9, la9, no9, wa9, nc9, g9, -⟩ := id hS9
    have hgR9 : ln_Tray h' (56 + 2 * n) (some y) := hgR.eqv (hf9.2 _ (by omega)) (hf9.2 _ (by omega))
    obtain ⟨-, hs3, f, q9, -⟩ := id hgR9
    refine az_aload_n dX11_perform_64 ?_
    refine az_iload dX11_perform_65 ?_
    refine az_cV0 (st := []) dX11_perform_67 ml_X11_177 e0 (p_keepIfDone (d := d - 1) (k9 := i) (tp := tp) (by omega) (by omega) hU e0 (ln_PastX.fr hP1 hf9 (by omega)) ?_)
    intro h2 hP2 hf2
    refine az_iload dX11_perform_70 ?_
    exact az_iret dX11_perform_72 (by have hH2 : cs_H h' ((tp, bt), (fk, fp), v, (m9, n9, b9), U, im, tr) t F ia kk kt K := ⟨(hf9.at y1), (y2.fr hf9), (y3.fr hf9), (ln_PastX.fr y4 hf9 (by omega)), (y5.fr hf9 y14), (y6.fr hf9), (y7.fr hf9), (y8.fr hf9), (y9.fr hf9), hS9, (y11.fr hf9), (y12.fr hf9 (by omega) (by have := y14.2.1; omega) (by have := y14.2.2.1; omega)), (y13.fr hf9 (fun q hq => (by have := y14.2.2.2.2.2.1 q hq; omega))), (y14.fr hf9)⟩; obtain ⟨w1, w2, w3, w4, w5, w6, w7, w8, w9, w10, w11, w12, w13, w14⟩ := hH2; have w10 : ln_Scene h' 30 t (rd_w v) m9 n9 b9 := w10; have w14 : cs_ad h' im F ia kk kt := w14; have w5 : cs_im h' im ia F := w5; have h8 := hQ n y hx hn hy h2; rw [← hR.1, ← hR.2] at h8; exact h8 ⟨(by rw [hz9]; exact hok.push2 i m9 n9 l9 hba9), ⟨t, F, ia, kk, kt, (hf2.at w1), (w2.fr hf2), (w3.fr hf2), hP2, (w5.fr hf2 w14), (w6.fr hf2), (w7.fr hf2), (w8.fr hf2), (w9.fr hf2), (ln_Scene.fr w10 hf2 (by omega)), (w11.fr hf2), (w12.fr hf2 (by omega) (by have := w14.2.1; omega) (by have := w14.2.2.1; omega)), (w13.fr hf2 (fun q hq => (by have := w14.2.2.2.2.2.1 q hq; omega))), (w14.fr hf2)⟩⟩ ((hf1.cs.tr hf9.cs).tr hf2.cs))
  have loop : ∀ (k : Nat) (n : Nat) (y : Nat × List Int64) (h1 : az_Hp) (hx : x = nI n) (hn : n < 4) (hy : tr n = some y) (hl40 : y.2.length ≤ 40) (hgR : ln_Tray h1 (56 + 2 * n) (some y)) (hf1 : az_fr hp h1 6 10) (hP1 : ln_PastX h1 6 U.length (U ++ [(bs.length, ni, mo)])) (hH1 : cs_H h1 ((tp, bt), (fk, fp), v, (mo, ni, bs), U, im, tr) t F ia kk kt K) (i m9 n9 : Nat) (b9 l9 : List Nat) (h' : az_Hp), y.2.length - i = k → (i ≤ y.2.length) → (b9 = bs ++ l9) → (ln_ba (rd_w v) (bs ++ l9)) → (ln_Scene h' 30 t (rd_w v) m9 n9 b9) → (az_fr h1 h' 30 38) → (i + (dl (rd_w v) v.2.2.2.2.2.2.2.1 v.2.2.2.2.2.2.2.2 (y.2.drop i) (m9, n9, b9)).1 = (dl (rd_w v) v.2.2.2.2.2.2.2.1 v.2.2.2.2.2.2.2.2 y.2 (mo, ni, bs)).1 ∧ (dl (rd_w v) v.2.2.2.2.2.2.2.1 v.2.2.2.2.2.2.2.2 (y.2.drop i) (m9, n9, b9)).2.2 = (dl (rd_w v) v.2.2.2.2.2.2.2.1 v.2.2.2.2.2.2.2.2 y.2 (mo, ni, bs)).2.2) → az_W mX11_perform d 0 0 33 [(0, .ref 0), (1, .int (nI n)), (2, .int (nI 0)), (3, .ref (56 + 2 * n)), (4, .int (nI i))] [] h' Q := by
    intro k
    induction k using Nat.strongRecOn with
    | _ k ih =>
    intro n y h1 hx hn hy hl40 hgR hf1 hP1 hH1 i m9 n9 b9 l9 h' hk hi60 hz9 hba9 hS9 hf9 hR
    obtain ⟨y1, y2, y3, y4, y5, y6, y7, y8, y9, y10, y11, y12, y13, y14⟩ := id hH1
    have y5 : cs_im h1 im ia F := y5
    have y13 : ln_Tf h1 t (rd_w v) F := y13
    have y14 : cs_ad h1 im F ia kk kt := y14
    have e0 := hf9.at (hf1.at x1)
    obtain ⟨hi9, fr9, la9, no9, wa9, nc9, g9, -⟩ := id hS9
    have hgR9 : ln_Tray h' (56 + 2 * n) (some y) := hgR.eqv (hf9.2 _ (by omega)) (hf9.2 _ (by omega))
    obtain ⟨-, hs3, f, q9, -⟩ := id hgR9
    refine az_iload dX11_perform_33 ?_
    refine az_aload_n dX11_perform_35 ?_
    refine az_getf (v := .int (nI y.2.length)) dX11_perform_36 fl_X11_199 q9 ?_
    refine az_icmp_geN (tgt := 64) dX11_perform_39 (fun c39 => ?_) (fun c39 => ?_)
    · first | (have hR2 := hR; rw [List.drop_of_length_le (i := i) (l := y.2) (by omega), dl] at hR2; exact fin _ n y h1 hx hn hy hl40 hgR hf1 hP1 hH1 i m9 n9 b9 l9 h' rfl (by omega) hz9 hba9 hS9 hf9 hR2) | (rw [dropJ (i := i) (l := y.2) (by omega), dl, ← hD] at hR; rw [if_neg c55] at hR; rw [r3 c55] at hS2; exact fin _ n y h1 hx hn hy hl40 hgR hf1 hP1 hH1 i m9 n9 b9 l9 h2 rfl (by omega) hz9 hba9 hS2 (hf9.tr hf2) hR)
    · refine az_aload_n dX11_perform_42 ?_
      refine az_getf (v := .ref 30) dX11_perform_43 fl_X11_66 e0 ?_
      refine az_aload_n dX11_perform_46 ?_
      refine az_iload dX11_perform_47 ?_
      refine az_cV0 (st := [.ref 30]) dX11_perform_49 ml_X11_202 q9 (s_get (d := d - 1) (i := i) hgR9 (by omega) ?_)
      obtain ⟨l2, r1, r2, r3, r4⟩ := dz_ba (pk := v.2.2.2.2.2.2.2.1) (sl := v.2.2.2.2.2.2.2.2) (mo := m9) (ni := n9) (x := y.2.getD i 0) hw (by rw [← hz9] at hba9; exact hba9)
      have hT9 := (y13.fr hf9 (fun q hq => (by have := y14.2.2.2.2.2.1 q hq; omega))).to (lo := 30) (hi := 38) (fun q hq => (by have := y14.2.2.2.2.2.1 q hq; omega))
      obtain ⟨D, hD⟩ : ∃ D, D = dz (rd_w v) v.2.2.2.2.2.2.2.1 v.2.2.2.2.2.2.2.2 (m9, n9, b9) (y.2.getD i 0) := ⟨_, rfl⟩
      rw [← hD] at r1 r3 r4
      refine az_cV0 (st := []) dX11_perform_52 ml_X11_170 g9 (s_tryDeed (d := d - 1) (a := 30) (t := t) (w := rd_w v) (z := (m9, n9, b9)) (v := y.2.getD i 0) (by omega) hw hlaw (by rw [← hz9] at hba9; exact hba9.b) hT9 hS9 ?_)
      intro h2 hS2 hf2
      rw [← hD] at hS2
      rw [← hD]
      refine az_if_neN (tgt := 64) dX11_perform_55 (fun c55 => ?_) (fun c55 => ?_)
      · first | (have hR2 := hR; rw [List.drop_of_length_le (i := i) (l := y.2) (by omega), dl] at hR2; exact fin _ n y h1 hx hn hy hl40 hgR hf1 hP1 hH1 i m9 n9 b9 l9 h' rfl (by omega) hz9 hba9 hS9 hf9 hR2) | (rw [dropJ (i := i) (l := y.2) (by omega), dl, ← hD] at hR; rw [if_neg c55] at hR; rw [r3 c55] at hS2; exact fin _ n y h1 hx hn hy hl40 hgR hf1 hP1 hH1 i m9 n9 b9 l9 h2 rfl (by omega) hz9 hba9 hS2 (hf9.tr hf2) hR)
      · refine az_iincN (n := 1) (ls' := [(0, .ref 0), (1, .int (nI n)), (2, .int (nI 0)), (3, .ref (56 + 2 * n)), (4, .int (nI (i + 1)))]) dX11_perform_58 ?_
        refine az_goto (tgt := 33) dX11_perform_61 ?_
        rw [dropJ (i := i) (l := y.2) (by omega), dl, ← hD] at hR
        rw [if_pos c55] at hR
        exact ih _ (by omega) n y h1 hx hn hy hl40 hgR hf1 hP1 hH1 (i + 1) D.2.1 D.2.2.1 D.2.2.2 (l9 ++ l2) h2 rfl (by omega) (by rw [r1, hz9, List.append_assoc]) (by rw [← List.append_assoc, ← hz9]; exact r2) hS2 (hf9.tr hf2) ⟨(by rw [← hR.1, show i + 1 + (dl (rd_w v) v.2.2.2.2.2.2.2.1 v.2.2.2.2.2.2.2.2 (y.2.drop (i + 1)) (D.2.1, D.2.2.1, D.2.2.2)).1 = i + ((dl (rd_w v) v.2.2.2.2.2.2.2.1 v.2.2.2.2.2.2.2.2 (y.2.drop (i + 1)) D.2).1 + 1) by (show i + 1 + (dl (rd_w v) v.2.2.2.2.2.2.2.1 v.2.2.2.2.2.2.2.2 (y.2.drop (i + 1)) D.2).1 = _; omega)]), hR.2⟩
  refine az_M.of rfl (Nat.le_of_ble_eq_true rfl) ?_
  show az_W _ _ _ _ 0 [(0, .ref 0), (1, .int x)] [] _ _
  refine az_aload_n dX11_perform_0 ?_
  refine az_iload_n dX11_perform_1 ?_
  refine az_cV0 (st := []) dX11_perform_2 ml_X11_211 x1 (p_refT (d := d - 1) (by omega) hC ?_ ?_ ?_)
  · intro hno
    refine az_istore_n (ls' := [(0, .ref 0), (1, .int x), (2, .int ((-2)))]) dX11_perform_5 ?_
    refine az_iload_n dX11_perform_6 ?_
    refine az_if_eq (tgt := 12) dX11_perform_7 (fun c7 => ?_) (fun c7 => ?_)
    · exact absurd c7 (by decide)
    · refine az_iload_n dX11_perform_10 ?_
      exact az_iret dX11_perform_11 (by first | exact hQ2 hno | exact hQ6 n hx hn hno)
  · intro n hx hn hno
    refine az_istore_n (ls' := [(0, .ref 0), (1, .int x), (2, .int ((-6)))]) dX11_perform_5 ?_
    refine az_iload_n dX11_perform_6 ?_
    refine az_if_eq (tgt := 12) dX11_perform_7 (fun c7 => ?_) (fun c7 => ?_)
    · exact absurd c7 (by decide)
    · refine az_iload_n dX11_perform_10 ?_
      exact az_iret dX11_perform_11 (by first | exact hQ2 hno | exact hQ6 n hx hn hno)
  · intro n y hx hn hy
    have hgn := (hgt n hn).1
    have hgR := (hgt n hn).2
    rw [hy] at hgR
    obtain ⟨hl40, hs3, f, q0, -⟩ := id hgR
    refine az_istore_n (ls' := [(0, .ref 0), (1, .int x), (2, .int (nI 0))]) dX11_perform_5 ?_
    refine az_iload_n dX11_perform_6 ?_
    refine az_if_eqN (tgt := 12) dX11_perform_7 (fun c7 => ?_) (fun c7 => ?_)
    · rw [hx]
      refine az_aload_n dX11_perform_12 ?_
      refine az_getf (v := .ref 11) dX11_perform_13 fl_X11_35 x1 ?_
      refine az_iload_n dX11_perform_16 ?_
      refine az_aaldN (j := n) dX11_perform_17 hg ?_
      rw [hgn]
      refine az_astore_n (ls' := [(0, .ref 0), (1, .int (nI n)), (2, .int (nI 0)), (3, .ref (56 + 2 * n))]) dX11_perform_18 ?_
      refine az_aload_n dX11_perform_19 ?_
      refine az_getf (v := .ref 6) dX11_perform_20 fl_X11_23 x1 ?_
      refine az_aload_n dX11_perform_23 ?_
      refine az_getf (v := .ref 30) dX11_perform_24 fl_X11_66 x1 ?_
      refine az_cV0 (st := []) dX11_perform_27 ml_X11_167 p0 (s_mark (d := d - 1) (a := 30) (t := t) (w := rd_w v) (z := (mo, ni, bs)) hU (by omega) x4 x10 ?_)
      intro h1 hP1 hf1
      have hPU : ln_Past h1 6 U := (by have h9 := hP1.cut U.length; rw [List.take_left] at h9; exact h9)
      have hH1 : cs_H h1 ((tp, bt), (fk, fp), v, (mo, ni, bs), U, im, tr) t F ia kk kt K := ⟨(hf1.at x1), (x2.fr hf1), (x3.fr hf1), hPU, (x5.fr hf1 x14), (x6.fr hf1), (x7.fr hf1), (x8.fr hf1), (x9.fr hf1), (ln_Scene.fr x10 hf1 (by omega)), (x11.fr hf1), (x12.fr hf1 (by omega) (by have := x14.2.1; omega) (by have := x14.2.2.1; omega)), (x13.fr hf1 (fun q hq => (by have := x14.2.2.2.2.2.1 q hq; omega))), (x14.fr hf1)⟩
      refine az_iconst (v := nI 0) dX11_perform_30 ?_
      refine az_istore (ls' := [(0, .ref 0), (1, .int (nI n)), (2, .int (nI 0)), (3, .ref (56 + 2 * n)), (4, .int (nI 0))]) dX11_perform_31 ?_
      exact loop _ n y h1 hx hn hy hl40 (hgR.eqv (hf1.2 _ (by omega)) (hf1.2 _ (by omega))) hf1 hP1 hH1 0 mo ni bs [] h1 rfl (Nat.zero_le _) (List.append_nil _).symm (by rw [List.append_nil]; exact hba) (ln_Scene.fr x10 hf1 (by omega)) az_fr.rf ⟨(by rw [List.drop_zero, Nat.zero_add]), (by rw [List.drop_zero])⟩
    · exact absurd c7 (by omega)

