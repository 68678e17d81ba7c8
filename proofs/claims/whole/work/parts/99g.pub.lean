/-! LetterNights: write; night, letter, count, place -/
set_option maxHeartbeats 4000000 in
set_option maxRecDepth 100000 in
theorem p_write {d : Nat} {x xi : Int32} {xv : Int64} {tp fk mo ni K : Nat} {bt : Nat → Nat} {fp : Int32} {v : rd_V} {bs : List Nat} {U : ln_U} {im : Nat → Option (rd_V × ln_Z)} {tr : Nat → Option (Nat × List Int64)} {hp : az_Hp} {Q : Option Value → az_Hp → Prop} (hd : 4 ≤ d) (hC : cs hp ((tp, bt), (fk, fp), v, (mo, ni, bs), U, im, tr) K) (hQ2 : (∀ n, n < 4 → x ≠ nI n) → Q (some (.long (-2))) hp) (hQ6 : ∀ n, x = nI n → n < 4 → tr n = none → Q (some (.long (-6))) hp) (hQ7 : ∀ n y, x = nI n → n < 4 → tr n = some y → ¬ cs_in xi y.2.length → Q (some (.long (-7))) hp) (hQ0 : ∀ n y i, x = nI n → n < 4 → tr n = some y → xi = nI i → i < y.2.length → ∀ h', cs h' ((tp, bt), (fk, fp), v, (mo, ni, bs), U, im, fun j9 => if j9 = n then some (y.1, y.2.set i (ln_cut y.1 xv)) else tr j9) K → cs_f hp h' → Q (some (.long (ln_cut y.1 xv))) h') : az_M mX11_write d 0 0 [.ref 0, .int x, .int xi, .long xv] hp Q := by
  obtain ⟨hok, t, F, ia, kk, kt, x1, x2, x3, x4, x5, x6, x7, x8, x9, x10, x11, x12, x13, x14⟩ := id hC
  have hw : ln_ok (rd_w v) := hok.2.2.1.1
  have hlaw : ln_law (rd_w v) v.2.2.2.2.2.2.2.1 v.2.2.2.2.2.2.2.2 := hok.2.2.1.2
  have hba : ln_ba (rd_w v) bs := hok.2.2.2.1
  have hb : ln_by (rd_w v) bs := hba.b
  have x4 : ln_Past hp 6 U := x4
  have x5 : cs_im hp im ia F := x5
  have x6 : cs_tr hp tr := x6
  have x10 : ln_Scene hp 30 t (rd_w v) mo ni bs := x10
  have x13 : ln_Tf hp t (rd_w v) F := x13
  have x14 : cs_ad hp im F ia kk kt := x14
  obtain ⟨g, hg, hgt⟩ := id x6
  refine az_M.of rfl (Nat.le_of_ble_eq_true rfl) ?_
  show az_W _ _ _ _ 0 [(0, .ref 0), (1, .int x), (2, .int xi), (3, .long xv)] [] _ _
  refine az_aload_n dX11_write_0 ?_
  refine az_iload_n dX11_write_1 ?_
  refine az_cV0 (st := []) dX11_write_2 ml_X11_211 x1 (p_refT (d := d - 1) (by omega) hC ?_ ?_ ?_)
  · intro hno
    refine az_istore (ls' := [(0, .ref 0), (1, .int x), (2, .int xi), (3, .long xv), (5, .int ((-2)))]) dX11_write_5 ?_
    refine az_iload dX11_write_7 ?_
    refine az_if_eq (tgt := 16) dX11_write_9 (fun c9 => ?_) (fun c9 => ?_)
    · exact absurd c9 (by decide)
    · refine az_iload dX11_write_12 ?_
      refine az_i2l dX11_write_14 ?_
      exact az_lret dX11_write_15 (by first | exact hQ2 hno | exact hQ6 n hx hn hno)
  · intro n hx hn hno
    refine az_istore (ls' := [(0, .ref 0), (1, .int x), (2, .int xi), (3, .long xv), (5, .int ((-6)))]) dX11_write_5 ?_
    refine az_iload dX11_write_7 ?_
    refine az_if_eq (tgt := 16) dX11_write_9 (fun c9 => ?_) (fun c9 => ?_)
    · exact absurd c9 (by decide)
    · refine az_iload dX11_write_12 ?_
      refine az_i2l dX11_write_14 ?_
      exact az_lret dX11_write_15 (by first | exact hQ2 hno | exact hQ6 n hx hn hno)
  · intro n y hx hn hy
    have hgn := (hgt n hn).1
    have hgR := (hgt n hn).2
    rw [hy] at hgR
    obtain ⟨hl40, hs3, f, q0, -⟩ := id hgR
    refine az_istore (ls' := [(0, .ref 0), (1, .int x), (2, .int xi), (3, .long xv), (5, .int (nI 0))]) dX11_write_5 ?_
    refine az_iload dX11_write_7 ?_
    refine az_if_eqN (tgt := 16) dX11_write_9 (fun c9 => ?_) (fun c9 => ?_)
    · rw [hx]
      refine az_iload_n dX11_write_16 ?_
      refine az_if_lt (tgt := 33) dX11_write_17 (fun c17 => ?_) (fun c17 => ?_)
      · refine az_ldc2 (v := (-7)) dX11_write_33 cn_X11_323 ?_
        exact az_lret dX11_write_36 (hQ7 n y hx hn hy (fun q9 => (by obtain ⟨e1, e2⟩ := cs_in_of q9; first | (rw [e1, show (0 : Int32) = nI 0 from rfl] at c17; exact absurd ((nI_ltI (by omega) (by omega)).mp c17) (by omega)) | (rw [e1] at c30; exact c30 ((nI_ltI (by omega) (by omega)).mpr e2)))))
      · refine az_iload_n dX11_write_20 ?_
        refine az_aload_n dX11_write_21 ?_
        refine az_getf (v := .ref 11) dX11_write_22 fl_X11_35 x1 ?_
        refine az_iload_n dX11_write_25 ?_
        refine az_aaldN (j := n) dX11_write_26 hg ?_
        rw [hgn]
        refine az_getf (v := .int (nI y.2.length)) dX11_write_27 fl_X11_199 q0 ?_
        refine az_icmp_lt (tgt := 37) dX11_write_30 (fun c30 => ?_) (fun c30 => ?_)
        · obtain ⟨i, hi31, hxi⟩ := I_of c17
          have hi9 : i < y.2.length := (by rw [hxi] at c30; exact (nI_ltI (by omega) (by omega)).mp c30)
          rw [hxi]
          refine az_aload_n dX11_write_37 ?_
          refine az_getf (v := .ref 11) dX11_write_38 fl_X11_35 x1 ?_
          refine az_iload_n dX11_write_41 ?_
          refine az_aaldN (j := n) dX11_write_42 hg ?_
          rw [hgn]
          refine az_iload_n dX11_write_43 ?_
          refine az_lload_n dX11_write_44 ?_
          refine az_cV0 (st := []) dX11_write_45 ml_X11_325 q0 (s_put (d := d - 1) (by omega) hgR hi9 ?_)
          intro h1 hR1 hf
          obtain ⟨-, -, f1, q1, -⟩ := id hR1
          refine az_aload_n dX11_write_48 ?_
          refine az_getf (v := .ref 11) dX11_write_49 fl_X11_35 (hf.at x1) ?_
          refine az_iload_n dX11_write_52 ?_
          refine az_aaldN (j := n) dX11_write_53 (hf.at hg) ?_
          rw [hgn]
          refine az_iload_n dX11_write_54 ?_
          refine az_cV0 (st := []) dX11_write_55 ml_X11_202 q1 (s_get (d := d - 1) hR1 (i := i) (by rw [List.length_set]; exact hi9) ?_)
          rw [show (y.2.set i (ln_cut y.1 xv)).getD i 0 = ln_cut y.1 xv by (rw [List.getD_eq_getElem?_getD, List.getElem?_set_self hi9]; rfl)]
          exact az_lret dX11_write_58 (hQ0 n y i hx hn hy hxi hi9 h1 ⟨hok, ⟨t, F, ia, kk, kt, (hf.at x1), (x2.fr hf), (x3.fr hf), (ln_PastX.fr x4 hf (by omega)), (x5.fr hf x14), (x6.set hf hR1), (x7.fr hf), (x8.fr hf), (x9.fr hf), (ln_Scene.fr x10 hf (by omega)), (x11.fr hf), (x12.fr hf (by omega) (by have := x14.2.1; omega) (by have := x14.2.2.1; omega)), (x13.fr hf (fun q hq => (by have := x14.2.2.2.2.2.1 q hq; omega))), (x14.fr hf)⟩⟩ hf.cs)
        · refine az_ldc2 (v := (-7)) dX11_write_33 cn_X11_323 ?_
          exact az_lret dX11_write_36 (hQ7 n y hx hn hy (fun q9 => (by obtain ⟨e1, e2⟩ := cs_in_of q9; first | (rw [e1, show (0 : Int32) = nI 0 from rfl] at c17; exact absurd ((nI_ltI (by omega) (by omega)).mp c17) (by omega)) | (rw [e1] at c30; exact c30 ((nI_ltI (by omega) (by omega)).mpr e2)))))
    · exact absurd c9 (by omega)

