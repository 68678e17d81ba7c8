/-! LetterNights: moon, undo, trays -/
theorem ln_Scene.moon {h : az_Hp} {a t mo ni n : Nat} {w : ln_W} {bs : List Nat} (H : ln_Scene h a t w mo ni bs) : ln_Scene (az_up h a (az_O 5 [.ref t, .int (nI n), .int (nI ni), .int (nI bs.length), .long (lN (ln_str w bs).length), .int (nI (ln_dd (ln_str w bs)).length), .ref (a + 1), .ref (a + 2), .ref (a + 3), .ref (a + 4), .ref (a + 5), .ref (a + 6), .ref (a + 7)])) a t w n ni bs := by
  obtain ⟨hi', fr, la, no, wa, nc, q0, q1, q2, u2, q3, u3, q4, u4, q5, q6, q7⟩ := H
  exact ⟨hi', fr, la, no, wa, nc, az_up_eq, az_up_ne q1, az_up_ne q2, u2, az_up_ne q3, u3, az_up_ne q4, u4, az_up_ne q5, az_up_ne q6, az_up_ne q7⟩
theorem ln_push_mem {U : ln_U} {m u : Nat × Nat × Nat} (h : u ∈ ln_push U m) : u ∈ U ∨ u = m := by
  unfold ln_push at h
  split at h
  · simpa using h
  · have := List.mem_of_mem_tail h
    simpa using this
theorem cs_ok.push {tp fk mo ni : Nat} {bt : Nat → Nat} {fp : Int32} {v : rd_V} {bs : List Nat} {U : ln_U} {im : Nat → Option (rd_V × ln_Z)} {tr : Nat → Option (Nat × List Int64)} (hok : cs_ok ((tp, bt), (fk, fp), v, (mo, ni, bs), U, im, tr)) (m' n' : Nat) (l' : List Nat) (hba : ln_ba (rd_w v) (bs ++ l')) : cs_ok ((tp, bt), (fk, fp), v, (m', n', bs ++ l'), ln_push U (bs.length, ni, mo), im, tr) := by
  obtain ⟨k1, k2, k3, k4, k5, k6, k7⟩ := hok
  refine ⟨k1, k2, k3, hba, ln_push_len k5, fun u hu => ?_, k7⟩
  show u.1 ≤ (bs ++ l').length
  rw [List.length_append]
  rcases ln_push_mem hu with q | q
  · have h9 : u.1 ≤ bs.length := k6 u q
    omega
  · rw [q]; show bs.length ≤ _; omega
set_option maxHeartbeats 4000000 in
set_option maxRecDepth 100000 in
theorem p_moon {d : Nat} {x : Int32} {tp fk mo ni K : Nat} {bt : Nat → Nat} {fp : Int32} {v : rd_V} {bs : List Nat} {U : ln_U} {im : Nat → Option (rd_V × ln_Z)} {tr : Nat → Option (Nat × List Int64)} {hp : az_Hp} {Q : Option Value → az_Hp → Prop} (hd : 4 ≤ d) (hC : cs hp ((tp, bt), (fk, fp), v, (mo, ni, bs), U, im, tr) K) (hQ0 : ¬ cs_in x 10 → Q (some (.int (-11))) hp) (hQ1 : ∀ n, x = nI n → n < 10 → ∀ h', cs h' ((tp, bt), (fk, fp), v, (n, ni, bs), ln_push U (bs.length, ni, mo), im, tr) K → cs_f hp h' → Q (some (.int (nI mo))) h') : az_M mX11_moon d 0 0 [.ref 0, .int x] hp Q := by
  obtain ⟨hok, t, F, ia, kk, kt, x1, x2, x3, x4, x5, x6, x7, x8, x9, x10, x11, x12, x13, x14⟩ := id hC
  have hw : ln_ok (rd_w v) := hok.2.2.1.1
  have hlaw : ln_law (rd_w v) v.2.2.2.2.2.2.2.1 v.2.2.2.2.2.2.2.2 := hok.2.2.1.2
  have hba : ln_ba (rd_w v) bs := hok.2.2.2.1
  have hb : ln_by (rd_w v) bs := hba.b
  have x4 : ln_Past hp 6 U := x4
  have x5 : cs_im hp im ia F := x5
  have x6 : cs_tr hp tr := x6
  have x10 : ln_Scene hp 30 t (rd_w v) mo ni bs := x10
  have x13 : ln_Tf hp t (rd_w v) F := x13
  have x14 : cs_ad hp im F ia kk kt := x14
  obtain ⟨hi, fr, la, no, wa, nc, g0, -⟩ := id x10
  obtain ⟨fa, fn, fm, p0, -⟩ := id x4
  have hU : U.length ≤ 10 := hok.2.2.2.2.1
  refine az_M.of rfl (Nat.le_of_ble_eq_true rfl) ?_
  show az_W _ _ _ _ 0 [(0, .ref 0), (1, .int x)] [] _ _
  refine az_iload_n dX11_moon_0 ?_
  refine az_if_lt (tgt := 10) dX11_moon_1 (fun c1 => ?_) (fun c1 => ?_)
  · refine az_bipush (v := (-11)) dX11_moon_10 ?_
    exact az_iret dX11_moon_12 (hQ0 (fun q9 => (by obtain ⟨e1, e2⟩ := cs_in_of q9; first | (rw [e1, show (0 : Int32) = nI 0 from rfl] at c1; exact absurd ((nI_ltI (by omega) (by omega)).mp c1) (by omega)) | (rw [e1] at c7; exact c7 ((nI_leI (by omega) (by omega)).mpr (by omega))))))
  · refine az_iload_n dX11_moon_4 ?_
    refine az_bipush (v := nI 9) dX11_moon_5 ?_
    refine az_icmp_le (tgt := 13) dX11_moon_7 (fun c7 => ?_) (fun c7 => ?_)
    · obtain ⟨n, hn31, hx⟩ := I_of c1
      have hn : n < 10 := (by rw [hx] at c7; have := (nI_leI (by omega) (by omega)).mp c7; omega)
      rw [hx]
      refine az_aload_n dX11_moon_13 ?_
      refine az_getf (v := .ref 6) dX11_moon_14 fl_X11_23 x1 ?_
      refine az_aload_n dX11_moon_17 ?_
      refine az_getf (v := .ref 30) dX11_moon_18 fl_X11_66 x1 ?_
      refine az_cV0 (st := []) dX11_moon_21 ml_X11_167 p0 (s_mark (d := d - 1) (a := 30) (t := t) (w := rd_w v) (z := (mo, ni, bs)) hU (by omega) x4 x10 ?_)
      intro h1 hP1 hf1
      obtain ⟨fa1, fn1, fm1, p1, -⟩ := id hP1
      refine az_aload_n dX11_moon_24 ?_
      refine az_getf (v := .ref 6) dX11_moon_25 fl_X11_23 (hf1.at x1) ?_
      refine az_cV0 (st := []) dX11_moon_28 ml_X11_174 p1 (s_keepMark (d := d - 1) (by omega) hU hP1 ?_)
      intro h2 hP2 hf2
      have hf := hf1.tr hf2
      refine az_aload_n dX11_moon_31 ?_
      refine az_getf (v := .ref 30) dX11_moon_32 fl_X11_66 (hf.at x1) ?_
      refine az_getf (v := .int (nI mo)) dX11_moon_35 fl_X11_180 (hf.at g0) ?_
      refine az_istore_n (ls' := [(0, .ref 0), (1, .int (nI n)), (2, .int (nI mo))]) dX11_moon_38 ?_
      refine az_aload_n dX11_moon_39 ?_
      refine az_getf (v := .ref 30) dX11_moon_40 fl_X11_66 (hf.at x1) ?_
      refine az_iload_n dX11_moon_43 ?_
      refine az_putf (fs' := [.ref t, .int (nI n), .int (nI ni), .int (nI bs.length), .long (lN ((ln_str (rd_w v) bs).length)), .int (nI ((ln_dd (ln_str (rd_w v) bs)).length)), .ref (30 + 1), .ref (30 + 2), .ref (30 + 3), .ref (30 + 4), .ref (30 + 5), .ref (30 + 6), .ref (30 + 7)]) dX11_moon_44 fl_X11_180 (hf.at g0) ?_
      refine az_iload_n dX11_moon_47 ?_
      exact az_iret dX11_moon_48 (by have hH2 : cs_H h2 ((tp, bt), (fk, fp), v, (mo, ni, bs), ln_push U (bs.length, ni, mo), im, tr) t F ia kk kt K := ⟨(hf.at x1), (x2.fr hf), (x3.fr hf), hP2, (x5.fr hf x14), (x6.fr hf), (x7.fr hf), (x8.fr hf), (x9.fr hf), (ln_Scene.fr x10 hf (by omega)), (x11.fr hf), (x12.fr hf (by omega) (by have := x14.2.1; omega) (by have := x14.2.2.1; omega)), (x13.fr hf (fun q hq => (by have := x14.2.2.2.2.2.1 q hq; omega))), (x14.fr hf)⟩; obtain ⟨y1, y2, y3, y4, y5, y6, y7, y8, y9, y10, y11, y12, y13, y14⟩ := hH2; have y14 : cs_ad h2 im F ia kk kt := y14; have hf3 : az_fr h2 (az_up h2 30 (az_O 5 [.ref t, .int (nI n), .int (nI ni), .int (nI bs.length), .long (lN ((ln_str (rd_w v) bs).length)), .int (nI ((ln_dd (ln_str (rd_w v) bs)).length)), .ref (30 + 1), .ref (30 + 2), .ref (30 + 3), .ref (30 + 4), .ref (30 + 5), .ref (30 + 6), .ref (30 + 7)])) 30 38 := az_fr.rf.up; exact hQ1 n hx hn _ ⟨(by have := hok.push n ni [] (by rw [List.append_nil]; exact hba); rw [List.append_nil] at this; exact this), ⟨t, F, ia, kk, kt, (hf3.at y1), (y2.fr hf3), (y3.fr hf3), (ln_PastX.fr y4 hf3 (by omega)), (y5.fr hf3 y14), (y6.fr hf3), (y7.fr hf3), (y8.fr hf3), (y9.fr hf3), (ln_Scene.moon (ln_Scene.fr x10 hf (by omega))), (y11.fr hf3), (y12.fr hf3 (by omega) (by have := y14.2.1; omega) (by have := y14.2.2.1; omega)), (y13.fr hf3 (fun q hq => (by have := y14.2.2.2.2.2.1 q hq; omega))), (y14.fr hf3)⟩⟩ (hf.cs.tr hf3.cs))
    · refine az_bipush (v := (-11)) dX11_moon_10 ?_
      exact az_iret dX11_moon_12 (hQ0 (fun q9 => (by obtain ⟨e1, e2⟩ := cs_in_of q9; first | (rw [e1, show (0 : Int32) = nI 0 from rfl] at c1; exact absurd ((nI_ltI (by omega) (by omega)).mp c1) (by omega)) | (rw [e1] at c7; exact c7 ((nI_leI (by omega) (by omega)).mpr (by omega))))))

