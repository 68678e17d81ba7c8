/-! LetterNights: moon, undo, trays -/
theorem ln_Scene.moon {h : az_Hp} {a t mo ni n : Nat} {w : ln_W} {bs : List Nat} (H : ln_Scene h a t w mo ni bs) : ln_Scene (az_up h a (az_O 5 [.ref t, .int (nI n), .int (nI ni), .int (nI bs.length), .long (lN (ln_str w bs).length), .int (nI (ln_dd (ln_str w bs)).length), .ref (a + 1), .ref (a + 2), .ref (a + 3), .ref (a + 4), .ref (a + 5), .ref (a + 6), .ref (a + 7)])) a t w n ni bs := by
  obtain ⟨hi', fr, la, no, wa, nc, q0, q1, q2, u2, q3, u3, q4, u4, q5, q6, q7⟩ := H
  exact ⟨hi', fr, la, no, wa, nc, az_up_eq, az_up_ne q1, az_up_ne q2, u2, az_up_ne q3, u3, az_up_ne q4, u4, az_up_ne q5, az_up_ne q6, az_up_ne q7⟩
theorem ln_push_mem {U : ln_U} {m u : Nat × Nat × Nat} (h : u ∈ ln_push U m) : u ∈ U ∨ u = m := by
  unfold ln_push at h
  split at h
  · simpa using h
  · have := List.mem_of_mem_tail h
    simpa using this
theorem cs_ok.push {tp fk mo ni : Nat} {bt : Nat → Nat} {fp : Int32} {v : rd_V} {bs : List Nat} {U : ln_U} {im : Nat → Option (rd_V × ln_Z)} {tr : Nat → Option (Nat × List Int64)} (hok : cs_ok ((tp, bt), (fk, fp), v, (mo, ni, bs), U, im, tr)) (m' n' : Nat) (l' : List Nat) (hba : ln_ba (rd_w v) (bs ++ l')) : cs_ok ((tp, bt), (fk, fp), v, (m', n', bs ++ l'), ln_push U (bs.length, ni, mo), im, tr) := by
  obtain ⟨k1, k2, k3, k4, k5, k6, k7⟩ := hok
  refine ⟨k1, k2, k3, hba, ln_push_len k5, ⟨fun u hu => ?_, ?_⟩, k7⟩
  · show u.1 ≤ (bs ++ l').length
    rw [List.length_append]
    rcases ln_push_mem hu with q | q
    · have h9 : u.1 ≤ bs.length := k6.1 u q
      omega
    · rw [q]; show bs.length ≤ _; omega
  · have h8 : (U ++ [(bs.length, ni, mo)]).Pairwise (fun a b => a.1 ≤ b.1) := by
      rw [List.pairwise_append]
      exact ⟨k6.2, List.pairwise_singleton _ _, fun a ha b hb => by rw [List.mem_singleton.mp hb]; exact k6.1 a ha⟩
    show (ln_push U (bs.length, ni, mo)).Pairwise _
    unfold ln_push
    split
    · exact h8
    · exact h8.sublist (List.tail_sublist _)
set_option maxHeartbeats 4000000 in
set_option maxRecDepth 100000 in
theorem p_moon {d : Nat} {x : Int32} {tp fk mo ni K : Nat} {bt : Nat → Nat} {fp : Int32} {v : rd_V} {bs : List Nat} {U : ln_U} {im : Nat → Option (rd_V × ln_Z)} {tr : Nat → Option (Nat × List Int64)} {hp : az_Hp} {Q : Option Value → az_Hp → Prop} (hd : 4 ≤ d) (hC : cs hp ((tp, bt), (fk, fp), v, (mo, ni, bs), U, im, tr) K) (hQ0 : ¬ cs_in x 10 → Q (some (.int (-11))) hp) (hQ1 : ∀ n, x = nI n → n < 10 → ∀ h', cs h' ((tp, bt), (fk, fp), v, (n, ni, bs), ln_push U (bs.length, ni, mo), im, tr) K → cs_f hp h' → Q (some (.int (nI mo))) h') : az_M mX11_moon d 0 0 [.ref 0, .int x] hp Q := by
  obtain ⟨hok, t, F, ia, kk, kt, x1, x2, x3, x4, x5, x6, x7, x8, x9, x10, x11, x12, x13, x14⟩ := id hC
  have hw : ln_ok (rd_w v) := hok.2.2.1.1
  have hlaw : ln_law (rd_w v) v.2.2.2.2.2.2.2.1 v.2.2.2.2.2.2.2.2 := hok.2.2.1.2
  have hba : ln_ba (rd_w v) bs := hok.2.2.2.1
  have hb : ln_by (rd_w v) bs := hba.b
  have x4 : ln_Past hp 6 U := x4
  have x5 : cs_im hp im ia F := x5
  have x6 : cs_tr hp tr := x6
  have x10 : ln_Scene hp 30 t (rd_w v) mo ni bs := x10
  have x13 : ln_Tf hp t (rd_w v) F := x13
  have x14 : cs_ad hp im F ia kk kt := x14
  obtain ⟨hi, fr, la, no, wa, nc, g0, -⟩ := id x10
  obtain ⟨fa, fn, fm, p0, -⟩ := id x4
  have hU : U.length ≤ 10 := hok.2.2.2.2.1
  refine az_M.of rfl (Nat.le_of_ble_eq_true rfl) ?_
  show az_W _ _ _ _ 0 [(0, .ref 0), (1, .int x)] [] _ _
  refine az_iload_n dX11_moon_0 ?_
  refine az_if_lt (tgt := 10) dX11_moon_1 (fun c1 => ?_) (fun c1 => ?_)
  · refine az_bipush (v := (-11)) dX11_moon_10 ?_
    exact az_iret dX11_moon_12 (hQ0 (fun q9 => (by obtain ⟨e1, e2⟩ := cs_in_of q9; first | (rw [e1, show (0 : Int32) = nI 0 from rfl] at c1; exact absurd ((nI_ltI (by omega) (by omega)).mp c1) (by omega)) | (rw [e1] at c7; exact c7 ((nI_leI (by omega) (by omega)).mpr (by omega))))))
  · refine az_iload_n dX11_moon_4 ?_
    refine az_bipush (v := nI 9) dX11_moon_5 ?_
    refine az_icmp_le (tgt := 13) dX11_moon_7 (fun c7 => ?_) (fun c7 => ?_)
    · obtain ⟨n, hn31, hx⟩ := I_of c1
      have hn : n < 10 := (by rw [hx] at c7; have := (nI_leI (by omega) (by omega)).mp c7; omega)
      rw [hx]
      refine az_aload_n dX11_moon_13 ?_
      refine az_getf (v := .ref 6) dX11_moon_14 fl_X11_23 x1 ?_
      refine az_aload_n dX11_moon_17 ?_
      refine az_getf (v := .ref 30) dX11_moon_18 fl_X11_66 x1 ?_
      refine az_cV0 (st := []) dX11_moon_21 ml_X11_167 p0 (s_mark (d := d - 1) (a := 30) (t := t) (w := rd_w v) (z := (mo, ni, bs)) hU (by omega) x4 x10 ?_)
      intro h1 hP1 hf1
      obtain ⟨fa1, fn1, fm1, p1, -⟩ := id hP1
      refine az_aload_n dX11_moon_24 ?_
      refine az_getf (v := .ref 6) dX11_moon_25 fl_X11_23 (hf1.at x1) ?_
      refine az_cV0 (st := []) dX11_moon_28 ml_X11_174 p1 (s_keepMark (d := d - 1) (by omega) hU hP1 ?_)
      intro h2 hP2 hf2
      have hf := hf1.tr hf2
      refine az_aload_n dX11_moon_31 ?_
      refine az_getf (v := .ref 30) dX11_moon_32 fl_X11_66 (hf.at x1) ?_
      refine az_getf (v := .int (nI mo)) dX11_moon_35 fl_X11_180 (hf.at g0) ?_
      refine az_istore_n (ls' := [(0, .ref 0), (1, .int (nI n)), (2, .int (nI mo))]) dX11_moon_38 ?_
      refine az_aload_n dX11_moon_39 ?_
      refine az_getf (v := .ref 30) dX11_moon_40 fl_X11_66 (hf.at x1) ?_
      refine az_iload_n dX11_moon_43 ?_
      refine az_putf (fs' := [.ref t, .int (nI n), .int (nI ni), .int (nI bs.length), .long (lN ((ln_str (rd_w v) bs).length)), .int (nI ((ln_dd (ln_str (rd_w v) bs)).length)), .ref (30 + 1), .ref (30 + 2), .ref (30 + 3), .ref (30 + 4), .ref (30 + 5), .ref (30 + 6), .ref (30 + 7)]) dX11_moon_44 fl_X11_180 (hf.at g0) ?_
      refine az_iload_n dX11_moon_47 ?_
      exact az_iret dX11_moon_48 (by have hH2 : cs_H h2 ((tp, bt), (fk, fp), v, (mo, ni, bs), ln_push U (bs.length, ni, mo), im, tr) t F ia kk kt K := ⟨(hf.at x1), (x2.fr hf), (x3.fr hf), hP2, (x5.fr hf x14), (x6.fr hf), (x7.fr hf), (x8.fr hf), (x9.fr hf), (ln_Scene.fr x10 hf (by omega)), (x11.fr hf), (x12.fr hf (by omega) (by have := x14.2.1; omega) (by have := x14.2.2.1; omega)), (x13.fr hf (fun q hq => (by have := x14.2.2.2.2.2.1 q hq; omega))), (x14.fr hf)⟩; obtain ⟨y1, y2, y3, y4, y5, y6, y7, y8, y9, y10, y11, y12, y13, y14⟩ := hH2; have y14 : cs_ad h2 im F ia kk kt := y14; have hf3 : az_fr h2 (az_up h2 30 (az_O 5 [.ref t, .int (nI n), .int (nI ni), .int (nI bs.length), .long (lN ((ln_str (rd_w v) bs).length)), .int (nI ((ln_dd (ln_str (rd_w v) bs)).length)), .ref (30 + 1), .ref (30 + 2), .ref (30 + 3), .ref (30 + 4), .ref (30 + 5), .ref (30 + 6), .ref (30 + 7)])) 30 38 := az_fr.rf.up; exact hQ1 n hx hn _ ⟨(by have := hok.push n ni [] (by rw [List.append_nil]; exact hba); rw [List.append_nil] at this; exact this), ⟨t, F, ia, kk, kt, (hf3.at y1), (y2.fr hf3), (y3.fr hf3), (ln_PastX.fr y4 hf3 (by omega)), (y5.fr hf3 y14), (y6.fr hf3), (y7.fr hf3), (y8.fr hf3), (y9.fr hf3), (ln_Scene.moon (ln_Scene.fr x10 hf (by omega))), (y11.fr hf3), (y12.fr hf3 (by omega) (by have := y14.2.1; omega) (by have := y14.2.2.1; omega)), (y13.fr hf3 (fun q hq => (by have := y14.2.2.2.2.2.1 q hq; omega))), (y14.fr hf3)⟩⟩ (hf.cs.tr hf3.cs))
    · refine az_bipush (v := (-11)) dX11_moon_10 ?_
      exact az_iret dX11_moon_12 (hQ0 (fun q9 => (by obtain ⟨e1, e2⟩ := cs_in_of q9; first | (rw [e1, show (0 : Int32) = nI 0 from rfl] at c1; exact absurd ((nI_ltI (by omega) (by omega)).mp c1) (by omega)) | (rw [e1] at c7; exact c7 ((nI_leI (by omega) (by omega)).mpr (by omega))))))

theorem cs_ok.undo {tp fk mo ni : Nat} {bt : Nat → Nat} {fp : Int32} {v : rd_V} {bs : List Nat} {U : ln_U} {im : Nat → Option (rd_V × ln_Z)} {tr : Nat → Option (Nat × List Int64)} {n : Nat} {u : Nat × Nat × Nat} (hok : cs_ok ((tp, bt), (fk, fp), v, (mo, ni, bs), U, im, tr)) (hu : U[U.length - n]? = some u) : cs_ok ((tp, bt), (fk, fp), v, (u.2.2, u.2.1, bs.take u.1), U.take (U.length - n), im, tr) := by
  obtain ⟨k1, k2, k3, k4, k5, k6, k7⟩ := hok
  have k4 : ln_ba (rd_w v) bs := k4
  have k5 : U.length ≤ 10 := k5
  have k6a : ∀ a ∈ U, a.1 ≤ bs.length := k6.1
  have k6b : U.Pairwise (fun a b => a.1 ≤ b.1) := k6.2
  have hul : U.length - n < U.length := (List.getElem?_eq_some_iff.mp hu).1
  have huU : u ∈ U := List.mem_of_getElem? hu
  refine ⟨k1, k2, k3, fun k => (by rw [List.take_take]; exact k4 _), ?_, ⟨fun a ha => ?_, ?_⟩, k7⟩
  · show (U.take _).length ≤ 10
    rw [List.length_take]; omega
  · show a.1 ≤ (bs.take u.1).length
    rw [List.length_take]
    have h1 := k6a u huU
    have h2 : a.1 ≤ u.1 := by
      obtain ⟨i, hi⟩ := List.getElem?_of_mem ha
      rw [List.getElem?_take] at hi
      split at hi
      · rename_i hlt
        obtain ⟨p1, p2⟩ := List.getElem?_eq_some_iff.mp hi
        obtain ⟨q1, q2⟩ := List.getElem?_eq_some_iff.mp hu
        have := List.pairwise_iff_getElem.mp k6b i (U.length - n) p1 q1 hlt
        rw [p2, q2] at this
        exact this
      · cases hi
    omega
  · exact k6b.sublist (List.take_sublist _ _)
set_option maxHeartbeats 4000000 in
set_option maxRecDepth 100000 in
theorem p_undo {d : Nat} {x : Int32} {tp fk mo ni K : Nat} {bt : Nat → Nat} {fp : Int32} {v : rd_V} {bs : List Nat} {U : ln_U} {im : Nat → Option (rd_V × ln_Z)} {tr : Nat → Option (Nat × List Int64)} {hp : az_Hp} {Q : Option Value → az_Hp → Prop} (hd : 6 ≤ d) (hC : cs hp ((tp, bt), (fk, fp), v, (mo, ni, bs), U, im, tr) K) (hQ0 : (∀ n, 1 ≤ n → n ≤ U.length → x ≠ nI n) → Q (some (.int (-3))) hp) (hQ1 : ∀ n u, x = nI n → 1 ≤ n → n ≤ U.length → U[U.length - n]? = some u → ∀ h', cs h' ((tp, bt), (fk, fp), v, (u.2.2, u.2.1, bs.take u.1), U.take (U.length - n), im, tr) K → cs_f hp h' → Q (some (.int (nI (U.length - n)))) h') : az_M mX11_undo d 0 0 [.ref 0, .int x] hp Q := by
  obtain ⟨hok, t, F, ia, kk, kt, x1, x2, x3, x4, x5, x6, x7, x8, x9, x10, x11, x12, x13, x14⟩ := id hC
  have hw : ln_ok (rd_w v) := hok.2.2.1.1
  have hlaw : ln_law (rd_w v) v.2.2.2.2.2.2.2.1 v.2.2.2.2.2.2.2.2 := hok.2.2.1.2
  have hba : ln_ba (rd_w v) bs := hok.2.2.2.1
  have hb : ln_by (rd_w v) bs := hba.b
  have x4 : ln_Past hp 6 U := x4
  have x5 : cs_im hp im ia F := x5
  have x6 : cs_tr hp tr := x6
  have x10 : ln_Scene hp 30 t (rd_w v) mo ni bs := x10
  have x13 : ln_Tf hp t (rd_w v) F := x13
  have x14 : cs_ad hp im F ia kk kt := x14
  obtain ⟨hi, fr, la, no, wa, nc, g0, -⟩ := id x10
  obtain ⟨fa, fn, fm, p0, -⟩ := id x4
  have hU : U.length ≤ 10 := hok.2.2.2.2.1
  have hT := x13.to (lo := 30) (hi := 38) (fun q hq => (by have := x14.2.2.2.2.2.1 q hq; omega))
  refine az_M.of rfl (Nat.le_of_ble_eq_true rfl) ?_
  show az_W _ _ _ _ 0 [(0, .ref 0), (1, .int x)] [] _ _
  refine az_iload_n dX11_undo_0 ?_
  refine az_iconst (v := nI 1) dX11_undo_1 ?_
  refine az_icmp_lt (tgt := 16) dX11_undo_2 (fun c2 => ?_) (fun c2 => ?_)
  · refine az_bipush (v := (-3)) dX11_undo_16 ?_
    exact az_iret dX11_undo_18 (hQ0 (fun n h1 h2 hx => (by first | (rw [hx] at c2; exact absurd ((nI_ltI (by omega) (by omega)).mp c2) (by omega)) | (rw [hx] at c13; exact c13 ((nI_leI (by omega) (by omega)).mpr h2)))))
  · refine az_iload_n dX11_undo_5 ?_
    refine az_aload_n dX11_undo_6 ?_
    refine az_getf (v := .ref 6) dX11_undo_7 fl_X11_23 x1 ?_
    refine az_getf (v := .int (nI U.length)) dX11_undo_10 fl_X11_183 p0 ?_
    refine az_icmp_le (tgt := 19) dX11_undo_13 (fun c13 => ?_) (fun c13 => ?_)
    · have h0x : ¬ x < 0 := (fun q9 => c2 (by rw [Int32.lt_iff_toInt_lt] at q9 ⊢; rw [nI_toI (by omega)]; have q4 : (0 : Int32).toInt = 0 := (by decide); omega))
      obtain ⟨n, hn31, hx⟩ := I_of h0x
      have hn1 : 1 ≤ n := (by rw [hx] at c2; have h9 := Int32.not_lt.mp c2; exact (nI_leI (by omega) (by omega)).mp h9)
      have hn : n ≤ U.length := (by rw [hx] at c13; exact (nI_leI (by omega) (by omega)).mp c13)
      obtain ⟨u, hu⟩ : ∃ u, U[U.length - n]? = some u := ⟨_, List.getElem?_eq_getElem (show U.length - n < U.length by omega)⟩
      have hu1 : u.1 ≤ bs.length := hok.2.2.2.2.2.1.1 u (List.mem_of_getElem? hu)
      rw [hx]
      refine az_aload_n dX11_undo_19 ?_
      refine az_getf (v := .ref 6) dX11_undo_20 fl_X11_23 x1 ?_
      refine az_aload_n dX11_undo_23 ?_
      refine az_getf (v := .ref 30) dX11_undo_24 fl_X11_66 x1 ?_
      refine az_iload_n dX11_undo_27 ?_
      refine az_cV0 (st := []) dX11_undo_28 ml_X11_186 p0 (s_goBack (d := d - 1) (a := 30) (t := t) (w := rd_w v) (z := (mo, ni, bs)) (by omega) hw hb hU (by omega) x4 hT x10 hn hu hu1 ?_)
      intro h1 h2 hS2 hP2 hf1 hf2
      obtain ⟨fa2, fn2, fm2, p2, -⟩ := id hP2
      refine az_aload_n dX11_undo_31 ?_
      refine az_getf (v := .ref 6) dX11_undo_32 fl_X11_23 (hf2.at (hf1.at x1)) ?_
      refine az_getf (v := .int (nI ((U.take (U.length - n)).length))) dX11_undo_35 fl_X11_183 p2 ?_
      exact az_iret dX11_undo_38 (by have hS1 : ln_Scene h1 30 t (rd_w v) u.2.2 u.2.1 (bs.take u.1) := (ln_Scene.eqv hS2 (fun z q1 q2 => (hf2.2 z (by omega)).symm)); have hH2 : cs_H h1 ((tp, bt), (fk, fp), v, (u.2.2, u.2.1, bs.take u.1), U, im, tr) t F ia kk kt K := ⟨(hf1.at x1), (x2.fr hf1), (x3.fr hf1), (ln_PastX.fr x4 hf1 (by omega)), (x5.fr hf1 x14), (x6.fr hf1), (x7.fr hf1), (x8.fr hf1), (x9.fr hf1), hS1, (x11.fr hf1), (x12.fr hf1 (by omega) (by have := x14.2.1; omega) (by have := x14.2.2.1; omega)), (x13.fr hf1 (fun q hq => (by have := x14.2.2.2.2.2.1 q hq; omega))), (x14.fr hf1)⟩; obtain ⟨y1, y2, y3, y4, y5, y6, y7, y8, y9, y10, y11, y12, y13, y14⟩ := hH2; have y14 : cs_ad h1 im F ia kk kt := y14; have y5 : cs_im h1 im ia F := y5; rw [show (U.take (U.length - n)).length = U.length - n by (rw [List.length_take]; omega)]; exact hQ1 n u hx hn1 hn hu _ ⟨hok.undo hu, ⟨t, F, ia, kk, kt, (hf2.at y1), (y2.fr hf2), (y3.fr hf2), hP2, (y5.fr hf2 y14), (y6.fr hf2), (y7.fr hf2), (y8.fr hf2), (y9.fr hf2), (ln_Scene.fr y10 hf2 (by omega)), (y11.fr hf2), (y12.fr hf2 (by omega) (by have := y14.2.1; omega) (by have := y14.2.2.1; omega)), (y13.fr hf2 (fun q hq => (by have := y14.2.2.2.2.2.1 q hq; omega))), (y14.fr hf2)⟩⟩ (hf1.cs.tr hf2.cs))
    · refine az_bipush (v := (-3)) dX11_undo_16 ?_
      exact az_iret dX11_undo_18 (hQ0 (fun n h1 h2 hx => (by first | (rw [hx] at c2; exact absurd ((nI_ltI (by omega) (by omega)).mp c2) (by omega)) | (rw [hx] at c13; exact c13 ((nI_leI (by omega) (by omega)).mpr h2)))))

