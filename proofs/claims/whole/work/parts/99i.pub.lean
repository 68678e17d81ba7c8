/-! LetterNights: nights -/
theorem ln_ba.snoc {w : ln_W} {bs : List Nat} {tb : Nat} (h : ln_ba w bs) (h1 : bs.length < 60) (h2 : tb < ln_tb w) (h3 : (ln_str w (bs ++ [tb])).length ≤ 1000000000000) : ln_ba w (bs ++ [tb]) := by
  intro k
  by_cases hk : k ≤ bs.length
  · rw [List.take_append_of_le_length hk]
    exact h k
  · rw [List.take_of_length_le (by rw [List.length_append, List.length_singleton]; omega)]
    refine ⟨by rw [List.length_append, List.length_singleton]; omega, fun b hb => ?_, h3⟩
    rcases List.mem_append.mp hb with q | q
    · exact h.b.2.1 b q
    · rw [List.mem_singleton.mp q]; exact h2
theorem dt_ba {w : ln_W} {mo ni tb : Nat} {bs : List Nat} (hba : ln_ba w bs) (htb : tb < ln_tb w) : ∃ l', (dt w (mo, ni, bs) tb).2.2.2 = bs ++ l' ∧ ln_ba w (bs ++ l') ∧ ((dt w (mo, ni, bs) tb).1 ≠ 0 → (dt w (mo, ni, bs) tb).2 = (mo, ni, bs)) ∧ (dt w (mo, ni, bs) tb).1 ≤ 3 := by
  unfold dt
  split
  · exact ⟨[], (List.append_nil _).symm, (by rw [List.append_nil]; exact hba), fun _ => rfl, Nat.le_of_ble_eq_true rfl⟩
  · rename_i h1
    split
    · exact ⟨[], (List.append_nil _).symm, (by rw [List.append_nil]; exact hba), fun _ => rfl, Nat.le_of_ble_eq_true rfl⟩
    · rename_i h2
      exact ⟨[tb], rfl, hba.snoc (Nat.lt_of_not_le h1) htb (Nat.le_of_not_lt h2), fun h => absurd rfl h, Nat.le_of_ble_eq_true rfl⟩
theorem dz_ba {w : ln_W} {pk sl : List Nat} {mo ni : Nat} {bs : List Nat} {x : Int64} (hw : ln_ok w) (hba : ln_ba w bs) : ∃ l', (dz w pk sl (mo, ni, bs) x).2.2.2 = bs ++ l' ∧ ln_ba w (bs ++ l') ∧ ((dz w pk sl (mo, ni, bs) x).1 ≠ 0 → (dz w pk sl (mo, ni, bs) x).2 = (mo, ni, bs)) ∧ (dz w pk sl (mo, ni, bs) x).1 ≤ 3 := by
  have h0 : ∃ l', bs = bs ++ l' ∧ ln_ba w (bs ++ l') := ⟨[], (List.append_nil _).symm, by rw [List.append_nil]; exact hba⟩
  unfold dz
  split
  · split
    · exact ⟨[], (List.append_nil _).symm, (by rw [List.append_nil]; exact hba), fun h => absurd rfl h, Nat.le_of_ble_eq_true rfl⟩
    · exact dt_ba hba (ln_pi_lt hw.1)
  · split
    · rename_i h1 h2
      refine dt_ba hba ?_
      have q1 := Int64.lt_iff_toInt_lt.mp h2.1
      have q2 := Int64.le_iff_toInt_le.mp h2.2
      have := hw.2.1
      rw [lN_toI (by decide)] at q1
      rw [lN_toI (by omega)] at q2
      omega
    · split
      · exact ⟨[], (List.append_nil _).symm, (by rw [List.append_nil]; exact hba), fun h => absurd rfl h, Nat.le_of_ble_eq_true rfl⟩
      · exact ⟨[], (List.append_nil _).symm, (by rw [List.append_nil]; exact hba), fun _ => rfl, Nat.le_of_ble_eq_true rfl⟩
theorem night_negF : ∀ n : Fin 4, ((-10 : Int32) - nI n.val).toInt64 = (-10) - lN n.val := by decide +kernel
theorem night_neg {n : Nat} (h : n < 4) : ((-10 : Int32) - nI n).toInt64 = (-10) - lN n := night_negF ⟨n, h⟩
set_option maxHeartbeats 4000000 in
set_option maxRecDepth 100000 in
theorem p_night {d : Nat} {x : Int32} {tp fk mo ni K : Nat} {bt : Nat → Nat} {fp : Int32} {v : rd_V} {bs : List Nat} {U : ln_U} {im : Nat → Option (rd_V × ln_Z)} {tr : Nat → Option (Nat × List Int64)} {hp : az_Hp} {Q : Option Value → az_Hp → Prop} (hd : 8 ≤ d) (hC : cs hp ((tp, bt), (fk, fp), v, (mo, ni, bs), U, im, tr) K) (hQ1 : ¬ cs_in x 4 → Q (some (.long (-11))) hp) (hQN : cs_in x 4 → (dz (rd_w v) v.2.2.2.2.2.2.2.1 v.2.2.2.2.2.2.2.2 (mo, ni, bs) x.toInt64).1 ≠ 0 → ∀ h', cs h' ((tp, bt), (fk, fp), v, (mo, ni, bs), U, im, tr) K → cs_f hp h' → Q (some (.long ((-10) - lN (dz (rd_w v) v.2.2.2.2.2.2.2.1 v.2.2.2.2.2.2.2.2 (mo, ni, bs) x.toInt64).1))) h') (hQ : cs_in x 4 → (dz (rd_w v) v.2.2.2.2.2.2.2.1 v.2.2.2.2.2.2.2.2 (mo, ni, bs) x.toInt64).1 = 0 → ∀ h', cs h' ((tp, bt), (fk, fp), v, (dz (rd_w v) v.2.2.2.2.2.2.2.1 v.2.2.2.2.2.2.2.2 (mo, ni, bs) x.toInt64).2, ln_push U (bs.length, ni, mo), im, tr) K → cs_f hp h' → Q (some (.long (lN (ln_str (rd_w v) (dz (rd_w v) v.2.2.2.2.2.2.2.1 v.2.2.2.2.2.2.2.2 (mo, ni, bs) x.toInt64).2.2.2).length))) h') : az_M mX11_night d 0 0 [.ref 0, .int x] hp Q := by
  obtain ⟨hok, t, F, ia, kk, kt, x1, x2, x3, x4, x5, x6, x7, x8, x9, x10, x11, x12, x13, x14⟩ := id hC
  have hw : ln_ok (rd_w v) := hok.2.2.1.1
  have hlaw : ln_law (rd_w v) v.2.2.2.2.2.2.2.1 v.2.2.2.2.2.2.2.2 := hok.2.2.1.2
  have hba : ln_ba (rd_w v) bs := hok.2.2.2.1
  have hb : ln_by (rd_w v) bs := hba.b
  have x4 : ln_Past hp 6 U := x4
  have x5 : cs_im hp im ia F := x5
  have x6 : cs_tr hp tr := x6
  have x10 : ln_Scene hp 30 t (rd_w v) mo ni bs := x10
  have x13 : ln_Tf hp t (rd_w v) F := x13
  have x14 : cs_ad hp im F ia kk kt := x14
  obtain ⟨hi, fr, la, no, wa, nc, g0, -⟩ := id x10
  obtain ⟨fa, fn, fm, p0, -⟩ := id x4
  have hU : U.length ≤ 10 := hok.2.2.2.2.1
  have hT := x13.to (lo := 30) (hi := 38) (fun q hq => (by have := x14.2.2.2.2.2.1 q hq; omega))
  obtain ⟨l', e1, e2, e3, e4⟩ := dz_ba (pk := v.2.2.2.2.2.2.2.1) (sl := v.2.2.2.2.2.2.2.2) (mo := mo) (ni := ni) (x := x.toInt64) hw hba
  obtain ⟨D, hD⟩ : ∃ D, D = (dz (rd_w v) v.2.2.2.2.2.2.2.1 v.2.2.2.2.2.2.2.2 (mo, ni, bs) x.toInt64) := ⟨_, rfl⟩
  rw [← hD] at hQN hQ e1 e3 e4
  refine az_M.of rfl (Nat.le_of_ble_eq_true rfl) ?_
  show az_W _ _ _ _ 0 [(0, .ref 0), (1, .int x)] [] _ _
  refine az_iload_n dX11_night_0 ?_
  refine az_if_lt (tgt := 9) dX11_night_1 (fun c1 => ?_) (fun c1 => ?_)
  · refine az_ldc2 (v := (-11)) dX11_night_9 cn_X11_165 ?_
    exact az_lret dX11_night_12 (hQ1 (fun q9 => (by obtain ⟨e1, e2⟩ := cs_in_of q9; first | (rw [e1, show (0 : Int32) = nI 0 from rfl] at c1; exact absurd ((nI_ltI (by omega) (by omega)).mp c1) (by omega)) | (rw [e1] at c6; exact c6 ((nI_leI (by omega) (by omega)).mpr (by omega))))))
  · refine az_iload_n dX11_night_4 ?_
    refine az_iconst (v := nI 3) dX11_night_5 ?_
    refine az_icmp_le (tgt := 13) dX11_night_6 (fun c6 => ?_) (fun c6 => ?_)
    · have hin : cs_in x 4 := (by obtain ⟨n, hn31, hx⟩ := I_of c1; have hn : n < 4 := (by rw [hx] at c6; have := (nI_leI (by omega) (by omega)).mp c6; omega); rw [hx]; exact (cs_in_n hn (by omega)).1)
      refine az_aload_n dX11_night_13 ?_
      refine az_getf (v := .ref 6) dX11_night_14 fl_X11_23 x1 ?_
      refine az_aload_n dX11_night_17 ?_
      refine az_getf (v := .ref 30) dX11_night_18 fl_X11_66 x1 ?_
      refine az_cV0 (st := []) dX11_night_21 ml_X11_167 p0 (s_mark (d := d - 1) (a := 30) (t := t) (w := rd_w v) (z := (mo, ni, bs)) hU (by omega) x4 x10 ?_)
      intro h1 hP1 hf1
      obtain ⟨fa1, fn1, fm1, p1, -⟩ := id hP1
      have hPU : ln_Past h1 6 U := (by have h9 := hP1.cut U.length; rw [List.take_left] at h9; exact h9)
      have hH1 : cs_H h1 ((tp, bt), (fk, fp), v, (mo, ni, bs), U, im, tr) t F ia kk kt K := ⟨(hf1.at x1), (x2.fr hf1), (x3.fr hf1), hPU, (x5.fr hf1 x14), (x6.fr hf1), (x7.fr hf1), (x8.fr hf1), (x9.fr hf1), (ln_Scene.fr x10 hf1 (by omega)), (x11.fr hf1), (x12.fr hf1 (by omega) (by have := x14.2.1; omega) (by have := x14.2.2.1; omega)), (x13.fr hf1 (fun q hq => (by have := x14.2.2.2.2.2.1 q hq; omega))), (x14.fr hf1)⟩
      obtain ⟨y1, y2, y3, y4, y5, y6, y7, y8, y9, y10, y11, y12, y13, y14⟩ := hH1
      have y10 : ln_SZ h1 30 t (rd_w v) (mo, ni, bs) := y10
      have y14 : cs_ad h1 im F ia kk kt := y14
      have y5 : cs_im h1 im ia F := y5
      have hT1 := (show ln_Tf h1 t (rd_w v) F from y13).to (lo := 30) (hi := 38) (fun q hq => (by have := y14.2.2.2.2.2.1 q hq; omega))
      refine az_aload_n dX11_night_24 ?_
      refine az_getf (v := .ref 30) dX11_night_25 fl_X11_66 (hf1.at x1) ?_
      refine az_iload_n dX11_night_28 ?_
      refine az_i2l dX11_night_29 ?_
      refine az_cV0 (st := []) dX11_night_30 ml_X11_170 (hf1.at g0) (s_tryDeed (d := d - 1) (a := 30) (t := t) (w := rd_w v) (z := (mo, ni, bs)) (v := x.toInt64) (by omega) hw hlaw hb hT1 y10 ?_)
      intro h2 hS2 hf2
      rw [← hD] at hS2
      rw [← hD]
      obtain ⟨hi2, fr2, la2, no2, wa2, nc2, g2, -⟩ := id hS2
      refine az_istore_n (ls' := [(0, .ref 0), (1, .int x), (2, .int (nI D.1))]) dX11_night_33 ?_
      refine az_iload_n dX11_night_34 ?_
      refine az_if_eqN (tgt := 44) dX11_night_35 (fun c35 => ?_) (fun c35 => ?_)
      · refine az_aload_n dX11_night_44 ?_
        refine az_getf (v := .ref 6) dX11_night_45 fl_X11_23 (hf2.at (hf1.at x1)) ?_
        refine az_cV0 (st := []) dX11_night_48 ml_X11_174 (hf2.at p1) (s_keepMark (d := d - 1) (by omega) hU (ln_PastX.fr hP1 hf2 (by omega)) ?_)
        intro h3 hP3 hf3
        have hH2 : cs_H h2 ((tp, bt), (fk, fp), v, D.2, U, im, tr) t F ia kk kt K := ⟨(hf2.at y1), (y2.fr hf2), (y3.fr hf2), (ln_PastX.fr y4 hf2 (by omega)), (y5.fr hf2 y14), (y6.fr hf2), (y7.fr hf2), (y8.fr hf2), (y9.fr hf2), hS2, (y11.fr hf2), (y12.fr hf2 (by omega) (by have := y14.2.1; omega) (by have := y14.2.2.1; omega)), (y13.fr hf2 (fun q hq => (by have := y14.2.2.2.2.2.1 q hq; omega))), (y14.fr hf2)⟩
        obtain ⟨w1, w2, w3, w4, w5, w6, w7, w8, w9, w10, w11, w12, w13, w14⟩ := hH2
        have w10 : ln_Scene h2 30 t (rd_w v) D.2.1 D.2.2.1 D.2.2.2 := w10
        have w14 : cs_ad h2 im F ia kk kt := w14
        have w5 : cs_im h2 im ia F := w5
        refine az_aload_n dX11_night_51 ?_
        refine az_getf (v := .ref 30) dX11_night_52 fl_X11_66 (hf3.at (hf2.at (hf1.at x1))) ?_
        refine az_getf (v := .long (lN ((ln_str (rd_w v) D.2.2.2).length))) dX11_night_55 fl_X11_136 (hf3.at g2) ?_
        exact az_lret dX11_night_58 (hQ hin c35 h3 ⟨(by have h9 := hok.push D.2.1 D.2.2.1 l' e2; rw [← e1] at h9; exact h9), ⟨t, F, ia, kk, kt, (hf3.at w1), (w2.fr hf3), (w3.fr hf3), hP3, (w5.fr hf3 w14), (w6.fr hf3), (w7.fr hf3), (w8.fr hf3), (w9.fr hf3), (ln_Scene.fr w10 hf3 (by omega)), (w11.fr hf3), (w12.fr hf3 (by omega) (by have := w14.2.1; omega) (by have := w14.2.2.1; omega)), (w13.fr hf3 (fun q hq => (by have := w14.2.2.2.2.2.1 q hq; omega))), (w14.fr hf3)⟩⟩ ((hf1.cs.tr hf2.cs).tr hf3.cs))
      · refine az_bipush (v := (-10)) dX11_night_38 ?_
        refine az_iload_n dX11_night_40 ?_
        refine az_isub dX11_night_41 ?_
        rw [show (-10 : Int32) - nI D.1 = (-10) - nI D.1 from rfl]
        refine az_i2l dX11_night_42 ?_
        exact az_lret dX11_night_43 (by rw [night_neg (by omega)]; exact hQN hin c35 h2 ⟨hok, ⟨t, F, ia, kk, kt, (hf2.at y1), (y2.fr hf2), (y3.fr hf2), (ln_PastX.fr y4 hf2 (by omega)), (y5.fr hf2 y14), (y6.fr hf2), (y7.fr hf2), (y8.fr hf2), (y9.fr hf2), (by rw [e3 c35] at hS2; exact hS2), (y11.fr hf2), (y12.fr hf2 (by omega) (by have := y14.2.1; omega) (by have := y14.2.2.1; omega)), (y13.fr hf2 (fun q hq => (by have := y14.2.2.2.2.2.1 q hq; omega))), (y14.fr hf2)⟩⟩ (hf1.cs.tr hf2.cs))
    · refine az_ldc2 (v := (-11)) dX11_night_9 cn_X11_165 ?_
      exact az_lret dX11_night_12 (hQ1 (fun q9 => (by obtain ⟨e1, e2⟩ := cs_in_of q9; first | (rw [e1, show (0 : Int32) = nI 0 from rfl] at c1; exact absurd ((nI_ltI (by omega) (by omega)).mp c1) (by omega)) | (rw [e1] at c6; exact c6 ((nI_leI (by omega) (by omega)).mpr (by omega))))))

