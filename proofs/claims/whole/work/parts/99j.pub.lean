/-! LetterNights: nights by what is picked -/
/-- so many nights at most, each as it is picked: how many there were, what is then -/
def dn (w : ln_W) (pk sl : List Nat) : Nat → ln_Z → Nat × ln_Z
  | 0, z => (0, z)
  | k + 1, z => if (dz w pk sl z (lN 0)).1 = 0 then ((dn w pk sl k (dz w pk sl z (lN 0)).2).1 + 1, (dn w pk sl k (dz w pk sl z (lN 0)).2).2) else (0, z)
def cs_push (U : ln_U) (k : Nat) (m : Nat × Nat × Nat) : ln_U := if k = 0 then U else ln_push U m
set_option maxHeartbeats 4000000 in
set_option maxRecDepth 100000 in
theorem p_keepIfDone {d k9 tp : Nat} {U : ln_U} {m : Nat × Nat × Nat} {hp : az_Hp} {Q : Option Value → az_Hp → Prop} (hd : 3 ≤ d) (hk : k9 < 2 ^ 31) (hU : U.length ≤ 10) (h0 : hp.2 0 = some (az_O 10 [.ref 1, .int (nI tp), .ref 2, .ref 30, .ref 38, .ref 6, .ref 10, .ref 11, .ref 12, .ref 15, .ref 21, .ref 46])) (hP : ln_PastX hp 6 U.length (U ++ [m])) (hQ : ∀ h', ln_Past h' 6 (cs_push U k9 m) → az_fr hp h' 6 10 → Q none h') : az_M mX11_keepIfDone d 0 0 [.ref 0, .int (nI k9)] hp Q := by
  obtain ⟨fa1, fn1, fm1, p1, -⟩ := id hP
  refine az_M.of rfl (Nat.le_of_ble_eq_true rfl) ?_
  show az_W _ _ _ _ 0 [(0, .ref 0), (1, .int (nI k9))] [] _ _
  refine az_iload_n dX11_keepIfDone_0 ?_
  refine az_if_leN (tgt := 11) dX11_keepIfDone_1 (fun c1 => ?_) (fun c1 => ?_)
  · exact az_vret dX11_keepIfDone_11 (by first | exact hQ h1 (by rw [cs_push, if_neg (by omega)]; exact hP1) hf1 | exact hQ hp (by rw [cs_push, if_pos (by omega)]; have h9 := hP.cut U.length; rw [List.take_left] at h9; exact h9) az_fr.rf)
  · refine az_aload_n dX11_keepIfDone_4 ?_
    refine az_getf (v := .ref 6) dX11_keepIfDone_5 fl_X11_23 h0 ?_
    refine az_cV0 (st := []) dX11_keepIfDone_8 ml_X11_174 p1 (s_keepMark (d := d - 1) (by omega) hU hP ?_)
    intro h1 hP1 hf1
    exact az_vret dX11_keepIfDone_11 (by first | exact hQ h1 (by rw [cs_push, if_neg (by omega)]; exact hP1) hf1 | exact hQ hp (by rw [cs_push, if_pos (by omega)]; have h9 := hP.cut U.length; rw [List.take_left] at h9; exact h9) az_fr.rf)
theorem cs_ok.push2 {tp fk mo ni : Nat} {bt : Nat → Nat} {fp : Int32} {v : rd_V} {bs : List Nat} {U : ln_U} {im : Nat → Option (rd_V × ln_Z)} {tr : Nat → Option (Nat × List Int64)} (hok : cs_ok ((tp, bt), (fk, fp), v, (mo, ni, bs), U, im, tr)) (k m' n' : Nat) (l' : List Nat) (hba : ln_ba (rd_w v) (bs ++ l')) : cs_ok ((tp, bt), (fk, fp), v, (m', n', bs ++ l'), cs_push U k (bs.length, ni, mo), im, tr) := by
  unfold cs_push
  split
  · obtain ⟨k1, k2, k3, k4, k5, k6, k7⟩ := hok
    exact ⟨k1, k2, k3, hba, k5, ⟨fun u hu => (by have h9 : u.1 ≤ bs.length := k6.1 u hu; show u.1 ≤ (bs ++ l').length; rw [List.length_append]; omega), k6.2⟩, k7⟩
  · exact hok.push m' n' l' hba
set_option maxHeartbeats 4000000 in
set_option maxRecDepth 100000 in
theorem p_nights {d : Nat} {x : Int32} {tp fk mo ni K : Nat} {bt : Nat → Nat} {fp : Int32} {v : rd_V} {bs : List Nat} {U : ln_U} {im : Nat → Option (rd_V × ln_Z)} {tr : Nat → Option (Nat × List Int64)} {hp : az_Hp} {Q : Option Value → az_Hp → Prop} (hd : 9 ≤ d) (hC : cs hp ((tp, bt), (fk, fp), v, (mo, ni, bs), U, im, tr) K) (hQ3 : (∀ n, 1 ≤ n → n ≤ 60 → x ≠ nI n) → Q (some (.int (-3))) hp) (hQ : ∀ n, x = nI n → 1 ≤ n → n ≤ 60 → ∀ h', cs h' ((tp, bt), (fk, fp), v, (dn (rd_w v) v.2.2.2.2.2.2.2.1 v.2.2.2.2.2.2.2.2 n (mo, ni, bs)).2, cs_push U (dn (rd_w v) v.2.2.2.2.2.2.2.1 v.2.2.2.2.2.2.2.2 n (mo, ni, bs)).1 (bs.length, ni, mo), im, tr) K → cs_f hp h' → Q (some (.int (nI (dn (rd_w v) v.2.2.2.2.2.2.2.1 v.2.2.2.2.2.2.2.2 n (mo, ni, bs)).1))) h') : az_M mX11_nights d 0 0 [.ref 0, .int x] hp Q := by
  obtain ⟨hok, t, F, ia, kk, kt, x1, x2, x3, x4, x5, x6, x7, x8, x9, x10, x11, x12, x13, x14⟩ := id hC
  have hw : ln_ok (rd_w v) := hok.2.2.1.1
  have hlaw : ln_law (rd_w v) v.2.2.2.2.2.2.2.1 v.2.2.2.2.2.2.2.2 := hok.2.2.1.2
  have hba : ln_ba (rd_w v) bs := hok.2.2.2.1
  have hb : ln_by (rd_w v) bs := hba.b
  have x4 : ln_Past hp 6 U := x4
  have x5 : cs_im hp im ia F := x5
  have x6 : cs_tr hp tr := x6
  have x10 : ln_Scene hp 30 t (rd_w v) mo ni bs := x10
  have x13 : ln_Tf hp t (rd_w v) F := x13
  have x14 : cs_ad hp im F ia kk kt := x14
  obtain ⟨hi, fr, la, no, wa, nc, g0, -⟩ := id x10
  obtain ⟨fa, fn, fm, p0, -⟩ := id x4
  have hU : U.length ≤ 10 := hok.2.2.2.2.1
  have fin : ∀ (k : Nat) (n : Nat) (h1 : az_Hp) (hx : x = nI n) (hn1 : 1 ≤ n) (hn60 : n ≤ 60) (hf1 : az_fr hp h1 6 10) (hP1 : ln_PastX h1 6 U.length (U ++ [(bs.length, ni, mo)])) (hH1 : cs_H h1 ((tp, bt), (fk, fp), v, (mo, ni, bs), U, im, tr) t F ia kk kt K) (i m9 n9 : Nat) (b9 l9 : List Nat) (h' : az_Hp), 0 = k → (i ≤ 60) → (b9 = bs ++ l9) → (ln_ba (rd_w v) (bs ++ l9)) → (ln_Scene h' 30 t (rd_w v) m9 n9 b9) → (az_fr h1 h' 30 38) → ((i, (m9, n9, b9)) = (dn (rd_w v) v.2.2.2.2.2.2.2.1 v.2.2.2.2.2.2.2.2 n (mo, ni, bs))) → az_W mX11_nights d 0 0 49 [(0, .ref 0), (1, .int (nI n)), (2, .int (nI i))] [] h' Q := by
    intro k
    induction k using Nat.strongRecOn with
    | _ k ih =>
    intro n h1 hx hn1 hn60 hf1 hP1 hH1 i m9 n9 b9 l9 h' hk hi60 hz9 hba9 hS9 hf9 hR
    obtain ⟨y1, y2, y3, y4, y5, y6, y7, y8, y9, y10, y11, y12, y13, y14⟩ := id hH1
    have y5 : cs_im h1 im ia F := y5
    have y13 : ln_Tf h1 t (rd_w v) F := y13
    have y14 : cs_ad h1 im F ia kk kt := y14
    have e0 := hf9.at (hf1.at x1)
    obtain ⟨hi9, fr9, la9, no9, wa9, nc9, g9, -⟩ := id hS9
    refine az_aload_n dX11_nights_49 ?_
    refine az_iload_n dX11_nights_50 ?_
    refine az_cV0 (st := []) dX11_nights_51 ml_X11_177 e0 (p_keepIfDone (d := d - 1) (k9 := i) (tp := tp) (by omega) (by omega) hU e0 (ln_PastX.fr hP1 hf9 (by omega)) ?_)
    intro h2 hP2 hf2
    refine az_iload_n dX11_nights_54 ?_
    exact az_iret dX11_nights_55 (by have hH2 : cs_H h' ((tp, bt), (fk, fp), v, (m9, n9, b9), U, im, tr) t F ia kk kt K := ⟨(hf9.at y1), (y2.fr hf9), (y3.fr hf9), (ln_PastX.fr y4 hf9 (by omega)), (y5.fr hf9 y14), (y6.fr hf9), (y7.fr hf9), (y8.fr hf9), (y9.fr hf9), hS9, (y11.fr hf9), (y12.fr hf9 (by omega) (by have := y14.2.1; omega) (by have := y14.2.2.1; omega)), (y13.fr hf9 (fun q hq => (by have := y14.2.2.2.2.2.1 q hq; omega))), (y14.fr hf9)⟩; obtain ⟨w1, w2, w3, w4, w5, w6, w7, w8, w9, w10, w11, w12, w13, w14⟩ := hH2; have w10 : ln_Scene h' 30 t (rd_w v) m9 n9 b9 := w10; have w14 : cs_ad h' im F ia kk kt := w14; have w5 : cs_im h' im ia F := w5; have h8 := hQ n hx hn1 hn60 h2; rw [← hR] at h8; exact h8 ⟨(by rw [hz9]; exact hok.push2 i m9 n9 l9 hba9), ⟨t, F, ia, kk, kt, (hf2.at w1), (w2.fr hf2), (w3.fr hf2), hP2, (w5.fr hf2 w14), (w6.fr hf2), (w7.fr hf2), (w8.fr hf2), (w9.fr hf2), (ln_Scene.fr w10 hf2 (by omega)), (w11.fr hf2), (w12.fr hf2 (by omega) (by have := w14.2.1; omega) (by have := w14.2.2.1; omega)), (w13.fr hf2 (fun q hq => (by have := w14.2.2.2.2.2.1 q hq; omega))), (w14.fr hf2)⟩⟩ ((hf1.cs.tr hf9.cs).tr hf2.cs))
  have loop : ∀ (k : Nat) (n : Nat) (h1 : az_Hp) (hx : x = nI n) (hn1 : 1 ≤ n) (hn60 : n ≤ 60) (hf1 : az_fr hp h1 6 10) (hP1 : ln_PastX h1 6 U.length (U ++ [(bs.length, ni, mo)])) (hH1 : cs_H h1 ((tp, bt), (fk, fp), v, (mo, ni, bs), U, im, tr) t F ia kk kt K) (i m9 n9 : Nat) (b9 l9 : List Nat) (h' : az_Hp), n - i = k → (i ≤ n) → (b9 = bs ++ l9) → (ln_ba (rd_w v) (bs ++ l9)) → (ln_Scene h' 30 t (rd_w v) m9 n9 b9) → (az_fr h1 h' 30 38) → ((i + (dn (rd_w v) v.2.2.2.2.2.2.2.1 v.2.2.2.2.2.2.2.2 (n - i) (m9, n9, b9)).1, (dn (rd_w v) v.2.2.2.2.2.2.2.1 v.2.2.2.2.2.2.2.2 (n - i) (m9, n9, b9)).2) = (dn (rd_w v) v.2.2.2.2.2.2.2.1 v.2.2.2.2.2.2.2.2 n (mo, ni, bs))) → az_W mX11_nights d 0 0 27 [(0, .ref 0), (1, .int (nI n)), (2, .int (nI i))] [] h' Q := by
    intro k
    induction k using Nat.strongRecOn with
    | _ k ih =>
    intro n h1 hx hn1 hn60 hf1 hP1 hH1 i m9 n9 b9 l9 h' hk hi60 hz9 hba9 hS9 hf9 hR
    obtain ⟨y1, y2, y3, y4, y5, y6, y7, y8, y9, y10, y11, y12, y13, y14⟩ := id hH1
    have y5 : cs_im h1 im ia F := y5
    have y13 : ln_Tf h1 t (rd_w v) F := y13
    have y14 : cs_ad h1 im F ia kk kt := y14
    have e0 := hf9.at (hf1.at x1)
    obtain ⟨hi9, fr9, la9, no9, wa9, nc9, g9, -⟩ := id hS9
    refine az_iload_n dX11_nights_27 ?_
    refine az_iload_n dX11_nights_28 ?_
    refine az_icmp_geN (tgt := 49) dX11_nights_29 (fun c29 => ?_) (fun c29 => ?_)
    · first | (have hR2 := hR; rw [show n - i = 0 by omega, dn] at hR2; exact fin _ n h1 hx hn1 hn60 hf1 hP1 hH1 i m9 n9 b9 l9 h' rfl (by omega) hz9 hba9 hS9 hf9 hR2) | (rw [show n - i = (n - (i + 1)) + 1 by omega, dn, ← hD] at hR; rw [if_neg c40] at hR; rw [r3 c40] at hS2; exact fin _ n h1 hx hn1 hn60 hf1 hP1 hH1 i m9 n9 b9 l9 h2 rfl (by omega) hz9 hba9 hS2 (hf9.tr hf2) hR)
    · refine az_aload_n dX11_nights_32 ?_
      refine az_getf (v := .ref 30) dX11_nights_33 fl_X11_66 e0 ?_
      refine az_lconst (v := lN 0) dX11_nights_36 ?_
      obtain ⟨l2, r1, r2, r3, r4⟩ := dz_ba (pk := v.2.2.2.2.2.2.2.1) (sl := v.2.2.2.2.2.2.2.2) (mo := m9) (ni := n9) (x := lN 0) hw (by rw [← hz9] at hba9; exact hba9)
      have hT9 := (y13.fr hf9 (fun q hq => (by have := y14.2.2.2.2.2.1 q hq; omega))).to (lo := 30) (hi := 38) (fun q hq => (by have := y14.2.2.2.2.2.1 q hq; omega))
      obtain ⟨D, hD⟩ : ∃ D, D = dz (rd_w v) v.2.2.2.2.2.2.2.1 v.2.2.2.2.2.2.2.2 (m9, n9, b9) (lN 0) := ⟨_, rfl⟩
      rw [← hD] at r1 r3 r4
      refine az_cV0 (st := []) dX11_nights_37 ml_X11_170 g9 (s_tryDeed (d := d - 1) (a := 30) (t := t) (w := rd_w v) (z := (m9, n9, b9)) (v := lN 0) (by omega) hw hlaw (by rw [← hz9] at hba9; exact hba9.b) hT9 hS9 ?_)
      intro h2 hS2 hf2
      rw [← hD] at hS2
      rw [← hD]
      refine az_if_neN (tgt := 49) dX11_nights_40 (fun c40 => ?_) (fun c40 => ?_)
      · first | (have hR2 := hR; rw [show n - i = 0 by omega, dn] at hR2; exact fin _ n h1 hx hn1 hn60 hf1 hP1 hH1 i m9 n9 b9 l9 h' rfl (by omega) hz9 hba9 hS9 hf9 hR2) | (rw [show n - i = (n - (i + 1)) + 1 by omega, dn, ← hD] at hR; rw [if_neg c40] at hR; rw [r3 c40] at hS2; exact fin _ n h1 hx hn1 hn60 hf1 hP1 hH1 i m9 n9 b9 l9 h2 rfl (by omega) hz9 hba9 hS2 (hf9.tr hf2) hR)
      · refine az_iincN (n := 1) (ls' := [(0, .ref 0), (1, .int (nI n)), (2, .int (nI (i + 1)))]) dX11_nights_43 ?_
        refine az_goto (tgt := 27) dX11_nights_46 ?_
        rw [show n - i = (n - (i + 1)) + 1 by omega, dn, ← hD] at hR
        rw [if_pos c40] at hR
        exact ih _ (by omega) n h1 hx hn1 hn60 hf1 hP1 hH1 (i + 1) D.2.1 D.2.2.1 D.2.2.2 (l9 ++ l2) h2 rfl (by omega) (by rw [r1, hz9, List.append_assoc]) (by rw [← List.append_assoc, ← hz9]; exact r2) hS2 (hf9.tr hf2) (by rw [← hR]; show (_, _) = (_, _); rw [show i + 1 + (dn (rd_w v) v.2.2.2.2.2.2.2.1 v.2.2.2.2.2.2.2.2 (n - (i + 1)) (D.2.1, D.2.2.1, D.2.2.2)).1 = i + ((dn (rd_w v) v.2.2.2.2.2.2.2.1 v.2.2.2.2.2.2.2.2 (n - (i + 1)) D.2).1 + 1) by (show i + 1 + (dn (rd_w v) v.2.2.2.2.2.2.2.1 v.2.2.2.2.2.2.2.2 (n - (i + 1)) D.2).1 = _; omega)])
  refine az_M.of rfl (Nat.le_of_ble_eq_true rfl) ?_
  show az_W _ _ _ _ 0 [(0, .ref 0), (1, .int x)] [] _ _
  refine az_iload_n dX11_nights_0 ?_
  refine az_iconst (v := nI 1) dX11_nights_1 ?_
  refine az_icmp_lt (tgt := 11) dX11_nights_2 (fun c2 => ?_) (fun c2 => ?_)
  · refine az_bipush (v := (-3)) dX11_nights_11 ?_
    exact az_iret dX11_nights_13 (hQ3 (fun n h1 h2 hx => (by first | (rw [hx] at c2; exact absurd ((nI_ltI (by omega) (by omega)).mp c2) (by omega)) | (rw [hx] at c8; exact c8 ((nI_leI (by omega) (by omega)).mpr h2)))))
  · refine az_iload_n dX11_nights_5 ?_
    refine az_bipush (v := nI 60) dX11_nights_6 ?_
    refine az_icmp_le (tgt := 14) dX11_nights_8 (fun c8 => ?_) (fun c8 => ?_)
    · have h0x : ¬ x < 0 := (fun q9 => c2 (by rw [Int32.lt_iff_toInt_lt] at q9 ⊢; rw [nI_toI (by omega)]; have q4 : (0 : Int32).toInt = 0 := (by decide); omega))
      obtain ⟨n, hn31, hx⟩ := I_of h0x
      have hn1 : 1 ≤ n := (by rw [hx] at c2; have h9 := Int32.not_lt.mp c2; exact (nI_leI (by omega) (by omega)).mp h9)
      have hn60 : n ≤ 60 := (by rw [hx] at c8; exact (nI_leI (by omega) (by omega)).mp c8)
      rw [hx]
      refine az_aload_n dX11_nights_14 ?_
      refine az_getf (v := .ref 6) dX11_nights_15 fl_X11_23 x1 ?_
      refine az_aload_n dX11_nights_18 ?_
      refine az_getf (v := .ref 30) dX11_nights_19 fl_X11_66 x1 ?_
      refine az_cV0 (st := []) dX11_nights_22 ml_X11_167 p0 (s_mark (d := d - 1) (a := 30) (t := t) (w := rd_w v) (z := (mo, ni, bs)) hU (by omega) x4 x10 ?_)
      intro h1 hP1 hf1
      have hPU : ln_Past h1 6 U := (by have h9 := hP1.cut U.length; rw [List.take_left] at h9; exact h9)
      have hH1 : cs_H h1 ((tp, bt), (fk, fp), v, (mo, ni, bs), U, im, tr) t F ia kk kt K := ⟨(hf1.at x1), (x2.fr hf1), (x3.fr hf1), hPU, (x5.fr hf1 x14), (x6.fr hf1), (x7.fr hf1), (x8.fr hf1), (x9.fr hf1), (ln_Scene.fr x10 hf1 (by omega)), (x11.fr hf1), (x12.fr hf1 (by omega) (by have := x14.2.1; omega) (by have := x14.2.2.1; omega)), (x13.fr hf1 (fun q hq => (by have := x14.2.2.2.2.2.1 q hq; omega))), (x14.fr hf1)⟩
      refine az_iconst (v := nI 0) dX11_nights_25 ?_
      refine az_istore_n (ls' := [(0, .ref 0), (1, .int (nI n)), (2, .int (nI 0))]) dX11_nights_26 ?_
      exact loop _ n h1 hx hn1 hn60 hf1 hP1 hH1 0 mo ni bs [] h1 rfl (Nat.zero_le _) (List.append_nil _).symm (by rw [List.append_nil]; exact hba) (ln_Scene.fr x10 hf1 (by omega)) az_fr.rf (by rw [Nat.sub_zero, Nat.zero_add])
    · refine az_bipush (v := (-3)) dX11_nights_11 ?_
      exact az_iret dX11_nights_13 (hQ3 (fun n h1 h2 hx => (by first | (rw [hx] at c2; exact absurd ((nI_ltI (by omega) (by omega)).mp c2) (by omega)) | (rw [hx] at c8; exact c8 ((nI_leI (by omega) (by omega)).mpr h2)))))

