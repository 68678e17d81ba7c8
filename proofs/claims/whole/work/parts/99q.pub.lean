/-! LetterNights: looking ahead -/
theorem fu_sn_len {w : ln_W} {n : Nat} {c : Nat → Nat} : ∀ (j k : Nat) (l : List Nat), fu_sn w n c k j = some l → l.length < k + j := by
  intro j
  induction j with
  | zero => intro k l h; rw [fu_sn] at h; cases h
  | succ j ih =>
    intro k l h
    cases e : fu_find w n k c with
    | some l9 =>
      rw [fu_sn_some e (Nat.succ_pos _)] at h
      have := fu_find_len e
      cases h
      omega
    | none =>
      rw [fu_sn_none e (Nat.succ_pos _)] at h
      have := ih (k + 1) l h
      omega
set_option maxHeartbeats 4000000 in
set_option maxRecDepth 100000 in
theorem p_soonest {d : Nat} {x : Int64} {tp fk mo ni K : Nat} {bt : Nat → Nat} {fp : Int32} {v : rd_V} {bs : List Nat} {U : ln_U} {im : Nat → Option (rd_V × ln_Z)} {tr : Nat → Option (Nat × List Int64)} {hp : az_Hp} {Q : Option Value → az_Hp → Prop} (hd : 14 ≤ d) (hC : cs hp ((tp, bt), (fk, fp), v, (mo, ni, bs), U, im, tr) K) (hQ3 : x < lN 0 → Q (some (.int (-3))) hp) (hQ : ∀ n, x = lN n → n < 2 ^ 63 → ∀ h', cs h' ((tp, bt), (fk, fp), v, (mo, ni, bs), U, im, tr) K → cs_f hp h' → Q (some (.int (ln_opt ((fu_sn (rd_w v) n (fun x => (ln_str (rd_w v) bs).count x) 0 7).map List.length)))) h') : az_M mX11_soonest d 0 0 [.ref 0, .long x] hp Q := by
  obtain ⟨hok, t, F, ia, kk, kt, x1, x2, x3, x4, x5, x6, x7, x8, x9, x10, x11, x12, x13, x14⟩ := id hC
  have hw : ln_ok (rd_w v) := hok.2.2.1.1
  have hlaw : ln_law (rd_w v) v.2.2.2.2.2.2.2.1 v.2.2.2.2.2.2.2.2 := hok.2.2.1.2
  have hba : ln_ba (rd_w v) bs := hok.2.2.2.1
  have hb : ln_by (rd_w v) bs := hba.b
  have x4 : ln_Past hp 6 U := x4
  have x5 : cs_im hp im ia F := x5
  have x6 : cs_tr hp tr := x6
  have x10 : ln_Scene hp 30 t (rd_w v) mo ni bs := x10
  have x13 : ln_Tf hp t (rd_w v) F := x13
  have x14 : cs_ad hp im F ia kk kt := x14
  obtain ⟨hi, fr, la, no, wa, nc, g0, -⟩ := id x10
  obtain ⟨t9, tl, wn, wx, fS, ff, fr9, fs, fa, fb, fL, u0, u1, u2, u3, ta, pr, u4, u5, k9⟩ := id (show fu_U hp 46 kk kt K from x12)
  have prb := pr.b
  obtain ⟨kb1, kb2⟩ := id k9
  refine az_M.of rfl (Nat.le_of_ble_eq_true rfl) ?_
  show az_W _ _ _ _ 0 [(0, .ref 0), (1, .long x)] [] _ _
  refine az_lload_n dX11_soonest_0 ?_
  refine az_lconst (v := lN 0) dX11_soonest_1 ?_
  refine az_lcmp_ge (tgt := 11) dX11_soonest_2 dX11_soonest_3 (fun c2 => ?_) (fun c2 => ?_)
  · obtain ⟨n, hn63, hx⟩ := J_of (x := x) (Int64.not_lt.mpr c2)
    rw [hx]
    refine az_aload_n dX11_soonest_11 ?_
    refine az_getf (v := .ref 46) dX11_soonest_12 fl_X11_76 x1 ?_
    refine az_aload_n dX11_soonest_15 ?_
    refine az_getf (v := .ref 30) dX11_soonest_16 fl_X11_66 x1 ?_
    refine az_lload_n dX11_soonest_19 ?_
    refine az_cV0 (st := []) dX11_soonest_20 ml_X11_274 u0 (s_soonestRow (d := d - 1) (u := 46) (a := 30) (t := t) (n := n) (by omega) hw hb (x13.to (lo := 46) (hi := 46 + 4) (fun q hq => (by have := x14.2.2.2.2.2.1 q hq; omega))) x10 (by omega) hn63 u0 u1 u2 ?_)
    intro h1 f' r' n0 n1 n2 hr hf
    exact az_iret dX11_soonest_23 (by first | exact hQ3 (Int64.not_le.mp c2) | exact hQ n hx hn63 h1 ⟨hok, ⟨t, F, ia, kk, kt, (hf.at x1), (x2.fr hf), (x3.fr hf), (ln_PastX.fr x4 hf (by omega)), (x5.fr hf x14), (x6.fr hf), (x7.fr hf), (x8.fr hf), (x9.fr hf), (ln_Scene.fr x10 hf (by omega)), (x11.fr hf), ⟨_, _, wn, wx, fS, f', r', fs, fa, fb, fL, n0, n1, n2, hf.at u3, ta.eqv (hf.2 _ (by omega)) (hf.2 _ (by omega)) (hf.2 _ (by omega)) (hf.2 _ (by omega)), pr, hf.at u4, hf.at u5, k9⟩, (x13.fr hf (fun q hq => (by have := x14.2.2.2.2.2.1 q hq; omega))), (x14.fr hf)⟩⟩ hf.cs)
  · refine az_bipush (v := (-3)) dX11_soonest_6 ?_
    refine az_goto (tgt := 23) dX11_soonest_8 ?_
    exact az_iret dX11_soonest_23 (by first | exact hQ3 (Int64.not_le.mp c2) | exact hQ n hx hn63 h1 ⟨hok, ⟨t, F, ia, kk, kt, (hf.at x1), (x2.fr hf), (x3.fr hf), (ln_PastX.fr x4 hf (by omega)), (x5.fr hf x14), (x6.fr hf), (x7.fr hf), (x8.fr hf), (x9.fr hf), (ln_Scene.fr x10 hf (by omega)), (x11.fr hf), ⟨_, _, wn, wx, fS, f', r', fs, fa, fb, fL, n0, n1, n2, hf.at u3, ta.eqv (hf.2 _ (by omega)) (hf.2 _ (by omega)) (hf.2 _ (by omega)) (hf.2 _ (by omega)), pr, hf.at u4, hf.at u5, k9⟩, (x13.fr hf (fun q hq => (by have := x14.2.2.2.2.2.1 q hq; omega))), (x14.fr hf)⟩⟩ hf.cs)
def cs_way (o : Option (List Nat)) (i : Nat) : Int32 := match o with
  | none => -1
  | some l => if i < l.length then nI (l.getD i 0) else -1
set_option maxHeartbeats 4000000 in
set_option maxRecDepth 100000 in
theorem p_way {d : Nat} {x : Int64} {xi : Int32} {tp fk mo ni K : Nat} {bt : Nat → Nat} {fp : Int32} {v : rd_V} {bs : List Nat} {U : ln_U} {im : Nat → Option (rd_V × ln_Z)} {tr : Nat → Option (Nat × List Int64)} {hp : az_Hp} {Q : Option Value → az_Hp → Prop} (hd : 14 ≤ d) (hC : cs hp ((tp, bt), (fk, fp), v, (mo, ni, bs), U, im, tr) K) (hQ3 : x < lN 0 ∨ xi < 0 → Q (some (.int (-3))) hp) (hQ : ∀ n i, x = lN n → n < 2 ^ 63 → xi = nI i → i < 2 ^ 31 → ∀ h', cs h' ((tp, bt), (fk, fp), v, (mo, ni, bs), U, im, tr) K → cs_f hp h' → Q (some (.int (cs_way (fu_sn (rd_w v) n (fun x => (ln_str (rd_w v) bs).count x) 0 7) i))) h') : az_M mX11_way d 0 0 [.ref 0, .long x, .int xi] hp Q := by
  obtain ⟨hok, t, F, ia, kk, kt, x1, x2, x3, x4, x5, x6, x7, x8, x9, x10, x11, x12, x13, x14⟩ := id hC
  have hw : ln_ok (rd_w v) := hok.2.2.1.1
  have hlaw : ln_law (rd_w v) v.2.2.2.2.2.2.2.1 v.2.2.2.2.2.2.2.2 := hok.2.2.1.2
  have hba : ln_ba (rd_w v) bs := hok.2.2.2.1
  have hb : ln_by (rd_w v) bs := hba.b
  have x4 : ln_Past hp 6 U := x4
  have x5 : cs_im hp im ia F := x5
  have x6 : cs_tr hp tr := x6
  have x10 : ln_Scene hp 30 t (rd_w v) mo ni bs := x10
  have x13 : ln_Tf hp t (rd_w v) F := x13
  have x14 : cs_ad hp im F ia kk kt := x14
  obtain ⟨hi, fr, la, no, wa, nc, g0, -⟩ := id x10
  obtain ⟨t9, tl, wn, wx, fS, ff, fr9, fs, fa, fb, fL, u0, u1, u2, u3, ta, pr, u4, u5, k9⟩ := id (show fu_U hp 46 kk kt K from x12)
  have prb := pr.b
  obtain ⟨kb1, kb2⟩ := id k9
  refine az_M.of rfl (Nat.le_of_ble_eq_true rfl) ?_
  show az_W _ _ _ _ 0 [(0, .ref 0), (1, .long x), (3, .int xi)] [] _ _
  refine az_lload_n dX11_way_0 ?_
  refine az_lconst (v := lN 0) dX11_way_1 ?_
  refine az_lcmp_lt (tgt := 10) dX11_way_2 dX11_way_3 (fun c2 => ?_) (fun c2 => ?_)
  · refine az_bipush (v := (-3)) dX11_way_10 ?_
    exact az_iret dX11_way_12 (hQ3 (by first | exact Or.inl c2 | exact Or.inr (Int32.not_le.mp c7) | exact Or.inr c7))
  · refine az_iload_n dX11_way_6 ?_
    refine az_if_ge (tgt := 13) dX11_way_7 (fun c7 => ?_) (fun c7 => ?_)
    · obtain ⟨n, hn63, hx⟩ := J_of (x := x) c2
      obtain ⟨i, hi31, hxi⟩ := I_of (x := xi) (by first | exact Int32.not_lt.mpr c7 | exact c7)
      rw [hx, hxi]
      refine az_aload_n dX11_way_13 ?_
      refine az_getf (v := .ref 46) dX11_way_14 fl_X11_76 x1 ?_
      refine az_aload_n dX11_way_17 ?_
      refine az_getf (v := .ref 30) dX11_way_18 fl_X11_66 x1 ?_
      refine az_lload_n dX11_way_21 ?_
      refine az_cV0 (st := []) dX11_way_22 ml_X11_274 u0 (s_soonestRow (d := d - 1) (u := 46) (a := 30) (t := t) (n := n) (by omega) hw hb (x13.to (lo := 46) (hi := 46 + 4) (fun q hq => (by have := x14.2.2.2.2.2.1 q hq; omega))) x10 (by omega) hn63 u0 u1 u2 ?_)
      intro h1 f' r' n0 n1 n2 hr hf
      refine az_istore (ls' := [(0, .ref 0), (1, .long (lN n)), (3, .int (nI i)), (4, .int (ln_opt ((fu_sn (rd_w v) n (fun x => (ln_str (rd_w v) bs).count x) 0 7).map List.length)))]) dX11_way_25 ?_
      refine az_iload_n dX11_way_27 ?_
      refine az_iload dX11_way_28 ?_
      refine az_icmp_ge (tgt := 44) dX11_way_30 (fun c30 => ?_) (fun c30 => ?_)
      · refine az_iconst (v := (-1)) dX11_way_44 ?_
        exact az_iret dX11_way_45 (by have h8 := hQ n i hx hn63 hxi hi31 h1 ⟨hok, ⟨t, F, ia, kk, kt, (hf.at x1), (x2.fr hf), (x3.fr hf), (ln_PastX.fr x4 hf (by omega)), (x5.fr hf x14), (x6.fr hf), (x7.fr hf), (x8.fr hf), (x9.fr hf), (ln_Scene.fr x10 hf (by omega)), (x11.fr hf), ⟨_, _, wn, wx, fS, f', r', fs, fa, fb, fL, n0, n1, n2, hf.at u3, ta.eqv (hf.2 _ (by omega)) (hf.2 _ (by omega)) (hf.2 _ (by omega)) (hf.2 _ (by omega)), pr, hf.at u4, hf.at u5, k9⟩, (x13.fr hf (fun q hq => (by have := x14.2.2.2.2.2.1 q hq; omega))), (x14.fr hf)⟩⟩ hf.cs; first | (rw [hl, cs_way, if_pos hil] at h8; rw [hr l hl i hil]; exact h8) | (cases e : (fu_sn (rd_w v) n (fun x => (ln_str (rd_w v) bs).count x) 0 7) with | none => (rw [e] at h8; exact h8) | some l => (have h7 := fu_sn_len _ _ _ e; rw [e] at c30; rw [e, cs_way, if_neg (fun q9 => absurd ((nI_leI (by omega) (by omega)).mp c30) (by omega))] at h8; exact h8)))
      · obtain ⟨l, hl, hil, hl7⟩ : ∃ l, (fu_sn (rd_w v) n (fun x => (ln_str (rd_w v) bs).count x) 0 7) = some l ∧ i < l.length ∧ l.length < 7 := (by cases e : (fu_sn (rd_w v) n (fun x => (ln_str (rd_w v) bs).count x) 0 7) with | none => (rw [e] at c30; exact absurd (Int32.le_iff_toInt_le.mpr (by show (-1 : Int32).toInt ≤ (nI i).toInt; rw [nI_toI hi31]; have q3 : (-1 : Int32).toInt = -1 := (by decide); omega)) c30) | some l => (have h7 := fu_sn_len _ _ _ e; rw [e] at c30; exact ⟨l, rfl, (nI_ltI (by omega) (by omega)).mp (Int32.not_le.mp c30), (by omega)⟩))
        refine az_aload_n dX11_way_33 ?_
        refine az_getf (v := .ref 46) dX11_way_34 fl_X11_76 (hf.at x1) ?_
        refine az_iload_n dX11_way_37 ?_
        refine az_cV0 (st := []) dX11_way_38 ml_X11_277 n0 (s_tableInRow (d := d - 1) (u := 46) (i := i) n0 n2 (by omega) ?_)
        refine az_goto (tgt := 45) dX11_way_41 ?_
        exact az_iret dX11_way_45 (by have h8 := hQ n i hx hn63 hxi hi31 h1 ⟨hok, ⟨t, F, ia, kk, kt, (hf.at x1), (x2.fr hf), (x3.fr hf), (ln_PastX.fr x4 hf (by omega)), (x5.fr hf x14), (x6.fr hf), (x7.fr hf), (x8.fr hf), (x9.fr hf), (ln_Scene.fr x10 hf (by omega)), (x11.fr hf), ⟨_, _, wn, wx, fS, f', r', fs, fa, fb, fL, n0, n1, n2, hf.at u3, ta.eqv (hf.2 _ (by omega)) (hf.2 _ (by omega)) (hf.2 _ (by omega)) (hf.2 _ (by omega)), pr, hf.at u4, hf.at u5, k9⟩, (x13.fr hf (fun q hq => (by have := x14.2.2.2.2.2.1 q hq; omega))), (x14.fr hf)⟩⟩ hf.cs; first | (rw [hl, cs_way, if_pos hil] at h8; rw [hr l hl i hil]; exact h8) | (cases e : (fu_sn (rd_w v) n (fun x => (ln_str (rd_w v) bs).count x) 0 7) with | none => (rw [e] at h8; exact h8) | some l => (have h7 := fu_sn_len _ _ _ e; rw [e] at c30; rw [e, cs_way, if_neg (fun q9 => absurd ((nI_leI (by omega) (by omega)).mp c30) (by omega))] at h8; exact h8)))
    · refine az_bipush (v := (-3)) dX11_way_10 ?_
      exact az_iret dX11_way_12 (hQ3 (by first | exact Or.inl c2 | exact Or.inr (Int32.not_le.mp c7) | exact Or.inr c7))
set_option maxHeartbeats 4000000 in
set_option maxRecDepth 100000 in
theorem p_rows {d : Nat} {x : Int64} {xk : Int32} {tp fk mo ni K : Nat} {bt : Nat → Nat} {fp : Int32} {v : rd_V} {bs : List Nat} {U : ln_U} {im : Nat → Option (rd_V × ln_Z)} {tr : Nat → Option (Nat × List Int64)} {hp : az_Hp} {Q : Option Value → az_Hp → Prop} (hd : 14 ≤ d) (hC : cs hp ((tp, bt), (fk, fp), v, (mo, ni, bs), U, im, tr) K) (hQ3 : x < lN 0 ∨ ¬ cs_in xk 8 → Q (some (.int (-3))) hp) (hQ : ∀ n k, x = lN n → n < 2 ^ 63 → xk = nI k → k < 8 → ∀ h', cs h' ((tp, bt), (fk, fp), v, (mo, ni, bs), U, im, tr) K → cs_f hp h' → Q (some (.int (nI (fu_rows (rd_w v) n k (fun x => (ln_str (rd_w v) bs).count x))))) h') : az_M mX11_rows d 0 0 [.ref 0, .long x, .int xk] hp Q := by
  obtain ⟨hok, t, F, ia, kk, kt, x1, x2, x3, x4, x5, x6, x7, x8, x9, x10, x11, x12, x13, x14⟩ := id hC
  have hw : ln_ok (rd_w v) := hok.2.2.1.1
  have hlaw : ln_law (rd_w v) v.2.2.2.2.2.2.2.1 v.2.2.2.2.2.2.2.2 := hok.2.2.1.2
  have hba : ln_ba (rd_w v) bs := hok.2.2.2.1
  have hb : ln_by (rd_w v) bs := hba.b
  have x4 : ln_Past hp 6 U := x4
  have x5 : cs_im hp im ia F := x5
  have x6 : cs_tr hp tr := x6
  have x10 : ln_Scene hp 30 t (rd_w v) mo ni bs := x10
  have x13 : ln_Tf hp t (rd_w v) F := x13
  have x14 : cs_ad hp im F ia kk kt := x14
  obtain ⟨hi, fr, la, no, wa, nc, g0, -⟩ := id x10
  obtain ⟨t9, tl, wn, wx, fS, ff, fr9, fs, fa, fb, fL, u0, u1, u2, u3, ta, pr, u4, u5, k9⟩ := id (show fu_U hp 46 kk kt K from x12)
  have prb := pr.b
  obtain ⟨kb1, kb2⟩ := id k9
  refine az_M.of rfl (Nat.le_of_ble_eq_true rfl) ?_
  show az_W _ _ _ _ 0 [(0, .ref 0), (1, .long x), (3, .int xk)] [] _ _
  refine az_lload_n dX11_rows_0 ?_
  refine az_lconst (v := lN 0) dX11_rows_1 ?_
  refine az_lcmp_lt (tgt := 16) dX11_rows_2 dX11_rows_3 (fun c2 => ?_) (fun c2 => ?_)
  · refine az_bipush (v := (-3)) dX11_rows_16 ?_
    exact az_iret dX11_rows_18 (hQ3 (by first | exact Or.inl c2 | exact Or.inr (fun q9 => (by obtain ⟨e1, e2⟩ := cs_in_of q9; first | (rw [e1, show (0 : Int32) = nI 0 from rfl] at c7; exact absurd ((nI_ltI (by omega) (by omega)).mp c7) (by omega)) | (rw [e1] at c13; exact c13 ((nI_leI (by omega) (by omega)).mpr (by omega)))))))
  · refine az_iload_n dX11_rows_6 ?_
    refine az_if_lt (tgt := 16) dX11_rows_7 (fun c7 => ?_) (fun c7 => ?_)
    · refine az_bipush (v := (-3)) dX11_rows_16 ?_
      exact az_iret dX11_rows_18 (hQ3 (by first | exact Or.inl c2 | exact Or.inr (fun q9 => (by obtain ⟨e1, e2⟩ := cs_in_of q9; first | (rw [e1, show (0 : Int32) = nI 0 from rfl] at c7; exact absurd ((nI_ltI (by omega) (by omega)).mp c7) (by omega)) | (rw [e1] at c13; exact c13 ((nI_leI (by omega) (by omega)).mpr (by omega)))))))
    · refine az_iload_n dX11_rows_10 ?_
      refine az_bipush (v := nI 7) dX11_rows_11 ?_
      refine az_icmp_le (tgt := 19) dX11_rows_13 (fun c13 => ?_) (fun c13 => ?_)
      · obtain ⟨n, hn63, hx⟩ := J_of (x := x) c2
        obtain ⟨m, hi31, hxk⟩ := I_of (x := xk) c7
        have hm : m < 8 := (by rw [hxk] at c13; have := (nI_leI (by omega) (by omega)).mp c13; omega)
        rw [hx, hxk]
        refine az_aload_n dX11_rows_19 ?_
        refine az_getf (v := .ref 46) dX11_rows_20 fl_X11_76 x1 ?_
        refine az_aload_n dX11_rows_23 ?_
        refine az_getf (v := .ref 30) dX11_rows_24 fl_X11_66 x1 ?_
        refine az_lload_n dX11_rows_27 ?_
        refine az_iload_n dX11_rows_28 ?_
        refine az_cV0 (st := []) dX11_rows_29 ml_X11_280 u0 (s_rowsOf (d := d - 1) (u := 46) (a := 30) (t := t) (n := n) (k := m) (by omega) hw hb (x13.to (lo := 46) (hi := 46 + 4) (fun q hq => (by have := x14.2.2.2.2.2.1 q hq; omega))) x10 (by omega) hn63 (by omega) u0 u1 ?_)
        intro h1 f' n0 n1 hf
        exact az_iret dX11_rows_32 (hQ n m hx hn63 hxk hm h1 ⟨hok, ⟨t, F, ia, kk, kt, (hf.at x1), (x2.fr hf), (x3.fr hf), (ln_PastX.fr x4 hf (by omega)), (x5.fr hf x14), (x6.fr hf), (x7.fr hf), (x8.fr hf), (x9.fr hf), (ln_Scene.fr x10 hf (by omega)), (x11.fr hf), ⟨_, _, wn, wx, fS, f', fr9, fs, fa, fb, fL, n0, n1, (hf.at u2), hf.at u3, ta.eqv (hf.2 _ (by omega)) (hf.2 _ (by omega)) (hf.2 _ (by omega)) (hf.2 _ (by omega)), pr, hf.at u4, hf.at u5, k9⟩, (x13.fr hf (fun q hq => (by have := x14.2.2.2.2.2.1 q hq; omega))), (x14.fr hf)⟩⟩ hf.cs)
      · refine az_bipush (v := (-3)) dX11_rows_16 ?_
        exact az_iret dX11_rows_18 (hQ3 (by first | exact Or.inl c2 | exact Or.inr (fun q9 => (by obtain ⟨e1, e2⟩ := cs_in_of q9; first | (rw [e1, show (0 : Int32) = nI 0 from rfl] at c7; exact absurd ((nI_ltI (by omega) (by omega)).mp c7) (by omega)) | (rw [e1] at c13; exact c13 ((nI_leI (by omega) (by omega)).mpr (by omega)))))))
set_option maxHeartbeats 4000000 in
set_option maxRecDepth 100000 in
theorem p_turned {d : Nat} {xk : Int32} {tp fk mo ni K : Nat} {bt : Nat → Nat} {fp : Int32} {v : rd_V} {bs : List Nat} {U : ln_U} {im : Nat → Option (rd_V × ln_Z)} {tr : Nat → Option (Nat × List Int64)} {hp : az_Hp} {Q : Option Value → az_Hp → Prop} (hd : 14 ≤ d) (hC : cs hp ((tp, bt), (fk, fp), v, (mo, ni, bs), U, im, tr) K) (hQ3 : ¬ cs_in xk 8 → Q (some (.long (-3))) hp) (hQ : ∀ k, xk = nI k → k < 8 → ∀ h', cs h' ((tp, bt), (fk, fp), v, (mo, ni, bs), U, im, tr) K → cs_f hp h' → Q (some (.long (lN (fu_t (rd_w v) k 0 (fun x => (ln_str (rd_w v) bs).count x)).1))) h') : az_M mX11_turned d 0 0 [.ref 0, .int xk] hp Q := by
  obtain ⟨hok, t, F, ia, kk, kt, x1, x2, x3, x4, x5, x6, x7, x8, x9, x10, x11, x12, x13, x14⟩ := id hC
  have hw : ln_ok (rd_w v) := hok.2.2.1.1
  have hlaw : ln_law (rd_w v) v.2.2.2.2.2.2.2.1 v.2.2.2.2.2.2.2.2 := hok.2.2.1.2
  have hba : ln_ba (rd_w v) bs := hok.2.2.2.1
  have hb : ln_by (rd_w v) bs := hba.b
  have x4 : ln_Past hp 6 U := x4
  have x5 : cs_im hp im ia F := x5
  have x6 : cs_tr hp tr := x6
  have x10 : ln_Scene hp 30 t (rd_w v) mo ni bs := x10
  have x13 : ln_Tf hp t (rd_w v) F := x13
  have x14 : cs_ad hp im F ia kk kt := x14
  obtain ⟨hi, fr, la, no, wa, nc, g0, -⟩ := id x10
  obtain ⟨t9, tl, wn, wx, fS, ff, fr9, fs, fa, fb, fL, u0, u1, u2, u3, ta, pr, u4, u5, k9⟩ := id (show fu_U hp 46 kk kt K from x12)
  have prb := pr.b
  obtain ⟨kb1, kb2⟩ := id k9
  refine az_M.of rfl (Nat.le_of_ble_eq_true rfl) ?_
  show az_W _ _ _ _ 0 [(0, .ref 0), (1, .int xk)] [] _ _
  refine az_iload_n dX11_turned_0 ?_
  refine az_if_lt (tgt := 10) dX11_turned_1 (fun c1 => ?_) (fun c1 => ?_)
  · refine az_ldc2 (v := (-3)) dX11_turned_10 cn_X11_150 ?_
    exact az_lret dX11_turned_13 (hQ3 (fun q9 => (by obtain ⟨e1, e2⟩ := cs_in_of q9; first | (rw [e1, show (0 : Int32) = nI 0 from rfl] at c1; exact absurd ((nI_ltI (by omega) (by omega)).mp c1) (by omega)) | (rw [e1] at c7; exact c7 ((nI_leI (by omega) (by omega)).mpr (by omega))))))
  · refine az_iload_n dX11_turned_4 ?_
    refine az_bipush (v := nI 7) dX11_turned_5 ?_
    refine az_icmp_le (tgt := 14) dX11_turned_7 (fun c7 => ?_) (fun c7 => ?_)
    · obtain ⟨m, hi31, hxk⟩ := I_of (x := xk) c1
      have hm : m < 8 := (by rw [hxk] at c7; have := (nI_leI (by omega) (by omega)).mp c7; omega)
      rw [hxk]
      refine az_aload_n dX11_turned_14 ?_
      refine az_getf (v := .ref 46) dX11_turned_15 fl_X11_76 x1 ?_
      refine az_aload_n dX11_turned_18 ?_
      refine az_getf (v := .ref 30) dX11_turned_19 fl_X11_66 x1 ?_
      refine az_iload_n dX11_turned_22 ?_
      refine az_cV0 (st := []) dX11_turned_23 ml_X11_302 u0 (s_spanOfTurns (d := d - 1) (u := 46) (a := 30) (t := t) (k := m) (by omega) hw hb (x13.to (lo := 46) (hi := 46 + 4) (fun q hq => (by have := x14.2.2.2.2.2.1 q hq; omega))) x10 (by omega) (by omega) u0 u1 u2 ?_)
      intro h1 f' r' n0 n1 n2 hr hf
      exact az_lret dX11_turned_26 (hQ m hxk hm h1 ⟨hok, ⟨t, F, ia, kk, kt, (hf.at x1), (x2.fr hf), (x3.fr hf), (ln_PastX.fr x4 hf (by omega)), (x5.fr hf x14), (x6.fr hf), (x7.fr hf), (x8.fr hf), (x9.fr hf), (ln_Scene.fr x10 hf (by omega)), (x11.fr hf), ⟨_, _, wn, wx, fS, f', r', fs, fa, fb, fL, n0, n1, n2, hf.at u3, ta.eqv (hf.2 _ (by omega)) (hf.2 _ (by omega)) (hf.2 _ (by omega)) (hf.2 _ (by omega)), pr, hf.at u4, hf.at u5, k9⟩, (x13.fr hf (fun q hq => (by have := x14.2.2.2.2.2.1 q hq; omega))), (x14.fr hf)⟩⟩ hf.cs)
    · refine az_ldc2 (v := (-3)) dX11_turned_10 cn_X11_150 ?_
      exact az_lret dX11_turned_13 (hQ3 (fun q9 => (by obtain ⟨e1, e2⟩ := cs_in_of q9; first | (rw [e1, show (0 : Int32) = nI 0 from rfl] at c1; exact absurd ((nI_ltI (by omega) (by omega)).mp c1) (by omega)) | (rw [e1] at c7; exact c7 ((nI_leI (by omega) (by omega)).mpr (by omega))))))
set_option maxHeartbeats 4000000 in
set_option maxRecDepth 100000 in
theorem p_best {d : Nat} {xk : Int32} {tp fk mo ni K : Nat} {bt : Nat → Nat} {fp : Int32} {v : rd_V} {bs : List Nat} {U : ln_U} {im : Nat → Option (rd_V × ln_Z)} {tr : Nat → Option (Nat × List Int64)} {hp : az_Hp} {Q : Option Value → az_Hp → Prop} (hd : 14 ≤ d) (hC : cs hp ((tp, bt), (fk, fp), v, (mo, ni, bs), U, im, tr) K) (hQ3 : ¬ cs_in xk 8 → Q (some (.int (-3))) hp) (hQ : ∀ k, xk = nI k → k < 8 → ∀ h', cs h' ((tp, bt), (fk, fp), v, (mo, ni, bs), U, im, tr) K → cs_f hp h' → Q (some (.int (if k = 0 then (-1) else nI (fu_t (rd_w v) k 0 (fun x => (ln_str (rd_w v) bs).count x)).2))) h') : az_M mX11_best d 0 0 [.ref 0, .int xk] hp Q := by
  obtain ⟨hok, t, F, ia, kk, kt, x1, x2, x3, x4, x5, x6, x7, x8, x9, x10, x11, x12, x13, x14⟩ := id hC
  have hw : ln_ok (rd_w v) := hok.2.2.1.1
  have hlaw : ln_law (rd_w v) v.2.2.2.2.2.2.2.1 v.2.2.2.2.2.2.2.2 := hok.2.2.1.2
  have hba : ln_ba (rd_w v) bs := hok.2.2.2.1
  have hb : ln_by (rd_w v) bs := hba.b
  have x4 : ln_Past hp 6 U := x4
  have x5 : cs_im hp im ia F := x5
  have x6 : cs_tr hp tr := x6
  have x10 : ln_Scene hp 30 t (rd_w v) mo ni bs := x10
  have x13 : ln_Tf hp t (rd_w v) F := x13
  have x14 : cs_ad hp im F ia kk kt := x14
  obtain ⟨hi, fr, la, no, wa, nc, g0, -⟩ := id x10
  obtain ⟨t9, tl, wn, wx, fS, ff, fr9, fs, fa, fb, fL, u0, u1, u2, u3, ta, pr, u4, u5, k9⟩ := id (show fu_U hp 46 kk kt K from x12)
  have prb := pr.b
  obtain ⟨kb1, kb2⟩ := id k9
  refine az_M.of rfl (Nat.le_of_ble_eq_true rfl) ?_
  show az_W _ _ _ _ 0 [(0, .ref 0), (1, .int xk)] [] _ _
  refine az_iload_n dX11_best_0 ?_
  refine az_if_lt (tgt := 10) dX11_best_1 (fun c1 => ?_) (fun c1 => ?_)
  · refine az_bipush (v := (-3)) dX11_best_10 ?_
    exact az_iret dX11_best_12 (hQ3 (fun q9 => (by obtain ⟨e1, e2⟩ := cs_in_of q9; first | (rw [e1, show (0 : Int32) = nI 0 from rfl] at c1; exact absurd ((nI_ltI (by omega) (by omega)).mp c1) (by omega)) | (rw [e1] at c7; exact c7 ((nI_leI (by omega) (by omega)).mpr (by omega))))))
  · refine az_iload_n dX11_best_4 ?_
    refine az_bipush (v := nI 7) dX11_best_5 ?_
    refine az_icmp_le (tgt := 13) dX11_best_7 (fun c7 => ?_) (fun c7 => ?_)
    · obtain ⟨m, hi31, hxk⟩ := I_of (x := xk) c1
      have hm : m < 8 := (by rw [hxk] at c7; have := (nI_leI (by omega) (by omega)).mp c7; omega)
      rw [hxk]
      refine az_aload_n dX11_best_13 ?_
      refine az_getf (v := .ref 46) dX11_best_14 fl_X11_76 x1 ?_
      refine az_aload_n dX11_best_17 ?_
      refine az_getf (v := .ref 30) dX11_best_18 fl_X11_66 x1 ?_
      refine az_iload_n dX11_best_21 ?_
      refine az_cV0 (st := []) dX11_best_22 ml_X11_302 u0 (s_spanOfTurns (d := d - 1) (u := 46) (a := 30) (t := t) (k := m) (by omega) hw hb (x13.to (lo := 46) (hi := 46 + 4) (fun q hq => (by have := x14.2.2.2.2.2.1 q hq; omega))) x10 (by omega) (by omega) u0 u1 u2 ?_)
      intro h1 f' r' n0 n1 n2 hr hf
      refine az_pop2_2 dX11_best_25 ?_
      refine az_iload_n dX11_best_26 ?_
      refine az_if_neN (tgt := 34) dX11_best_27 (fun c27 => ?_) (fun c27 => ?_)
      · refine az_aload_n dX11_best_34 ?_
        refine az_getf (v := .ref 46) dX11_best_35 fl_X11_76 (hf.at x1) ?_
        refine az_iconst (v := nI 0) dX11_best_38 ?_
        refine az_cV0 (st := []) dX11_best_39 ml_X11_277 n0 (s_tableInRow (d := d - 1) (u := 46) (i := 0) n0 n2 (by omega) ?_)
        exact az_iret dX11_best_42 (by have h8 := hQ m hxk hm h1 ⟨hok, ⟨t, F, ia, kk, kt, (hf.at x1), (x2.fr hf), (x3.fr hf), (ln_PastX.fr x4 hf (by omega)), (x5.fr hf x14), (x6.fr hf), (x7.fr hf), (x8.fr hf), (x9.fr hf), (ln_Scene.fr x10 hf (by omega)), (x11.fr hf), ⟨_, _, wn, wx, fS, f', r', fs, fa, fb, fL, n0, n1, n2, hf.at u3, ta.eqv (hf.2 _ (by omega)) (hf.2 _ (by omega)) (hf.2 _ (by omega)) (hf.2 _ (by omega)), pr, hf.at u4, hf.at u5, k9⟩, (x13.fr hf (fun q hq => (by have := x14.2.2.2.2.2.1 q hq; omega))), (x14.fr hf)⟩⟩ hf.cs; first | (rw [if_pos (by omega)] at h8; exact h8) | (rw [if_neg (by omega), ← hr (by omega)] at h8; exact h8))
      · refine az_iconst (v := (-1)) dX11_best_30 ?_
        refine az_goto (tgt := 42) dX11_best_31 ?_
        exact az_iret dX11_best_42 (by have h8 := hQ m hxk hm h1 ⟨hok, ⟨t, F, ia, kk, kt, (hf.at x1), (x2.fr hf), (x3.fr hf), (ln_PastX.fr x4 hf (by omega)), (x5.fr hf x14), (x6.fr hf), (x7.fr hf), (x8.fr hf), (x9.fr hf), (ln_Scene.fr x10 hf (by omega)), (x11.fr hf), ⟨_, _, wn, wx, fS, f', r', fs, fa, fb, fL, n0, n1, n2, hf.at u3, ta.eqv (hf.2 _ (by omega)) (hf.2 _ (by omega)) (hf.2 _ (by omega)) (hf.2 _ (by omega)), pr, hf.at u4, hf.at u5, k9⟩, (x13.fr hf (fun q hq => (by have := x14.2.2.2.2.2.1 q hq; omega))), (x14.fr hf)⟩⟩ hf.cs; first | (rw [if_pos (by omega)] at h8; exact h8) | (rw [if_neg (by omega), ← hr (by omega)] at h8; exact h8))
    · refine az_bipush (v := (-3)) dX11_best_10 ?_
      exact az_iret dX11_best_12 (hQ3 (fun q9 => (by obtain ⟨e1, e2⟩ := cs_in_of q9; first | (rw [e1, show (0 : Int32) = nI 0 from rfl] at c1; exact absurd ((nI_ltI (by omega) (by omega)).mp c1) (by omega)) | (rw [e1] at c7; exact c7 ((nI_leI (by omega) (by omega)).mpr (by omega))))))

