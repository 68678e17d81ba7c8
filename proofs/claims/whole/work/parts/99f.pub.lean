/-! LetterNights: trays -/
theorem ln_Tray.ob {h : az_Hp} {r : Nat} {y : Option (Nat × List Int64)} (H : ln_Tray h r y) : ∃ a b : Int32, h.2 r = some (az_O 9 [.int a, .int b, .ref (r + 1)]) := by
  cases y with
  | none => obtain ⟨so, f, h1, -⟩ := H; exact ⟨_, _, h1⟩
  | some x => obtain ⟨-, -, f, h1, -⟩ := H; exact ⟨_, _, h1⟩
theorem s_missing {d r : Nat} {y : Option (Nat × List Int64)} {hp : az_Hp} {Q : Option Value → az_Hp → Prop} (hR : ln_Tray hp r y) (h1 : y = none → Q (some (.int (nI 1))) hp) (h0 : ∀ x, y = some x → Q (some (.int (nI 0))) hp) : az_M mX10_missing d 0 0 [.ref r] hp Q := by
  cases y with
  | none => exact s_missing0 hR (h1 rfl)
  | some x => exact s_missing1 hR (h0 x rfl)
set_option maxHeartbeats 4000000 in
set_option maxRecDepth 100000 in
theorem p_refT {d : Nat} {x : Int32} {tp fk mo ni K : Nat} {bt : Nat → Nat} {fp : Int32} {v : rd_V} {bs : List Nat} {U : ln_U} {im : Nat → Option (rd_V × ln_Z)} {tr : Nat → Option (Nat × List Int64)} {hp : az_Hp} {Q : Option Value → az_Hp → Prop} (hd : 2 ≤ d) (hC : cs hp ((tp, bt), (fk, fp), v, (mo, ni, bs), U, im, tr) K) (hQ2 : (∀ n, n < 4 → x ≠ nI n) → Q (some (.int (-2))) hp) (hQ6 : ∀ n, x = nI n → n < 4 → tr n = none → Q (some (.int (-6))) hp) (hQ0 : ∀ n y, x = nI n → n < 4 → tr n = some y → Q (some (.int (nI 0))) hp) : az_M mX11_refusalOfTray d 0 0 [.ref 0, .int x] hp Q := by
  obtain ⟨hok, t, F, ia, kk, kt, x1, x2, x3, x4, x5, x6, x7, x8, x9, x10, x11, x12, x13, x14⟩ := id hC
  have hw : ln_ok (rd_w v) := hok.2.2.1.1
  have hlaw : ln_law (rd_w v) v.2.2.2.2.2.2.2.1 v.2.2.2.2.2.2.2.2 := hok.2.2.1.2
  have hba : ln_ba (rd_w v) bs := hok.2.2.2.1
  have hb : ln_by (rd_w v) bs := hba.b
  have x4 : ln_Past hp 6 U := x4
  have x5 : cs_im hp im ia F := x5
  have x6 : cs_tr hp tr := x6
  have x10 : ln_Scene hp 30 t (rd_w v) mo ni bs := x10
  have x13 : ln_Tf hp t (rd_w v) F := x13
  have x14 : cs_ad hp im F ia kk kt := x14
  obtain ⟨g, hg, hgt⟩ := id x6
  refine az_M.of rfl (Nat.le_of_ble_eq_true rfl) ?_
  show az_W _ _ _ _ 0 [(0, .ref 0), (1, .int x)] [] _ _
  refine az_iload_n dX11_refusalOfTray_0 ?_
  refine az_cS0 (st := []) dX11_refusalOfTray_1 ml_X11_190 (p_isTray (d := d - 1) ?_ ?_)
  · intro n hx hn
    have hgn := (hgt n hn).1
    have hgR := (hgt n hn).2
    obtain ⟨qa, qb, q0⟩ := hgR.ob
    refine az_if_neN (tgt := 10) dX11_refusalOfTray_4 (fun c4 => ?_) (fun c4 => ?_)
    · rw [hx]
      refine az_aload_n dX11_refusalOfTray_10 ?_
      refine az_getf (v := .ref 11) dX11_refusalOfTray_11 fl_X11_35 x1 ?_
      refine az_iload_n dX11_refusalOfTray_14 ?_
      refine az_aaldN (j := n) dX11_refusalOfTray_15 hg ?_
      rw [hgn]
      refine az_cV0 (st := []) dX11_refusalOfTray_16 ml_X11_193 q0 (s_missing (d := d - 1) hgR ?_ ?_)
      · intro hno
        refine az_if_eqN (tgt := 27) dX11_refusalOfTray_19 (fun c19 => ?_) (fun c19 => ?_)
        · exact absurd c19 (by omega)
        · refine az_bipush (v := (-6)) dX11_refusalOfTray_22 ?_
          refine az_goto (tgt := 28) dX11_refusalOfTray_24 ?_
          exact az_iret dX11_refusalOfTray_28 (by first | exact hQ6 n hx hn hno | exact hQ0 n y hx hn hy)
      · intro y hy
        refine az_if_eqN (tgt := 27) dX11_refusalOfTray_19 (fun c19 => ?_) (fun c19 => ?_)
        · refine az_iconst (v := nI 0) dX11_refusalOfTray_27 ?_
          exact az_iret dX11_refusalOfTray_28 (by first | exact hQ6 n hx hn hno | exact hQ0 n y hx hn hy)
        · exact absurd c19 (by omega)
    · exact absurd c4 (by omega)
  · intro hno
    refine az_if_neN (tgt := 10) dX11_refusalOfTray_4 (fun c4 => ?_) (fun c4 => ?_)
    · exact absurd c4 (by omega)
    · refine az_bipush (v := (-2)) dX11_refusalOfTray_7 ?_
      exact az_iret dX11_refusalOfTray_9 (hQ2 hno)
theorem cs_tr.set {h h' : az_Hp} {tr : Nat → Option (Nat × List Int64)} {n : Nat} {y : Option (Nat × List Int64)} (H : cs_tr h tr) (hf : az_fr h h' (56 + 2 * n) (56 + 2 * n + 2)) (hR : ln_Tray h' (56 + 2 * n) y) : cs_tr h' (fun i => if i = n then y else tr i) := by
  obtain ⟨g, h1, h2⟩ := H
  refine ⟨g, hf.at h1, fun i hi => ⟨(h2 i hi).1, ?_⟩⟩
  show ln_Tray h' (56 + 2 * i) (if i = n then y else tr i)
  by_cases e : i = n
  · rw [e, if_pos rfl]; exact hR
  · rw [if_neg e]
    exact (h2 i hi).2.eqv (hf.2 _ (by omega)) (hf.2 _ (by omega))
set_option maxHeartbeats 4000000 in
set_option maxRecDepth 100000 in
theorem p_numbers {d : Nat} {x xs xn : Int32} {tp fk mo ni K : Nat} {bt : Nat → Nat} {fp : Int32} {v : rd_V} {bs : List Nat} {U : ln_U} {im : Nat → Option (rd_V × ln_Z)} {tr : Nat → Option (Nat × List Int64)} {hp : az_Hp} {Q : Option Value → az_Hp → Prop} (hd : 3 ≤ d) (hC : cs hp ((tp, bt), (fk, fp), v, (mo, ni, bs), U, im, tr) K) (hQ2 : ¬ (cs_in x 4 ∧ cs_in xs 4) → Q (some (.int (-2))) hp) (hQ3 : cs_in x 4 → cs_in xs 4 → ¬ cs_in xn 41 → Q (some (.int (-3))) hp) (hQ0 : ∀ n so m, x = nI n → n < 4 → xs = nI so → so < 4 → xn = nI m → m < 41 → ∀ h', cs h' ((tp, bt), (fk, fp), v, (mo, ni, bs), U, im, fun i => if i = n then some (so, List.replicate m 0) else tr i) K → cs_f hp h' → Q (some (.int (nI 0))) h') : az_M mX11_numbers d 0 0 [.ref 0, .int x, .int xs, .int xn] hp Q := by
  obtain ⟨hok, t, F, ia, kk, kt, x1, x2, x3, x4, x5, x6, x7, x8, x9, x10, x11, x12, x13, x14⟩ := id hC
  have hw : ln_ok (rd_w v) := hok.2.2.1.1
  have hlaw : ln_law (rd_w v) v.2.2.2.2.2.2.2.1 v.2.2.2.2.2.2.2.2 := hok.2.2.1.2
  have hba : ln_ba (rd_w v) bs := hok.2.2.2.1
  have hb : ln_by (rd_w v) bs := hba.b
  have x4 : ln_Past hp 6 U := x4
  have x5 : cs_im hp im ia F := x5
  have x6 : cs_tr hp tr := x6
  have x10 : ln_Scene hp 30 t (rd_w v) mo ni bs := x10
  have x13 : ln_Tf hp t (rd_w v) F := x13
  have x14 : cs_ad hp im F ia kk kt := x14
  obtain ⟨g, hg, hgt⟩ := id x6
  refine az_M.of rfl (Nat.le_of_ble_eq_true rfl) ?_
  show az_W _ _ _ _ 0 [(0, .ref 0), (1, .int x), (2, .int xs), (3, .int xn)] [] _ _
  refine az_iload_n dX11_numbers_0 ?_
  refine az_cS0 (st := []) dX11_numbers_1 ml_X11_190 (p_isTray (d := d - 1) ?_ ?_)
  · intro n hx hn
    have hgn := (hgt n hn).1
    have hgR := (hgt n hn).2
    obtain ⟨qa, qb, q0⟩ := hgR.ob
    have i1 := (cs_in_n (k := 4) hn (by omega)).1
    rw [← hx] at i1
    refine az_if_eqN (tgt := 16) dX11_numbers_4 (fun c4 => ?_) (fun c4 => ?_)
    · exact absurd c4 (by omega)
    · refine az_iload_n dX11_numbers_7 ?_
      refine az_if_lt (tgt := 16) dX11_numbers_8 (fun c8 => ?_) (fun c8 => ?_)
      · refine az_bipush (v := (-2)) dX11_numbers_16 ?_
        exact az_iret dX11_numbers_18 (by first | exact hQ2 (fun q9 => cs_no hno q9.1) | exact hQ2 (fun q8 => (have q9 := q8.2; (by obtain ⟨e1, e2⟩ := cs_in_of q9; first | (rw [e1, show (0 : Int32) = nI 0 from rfl] at c8; exact absurd ((nI_ltI (by omega) (by omega)).mp c8) (by omega)) | (rw [e1] at c13; exact c13 ((nI_leI (by omega) (by omega)).mpr (by omega)))))))
      · refine az_iload_n dX11_numbers_11 ?_
        refine az_iconst (v := nI 3) dX11_numbers_12 ?_
        refine az_icmp_le (tgt := 19) dX11_numbers_13 (fun c13 => ?_) (fun c13 => ?_)
        · obtain ⟨so, hs31, hxs⟩ := I_of c8
          have hso : so < 4 := (by rw [hxs] at c13; have := (nI_leI (by omega) (by omega)).mp c13; omega)
          have i2 := (cs_in_n (k := 4) hso (by omega)).1
          rw [← hxs] at i2
          refine az_iload_n dX11_numbers_19 ?_
          refine az_if_lt (tgt := 29) dX11_numbers_20 (fun c20 => ?_) (fun c20 => ?_)
          · refine az_bipush (v := (-3)) dX11_numbers_29 ?_
            exact az_iret dX11_numbers_31 (hQ3 i1 i2 (fun q9 => (by obtain ⟨e1, e2⟩ := cs_in_of q9; first | (rw [e1, show (0 : Int32) = nI 0 from rfl] at c20; exact absurd ((nI_ltI (by omega) (by omega)).mp c20) (by omega)) | (rw [e1] at c26; exact c26 ((nI_leI (by omega) (by omega)).mpr (by omega))))))
          · refine az_iload_n dX11_numbers_23 ?_
            refine az_bipush (v := nI 40) dX11_numbers_24 ?_
            refine az_icmp_le (tgt := 32) dX11_numbers_26 (fun c26 => ?_) (fun c26 => ?_)
            · obtain ⟨m, hm31, hxm⟩ := I_of c20
              have hm : m < 41 := (by rw [hxm] at c26; have := (nI_leI (by omega) (by omega)).mp c26; omega)
              rw [hx, hxs, hxm]
              refine az_aload_n dX11_numbers_32 ?_
              refine az_getf (v := .ref 11) dX11_numbers_33 fl_X11_35 x1 ?_
              refine az_iload_n dX11_numbers_36 ?_
              refine az_aaldN (j := n) dX11_numbers_37 hg ?_
              rw [hgn]
              refine az_iload_n dX11_numbers_38 ?_
              refine az_iload_n dX11_numbers_39 ?_
              refine az_cV0 (st := []) dX11_numbers_40 ml_X11_319 q0 (s_lay (d := d - 1) (so := so) (n := m) (by omega) hgR (by omega) (by omega) ?_)
              intro h1 hR1 hf
              refine az_iconst (v := nI 0) dX11_numbers_43 ?_
              exact az_iret dX11_numbers_44 (hQ0 n so m hx hn hxs hso hxm hm h1 ⟨hok, ⟨t, F, ia, kk, kt, (hf.at x1), (x2.fr hf), (x3.fr hf), (ln_PastX.fr x4 hf (by omega)), (x5.fr hf x14), (x6.set hf hR1), (x7.fr hf), (x8.fr hf), (x9.fr hf), (ln_Scene.fr x10 hf (by omega)), (x11.fr hf), (x12.fr hf (by omega) (by have := x14.2.1; omega) (by have := x14.2.2.1; omega)), (x13.fr hf (fun q hq => (by have := x14.2.2.2.2.2.1 q hq; omega))), (x14.fr hf)⟩⟩ hf.cs)
            · refine az_bipush (v := (-3)) dX11_numbers_29 ?_
              exact az_iret dX11_numbers_31 (hQ3 i1 i2 (fun q9 => (by obtain ⟨e1, e2⟩ := cs_in_of q9; first | (rw [e1, show (0 : Int32) = nI 0 from rfl] at c20; exact absurd ((nI_ltI (by omega) (by omega)).mp c20) (by omega)) | (rw [e1] at c26; exact c26 ((nI_leI (by omega) (by omega)).mpr (by omega))))))
        · refine az_bipush (v := (-2)) dX11_numbers_16 ?_
          exact az_iret dX11_numbers_18 (by first | exact hQ2 (fun q9 => cs_no hno q9.1) | exact hQ2 (fun q8 => (have q9 := q8.2; (by obtain ⟨e1, e2⟩ := cs_in_of q9; first | (rw [e1, show (0 : Int32) = nI 0 from rfl] at c8; exact absurd ((nI_ltI (by omega) (by omega)).mp c8) (by omega)) | (rw [e1] at c13; exact c13 ((nI_leI (by omega) (by omega)).mpr (by omega)))))))
  · intro hno
    refine az_if_eqN (tgt := 16) dX11_numbers_4 (fun c4 => ?_) (fun c4 => ?_)
    · refine az_bipush (v := (-2)) dX11_numbers_16 ?_
      exact az_iret dX11_numbers_18 (by first | exact hQ2 (fun q9 => cs_no hno q9.1) | exact hQ2 (fun q8 => (have q9 := q8.2; (by obtain ⟨e1, e2⟩ := cs_in_of q9; first | (rw [e1, show (0 : Int32) = nI 0 from rfl] at c8; exact absurd ((nI_ltI (by omega) (by omega)).mp c8) (by omega)) | (rw [e1] at c13; exact c13 ((nI_leI (by omega) (by omega)).mpr (by omega)))))))
    · exact absurd c4 (by omega)

