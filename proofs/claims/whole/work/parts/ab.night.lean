/-! The model: nights, the moon, undone -/
theorem mf.wk {h h' : az_Hp} {L L' : List Nat} (H : mf h h' L) (hs : ∀ q ∈ L, q ∈ L' := by decide) : mf h h' L' := ⟨H.1, fun q hq => H.2 q (fun e => hq (hs q e))⟩
theorem mm.go {h1 h' : az_Hp} {tp fk : Nat} {bt : Nat → Nat} {fp : Int32} {v' : rd_V} {z' : ln_Z} {U' : ln_U} {im : Nat → Option (rd_V × ln_Z)} {tr : Nat → Option (Nat × List Int64)} {sc sc' : Nat → Value} {A A' tf : Nat → Nat} {hI rs rm : Nat → Int32} {nu : Nat → Int64} {L : List Nat} (a2 : sc 5 = .int (nI tp) ∧ sc 13 = .int (nI fk) ∧ sc 14 = .int fp) (a6 : h1.2 66 = some (az_Z 2 hI)) (a7 : mI A hI im) (a8 : h1.2 67 = some (az_I 900 (fun j => nI (tf j)))) (a9 : ∀ j, j < tp → tf j = bt j) (a10 : h1.2 90 = some (az_I 4 rs)) (a11 : h1.2 91 = some (az_I 4 rm)) (a12 : h1.2 92 = some (az_J 160 nu)) (a13 : mR rs rm nu tr) (hf : mf h1 h' L) (hL : ∀ q ∈ L, q = 64 ∨ q = 65 ∨ (68 ≤ q ∧ q < 90)) (hk : mk h') (e : h'.2 64 = some (mo_o sc')) (hs : sc' 5 = sc 5 ∧ sc' 13 = sc 13 ∧ sc' 14 = sc 14) (e65 : h'.2 65 = some (az_I 3318 (fun j => nI (A' j)))) (hT : mT A' v' z') (hU : mU A' U') (hA : ∀ j, 1106 ≤ j → A' j = A j) : mm h' ((tp, bt), (fk, fp), v', z', U', im, tr) := by
  have n : ∀ q, (66 ≤ q ∧ q < 68) ∨ 90 ≤ q → q ∉ L := fun q h c => by have := hL q c; omega
  exact ⟨sc', A', tf, hI, rs, rm, nu, e, ⟨hs.1.trans a2.1, hs.2.1.trans a2.2.1, hs.2.2.trans a2.2.2⟩, e65, hT, hU, hf.at a6 (n _ (by omega)), a7.keep hA, hf.at a8 (n _ (by omega)), a9, hf.at a10 (n _ (by omega)), hf.at a11 (n _ (by omega)), hf.at a12 (n _ (by omega)), a13, hk⟩
theorem mV.keepN {A A' : Nat → Nat} {v : rd_V} (H : mV A v) (hw : ln_ok (rd_w v)) (h : ∀ j, (j < 114 ∨ 145 ≤ j) → A' j = A j) : mV A' v := by
  have h1 : mV (fun j => if 114 ≤ j ∧ j < 145 then A' j else A j) v := by
    obtain ⟨h0, h1, h2, h3, h4, h5, h6, h7⟩ := H
    have h12 : v.2.2.2.1 ≤ 12 := hw.2.2.2.2.1
    have hz : ∀ r, v.2.2.2.2.2.1 r ≤ 4 := hw.2.2.2.2.2.2.1
    have hL : ∀ l k, l < 2 → mL A l k → mL (fun j => if 114 ≤ j ∧ j < 145 then A' j else A j) l k := by
      intro l k hl H
      refine ⟨fun q => (if_neg (by omega)).trans (H.1 q), fun q => ?_⟩
      obtain ⟨g1, g2, g3, g4⟩ := H.2 q
      have e7 : (fun j => if 114 ≤ j ∧ j < 145 then A' j else A j) (107 + l) = A (107 + l) := if_neg (by omega)
      refine ⟨(if_neg (by omega)).trans g1, (if_neg (by omega)).trans g2, by rw [e7]; exact g3, fun i hi => ?_⟩
      rw [e7]
      exact (if_neg (by omega)).trans (g4 i hi)
    exact ⟨(if_neg (by omega)).trans h0, (if_neg (by omega)).trans h1, (if_neg (by omega)).trans h2, fun k hk => (if_neg (by omega)).trans (h3 k hk), fun r hr => (if_neg (by omega)).trans (h4 r hr), fun r i hr hi => (if_neg (by have := hz r; omega)).trans (h5 r i hr hi), hL 0 _ (by decide) h6, hL 1 _ (by decide) h7⟩
  have e : (fun j => if 114 ≤ j ∧ j < 145 then A' j else A j) = A' := by
    funext j
    by_cases q : 114 ≤ j ∧ j < 145
    · exact if_pos q
    · exact (if_neg q).trans (h j (by omega)).symm
  rw [e] at h1
  exact h1
theorem neg10 {c : Nat} (h : c ≤ 3) : ((-10 : Int32) - nI c).toInt64 = (-10 : Int64) - lN c := by
  have : c = 0 ∨ c = 1 ∨ c = 2 ∨ c = 3 := by omega
  rcases this with rfl | rfl | rfl | rfl <;> decide
set_option maxHeartbeats 4000000 in
set_option maxRecDepth 100000 in
theorem m_noTray {d : Nat} {sc : Nat → Value} {A : Nat → Nat} {v : rd_V} {hp : az_Hp} {Q : Option Value → az_Hp → Prop} {rs rm : Nat → Int32} {nu : Nat → Int64} {tr : Nat → Option (Nat × List Int64)} {x : Int32} (hd : 1 ≤ d) (h64 : hp.2 64 = some (mo_o sc)) (h90 : hp.2 90 = some (az_I 4 rs)) (hR : mR rs rm nu tr) (hQ2 : (∀ n, n < 4 → x ≠ nI n) → Q (some (.int (-2))) hp) (hQ6 : ∀ n, x = nI n → n < 4 → tr n = none → Q (some (.int (-6))) hp) (hQ0 : ∀ n y, x = nI n → n < 4 → tr n = some y → Q (some (.int (nI 0))) hp) : az_M mX12_noTray d 0 0 [.ref 64, .int x] hp Q := by
  refine az_M.of rfl (Nat.le_of_ble_eq_true rfl) ?_
  show az_W _ _ _ _ 0 [(0, .ref 64), (1, .int x)] [] _ _
  refine az_iload_n dX12_noTray_0 ?_
  refine az_i2l dX12_noTray_1 ?_
  refine az_lconst (v := lN 0) dX12_noTray_2 ?_
  refine az_ldc2 (v := lN 3) dX12_noTray_3 cn_X12_334 ?_
  refine az_cS0 (st := []) dX12_noTray_6 ml_X12_169 (m_withinI (d := d - 1) (lo := 0) (hi := 3) (by decide) (by decide) ?_ ?_)
  · intro n hx hn0 hn
    subst hx
    have h3 := hR n (by omega)
    refine az_if_neN (tgt := 17) dX12_noTray_9 (fun c9 => ?_) (fun c9 => ?_)
    · skip
      refine az_aload_n dX12_noTray_17 ?_
      refine az_getf (v := .ref 90) dX12_noTray_18 fl_X12_94 h64 ?_
      refine az_iload_n dX12_noTray_21 ?_
      refine az_ialdN (j := n) dX12_noTray_22 h90 ?_
      refine az_iconst (v := (-1)) dX12_noTray_23 ?_
      refine az_icmp_ne (tgt := 32) dX12_noTray_24 (fun c24 => ?_) (fun c24 => ?_)
      · refine az_iconst (v := nI 0) dX12_noTray_32 ?_
        exact az_iret dX12_noTray_33 (by first | exact hQ2 (fun n hn => hx n (Nat.zero_le _) (by omega)) | (rcases htr : tr n with _ | y <;> rw [htr] at h3 <;> first | exact hQ6 n rfl (by omega) htr | exact absurd (h3.1.symm.trans c24) (fun q => by have q1 := congrArg Int32.toInt q; rw [nI_toI (by have := h3.2.2.1; omega)] at q1; have q2 : (-1 : Int32).toInt = -1 := (by decide); omega) | exact absurd h3 c24) | (rcases htr : tr n with _ | y <;> rw [htr] at h3 <;> first | exact absurd h3 c24 | exact hQ0 n y rfl (by omega) htr))
      · refine az_bipush (v := (-6)) dX12_noTray_27 ?_
        refine az_goto (tgt := 33) dX12_noTray_29 ?_
        exact az_iret dX12_noTray_33 (by first | exact hQ2 (fun n hn => hx n (Nat.zero_le _) (by omega)) | (rcases htr : tr n with _ | y <;> rw [htr] at h3 <;> first | exact hQ6 n rfl (by omega) htr | exact absurd (h3.1.symm.trans c24) (fun q => by have q1 := congrArg Int32.toInt q; rw [nI_toI (by have := h3.2.2.1; omega)] at q1; have q2 : (-1 : Int32).toInt = -1 := (by decide); omega) | exact absurd h3 c24) | (rcases htr : tr n with _ | y <;> rw [htr] at h3 <;> first | exact absurd h3 c24 | exact hQ0 n y rfl (by omega) htr))
    · exact absurd c9 (by omega)
  · intro hx
    refine az_if_neN (tgt := 17) dX12_noTray_9 (fun c9 => ?_) (fun c9 => ?_)
    · exact absurd c9 (by omega)
    · refine az_bipush (v := (-2)) dX12_noTray_12 ?_
      refine az_goto (tgt := 33) dX12_noTray_14 ?_
      exact az_iret dX12_noTray_33 (by first | exact hQ2 (fun n hn => hx n (Nat.zero_le _) (by omega)) | (rcases htr : tr n with _ | y <;> rw [htr] at h3 <;> first | exact hQ6 n rfl (by omega) htr | exact absurd (h3.1.symm.trans c24) (fun q => by have q1 := congrArg Int32.toInt q; rw [nI_toI (by have := h3.2.2.1; omega)] at q1; have q2 : (-1 : Int32).toInt = -1 := (by decide); omega) | exact absurd h3 c24) | (rcases htr : tr n with _ | y <;> rw [htr] at h3 <;> first | exact absurd h3 c24 | exact hQ0 n y rfl (by omega) htr))
set_option maxHeartbeats 4000000 in
set_option maxRecDepth 100000 in
theorem q_night {d : Nat} {x : Int32} {tp fk mo ni : Nat} {bt : Nat → Nat} {fp : Int32} {v : rd_V} {bs : List Nat} {U : ln_U} {im : Nat → Option (rd_V × ln_Z)} {tr : Nat → Option (Nat × List Int64)} {hp : az_Hp} {Q : Option Value → az_Hp → Prop} (hd : 9 ≤ d) (hok : cs_ok ((tp, bt), (fk, fp), v, (mo, ni, bs), U, im, tr)) (hM : mm hp ((tp, bt), (fk, fp), v, (mo, ni, bs), U, im, tr)) (hQ1 : ¬ cs_in x 4 → ∀ h', mm h' ((tp, bt), (fk, fp), v, (mo, ni, bs), U, im, tr) → az_fr hp h' 64 93 → Q (some (.long (-11))) h') (hQN : cs_in x 4 → (dz (rd_w v) v.2.2.2.2.2.2.2.1 v.2.2.2.2.2.2.2.2 (mo, ni, bs) x.toInt64).1 ≠ 0 → ∀ h', mm h' ((tp, bt), (fk, fp), v, (mo, ni, bs), U, im, tr) → az_fr hp h' 64 93 → Q (some (.long ((-10) - lN (dz (rd_w v) v.2.2.2.2.2.2.2.1 v.2.2.2.2.2.2.2.2 (mo, ni, bs) x.toInt64).1))) h') (hQ : cs_in x 4 → (dz (rd_w v) v.2.2.2.2.2.2.2.1 v.2.2.2.2.2.2.2.2 (mo, ni, bs) x.toInt64).1 = 0 → ∀ h', mm h' ((tp, bt), (fk, fp), v, (dz (rd_w v) v.2.2.2.2.2.2.2.1 v.2.2.2.2.2.2.2.2 (mo, ni, bs) x.toInt64).2, ln_push U (bs.length, ni, mo), im, tr) → az_fr hp h' 64 93 → Q (some (.long (lN (ln_str (rd_w v) (dz (rd_w v) v.2.2.2.2.2.2.2.1 v.2.2.2.2.2.2.2.2 (mo, ni, bs) x.toInt64).2.2.2).length))) h') : az_M mX12_night d 0 0 [.ref 64, .int x] hp Q := by
  obtain ⟨sc0, A0, tf0, hI0, rs0, rm0, nu0, o1, o2, -⟩ := id hM
  have hgd : rd_good v := hok.2.2.1
  have hw : ln_ok (rd_w v) := hgd.1
  have hba : ln_ba (rd_w v) bs := hok.2.2.2.1
  have hb : ln_by (rd_w v) bs := hba.b
  have hlen := hb.2.2
  have h60 := hb.1
  have hU10 : U.length ≤ 10 := hok.2.2.2.2.1
  have ht1 := hw.1
  have ht3 := hw.2.1
  refine az_M.of rfl (Nat.le_of_ble_eq_true rfl) ?_
  show az_W _ _ _ _ 0 [(0, .ref 64), (1, .int x)] [] _ _
  refine az_aload_n dX12_night_0 ?_
  refine az_iconst (v := nI 0) dX12_night_1 ?_
  refine az_putf (fs' := [.int (nI 0), .ref 65, .ref 66, .ref 67, .ref 68, sc0 5, fI (sc0 6), sc0 7, sc0 8, fI (sc0 9), fI (sc0 10), sc0 11, fI (sc0 12), sc0 13, sc0 14, .ref 69, .ref 70, .ref 71, sc0 18, .ref 72, .ref 73, .ref 74, sc0 22, sc0 23, .ref 75, sc0 25, .ref 76, .ref 77, .ref 78, sc0 29, .ref 79, .ref 80, .ref 81, .ref 82, .ref 83, .ref 84, .ref 85, sc0 37, .ref 86, .ref 87, .ref 88, .ref 89, .ref 90, .ref 91, .ref 92]) dX12_night_2 fl_X12_1 o1 ?_
  obtain ⟨h1, hf1, hM1, hh1⟩ : ∃ h1, az_fr hp h1 64 93 ∧ mm h1 ((tp, bt), (fk, fp), v, (mo, ni, bs), U, im, tr) ∧ h1 = az_up hp 64 (mo_o (su sc0 0 (.int (nI 0)))) := ⟨_, az_fr.rf.up, hM.O (sc := su sc0 0 (.int (nI 0))) o2.1 o2.2.1 o2.2.2, rfl⟩
  rw [show (az_up hp 64 (az_O 11 [.int (nI 0), .ref 65, .ref 66, .ref 67, .ref 68, sc0 5, fI (sc0 6), sc0 7, sc0 8, fI (sc0 9), fI (sc0 10), sc0 11, fI (sc0 12), sc0 13, sc0 14, .ref 69, .ref 70, .ref 71, sc0 18, .ref 72, .ref 73, .ref 74, sc0 22, sc0 23, .ref 75, sc0 25, .ref 76, .ref 77, .ref 78, sc0 29, .ref 79, .ref 80, .ref 81, .ref 82, .ref 83, .ref 84, .ref 85, sc0 37, .ref 86, .ref 87, .ref 88, .ref 89, .ref 90, .ref 91, .ref 92])) = h1 from hh1.symm]
  obtain ⟨sc, A, tf, hI, rs, rm, nu, a1, a2, a3, a4, a5, a6, a7, a8, a9, a10, a11, a12, a13, a14⟩ := id hM1
  have a4 : mT A v (mo, ni, bs) := a4
  have a5 : mU A U := a5
  have a7 : mI A hI im := a7
  have a9 : ∀ j, j < tp → tf j = bt j := a9
  have a13 : mR rs rm nu tr := a13
  obtain ⟨f70, e70⟩ := a14.J (q := 70) (n := 366)
  obtain ⟨f74, e74⟩ := a14.I (q := 74) (n := 3)
  refine az_aload_n dX12_night_5 ?_
  refine az_iload_n dX12_night_6 ?_
  refine az_i2l dX12_night_7 ?_
  refine az_cV0 (st := []) dX12_night_8 ml_X12_318 a1 (m_whyNight (d := d - 1) (x := x.toInt64) (by omega) hgd hb a1 a3 a4 a14 ?_ ?_)
  · intro hno
    refine az_istore_n (ls' := [(0, .ref 64), (1, .int x), (2, .int (nI 1))]) dX12_night_11 ?_
    refine az_iload_n dX12_night_12 ?_
    refine az_if_eqN (tgt := 22) dX12_night_13 (fun c13 => ?_) (fun c13 => ?_)
    · exact absurd c13 (by omega)
    · refine az_bipush (v := (-10)) dX12_night_16 ?_
      refine az_iload_n dX12_night_18 ?_
      refine az_isub dX12_night_19 ?_
      refine az_i2l dX12_night_20 ?_
      exact az_lret dX12_night_21 (by first | (rw [neg10 (by omega)]; exact (Classical.em (cs_in x 4)).elim (fun hi => (by obtain ⟨e1, e2⟩ := cs_in_of hi; have hd1 : dz (rd_w v) v.2.2.2.2.2.2.2.1 v.2.2.2.2.2.2.2.2 (mo, ni, bs) x.toInt64 = (1, (mo, ni, bs)) := dz_out hw hno (fun n' q1 q2 q3 => (by rw [e1, nI_64 (by omega)] at q3; have q := congrArg Int64.toInt q3; rw [lN_toI (by omega), lN_toI (by omega)] at q; omega)); rw [hd1] at hQN; exact hQN hi (by show (1 : Nat) ≠ 0; decide) h1 hM1 hf1)) (fun hi => (by rw [show (-10 : Int64) - lN 1 = -11 by decide]; exact hQ1 hi h1 hM1 hf1))) | (rw [neg10 (by omega), hcw]; exact hQN hin (by rw [← hcw]; exact c13) h2 (hM1.of mf2 (by decide) mk2 b64 ((hs2 5 (by decide) (by decide)).trans a2.1) ((hs2 13 (by decide) (by decide)).trans a2.2.1) ((hs2 14 (by decide) (by decide)).trans a2.2.2)) (hf1.tr mf2.fr)))
  · intro n hx hn h2 sc2 b64 b22 hs2 mk2 mf2
    obtain ⟨g70, b70⟩ := mk2.J (q := 70) (n := 366)
    have hxn : x = nI n := (by obtain ⟨n', hn', hx'⟩ := I_64 (x := x) (by rw [hx, lN_ltN (by omega) (by omega)]; omega); rw [hx', nI_64 hn'] at hx; have q := congrArg Int64.toInt hx; rw [lN_toI (by omega), lN_toI (by omega)] at q; rw [hx', show n' = n by omega])
    have hin := (cs_in_n (n := n) (k := 4) (by omega) (by decide)).1
    rw [← hxn] at hin
    have hdz := dz_mpk hw (mo, ni, bs) hn
    have hco := dz_co (rd_w v) v.2.2.2.2.2.2.2.1 v.2.2.2.2.2.2.2.2 (mo, ni, bs) (lN n)
    rw [hx] at hQN hQ
    have hcw : wcode (rd_w v) (mo, ni, bs) (mpk v (mo, ni, bs) n) = (dz (rd_w v) v.2.2.2.2.2.2.2.1 v.2.2.2.2.2.2.2.2 (mo, ni, bs) (lN n)).1 := (by rw [hdz])
    have hby2 := dz_by (pk := v.2.2.2.2.2.2.2.1) (sl := v.2.2.2.2.2.2.2.2) (z := (mo, ni, bs)) (v := lN n) hw hb
    refine az_istore_n (ls' := [(0, .ref 64), (1, .int x), (2, .int (nI (wcode (rd_w v) (mo, ni, bs) (mpk v (mo, ni, bs) n))))]) dX12_night_11 ?_
    refine az_iload_n dX12_night_12 ?_
    refine az_if_eqN (tgt := 22) dX12_night_13 (fun c13 => ?_) (fun c13 => ?_)
    · refine az_aload_n dX12_night_22 ?_
      refine az_cV0 (st := []) dX12_night_23 ml_X12_321 b64 (m_stores (d := d - 1) b64 (mf2.at a3) (mf2.at e74) ?_)
      intro wn hwn
      have hz0 : (dz (rd_w v) v.2.2.2.2.2.2.2.1 v.2.2.2.2.2.2.2.2 (mo, ni, bs) (lN n)).1 = 0 := (by rw [← hcw]; exact c13)
      refine az_aload_n dX12_night_26 ?_
      refine az_cV0 (st := []) dX12_night_27 ml_X12_324 (az_up_ne b64) (m_goesNight (d := d - 1) (p := mpk v (mo, ni, bs) n) hw hb (az_up_ne b64) b22 (az_up_ne (mf2.at a3)) a4 (fun tb h => (by have := mpk_lt hw hn h; omega)) (fun tb h => wnext_60 hw hn hz0 h) ?_)
      intro A' k1 k2
      rw [wnext_dz hw hn hz0] at k1
      refine az_aload_n dX12_night_30 ?_
      refine az_cV0 (st := []) dX12_night_31 ml_X12_327 (az_up_ne (az_up_ne b64)) (m_notes (d := d - 1) (U := U) (wn := wn) (az_up_ne (az_up_ne b64)) az_up_eq (az_up_ne az_up_eq) (a5.keep hU10 k2) hU10 ?_)
      intro A2 k3 k4
      rw [show (wn 2, wn 1, wn 0) = (bs.length, ni, mo) from (by rw [hwn 2 (by decide), hwn 1 (by decide), hwn 0 (by decide)]; exact Prod.ext a4.2.2.2.1 (Prod.ext a4.2.2.1 a4.2.1))] at k4
      have k5 : mT A2 v (dz (rd_w v) v.2.2.2.2.2.2.2.1 v.2.2.2.2.2.2.2.2 (mo, ni, bs) (lN n)).2 := ⟨mV.keepN k1.1 hw k3, (k3 _ (by omega)).trans k1.2.1, (k3 _ (by omega)).trans k1.2.2.1, (k3 _ (by omega)).trans k1.2.2.2.1, fun k hk => (k3 _ (by omega)).trans (k1.2.2.2.2 k hk)⟩
      refine az_aload_n dX12_night_34 ?_
      refine az_cV0 (st := []) dX12_night_35 ml_X12_278 (az_up_ne (az_up_ne (az_up_ne b64))) (m_lengthNow (d := d - 1) (bs := (dz (rd_w v) v.2.2.2.2.2.2.2.1 v.2.2.2.2.2.2.2.2 (mo, ni, bs) (lN n)).2.2.2) (mo := (dz (rd_w v) v.2.2.2.2.2.2.2.1 v.2.2.2.2.2.2.2.2 (mo, ni, bs) (lN n)).2.1) (ni := (dz (rd_w v) v.2.2.2.2.2.2.2.1 v.2.2.2.2.2.2.2.2 (mo, ni, bs) (lN n)).2.2.1) (by omega) hw hby2 (az_up_ne (az_up_ne (az_up_ne b64))) az_up_eq k5 (az_up_ne (az_up_ne (az_up_ne b70))) ?_)
      intro g9 hm
      exact az_lret dX12_night_38 (hQ hin hz0 _ (mm.go a2 a6 a7 a8 a9 a10 a11 a12 a13 (L := [64, 65, 70, 72, 73, 74]) (by repeat (first | exact mf2.wk | refine mf.up ?_ (by decide))) (by decide) (by repeat (first | exact mk2 | refine mk.uA ?_ | refine mk.uJ ?_ rfl | refine mk.uI ?_ rfl | refine mk.uO ?_)) (az_up_ne (az_up_ne (az_up_ne (az_up_ne b64)))) ⟨hs2 5 (by decide) (by decide), hs2 13 (by decide) (by decide), hs2 14 (by decide) (by decide)⟩ (az_up_ne az_up_eq) k5 k4 (fun j hj => (k3 j (by omega)).trans (k2 j (by omega)))) (hf1.tr (mf.fr (L := [64, 65, 70, 72, 73, 74]) (by repeat (first | exact mf2.wk | refine mf.up ?_ (by decide))))))
    · refine az_bipush (v := (-10)) dX12_night_16 ?_
      refine az_iload_n dX12_night_18 ?_
      refine az_isub dX12_night_19 ?_
      refine az_i2l dX12_night_20 ?_
      exact az_lret dX12_night_21 (by first | (rw [neg10 (by omega)]; exact (Classical.em (cs_in x 4)).elim (fun hi => (by obtain ⟨e1, e2⟩ := cs_in_of hi; have hd1 : dz (rd_w v) v.2.2.2.2.2.2.2.1 v.2.2.2.2.2.2.2.2 (mo, ni, bs) x.toInt64 = (1, (mo, ni, bs)) := dz_out hw hno (fun n' q1 q2 q3 => (by rw [e1, nI_64 (by omega)] at q3; have q := congrArg Int64.toInt q3; rw [lN_toI (by omega), lN_toI (by omega)] at q; omega)); rw [hd1] at hQN; exact hQN hi (by show (1 : Nat) ≠ 0; decide) h1 hM1 hf1)) (fun hi => (by rw [show (-10 : Int64) - lN 1 = -11 by decide]; exact hQ1 hi h1 hM1 hf1))) | (rw [neg10 (by omega), hcw]; exact hQN hin (by rw [← hcw]; exact c13) h2 (hM1.of mf2 (by decide) mk2 b64 ((hs2 5 (by decide) (by decide)).trans a2.1) ((hs2 13 (by decide) (by decide)).trans a2.2.1) ((hs2 14 (by decide) (by decide)).trans a2.2.2)) (hf1.tr mf2.fr)))

