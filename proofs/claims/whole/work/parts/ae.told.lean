/-! The model: told deeds done and judged -/
theorem dl_le (w : ln_W) (pk sl : List Nat) : ∀ (l : List Int64) (z : ln_Z), (dl w pk sl l z).1 ≤ l.length ∧ (dl w pk sl l z).2.1 ≤ 3 := by
  intro l
  induction l with
  | nil => intro z; exact ⟨Nat.le_refl _, Nat.zero_le _⟩
  | cons x l ih =>
    intro z
    rw [dl]
    split
    · have := ih (dz w pk sl z x).2
      exact ⟨by rw [List.length_cons]; dsimp only; omega, this.2⟩
    · exact ⟨Nat.zero_le _, dz_co _ _ _ _ _⟩
theorem dl_by {w : ln_W} {pk sl : List Nat} (hw : ln_ok w) : ∀ (l : List Int64) (z : ln_Z), ln_by w z.2.2 → ln_by w (dl w pk sl l z).2.2.2.2 := by
  intro l
  induction l with
  | nil => intro z h; exact h
  | cons x l ih =>
    intro z h
    rw [dl]
    split
    · exact ih _ (dz_by hw h)
    · exact h
set_option maxHeartbeats 4000000 in
set_option maxRecDepth 100000 in
theorem q_perform {d : Nat} {x : Int32} {tp fk mo ni : Nat} {bt : Nat → Nat} {fp : Int32} {v : rd_V} {bs : List Nat} {U : ln_U} {im : Nat → Option (rd_V × ln_Z)} {tr : Nat → Option (Nat × List Int64)} {hp : az_Hp} {Q : Option Value → az_Hp → Prop} (hd : 9 ≤ d) (hok : cs_ok ((tp, bt), (fk, fp), v, (mo, ni, bs), U, im, tr)) (hM : mm hp ((tp, bt), (fk, fp), v, (mo, ni, bs), U, im, tr)) (hQ2 : (∀ n, n < 4 → x ≠ nI n) → ∀ h', mm h' ((tp, bt), (fk, fp), v, (mo, ni, bs), U, im, tr) → az_fr hp h' 64 93 → Q (some (.int (-2))) h') (hQ6 : ∀ n, x = nI n → n < 4 → tr n = none → ∀ h', mm h' ((tp, bt), (fk, fp), v, (mo, ni, bs), U, im, tr) → az_fr hp h' 64 93 → Q (some (.int (-6))) h') (hQ : ∀ n y, x = nI n → n < 4 → tr n = some y → ∀ h', mm h' ((tp, bt), (fk, fp), v, (dl (rd_w v) v.2.2.2.2.2.2.2.1 v.2.2.2.2.2.2.2.2 y.2 (mo, ni, bs)).2.2, cs_push U (dl (rd_w v) v.2.2.2.2.2.2.2.1 v.2.2.2.2.2.2.2.2 y.2 (mo, ni, bs)).1 (bs.length, ni, mo), im, tr) → az_fr hp h' 64 93 → Q (some (.int (nI (dl (rd_w v) v.2.2.2.2.2.2.2.1 v.2.2.2.2.2.2.2.2 y.2 (mo, ni, bs)).1))) h') : az_M mX12_perform d 0 0 [.ref 64, .int x] hp Q := by
  obtain ⟨sc0, A0, tf0, hI0, rs0, rm0, nu0, o1, o2, -⟩ := id hM
  have hgd : rd_good v := hok.2.2.1
  have hw : ln_ok (rd_w v) := hgd.1
  have hba : ln_ba (rd_w v) bs := hok.2.2.2.1
  have hb : ln_by (rd_w v) bs := hba.b
  have hlen := hb.2.2
  have h60 := hb.1
  have hU10 : U.length ≤ 10 := hok.2.2.2.2.1
  have ht1 := hw.1
  have ht3 := hw.2.1
  refine az_M.of rfl (Nat.le_of_ble_eq_true rfl) ?_
  show az_W _ _ _ _ 0 [(0, .ref 64), (1, .int x)] [] _ _
  refine az_aload_n dX12_perform_0 ?_
  refine az_iconst (v := nI 0) dX12_perform_1 ?_
  refine az_putf (fs' := [.int (nI 0), .ref 65, .ref 66, .ref 67, .ref 68, sc0 5, fI (sc0 6), sc0 7, sc0 8, fI (sc0 9), fI (sc0 10), sc0 11, fI (sc0 12), sc0 13, sc0 14, .ref 69, .ref 70, .ref 71, sc0 18, .ref 72, .ref 73, .ref 74, sc0 22, sc0 23, .ref 75, sc0 25, .ref 76, .ref 77, .ref 78, sc0 29, .ref 79, .ref 80, .ref 81, .ref 82, .ref 83, .ref 84, .ref 85, sc0 37, .ref 86, .ref 87, .ref 88, .ref 89, .ref 90, .ref 91, .ref 92]) dX12_perform_2 fl_X12_1 o1 ?_
  obtain ⟨h1, hf1, hM1, hh1⟩ : ∃ h1, az_fr hp h1 64 93 ∧ mm h1 ((tp, bt), (fk, fp), v, (mo, ni, bs), U, im, tr) ∧ h1 = az_up hp 64 (mo_o (su sc0 0 (.int (nI 0)))) := ⟨_, az_fr.rf.up, hM.O (sc := su sc0 0 (.int (nI 0))) o2.1 o2.2.1 o2.2.2, rfl⟩
  rw [show (az_up hp 64 (az_O 11 [.int (nI 0), .ref 65, .ref 66, .ref 67, .ref 68, sc0 5, fI (sc0 6), sc0 7, sc0 8, fI (sc0 9), fI (sc0 10), sc0 11, fI (sc0 12), sc0 13, sc0 14, .ref 69, .ref 70, .ref 71, sc0 18, .ref 72, .ref 73, .ref 74, sc0 22, sc0 23, .ref 75, sc0 25, .ref 76, .ref 77, .ref 78, sc0 29, .ref 79, .ref 80, .ref 81, .ref 82, .ref 83, .ref 84, .ref 85, sc0 37, .ref 86, .ref 87, .ref 88, .ref 89, .ref 90, .ref 91, .ref 92])) = h1 from hh1.symm]
  obtain ⟨sc, A, tf, hI, rs, rm, nu, a1, a2, a3, a4, a5, a6, a7, a8, a9, a10, a11, a12, a13, a14⟩ := id hM1
  have a4 : mT A v (mo, ni, bs) := a4
  have a5 : mU A U := a5
  have a7 : mI A hI im := a7
  have a9 : ∀ j, j < tp → tf j = bt j := a9
  have a13 : mR rs rm nu tr := a13
  obtain ⟨f74, e74⟩ := a14.I (q := 74) (n := 3)
  refine az_aload_n dX12_perform_5 ?_
  refine az_iload_n dX12_perform_6 ?_
  refine az_cV0 (st := []) dX12_perform_7 ml_X12_347 a1 (m_noTray (v := v) (A := A) (d := d - 1) (by omega) a1 a10 a13 ?_ ?_ ?_)
  · intro hno
    refine az_istore_n (ls' := [(0, .ref 64), (1, .int x), (2, .int ((-2)))]) dX12_perform_10 ?_
    refine az_iload_n dX12_perform_11 ?_
    refine az_if_eq (tgt := 17) dX12_perform_12 (fun c12 => ?_) (fun c12 => ?_)
    · exact absurd c12 (by decide)
    · refine az_iload_n dX12_perform_15 ?_
      exact az_iret dX12_perform_16 (by first | exact hQ2 hno h1 hM1 hf1 | exact hQ6 n hx hn hno h1 hM1 hf1)
  · intro n hx hn hno
    refine az_istore_n (ls' := [(0, .ref 64), (1, .int x), (2, .int ((-6)))]) dX12_perform_10 ?_
    refine az_iload_n dX12_perform_11 ?_
    refine az_if_eq (tgt := 17) dX12_perform_12 (fun c12 => ?_) (fun c12 => ?_)
    · exact absurd c12 (by decide)
    · refine az_iload_n dX12_perform_15 ?_
      exact az_iret dX12_perform_16 (by first | exact hQ2 hno h1 hM1 hf1 | exact hQ6 n hx hn hno h1 hM1 hf1)
  · intro n y hx hn hy
    have h3 := a13 n hn
    rw [hy] at h3
    obtain ⟨r1, r2, r3, r4, r5⟩ := h3
    have hDl := dl_le (rd_w v) v.2.2.2.2.2.2.2.1 v.2.2.2.2.2.2.2.2 y.2 (mo, ni, bs)
    refine az_istore_n (ls' := [(0, .ref 64), (1, .int x), (2, .int (nI 0))]) dX12_perform_10 ?_
    refine az_iload_n dX12_perform_11 ?_
    refine az_if_eqN (tgt := 17) dX12_perform_12 (fun c12 => ?_) (fun c12 => ?_)
    · subst hx
      refine az_aload_n dX12_perform_17 ?_
      refine az_cV0 (st := []) dX12_perform_18 ml_X12_321 a1 (m_stores (d := d - 1) a1 a3 e74 ?_)
      intro wn hwn
      have hw3 : (wn 2, wn 1, wn 0) = (bs.length, ni, mo) := (by rw [hwn 2 (by decide), hwn 1 (by decide), hwn 0 (by decide)]; exact Prod.ext a4.2.2.2.1 (Prod.ext a4.2.2.1 a4.2.1))
      refine az_aload_n dX12_perform_21 ?_
      refine az_iload_n dX12_perform_22 ?_
      refine az_cV0 (st := []) dX12_perform_23 ml_X12_353 (az_up_ne a1) (m_tells (d := d - 1) (n := n) (y := y) (by omega) hgd hb hn r4 (az_up_ne a11) r2 (az_up_ne a12) r5 (az_up_ne a1) (az_up_ne a3) a4 (mk.uI a14 rfl) ?_)
      intro h2 sc2 A2 b64 b23 hs2 b65 hT2 hA2 mk2 mf2
      refine az_istore_n (ls' := [(0, .ref 64), (1, .int (nI n)), (2, .int (nI 0)), (3, .int (nI ((dl (rd_w v) v.2.2.2.2.2.2.2.1 v.2.2.2.2.2.2.2.2 y.2 (mo, ni, bs)).1)))]) dX12_perform_26 ?_
      refine az_iload_n dX12_perform_27 ?_
      refine az_if_leN (tgt := 35) dX12_perform_28 (fun c28 => ?_) (fun c28 => ?_)
      · refine az_iload_n dX12_perform_35 ?_
        exact az_iret dX12_perform_36 (by first | (have hq := hQ n y rfl hn hy; rw [push_1 (by omega)] at hq; exact hq _ (mm.go a2 a6 a7 a8 a9 a10 a11 a12 a13 (L := [64, 65, 70, 72, 73, 74]) ((mf.tr (mf.up mf.rf (by decide)) (mf2.wk (L' := [64, 65, 70, 72, 73, 74])) (by decide)).up (by decide)) (by decide) (mk.uA mk2) b64 ⟨hs2 5 (by decide) (by decide) (by decide), hs2 13 (by decide) (by decide) (by decide), hs2 14 (by decide) (by decide) (by decide)⟩ b65 (hT2.keepN hw k3) k4 (fun j hj => (k3 j (by omega)).trans (hA2 j (by omega)))) (hf1.tr (mf.fr (L := [64, 65, 70, 72, 73, 74]) ((mf.tr (mf.up mf.rf (by decide)) (mf2.wk (L' := [64, 65, 70, 72, 73, 74])) (by decide)).up (by decide))))) | (have hq := hQ n y rfl hn hy; rw [push_0 (by omega)] at hq; exact hq _ (mm.go a2 a6 a7 a8 a9 a10 a11 a12 a13 (L := [64, 65, 70, 72, 73, 74]) (mf.tr (mf.up mf.rf (by decide)) (mf2.wk (L' := [64, 65, 70, 72, 73, 74])) (by decide)) (by decide) mk2 b64 ⟨hs2 5 (by decide) (by decide) (by decide), hs2 13 (by decide) (by decide) (by decide), hs2 14 (by decide) (by decide) (by decide)⟩ b65 hT2 (a5.keep hU10 hA2) (fun j hj => hA2 j (by omega))) (hf1.tr (mf.fr (L := [64, 65, 70, 72, 73, 74]) (mf.tr (mf.up mf.rf (by decide)) (mf2.wk (L' := [64, 65, 70, 72, 73, 74])) (by decide))))))
      · refine az_aload_n dX12_perform_31 ?_
        refine az_cV0 (st := []) dX12_perform_32 ml_X12_327 b64 (m_notes (d := d - 1) (U := U) (wn := wn) b64 b65 (mf2.at az_up_eq) (a5.keep hU10 hA2) hU10 ?_)
        intro A3 k3 k4
        rw [hw3] at k4
        refine az_iload_n dX12_perform_35 ?_
        exact az_iret dX12_perform_36 (by first | (have hq := hQ n y rfl hn hy; rw [push_1 (by omega)] at hq; exact hq _ (mm.go a2 a6 a7 a8 a9 a10 a11 a12 a13 (L := [64, 65, 70, 72, 73, 74]) ((mf.tr (mf.up mf.rf (by decide)) (mf2.wk (L' := [64, 65, 70, 72, 73, 74])) (by decide)).up (by decide)) (by decide) (mk.uA mk2) (az_up_ne b64) ⟨hs2 5 (by decide) (by decide) (by decide), hs2 13 (by decide) (by decide) (by decide), hs2 14 (by decide) (by decide) (by decide)⟩ az_up_eq (hT2.keepN hw k3) k4 (fun j hj => (k3 j (by omega)).trans (hA2 j (by omega)))) (hf1.tr (mf.fr (L := [64, 65, 70, 72, 73, 74]) ((mf.tr (mf.up mf.rf (by decide)) (mf2.wk (L' := [64, 65, 70, 72, 73, 74])) (by decide)).up (by decide))))) | (have hq := hQ n y rfl hn hy; rw [push_0 (by omega)] at hq; exact hq _ (mm.go a2 a6 a7 a8 a9 a10 a11 a12 a13 (L := [64, 65, 70, 72, 73, 74]) (mf.tr (mf.up mf.rf (by decide)) (mf2.wk (L' := [64, 65, 70, 72, 73, 74])) (by decide)) (by decide) mk2 b64 ⟨hs2 5 (by decide) (by decide) (by decide), hs2 13 (by decide) (by decide) (by decide), hs2 14 (by decide) (by decide) (by decide)⟩ b65 hT2 (a5.keep hU10 hA2) (fun j hj => hA2 j (by omega))) (hf1.tr (mf.fr (L := [64, 65, 70, 72, 73, 74]) (mf.tr (mf.up mf.rf (by decide)) (mf2.wk (L' := [64, 65, 70, 72, 73, 74])) (by decide))))))
    · exact absurd c12 (by omega)
set_option maxHeartbeats 4000000 in
set_option maxRecDepth 100000 in
theorem q_judge {d : Nat} {x xw : Int32} {tp fk mo ni : Nat} {bt : Nat → Nat} {fp : Int32} {v : rd_V} {bs : List Nat} {U : ln_U} {im : Nat → Option (rd_V × ln_Z)} {tr : Nat → Option (Nat × List Int64)} {hp : az_Hp} {Q : Option Value → az_Hp → Prop} (hd : 9 ≤ d) (hok : cs_ok ((tp, bt), (fk, fp), v, (mo, ni, bs), U, im, tr)) (hM : mm hp ((tp, bt), (fk, fp), v, (mo, ni, bs), U, im, tr)) (hQ2 : ¬ (cs_in x 4 ∧ cs_in xw 4) → ∀ h', mm h' ((tp, bt), (fk, fp), v, (mo, ni, bs), U, im, tr) → az_fr hp h' 64 93 → Q (some (.int (-2))) h') (hQ6 : ∀ n, x = nI n → n < 4 → cs_in xw 4 → tr n = none → ∀ h', mm h' ((tp, bt), (fk, fp), v, (mo, ni, bs), U, im, tr) → az_fr hp h' 64 93 → Q (some (.int (-6))) h') (hQ : ∀ n y kw, x = nI n → n < 4 → tr n = some y → xw = nI kw → kw < 4 → ∀ h', mm h' ((tp, bt), (fk, fp), v, (mo, ni, bs), U, im, tr) → az_fr hp h' 64 93 → Q (some (.int (cs_judge (rd_w v) (dl (rd_w v) v.2.2.2.2.2.2.2.1 v.2.2.2.2.2.2.2.2 y.2 (mo, ni, bs)) kw))) h') : az_M mX12_judge d 0 0 [.ref 64, .int x, .int xw] hp Q := by
  obtain ⟨sc0, A0, tf0, hI0, rs0, rm0, nu0, o1, o2, -⟩ := id hM
  have hgd : rd_good v := hok.2.2.1
  have hw : ln_ok (rd_w v) := hgd.1
  have hba : ln_ba (rd_w v) bs := hok.2.2.2.1
  have hb : ln_by (rd_w v) bs := hba.b
  have hlen := hb.2.2
  have h60 := hb.1
  have hU10 : U.length ≤ 10 := hok.2.2.2.2.1
  have ht1 := hw.1
  have ht3 := hw.2.1
  refine az_M.of rfl (Nat.le_of_ble_eq_true rfl) ?_
  show az_W _ _ _ _ 0 [(0, .ref 64), (1, .int x), (2, .int xw)] [] _ _
  refine az_aload_n dX12_judge_0 ?_
  refine az_iconst (v := nI 0) dX12_judge_1 ?_
  refine az_putf (fs' := [.int (nI 0), .ref 65, .ref 66, .ref 67, .ref 68, sc0 5, fI (sc0 6), sc0 7, sc0 8, fI (sc0 9), fI (sc0 10), sc0 11, fI (sc0 12), sc0 13, sc0 14, .ref 69, .ref 70, .ref 71, sc0 18, .ref 72, .ref 73, .ref 74, sc0 22, sc0 23, .ref 75, sc0 25, .ref 76, .ref 77, .ref 78, sc0 29, .ref 79, .ref 80, .ref 81, .ref 82, .ref 83, .ref 84, .ref 85, sc0 37, .ref 86, .ref 87, .ref 88, .ref 89, .ref 90, .ref 91, .ref 92]) dX12_judge_2 fl_X12_1 o1 ?_
  obtain ⟨h1, hf1, hM1, hh1⟩ : ∃ h1, az_fr hp h1 64 93 ∧ mm h1 ((tp, bt), (fk, fp), v, (mo, ni, bs), U, im, tr) ∧ h1 = az_up hp 64 (mo_o (su sc0 0 (.int (nI 0)))) := ⟨_, az_fr.rf.up, hM.O (sc := su sc0 0 (.int (nI 0))) o2.1 o2.2.1 o2.2.2, rfl⟩
  rw [show (az_up hp 64 (az_O 11 [.int (nI 0), .ref 65, .ref 66, .ref 67, .ref 68, sc0 5, fI (sc0 6), sc0 7, sc0 8, fI (sc0 9), fI (sc0 10), sc0 11, fI (sc0 12), sc0 13, sc0 14, .ref 69, .ref 70, .ref 71, sc0 18, .ref 72, .ref 73, .ref 74, sc0 22, sc0 23, .ref 75, sc0 25, .ref 76, .ref 77, .ref 78, sc0 29, .ref 79, .ref 80, .ref 81, .ref 82, .ref 83, .ref 84, .ref 85, sc0 37, .ref 86, .ref 87, .ref 88, .ref 89, .ref 90, .ref 91, .ref 92])) = h1 from hh1.symm]
  obtain ⟨sc, A, tf, hI, rs, rm, nu, a1, a2, a3, a4, a5, a6, a7, a8, a9, a10, a11, a12, a13, a14⟩ := id hM1
  have a4 : mT A v (mo, ni, bs) := a4
  have a5 : mU A U := a5
  have a7 : mI A hI im := a7
  have a9 : ∀ j, j < tp → tf j = bt j := a9
  have a13 : mR rs rm nu tr := a13
  obtain ⟨f71, e71⟩ := a14.J (q := 71) (n := 366)
  obtain ⟨f74, e74⟩ := a14.I (q := 74) (n := 3)
  obtain ⟨f75, e75⟩ := a14.I (q := 75) (n := 60)
  refine az_iload_n dX12_judge_5 ?_
  refine az_i2l dX12_judge_6 ?_
  refine az_lconst (v := lN 0) dX12_judge_7 ?_
  refine az_ldc2 (v := lN 3) dX12_judge_8 cn_X12_334 ?_
  refine az_cS0 (st := []) dX12_judge_11 ml_X12_169 (m_withinI (d := d - 1) (lo := 0) (hi := 3) (by decide) (by decide) ?_ ?_)
  · intro kw hxw hw0 hkw3
    subst hxw
    have hkw : kw < 4 := (by omega)
    have hink := (cs_in_n hkw (by decide)).1
    refine az_if_neN (tgt := 20) dX12_judge_14 (fun c14 => ?_) (fun c14 => ?_)
    · skip
      refine az_aload_n dX12_judge_20 ?_
      refine az_iload_n dX12_judge_21 ?_
      refine az_cV0 (st := []) dX12_judge_22 ml_X12_347 a1 (m_noTray (v := v) (A := A) (d := d - 1) (by omega) a1 a10 a13 ?_ ?_ ?_)
      · intro hno
        refine az_istore_n (ls' := [(0, .ref 64), (1, .int x), (2, .int (nI kw)), (3, .int ((-2)))]) dX12_judge_25 ?_
        refine az_iload_n dX12_judge_26 ?_
        refine az_if_eq (tgt := 32) dX12_judge_27 (fun c27 => ?_) (fun c27 => ?_)
        · exact absurd c27 (by decide)
        · refine az_iload_n dX12_judge_30 ?_
          exact az_iret dX12_judge_31 (by first | exact hQ2 (fun q => cs_in_no hno q.1) h1 hM1 hf1 | exact hQ6 n hx hn hink hno h1 hM1 hf1)
      · intro n hx hn hno
        refine az_istore_n (ls' := [(0, .ref 64), (1, .int x), (2, .int (nI kw)), (3, .int ((-6)))]) dX12_judge_25 ?_
        refine az_iload_n dX12_judge_26 ?_
        refine az_if_eq (tgt := 32) dX12_judge_27 (fun c27 => ?_) (fun c27 => ?_)
        · exact absurd c27 (by decide)
        · refine az_iload_n dX12_judge_30 ?_
          exact az_iret dX12_judge_31 (by first | exact hQ2 (fun q => cs_in_no hno q.1) h1 hM1 hf1 | exact hQ6 n hx hn hink hno h1 hM1 hf1)
      · intro n y hx hn hy
        have h3 := a13 n hn
        rw [hy] at h3
        obtain ⟨r1, r2, r3, r4, r5⟩ := h3
        have hDl := dl_le (rd_w v) v.2.2.2.2.2.2.2.1 v.2.2.2.2.2.2.2.2 y.2 (mo, ni, bs)
        have hby2 := dl_by (pk := v.2.2.2.2.2.2.2.1) (sl := v.2.2.2.2.2.2.2.2) hw y.2 (mo, ni, bs) hb
        refine az_istore_n (ls' := [(0, .ref 64), (1, .int x), (2, .int (nI kw)), (3, .int (nI 0))]) dX12_judge_25 ?_
        refine az_iload_n dX12_judge_26 ?_
        refine az_if_eqN (tgt := 32) dX12_judge_27 (fun c27 => ?_) (fun c27 => ?_)
        · subst hx
          refine az_aload_n dX12_judge_32 ?_
          refine az_cV0 (st := []) dX12_judge_33 ml_X12_321 a1 (m_stores (d := d - 1) a1 a3 e74 ?_)
          intro wn hwn
          refine az_aload_n dX12_judge_36 ?_
          refine az_cV0 (st := []) dX12_judge_37 ml_X12_350 (az_up_ne a1) (m_storesBy (d := d - 1) (az_up_ne a1) (az_up_ne a3) (az_up_ne e75) ?_)
          intro wb hwb
          refine az_aload_n dX12_judge_40 ?_
          refine az_iload_n dX12_judge_41 ?_
          refine az_cV0 (st := []) dX12_judge_42 ml_X12_353 (az_up_ne (az_up_ne a1)) (m_tells (d := d - 1) (n := n) (y := y) (by omega) hgd hb hn r4 (az_up_ne (az_up_ne a11)) r2 (az_up_ne (az_up_ne a12)) r5 (az_up_ne (az_up_ne a1)) (az_up_ne (az_up_ne a3)) a4 (mk.uI (mk.uI a14 rfl) rfl) ?_)
          intro h2 sc2 A2 b64 b23 hs2 b65 hT2 hA2 mk2 mf2
          obtain ⟨g70, b70⟩ := mk2.J (q := 70) (n := 366)
          have hlen2 := hby2.2.2
          refine az_istore (ls' := [(0, .ref 64), (1, .int (nI n)), (2, .int (nI kw)), (3, .int (nI 0)), (4, .int (nI ((dl (rd_w v) v.2.2.2.2.2.2.2.1 v.2.2.2.2.2.2.2.2 y.2 (mo, ni, bs)).1)))]) dX12_judge_45 ?_
          refine az_aload_n dX12_judge_47 ?_
          refine az_cV0 (st := []) dX12_judge_48 ml_X12_278 b64 (m_lengthNow (d := d - 1) (bs := (dl (rd_w v) v.2.2.2.2.2.2.2.1 v.2.2.2.2.2.2.2.2 y.2 (mo, ni, bs)).2.2.2.2) (mo := (dl (rd_w v) v.2.2.2.2.2.2.2.1 v.2.2.2.2.2.2.2.2 y.2 (mo, ni, bs)).2.2.1) (ni := (dl (rd_w v) v.2.2.2.2.2.2.2.1 v.2.2.2.2.2.2.2.2 y.2 (mo, ni, bs)).2.2.2.1) (by omega) hw hby2 b64 b65 hT2 b70 ?_)
          intro g9 hm
          refine az_ldc2 (v := lN 1000000) dX12_judge_51 cn_X12_271 ?_
          refine az_lrem dX12_judge_54 (by decide) ?_
          rw [lN_mod (by omega) (by omega)]
          refine az_l2iN dX12_judge_55 ?_
          refine az_istore (ls' := [(0, .ref 64), (1, .int (nI n)), (2, .int (nI kw)), (3, .int (nI 0)), (4, .int (nI ((dl (rd_w v) v.2.2.2.2.2.2.2.1 v.2.2.2.2.2.2.2.2 y.2 (mo, ni, bs)).1))), (5, .int (nI ((ln_str (rd_w v) (dl (rd_w v) v.2.2.2.2.2.2.2.1 v.2.2.2.2.2.2.2.2 y.2 (mo, ni, bs)).2.2.2.2).length % 1000000)))]) dX12_judge_56 ?_
          refine az_aload_n dX12_judge_58 ?_
          refine az_lconst (v := lN 0) dX12_judge_59 ?_
          refine az_cV0 (st := []) dX12_judge_60 ml_X12_282 (az_up_ne b64) (m_letterOf (d := d - 1) (p := 0) (bs := (dl (rd_w v) v.2.2.2.2.2.2.2.1 v.2.2.2.2.2.2.2.2 y.2 (mo, ni, bs)).2.2.2.2) (mo := (dl (rd_w v) v.2.2.2.2.2.2.2.1 v.2.2.2.2.2.2.2.2 y.2 (mo, ni, bs)).2.2.1) (ni := (dl (rd_w v) v.2.2.2.2.2.2.2.1 v.2.2.2.2.2.2.2.2 y.2 (mo, ni, bs)).2.2.2.1) (by omega) hw hby2 (az_up_ne b64) (az_up_ne b65) hT2 az_up_eq (az_up_ne (mf2.at (az_up_ne (az_up_ne e71)))) hm (by decide) ?_)
          intro q0
          rw [str_0]
          refine az_istore (ls' := [(0, .ref 64), (1, .int (nI n)), (2, .int (nI kw)), (3, .int (nI 0)), (4, .int (nI ((dl (rd_w v) v.2.2.2.2.2.2.2.1 v.2.2.2.2.2.2.2.2 y.2 (mo, ni, bs)).1))), (5, .int (nI ((ln_str (rd_w v) (dl (rd_w v) v.2.2.2.2.2.2.2.1 v.2.2.2.2.2.2.2.2 y.2 (mo, ni, bs)).2.2.2.2).length % 1000000))), (6, .int (nI ((ln_str (rd_w v) (dl (rd_w v) v.2.2.2.2.2.2.2.1 v.2.2.2.2.2.2.2.2 y.2 (mo, ni, bs)).2.2.2.2).head?.getD 6)))]) dX12_judge_63 ?_
          refine az_aload_n dX12_judge_65 ?_
          refine az_cV0 (st := []) dX12_judge_66 ml_X12_356 az_up_eq (m_isAgain (d := d - 1) (wn := wn) az_up_eq (az_up_ne (az_up_ne b65)) (az_up_ne (az_up_ne (mf2.at (az_up_ne az_up_eq)))) ?_)
          intro A3 k1 k2
          refine az_aload_n dX12_judge_69 ?_
          refine az_cV0 (st := []) dX12_judge_70 ml_X12_359 (az_up_ne az_up_eq) (m_isAgainBy (d := d - 1) (wn := wb) (az_up_ne az_up_eq) az_up_eq (az_up_ne (az_up_ne (az_up_ne (mf2.at az_up_eq)))) ?_)
          intro A4 k3 k4
          have hA4 : A4 = A := (funext fun j => (by by_cases q1 : 145 ≤ j ∧ j < 205; rw [show j = 145 + (j - 145) by omega, k3 _ (by omega)]; exact hwb _ (by omega); rw [k4 j (by omega)]; by_cases q2 : 111 ≤ j ∧ j < 114; rw [show j = 111 + (j - 111) by omega, k1 _ (by omega)]; exact hwn _ (by omega); rw [k2 j (by omega)]; exact hA2 j (by omega)))
          subst hA4
          have hq := hQ n y kw rfl hn hy rfl hkw (az_up (az_up (az_up (az_up h2 70 (az_J 366 (fun j => lN (g9 j)))) 64 (mo_o (su sc2 18 (.long q0)))) 65 (az_I 3318 (fun j => nI (A3 j)))) 65 (az_I 3318 (fun j => nI (A4 j)))) (mm.go a2 a6 a7 a8 a9 a10 a11 a12 a13 (L := [64, 65, 70, 72, 73, 74, 75]) (by repeat (first | exact (mf.tr (mf.up (mf.up mf.rf (by decide)) (by decide)) (mf2.wk (L' := [64, 65, 70, 72, 73, 74, 75])) (by decide)) | refine mf.up ?_ (by decide))) (by decide) (by repeat (first | exact mk2 | refine mk.uA ?_ | refine mk.uJ ?_ rfl | refine mk.uI ?_ rfl | refine mk.uO ?_)) (az_up_ne (az_up_ne az_up_eq)) ⟨hs2 5 (by decide) (by decide) (by decide), hs2 13 (by decide) (by decide) (by decide), hs2 14 (by decide) (by decide) (by decide)⟩ az_up_eq a4 a5 (fun j hj => rfl)) (hf1.tr (mf.fr (L := [64, 65, 70, 72, 73, 74, 75]) (by repeat (first | exact (mf.tr (mf.up (mf.up mf.rf (by decide)) (by decide)) (mf2.wk (L' := [64, 65, 70, 72, 73, 74, 75])) (by decide)) | refine mf.up ?_ (by decide)))))
          refine az_iload_n dX12_judge_73 ?_
          refine az_if_neN (tgt := 93) dX12_judge_74 (fun c74 => ?_) (fun c74 => ?_)
          · refine az_iload_n dX12_judge_93 ?_
            refine az_iconst (v := nI 1) dX12_judge_94 ?_
            refine az_icmp_neN (tgt := 105) dX12_judge_95 (fun c95 => ?_) (fun c95 => ?_)
            · refine az_iload_n dX12_judge_105 ?_
              refine az_iconst (v := nI 2) dX12_judge_106 ?_
              refine az_icmp_neN (tgt := 115) dX12_judge_107 (fun c107 => ?_) (fun c107 => ?_)
              · refine az_iload dX12_judge_115 ?_
                exact az_iret dX12_judge_117 (by first | (obtain rfl : kw = 0 := (by omega); rw [cs_judge] at hq; rw [if_pos (by omega)] at hq; exact hq) | (obtain rfl : kw = 0 := (by omega); rw [cs_judge] at hq; rw [if_neg (by omega)] at hq; exact hq) | (obtain rfl : kw = 1 := (by omega); exact hq) | (obtain rfl : kw = 2 := (by omega); exact hq) | (obtain rfl : kw = 3 := (by omega); exact hq))
              · refine az_iload dX12_judge_110 ?_
                refine az_goto (tgt := 117) dX12_judge_112 ?_
                exact az_iret dX12_judge_117 (by first | (obtain rfl : kw = 0 := (by omega); rw [cs_judge] at hq; rw [if_pos (by omega)] at hq; exact hq) | (obtain rfl : kw = 0 := (by omega); rw [cs_judge] at hq; rw [if_neg (by omega)] at hq; exact hq) | (obtain rfl : kw = 1 := (by omega); exact hq) | (obtain rfl : kw = 2 := (by omega); exact hq) | (obtain rfl : kw = 3 := (by omega); exact hq))
            · refine az_aload_n dX12_judge_98 ?_
              refine az_getf (v := sc2 23) dX12_judge_99 fl_X12_338 (az_up_ne (az_up_ne az_up_eq)) ?_
              rw [b23]
              refine az_goto (tgt := 117) dX12_judge_102 ?_
              exact az_iret dX12_judge_117 (by first | (obtain rfl : kw = 0 := (by omega); rw [cs_judge] at hq; rw [if_pos (by omega)] at hq; exact hq) | (obtain rfl : kw = 0 := (by omega); rw [cs_judge] at hq; rw [if_neg (by omega)] at hq; exact hq) | (obtain rfl : kw = 1 := (by omega); exact hq) | (obtain rfl : kw = 2 := (by omega); exact hq) | (obtain rfl : kw = 3 := (by omega); exact hq))
          · refine az_aload_n dX12_judge_77 ?_
            refine az_getf (v := sc2 23) dX12_judge_78 fl_X12_338 (az_up_ne (az_up_ne az_up_eq)) ?_
            rw [b23]
            refine az_if_neN (tgt := 88) dX12_judge_81 (fun c81 => ?_) (fun c81 => ?_)
            · refine az_iload dX12_judge_88 ?_
              refine az_goto (tgt := 117) dX12_judge_90 ?_
              exact az_iret dX12_judge_117 (by first | (obtain rfl : kw = 0 := (by omega); rw [cs_judge] at hq; rw [if_pos (by omega)] at hq; exact hq) | (obtain rfl : kw = 0 := (by omega); rw [cs_judge] at hq; rw [if_neg (by omega)] at hq; exact hq) | (obtain rfl : kw = 1 := (by omega); exact hq) | (obtain rfl : kw = 2 := (by omega); exact hq) | (obtain rfl : kw = 3 := (by omega); exact hq))
            · refine az_iconst (v := (-1)) dX12_judge_84 ?_
              refine az_goto (tgt := 117) dX12_judge_85 ?_
              exact az_iret dX12_judge_117 (by first | (obtain rfl : kw = 0 := (by omega); rw [cs_judge] at hq; rw [if_pos (by omega)] at hq; exact hq) | (obtain rfl : kw = 0 := (by omega); rw [cs_judge] at hq; rw [if_neg (by omega)] at hq; exact hq) | (obtain rfl : kw = 1 := (by omega); exact hq) | (obtain rfl : kw = 2 := (by omega); exact hq) | (obtain rfl : kw = 3 := (by omega); exact hq))
        · exact absurd c27 (by omega)
    · exact absurd c14 (by omega)
  · intro hxw
    refine az_if_neN (tgt := 20) dX12_judge_14 (fun c14 => ?_) (fun c14 => ?_)
    · exact absurd c14 (by omega)
    · refine az_bipush (v := (-2)) dX12_judge_17 ?_
      exact az_iret dX12_judge_19 (hQ2 (fun q => cs_in_no (fun n hn => hxw n (Nat.zero_le _) (by omega)) q.2) h1 hM1 hf1)

