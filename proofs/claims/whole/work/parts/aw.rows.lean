/-! The model: soonest, way, rows, turned, best -/
set_option maxHeartbeats 4000000 in
set_option maxRecDepth 100000 in
theorem m_laysFound {d : Nat} {sc : Nat → Value} {A : Nat → Nat} {v : rd_V} {mo ni : Nat} {bs : List Nat} {hp : az_Hp} {Q : Option Value → az_Hp → Prop} {n : Nat} (hd : 10 ≤ d) (hw : ln_ok (rd_w v)) (hb : ln_by (rd_w v) bs) (hn : n < 2 ^ 63) (h64 : hp.2 64 = some (mo_o sc)) (h65 : hp.2 65 = some (az_I 3318 (fun j => nI (A j)))) (hT : mT A v (mo, ni, bs)) (hk : mk hp) (hQ : ∀ (h' : az_Hp) (fd' : Nat → Int32), h'.2 83 = some (az_I 8 fd') → (∀ l, fu_sn (rd_w v) n (fun x => (ln_str (rd_w v) bs).count x) 0 7 = some l → l.length ≤ 6 ∧ ∀ j, j < l.length → fd' j = nI (l.getD j 0)) → mk h' → mf hp h' [71, 81, 83] → Q (some (.int (ln_opt ((fu_sn (rd_w v) n (fun x => (ln_str (rd_w v) bs).count x) 0 7).map List.length)))) h') : az_M mX12_laysFound d 0 0 [.ref 64, .long (lN n)] hp Q := by
  have loop : ∀ (k : Nat) (kk : Nat) (h' : az_Hp) (g1 : Nat → Nat) (fd1 : Nat → Int32), 7 - kk = k → (kk ≤ 7) → (h'.2 81 = some (az_J 84 (fun j => lN (g1 j)))) → (∀ c, c < 6 → g1 c = (ln_str (rd_w v) bs).count c) → (h'.2 83 = some (az_I 8 fd1)) → (mk h') → (mf hp h' [71, 81, 83]) → (fu_sn (rd_w v) n (fun x => (ln_str (rd_w v) bs).count x) 0 7 = fu_sn (rd_w v) n (fun x => (ln_str (rd_w v) bs).count x) kk (7 - kk)) → az_W mX12_laysFound d 0 0 6 [(0, .ref 64), (1, .long (lN n)), (3, .int (nI kk))] [] h' Q := by
    intro k
    induction k using Nat.strongRecOn with
    | _ k ih =>
    intro kk h' g1 fd1 hk hkk b81 hg1 b83 mk1' mf1 hD
    have b64 : h'.2 64 = some (mo_o sc) := mf1.at h64
    have b65 : h'.2 65 = some (az_I 3318 (fun j => nI (A j))) := mf1.at h65
    refine az_iload_n dX12_laysFound_6 ?_
    refine az_bipush (v := nI 7) dX12_laysFound_7 ?_
    refine az_icmp_geN (tgt := 30) dX12_laysFound_9 (fun c9 => ?_) (fun c9 => ?_)
    · refine az_iconst (v := (-1)) dX12_laysFound_30 ?_
      exact az_iret dX12_laysFound_31 (by have e : fu_sn (rd_w v) n (fun x => (ln_str (rd_w v) bs).count x) 0 7 = none := (by rw [hD, show 7 - kk = 0 by omega]; rfl); have hq := hQ h' fd1 b83 (fun l hl => (by rw [e] at hl; cases hl)) mk1' mf1; rw [e] at hq; exact hq)
    · refine az_aload_n dX12_laysFound_12 ?_
      refine az_lload_n dX12_laysFound_13 ?_
      refine az_iconst (v := nI 0) dX12_laysFound_14 ?_
      refine az_iload_n dX12_laysFound_15 ?_
      refine az_cV0 (st := []) dX12_laysFound_16 ml_X12_441 b64 (m_finds hw hT.1 hn kk (d := d - 1) (gone := 0) (nn := kk) (gm := g1) (cf := (fun x => (ln_str (rd_w v) bs).count x)) (fd := fd1) (by omega) (Nat.zero_add _) (by omega) b64 b65 b81 (fun c hc => (by rw [show 6 * 0 + c = c by omega]; exact hg1 c hc)) b83 (str_cap hw hb (by omega)) ?_)
      intro h3 g3 fd3 e81 p1 e83 p2 p3 m3 k3
      have hif : (if (fu_find (rd_w v) n kk (fun x => (ln_str (rd_w v) bs).count x)).isSome then 1 else 0) < 2 ^ 31 := (by split <;> decide)
      refine az_if_eqN (tgt := 24) dX12_laysFound_19 (fun c19 => ?_) (fun c19 => ?_)
      · refine az_iincN (n := 1) (ls' := [(0, .ref 64), (1, .long (lN n)), (3, .int (nI (kk + 1)))]) dX12_laysFound_24 ?_
        refine az_goto (tgt := 6) dX12_laysFound_27 ?_
        have hno := none01 c19
        exact ih _ (by omega) (kk + 1) h3 g3 fd3 rfl (by omega) e81 (fun j hj => (by rw [p1 j (by omega)]; exact hg1 j hj)) e83 (k3 mk1') (mf1.tr (m3.wk (L' := [71, 81, 83])) (by decide)) (by rw [hD, fu_sn_none hno (by omega), show 7 - (kk + 1) = 7 - kk - 1 by omega])
      · refine az_iload_n dX12_laysFound_22 ?_
        exact az_iret dX12_laysFound_23 (by obtain ⟨l, hl⟩ := some01 c19; have e : fu_sn (rd_w v) n (fun x => (ln_str (rd_w v) bs).count x) 0 7 = some l := hD.trans (fu_sn_some hl (by omega)); have hll := fu_find_len hl; have hq := hQ h3 fd3 e83 (fun l2 hl2 => (by rw [e] at hl2; cases hl2; exact ⟨by omega, fun j hj => (by rw [← Nat.zero_add j, p3 l hl j (by omega), Nat.zero_add])⟩)) (k3 mk1') (mf1.tr (m3.wk (L' := [71, 81, 83])) (by decide)); rw [e, show (some l).map List.length = some l.length from rfl, hll] at hq; exact hq)
  refine az_M.of rfl (Nat.le_of_ble_eq_true rfl) ?_
  show az_W _ _ _ _ 0 [(0, .ref 64), (1, .long (lN n))] [] _ _
  refine az_aload_n dX12_laysFound_0 ?_
  refine az_cV0 (st := []) dX12_laysFound_1 ml_X12_424 h64 (m_laysMany (d := d - 1) (by omega) hw hb h64 h65 hT hk ?_)
  intro h2 gm c81 hgm mk2 mf2
  obtain ⟨f83, c83⟩ := mk2.I (q := 83) (n := 8)
  refine az_iconst (v := nI 0) dX12_laysFound_4 ?_
  refine az_istore_n (ls' := [(0, .ref 64), (1, .long (lN n)), (3, .int (nI 0))]) dX12_laysFound_5 ?_
  exact loop _ 0 h2 gm f83 rfl (Nat.zero_le _) c81 hgm c83 mk2 mf2.wk rfl
set_option maxHeartbeats 4000000 in
set_option maxRecDepth 100000 in
theorem q_soonest {d : Nat} {x : Int64} {tp fk mo ni : Nat} {bt : Nat → Nat} {fp : Int32} {v : rd_V} {bs : List Nat} {U : ln_U} {im : Nat → Option (rd_V × ln_Z)} {tr : Nat → Option (Nat × List Int64)} {hp : az_Hp} {Q : Option Value → az_Hp → Prop} (hd : 12 ≤ d) (hok : cs_ok ((tp, bt), (fk, fp), v, (mo, ni, bs), U, im, tr)) (hM : mm hp ((tp, bt), (fk, fp), v, (mo, ni, bs), U, im, tr)) (hQ3 : x < lN 0 → ∀ h', mm h' ((tp, bt), (fk, fp), v, (mo, ni, bs), U, im, tr) → az_fr hp h' 64 93 → Q (some (.int (-3))) h') (hQ : ∀ n, x = lN n → n < 2 ^ 63 → ∀ h', mm h' ((tp, bt), (fk, fp), v, (mo, ni, bs), U, im, tr) → az_fr hp h' 64 93 → Q (some (.int (ln_opt ((fu_sn (rd_w v) n (fun x => (ln_str (rd_w v) bs).count x) 0 7).map List.length)))) h') : az_M mX12_soonest d 0 0 [.ref 64, .long x] hp Q := by
  obtain ⟨sc0, A0, tf0, hI0, rs0, rm0, nu0, o1, o2, -⟩ := id hM
  have hgd : rd_good v := hok.2.2.1
  have hw : ln_ok (rd_w v) := hgd.1
  have hba : ln_ba (rd_w v) bs := hok.2.2.2.1
  have hb : ln_by (rd_w v) bs := hba.b
  have hlen := hb.2.2
  have h60 := hb.1
  have hU10 : U.length ≤ 10 := hok.2.2.2.2.1
  have ht1 := hw.1
  have ht3 := hw.2.1
  refine az_M.of rfl (Nat.le_of_ble_eq_true rfl) ?_
  show az_W _ _ _ _ 0 [(0, .ref 64), (1, .long x)] [] _ _
  refine az_aload_n dX12_soonest_0 ?_
  refine az_iconst (v := nI 0) dX12_soonest_1 ?_
  refine az_putf (fs' := [.int (nI 0), .ref 65, .ref 66, .ref 67, .ref 68, sc0 5, fI (sc0 6), sc0 7, sc0 8, fI (sc0 9), fI (sc0 10), sc0 11, fI (sc0 12), sc0 13, sc0 14, .ref 69, .ref 70, .ref 71, sc0 18, .ref 72, .ref 73, .ref 74, sc0 22, sc0 23, .ref 75, sc0 25, .ref 76, .ref 77, .ref 78, sc0 29, .ref 79, .ref 80, .ref 81, .ref 82, .ref 83, .ref 84, .ref 85, sc0 37, .ref 86, .ref 87, .ref 88, .ref 89, .ref 90, .ref 91, .ref 92]) dX12_soonest_2 fl_X12_1 o1 ?_
  obtain ⟨h1, hf1, hM1, hh1⟩ : ∃ h1, az_fr hp h1 64 93 ∧ mm h1 ((tp, bt), (fk, fp), v, (mo, ni, bs), U, im, tr) ∧ h1 = az_up hp 64 (mo_o (su sc0 0 (.int (nI 0)))) := ⟨_, az_fr.rf.up, hM.O (sc := su sc0 0 (.int (nI 0))) o2.1 o2.2.1 o2.2.2, rfl⟩
  rw [show (az_up hp 64 (az_O 11 [.int (nI 0), .ref 65, .ref 66, .ref 67, .ref 68, sc0 5, fI (sc0 6), sc0 7, sc0 8, fI (sc0 9), fI (sc0 10), sc0 11, fI (sc0 12), sc0 13, sc0 14, .ref 69, .ref 70, .ref 71, sc0 18, .ref 72, .ref 73, .ref 74, sc0 22, sc0 23, .ref 75, sc0 25, .ref 76, .ref 77, .ref 78, sc0 29, .ref 79, .ref 80, .ref 81, .ref 82, .ref 83, .ref 84, .ref 85, sc0 37, .ref 86, .ref 87, .ref 88, .ref 89, .ref 90, .ref 91, .ref 92])) = h1 from hh1.symm]
  obtain ⟨sc, A, tf, hI, rs, rm, nu, a1, a2, a3, a4, a5, a6, a7, a8, a9, a10, a11, a12, a13, a14⟩ := id hM1
  have a4 : mT A v (mo, ni, bs) := a4
  have a5 : mU A U := a5
  have a7 : mI A hI im := a7
  have a9 : ∀ j, j < tp → tf j = bt j := a9
  have a13 : mR rs rm nu tr := a13
  refine az_lload_n dX12_soonest_5 ?_
  refine az_lconst (v := lN 0) dX12_soonest_6 ?_
  refine az_lcmp_ge (tgt := 16) dX12_soonest_7 dX12_soonest_8 (fun c7 => ?_) (fun c7 => ?_)
  · obtain ⟨n, hn63, hx⟩ := J_of (Int64.not_lt.mpr c7)
    subst hx
    refine az_aload_n dX12_soonest_16 ?_
    refine az_lload_n dX12_soonest_17 ?_
    refine az_cV0 (st := []) dX12_soonest_18 ml_X12_445 a1 (m_laysFound (d := d - 1) (n := n) (by omega) hw hb hn63 a1 a3 a4 a14 ?_)
    intro h2 fd2 c83 hfd mk2 mf2
    exact az_iret dX12_soonest_21 (by first | exact hQ n rfl hn63 h2 (hM1.of (L := [71, 81, 83]) mf2 (by decide) mk2 (mf2.at a1) a2.1 a2.2.1 a2.2.2) (hf1.tr mf2.fr) | exact hQ3 (Int64.not_le.mp c7) h1 hM1 hf1)
  · refine az_bipush (v := (-3)) dX12_soonest_11 ?_
    refine az_goto (tgt := 21) dX12_soonest_13 ?_
    exact az_iret dX12_soonest_21 (by first | exact hQ n rfl hn63 h2 (hM1.of (L := [71, 81, 83]) mf2 (by decide) mk2 (mf2.at a1) a2.1 a2.2.1 a2.2.2) (hf1.tr mf2.fr) | exact hQ3 (Int64.not_le.mp c7) h1 hM1 hf1)
theorem way_lt {o : Option (List Nat)} {i : Nat} (hi : i < 2 ^ 31) (hl : ∀ l, o = some l → l.length ≤ 6) (h : ¬ ln_opt (o.map List.length) ≤ nI i) : ∃ l, o = some l ∧ i < l.length := by
  cases o with
  | none =>
    exfalso
    apply h
    show (-1 : Int32) ≤ nI i
    rw [Int32.le_iff_toInt_le, nI_toI hi]
    have : (-1 : Int32).toInt = -1 := by decide
    omega
  | some l =>
    refine ⟨l, rfl, ?_⟩
    have h6 := hl l rfl
    apply Classical.byContradiction
    intro q
    exact h ((nI_leI (by omega) hi).mpr (by omega))
theorem way_ge {o : Option (List Nat)} {i : Nat} (hi : i < 2 ^ 31) (hl : ∀ l, o = some l → l.length ≤ 6) (h : ln_opt (o.map List.length) ≤ nI i) : cs_way o i = (-1) := by
  cases o with
  | none => rfl
  | some l =>
    have h6 := hl l rfl
    have := (nI_leI (by omega) hi).mp h
    show (if _ then _ else _) = _
    rw [if_neg (by omega)]
set_option maxHeartbeats 4000000 in
set_option maxRecDepth 100000 in
theorem q_way {d : Nat} {x : Int64} {xi : Int32} {tp fk mo ni : Nat} {bt : Nat → Nat} {fp : Int32} {v : rd_V} {bs : List Nat} {U : ln_U} {im : Nat → Option (rd_V × ln_Z)} {tr : Nat → Option (Nat × List Int64)} {hp : az_Hp} {Q : Option Value → az_Hp → Prop} (hd : 12 ≤ d) (hok : cs_ok ((tp, bt), (fk, fp), v, (mo, ni, bs), U, im, tr)) (hM : mm hp ((tp, bt), (fk, fp), v, (mo, ni, bs), U, im, tr)) (hQ3 : x < lN 0 ∨ xi < 0 → ∀ h', mm h' ((tp, bt), (fk, fp), v, (mo, ni, bs), U, im, tr) → az_fr hp h' 64 93 → Q (some (.int (-3))) h') (hQ : ∀ n i, x = lN n → n < 2 ^ 63 → xi = nI i → i < 2 ^ 31 → ∀ h', mm h' ((tp, bt), (fk, fp), v, (mo, ni, bs), U, im, tr) → az_fr hp h' 64 93 → Q (some (.int (cs_way (fu_sn (rd_w v) n (fun x => (ln_str (rd_w v) bs).count x) 0 7) i))) h') : az_M mX12_way d 0 0 [.ref 64, .long x, .int xi] hp Q := by
  obtain ⟨sc0, A0, tf0, hI0, rs0, rm0, nu0, o1, o2, -⟩ := id hM
  have hgd : rd_good v := hok.2.2.1
  have hw : ln_ok (rd_w v) := hgd.1
  have hba : ln_ba (rd_w v) bs := hok.2.2.2.1
  have hb : ln_by (rd_w v) bs := hba.b
  have hlen := hb.2.2
  have h60 := hb.1
  have hU10 : U.length ≤ 10 := hok.2.2.2.2.1
  have ht1 := hw.1
  have ht3 := hw.2.1
  refine az_M.of rfl (Nat.le_of_ble_eq_true rfl) ?_
  show az_W _ _ _ _ 0 [(0, .ref 64), (1, .long x), (3, .int xi)] [] _ _
  refine az_aload_n dX12_way_0 ?_
  refine az_iconst (v := nI 0) dX12_way_1 ?_
  refine az_putf (fs' := [.int (nI 0), .ref 65, .ref 66, .ref 67, .ref 68, sc0 5, fI (sc0 6), sc0 7, sc0 8, fI (sc0 9), fI (sc0 10), sc0 11, fI (sc0 12), sc0 13, sc0 14, .ref 69, .ref 70, .ref 71, sc0 18, .ref 72, .ref 73, .ref 74, sc0 22, sc0 23, .ref 75, sc0 25, .ref 76, .ref 77, .ref 78, sc0 29, .ref 79, .ref 80, .ref 81, .ref 82, .ref 83, .ref 84, .ref 85, sc0 37, .ref 86, .ref 87, .ref 88, .ref 89, .ref 90, .ref 91, .ref 92]) dX12_way_2 fl_X12_1 o1 ?_
  obtain ⟨h1, hf1, hM1, hh1⟩ : ∃ h1, az_fr hp h1 64 93 ∧ mm h1 ((tp, bt), (fk, fp), v, (mo, ni, bs), U, im, tr) ∧ h1 = az_up hp 64 (mo_o (su sc0 0 (.int (nI 0)))) := ⟨_, az_fr.rf.up, hM.O (sc := su sc0 0 (.int (nI 0))) o2.1 o2.2.1 o2.2.2, rfl⟩
  rw [show (az_up hp 64 (az_O 11 [.int (nI 0), .ref 65, .ref 66, .ref 67, .ref 68, sc0 5, fI (sc0 6), sc0 7, sc0 8, fI (sc0 9), fI (sc0 10), sc0 11, fI (sc0 12), sc0 13, sc0 14, .ref 69, .ref 70, .ref 71, sc0 18, .ref 72, .ref 73, .ref 74, sc0 22, sc0 23, .ref 75, sc0 25, .ref 76, .ref 77, .ref 78, sc0 29, .ref 79, .ref 80, .ref 81, .ref 82, .ref 83, .ref 84, .ref 85, sc0 37, .ref 86, .ref 87, .ref 88, .ref 89, .ref 90, .ref 91, .ref 92])) = h1 from hh1.symm]
  obtain ⟨sc, A, tf, hI, rs, rm, nu, a1, a2, a3, a4, a5, a6, a7, a8, a9, a10, a11, a12, a13, a14⟩ := id hM1
  have a4 : mT A v (mo, ni, bs) := a4
  have a5 : mU A U := a5
  have a7 : mI A hI im := a7
  have a9 : ∀ j, j < tp → tf j = bt j := a9
  have a13 : mR rs rm nu tr := a13
  refine az_lload_n dX12_way_5 ?_
  refine az_lconst (v := lN 0) dX12_way_6 ?_
  refine az_lcmp_lt (tgt := 15) dX12_way_7 dX12_way_8 (fun c7 => ?_) (fun c7 => ?_)
  · refine az_bipush (v := (-3)) dX12_way_15 ?_
    exact az_iret dX12_way_17 (by first | exact hQ3 (Or.inl c7) h1 hM1 hf1 | exact hQ3 (Or.inr (Int32.not_le.mp c12)) h1 hM1 hf1)
  · refine az_iload_n dX12_way_11 ?_
    refine az_if_ge (tgt := 18) dX12_way_12 (fun c12 => ?_) (fun c12 => ?_)
    · obtain ⟨n, hn63, hx⟩ := J_of c7
      subst hx
      obtain ⟨i, hi31, hxi⟩ := I_of (x := xi) (Int32.not_lt.mpr c12)
      subst hxi
      refine az_aload_n dX12_way_18 ?_
      refine az_lload_n dX12_way_19 ?_
      refine az_cV0 (st := []) dX12_way_20 ml_X12_445 a1 (m_laysFound (d := d - 1) (n := n) (by omega) hw hb hn63 a1 a3 a4 a14 ?_)
      intro h2 fd2 c83 hfd mk2 mf2
      have hq := hQ n i rfl hn63 rfl hi31 h2 (hM1.of (L := [71, 81, 83]) mf2 (by decide) mk2 (mf2.at a1) a2.1 a2.2.1 a2.2.2) (hf1.tr mf2.fr)
      refine az_istore (ls' := [(0, .ref 64), (1, .long (lN n)), (3, .int (nI i)), (4, .int (ln_opt ((fu_sn (rd_w v) n (fun x => (ln_str (rd_w v) bs).count x) 0 7).map List.length)))]) dX12_way_23 ?_
      refine az_iload_n dX12_way_25 ?_
      refine az_iload dX12_way_26 ?_
      refine az_icmp_ge (tgt := 40) dX12_way_28 (fun c28 => ?_) (fun c28 => ?_)
      · refine az_iconst (v := (-1)) dX12_way_40 ?_
        exact az_iret dX12_way_41 (by first | (have _g := hil; rw [hl] at hq; rw [show cs_way (some l) i = nI (l.getD i 0) from if_pos hil] at hq; exact hq) | (rw [way_ge hi31 (fun l hl => (hfd l hl).1) c28] at hq; exact hq))
      · obtain ⟨l, hl, hil⟩ := way_lt hi31 (fun l hl => (hfd l hl).1) c28
        have hl6 := (hfd l hl).1
        refine az_aload_n dX12_way_31 ?_
        refine az_getf (v := .ref 83) dX12_way_32 fl_X12_73 (mf2.at a1) ?_
        refine az_iload_n dX12_way_35 ?_
        refine az_ialdN (j := i) dX12_way_36 c83 ?_
        rw [(hfd l hl).2 i hil]
        refine az_goto (tgt := 41) dX12_way_37 ?_
        exact az_iret dX12_way_41 (by first | (have _g := hil; rw [hl] at hq; rw [show cs_way (some l) i = nI (l.getD i 0) from if_pos hil] at hq; exact hq) | (rw [way_ge hi31 (fun l hl => (hfd l hl).1) c28] at hq; exact hq))
    · refine az_bipush (v := (-3)) dX12_way_15 ?_
      exact az_iret dX12_way_17 (by first | exact hQ3 (Or.inl c7) h1 hM1 hf1 | exact hQ3 (Or.inr (Int32.not_le.mp c12)) h1 hM1 hf1)
set_option maxHeartbeats 4000000 in
set_option maxRecDepth 100000 in
theorem m_rowsFrom {sc : Nat → Value} {A : Nat → Nat} {v : rd_V} {n : Nat} (hw : ln_ok (rd_w v)) (hV : mV A v) (hn : n < 2 ^ 63) : ∀ (kn : Nat) {d gone nn : Nat} {gm cf : Nat → Nat} {hp : az_Hp} {Q : Option Value → az_Hp → Prop}, kn + 2 ≤ d → gone + kn = nn → nn ≤ 7 → hp.2 64 = some (mo_o sc) → hp.2 65 = some (az_I 3318 (fun j => nI (A j))) → hp.2 81 = some (az_J 84 (fun j => lN (gm j))) → (∀ c, c < 6 → gm (6 * gone + c) = cf c) → fu_l cf * 4 ^ kn < 2 ^ 62 → (∀ (h' : az_Hp) (gm' : Nat → Nat), h'.2 81 = some (az_J 84 (fun j => lN (gm' j))) → (∀ j, j < 6 * (gone + 1) → gm' j = gm j) → mf hp h' [81] → (mk hp → mk h') → Q (some (.int (nI (fu_rows (rd_w v) n kn cf)))) h') → az_M mX12_rowsFrom d 0 0 [.ref 64, .long (lN n), .int (nI gone), .int (nI nn)] hp Q := by
  have ht3 := hw.2.1
  have ht1 := hw.1
  have hA1 : A 1 = ln_tb (rd_w v) := hV.2.1
  intro kn
  induction kn with
  | zero =>
    intro d gone nn gm cf hp Q hd hnn hgk h64 h65 h81 hrow hcap hQ
    have hfl := fl_c hcap
    refine az_M.of rfl (Nat.le_of_ble_eq_true rfl) ?_
    show az_W _ _ _ _ 0 [(0, .ref 64), (1, .long (lN n)), (3, .int (nI gone)), (4, .int (nI nn))] [] _ _
    refine az_iload_n dX12_rowsFrom_0 ?_
    refine az_iload dX12_rowsFrom_1 ?_
    refine az_icmp_neN (tgt := 22) dX12_rowsFrom_3 (fun c3 => ?_) (fun c3 => ?_)
    · exact absurd hnn (by omega)
    · refine az_aload_n dX12_rowsFrom_6 ?_
      refine az_iload_n dX12_rowsFrom_7 ?_
      refine az_cV0 (st := []) dX12_rowsFrom_8 ml_X12_434 h64 (m_longIn (d := d - 1) (cf := cf) h64 (by omega) h81 hrow ?_)
      refine az_lload_n dX12_rowsFrom_11 ?_
      refine az_lcmp_neN (tgt := 20) dX12_rowsFrom_12 dX12_rowsFrom_13 (fun c12 => ?_) (fun c12 => ?_)
      · refine az_iconst (v := nI 0) dX12_rowsFrom_20 ?_
        exact az_iret dX12_rowsFrom_21 (by have e : fu_rows (rd_w v) n 0 cf = if fu_l cf = n then 1 else 0 := rfl; first | (rw [if_pos (by omega)] at e; have hq := hQ hp gm h81 (fun _ _ => rfl) mf.rf (fun q => q); rw [e] at hq; exact hq) | (rw [if_neg (by omega)] at e; have hq := hQ hp gm h81 (fun _ _ => rfl) mf.rf (fun q => q); rw [e] at hq; exact hq))
      · refine az_iconst (v := nI 1) dX12_rowsFrom_16 ?_
        refine az_goto (tgt := 21) dX12_rowsFrom_17 ?_
        exact az_iret dX12_rowsFrom_21 (by have e : fu_rows (rd_w v) n 0 cf = if fu_l cf = n then 1 else 0 := rfl; first | (rw [if_pos (by omega)] at e; have hq := hQ hp gm h81 (fun _ _ => rfl) mf.rf (fun q => q); rw [e] at hq; exact hq) | (rw [if_neg (by omega)] at e; have hq := hQ hp gm h81 (fun _ _ => rfl) mf.rf (fun q => q); rw [e] at hq; exact hq))
  | succ kn ihN =>
    intro d gone nn gm cf hp Q hd hnn hgk h64 h65 h81 hrow hcap hQ
    have loop : ∀ (k : Nat) (tb : Nat) (h' : az_Hp) (g1 : Nat → Nat), ln_tb (rd_w v) - tb = k → (tb ≤ ln_tb (rd_w v)) → (h'.2 81 = some (az_J 84 (fun j => lN (g1 j)))) → (∀ j, j < 6 * (gone + 1) → g1 j = gm j) → (mf hp h' [81]) → (mk hp → mk h') → az_W mX12_rowsFrom d 0 0 28 [(0, .ref 64), (1, .long (lN n)), (3, .int (nI gone)), (4, .int (nI nn)), (5, .int (nI (sm (fun tb => fu_rows (rd_w v) n kn (fu_n (rd_w v) tb cf)) tb))), (6, .int (nI tb))] [] h' Q := by
      intro k
      induction k using Nat.strongRecOn with
      | _ k ih =>
      intro tb h' g1 hk htb b81 hg1 mf1 mk1'
      have b64 : h'.2 64 = some (mo_o sc) := mf1.at h64
      have b65 : h'.2 65 = some (az_I 3318 (fun j => nI (A j))) := mf1.at h65
      refine az_iload dX12_rowsFrom_28 ?_
      refine az_aload_n dX12_rowsFrom_30 ?_
      refine az_getf (v := .ref 65) dX12_rowsFrom_31 fl_X12_13 b64 ?_
      refine az_iconst (v := nI 1) dX12_rowsFrom_34 ?_
      refine az_ialdN (j := 1) dX12_rowsFrom_35 b65 ?_
      rw [hA1]
      refine az_icmp_geN (tgt := 67) dX12_rowsFrom_36 (fun c36 => ?_) (fun c36 => ?_)
      · refine az_iload dX12_rowsFrom_67 ?_
        exact az_iret dX12_rowsFrom_69 (by obtain rfl : tb = ln_tb (rd_w v) := (by omega); exact hQ h' g1 b81 hg1 mf1 mk1')
      · refine az_aload_n dX12_rowsFrom_39 ?_
        refine az_iload_n dX12_rowsFrom_40 ?_
        refine az_iload dX12_rowsFrom_41 ?_
        refine az_cV0 (st := []) dX12_rowsFrom_43 ml_X12_437 b64 (m_goesMany (d := d - 1) (gone := gone) (tb := tb) (cf := cf) (by omega) hw b64 b65 hV (by omega) (by omega) b81 (fun c hc => (by rw [hg1 _ (by omega)]; exact hrow c hc)) ?_)
        intro g2 q1 q2
        refine az_iload dX12_rowsFrom_46 ?_
        refine az_aload_n dX12_rowsFrom_48 ?_
        refine az_lload_n dX12_rowsFrom_49 ?_
        refine az_iload_n dX12_rowsFrom_50 ?_
        refine az_iconst (v := nI 1) dX12_rowsFrom_51 ?_
        refine az_iaddN dX12_rowsFrom_52 ?_
        refine az_iload dX12_rowsFrom_53 ?_
        refine az_cV0 (st := [.int (nI (sm (fun tb => fu_rows (rd_w v) n kn (fu_n (rd_w v) tb cf)) tb))]) dX12_rowsFrom_55 ml_X12_448 (az_up_ne b64) (ihN (d := d - 1) (gone := gone + 1) (gm := g2) (cf := fu_n (rd_w v) tb cf) (by omega) (show gone + 1 + kn = nn by omega) hgk (az_up_ne b64) (az_up_ne b65) az_up_eq q2 (fu_n_l hw hcap) ?_)
        intro h3 g3 e81 p1 m3 k3
        have hfr : mf hp h3 [81] := mf.tr (mf.up mf1 (by decide)) m3 (by decide)
        refine az_iaddN dX12_rowsFrom_58 ?_
        rw [show sm (fun tb => fu_rows (rd_w v) n kn (fu_n (rd_w v) tb cf)) tb + fu_rows (rd_w v) n kn (fu_n (rd_w v) tb cf) = sm (fun tb => fu_rows (rd_w v) n kn (fu_n (rd_w v) tb cf)) (tb + 1) from rfl]
        refine az_istore (ls' := [(0, .ref 64), (1, .long (lN n)), (3, .int (nI gone)), (4, .int (nI nn)), (5, .int (nI (sm (fun tb => fu_rows (rd_w v) n kn (fu_n (rd_w v) tb cf)) (tb + 1)))), (6, .int (nI tb))]) dX12_rowsFrom_59 ?_
        refine az_iincN (n := 1) (ls' := [(0, .ref 64), (1, .long (lN n)), (3, .int (nI gone)), (4, .int (nI nn)), (5, .int (nI (sm (fun tb => fu_rows (rd_w v) n kn (fu_n (rd_w v) tb cf)) (tb + 1)))), (6, .int (nI (tb + 1)))]) dX12_rowsFrom_61 ?_
        refine az_goto (tgt := 28) dX12_rowsFrom_64 ?_
        exact ih _ (by omega) (tb + 1) h3 g3 rfl (by omega) e81 (fun j hj => (by rw [p1 j (by omega), q1 j (by omega)]; exact hg1 j hj)) hfr (fun q => k3 (mk.uJ (mk1' q) rfl))
    refine az_M.of rfl (Nat.le_of_ble_eq_true rfl) ?_
    show az_W _ _ _ _ 0 [(0, .ref 64), (1, .long (lN n)), (3, .int (nI gone)), (4, .int (nI nn))] [] _ _
    refine az_iload_n dX12_rowsFrom_0 ?_
    refine az_iload dX12_rowsFrom_1 ?_
    refine az_icmp_neN (tgt := 22) dX12_rowsFrom_3 (fun c3 => ?_) (fun c3 => ?_)
    · refine az_iconst (v := nI 0) dX12_rowsFrom_22 ?_
      refine az_istore (ls' := [(0, .ref 64), (1, .long (lN n)), (3, .int (nI gone)), (4, .int (nI nn)), (5, .int (nI 0))]) dX12_rowsFrom_23 ?_
      refine az_iconst (v := nI 0) dX12_rowsFrom_25 ?_
      refine az_istore (ls' := [(0, .ref 64), (1, .long (lN n)), (3, .int (nI gone)), (4, .int (nI nn)), (5, .int (nI 0)), (6, .int (nI 0))]) dX12_rowsFrom_26 ?_
      exact loop _ 0 hp gm rfl (Nat.zero_le _) h81 (fun _ _ => rfl) mf.rf (fun q => q)
    · exact absurd c3 (by omega)
set_option maxHeartbeats 4000000 in
set_option maxRecDepth 100000 in
theorem q_rows {d : Nat} {x : Int64} {xk : Int32} {tp fk mo ni : Nat} {bt : Nat → Nat} {fp : Int32} {v : rd_V} {bs : List Nat} {U : ln_U} {im : Nat → Option (rd_V × ln_Z)} {tr : Nat → Option (Nat × List Int64)} {hp : az_Hp} {Q : Option Value → az_Hp → Prop} (hd : 12 ≤ d) (hok : cs_ok ((tp, bt), (fk, fp), v, (mo, ni, bs), U, im, tr)) (hM : mm hp ((tp, bt), (fk, fp), v, (mo, ni, bs), U, im, tr)) (hQ3 : x < lN 0 ∨ ¬ cs_in xk 8 → ∀ h', mm h' ((tp, bt), (fk, fp), v, (mo, ni, bs), U, im, tr) → az_fr hp h' 64 93 → Q (some (.int (-3))) h') (hQ : ∀ n k, x = lN n → n < 2 ^ 63 → xk = nI k → k < 8 → ∀ h', mm h' ((tp, bt), (fk, fp), v, (mo, ni, bs), U, im, tr) → az_fr hp h' 64 93 → Q (some (.int (nI (fu_rows (rd_w v) n k (fun x => (ln_str (rd_w v) bs).count x))))) h') : az_M mX12_rows d 0 0 [.ref 64, .long x, .int xk] hp Q := by
  obtain ⟨sc0, A0, tf0, hI0, rs0, rm0, nu0, o1, o2, -⟩ := id hM
  have hgd : rd_good v := hok.2.2.1
  have hw : ln_ok (rd_w v) := hgd.1
  have hba : ln_ba (rd_w v) bs := hok.2.2.2.1
  have hb : ln_by (rd_w v) bs := hba.b
  have hlen := hb.2.2
  have h60 := hb.1
  have hU10 : U.length ≤ 10 := hok.2.2.2.2.1
  have ht1 := hw.1
  have ht3 := hw.2.1
  refine az_M.of rfl (Nat.le_of_ble_eq_true rfl) ?_
  show az_W _ _ _ _ 0 [(0, .ref 64), (1, .long x), (3, .int xk)] [] _ _
  refine az_aload_n dX12_rows_0 ?_
  refine az_iconst (v := nI 0) dX12_rows_1 ?_
  refine az_putf (fs' := [.int (nI 0), .ref 65, .ref 66, .ref 67, .ref 68, sc0 5, fI (sc0 6), sc0 7, sc0 8, fI (sc0 9), fI (sc0 10), sc0 11, fI (sc0 12), sc0 13, sc0 14, .ref 69, .ref 70, .ref 71, sc0 18, .ref 72, .ref 73, .ref 74, sc0 22, sc0 23, .ref 75, sc0 25, .ref 76, .ref 77, .ref 78, sc0 29, .ref 79, .ref 80, .ref 81, .ref 82, .ref 83, .ref 84, .ref 85, sc0 37, .ref 86, .ref 87, .ref 88, .ref 89, .ref 90, .ref 91, .ref 92]) dX12_rows_2 fl_X12_1 o1 ?_
  obtain ⟨h1, hf1, hM1, hh1⟩ : ∃ h1, az_fr hp h1 64 93 ∧ mm h1 ((tp, bt), (fk, fp), v, (mo, ni, bs), U, im, tr) ∧ h1 = az_up hp 64 (mo_o (su sc0 0 (.int (nI 0)))) := ⟨_, az_fr.rf.up, hM.O (sc := su sc0 0 (.int (nI 0))) o2.1 o2.2.1 o2.2.2, rfl⟩
  rw [show (az_up hp 64 (az_O 11 [.int (nI 0), .ref 65, .ref 66, .ref 67, .ref 68, sc0 5, fI (sc0 6), sc0 7, sc0 8, fI (sc0 9), fI (sc0 10), sc0 11, fI (sc0 12), sc0 13, sc0 14, .ref 69, .ref 70, .ref 71, sc0 18, .ref 72, .ref 73, .ref 74, sc0 22, sc0 23, .ref 75, sc0 25, .ref 76, .ref 77, .ref 78, sc0 29, .ref 79, .ref 80, .ref 81, .ref 82, .ref 83, .ref 84, .ref 85, sc0 37, .ref 86, .ref 87, .ref 88, .ref 89, .ref 90, .ref 91, .ref 92])) = h1 from hh1.symm]
  obtain ⟨sc, A, tf, hI, rs, rm, nu, a1, a2, a3, a4, a5, a6, a7, a8, a9, a10, a11, a12, a13, a14⟩ := id hM1
  have a4 : mT A v (mo, ni, bs) := a4
  have a5 : mU A U := a5
  have a7 : mI A hI im := a7
  have a9 : ∀ j, j < tp → tf j = bt j := a9
  have a13 : mR rs rm nu tr := a13
  refine az_lload_n dX12_rows_5 ?_
  refine az_lconst (v := lN 0) dX12_rows_6 ?_
  refine az_lcmp_lt (tgt := 23) dX12_rows_7 dX12_rows_8 (fun c7 => ?_) (fun c7 => ?_)
  · refine az_bipush (v := (-3)) dX12_rows_23 ?_
    exact az_iret dX12_rows_25 (by first | exact hQ3 (Or.inl c7) h1 hM1 hf1 | exact hQ3 (Or.inr (cs_in_no (fun n hn => hxk n (Nat.zero_le _) (by omega)))) h1 hM1 hf1)
  · refine az_iload_n dX12_rows_11 ?_
    refine az_i2l dX12_rows_12 ?_
    refine az_lconst (v := lN 0) dX12_rows_13 ?_
    refine az_ldc2 (v := lN 7) dX12_rows_14 cn_X12_452 ?_
    refine az_cS0 (st := []) dX12_rows_17 ml_X12_169 (m_withinI (d := d - 1) (lo := 0) (hi := 7) (by decide) (by decide) ?_ ?_)
    · intro kk hxk hk0 hk7
      refine az_if_neN (tgt := 26) dX12_rows_20 (fun c20 => ?_) (fun c20 => ?_)
      · obtain ⟨n, hn63, hx⟩ := J_of c7
        subst hx
        subst hxk
        refine az_aload_n dX12_rows_26 ?_
        refine az_cV0 (st := []) dX12_rows_27 ml_X12_424 a1 (m_laysMany (d := d - 1) (by omega) hw hb a1 a3 a4 a14 ?_)
        intro h2 gm c81 hgm mk2 mf2
        refine az_aload_n dX12_rows_30 ?_
        refine az_lload_n dX12_rows_31 ?_
        refine az_iconst (v := nI 0) dX12_rows_32 ?_
        refine az_iload_n dX12_rows_33 ?_
        refine az_cV0 (st := []) dX12_rows_34 ml_X12_448 (mf2.at a1) (m_rowsFrom hw a4.1 hn63 kk (d := d - 1) (gone := 0) (nn := kk) (gm := gm) (cf := (fun x => (ln_str (rd_w v) bs).count x)) (by omega) (Nat.zero_add _) hk7 (mf2.at a1) (mf2.at a3) c81 (fun c hc => (by rw [show 6 * 0 + c = c by omega]; exact hgm c hc)) (str_cap hw hb (by omega)) ?_)
        intro h3 g3 e81 p1 m3 k3
        exact az_iret dX12_rows_37 (hQ n kk rfl hn63 rfl (by omega) h3 (hM1.of (L := [71, 81]) (mf2.tr m3 (by decide)) (by decide) (k3 mk2) (m3.at (mf2.at a1)) a2.1 a2.2.1 a2.2.2) (hf1.tr (mf.fr (L := [71, 81]) (mf2.tr m3 (by decide)))))
      · exact absurd c20 (by omega)
    · intro hxk
      refine az_if_neN (tgt := 26) dX12_rows_20 (fun c20 => ?_) (fun c20 => ?_)
      · exact absurd c20 (by omega)
      · refine az_bipush (v := (-3)) dX12_rows_23 ?_
        exact az_iret dX12_rows_25 (by first | exact hQ3 (Or.inl c7) h1 hM1 hf1 | exact hQ3 (Or.inr (cs_in_no (fun n hn => hxk n (Nat.zero_le _) (by omega)))) h1 hM1 hf1)

