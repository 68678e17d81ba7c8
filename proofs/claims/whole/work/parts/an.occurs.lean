/-! The model: occurs, first -/
set_option maxHeartbeats 4000000 in
set_option maxRecDepth 100000 in
theorem m_occursW {d : Nat} {sc : Nat → Value} {A : Nat → Nat} {v : rd_V} {mo ni : Nat} {bs : List Nat} {hp : az_Hp} {Q : Option Value → az_Hp → Prop} {n0 nw : Nat} {g rT hH : Nat → Nat} (hw : ln_ok (rd_w v)) (hb : ln_by (rd_w v) bs) (hn1 : 1 ≤ nw) (hn6 : nw ≤ 6) (h64 : hp.2 64 = some (mo_o sc)) (h65 : hp.2 65 = some (az_I 3318 (fun j => nI (A j)))) (hT : mT A v (mo, ni, bs)) (h76 : hp.2 76 = some (az_I 2196 (fun j => nI (rT j)))) (h78 : hp.2 78 = some (az_J 2196 (fun j => lN (hH j)))) (hE : ∀ k y s, k ≤ bs.length → y < 6 → s < nw → fm_E (rd_w v) bs g nw rT hH k y s) (hQ : Q (some (.long (lN (fa_h g nw 0 (ln_str (rd_w v) bs))))) hp) : az_W mX12_occurs d 0 0 27 [(0, .ref 64), (1, .int (nI n0)), (2, .int (nI 0))] [] hp Q := by
  have hlen := hb.2.2
  have hsd := hw.2.2.2.2.1
  have hA2 : A 2 = ln_sd (rd_w v) := hT.1.2.2.1
  have hAw : ∀ k, k < ln_sd (rd_w v) → A (3 + k) = ln_st (rd_w v) k := hT.1.2.2.2.1
  have loop : ∀ (k : Nat) (i now sv : Nat), ln_sd (rd_w v) - i = k → (i ≤ ln_sd (rd_w v)) → (now < nw) → (now = fa_s g nw 0 (ln_run (rd_w v) bs ((ln_word (rd_w v)).take i))) → (sv = fa_h g nw 0 (ln_run (rd_w v) bs ((ln_word (rd_w v)).take i))) → az_W mX12_occurs d 0 0 35 [(0, .ref 64), (1, .int (nI n0)), (2, .int (nI 0)), (3, .int (nI now)), (4, .long (lN sv)), (6, .int (nI i))] [] hp Q := by
    intro k
    induction k using Nat.strongRecOn with
    | _ k ih =>
    intro i now sv hk hi9 hnl hnw hsv
    refine az_iload dX12_occurs_35 ?_
    refine az_aload_n dX12_occurs_37 ?_
    refine az_getf (v := .ref 65) dX12_occurs_38 fl_X12_13 h64 ?_
    refine az_iconst (v := nI 2) dX12_occurs_41 ?_
    refine az_ialdN (j := 2) dX12_occurs_42 h65 ?_
    rw [hA2]
    refine az_icmp_geN (tgt := 88) dX12_occurs_43 (fun c43 => ?_) (fun c43 => ?_)
    · refine az_lload dX12_occurs_88 ?_
      exact az_lret dX12_occurs_90 (by rw [hsv, show i = ln_sd (rd_w v) by omega, word_all]; exact hQ)
    · refine az_bipush (v := nI 6) dX12_occurs_46 ?_
      refine az_aload_n dX12_occurs_48 ?_
      refine az_getf (v := .ref 65) dX12_occurs_49 fl_X12_13 h64 ?_
      refine az_iconst (v := nI 3) dX12_occurs_52 ?_
      refine az_iload dX12_occurs_53 ?_
      refine az_iaddN dX12_occurs_55 ?_
      refine az_ialdN (j := 3 + i) dX12_occurs_56 h65 ?_
      rw [hAw i (by omega)]
      have hst := hw.2.2.2.2.2.1 i
      have hE0 := hE 0 (ln_st (rd_w v) i) now (Nat.zero_le _) hst hnl
      unfold fm_E at hE0
      rw [List.drop_zero, show 6 * (6 * 0 + ln_st (rd_w v) i) + now = 6 * ln_st (rd_w v) i + now by omega] at hE0
      have hm1 := fa_h_le g nw now (ln_run (rd_w v) bs [ln_st (rd_w v) i])
      have hm2 := word_part (w := rd_w v) (bs := bs) (i := i) (by omega)
      have hm3 := fa_h_le g nw 0 (ln_run (rd_w v) bs ((ln_word (rd_w v)).take i))
      have hm4 := word_take_len (w := rd_w v) (bs := bs) i
      refine az_imulN dX12_occurs_57 ?_
      refine az_iload_n dX12_occurs_58 ?_
      refine az_iaddN dX12_occurs_59 ?_
      refine az_istore (ls' := [(0, .ref 64), (1, .int (nI n0)), (2, .int (nI 0)), (3, .int (nI now)), (4, .long (lN sv)), (6, .int (nI i)), (7, .int (nI ((6 * (ln_st (rd_w v) i)) + now)))]) dX12_occurs_60 ?_
      refine az_lload dX12_occurs_62 ?_
      refine az_aload_n dX12_occurs_64 ?_
      refine az_getf (v := .ref 78) dX12_occurs_65 fl_X12_58 h64 ?_
      refine az_iload dX12_occurs_68 ?_
      refine az_laldN (j := (6 * (ln_st (rd_w v) i)) + now) dX12_occurs_70 h78 ?_
      rw [hE0.2, Nat.min_eq_left (by omega)]
      refine az_laddN dX12_occurs_71 ?_
      refine az_lstore (ls' := [(0, .ref 64), (1, .int (nI n0)), (2, .int (nI 0)), (3, .int (nI now)), (4, .long (lN (sv + (fa_h g nw now (ln_run (rd_w v) bs [ln_st (rd_w v) i]))))), (6, .int (nI i)), (7, .int (nI ((6 * (ln_st (rd_w v) i)) + now)))]) dX12_occurs_72 ?_
      refine az_aload_n dX12_occurs_74 ?_
      refine az_getf (v := .ref 76) dX12_occurs_75 fl_X12_52 h64 ?_
      refine az_iload dX12_occurs_78 ?_
      refine az_ialdN (j := (6 * (ln_st (rd_w v) i)) + now) dX12_occurs_80 h76 ?_
      rw [hE0.1]
      refine az_istore_n (ls' := [(0, .ref 64), (1, .int (nI n0)), (2, .int (nI 0)), (3, .int (nI (fa_s g nw now (ln_run (rd_w v) bs [ln_st (rd_w v) i])))), (4, .long (lN (sv + (fa_h g nw now (ln_run (rd_w v) bs [ln_st (rd_w v) i]))))), (6, .int (nI i)), (7, .int (nI ((6 * (ln_st (rd_w v) i)) + now)))]) dX12_occurs_81 ?_
      refine az_iincN (n := 1) (ls' := [(0, .ref 64), (1, .int (nI n0)), (2, .int (nI 0)), (3, .int (nI (fa_s g nw now (ln_run (rd_w v) bs [ln_st (rd_w v) i])))), (4, .long (lN (sv + (fa_h g nw now (ln_run (rd_w v) bs [ln_st (rd_w v) i]))))), (6, .int (nI (i + 1))), (7, .int (nI ((6 * (ln_st (rd_w v) i)) + now)))]) dX12_occurs_82 ?_
      refine az_goto (tgt := 35) dX12_occurs_85 ?_
      refine az_W.keep (ls' := [(0, .ref 64), (1, .int (nI n0)), (2, .int (nI 0)), (3, .int (nI (fa_s g nw now (ln_run (rd_w v) bs [ln_st (rd_w v) i])))), (4, .long (lN (sv + (fa_h g nw now (ln_run (rd_w v) bs [ln_st (rd_w v) i]))))), (6, .int (nI (i + 1)))]) [0, 1, 2, 3, 4, 6] rfl ?_
      exact ih _ (by omega) (i + 1) (fa_s g nw now (ln_run (rd_w v) bs [ln_st (rd_w v) i])) (sv + fa_h g nw now (ln_run (rd_w v) bs [ln_st (rd_w v) i])) rfl (by omega) (fa_s_lt _ hnl) (by rw [word_take (by omega), fa_s_app, hnw]) (by rw [word_take (by omega), fa_h_app, hsv, hnw])
  refine az_iconst (v := nI 0) dX12_occurs_27 ?_
  refine az_istore_n (ls' := [(0, .ref 64), (1, .int (nI n0)), (2, .int (nI 0)), (3, .int (nI 0))]) dX12_occurs_28 ?_
  refine az_lconst (v := lN 0) dX12_occurs_29 ?_
  refine az_lstore (ls' := [(0, .ref 64), (1, .int (nI n0)), (2, .int (nI 0)), (3, .int (nI 0)), (4, .long (lN 0))]) dX12_occurs_30 ?_
  refine az_iconst (v := nI 0) dX12_occurs_32 ?_
  refine az_istore (ls' := [(0, .ref 64), (1, .int (nI n0)), (2, .int (nI 0)), (3, .int (nI 0)), (4, .long (lN 0)), (6, .int (nI 0))]) dX12_occurs_33 ?_
  exact loop _ 0 0 0 rfl (Nat.zero_le _) (by omega) (by rw [run_nil]; rfl) (by rw [run_nil]; rfl)
set_option maxHeartbeats 4000000 in
set_option maxRecDepth 100000 in
theorem q_occurs {d : Nat} {x : Int32} {tp fk mo ni : Nat} {bt : Nat → Nat} {fp : Int32} {v : rd_V} {bs : List Nat} {U : ln_U} {im : Nat → Option (rd_V × ln_Z)} {tr : Nat → Option (Nat × List Int64)} {hp : az_Hp} {Q : Option Value → az_Hp → Prop} (hd : 4 ≤ d) (hok : cs_ok ((tp, bt), (fk, fp), v, (mo, ni, bs), U, im, tr)) (hM : mm hp ((tp, bt), (fk, fp), v, (mo, ni, bs), U, im, tr)) (hQ2 : (∀ n, n < 4 → x ≠ nI n) → ∀ h', mm h' ((tp, bt), (fk, fp), v, (mo, ni, bs), U, im, tr) → az_fr hp h' 64 93 → Q (some (.long (-2))) h') (hQ6 : ∀ n, x = nI n → n < 4 → tr n = none → ∀ h', mm h' ((tp, bt), (fk, fp), v, (mo, ni, bs), U, im, tr) → az_fr hp h' 64 93 → Q (some (.long (-6))) h') (hQ4 : ∀ n y, x = nI n → n < 4 → tr n = some y → ¬ (1 ≤ y.2.length ∧ y.2.length ≤ 6) → ∀ h', mm h' ((tp, bt), (fk, fp), v, (mo, ni, bs), U, im, tr) → az_fr hp h' 64 93 → Q (some (.long (-4))) h') (hQ3 : ∀ n y, x = nI n → n < 4 → tr n = some y → 1 ≤ y.2.length → y.2.length ≤ 6 → ¬ cs_wd y.2 → ∀ h', mm h' ((tp, bt), (fk, fp), v, (mo, ni, bs), U, im, tr) → az_fr hp h' 64 93 → Q (some (.long (-3))) h') (hQ : ∀ n y, x = nI n → n < 4 → tr n = some y → 1 ≤ y.2.length → y.2.length ≤ 6 → cs_wd y.2 → ∀ h', mm h' ((tp, bt), (fk, fp), v, (mo, ni, bs), U, im, tr) → az_fr hp h' 64 93 → Q (some (.long (lN (fa_h (cs_g y.2) y.2.length 0 (ln_str (rd_w v) bs))))) h') : az_M mX12_occurs d 0 0 [.ref 64, .int x] hp Q := by
  obtain ⟨sc0, A0, tf0, hI0, rs0, rm0, nu0, o1, o2, -⟩ := id hM
  have hgd : rd_good v := hok.2.2.1
  have hw : ln_ok (rd_w v) := hgd.1
  have hba : ln_ba (rd_w v) bs := hok.2.2.2.1
  have hb : ln_by (rd_w v) bs := hba.b
  have hlen := hb.2.2
  have h60 := hb.1
  have hU10 : U.length ≤ 10 := hok.2.2.2.2.1
  have ht1 := hw.1
  have ht3 := hw.2.1
  refine az_M.of rfl (Nat.le_of_ble_eq_true rfl) ?_
  show az_W _ _ _ _ 0 [(0, .ref 64), (1, .int x)] [] _ _
  refine az_aload_n dX12_occurs_0 ?_
  refine az_iconst (v := nI 0) dX12_occurs_1 ?_
  refine az_putf (fs' := [.int (nI 0), .ref 65, .ref 66, .ref 67, .ref 68, sc0 5, fI (sc0 6), sc0 7, sc0 8, fI (sc0 9), fI (sc0 10), sc0 11, fI (sc0 12), sc0 13, sc0 14, .ref 69, .ref 70, .ref 71, sc0 18, .ref 72, .ref 73, .ref 74, sc0 22, sc0 23, .ref 75, sc0 25, .ref 76, .ref 77, .ref 78, sc0 29, .ref 79, .ref 80, .ref 81, .ref 82, .ref 83, .ref 84, .ref 85, sc0 37, .ref 86, .ref 87, .ref 88, .ref 89, .ref 90, .ref 91, .ref 92]) dX12_occurs_2 fl_X12_1 o1 ?_
  obtain ⟨h1, hf1, hM1, hh1⟩ : ∃ h1, az_fr hp h1 64 93 ∧ mm h1 ((tp, bt), (fk, fp), v, (mo, ni, bs), U, im, tr) ∧ h1 = az_up hp 64 (mo_o (su sc0 0 (.int (nI 0)))) := ⟨_, az_fr.rf.up, hM.O (sc := su sc0 0 (.int (nI 0))) o2.1 o2.2.1 o2.2.2, rfl⟩
  rw [show (az_up hp 64 (az_O 11 [.int (nI 0), .ref 65, .ref 66, .ref 67, .ref 68, sc0 5, fI (sc0 6), sc0 7, sc0 8, fI (sc0 9), fI (sc0 10), sc0 11, fI (sc0 12), sc0 13, sc0 14, .ref 69, .ref 70, .ref 71, sc0 18, .ref 72, .ref 73, .ref 74, sc0 22, sc0 23, .ref 75, sc0 25, .ref 76, .ref 77, .ref 78, sc0 29, .ref 79, .ref 80, .ref 81, .ref 82, .ref 83, .ref 84, .ref 85, sc0 37, .ref 86, .ref 87, .ref 88, .ref 89, .ref 90, .ref 91, .ref 92])) = h1 from hh1.symm]
  obtain ⟨sc, A, tf, hI, rs, rm, nu, a1, a2, a3, a4, a5, a6, a7, a8, a9, a10, a11, a12, a13, a14⟩ := id hM1
  have a4 : mT A v (mo, ni, bs) := a4
  have a5 : mU A U := a5
  have a7 : mI A hI im := a7
  have a9 : ∀ j, j < tp → tf j = bt j := a9
  have a13 : mR rs rm nu tr := a13
  obtain ⟨f77, e77⟩ := a14.I (q := 77) (n := 6)
  refine az_aload_n dX12_occurs_5 ?_
  refine az_iload_n dX12_occurs_6 ?_
  refine az_cV0 (st := []) dX12_occurs_7 ml_X12_383 a1 (m_noWord (d := d - 1) (by omega) a1 a10 a11 a12 a13 ?_ ?_ ?_ ?_ ?_)
  · intro hno
    refine az_istore_n (ls' := [(0, .ref 64), (1, .int x), (2, .int ((-2)))]) dX12_occurs_10 ?_
    refine az_iload_n dX12_occurs_11 ?_
    refine az_if_eq (tgt := 18) dX12_occurs_12 (fun c12 => ?_) (fun c12 => ?_)
    · exact absurd c12 (by decide)
    · refine az_iload_n dX12_occurs_15 ?_
      refine az_i2l dX12_occurs_16 ?_
      exact az_lret dX12_occurs_17 (by first | exact hQ2 hno h1 hM1 hf1 | exact hQ6 n hx hn hno h1 hM1 hf1 | exact hQ4 n y hx hn hy hno h1 hM1 hf1 | exact hQ3 n y hx hn hy h1' h6' hno h1 hM1 hf1)
  · intro n hx hn hno
    refine az_istore_n (ls' := [(0, .ref 64), (1, .int x), (2, .int ((-6)))]) dX12_occurs_10 ?_
    refine az_iload_n dX12_occurs_11 ?_
    refine az_if_eq (tgt := 18) dX12_occurs_12 (fun c12 => ?_) (fun c12 => ?_)
    · exact absurd c12 (by decide)
    · refine az_iload_n dX12_occurs_15 ?_
      refine az_i2l dX12_occurs_16 ?_
      exact az_lret dX12_occurs_17 (by first | exact hQ2 hno h1 hM1 hf1 | exact hQ6 n hx hn hno h1 hM1 hf1 | exact hQ4 n y hx hn hy hno h1 hM1 hf1 | exact hQ3 n y hx hn hy h1' h6' hno h1 hM1 hf1)
  · intro n y hx hn hy hno
    refine az_istore_n (ls' := [(0, .ref 64), (1, .int x), (2, .int ((-4)))]) dX12_occurs_10 ?_
    refine az_iload_n dX12_occurs_11 ?_
    refine az_if_eq (tgt := 18) dX12_occurs_12 (fun c12 => ?_) (fun c12 => ?_)
    · exact absurd c12 (by decide)
    · refine az_iload_n dX12_occurs_15 ?_
      refine az_i2l dX12_occurs_16 ?_
      exact az_lret dX12_occurs_17 (by first | exact hQ2 hno h1 hM1 hf1 | exact hQ6 n hx hn hno h1 hM1 hf1 | exact hQ4 n y hx hn hy hno h1 hM1 hf1 | exact hQ3 n y hx hn hy h1' h6' hno h1 hM1 hf1)
  · intro n y hx hn hy h1' h6' hno
    refine az_istore_n (ls' := [(0, .ref 64), (1, .int x), (2, .int ((-3)))]) dX12_occurs_10 ?_
    refine az_iload_n dX12_occurs_11 ?_
    refine az_if_eq (tgt := 18) dX12_occurs_12 (fun c12 => ?_) (fun c12 => ?_)
    · exact absurd c12 (by decide)
    · refine az_iload_n dX12_occurs_15 ?_
      refine az_i2l dX12_occurs_16 ?_
      exact az_lret dX12_occurs_17 (by first | exact hQ2 hno h1 hM1 hf1 | exact hQ6 n hx hn hno h1 hM1 hf1 | exact hQ4 n y hx hn hy hno h1 hM1 hf1 | exact hQ3 n y hx hn hy h1' h6' hno h1 hM1 hf1)
  · intro n y hx hn hy h1' h6' hwd
    have h3 := a13 n hn
    rw [hy] at h3
    obtain ⟨r1, r2, r3, r4, r5⟩ := h3
    refine az_istore_n (ls' := [(0, .ref 64), (1, .int x), (2, .int (nI 0))]) dX12_occurs_10 ?_
    refine az_iload_n dX12_occurs_11 ?_
    refine az_if_eqN (tgt := 18) dX12_occurs_12 (fun c12 => ?_) (fun c12 => ?_)
    · subst hx
      refine az_aload_n dX12_occurs_18 ?_
      refine az_iload_n dX12_occurs_19 ?_
      refine az_cV0 (st := []) dX12_occurs_20 ml_X12_386 a1 (m_laysSpelling (d := d - 1) (n := n) (y := y) hn a1 a11 a12 e77 r2 h6' r5 hwd ?_)
      intro f9 hf9
      refine az_aload_n dX12_occurs_23 ?_
      refine az_cV0 (st := []) dX12_occurs_24 ml_X12_389 (az_up_ne az_up_eq) (m_laysHits (d := d - 1) (nw := y.2.length) (g := cs_g y.2) (sc := su sc 29 (.int (nI y.2.length))) (by omega) h1' h6' hw hb (az_up_ne az_up_eq) rfl (az_up_ne (az_up_ne a3)) a4 az_up_eq hf9 (fun i hi => (hwd i hi).2) (mk.uI (mk.uO a14) rfl) ?_)
      intro h2 rT hH c76 c78 hE mk2 mf2
      exact m_occursW hw hb h1' h6' (mf2.at (az_up_ne az_up_eq)) (mf2.at (az_up_ne (az_up_ne a3))) a4 c76 c78 hE (hQ n y rfl hn hy h1' h6' hwd h2 (hM1.of (L := [64, 76, 77, 78]) (((mf.rf.up (by decide)).up (by decide)).tr (mf2.wk (L' := [64, 76, 77, 78])) (by decide)) (by decide) mk2 (mf2.at (az_up_ne az_up_eq)) a2.1 a2.2.1 a2.2.2) (hf1.tr (mf.fr (L := [64, 76, 77, 78]) (((mf.rf.up (by decide)).up (by decide)).tr (mf2.wk (L' := [64, 76, 77, 78])) (by decide)))))
    · exact absurd c12 (by omega)
theorem lN_sh (p n : Nat) : lN p - lN n + lN 1 = lN (p + 1) - lN n := by
  apply Int64.toBitVec_inj.mp
  rw [Int64.toBitVec_add, Int64.toBitVec_sub, Int64.toBitVec_sub]
  rw [show (lN (p + 1)).toBitVec = (lN p).toBitVec + (lN 1).toBitVec from (by show BitVec.ofNat 64 (p + 1) = BitVec.ofNat 64 p + BitVec.ofNat 64 1; rw [BitVec.ofNat_add])]
  rw [BitVec.sub_eq_add_neg, BitVec.sub_eq_add_neg, BitVec.add_assoc, BitVec.add_assoc, BitVec.add_comm (-_)]
theorem run_mP {w : ln_W} {bs : List Nat} {k x : Nat} (h : k < bs.length) : ln_run w (bs.drop (k + 1)) (mP w bs (k + 1) (some x)) = ln_run w (bs.drop k) [x] := by
  rw [mP, ← run_take h, List.take_of_length_le (by rw [ln_sub_len]; exact Nat.le_refl _)]
theorem run_get {w : ln_W} {bs l : List Nat} {i x : Nat} (h : l[i]? = some x) : ln_run w bs (l.drop i) = ln_run w bs [x] ++ ln_run w bs (l.drop (i + 1)) := by
  obtain ⟨h1, h2⟩ := List.getElem?_eq_some_iff.mp h
  rw [List.drop_eq_getElem_cons h1, h2, show ∀ (y : Nat) (l : List Nat), y :: l = [y] ++ l from fun _ _ => rfl, ln_run_app]
set_option maxRecDepth 100000 in
theorem m_first156 {d : Nat} {n0 rd k9 i : Nat} {q : Nat} {c : Int32} {hp : az_Hp} {Q : Option Value → az_Hp → Prop} (hQ : Q (some (.long (-1))) hp) : az_W mX12_first d 0 0 156 [(0, .ref 64), (1, .int (nI n0)), (2, .int (nI 0)), (3, .int (nI rd)), (4, .long (lN q)), (6, .int c), (7, .int (nI k9)), (8, .int (nI i)), (9, .int (ln_opt none))] [] hp Q := by
  refine az_iload dX12_first_156 ?_
  refine az_iconst (v := (-1)) dX12_first_158 ?_
  refine az_icmp_ne (tgt := 166) dX12_first_159 (fun c159 => ?_) (fun c159 => ?_)
  · exact absurd rfl c159
  · refine az_ldc2 (v := (-1)) dX12_first_162 cn_X12_307 ?_
    exact az_lret dX12_first_165 (hQ)
set_option maxHeartbeats 4000000 in
set_option maxRecDepth 100000 in
theorem m_firstW {d : Nat} {sc : Nat → Value} {A : Nat → Nat} {v : rd_V} {mo ni : Nat} {bs : List Nat} {hp : az_Hp} {Q : Option Value → az_Hp → Prop} {n0 nw : Nat} {g rT hH g1 : Nat → Nat} {R : Option Nat} (hd : 2 ≤ d) (hw : ln_ok (rd_w v)) (hb : ln_by (rd_w v) bs) (hn1 : 1 ≤ nw) (hn6 : nw ≤ 6) (h64 : hp.2 64 = some (mo_o sc)) (h29 : sc 29 = .int (nI nw)) (h65 : hp.2 65 = some (az_I 3318 (fun j => nI (A j)))) (hT : mT A v (mo, ni, bs)) (h70 : hp.2 70 = some (az_J 366 (fun j => lN (g1 j)))) (hm : mc (rd_w v) bs (fun _ => 1) g1) (h76 : hp.2 76 = some (az_I 2196 (fun j => nI (rT j)))) (h78 : hp.2 78 = some (az_J 2196 (fun j => lN (hH j)))) (hE : ∀ k y s, k ≤ bs.length → y < 6 → s < nw → fm_E (rd_w v) bs g nw rT hH k y s) (hR : fa_f g nw 0 0 (ln_str (rd_w v) bs) = R) (hQn : R = none → Q (some (.long (-1))) hp) (hQs : ∀ p, R = some p → Q (some (.long (lN p - lN nw + lN 1))) hp) : az_W mX12_first d 0 0 31 [(0, .ref 64), (1, .int (nI n0)), (2, .int (nI 0))] [] hp Q := by
  have hlen := hb.2.2
  have h60 := hb.1
  have hA113 : A 113 = bs.length := hT.2.2.2.1
  have h64' : hp.2 64 = some (az_O 11 [sc 0, .ref 65, .ref 66, .ref 67, .ref 68, sc 5, fI (sc 6), sc 7, sc 8, fI (sc 9), fI (sc 10), sc 11, fI (sc 12), sc 13, sc 14, .ref 69, .ref 70, .ref 71, sc 18, .ref 72, .ref 73, .ref 74, sc 22, sc 23, .ref 75, sc 25, .ref 76, .ref 77, .ref 78, .int (nI nw), .ref 79, .ref 80, .ref 81, .ref 82, .ref 83, .ref 84, .ref 85, sc 37, .ref 86, .ref 87, .ref 88, .ref 89, .ref 90, .ref 91, .ref 92]) := by rw [← h29]; exact h64
  have inner : ∀ (k : Nat) (k9 i : Nat) (c : Option Nat) (rd q : Nat) (hk9 : k9 ≤ bs.length) (hc : ∀ x, c = some x → x < 6) (hc1 : k9 ≠ 0 → ∃ x, c = some x) (hK : ∀ (i rd q x : Nat), x < 6 → rd < nw → 0 < fa_h g nw rd (ln_run (rd_w v) (bs.drop k9) [x]) → (ln_run (rd_w v) (bs.drop k9) [x]).length ≤ (ln_str (rd_w v) bs).length → fa_f g nw rd q (ln_run (rd_w v) (bs.drop k9) [x]) = R → az_W mX12_first d 0 0 156 [(0, .ref 64), (1, .int (nI n0)), (2, .int (nI 0)), (3, .int (nI rd)), (4, .long (lN q)), (6, .int (ln_opt c)), (7, .int (nI k9)), (8, .int (nI i)), (9, .int (nI x))] [] hp Q), 12 - i = k → (i ≤ 12) → (rd < nw) → ((ln_run (rd_w v) (bs.drop k9) ((mP (rd_w v) bs k9 c).drop i)).length ≤ (ln_str (rd_w v) bs).length) → (fa_f g nw rd q (ln_run (rd_w v) (bs.drop k9) ((mP (rd_w v) bs k9 c).drop i)) = R) → az_W mX12_first d 0 0 70 [(0, .ref 64), (1, .int (nI n0)), (2, .int (nI 0)), (3, .int (nI rd)), (4, .long (lN q)), (6, .int (ln_opt c)), (7, .int (nI k9)), (8, .int (nI i)), (9, .int (ln_opt (mP (rd_w v) bs k9 c)[i]?))] [] hp Q := by
    intro k
    induction k using Nat.strongRecOn with
    | _ k ih =>
    intro k9 i c rd q hk9 hc hc1 hK hk hi hrd hLn hF
    have hP12 := mP_len hw (bs := bs) (k := k9) (c := c)
    refine az_iload dX12_first_70 ?_
    refine az_iconst (v := (-1)) dX12_first_72 ?_
    refine az_icmp_eq (tgt := 156) dX12_first_73 (fun c73 => ?_) (fun c73 => ?_)
    · first | (rw [hrg, fa_f_app1 (by omega)] at hF; exact hK i rd q x hx6 hrd (by omega) hL1 hF) | (have hn := opt_none (fun x hx => mP_lt hw (List.mem_of_getElem? hx)) c73; rw [List.drop_eq_nil_of_le (List.getElem?_eq_none_iff.mp hn), ln_run_empty] at hF; rw [hn]; exact m_first156 (hQn hF.symm))
    · obtain ⟨x, hx⟩ := opt_some c73
      have hx6 : x < 6 := mP_lt hw (List.mem_of_getElem? hx)
      have hil : i < (mP (rd_w v) bs k9 c).length := (List.getElem?_eq_some_iff.mp hx).1
      rw [hx, show ln_opt (some x) = nI x from rfl]
      have hEx := hE k9 x rd hk9 hx6 hrd
      unfold fm_E at hEx
      have hrg := run_get (w := rd_w v) (bs := bs.drop k9) hx
      have hL1 : (ln_run (rd_w v) (bs.drop k9) [x]).length ≤ (ln_str (rd_w v) bs).length := (by rw [hrg, List.length_append] at hLn; omega)
      have hgx : g1 (6 * k9 + x) = (ln_run (rd_w v) (bs.drop k9) [x]).length := (by rw [hm k9 x hk9 hx6, ln_wT, wl_len, Nat.min_eq_left (by omega)])
      have hhl := fa_h_le g nw rd (ln_run (rd_w v) (bs.drop k9) [x])
      refine az_aload_n dX12_first_76 ?_
      refine az_getf (v := .ref 78) dX12_first_77 fl_X12_58 h64' ?_
      refine az_bipush (v := nI 6) dX12_first_80 ?_
      refine az_bipush (v := nI 6) dX12_first_82 ?_
      refine az_iload dX12_first_84 ?_
      refine az_imulN dX12_first_86 ?_
      refine az_iload dX12_first_87 ?_
      refine az_iaddN dX12_first_89 ?_
      refine az_imulN dX12_first_90 ?_
      refine az_iload_n dX12_first_91 ?_
      refine az_iaddN dX12_first_92 ?_
      refine az_laldN (j := (6 * ((6 * k9) + x)) + rd) dX12_first_93 h78 ?_
      rw [hEx.2, Nat.min_eq_left (by omega)]
      refine az_lconst (v := lN 0) dX12_first_94 ?_
      refine az_lcmp_neN (tgt := 156) dX12_first_95 dX12_first_96 (fun c95 => ?_) (fun c95 => ?_)
      · first | (rw [hrg, fa_f_app1 (by omega)] at hF; exact hK i rd q x hx6 hrd (by omega) hL1 hF) | (have hn := opt_none (fun x hx => mP_lt hw (List.mem_of_getElem? hx)) c73; rw [List.drop_eq_nil_of_le (List.getElem?_eq_none_iff.mp hn), ln_run_empty] at hF; rw [hn]; exact m_first156 (hQn hF.symm))
      · refine az_lload dX12_first_99 ?_
        refine az_aload_n dX12_first_101 ?_
        refine az_getf (v := .ref 70) dX12_first_102 fl_X12_33 h64' ?_
        refine az_bipush (v := nI 6) dX12_first_105 ?_
        refine az_iload dX12_first_107 ?_
        refine az_imulN dX12_first_109 ?_
        refine az_iload dX12_first_110 ?_
        refine az_iaddN dX12_first_112 ?_
        refine az_laldN (j := (6 * k9) + x) dX12_first_113 h70 ?_
        rw [hgx]
        refine az_laddN dX12_first_114 ?_
        refine az_lstore (ls' := [(0, .ref 64), (1, .int (nI n0)), (2, .int (nI 0)), (3, .int (nI rd)), (4, .long (lN (q + ((ln_run (rd_w v) (bs.drop k9) [x]).length)))), (6, .int (ln_opt c)), (7, .int (nI k9)), (8, .int (nI i)), (9, .int (nI x))]) dX12_first_115 ?_
        refine az_aload_n dX12_first_117 ?_
        refine az_getf (v := .ref 76) dX12_first_118 fl_X12_52 h64' ?_
        refine az_bipush (v := nI 6) dX12_first_121 ?_
        refine az_bipush (v := nI 6) dX12_first_123 ?_
        refine az_iload dX12_first_125 ?_
        refine az_imulN dX12_first_127 ?_
        refine az_iload dX12_first_128 ?_
        refine az_iaddN dX12_first_130 ?_
        refine az_imulN dX12_first_131 ?_
        refine az_iload_n dX12_first_132 ?_
        refine az_iaddN dX12_first_133 ?_
        refine az_ialdN (j := (6 * ((6 * k9) + x)) + rd) dX12_first_134 h76 ?_
        rw [hEx.1]
        refine az_istore_n (ls' := [(0, .ref 64), (1, .int (nI n0)), (2, .int (nI 0)), (3, .int (nI (fa_s g nw rd (ln_run (rd_w v) (bs.drop k9) [x])))), (4, .long (lN (q + ((ln_run (rd_w v) (bs.drop k9) [x]).length)))), (6, .int (ln_opt c)), (7, .int (nI k9)), (8, .int (nI i)), (9, .int (nI x))]) dX12_first_135 ?_
        refine az_iincN (n := 1) (ls' := [(0, .ref 64), (1, .int (nI n0)), (2, .int (nI 0)), (3, .int (nI (fa_s g nw rd (ln_run (rd_w v) (bs.drop k9) [x])))), (4, .long (lN (q + ((ln_run (rd_w v) (bs.drop k9) [x]).length)))), (6, .int (ln_opt c)), (7, .int (nI k9)), (8, .int (nI (i + 1))), (9, .int (nI x))]) dX12_first_136 ?_
        refine az_aload_n dX12_first_139 ?_
        refine az_iload dX12_first_140 ?_
        refine az_iconst (v := nI 1) dX12_first_142 ?_
        refine az_isub dX12_first_143 ?_
        refine az_iload dX12_first_144 ?_
        refine az_iload dX12_first_146 ?_
        refine az_cV0 (st := []) dX12_first_148 ml_X12_264 h64' (m_partOf (d := d - 1) (v := v) (k := k9) (c := c) (i := i + 1) (by omega) hw hb hk9 hc hc1 (by omega) h64 h65 hT ?_)
        refine az_istore (ls' := [(0, .ref 64), (1, .int (nI n0)), (2, .int (nI 0)), (3, .int (nI (fa_s g nw rd (ln_run (rd_w v) (bs.drop k9) [x])))), (4, .long (lN (q + ((ln_run (rd_w v) (bs.drop k9) [x]).length)))), (6, .int (ln_opt c)), (7, .int (nI k9)), (8, .int (nI (i + 1))), (9, .int (ln_opt (mP (rd_w v) bs k9 c)[i + 1]?))]) dX12_first_151 ?_
        refine az_goto (tgt := 70) dX12_first_153 ?_
        rw [hrg, fa_f_app0 (by omega)] at hF
        exact ih _ (by omega) k9 (i + 1) c (fa_s g nw rd (ln_run (rd_w v) (bs.drop k9) [x])) (q + (ln_run (rd_w v) (bs.drop k9) [x]).length) hk9 hc hc1 hK rfl (by omega) (fa_s_lt _ hrd) (by rw [hrg, List.length_append] at hLn; omega) hF
  have outer : ∀ (k : Nat) (k9 : Nat) (c : Option Nat) (rd q : Nat), bs.length + 1 - k9 = k → (k9 ≤ bs.length + 1) → (rd < nw) → (∀ x, c = some x → x < 6) → (k9 ≠ 0 → ∃ x, c = some x) → (k9 ≤ bs.length → (ln_run (rd_w v) (bs.drop k9) (mP (rd_w v) bs k9 c)).length ≤ (ln_str (rd_w v) bs).length ∧ fa_f g nw rd q (ln_run (rd_w v) (bs.drop k9) (mP (rd_w v) bs k9 c)) = R) → (k9 = bs.length + 1 → R = some q) → az_W mX12_first d 0 0 42 [(0, .ref 64), (1, .int (nI n0)), (2, .int (nI 0)), (3, .int (nI rd)), (4, .long (lN q)), (6, .int (ln_opt c)), (7, .int (nI k9))] [] hp Q := by
    intro k
    induction k using Nat.strongRecOn with
    | _ k ih =>
    intro k9 c rd q hk hk9 hrd hc hc1 hS hS2
    refine az_iload dX12_first_42 ?_
    refine az_aload_n dX12_first_44 ?_
    refine az_getf (v := .ref 65) dX12_first_45 fl_X12_13 h64' ?_
    refine az_bipush (v := nI 113) dX12_first_48 ?_
    refine az_ialdN (j := 113) dX12_first_50 h65 ?_
    rw [hA113]
    refine az_icmp_gtN (tgt := 176) dX12_first_51 (fun c51 => ?_) (fun c51 => ?_)
    · refine az_lload dX12_first_176 ?_
      refine az_aload_n dX12_first_178 ?_
      refine az_getf (v := .int (nI nw)) dX12_first_179 fl_X12_376 h64' ?_
      refine az_i2lN dX12_first_182 ?_
      refine az_lsub dX12_first_183 ?_
      refine az_lconst (v := lN 1) dX12_first_184 ?_
      refine az_ladd dX12_first_185 ?_
      exact az_lret dX12_first_186 (hQs q (hS2 (by omega)))
    · refine az_iconst (v := nI 0) dX12_first_54 ?_
      refine az_istore (ls' := [(0, .ref 64), (1, .int (nI n0)), (2, .int (nI 0)), (3, .int (nI rd)), (4, .long (lN q)), (6, .int (ln_opt c)), (7, .int (nI k9)), (8, .int (nI 0))]) dX12_first_55 ?_
      refine az_aload_n dX12_first_57 ?_
      refine az_iload dX12_first_58 ?_
      refine az_iconst (v := nI 1) dX12_first_60 ?_
      refine az_isub dX12_first_61 ?_
      refine az_iload dX12_first_62 ?_
      refine az_iconst (v := nI 0) dX12_first_64 ?_
      refine az_cV0 (st := []) dX12_first_65 ml_X12_264 h64' (m_partOf (d := d - 1) (v := v) (k := k9) (c := c) (i := 0) (by omega) hw hb (by omega) hc hc1 (by omega) h64 h65 hT ?_)
      refine az_istore (ls' := [(0, .ref 64), (1, .int (nI n0)), (2, .int (nI 0)), (3, .int (nI rd)), (4, .long (lN q)), (6, .int (ln_opt c)), (7, .int (nI k9)), (8, .int (nI 0)), (9, .int (ln_opt (mP (rd_w v) bs k9 c)[0]?))]) dX12_first_68 ?_
      refine inner _ k9 0 c rd q (by omega) hc hc1 ?_ rfl (Nat.zero_le _) hrd (by rw [List.drop_zero]; exact (hS (by omega)).1) (by rw [List.drop_zero]; exact (hS (by omega)).2)
      intro i rd q x hx6 hrd hpos hL1 hF
      refine az_iload dX12_first_156 ?_
      refine az_iconst (v := (-1)) dX12_first_158 ?_
      refine az_icmp_ne (tgt := 166) dX12_first_159 (fun c159 => ?_) (fun c159 => ?_)
      · refine az_iload dX12_first_166 ?_
        refine az_istore (ls' := [(0, .ref 64), (1, .int (nI n0)), (2, .int (nI 0)), (3, .int (nI rd)), (4, .long (lN q)), (6, .int (nI x)), (7, .int (nI k9)), (8, .int (nI i)), (9, .int (nI x))]) dX12_first_168 ?_
        refine az_iincN (n := 1) (ls' := [(0, .ref 64), (1, .int (nI n0)), (2, .int (nI 0)), (3, .int (nI rd)), (4, .long (lN q)), (6, .int (nI x)), (7, .int (nI (k9 + 1))), (8, .int (nI i)), (9, .int (nI x))]) dX12_first_170 ?_
        refine az_goto (tgt := 42) dX12_first_173 ?_
        refine az_W.keep (ls' := [(0, .ref 64), (1, .int (nI n0)), (2, .int (nI 0)), (3, .int (nI rd)), (4, .long (lN q)), (6, .int (nI x)), (7, .int (nI (k9 + 1)))]) [0, 1, 2, 3, 4, 6, 7] rfl ?_
        exact ih _ (by omega) (k9 + 1) (some x) rd q rfl (by omega) hrd (fun y hy => by cases hy; exact hx6) (fun _ => ⟨x, rfl⟩) (fun hle => (by rw [run_mP (by omega)]; exact ⟨hL1, hF⟩)) (fun hle => (by have e9 : k9 = bs.length := (by omega); rw [e9, List.drop_length] at hpos hF; rw [fa_f_one hpos] at hF; exact hF.symm))
      · exact absurd c159 (nI_ne_neg1 (by omega))
  refine az_iconst (v := nI 0) dX12_first_31 ?_
  refine az_istore_n (ls' := [(0, .ref 64), (1, .int (nI n0)), (2, .int (nI 0)), (3, .int (nI 0))]) dX12_first_32 ?_
  refine az_lconst (v := lN 0) dX12_first_33 ?_
  refine az_lstore (ls' := [(0, .ref 64), (1, .int (nI n0)), (2, .int (nI 0)), (3, .int (nI 0)), (4, .long (lN 0))]) dX12_first_34 ?_
  refine az_iconst (v := (-1)) dX12_first_36 ?_
  refine az_istore (ls' := [(0, .ref 64), (1, .int (nI n0)), (2, .int (nI 0)), (3, .int (nI 0)), (4, .long (lN 0)), (6, .int ((-1)))]) dX12_first_37 ?_
  refine az_iconst (v := nI 0) dX12_first_39 ?_
  refine az_istore (ls' := [(0, .ref 64), (1, .int (nI n0)), (2, .int (nI 0)), (3, .int (nI 0)), (4, .long (lN 0)), (6, .int ((-1))), (7, .int (nI 0))]) dX12_first_40 ?_
  exact outer _ 0 none 0 0 rfl (Nat.zero_le _) (by omega) (fun x hx => by cases hx) (fun h => absurd rfl h) (fun _ => ⟨Nat.le_of_eq rfl, hR⟩) (fun h => by omega)
set_option maxHeartbeats 4000000 in
set_option maxRecDepth 100000 in
theorem q_first {d : Nat} {x : Int32} {tp fk mo ni : Nat} {bt : Nat → Nat} {fp : Int32} {v : rd_V} {bs : List Nat} {U : ln_U} {im : Nat → Option (rd_V × ln_Z)} {tr : Nat → Option (Nat × List Int64)} {hp : az_Hp} {Q : Option Value → az_Hp → Prop} (hd : 4 ≤ d) (hok : cs_ok ((tp, bt), (fk, fp), v, (mo, ni, bs), U, im, tr)) (hM : mm hp ((tp, bt), (fk, fp), v, (mo, ni, bs), U, im, tr)) (hQ2 : (∀ n, n < 4 → x ≠ nI n) → ∀ h', mm h' ((tp, bt), (fk, fp), v, (mo, ni, bs), U, im, tr) → az_fr hp h' 64 93 → Q (some (.long (-2))) h') (hQ6 : ∀ n, x = nI n → n < 4 → tr n = none → ∀ h', mm h' ((tp, bt), (fk, fp), v, (mo, ni, bs), U, im, tr) → az_fr hp h' 64 93 → Q (some (.long (-6))) h') (hQ4 : ∀ n y, x = nI n → n < 4 → tr n = some y → ¬ (1 ≤ y.2.length ∧ y.2.length ≤ 6) → ∀ h', mm h' ((tp, bt), (fk, fp), v, (mo, ni, bs), U, im, tr) → az_fr hp h' 64 93 → Q (some (.long (-4))) h') (hQ3 : ∀ n y, x = nI n → n < 4 → tr n = some y → 1 ≤ y.2.length → y.2.length ≤ 6 → ¬ cs_wd y.2 → ∀ h', mm h' ((tp, bt), (fk, fp), v, (mo, ni, bs), U, im, tr) → az_fr hp h' 64 93 → Q (some (.long (-3))) h') (hQ : ∀ n y, x = nI n → n < 4 → tr n = some y → 1 ≤ y.2.length → y.2.length ≤ 6 → cs_wd y.2 → ∀ h', mm h' ((tp, bt), (fk, fp), v, (mo, ni, bs), U, im, tr) → az_fr hp h' 64 93 → Q (some (.long (cs_first y.2 (ln_str (rd_w v) bs)))) h') : az_M mX12_first d 0 0 [.ref 64, .int x] hp Q := by
  obtain ⟨sc0, A0, tf0, hI0, rs0, rm0, nu0, o1, o2, -⟩ := id hM
  have hgd : rd_good v := hok.2.2.1
  have hw : ln_ok (rd_w v) := hgd.1
  have hba : ln_ba (rd_w v) bs := hok.2.2.2.1
  have hb : ln_by (rd_w v) bs := hba.b
  have hlen := hb.2.2
  have h60 := hb.1
  have hU10 : U.length ≤ 10 := hok.2.2.2.2.1
  have ht1 := hw.1
  have ht3 := hw.2.1
  refine az_M.of rfl (Nat.le_of_ble_eq_true rfl) ?_
  show az_W _ _ _ _ 0 [(0, .ref 64), (1, .int x)] [] _ _
  refine az_aload_n dX12_first_0 ?_
  refine az_iconst (v := nI 0) dX12_first_1 ?_
  refine az_putf (fs' := [.int (nI 0), .ref 65, .ref 66, .ref 67, .ref 68, sc0 5, fI (sc0 6), sc0 7, sc0 8, fI (sc0 9), fI (sc0 10), sc0 11, fI (sc0 12), sc0 13, sc0 14, .ref 69, .ref 70, .ref 71, sc0 18, .ref 72, .ref 73, .ref 74, sc0 22, sc0 23, .ref 75, sc0 25, .ref 76, .ref 77, .ref 78, sc0 29, .ref 79, .ref 80, .ref 81, .ref 82, .ref 83, .ref 84, .ref 85, sc0 37, .ref 86, .ref 87, .ref 88, .ref 89, .ref 90, .ref 91, .ref 92]) dX12_first_2 fl_X12_1 o1 ?_
  obtain ⟨h1, hf1, hM1, hh1⟩ : ∃ h1, az_fr hp h1 64 93 ∧ mm h1 ((tp, bt), (fk, fp), v, (mo, ni, bs), U, im, tr) ∧ h1 = az_up hp 64 (mo_o (su sc0 0 (.int (nI 0)))) := ⟨_, az_fr.rf.up, hM.O (sc := su sc0 0 (.int (nI 0))) o2.1 o2.2.1 o2.2.2, rfl⟩
  rw [show (az_up hp 64 (az_O 11 [.int (nI 0), .ref 65, .ref 66, .ref 67, .ref 68, sc0 5, fI (sc0 6), sc0 7, sc0 8, fI (sc0 9), fI (sc0 10), sc0 11, fI (sc0 12), sc0 13, sc0 14, .ref 69, .ref 70, .ref 71, sc0 18, .ref 72, .ref 73, .ref 74, sc0 22, sc0 23, .ref 75, sc0 25, .ref 76, .ref 77, .ref 78, sc0 29, .ref 79, .ref 80, .ref 81, .ref 82, .ref 83, .ref 84, .ref 85, sc0 37, .ref 86, .ref 87, .ref 88, .ref 89, .ref 90, .ref 91, .ref 92])) = h1 from hh1.symm]
  obtain ⟨sc, A, tf, hI, rs, rm, nu, a1, a2, a3, a4, a5, a6, a7, a8, a9, a10, a11, a12, a13, a14⟩ := id hM1
  have a4 : mT A v (mo, ni, bs) := a4
  have a5 : mU A U := a5
  have a7 : mI A hI im := a7
  have a9 : ∀ j, j < tp → tf j = bt j := a9
  have a13 : mR rs rm nu tr := a13
  obtain ⟨f77, e77⟩ := a14.I (q := 77) (n := 6)
  refine az_aload_n dX12_first_5 ?_
  refine az_iload_n dX12_first_6 ?_
  refine az_cV0 (st := []) dX12_first_7 ml_X12_383 a1 (m_noWord (d := d - 1) (by omega) a1 a10 a11 a12 a13 ?_ ?_ ?_ ?_ ?_)
  · intro hno
    refine az_istore_n (ls' := [(0, .ref 64), (1, .int x), (2, .int ((-2)))]) dX12_first_10 ?_
    refine az_iload_n dX12_first_11 ?_
    refine az_if_eq (tgt := 18) dX12_first_12 (fun c12 => ?_) (fun c12 => ?_)
    · exact absurd c12 (by decide)
    · refine az_iload_n dX12_first_15 ?_
      refine az_i2l dX12_first_16 ?_
      exact az_lret dX12_first_17 (by first | exact hQ2 hno h1 hM1 hf1 | exact hQ6 n hx hn hno h1 hM1 hf1 | exact hQ4 n y hx hn hy hno h1 hM1 hf1 | exact hQ3 n y hx hn hy h1' h6' hno h1 hM1 hf1)
  · intro n hx hn hno
    refine az_istore_n (ls' := [(0, .ref 64), (1, .int x), (2, .int ((-6)))]) dX12_first_10 ?_
    refine az_iload_n dX12_first_11 ?_
    refine az_if_eq (tgt := 18) dX12_first_12 (fun c12 => ?_) (fun c12 => ?_)
    · exact absurd c12 (by decide)
    · refine az_iload_n dX12_first_15 ?_
      refine az_i2l dX12_first_16 ?_
      exact az_lret dX12_first_17 (by first | exact hQ2 hno h1 hM1 hf1 | exact hQ6 n hx hn hno h1 hM1 hf1 | exact hQ4 n y hx hn hy hno h1 hM1 hf1 | exact hQ3 n y hx hn hy h1' h6' hno h1 hM1 hf1)
  · intro n y hx hn hy hno
    refine az_istore_n (ls' := [(0, .ref 64), (1, .int x), (2, .int ((-4)))]) dX12_first_10 ?_
    refine az_iload_n dX12_first_11 ?_
    refine az_if_eq (tgt := 18) dX12_first_12 (fun c12 => ?_) (fun c12 => ?_)
    · exact absurd c12 (by decide)
    · refine az_iload_n dX12_first_15 ?_
      refine az_i2l dX12_first_16 ?_
      exact az_lret dX12_first_17 (by first | exact hQ2 hno h1 hM1 hf1 | exact hQ6 n hx hn hno h1 hM1 hf1 | exact hQ4 n y hx hn hy hno h1 hM1 hf1 | exact hQ3 n y hx hn hy h1' h6' hno h1 hM1 hf1)
  · intro n y hx hn hy h1' h6' hno
    refine az_istore_n (ls' := [(0, .ref 64), (1, .int x), (2, .int ((-3)))]) dX12_first_10 ?_
    refine az_iload_n dX12_first_11 ?_
    refine az_if_eq (tgt := 18) dX12_first_12 (fun c12 => ?_) (fun c12 => ?_)
    · exact absurd c12 (by decide)
    · refine az_iload_n dX12_first_15 ?_
      refine az_i2l dX12_first_16 ?_
      exact az_lret dX12_first_17 (by first | exact hQ2 hno h1 hM1 hf1 | exact hQ6 n hx hn hno h1 hM1 hf1 | exact hQ4 n y hx hn hy hno h1 hM1 hf1 | exact hQ3 n y hx hn hy h1' h6' hno h1 hM1 hf1)
  · intro n y hx hn hy h1' h6' hwd
    have h3 := a13 n hn
    rw [hy] at h3
    obtain ⟨r1, r2, r3, r4, r5⟩ := h3
    refine az_istore_n (ls' := [(0, .ref 64), (1, .int x), (2, .int (nI 0))]) dX12_first_10 ?_
    refine az_iload_n dX12_first_11 ?_
    refine az_if_eqN (tgt := 18) dX12_first_12 (fun c12 => ?_) (fun c12 => ?_)
    · subst hx
      refine az_aload_n dX12_first_18 ?_
      refine az_iload_n dX12_first_19 ?_
      refine az_cV0 (st := []) dX12_first_20 ml_X12_386 a1 (m_laysSpelling (d := d - 1) (n := n) (y := y) hn a1 a11 a12 e77 r2 h6' r5 hwd ?_)
      intro f9 hf9
      refine az_aload_n dX12_first_23 ?_
      refine az_cV0 (st := []) dX12_first_24 ml_X12_389 (az_up_ne az_up_eq) (m_laysHits (d := d - 1) (nw := y.2.length) (g := cs_g y.2) (sc := su sc 29 (.int (nI y.2.length))) (by omega) h1' h6' hw hb (az_up_ne az_up_eq) rfl (az_up_ne (az_up_ne a3)) a4 az_up_eq hf9 (fun i hi => (hwd i hi).2) (mk.uI (mk.uO a14) rfl) ?_)
      intro h2 rT hH c76 c78 hE mk2 mf2
      obtain ⟨f70, c70⟩ := mk2.J (q := 70) (n := 366)
      refine az_aload_n dX12_first_27 ?_
      refine az_cV0 (st := []) dX12_first_28 ml_X12_253 (mf2.at (az_up_ne az_up_eq)) (m_laysLong (d := d - 1) (sc := su sc 29 (.int (nI y.2.length))) (by omega) hw hb (mf2.at (az_up_ne az_up_eq)) (mf2.at (az_up_ne (az_up_ne a3))) a4 c70 ?_)
      intro g1 hm
      refine m_firstW (sc := su sc 29 (.int (nI y.2.length))) (by omega) hw hb h1' h6' (az_up_ne (mf2.at (az_up_ne az_up_eq))) rfl (az_up_ne (mf2.at (az_up_ne (az_up_ne a3)))) a4 az_up_eq hm (az_up_ne c76) (az_up_ne c78) hE rfl (fun e => ?_) (fun p e => ?_)
      all_goals (have hq := hQ n y rfl hn hy h1' h6' hwd _ ((hM1.of (L := [64, 76, 77, 78]) (((mf.rf.up (by decide)).up (by decide)).tr (mf2.wk (L' := [64, 76, 77, 78])) (by decide)) (by decide) mk2 (mf2.at (az_up_ne az_up_eq)) a2.1 a2.2.1 a2.2.2).J (q := 70) (n := 366) (f := fun j => lN (g1 j))) ((hf1.tr (mf.fr (L := [64, 76, 77, 78]) (((mf.rf.up (by decide)).up (by decide)).tr (mf2.wk (L' := [64, 76, 77, 78])) (by decide)))).up); unfold cs_first at hq; rw [e] at hq; first | exact hq | (rw [lN_sh]; exact hq))
    · exact absurd c12 (by omega)

