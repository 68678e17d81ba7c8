/-! The model: letters into a tray; images -/
theorem getD_setE {l : List Int64} {i : Nat} {x : Int64} (h : i < l.length) : (l.set i x).getD i 0 = x := by
  rw [List.getD_eq_getElem?_getD, List.getElem?_set_self h]; rfl
theorem getD_setN {l : List Int64} {i j : Nat} {x : Int64} (h : ¬ j = i) : (l.set i x).getD j 0 = l.getD j 0 := by
  rw [List.getD_eq_getElem?_getD, List.getD_eq_getElem?_getD, List.getElem?_set_ne (fun q => h q.symm)]
set_option maxHeartbeats 4000000 in
set_option maxRecDepth 100000 in
theorem m_listsW {d : Nat} {sc : Nat → Value} {A : Nat → Nat} {v : rd_V} {mo ni : Nat} {bs : List Nat} {hp : az_Hp} {Q : Option Value → az_Hp → Prop} {n m p9 : Nat} {y : Nat × List Int64} {g1 g2 : Nat → Nat} {nu : Nat → Int64} (hd : 3 ≤ d) (hw : ln_ok (rd_w v)) (hb : ln_by (rd_w v) bs) (hn : n < 4) (r4 : y.2.length ≤ 40) (hm9 : m ≤ y.2.length) (hmp : p9 + m ≤ (ln_str (rd_w v) bs).length) (h64 : hp.2 64 = some (mo_o sc)) (h65 : hp.2 65 = some (az_I 3318 (fun j => nI (A j)))) (hT : mT A v (mo, ni, bs)) (h70 : hp.2 70 = some (az_J 366 (fun j => lN (g1 j)))) (h71 : hp.2 71 = some (az_J 366 (fun j => lN (g2 j)))) (hm : mc (rd_w v) bs (fun _ => 1) g1) (h92 : hp.2 92 = some (az_J 160 nu)) (r5 : ∀ j, j < y.2.length → nu (40 * n + j) = y.2.getD j 0) (hQ : ∀ h' sc' nu', h'.2 64 = some (mo_o sc') → (∀ j, j ≠ 18 → sc' j = sc j) → h'.2 92 = some (az_J 160 nu') → (∀ j, j < y.2.length → nu' (40 * n + j) = (ls y.2 (ln_str (rd_w v) bs) p9 m).getD j 0) → (∀ q, (q < 40 * n ∨ 40 * n + 40 ≤ q) → nu' q = nu q) → mf hp h' [64, 92] → (mk hp → mk h') → Q (some (.int (nI m))) h') : az_W mX12_lists d 0 0 70 [(0, .ref 64), (1, .int (nI n)), (2, .long (lN p9)), (4, .int (nI 0)), (5, .long (lN (ln_str (rd_w v) bs).length)), (7, .int (nI m))] [] hp Q := by
  have hlen := hb.2.2
  have loop : ∀ (k : Nat) (i : Nat) (h' : az_Hp) (sc1 : Nat → Value) (nu1 : Nat → Int64), m - i = k → (i ≤ m) → (h'.2 64 = some (mo_o sc1)) → (∀ j, j ≠ 18 → sc1 j = sc j) → (h'.2 92 = some (az_J 160 nu1)) → (∀ j, j < y.2.length → nu1 (40 * n + j) = (ls y.2 (ln_str (rd_w v) bs) p9 i).getD j 0) → (∀ q, (q < 40 * n ∨ 40 * n + 40 ≤ q) → nu1 q = nu q) → (mf hp h' [64, 92]) → (mk hp → mk h') → az_W mX12_lists d 0 0 73 [(0, .ref 64), (1, .int (nI n)), (2, .long (lN p9)), (4, .int (nI 0)), (5, .long (lN ((ln_str (rd_w v) bs).length))), (7, .int (nI m)), (8, .int (nI i))] [] h' Q := by
    intro k
    induction k using Nat.strongRecOn with
    | _ k ih =>
    intro i h' sc1 nu1 hk hi b64 hs1 b92 hF hG mf1 mk1'
    refine az_iload dX12_lists_73 ?_
    refine az_iload dX12_lists_75 ?_
    refine az_icmp_geN (tgt := 108) dX12_lists_77 (fun c77 => ?_) (fun c77 => ?_)
    · refine az_iload dX12_lists_108 ?_
      exact az_iret dX12_lists_110 (by have e9 : i = m := (by omega); rw [e9] at hF; exact hQ h' sc1 nu1 b64 hs1 b92 hF hG mf1 mk1')
    · refine az_aload_n dX12_lists_80 ?_
      refine az_getf (v := .ref 92) dX12_lists_81 fl_X12_100 b64 ?_
      refine az_bipush (v := nI 40) dX12_lists_84 ?_
      refine az_iload_n dX12_lists_86 ?_
      refine az_imulN dX12_lists_87 ?_
      refine az_iload dX12_lists_88 ?_
      refine az_iaddN dX12_lists_90 ?_
      refine az_aload_n dX12_lists_91 ?_
      refine az_lload_n dX12_lists_92 ?_
      refine az_iload dX12_lists_93 ?_
      refine az_i2lN dX12_lists_95 ?_
      refine az_laddN dX12_lists_96 ?_
      refine az_cV0 (st := [.int (nI ((40 * n) + i)), .ref 92]) dX12_lists_97 ml_X12_267 b64 (m_comesTo (d := d - 1) (p := p9 + i) (g1 := g1) (g2 := g2) (r := GO (rd_w v) bs g1 g2 (p9 + i)) (by omega) hw hb b64 (mf1.at h65) hT (mf1.at h70) (mf1.at h71) (fun k x hk hx => hm.lt hk hx) (by omega) rfl ?_)
      rw [go_letter hm hw hb, List.getElem?_eq_getElem (show p9 + i < (ln_str (rd_w v) bs).length by omega), show ln_opt (some (ln_str (rd_w v) bs)[p9 + i]) = nI ((ln_str (rd_w v) bs).getD (p9 + i) 0) from (by rw [List.getD_eq_getElem?_getD, List.getElem?_eq_getElem (by omega)]; rfl)]
      have hc6 : (ln_str (rd_w v) bs).getD (p9 + i) 0 < 6 := ln_str_lt hw bs _ (by rw [List.getD_eq_getElem?_getD, List.getElem?_eq_getElem (show p9 + i < (ln_str (rd_w v) bs).length by omega)]; exact List.getElem_mem _)
      refine az_i2lN dX12_lists_100 ?_
      refine az_lastN (j := (40 * n) + i) dX12_lists_101 (az_up_ne b92) ?_
      refine az_iincN (n := 1) (ls' := [(0, .ref 64), (1, .int (nI n)), (2, .long (lN p9)), (4, .int (nI 0)), (5, .long (lN ((ln_str (rd_w v) bs).length))), (7, .int (nI m)), (8, .int (nI (i + 1)))]) dX12_lists_102 ?_
      refine az_goto (tgt := 73) dX12_lists_105 ?_
      exact ih _ (by omega) (i + 1) _ _ (az_s nu1 (40 * n + i) (lN ((ln_str (rd_w v) bs).getD (p9 + i) 0))) rfl (by omega) (az_up_ne az_up_eq) (fun j hj => by simp only [su, if_neg hj]; exact hs1 j hj) az_up_eq (fun j hj => (by show _ = ((ls y.2 (ln_str (rd_w v) bs) p9 i).set i (lN ((ln_str (rd_w v) bs).getD (p9 + i) 0))).getD j 0; by_cases e : j = i; rw [e, az_s_eq, getD_setE (by rw [ls_len]; omega)]; rw [az_s_ne (by omega), hF j hj, getD_setN e])) (fun q hq => (az_s_ne (by omega)).trans (hG q hq)) ((mf1.up (by decide)).up (by decide)) (fun hk9 => mk.uX (mk.uO (mk1' hk9)))
  refine az_iconst (v := nI 0) dX12_lists_70 ?_
  refine az_istore (ls' := [(0, .ref 64), (1, .int (nI n)), (2, .long (lN p9)), (4, .int (nI 0)), (5, .long (lN ((ln_str (rd_w v) bs).length))), (7, .int (nI m)), (8, .int (nI 0))]) dX12_lists_71 ?_
  exact loop _ 0 hp sc nu rfl (Nat.zero_le _) h64 (fun _ _ => rfl) h92 r5 (fun _ _ => rfl) mf.rf (fun q => q)
set_option maxHeartbeats 4000000 in
set_option maxRecDepth 100000 in
theorem q_lists {d : Nat} {x : Int32} {xp : Int64} {tp fk mo ni : Nat} {bt : Nat → Nat} {fp : Int32} {v : rd_V} {bs : List Nat} {U : ln_U} {im : Nat → Option (rd_V × ln_Z)} {tr : Nat → Option (Nat × List Int64)} {hp : az_Hp} {Q : Option Value → az_Hp → Prop} (hd : 4 ≤ d) (hok : cs_ok ((tp, bt), (fk, fp), v, (mo, ni, bs), U, im, tr)) (hM : mm hp ((tp, bt), (fk, fp), v, (mo, ni, bs), U, im, tr)) (hQ2 : (∀ n, n < 4 → x ≠ nI n) → ∀ h', mm h' ((tp, bt), (fk, fp), v, (mo, ni, bs), U, im, tr) → az_fr hp h' 64 93 → Q (some (.int (-2))) h') (hQ6 : ∀ n, x = nI n → n < 4 → tr n = none → ∀ h', mm h' ((tp, bt), (fk, fp), v, (mo, ni, bs), U, im, tr) → az_fr hp h' 64 93 → Q (some (.int (-6))) h') (hQ3 : ∀ n y, x = nI n → n < 4 → tr n = some y → (∀ p, p ≤ (ln_str (rd_w v) bs).length → xp ≠ lN p) → ∀ h', mm h' ((tp, bt), (fk, fp), v, (mo, ni, bs), U, im, tr) → az_fr hp h' 64 93 → Q (some (.int (-3))) h') (hQ : ∀ n y p9, x = nI n → n < 4 → tr n = some y → xp = lN p9 → p9 ≤ (ln_str (rd_w v) bs).length → ∀ h', mm h' ((tp, bt), (fk, fp), v, (mo, ni, bs), U, im, fun j9 => if j9 = n then some (y.1, ls y.2 (ln_str (rd_w v) bs) p9 (min y.2.length ((ln_str (rd_w v) bs).length - p9))) else tr j9) → az_fr hp h' 64 93 → Q (some (.int (nI (min y.2.length ((ln_str (rd_w v) bs).length - p9))))) h') : az_M mX12_lists d 0 0 [.ref 64, .int x, .long xp] hp Q := by
  obtain ⟨sc0, A0, tf0, hI0, rs0, rm0, nu0, o1, o2, -⟩ := id hM
  have hgd : rd_good v := hok.2.2.1
  have hw : ln_ok (rd_w v) := hgd.1
  have hba : ln_ba (rd_w v) bs := hok.2.2.2.1
  have hb : ln_by (rd_w v) bs := hba.b
  have hlen := hb.2.2
  have h60 := hb.1
  have hU10 : U.length ≤ 10 := hok.2.2.2.2.1
  have ht1 := hw.1
  have ht3 := hw.2.1
  refine az_M.of rfl (Nat.le_of_ble_eq_true rfl) ?_
  show az_W _ _ _ _ 0 [(0, .ref 64), (1, .int x), (2, .long xp)] [] _ _
  refine az_aload_n dX12_lists_0 ?_
  refine az_iconst (v := nI 0) dX12_lists_1 ?_
  refine az_putf (fs' := [.int (nI 0), .ref 65, .ref 66, .ref 67, .ref 68, sc0 5, fI (sc0 6), sc0 7, sc0 8, fI (sc0 9), fI (sc0 10), sc0 11, fI (sc0 12), sc0 13, sc0 14, .ref 69, .ref 70, .ref 71, sc0 18, .ref 72, .ref 73, .ref 74, sc0 22, sc0 23, .ref 75, sc0 25, .ref 76, .ref 77, .ref 78, sc0 29, .ref 79, .ref 80, .ref 81, .ref 82, .ref 83, .ref 84, .ref 85, sc0 37, .ref 86, .ref 87, .ref 88, .ref 89, .ref 90, .ref 91, .ref 92]) dX12_lists_2 fl_X12_1 o1 ?_
  obtain ⟨h1, hf1, hM1, hh1⟩ : ∃ h1, az_fr hp h1 64 93 ∧ mm h1 ((tp, bt), (fk, fp), v, (mo, ni, bs), U, im, tr) ∧ h1 = az_up hp 64 (mo_o (su sc0 0 (.int (nI 0)))) := ⟨_, az_fr.rf.up, hM.O (sc := su sc0 0 (.int (nI 0))) o2.1 o2.2.1 o2.2.2, rfl⟩
  rw [show (az_up hp 64 (az_O 11 [.int (nI 0), .ref 65, .ref 66, .ref 67, .ref 68, sc0 5, fI (sc0 6), sc0 7, sc0 8, fI (sc0 9), fI (sc0 10), sc0 11, fI (sc0 12), sc0 13, sc0 14, .ref 69, .ref 70, .ref 71, sc0 18, .ref 72, .ref 73, .ref 74, sc0 22, sc0 23, .ref 75, sc0 25, .ref 76, .ref 77, .ref 78, sc0 29, .ref 79, .ref 80, .ref 81, .ref 82, .ref 83, .ref 84, .ref 85, sc0 37, .ref 86, .ref 87, .ref 88, .ref 89, .ref 90, .ref 91, .ref 92])) = h1 from hh1.symm]
  obtain ⟨sc, A, tf, hI, rs, rm, nu, a1, a2, a3, a4, a5, a6, a7, a8, a9, a10, a11, a12, a13, a14⟩ := id hM1
  have a4 : mT A v (mo, ni, bs) := a4
  have a5 : mU A U := a5
  have a7 : mI A hI im := a7
  have a9 : ∀ j, j < tp → tf j = bt j := a9
  have a13 : mR rs rm nu tr := a13
  obtain ⟨f70, e70⟩ := a14.J (q := 70) (n := 366)
  obtain ⟨f71, e71⟩ := a14.J (q := 71) (n := 366)
  refine az_aload_n dX12_lists_5 ?_
  refine az_iload_n dX12_lists_6 ?_
  refine az_cV0 (st := []) dX12_lists_7 ml_X12_347 a1 (m_noTray (v := v) (A := A) (d := d - 1) (by omega) a1 a10 a13 ?_ ?_ ?_)
  · intro hno
    refine az_istore (ls' := [(0, .ref 64), (1, .int x), (2, .long xp), (4, .int ((-2)))]) dX12_lists_10 ?_
    refine az_iload dX12_lists_12 ?_
    refine az_if_eq (tgt := 20) dX12_lists_14 (fun c14 => ?_) (fun c14 => ?_)
    · exact absurd c14 (by decide)
    · refine az_iload dX12_lists_17 ?_
      exact az_iret dX12_lists_19 (by first | exact hQ2 hno h1 hM1 hf1 | exact hQ6 n hx hn hno h1 hM1 hf1)
  · intro n hx hn hno
    refine az_istore (ls' := [(0, .ref 64), (1, .int x), (2, .long xp), (4, .int ((-6)))]) dX12_lists_10 ?_
    refine az_iload dX12_lists_12 ?_
    refine az_if_eq (tgt := 20) dX12_lists_14 (fun c14 => ?_) (fun c14 => ?_)
    · exact absurd c14 (by decide)
    · refine az_iload dX12_lists_17 ?_
      exact az_iret dX12_lists_19 (by first | exact hQ2 hno h1 hM1 hf1 | exact hQ6 n hx hn hno h1 hM1 hf1)
  · intro n y hx hn hy
    have h3 := a13 n hn
    rw [hy] at h3
    obtain ⟨r1, r2, r3, r4, r5⟩ := h3
    refine az_istore (ls' := [(0, .ref 64), (1, .int x), (2, .long xp), (4, .int (nI 0))]) dX12_lists_10 ?_
    refine az_iload dX12_lists_12 ?_
    refine az_if_eqN (tgt := 20) dX12_lists_14 (fun c14 => ?_) (fun c14 => ?_)
    · subst hx
      obtain ⟨g2, rfl⟩ := lN_ex f71
      refine az_aload_n dX12_lists_20 ?_
      refine az_cV0 (st := []) dX12_lists_21 ml_X12_278 a1 (m_lengthNow (d := d - 1) (by omega) hw hb a1 a3 a4 e70 ?_)
      intro g1 hm
      refine az_lstore (ls' := [(0, .ref 64), (1, .int (nI n)), (2, .long xp), (4, .int (nI 0)), (5, .long (lN ((ln_str (rd_w v) bs).length)))]) dX12_lists_24 ?_
      refine az_lload_n dX12_lists_26 ?_
      refine az_lconst (v := lN 0) dX12_lists_27 ?_
      refine az_lload dX12_lists_28 ?_
      refine az_cS0 (st := []) dX12_lists_30 ml_X12_169 (m_withinJ (d := d - 1) (lo := 0) (hi := (ln_str (rd_w v) bs).length) (by omega) (by decide) ?_ ?_)
      · intro p9 hxp hp0 hpl
        refine az_if_neN (tgt := 39) dX12_lists_33 (fun c33 => ?_) (fun c33 => ?_)
        · subst hxp
          refine az_lload dX12_lists_39 ?_
          refine az_lload_n dX12_lists_41 ?_
          refine az_lsubN dX12_lists_42 (by omega) ?_
          refine az_aload_n dX12_lists_43 ?_
          refine az_getf (v := .ref 91) dX12_lists_44 fl_X12_97 (az_up_ne a1) ?_
          refine az_iload_n dX12_lists_47 ?_
          refine az_ialdN (j := n) dX12_lists_48 (az_up_ne a11) ?_
          rw [r2]
          refine az_i2lN dX12_lists_49 ?_
          refine az_lcmp_geN (tgt := 62) dX12_lists_50 dX12_lists_51 (fun c50 => ?_) (fun c50 => ?_)
          · refine az_aload_n dX12_lists_62 ?_
            refine az_getf (v := .ref 91) dX12_lists_63 fl_X12_97 (az_up_ne a1) ?_
            refine az_iload_n dX12_lists_66 ?_
            refine az_ialdN (j := n) dX12_lists_67 (az_up_ne a11) ?_
            rw [r2]
            refine az_istore (ls' := [(0, .ref 64), (1, .int (nI n)), (2, .long (lN p9)), (4, .int (nI 0)), (5, .long (lN ((ln_str (rd_w v) bs).length))), (7, .int (nI y.2.length))]) dX12_lists_68 ?_
            first | (refine m_listsW (m := (ln_str (rd_w v) bs).length - p9) (by omega) hw hb hn r4 (by omega) (by omega) (az_up_ne a1) (az_up_ne a3) a4 az_up_eq (az_up_ne e71) hm (az_up_ne a12) r5 (fun h' sc' nu' b1 b2 b3 b4 b5 b6 b7 => ?_); have hq := hQ n y p9 rfl hn hy rfl hpl h'; rw [show (min y.2.length ((ln_str (rd_w v) bs).length - p9)) = (ln_str (rd_w v) bs).length - p9 by omega] at hq; exact hq (mm.tray a2 a3 a4 a5 a6 a7 a8 a9 (L := [64, 70, 92]) ((mf.rf.up (by decide)).tr (b6.wk (L' := [64, 70, 92])) (by decide)) (by decide) (b7 (mk.uJ a14 rfl)) b1 ⟨b2 5 (by decide), b2 13 (by decide), b2 14 (by decide)⟩ (b6.at (az_up_ne a10)) (b6.at (az_up_ne a11)) b3 (a13.set (y := (y.1, ls y.2 (ln_str (rd_w v) bs) p9 ((ln_str (rd_w v) bs).length - p9))) r1 (by rw [r2]; show _ = nI (ls _ _ _ _).length; rw [ls_len]) r3 (by show (ls _ _ _ _).length ≤ 40; rw [ls_len]; exact r4) (fun j hj => b4 j (by have : j < (ls y.2 (ln_str (rd_w v) bs) p9 ((ln_str (rd_w v) bs).length - p9)).length := hj; rw [ls_len] at this; exact this)) (fun _ _ => rfl) (fun _ _ => rfl) b5)) (hf1.tr (mf.fr (L := [64, 70, 92]) ((mf.rf.up (by decide)).tr (b6.wk (L' := [64, 70, 92])) (by decide))))) | (refine m_listsW (m := y.2.length) (by omega) hw hb hn r4 (by omega) (by omega) (az_up_ne a1) (az_up_ne a3) a4 az_up_eq (az_up_ne e71) hm (az_up_ne a12) r5 (fun h' sc' nu' b1 b2 b3 b4 b5 b6 b7 => ?_); have hq := hQ n y p9 rfl hn hy rfl hpl h'; rw [show (min y.2.length ((ln_str (rd_w v) bs).length - p9)) = y.2.length by omega] at hq; exact hq (mm.tray a2 a3 a4 a5 a6 a7 a8 a9 (L := [64, 70, 92]) ((mf.rf.up (by decide)).tr (b6.wk (L' := [64, 70, 92])) (by decide)) (by decide) (b7 (mk.uJ a14 rfl)) b1 ⟨b2 5 (by decide), b2 13 (by decide), b2 14 (by decide)⟩ (b6.at (az_up_ne a10)) (b6.at (az_up_ne a11)) b3 (a13.set (y := (y.1, ls y.2 (ln_str (rd_w v) bs) p9 y.2.length)) r1 (by rw [r2]; show _ = nI (ls _ _ _ _).length; rw [ls_len]) r3 (by show (ls _ _ _ _).length ≤ 40; rw [ls_len]; exact r4) (fun j hj => b4 j (by have : j < (ls y.2 (ln_str (rd_w v) bs) p9 y.2.length).length := hj; rw [ls_len] at this; exact this)) (fun _ _ => rfl) (fun _ _ => rfl) b5)) (hf1.tr (mf.fr (L := [64, 70, 92]) ((mf.rf.up (by decide)).tr (b6.wk (L' := [64, 70, 92])) (by decide)))))
          · refine az_lload dX12_lists_54 ?_
            refine az_lload_n dX12_lists_56 ?_
            refine az_lsubN dX12_lists_57 (by omega) ?_
            refine az_l2iN dX12_lists_58 ?_
            refine az_goto (tgt := 68) dX12_lists_59 ?_
            refine az_istore (ls' := [(0, .ref 64), (1, .int (nI n)), (2, .long (lN p9)), (4, .int (nI 0)), (5, .long (lN ((ln_str (rd_w v) bs).length))), (7, .int (nI (((ln_str (rd_w v) bs).length) - p9)))]) dX12_lists_68 ?_
            first | (refine m_listsW (m := (ln_str (rd_w v) bs).length - p9) (by omega) hw hb hn r4 (by omega) (by omega) (az_up_ne a1) (az_up_ne a3) a4 az_up_eq (az_up_ne e71) hm (az_up_ne a12) r5 (fun h' sc' nu' b1 b2 b3 b4 b5 b6 b7 => ?_); have hq := hQ n y p9 rfl hn hy rfl hpl h'; rw [show (min y.2.length ((ln_str (rd_w v) bs).length - p9)) = (ln_str (rd_w v) bs).length - p9 by omega] at hq; exact hq (mm.tray a2 a3 a4 a5 a6 a7 a8 a9 (L := [64, 70, 92]) ((mf.rf.up (by decide)).tr (b6.wk (L' := [64, 70, 92])) (by decide)) (by decide) (b7 (mk.uJ a14 rfl)) b1 ⟨b2 5 (by decide), b2 13 (by decide), b2 14 (by decide)⟩ (b6.at (az_up_ne a10)) (b6.at (az_up_ne a11)) b3 (a13.set (y := (y.1, ls y.2 (ln_str (rd_w v) bs) p9 ((ln_str (rd_w v) bs).length - p9))) r1 (by rw [r2]; show _ = nI (ls _ _ _ _).length; rw [ls_len]) r3 (by show (ls _ _ _ _).length ≤ 40; rw [ls_len]; exact r4) (fun j hj => b4 j (by have : j < (ls y.2 (ln_str (rd_w v) bs) p9 ((ln_str (rd_w v) bs).length - p9)).length := hj; rw [ls_len] at this; exact this)) (fun _ _ => rfl) (fun _ _ => rfl) b5)) (hf1.tr (mf.fr (L := [64, 70, 92]) ((mf.rf.up (by decide)).tr (b6.wk (L' := [64, 70, 92])) (by decide))))) | (refine m_listsW (m := y.2.length) (by omega) hw hb hn r4 (by omega) (by omega) (az_up_ne a1) (az_up_ne a3) a4 az_up_eq (az_up_ne e71) hm (az_up_ne a12) r5 (fun h' sc' nu' b1 b2 b3 b4 b5 b6 b7 => ?_); have hq := hQ n y p9 rfl hn hy rfl hpl h'; rw [show (min y.2.length ((ln_str (rd_w v) bs).length - p9)) = y.2.length by omega] at hq; exact hq (mm.tray a2 a3 a4 a5 a6 a7 a8 a9 (L := [64, 70, 92]) ((mf.rf.up (by decide)).tr (b6.wk (L' := [64, 70, 92])) (by decide)) (by decide) (b7 (mk.uJ a14 rfl)) b1 ⟨b2 5 (by decide), b2 13 (by decide), b2 14 (by decide)⟩ (b6.at (az_up_ne a10)) (b6.at (az_up_ne a11)) b3 (a13.set (y := (y.1, ls y.2 (ln_str (rd_w v) bs) p9 y.2.length)) r1 (by rw [r2]; show _ = nI (ls _ _ _ _).length; rw [ls_len]) r3 (by show (ls _ _ _ _).length ≤ 40; rw [ls_len]; exact r4) (fun j hj => b4 j (by have : j < (ls y.2 (ln_str (rd_w v) bs) p9 y.2.length).length := hj; rw [ls_len] at this; exact this)) (fun _ _ => rfl) (fun _ _ => rfl) b5)) (hf1.tr (mf.fr (L := [64, 70, 92]) ((mf.rf.up (by decide)).tr (b6.wk (L' := [64, 70, 92])) (by decide)))))
        · exact absurd c33 (by omega)
      · intro hxp
        refine az_if_neN (tgt := 39) dX12_lists_33 (fun c33 => ?_) (fun c33 => ?_)
        · exact absurd c33 (by omega)
        · refine az_bipush (v := (-3)) dX12_lists_36 ?_
          exact az_iret dX12_lists_38 (hQ3 n y rfl hn hy (fun p hp9 => hxp p (Nat.zero_le _) hp9) _ hM1.J hf1.up)
    · exact absurd c14 (by omega)
theorem mT.ext {A A' : Nat → Nat} {v : rd_V} {z : ln_Z} (H : mT A v z) (hw : ln_ok (rd_w v)) (hz : z.2.2.length ≤ 60) (h : ∀ k, k < 1106 → k ≠ 114 → A' k = A k) : mT A' v z := by
  obtain ⟨⟨h0, h1, h2, h3, h4, h5, h6, h7⟩, z1, z2, z3, z4⟩ := H
  have h12 : v.2.2.2.1 ≤ 12 := hw.2.2.2.2.1
  have hz4 : ∀ r, v.2.2.2.2.2.1 r ≤ 4 := hw.2.2.2.2.2.2.1
  have hL : ∀ l k, l < 2 → mL A l k → mL A' l k := by
    intro l k hl H
    refine ⟨fun q => (h _ (by omega) (by omega)).trans (H.1 q), fun q => ?_⟩
    obtain ⟨g1, g2, g3, g4⟩ := H.2 q
    have e7 : A' (107 + l) = A (107 + l) := h _ (by omega) (by omega)
    refine ⟨(h _ (by omega) (by omega)).trans g1, (h _ (by omega) (by omega)).trans g2, by rw [e7]; exact g3, fun i hi => ?_⟩
    rw [e7]
    exact (h _ (by omega) (by omega)).trans (g4 i hi)
  exact ⟨⟨(h _ (by omega) (by omega)).trans h0, (h _ (by omega) (by omega)).trans h1, (h _ (by omega) (by omega)).trans h2, fun k hk => (h _ (by omega) (by omega)).trans (h3 k hk), fun r hr => (h _ (by omega) (by omega)).trans (h4 r hr), fun r i hr hi => (h _ (by have := hz4 r; omega) (by have := hz4 r; omega)).trans (h5 r i hr hi), hL 0 _ (by decide) h6, hL 1 _ (by decide) h7⟩, (h _ (by omega) (by omega)).trans z1, (h _ (by omega) (by omega)).trans z2, (h _ (by omega) (by omega)).trans z3, fun k hk => (h _ (by omega) (by omega)).trans (z4 k hk)⟩
theorem mU.ext {A A' : Nat → Nat} {U : ln_U} (H : mU A U) (hU : U.length ≤ 10) (h : ∀ k, k < 1106 → A' k = A k) : mU A' U := by
  obtain ⟨h0, h1⟩ := H
  refine ⟨(h _ (by omega)).trans h0, fun k hk => ?_⟩
  obtain ⟨g1, g2, g3⟩ := h1 k hk
  exact ⟨(h _ (by omega)).trans g1, (h _ (by omega)).trans g2, (h _ (by omega)).trans g3⟩
set_option maxHeartbeats 4000000 in
set_option maxRecDepth 100000 in
theorem m_imageW {d n : Nat} {sc : Nat → Value} {A : Nat → Nat} {hI : Nat → Int32} {hp : az_Hp} {Q : Option Value → az_Hp → Prop} (hn : n < 2) (h64 : hp.2 64 = some (mo_o sc)) (h65 : hp.2 65 = some (az_I 3318 (fun j => nI (A j)))) (h66 : hp.2 66 = some (az_Z 2 hI)) (hQ : ∀ A' : Nat → Nat, (∀ k, k < 1106 → A' (1106 * (n + 1) + k) = A k) → (∀ q, (q < 1106 * (n + 1) ∨ 1106 * (n + 1) + 1106 ≤ q) → A' q = A q) → Q (some (.int (nI 0))) (az_up (az_up hp 65 (az_I 3318 (fun j => nI (A' j)))) 66 (az_Z 2 (az_s hI n (nI 1))))) : az_W mX12_image d 0 0 18 [(0, .ref 64), (1, .int (nI n))] [] hp Q := by
  have loop : ∀ (k : Nat) (i : Nat) (A9 : Nat → Nat) (h' : az_Hp), 1106 - i = k → (i ≤ 1106) → (∀ j, j < i → A9 (1106 * (n + 1) + j) = A j) → (∀ q, (q < 1106 * (n + 1) ∨ 1106 * (n + 1) + 1106 ≤ q) → A9 q = A q) → (h' = az_up hp 65 (az_I 3318 (fun j => nI (A9 j)))) → az_W mX12_image d 0 0 20 [(0, .ref 64), (1, .int (nI n)), (2, .int (nI i))] [] h' Q := by
    intro k
    induction k using Nat.strongRecOn with
    | _ k ih =>
    intro i A9 h' hk hi hF hG he
    refine az_iload_n dX12_image_20 ?_
    refine az_sipush (v := nI 1106) dX12_image_21 ?_
    refine az_icmp_geN (tgt := 53) dX12_image_24 (fun c24 => ?_) (fun c24 => ?_)
    · refine az_aload_n dX12_image_53 ?_
      refine az_getf (v := .ref 66) dX12_image_54 fl_X12_17 (by rw [he]; exact az_up_ne h64) ?_
      refine az_iload_n dX12_image_57 ?_
      refine az_iconst (v := nI 1) dX12_image_58 ?_
      refine az_zastN (j := n) dX12_image_59 (by rw [he]; exact az_up_ne h66) ?_
      rw [show nI 1 &&& 1 = nI 1 from (by decide)]
      refine az_iconst (v := nI 0) dX12_image_60 ?_
      exact az_iret dX12_image_61 (by rw [he]; exact hQ A9 (fun j hj => hF j (by omega)) hG)
    · refine az_aload_n dX12_image_27 ?_
      refine az_getf (v := .ref 65) dX12_image_28 fl_X12_13 (by rw [he]; exact az_up_ne h64) ?_
      refine az_sipush (v := nI 1106) dX12_image_31 ?_
      refine az_iload_n dX12_image_34 ?_
      refine az_iconst (v := nI 1) dX12_image_35 ?_
      refine az_iaddN dX12_image_36 ?_
      refine az_imulN dX12_image_37 ?_
      refine az_iload_n dX12_image_38 ?_
      refine az_iaddN dX12_image_39 ?_
      refine az_aload_n dX12_image_40 ?_
      refine az_getf (v := .ref 65) dX12_image_41 fl_X12_13 (by rw [he]; exact az_up_ne h64) ?_
      refine az_iload_n dX12_image_44 ?_
      refine az_ialdN (j := i) dX12_image_45 (by rw [he]; exact az_up_eq) ?_
      rw [show A9 i = A i from hG i (by omega)]
      refine az_iastN (j := (1106 * (n + 1)) + i) dX12_image_46 (by rw [he]; exact az_up_eq) ?_
      rw [az_s_nI]
      refine az_iincN (n := 1) (ls' := [(0, .ref 64), (1, .int (nI n)), (2, .int (nI (i + 1)))]) dX12_image_47 ?_
      refine az_goto (tgt := 20) dX12_image_50 ?_
      exact ih _ (by omega) (i + 1) (az_s A9 (1106 * (n + 1) + i) (A i)) _ rfl (by omega) (fun j hj => if e : j = i then (by rw [e, az_s_eq]) else (by rw [az_s_ne (by omega)]; exact hF j (by omega))) (fun q hq => (az_s_ne (by omega)).trans (hG q hq)) (by rw [he, az_up_up])
  refine az_iconst (v := nI 0) dX12_image_18 ?_
  refine az_istore_n (ls' := [(0, .ref 64), (1, .int (nI n)), (2, .int (nI 0))]) dX12_image_19 ?_
  exact loop _ 0 A _ rfl (Nat.zero_le _) (fun j hj => absurd hj (by omega)) (fun _ _ => rfl) (az_up_same h65).symm
theorem im_mul {i n k : Nat} (hi : i < 2) (hn : n < 2) (hne : i ≠ n) (hk : k < 1106) : 1106 * (i + 1) + k < 1106 * (n + 1) ∨ 1106 * (n + 1) + 1106 ≤ 1106 * (i + 1) + k := by
  have h1 : i = 0 ∨ i = 1 := by omega
  have h2 : n = 0 ∨ n = 1 := by omega
  rcases h1 with rfl | rfl <;> rcases h2 with rfl | rfl <;> omega
set_option maxHeartbeats 4000000 in
set_option maxRecDepth 100000 in
theorem q_image {d : Nat} {x : Int32} {tp fk mo ni : Nat} {bt : Nat → Nat} {fp : Int32} {v : rd_V} {bs : List Nat} {U : ln_U} {im : Nat → Option (rd_V × ln_Z)} {tr : Nat → Option (Nat × List Int64)} {hp : az_Hp} {Q : Option Value → az_Hp → Prop} (hd : 2 ≤ d) (hok : cs_ok ((tp, bt), (fk, fp), v, (mo, ni, bs), U, im, tr)) (hM : mm hp ((tp, bt), (fk, fp), v, (mo, ni, bs), U, im, tr)) (hQ2 : (∀ n, n < 2 → x ≠ nI n) → ∀ h', mm h' ((tp, bt), (fk, fp), v, (mo, ni, bs), U, im, tr) → az_fr hp h' 64 93 → Q (some (.int (-2))) h') (hQ : ∀ n, x = nI n → n < 2 → ∀ h', mm h' ((tp, bt), (fk, fp), v, (mo, ni, bs), U, (fun j => if j = n then some (v, (mo, ni, bs)) else im j), tr) → az_fr hp h' 64 93 → Q (some (.int (nI 0))) h') : az_M mX12_image d 0 0 [.ref 64, .int x] hp Q := by
  obtain ⟨sc0, A0, tf0, hI0, rs0, rm0, nu0, o1, o2, -⟩ := id hM
  have hgd : rd_good v := hok.2.2.1
  have hw : ln_ok (rd_w v) := hgd.1
  have hba : ln_ba (rd_w v) bs := hok.2.2.2.1
  have hb : ln_by (rd_w v) bs := hba.b
  have hlen := hb.2.2
  have h60 := hb.1
  have hU10 : U.length ≤ 10 := hok.2.2.2.2.1
  have ht1 := hw.1
  have ht3 := hw.2.1
  refine az_M.of rfl (Nat.le_of_ble_eq_true rfl) ?_
  show az_W _ _ _ _ 0 [(0, .ref 64), (1, .int x)] [] _ _
  refine az_aload_n dX12_image_0 ?_
  refine az_iconst (v := nI 0) dX12_image_1 ?_
  refine az_putf (fs' := [.int (nI 0), .ref 65, .ref 66, .ref 67, .ref 68, sc0 5, fI (sc0 6), sc0 7, sc0 8, fI (sc0 9), fI (sc0 10), sc0 11, fI (sc0 12), sc0 13, sc0 14, .ref 69, .ref 70, .ref 71, sc0 18, .ref 72, .ref 73, .ref 74, sc0 22, sc0 23, .ref 75, sc0 25, .ref 76, .ref 77, .ref 78, sc0 29, .ref 79, .ref 80, .ref 81, .ref 82, .ref 83, .ref 84, .ref 85, sc0 37, .ref 86, .ref 87, .ref 88, .ref 89, .ref 90, .ref 91, .ref 92]) dX12_image_2 fl_X12_1 o1 ?_
  obtain ⟨h1, hf1, hM1, hh1⟩ : ∃ h1, az_fr hp h1 64 93 ∧ mm h1 ((tp, bt), (fk, fp), v, (mo, ni, bs), U, im, tr) ∧ h1 = az_up hp 64 (mo_o (su sc0 0 (.int (nI 0)))) := ⟨_, az_fr.rf.up, hM.O (sc := su sc0 0 (.int (nI 0))) o2.1 o2.2.1 o2.2.2, rfl⟩
  rw [show (az_up hp 64 (az_O 11 [.int (nI 0), .ref 65, .ref 66, .ref 67, .ref 68, sc0 5, fI (sc0 6), sc0 7, sc0 8, fI (sc0 9), fI (sc0 10), sc0 11, fI (sc0 12), sc0 13, sc0 14, .ref 69, .ref 70, .ref 71, sc0 18, .ref 72, .ref 73, .ref 74, sc0 22, sc0 23, .ref 75, sc0 25, .ref 76, .ref 77, .ref 78, sc0 29, .ref 79, .ref 80, .ref 81, .ref 82, .ref 83, .ref 84, .ref 85, sc0 37, .ref 86, .ref 87, .ref 88, .ref 89, .ref 90, .ref 91, .ref 92])) = h1 from hh1.symm]
  obtain ⟨sc, A, tf, hI, rs, rm, nu, a1, a2, a3, a4, a5, a6, a7, a8, a9, a10, a11, a12, a13, a14⟩ := id hM1
  have a4 : mT A v (mo, ni, bs) := a4
  have a5 : mU A U := a5
  have a7 : mI A hI im := a7
  have a9 : ∀ j, j < tp → tf j = bt j := a9
  have a13 : mR rs rm nu tr := a13
  refine az_iload_n dX12_image_5 ?_
  refine az_i2l dX12_image_6 ?_
  refine az_lconst (v := lN 0) dX12_image_7 ?_
  refine az_lconst (v := lN 1) dX12_image_8 ?_
  refine az_cS0 (st := []) dX12_image_9 ml_X12_169 (m_withinI (d := d - 1) (lo := 0) (hi := 1) (by decide) (by decide) ?_ ?_)
  · intro n hx hn0 hn1
    refine az_if_neN (tgt := 18) dX12_image_12 (fun c12 => ?_) (fun c12 => ?_)
    · subst hx
      have hn : n < 2 := (by omega)
      refine m_imageW hn a1 a3 a6 (fun A' k1 k2 => ?_)
      have hAk : ∀ k, k < 1106 → A' k = A k := (fun k hk => k2 k (by omega))
      exact hQ n rfl hn _ ⟨sc, A', tf, az_s hI n (nI 1), rs, rm, nu, az_up_ne (az_up_ne a1), a2, az_up_ne az_up_eq, a4.ext hw h60 (fun k hk _ => hAk k hk), a5.ext hU10 (fun k hk => hAk k hk), az_up_eq, (fun i hi => (by by_cases e : i = n; (subst e; simp only [if_pos]; exact ⟨az_s_eq, a4.ext hw h60 (fun k hk _ => k1 k hk)⟩); (simp only [if_neg e]; have h := a7 i hi; rcases hm : im i with _ | ⟨v2, z2⟩; (rw [hm] at h; exact (az_s_ne e).trans h); (rw [hm] at h; have hg := hok.2.2.2.2.2.2 i v2 z2 hi hm; exact ⟨(az_s_ne e).trans h.1, h.2.ext hg.1.1 hg.2.b.1 (fun k hk _ => k2 _ (im_mul hi hn e hk))⟩)))), az_up_ne (az_up_ne a8), a9, az_up_ne (az_up_ne a10), az_up_ne (az_up_ne a11), az_up_ne (az_up_ne a12), a13, (mk.uA a14).up (Or.inl (by decide))⟩ (hf1.up.up)
    · exact absurd c12 (by omega)
  · intro hx
    refine az_if_neN (tgt := 18) dX12_image_12 (fun c12 => ?_) (fun c12 => ?_)
    · exact absurd c12 (by omega)
    · refine az_bipush (v := (-2)) dX12_image_15 ?_
      exact az_iret dX12_image_17 (hQ2 (fun n hn => hx n (Nat.zero_le _) (by omega)) h1 hM1 hf1)

