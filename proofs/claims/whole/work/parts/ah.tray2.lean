/-! The model: trays and images -/
theorem mk.uX {h : az_Hp} {q : Nat} {c : az_C} (H : mk h) (hq : 90 ≤ q := by decide) : mk (az_up h q c) := H.up (Or.inr (Or.inl hq))
theorem mR.set {rs rm rs' rm' : Nat → Int32} {nu nu' : Nat → Int64} {tr : Nat → Option (Nat × List Int64)} {n : Nat} {y : Nat × List Int64} (H : mR rs rm nu tr) (h1 : rs' n = nI y.1) (h2 : rm' n = nI y.2.length) (h3 : y.1 ≤ 3) (h4 : y.2.length ≤ 40) (h5 : ∀ j, j < y.2.length → nu' (40 * n + j) = y.2.getD j 0) (e1 : ∀ i, i ≠ n → rs' i = rs i) (e2 : ∀ i, i ≠ n → rm' i = rm i) (e3 : ∀ q, (q < 40 * n ∨ 40 * n + 40 ≤ q) → nu' q = nu q) : mR rs' rm' nu' (fun i => if i = n then some y else tr i) := by
  intro i hi
  by_cases e : i = n
  · subst e
    simp only [if_pos]
    exact ⟨h1, h2, h3, h4, h5⟩
  · simp only [if_neg e]
    have h := H i hi
    cases hm : tr i with
    | none => rw [hm] at h; exact (e1 i e).trans h
    | some x =>
      rw [hm] at h
      obtain ⟨g1, g2, g3, g4, g5⟩ := h
      exact ⟨(e1 i e).trans g1, (e2 i e).trans g2, g3, g4, fun j hj => (e3 _ (by omega)).trans (g5 j hj)⟩
theorem mm.tray {h1 h' : az_Hp} {tp fk mo ni : Nat} {bt : Nat → Nat} {fp : Int32} {v : rd_V} {bs : List Nat} {U : ln_U} {im : Nat → Option (rd_V × ln_Z)} {tr' : Nat → Option (Nat × List Int64)} {sc sc' : Nat → Value} {A tf : Nat → Nat} {hI rs' rm' : Nat → Int32} {nu' : Nat → Int64} {L : List Nat} (a2 : sc 5 = .int (nI tp) ∧ sc 13 = .int (nI fk) ∧ sc 14 = .int fp) (a3 : h1.2 65 = some (az_I 3318 (fun j => nI (A j)))) (a4 : mT A v (mo, ni, bs)) (a5 : mU A U) (a6 : h1.2 66 = some (az_Z 2 hI)) (a7 : mI A hI im) (a8 : h1.2 67 = some (az_I 900 (fun j => nI (tf j)))) (a9 : ∀ j, j < tp → tf j = bt j) (hf : mf h1 h' L) (hL : ∀ q ∈ L, q = 64 ∨ (68 ≤ q ∧ q < 93)) (hk : mk h') (e : h'.2 64 = some (mo_o sc')) (hs : sc' 5 = sc 5 ∧ sc' 13 = sc 13 ∧ sc' 14 = sc 14) (e90 : h'.2 90 = some (az_I 4 rs')) (e91 : h'.2 91 = some (az_I 4 rm')) (e92 : h'.2 92 = some (az_J 160 nu')) (hR : mR rs' rm' nu' tr') : mm h' ((tp, bt), (fk, fp), v, (mo, ni, bs), U, im, tr') := by
  have n : ∀ q, 65 ≤ q ∧ q < 68 → q ∉ L := fun q h c => by have := hL q c; omega
  exact ⟨sc', A, tf, hI, rs', rm', nu', e, ⟨hs.1.trans a2.1, hs.2.1.trans a2.2.1, hs.2.2.trans a2.2.2⟩, hf.at a3 (n _ (by omega)), a4, a5, hf.at a6 (n _ (by omega)), a7, hf.at a8 (n _ (by omega)), a9, e90, e91, e92, hR, hk⟩
set_option maxHeartbeats 4000000 in
set_option maxRecDepth 100000 in
theorem m_numbersW {d n m so : Nat} {sc : Nat → Value} {nu : Nat → Int64} {hp : az_Hp} {Q : Option Value → az_Hp → Prop} (hn : n < 4) (hm : m ≤ 40) (h64 : hp.2 64 = some (mo_o sc)) (h92 : hp.2 92 = some (az_J 160 nu)) (hQ : ∀ nu', (∀ j, j < m → nu' (40 * n + j) = 0) → (∀ q, (q < 40 * n ∨ 40 * n + 40 ≤ q) → nu' q = nu q) → Q (some (.int (nI 0))) (az_up hp 92 (az_J 160 nu'))) : az_W mX12_numbers d 0 0 61 [(0, .ref 64), (1, .int (nI n)), (2, .int (nI so)), (3, .int (nI m))] [] hp Q := by
  have loop : ∀ (k : Nat) (i : Nat) (nu9 : Nat → Int64) (h' : az_Hp), m - i = k → (i ≤ m) → (∀ j, j < i → nu9 (40 * n + j) = 0) → (∀ q, (q < 40 * n ∨ 40 * n + 40 ≤ q) → nu9 q = nu q) → (h' = az_up hp 92 (az_J 160 nu9)) → az_W mX12_numbers d 0 0 64 [(0, .ref 64), (1, .int (nI n)), (2, .int (nI so)), (3, .int (nI m)), (4, .int (nI i))] [] h' Q := by
    intro k
    induction k using Nat.strongRecOn with
    | _ k ih =>
    intro i nu9 h' hk hi hF hG he
    refine az_iload dX12_numbers_64 ?_
    refine az_iload_n dX12_numbers_66 ?_
    refine az_icmp_geN (tgt := 89) dX12_numbers_67 (fun c67 => ?_) (fun c67 => ?_)
    · refine az_iconst (v := nI 0) dX12_numbers_89 ?_
      exact az_iret dX12_numbers_90 (by rw [he]; exact hQ nu9 (fun j hj => hF j (by omega)) hG)
    · refine az_aload_n dX12_numbers_70 ?_
      refine az_getf (v := .ref 92) dX12_numbers_71 fl_X12_100 (by rw [he]; exact az_up_ne h64) ?_
      refine az_bipush (v := nI 40) dX12_numbers_74 ?_
      refine az_iload_n dX12_numbers_76 ?_
      refine az_imulN dX12_numbers_77 ?_
      refine az_iload dX12_numbers_78 ?_
      refine az_iaddN dX12_numbers_80 ?_
      refine az_lconst (v := lN 0) dX12_numbers_81 ?_
      refine az_lastN (j := (40 * n) + i) dX12_numbers_82 (by rw [he]; exact az_up_eq) ?_
      refine az_iincN (n := 1) (ls' := [(0, .ref 64), (1, .int (nI n)), (2, .int (nI so)), (3, .int (nI m)), (4, .int (nI (i + 1)))]) dX12_numbers_83 ?_
      refine az_goto (tgt := 64) dX12_numbers_86 ?_
      exact ih _ (by omega) (i + 1) (az_s nu9 (40 * n + i) (lN 0)) _ rfl (by omega) (fun j hj => if e : j = i then (by rw [e, az_s_eq]; rfl) else (by rw [az_s_ne (by omega)]; exact hF j (by omega))) (fun q hq => (az_s_ne (by omega)).trans (hG q hq)) (by rw [he, az_up_up])
  refine az_iconst (v := nI 0) dX12_numbers_61 ?_
  refine az_istore (ls' := [(0, .ref 64), (1, .int (nI n)), (2, .int (nI so)), (3, .int (nI m)), (4, .int (nI 0))]) dX12_numbers_62 ?_
  exact loop _ 0 nu _ rfl (Nat.zero_le _) (fun j hj => absurd hj (by omega)) (fun _ _ => rfl) (az_up_same h92).symm
set_option maxHeartbeats 4000000 in
set_option maxRecDepth 100000 in
theorem q_numbers {d : Nat} {x xs xn : Int32} {tp fk mo ni : Nat} {bt : Nat → Nat} {fp : Int32} {v : rd_V} {bs : List Nat} {U : ln_U} {im : Nat → Option (rd_V × ln_Z)} {tr : Nat → Option (Nat × List Int64)} {hp : az_Hp} {Q : Option Value → az_Hp → Prop} (hd : 2 ≤ d) (hok : cs_ok ((tp, bt), (fk, fp), v, (mo, ni, bs), U, im, tr)) (hM : mm hp ((tp, bt), (fk, fp), v, (mo, ni, bs), U, im, tr)) (hQ2 : ¬ (cs_in x 4 ∧ cs_in xs 4) → ∀ h', mm h' ((tp, bt), (fk, fp), v, (mo, ni, bs), U, im, tr) → az_fr hp h' 64 93 → Q (some (.int (-2))) h') (hQ3 : cs_in x 4 → cs_in xs 4 → ¬ cs_in xn 41 → ∀ h', mm h' ((tp, bt), (fk, fp), v, (mo, ni, bs), U, im, tr) → az_fr hp h' 64 93 → Q (some (.int (-3))) h') (hQ0 : ∀ n so m, x = nI n → n < 4 → xs = nI so → so < 4 → xn = nI m → m < 41 → ∀ h', mm h' ((tp, bt), (fk, fp), v, (mo, ni, bs), U, im, fun i => if i = n then some (so, List.replicate m 0) else tr i) → az_fr hp h' 64 93 → Q (some (.int (nI 0))) h') : az_M mX12_numbers d 0 0 [.ref 64, .int x, .int xs, .int xn] hp Q := by
  obtain ⟨sc0, A0, tf0, hI0, rs0, rm0, nu0, o1, o2, -⟩ := id hM
  have hgd : rd_good v := hok.2.2.1
  have hw : ln_ok (rd_w v) := hgd.1
  have hba : ln_ba (rd_w v) bs := hok.2.2.2.1
  have hb : ln_by (rd_w v) bs := hba.b
  have hlen := hb.2.2
  have h60 := hb.1
  have hU10 : U.length ≤ 10 := hok.2.2.2.2.1
  have ht1 := hw.1
  have ht3 := hw.2.1
  refine az_M.of rfl (Nat.le_of_ble_eq_true rfl) ?_
  show az_W _ _ _ _ 0 [(0, .ref 64), (1, .int x), (2, .int xs), (3, .int xn)] [] _ _
  refine az_aload_n dX12_numbers_0 ?_
  refine az_iconst (v := nI 0) dX12_numbers_1 ?_
  refine az_putf (fs' := [.int (nI 0), .ref 65, .ref 66, .ref 67, .ref 68, sc0 5, fI (sc0 6), sc0 7, sc0 8, fI (sc0 9), fI (sc0 10), sc0 11, fI (sc0 12), sc0 13, sc0 14, .ref 69, .ref 70, .ref 71, sc0 18, .ref 72, .ref 73, .ref 74, sc0 22, sc0 23, .ref 75, sc0 25, .ref 76, .ref 77, .ref 78, sc0 29, .ref 79, .ref 80, .ref 81, .ref 82, .ref 83, .ref 84, .ref 85, sc0 37, .ref 86, .ref 87, .ref 88, .ref 89, .ref 90, .ref 91, .ref 92]) dX12_numbers_2 fl_X12_1 o1 ?_
  obtain ⟨h1, hf1, hM1, hh1⟩ : ∃ h1, az_fr hp h1 64 93 ∧ mm h1 ((tp, bt), (fk, fp), v, (mo, ni, bs), U, im, tr) ∧ h1 = az_up hp 64 (mo_o (su sc0 0 (.int (nI 0)))) := ⟨_, az_fr.rf.up, hM.O (sc := su sc0 0 (.int (nI 0))) o2.1 o2.2.1 o2.2.2, rfl⟩
  rw [show (az_up hp 64 (az_O 11 [.int (nI 0), .ref 65, .ref 66, .ref 67, .ref 68, sc0 5, fI (sc0 6), sc0 7, sc0 8, fI (sc0 9), fI (sc0 10), sc0 11, fI (sc0 12), sc0 13, sc0 14, .ref 69, .ref 70, .ref 71, sc0 18, .ref 72, .ref 73, .ref 74, sc0 22, sc0 23, .ref 75, sc0 25, .ref 76, .ref 77, .ref 78, sc0 29, .ref 79, .ref 80, .ref 81, .ref 82, .ref 83, .ref 84, .ref 85, sc0 37, .ref 86, .ref 87, .ref 88, .ref 89, .ref 90, .ref 91, .ref 92])) = h1 from hh1.symm]
  obtain ⟨sc, A, tf, hI, rs, rm, nu, a1, a2, a3, a4, a5, a6, a7, a8, a9, a10, a11, a12, a13, a14⟩ := id hM1
  have a4 : mT A v (mo, ni, bs) := a4
  have a5 : mU A U := a5
  have a7 : mI A hI im := a7
  have a9 : ∀ j, j < tp → tf j = bt j := a9
  have a13 : mR rs rm nu tr := a13
  refine az_iload_n dX12_numbers_5 ?_
  refine az_i2l dX12_numbers_6 ?_
  refine az_lconst (v := lN 0) dX12_numbers_7 ?_
  refine az_ldc2 (v := lN 3) dX12_numbers_8 cn_X12_334 ?_
  refine az_cS0 (st := []) dX12_numbers_11 ml_X12_169 (m_withinI (d := d - 1) (lo := 0) (hi := 3) (by decide) (by decide) ?_ ?_)
  · intro n hx hn0 hn3
    have hin := (cs_in_n (n := n) (k := 4) (by omega) (by decide)).1
    rw [← hx] at hin
    refine az_if_eqN (tgt := 29) dX12_numbers_14 (fun c14 => ?_) (fun c14 => ?_)
    · exact absurd c14 (by omega)
    · refine az_iload_n dX12_numbers_17 ?_
      refine az_i2l dX12_numbers_18 ?_
      refine az_lconst (v := lN 0) dX12_numbers_19 ?_
      refine az_ldc2 (v := lN 3) dX12_numbers_20 cn_X12_334 ?_
      refine az_cS0 (st := []) dX12_numbers_23 ml_X12_169 (m_withinI (d := d - 1) (lo := 0) (hi := 3) (by decide) (by decide) ?_ ?_)
      · intro so hxs hs0 hs3
        have his := (cs_in_n (n := so) (k := 4) (by omega) (by decide)).1
        rw [← hxs] at his
        refine az_if_neN (tgt := 32) dX12_numbers_26 (fun c26 => ?_) (fun c26 => ?_)
        · refine az_iload_n dX12_numbers_32 ?_
          refine az_i2l dX12_numbers_33 ?_
          refine az_lconst (v := lN 0) dX12_numbers_34 ?_
          refine az_ldc2 (v := lN 40) dX12_numbers_35 cn_X12_487 ?_
          refine az_cS0 (st := []) dX12_numbers_38 ml_X12_169 (m_withinI (d := d - 1) (lo := 0) (hi := 40) (by decide) (by decide) ?_ ?_)
          · intro m hxn hm0 hm40
            refine az_if_neN (tgt := 47) dX12_numbers_41 (fun c41 => ?_) (fun c41 => ?_)
            · subst hx
              subst hxs
              subst hxn
              refine az_aload_n dX12_numbers_47 ?_
              refine az_getf (v := .ref 90) dX12_numbers_48 fl_X12_94 a1 ?_
              refine az_iload_n dX12_numbers_51 ?_
              refine az_iload_n dX12_numbers_52 ?_
              refine az_iastN (j := n) dX12_numbers_53 a10 ?_
              refine az_aload_n dX12_numbers_54 ?_
              refine az_getf (v := .ref 91) dX12_numbers_55 fl_X12_97 (az_up_ne a1) ?_
              refine az_iload_n dX12_numbers_58 ?_
              refine az_iload_n dX12_numbers_59 ?_
              refine az_iastN (j := n) dX12_numbers_60 (az_up_ne a11) ?_
              refine m_numbersW (by omega) (by omega) (az_up_ne (az_up_ne a1)) (az_up_ne (az_up_ne a12)) (fun nu' k1 k2 => ?_)
              exact hQ0 n so m rfl (by omega) rfl (by omega) rfl (by omega) _ (mm.tray a2 a3 a4 a5 a6 a7 a8 a9 (L := [90, 91, 92]) (mf.up (mf.up (mf.up mf.rf (by decide)) (by decide)) (by decide)) (by decide) (mk.uX (mk.uX (mk.uX a14))) (az_up_ne (az_up_ne (az_up_ne a1))) ⟨rfl, rfl, rfl⟩ (az_up_ne (az_up_ne az_up_eq)) (az_up_ne az_up_eq) az_up_eq (a13.set (y := (so, List.replicate m 0)) az_s_eq (by rw [az_s_eq]; simp) (by show so ≤ 3; omega) (by simp; omega) (fun j hj => (by have hj2 : j < m := (by simpa using hj); rw [k1 j hj2]; simp [hj2])) (fun i hi => az_s_ne hi) (fun i hi => az_s_ne hi) k2)) (hf1.up.up.up)
            · exact absurd c41 (by omega)
          · intro hxn
            refine az_if_neN (tgt := 47) dX12_numbers_41 (fun c41 => ?_) (fun c41 => ?_)
            · exact absurd c41 (by omega)
            · refine az_bipush (v := (-3)) dX12_numbers_44 ?_
              exact az_iret dX12_numbers_46 (hQ3 hin his (cs_in_no (fun n hn => hxn n (Nat.zero_le _) (by omega))) h1 hM1 hf1)
        · exact absurd c26 (by omega)
      · intro hxs
        refine az_if_neN (tgt := 32) dX12_numbers_26 (fun c26 => ?_) (fun c26 => ?_)
        · exact absurd c26 (by omega)
        · refine az_bipush (v := (-2)) dX12_numbers_29 ?_
          exact az_iret dX12_numbers_31 (by first | exact hQ2 (fun q => cs_in_no (fun n hn => hx n (Nat.zero_le _) (by omega)) q.1) h1 hM1 hf1 | exact hQ2 (fun q => cs_in_no (fun n hn => hxs n (Nat.zero_le _) (by omega)) q.2) h1 hM1 hf1)
  · intro hx
    refine az_if_eqN (tgt := 29) dX12_numbers_14 (fun c14 => ?_) (fun c14 => ?_)
    · refine az_bipush (v := (-2)) dX12_numbers_29 ?_
      exact az_iret dX12_numbers_31 (by first | exact hQ2 (fun q => cs_in_no (fun n hn => hx n (Nat.zero_le _) (by omega)) q.1) h1 hM1 hf1 | exact hQ2 (fun q => cs_in_no (fun n hn => hxs n (Nat.zero_le _) (by omega)) q.2) h1 hM1 hf1)
    · exact absurd c14 (by omega)
set_option maxHeartbeats 4000000 in
set_option maxRecDepth 100000 in
theorem m_cut {d so : Nat} {x : Int64} {hp : az_Hp} {Q : Option Value → az_Hp → Prop} (hs : so ≤ 3) (hQ : Q (some (.long (ln_cut so x))) hp) : az_M mX12_cut d 0 0 [.long x, .int (nI so)] hp Q := by
  refine az_M.of rfl (Nat.le_of_ble_eq_true rfl) ?_
  show az_W _ _ _ _ 0 [(0, .long x), (2, .int (nI so))] [] _ _
  refine az_iload_n dX12_cut_0 ?_
  refine az_if_neN (tgt := 11) dX12_cut_1 (fun c1 => ?_) (fun c1 => ?_)
  · refine az_iload_n dX12_cut_11 ?_
    refine az_iconst (v := nI 1) dX12_cut_12 ?_
    refine az_icmp_neN (tgt := 23) dX12_cut_13 (fun c13 => ?_) (fun c13 => ?_)
    · refine az_iload_n dX12_cut_23 ?_
      refine az_iconst (v := nI 2) dX12_cut_24 ?_
      refine az_icmp_neN (tgt := 34) dX12_cut_25 (fun c25 => ?_) (fun c25 => ?_)
      · refine az_lload_n dX12_cut_34 ?_
        exact az_lret dX12_cut_35 (by first | (rw [ln_cut, if_pos (by omega)] at hQ; exact hQ) | (rw [ln_cut, if_neg (by omega), if_pos (by omega)] at hQ; exact hQ) | (rw [ln_cut, if_neg (by omega), if_neg (by omega), if_pos (by omega)] at hQ; exact hQ) | (rw [ln_cut, if_neg (by omega), if_neg (by omega), if_neg (by omega)] at hQ; exact hQ))
      · refine az_lload_n dX12_cut_28 ?_
        refine az_l2i dX12_cut_29 ?_
        refine az_i2l dX12_cut_30 ?_
        refine az_goto (tgt := 35) dX12_cut_31 ?_
        exact az_lret dX12_cut_35 (by first | (rw [ln_cut, if_pos (by omega)] at hQ; exact hQ) | (rw [ln_cut, if_neg (by omega), if_pos (by omega)] at hQ; exact hQ) | (rw [ln_cut, if_neg (by omega), if_neg (by omega), if_pos (by omega)] at hQ; exact hQ) | (rw [ln_cut, if_neg (by omega), if_neg (by omega), if_neg (by omega)] at hQ; exact hQ))
    · refine az_lload_n dX12_cut_16 ?_
      refine az_l2i dX12_cut_17 ?_
      refine az_i2s dX12_cut_18 ?_
      refine az_i2l dX12_cut_19 ?_
      refine az_goto (tgt := 35) dX12_cut_20 ?_
      exact az_lret dX12_cut_35 (by first | (rw [ln_cut, if_pos (by omega)] at hQ; exact hQ) | (rw [ln_cut, if_neg (by omega), if_pos (by omega)] at hQ; exact hQ) | (rw [ln_cut, if_neg (by omega), if_neg (by omega), if_pos (by omega)] at hQ; exact hQ) | (rw [ln_cut, if_neg (by omega), if_neg (by omega), if_neg (by omega)] at hQ; exact hQ))
  · refine az_lload_n dX12_cut_4 ?_
    refine az_l2i dX12_cut_5 ?_
    refine az_i2b dX12_cut_6 ?_
    refine az_i2l dX12_cut_7 ?_
    refine az_goto (tgt := 35) dX12_cut_8 ?_
    exact az_lret dX12_cut_35 (by first | (rw [ln_cut, if_pos (by omega)] at hQ; exact hQ) | (rw [ln_cut, if_neg (by omega), if_pos (by omega)] at hQ; exact hQ) | (rw [ln_cut, if_neg (by omega), if_neg (by omega), if_pos (by omega)] at hQ; exact hQ) | (rw [ln_cut, if_neg (by omega), if_neg (by omega), if_neg (by omega)] at hQ; exact hQ))
theorem m_withinP {d m : Nat} {x : Int32} {hp : az_Hp} {Q : Option Value → az_Hp → Prop} (hm : m ≤ 40) (hQ1 : ∀ n, x = nI n → n < m → Q (some (.int (nI 1))) hp) (hQ0 : (∀ n, n < m → x ≠ nI n) → Q (some (.int (nI 0))) hp) : az_M mX12_within d 0 0 [.long x.toInt64, .long (lN 0), .long (nI m - nI 1).toInt64] hp Q := by
  have hM : (nI m - nI 1).toInt64.toInt = (m : Int) - 1 := by
    rw [Int32.toInt_toInt64, Int32.toInt_sub, nI_toI (by omega), nI_toI (by omega)]
    rw [Int.bmod_eq_of_le (by omega) (by omega)]
    rfl
  refine m_within (fun h1 h2 => ?_) (fun h => ?_)
  · obtain ⟨n, hn, rfl⟩ := I_64 h1
    rw [nI_64 hn, Int64.lt_iff_toInt_lt, hM, lN_toI (by omega)] at h2
    exact hQ1 n rfl (by omega)
  · refine hQ0 (fun n hn e => ?_)
    rw [e, nI_64 (by omega), lN_ltN (by omega) (by omega), Int64.lt_iff_toInt_lt, hM, lN_toI (by omega)] at h
    omega
set_option maxHeartbeats 4000000 in
set_option maxRecDepth 100000 in
theorem q_write {d : Nat} {x xi : Int32} {xv : Int64} {tp fk mo ni : Nat} {bt : Nat → Nat} {fp : Int32} {v : rd_V} {bs : List Nat} {U : ln_U} {im : Nat → Option (rd_V × ln_Z)} {tr : Nat → Option (Nat × List Int64)} {hp : az_Hp} {Q : Option Value → az_Hp → Prop} (hd : 2 ≤ d) (hok : cs_ok ((tp, bt), (fk, fp), v, (mo, ni, bs), U, im, tr)) (hM : mm hp ((tp, bt), (fk, fp), v, (mo, ni, bs), U, im, tr)) (hQ2 : (∀ n, n < 4 → x ≠ nI n) → ∀ h', mm h' ((tp, bt), (fk, fp), v, (mo, ni, bs), U, im, tr) → az_fr hp h' 64 93 → Q (some (.long (-2))) h') (hQ6 : ∀ n, x = nI n → n < 4 → tr n = none → ∀ h', mm h' ((tp, bt), (fk, fp), v, (mo, ni, bs), U, im, tr) → az_fr hp h' 64 93 → Q (some (.long (-6))) h') (hQ7 : ∀ n y, x = nI n → n < 4 → tr n = some y → ¬ cs_in xi y.2.length → ∀ h', mm h' ((tp, bt), (fk, fp), v, (mo, ni, bs), U, im, tr) → az_fr hp h' 64 93 → Q (some (.long (-7))) h') (hQ0 : ∀ n y i, x = nI n → n < 4 → tr n = some y → xi = nI i → i < y.2.length → ∀ h', mm h' ((tp, bt), (fk, fp), v, (mo, ni, bs), U, im, fun j9 => if j9 = n then some (y.1, y.2.set i (ln_cut y.1 xv)) else tr j9) → az_fr hp h' 64 93 → Q (some (.long (ln_cut y.1 xv))) h') : az_M mX12_write d 0 0 [.ref 64, .int x, .int xi, .long xv] hp Q := by
  obtain ⟨sc0, A0, tf0, hI0, rs0, rm0, nu0, o1, o2, -⟩ := id hM
  have hgd : rd_good v := hok.2.2.1
  have hw : ln_ok (rd_w v) := hgd.1
  have hba : ln_ba (rd_w v) bs := hok.2.2.2.1
  have hb : ln_by (rd_w v) bs := hba.b
  have hlen := hb.2.2
  have h60 := hb.1
  have hU10 : U.length ≤ 10 := hok.2.2.2.2.1
  have ht1 := hw.1
  have ht3 := hw.2.1
  refine az_M.of rfl (Nat.le_of_ble_eq_true rfl) ?_
  show az_W _ _ _ _ 0 [(0, .ref 64), (1, .int x), (2, .int xi), (3, .long xv)] [] _ _
  refine az_aload_n dX12_write_0 ?_
  refine az_iconst (v := nI 0) dX12_write_1 ?_
  refine az_putf (fs' := [.int (nI 0), .ref 65, .ref 66, .ref 67, .ref 68, sc0 5, fI (sc0 6), sc0 7, sc0 8, fI (sc0 9), fI (sc0 10), sc0 11, fI (sc0 12), sc0 13, sc0 14, .ref 69, .ref 70, .ref 71, sc0 18, .ref 72, .ref 73, .ref 74, sc0 22, sc0 23, .ref 75, sc0 25, .ref 76, .ref 77, .ref 78, sc0 29, .ref 79, .ref 80, .ref 81, .ref 82, .ref 83, .ref 84, .ref 85, sc0 37, .ref 86, .ref 87, .ref 88, .ref 89, .ref 90, .ref 91, .ref 92]) dX12_write_2 fl_X12_1 o1 ?_
  obtain ⟨h1, hf1, hM1, hh1⟩ : ∃ h1, az_fr hp h1 64 93 ∧ mm h1 ((tp, bt), (fk, fp), v, (mo, ni, bs), U, im, tr) ∧ h1 = az_up hp 64 (mo_o (su sc0 0 (.int (nI 0)))) := ⟨_, az_fr.rf.up, hM.O (sc := su sc0 0 (.int (nI 0))) o2.1 o2.2.1 o2.2.2, rfl⟩
  rw [show (az_up hp 64 (az_O 11 [.int (nI 0), .ref 65, .ref 66, .ref 67, .ref 68, sc0 5, fI (sc0 6), sc0 7, sc0 8, fI (sc0 9), fI (sc0 10), sc0 11, fI (sc0 12), sc0 13, sc0 14, .ref 69, .ref 70, .ref 71, sc0 18, .ref 72, .ref 73, .ref 74, sc0 22, sc0 23, .ref 75, sc0 25, .ref 76, .ref 77, .ref 78, sc0 29, .ref 79, .ref 80, .ref 81, .ref 82, .ref 83, .ref 84, .ref 85, sc0 37, .ref 86, .ref 87, .ref 88, .ref 89, .ref 90, .ref 91, .ref 92])) = h1 from hh1.symm]
  obtain ⟨sc, A, tf, hI, rs, rm, nu, a1, a2, a3, a4, a5, a6, a7, a8, a9, a10, a11, a12, a13, a14⟩ := id hM1
  have a4 : mT A v (mo, ni, bs) := a4
  have a5 : mU A U := a5
  have a7 : mI A hI im := a7
  have a9 : ∀ j, j < tp → tf j = bt j := a9
  have a13 : mR rs rm nu tr := a13
  refine az_aload_n dX12_write_5 ?_
  refine az_iload_n dX12_write_6 ?_
  refine az_cV0 (st := []) dX12_write_7 ml_X12_347 a1 (m_noTray (v := v) (A := A) (d := d - 1) (by omega) a1 a10 a13 ?_ ?_ ?_)
  · intro hno
    refine az_istore (ls' := [(0, .ref 64), (1, .int x), (2, .int xi), (3, .long xv), (5, .int ((-2)))]) dX12_write_10 ?_
    refine az_iload dX12_write_12 ?_
    refine az_if_eq (tgt := 21) dX12_write_14 (fun c14 => ?_) (fun c14 => ?_)
    · exact absurd c14 (by decide)
    · refine az_iload dX12_write_17 ?_
      refine az_i2l dX12_write_19 ?_
      exact az_lret dX12_write_20 (by first | exact hQ2 hno h1 hM1 hf1 | exact hQ6 n hx hn hno h1 hM1 hf1)
  · intro n hx hn hno
    refine az_istore (ls' := [(0, .ref 64), (1, .int x), (2, .int xi), (3, .long xv), (5, .int ((-6)))]) dX12_write_10 ?_
    refine az_iload dX12_write_12 ?_
    refine az_if_eq (tgt := 21) dX12_write_14 (fun c14 => ?_) (fun c14 => ?_)
    · exact absurd c14 (by decide)
    · refine az_iload dX12_write_17 ?_
      refine az_i2l dX12_write_19 ?_
      exact az_lret dX12_write_20 (by first | exact hQ2 hno h1 hM1 hf1 | exact hQ6 n hx hn hno h1 hM1 hf1)
  · intro n y hx hn hy
    have h3 := a13 n hn
    rw [hy] at h3
    obtain ⟨r1, r2, r3, r4, r5⟩ := h3
    refine az_istore (ls' := [(0, .ref 64), (1, .int x), (2, .int xi), (3, .long xv), (5, .int (nI 0))]) dX12_write_10 ?_
    refine az_iload dX12_write_12 ?_
    refine az_if_eqN (tgt := 21) dX12_write_14 (fun c14 => ?_) (fun c14 => ?_)
    · subst hx
      refine az_iload_n dX12_write_21 ?_
      refine az_i2l dX12_write_22 ?_
      refine az_lconst (v := lN 0) dX12_write_23 ?_
      refine az_aload_n dX12_write_24 ?_
      refine az_getf (v := .ref 91) dX12_write_25 fl_X12_97 a1 ?_
      refine az_iload_n dX12_write_28 ?_
      refine az_ialdN (j := n) dX12_write_29 a11 ?_
      rw [r2]
      refine az_iconst (v := nI 1) dX12_write_30 ?_
      refine az_isub dX12_write_31 ?_
      refine az_i2l dX12_write_32 ?_
      refine az_cS0 (st := []) dX12_write_33 ml_X12_169 (m_withinP (d := d - 1) (m := y.2.length) r4 ?_ ?_)
      · intro i hxi hi
        refine az_if_neN (tgt := 43) dX12_write_36 (fun c36 => ?_) (fun c36 => ?_)
        · subst hxi
          refine az_aload_n dX12_write_43 ?_
          refine az_getf (v := .ref 92) dX12_write_44 fl_X12_100 a1 ?_
          refine az_bipush (v := nI 40) dX12_write_47 ?_
          refine az_iload_n dX12_write_49 ?_
          refine az_imulN dX12_write_50 ?_
          refine az_iload_n dX12_write_51 ?_
          refine az_iaddN dX12_write_52 ?_
          refine az_lload_n dX12_write_53 ?_
          refine az_aload_n dX12_write_54 ?_
          refine az_getf (v := .ref 90) dX12_write_55 fl_X12_94 a1 ?_
          refine az_iload_n dX12_write_58 ?_
          refine az_ialdN (j := n) dX12_write_59 a10 ?_
          rw [r1]
          refine az_cS0 (st := [.int (nI ((40 * n) + i)), .ref 92]) dX12_write_60 ml_X12_491 (m_cut (d := d - 1) (so := y.1) r3 ?_)
          refine az_lastN (j := (40 * n) + i) dX12_write_63 a12 ?_
          refine az_aload_n dX12_write_64 ?_
          refine az_getf (v := .ref 92) dX12_write_65 fl_X12_100 (az_up_ne a1) ?_
          refine az_bipush (v := nI 40) dX12_write_68 ?_
          refine az_iload_n dX12_write_70 ?_
          refine az_imulN dX12_write_71 ?_
          refine az_iload_n dX12_write_72 ?_
          refine az_iaddN dX12_write_73 ?_
          refine az_laldN (j := (40 * n) + i) dX12_write_74 az_up_eq ?_
          rw [az_s_eq]
          exact az_lret dX12_write_75 (hQ0 n y i rfl hn hy rfl hi _ (mm.tray a2 a3 a4 a5 a6 a7 a8 a9 (L := [92]) (mf.up mf.rf (by decide)) (by decide) (mk.uX a14) (az_up_ne a1) ⟨rfl, rfl, rfl⟩ (az_up_ne a10) (az_up_ne a11) az_up_eq (a13.set (y := (y.1, y.2.set i (ln_cut y.1 xv))) r1 (by rw [r2]; simp) r3 (by simpa using r4) (fun j hj => (by have hj2 : j < y.2.length := (by simpa using hj); show az_s nu (40 * n + i) (ln_cut y.1 xv) (40 * n + j) = (y.2.set i (ln_cut y.1 xv)).getD j 0; by_cases e : j = i; rw [e, az_s_eq, List.getD_eq_getElem?_getD, List.getElem?_set_self (by omega)]; rfl; rw [az_s_ne (by omega), r5 j hj2, List.getD_eq_getElem?_getD, List.getD_eq_getElem?_getD, List.getElem?_set_ne (fun q => e q.symm)])) (fun _ _ => rfl) (fun _ _ => rfl) (fun q hq => az_s_ne (by omega)))) hf1.up)
        · exact absurd c36 (by omega)
      · intro hxi
        refine az_if_neN (tgt := 43) dX12_write_36 (fun c36 => ?_) (fun c36 => ?_)
        · exact absurd c36 (by omega)
        · refine az_ldc2 (v := (-7)) dX12_write_39 cn_X12_489 ?_
          exact az_lret dX12_write_42 (hQ7 n y rfl hn hy (cs_in_no hxi) h1 hM1 hf1)
    · exact absurd c14 (by omega)

