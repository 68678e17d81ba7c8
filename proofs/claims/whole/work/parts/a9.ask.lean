/-! The model: what is asked of the street -/
theorem mm.of {h h' : az_Hp} {s : cs_S} {L : List Nat} {sc' : Nat → Value} (H : mm h s) (hf : mf h h' L) (hL : ∀ q ∈ L, q = 64 ∨ (68 ≤ q ∧ q < 90)) (hk : mk h') (e : h'.2 64 = some (mo_o sc')) (e5 : sc' 5 = .int (nI s.1.1)) (e13 : sc' 13 = .int (nI s.2.1.1)) (e14 : sc' 14 = .int s.2.1.2) : mm h' s := by
  obtain ⟨sc0, A, tf, hI, rs, rm, nu, a1, a2, a3, a4, a5, a6, a7, a8, a9, a10, a11, a12, a13, a14⟩ := H
  have n : ∀ q, (65 ≤ q ∧ q < 68) ∨ 90 ≤ q → q ∉ L := fun q h c => by have := hL q c; omega
  exact ⟨sc', A, tf, hI, rs, rm, nu, e, ⟨e5, e13, e14⟩, hf.at a3 (n _ (by omega)), a4, a5, hf.at a6 (n _ (by omega)), a7, hf.at a8 (n _ (by omega)), a9, hf.at a10 (n _ (by omega)), hf.at a11 (n _ (by omega)), hf.at a12 (n _ (by omega)), a13, hk⟩
set_option maxHeartbeats 4000000 in
set_option maxRecDepth 100000 in
theorem q_fault {d : Nat} {x : Int32} {tp fk mo ni : Nat} {bt : Nat → Nat} {fp : Int32} {v : rd_V} {bs : List Nat} {U : ln_U} {im : Nat → Option (rd_V × ln_Z)} {tr : Nat → Option (Nat × List Int64)} {hp : az_Hp} {Q : Option Value → az_Hp → Prop} (hd : 1 ≤ d) (hok : cs_ok ((tp, bt), (fk, fp), v, (mo, ni, bs), U, im, tr)) (hM : mm hp ((tp, bt), (fk, fp), v, (mo, ni, bs), U, im, tr)) (hQ : ∀ h', mm h' ((tp, bt), (fk, fp), v, (mo, ni, bs), U, im, tr) → az_fr hp h' 64 93 → Q (some (.int (cs_fault fk fp x))) h') : az_M mX12_fault d 0 0 [.ref 64, .int x] hp Q := by
  obtain ⟨sc0, A0, tf0, hI0, rs0, rm0, nu0, o1, o2, -⟩ := id hM
  have hgd : rd_good v := hok.2.2.1
  have hw : ln_ok (rd_w v) := hgd.1
  have hba : ln_ba (rd_w v) bs := hok.2.2.2.1
  have hb : ln_by (rd_w v) bs := hba.b
  have hlen := hb.2.2
  have h60 := hb.1
  have hU10 : U.length ≤ 10 := hok.2.2.2.2.1
  have ht1 := hw.1
  have ht3 := hw.2.1
  refine az_M.of rfl (Nat.le_of_ble_eq_true rfl) ?_
  show az_W _ _ _ _ 0 [(0, .ref 64), (1, .int x)] [] _ _
  refine az_aload_n dX12_fault_0 ?_
  refine az_iconst (v := nI 0) dX12_fault_1 ?_
  refine az_putf (fs' := [.int (nI 0), .ref 65, .ref 66, .ref 67, .ref 68, sc0 5, fI (sc0 6), sc0 7, sc0 8, fI (sc0 9), fI (sc0 10), sc0 11, fI (sc0 12), sc0 13, sc0 14, .ref 69, .ref 70, .ref 71, sc0 18, .ref 72, .ref 73, .ref 74, sc0 22, sc0 23, .ref 75, sc0 25, .ref 76, .ref 77, .ref 78, sc0 29, .ref 79, .ref 80, .ref 81, .ref 82, .ref 83, .ref 84, .ref 85, sc0 37, .ref 86, .ref 87, .ref 88, .ref 89, .ref 90, .ref 91, .ref 92]) dX12_fault_2 fl_X12_1 o1 ?_
  obtain ⟨h1, hf1, hM1, hh1⟩ : ∃ h1, az_fr hp h1 64 93 ∧ mm h1 ((tp, bt), (fk, fp), v, (mo, ni, bs), U, im, tr) ∧ h1 = az_up hp 64 (mo_o (su sc0 0 (.int (nI 0)))) := ⟨_, az_fr.rf.up, hM.O (sc := su sc0 0 (.int (nI 0))) o2.1 o2.2.1 o2.2.2, rfl⟩
  rw [show (az_up hp 64 (az_O 11 [.int (nI 0), .ref 65, .ref 66, .ref 67, .ref 68, sc0 5, fI (sc0 6), sc0 7, sc0 8, fI (sc0 9), fI (sc0 10), sc0 11, fI (sc0 12), sc0 13, sc0 14, .ref 69, .ref 70, .ref 71, sc0 18, .ref 72, .ref 73, .ref 74, sc0 22, sc0 23, .ref 75, sc0 25, .ref 76, .ref 77, .ref 78, sc0 29, .ref 79, .ref 80, .ref 81, .ref 82, .ref 83, .ref 84, .ref 85, sc0 37, .ref 86, .ref 87, .ref 88, .ref 89, .ref 90, .ref 91, .ref 92])) = h1 from hh1.symm]
  obtain ⟨sc, A, tf, hI, rs, rm, nu, a1, a2, a3, a4, a5, a6, a7, a8, a9, a10, a11, a12, a13, a14⟩ := id hM1
  have a4 : mT A v (mo, ni, bs) := a4
  have a5 : mU A U := a5
  have a7 : mI A hI im := a7
  have a9 : ∀ j, j < tp → tf j = bt j := a9
  have a13 : mR rs rm nu tr := a13
  have a1' : h1.2 64 = some (az_O 11 [sc 0, .ref 65, .ref 66, .ref 67, .ref 68, .int (nI tp), fI (sc 6), sc 7, sc 8, fI (sc 9), fI (sc 10), sc 11, fI (sc 12), .int (nI fk), .int fp, .ref 69, .ref 70, .ref 71, sc 18, .ref 72, .ref 73, .ref 74, sc 22, sc 23, .ref 75, sc 25, .ref 76, .ref 77, .ref 78, sc 29, .ref 79, .ref 80, .ref 81, .ref 82, .ref 83, .ref 84, .ref 85, sc 37, .ref 86, .ref 87, .ref 88, .ref 89, .ref 90, .ref 91, .ref 92]) := (by have q1 : sc 5 = .int (nI tp) := a2.1; have q2 : sc 13 = .int (nI fk) := a2.2.1; have q3 : sc 14 = .int fp := a2.2.2; rw [← q1, ← q2, ← q3]; exact a1)
  refine az_iload_n dX12_fault_5 ?_
  refine az_if_ne (tgt := 16) dX12_fault_6 (fun c6 => ?_) (fun c6 => ?_)
  · refine az_iload_n dX12_fault_16 ?_
    refine az_iconst (v := nI 1) dX12_fault_17 ?_
    refine az_icmp_ne (tgt := 28) dX12_fault_18 (fun c18 => ?_) (fun c18 => ?_)
    · refine az_iconst (v := (-1)) dX12_fault_28 ?_
      exact az_iret dX12_fault_29 (by first | (rw [← show cs_fault fk fp x = nI fk from if_pos c6]; exact hQ h1 hM1 hf1) | (rw [← show cs_fault fk fp x = fp from (if_neg c6).trans (if_pos c18)]; exact hQ h1 hM1 hf1) | (rw [← show cs_fault fk fp x = (-1) from (if_neg c6).trans (if_neg c18)]; exact hQ h1 hM1 hf1))
    · refine az_aload_n dX12_fault_21 ?_
      refine az_getf (v := .int fp) dX12_fault_22 fl_X12_27 a1' ?_
      refine az_goto (tgt := 29) dX12_fault_25 ?_
      exact az_iret dX12_fault_29 (by first | (rw [← show cs_fault fk fp x = nI fk from if_pos c6]; exact hQ h1 hM1 hf1) | (rw [← show cs_fault fk fp x = fp from (if_neg c6).trans (if_pos c18)]; exact hQ h1 hM1 hf1) | (rw [← show cs_fault fk fp x = (-1) from (if_neg c6).trans (if_neg c18)]; exact hQ h1 hM1 hf1))
  · refine az_aload_n dX12_fault_9 ?_
    refine az_getf (v := .int (nI fk)) dX12_fault_10 fl_X12_232 a1' ?_
    refine az_goto (tgt := 29) dX12_fault_13 ?_
    exact az_iret dX12_fault_29 (by first | (rw [← show cs_fault fk fp x = nI fk from if_pos c6]; exact hQ h1 hM1 hf1) | (rw [← show cs_fault fk fp x = fp from (if_neg c6).trans (if_pos c18)]; exact hQ h1 hM1 hf1) | (rw [← show cs_fault fk fp x = (-1) from (if_neg c6).trans (if_neg c18)]; exact hQ h1 hM1 hf1))
theorem cs_in_no {x : Int32} {k : Nat} (h : ∀ n, n < k → x ≠ nI n) : ¬ cs_in x k := fun c => h _ (cs_in_of c).2 (cs_in_of c).1
set_option maxHeartbeats 4000000 in
set_option maxRecDepth 100000 in
theorem q_becomes {d : Nat} {xt xl xi : Int32} {tp fk mo ni : Nat} {bt : Nat → Nat} {fp : Int32} {v : rd_V} {bs : List Nat} {U : ln_U} {im : Nat → Option (rd_V × ln_Z)} {tr : Nat → Option (Nat × List Int64)} {hp : az_Hp} {Q : Option Value → az_Hp → Prop} (hd : 3 ≤ d) (hok : cs_ok ((tp, bt), (fk, fp), v, (mo, ni, bs), U, im, tr)) (hM : mm hp ((tp, bt), (fk, fp), v, (mo, ni, bs), U, im, tr)) (hQ : ∀ h', mm h' ((tp, bt), (fk, fp), v, (mo, ni, bs), U, im, tr) → az_fr hp h' 64 93 → Q (some (.int (cs_becomes (rd_w v) xt xl xi))) h') : az_M mX12_becomes d 0 0 [.ref 64, .int xt, .int xl, .int xi] hp Q := by
  obtain ⟨sc0, A0, tf0, hI0, rs0, rm0, nu0, o1, o2, -⟩ := id hM
  have hgd : rd_good v := hok.2.2.1
  have hw : ln_ok (rd_w v) := hgd.1
  have hba : ln_ba (rd_w v) bs := hok.2.2.2.1
  have hb : ln_by (rd_w v) bs := hba.b
  have hlen := hb.2.2
  have h60 := hb.1
  have hU10 : U.length ≤ 10 := hok.2.2.2.2.1
  have ht1 := hw.1
  have ht3 := hw.2.1
  refine az_M.of rfl (Nat.le_of_ble_eq_true rfl) ?_
  show az_W _ _ _ _ 0 [(0, .ref 64), (1, .int xt), (2, .int xl), (3, .int xi)] [] _ _
  refine az_aload_n dX12_becomes_0 ?_
  refine az_iconst (v := nI 0) dX12_becomes_1 ?_
  refine az_putf (fs' := [.int (nI 0), .ref 65, .ref 66, .ref 67, .ref 68, sc0 5, fI (sc0 6), sc0 7, sc0 8, fI (sc0 9), fI (sc0 10), sc0 11, fI (sc0 12), sc0 13, sc0 14, .ref 69, .ref 70, .ref 71, sc0 18, .ref 72, .ref 73, .ref 74, sc0 22, sc0 23, .ref 75, sc0 25, .ref 76, .ref 77, .ref 78, sc0 29, .ref 79, .ref 80, .ref 81, .ref 82, .ref 83, .ref 84, .ref 85, sc0 37, .ref 86, .ref 87, .ref 88, .ref 89, .ref 90, .ref 91, .ref 92]) dX12_becomes_2 fl_X12_1 o1 ?_
  obtain ⟨h1, hf1, hM1, hh1⟩ : ∃ h1, az_fr hp h1 64 93 ∧ mm h1 ((tp, bt), (fk, fp), v, (mo, ni, bs), U, im, tr) ∧ h1 = az_up hp 64 (mo_o (su sc0 0 (.int (nI 0)))) := ⟨_, az_fr.rf.up, hM.O (sc := su sc0 0 (.int (nI 0))) o2.1 o2.2.1 o2.2.2, rfl⟩
  rw [show (az_up hp 64 (az_O 11 [.int (nI 0), .ref 65, .ref 66, .ref 67, .ref 68, sc0 5, fI (sc0 6), sc0 7, sc0 8, fI (sc0 9), fI (sc0 10), sc0 11, fI (sc0 12), sc0 13, sc0 14, .ref 69, .ref 70, .ref 71, sc0 18, .ref 72, .ref 73, .ref 74, sc0 22, sc0 23, .ref 75, sc0 25, .ref 76, .ref 77, .ref 78, sc0 29, .ref 79, .ref 80, .ref 81, .ref 82, .ref 83, .ref 84, .ref 85, sc0 37, .ref 86, .ref 87, .ref 88, .ref 89, .ref 90, .ref 91, .ref 92])) = h1 from hh1.symm]
  obtain ⟨sc, A, tf, hI, rs, rm, nu, a1, a2, a3, a4, a5, a6, a7, a8, a9, a10, a11, a12, a13, a14⟩ := id hM1
  have a4 : mT A v (mo, ni, bs) := a4
  have a5 : mU A U := a5
  have a7 : mI A hI im := a7
  have a9 : ∀ j, j < tp → tf j = bt j := a9
  have a13 : mR rs rm nu tr := a13
  refine az_aload_n dX12_becomes_5 ?_
  refine az_iload_n dX12_becomes_6 ?_
  refine az_cV0 (st := []) dX12_becomes_7 ml_X12_290 a1 (m_isTable (d := d - 1) (by omega) hw a1 a3 a4.1 ?_ ?_)
  · intro tn hxt htn
    subst hxt
    refine az_if_eqN (tgt := 21) dX12_becomes_10 (fun c10 => ?_) (fun c10 => ?_)
    · exact absurd c10 (by omega)
    · skip
      refine az_iload_n dX12_becomes_13 ?_
      refine az_i2l dX12_becomes_14 ?_
      refine az_cS0 (st := []) dX12_becomes_15 ml_X12_293 (m_isLetterI (d := d - 1) (by omega) ?_ ?_)
      · intro lt hxl hlt
        subst hxl
        refine az_if_neN (tgt := 24) dX12_becomes_18 (fun c18 => ?_) (fun c18 => ?_)
        · have hb1 := cs_in_n (k := ln_tb (rd_w v)) htn (by omega)
          have hb2 := cs_in_n (k := 6) hlt (by omega)
          have hz4 := hw.2.2.2.2.2.2.1 (tn * 6 + lt)
          rw [cs_becomes, if_neg (fun q => q ⟨hb1.1, hb2.1⟩), hb1.2, hb2.2] at hQ
          refine az_iload_n dX12_becomes_24 ?_
          refine az_iconst (v := (-1)) dX12_becomes_25 ?_
          refine az_icmp_ge (tgt := 32) dX12_becomes_26 (fun c26 => ?_) (fun c26 => ?_)
          · refine az_iload_n dX12_becomes_32 ?_
            refine az_iconst (v := (-1)) dX12_becomes_33 ?_
            refine az_icmp_ne (tgt := 44) dX12_becomes_34 (fun c34 => ?_) (fun c34 => ?_)
            · skip
              rw [if_neg (Int32.not_lt.mpr c26), if_neg c34] at hQ
              have h0x : ¬ xi < 0 := (fun q9 => (by have q1 := Int32.le_iff_toInt_le.mp c26; have q2 := Int32.lt_iff_toInt_lt.mp q9; have q3 : (-1 : Int32).toInt = -1 := (by decide); have q4 : (0 : Int32).toInt = 0 := (by decide); exact c34 (Int32.toInt_inj.mp (by omega))))
              obtain ⟨i, hi31, hxi⟩ := I_of h0x
              subst hxi
              refine az_iload_n dX12_becomes_44 ?_
              refine az_aload_n dX12_becomes_45 ?_
              refine az_iload_n dX12_becomes_46 ?_
              refine az_iload_n dX12_becomes_47 ?_
              refine az_cV0 (st := [.int (nI i)]) dX12_becomes_48 ml_X12_239 a1 (m_becomeMany (d := d - 1) (v := v) (tb := tn) (x := lt) a1 a3 a4.1 (by omega) hlt ?_)
              refine az_icmp_geN (tgt := 64) dX12_becomes_51 (fun c51 => ?_) (fun c51 => ?_)
              · refine az_iconst (v := (-1)) dX12_becomes_64 ?_
                exact az_iret dX12_becomes_65 (by first | (rw [if_pos ((nI_ltI (by omega) (by omega)).mpr (by omega)), (cs_in_n (k := i + 1) (by omega) (by omega)).2] at hQ; exact hQ h1 hM1 hf1) | (rw [if_neg (fun q => by have := (nI_ltI (by omega) (by omega)).mp q; omega)] at hQ; exact hQ h1 hM1 hf1))
              · refine az_aload_n dX12_becomes_54 ?_
                refine az_iload_n dX12_becomes_55 ?_
                refine az_iload_n dX12_becomes_56 ?_
                refine az_iload_n dX12_becomes_57 ?_
                refine az_cV0 (st := []) dX12_becomes_58 ml_X12_242 a1 (m_becomeOf (d := d - 1) (v := v) (tb := tn) (x := lt) (i := i) a1 a3 a4.1 hw (by omega) hlt (by omega) ?_)
                refine az_goto (tgt := 65) dX12_becomes_61 ?_
                exact az_iret dX12_becomes_65 (by first | (rw [if_pos ((nI_ltI (by omega) (by omega)).mpr (by omega)), (cs_in_n (k := i + 1) (by omega) (by omega)).2] at hQ; exact hQ h1 hM1 hf1) | (rw [if_neg (fun q => by have := (nI_ltI (by omega) (by omega)).mp q; omega)] at hQ; exact hQ h1 hM1 hf1))
            · refine az_aload_n dX12_becomes_37 ?_
              refine az_iload_n dX12_becomes_38 ?_
              refine az_iload_n dX12_becomes_39 ?_
              refine az_cV0 (st := []) dX12_becomes_40 ml_X12_239 a1 (m_becomeMany (d := d - 1) (v := v) (tb := tn) (x := lt) a1 a3 a4.1 (by omega) hlt ?_)
              exact az_iret dX12_becomes_43 (by rw [if_neg (Int32.not_lt.mpr c26), if_pos c34] at hQ; exact hQ h1 hM1 hf1)
          · refine az_bipush (v := (-3)) dX12_becomes_29 ?_
            exact az_iret dX12_becomes_31 (by rw [if_pos (Int32.not_le.mp c26)] at hQ; exact hQ h1 hM1 hf1)
        · exact absurd c18 (by omega)
      · intro hxl
        refine az_if_neN (tgt := 24) dX12_becomes_18 (fun c18 => ?_) (fun c18 => ?_)
        · exact absurd c18 (by omega)
        · refine az_bipush (v := (-2)) dX12_becomes_21 ?_
          exact az_iret dX12_becomes_23 (by first | (rw [cs_becomes, if_pos (fun q => cs_in_no hxt q.1)] at hQ; exact hQ h1 hM1 hf1) | (rw [cs_becomes, if_pos (fun q => cs_in_no hxl q.2)] at hQ; exact hQ h1 hM1 hf1))
  · intro hxt
    refine az_if_eqN (tgt := 21) dX12_becomes_10 (fun c10 => ?_) (fun c10 => ?_)
    · refine az_bipush (v := (-2)) dX12_becomes_21 ?_
      exact az_iret dX12_becomes_23 (by first | (rw [cs_becomes, if_pos (fun q => cs_in_no hxt q.1)] at hQ; exact hQ h1 hM1 hf1) | (rw [cs_becomes, if_pos (fun q => cs_in_no hxl q.2)] at hQ; exact hQ h1 hM1 hf1))
    · exact absurd c10 (by omega)
set_option maxHeartbeats 4000000 in
set_option maxRecDepth 100000 in
theorem q_picks {d : Nat}  {tp fk mo ni : Nat} {bt : Nat → Nat} {fp : Int32} {v : rd_V} {bs : List Nat} {U : ln_U} {im : Nat → Option (rd_V × ln_Z)} {tr : Nat → Option (Nat × List Int64)} {hp : az_Hp} {Q : Option Value → az_Hp → Prop} (hd : 6 ≤ d) (hok : cs_ok ((tp, bt), (fk, fp), v, (mo, ni, bs), U, im, tr)) (hM : mm hp ((tp, bt), (fk, fp), v, (mo, ni, bs), U, im, tr)) (hQ : ∀ h', mm h' ((tp, bt), (fk, fp), v, (mo, ni, bs), U, im, tr) → az_fr hp h' 64 93 → Q (some (.int (cs_picks v mo ni bs))) h') : az_M mX12_picks d 0 0 [.ref 64] hp Q := by
  obtain ⟨sc0, A0, tf0, hI0, rs0, rm0, nu0, o1, o2, -⟩ := id hM
  have hgd : rd_good v := hok.2.2.1
  have hw : ln_ok (rd_w v) := hgd.1
  have hba : ln_ba (rd_w v) bs := hok.2.2.2.1
  have hb : ln_by (rd_w v) bs := hba.b
  have hlen := hb.2.2
  have h60 := hb.1
  have hU10 : U.length ≤ 10 := hok.2.2.2.2.1
  have ht1 := hw.1
  have ht3 := hw.2.1
  refine az_M.of rfl (Nat.le_of_ble_eq_true rfl) ?_
  show az_W _ _ _ _ 0 [(0, .ref 64)] [] _ _
  refine az_aload_n dX12_picks_0 ?_
  refine az_iconst (v := nI 0) dX12_picks_1 ?_
  refine az_putf (fs' := [.int (nI 0), .ref 65, .ref 66, .ref 67, .ref 68, sc0 5, fI (sc0 6), sc0 7, sc0 8, fI (sc0 9), fI (sc0 10), sc0 11, fI (sc0 12), sc0 13, sc0 14, .ref 69, .ref 70, .ref 71, sc0 18, .ref 72, .ref 73, .ref 74, sc0 22, sc0 23, .ref 75, sc0 25, .ref 76, .ref 77, .ref 78, sc0 29, .ref 79, .ref 80, .ref 81, .ref 82, .ref 83, .ref 84, .ref 85, sc0 37, .ref 86, .ref 87, .ref 88, .ref 89, .ref 90, .ref 91, .ref 92]) dX12_picks_2 fl_X12_1 o1 ?_
  obtain ⟨h1, hf1, hM1, hh1⟩ : ∃ h1, az_fr hp h1 64 93 ∧ mm h1 ((tp, bt), (fk, fp), v, (mo, ni, bs), U, im, tr) ∧ h1 = az_up hp 64 (mo_o (su sc0 0 (.int (nI 0)))) := ⟨_, az_fr.rf.up, hM.O (sc := su sc0 0 (.int (nI 0))) o2.1 o2.2.1 o2.2.2, rfl⟩
  rw [show (az_up hp 64 (az_O 11 [.int (nI 0), .ref 65, .ref 66, .ref 67, .ref 68, sc0 5, fI (sc0 6), sc0 7, sc0 8, fI (sc0 9), fI (sc0 10), sc0 11, fI (sc0 12), sc0 13, sc0 14, .ref 69, .ref 70, .ref 71, sc0 18, .ref 72, .ref 73, .ref 74, sc0 22, sc0 23, .ref 75, sc0 25, .ref 76, .ref 77, .ref 78, sc0 29, .ref 79, .ref 80, .ref 81, .ref 82, .ref 83, .ref 84, .ref 85, sc0 37, .ref 86, .ref 87, .ref 88, .ref 89, .ref 90, .ref 91, .ref 92])) = h1 from hh1.symm]
  obtain ⟨sc, A, tf, hI, rs, rm, nu, a1, a2, a3, a4, a5, a6, a7, a8, a9, a10, a11, a12, a13, a14⟩ := id hM1
  have a4 : mT A v (mo, ni, bs) := a4
  have a5 : mU A U := a5
  have a7 : mI A hI im := a7
  have a9 : ∀ j, j < tp → tf j = bt j := a9
  have a13 : mR rs rm nu tr := a13
  refine az_aload_n dX12_picks_5 ?_
  refine az_cV0 (st := []) dX12_picks_6 ml_X12_297 a1 (m_pickedNow (d := d - 1) (by omega) hgd hb a1 a3 a4 a14 ?_)
  intro h2 sc2 b64 hs2 mk2 mf2
  exact az_iret dX12_picks_9 (hQ h2 (hM1.of mf2 (by decide) mk2 b64 ((hs2 5 (by decide)).trans a2.1) ((hs2 13 (by decide)).trans a2.2.1) ((hs2 14 (by decide)).trans a2.2.2)) (hf1.tr mf2.fr))
set_option maxHeartbeats 4000000 in
set_option maxRecDepth 100000 in
theorem q_length {d : Nat}  {tp fk mo ni : Nat} {bt : Nat → Nat} {fp : Int32} {v : rd_V} {bs : List Nat} {U : ln_U} {im : Nat → Option (rd_V × ln_Z)} {tr : Nat → Option (Nat × List Int64)} {hp : az_Hp} {Q : Option Value → az_Hp → Prop} (hd : 4 ≤ d) (hok : cs_ok ((tp, bt), (fk, fp), v, (mo, ni, bs), U, im, tr)) (hM : mm hp ((tp, bt), (fk, fp), v, (mo, ni, bs), U, im, tr)) (hQ : ∀ h', mm h' ((tp, bt), (fk, fp), v, (mo, ni, bs), U, im, tr) → az_fr hp h' 64 93 → Q (some (.long (lN (ln_str (rd_w v) bs).length))) h') : az_M mX12_length d 0 0 [.ref 64] hp Q := by
  obtain ⟨sc0, A0, tf0, hI0, rs0, rm0, nu0, o1, o2, -⟩ := id hM
  have hgd : rd_good v := hok.2.2.1
  have hw : ln_ok (rd_w v) := hgd.1
  have hba : ln_ba (rd_w v) bs := hok.2.2.2.1
  have hb : ln_by (rd_w v) bs := hba.b
  have hlen := hb.2.2
  have h60 := hb.1
  have hU10 : U.length ≤ 10 := hok.2.2.2.2.1
  have ht1 := hw.1
  have ht3 := hw.2.1
  refine az_M.of rfl (Nat.le_of_ble_eq_true rfl) ?_
  show az_W _ _ _ _ 0 [(0, .ref 64)] [] _ _
  refine az_aload_n dX12_length_0 ?_
  refine az_iconst (v := nI 0) dX12_length_1 ?_
  refine az_putf (fs' := [.int (nI 0), .ref 65, .ref 66, .ref 67, .ref 68, sc0 5, fI (sc0 6), sc0 7, sc0 8, fI (sc0 9), fI (sc0 10), sc0 11, fI (sc0 12), sc0 13, sc0 14, .ref 69, .ref 70, .ref 71, sc0 18, .ref 72, .ref 73, .ref 74, sc0 22, sc0 23, .ref 75, sc0 25, .ref 76, .ref 77, .ref 78, sc0 29, .ref 79, .ref 80, .ref 81, .ref 82, .ref 83, .ref 84, .ref 85, sc0 37, .ref 86, .ref 87, .ref 88, .ref 89, .ref 90, .ref 91, .ref 92]) dX12_length_2 fl_X12_1 o1 ?_
  obtain ⟨h1, hf1, hM1, hh1⟩ : ∃ h1, az_fr hp h1 64 93 ∧ mm h1 ((tp, bt), (fk, fp), v, (mo, ni, bs), U, im, tr) ∧ h1 = az_up hp 64 (mo_o (su sc0 0 (.int (nI 0)))) := ⟨_, az_fr.rf.up, hM.O (sc := su sc0 0 (.int (nI 0))) o2.1 o2.2.1 o2.2.2, rfl⟩
  rw [show (az_up hp 64 (az_O 11 [.int (nI 0), .ref 65, .ref 66, .ref 67, .ref 68, sc0 5, fI (sc0 6), sc0 7, sc0 8, fI (sc0 9), fI (sc0 10), sc0 11, fI (sc0 12), sc0 13, sc0 14, .ref 69, .ref 70, .ref 71, sc0 18, .ref 72, .ref 73, .ref 74, sc0 22, sc0 23, .ref 75, sc0 25, .ref 76, .ref 77, .ref 78, sc0 29, .ref 79, .ref 80, .ref 81, .ref 82, .ref 83, .ref 84, .ref 85, sc0 37, .ref 86, .ref 87, .ref 88, .ref 89, .ref 90, .ref 91, .ref 92])) = h1 from hh1.symm]
  obtain ⟨sc, A, tf, hI, rs, rm, nu, a1, a2, a3, a4, a5, a6, a7, a8, a9, a10, a11, a12, a13, a14⟩ := id hM1
  have a4 : mT A v (mo, ni, bs) := a4
  have a5 : mU A U := a5
  have a7 : mI A hI im := a7
  have a9 : ∀ j, j < tp → tf j = bt j := a9
  have a13 : mR rs rm nu tr := a13
  obtain ⟨f70, e70⟩ := a14.J (q := 70) (n := 366)
  refine az_aload_n dX12_length_5 ?_
  refine az_cV0 (st := []) dX12_length_6 ml_X12_278 a1 (m_lengthNow (d := d - 1) (by omega) hw hb a1 a3 a4 e70 ?_)
  intro g9 hm
  exact az_lret dX12_length_9 (hQ _ hM1.J hf1.up)
set_option maxHeartbeats 4000000 in
set_option maxRecDepth 100000 in
theorem q_letter {d : Nat} {x : Int64} {tp fk mo ni : Nat} {bt : Nat → Nat} {fp : Int32} {v : rd_V} {bs : List Nat} {U : ln_U} {im : Nat → Option (rd_V × ln_Z)} {tr : Nat → Option (Nat × List Int64)} {hp : az_Hp} {Q : Option Value → az_Hp → Prop} (hd : 3 ≤ d) (hok : cs_ok ((tp, bt), (fk, fp), v, (mo, ni, bs), U, im, tr)) (hM : mm hp ((tp, bt), (fk, fp), v, (mo, ni, bs), U, im, tr)) (hQ3 : x < lN 0 → ∀ h', mm h' ((tp, bt), (fk, fp), v, (mo, ni, bs), U, im, tr) → az_fr hp h' 64 93 → Q (some (.int (-3))) h') (hQN : ∀ k, x = lN k → k < 2 ^ 63 → (ln_str (rd_w v) bs).length ≤ k → ∀ h', mm h' ((tp, bt), (fk, fp), v, (mo, ni, bs), U, im, tr) → az_fr hp h' 64 93 → Q (some (.int (-1))) h') (hQ : ∀ k, x = lN k → k < (ln_str (rd_w v) bs).length → ∀ h', mm h' ((tp, bt), (fk, fp), v, (mo, ni, bs), U, im, tr) → az_fr hp h' 64 93 → Q (some (.int (nI ((ln_str (rd_w v) bs).getD k 0)))) h') : az_M mX12_letter d 0 0 [.ref 64, .long x] hp Q := by
  obtain ⟨sc0, A0, tf0, hI0, rs0, rm0, nu0, o1, o2, -⟩ := id hM
  have hgd : rd_good v := hok.2.2.1
  have hw : ln_ok (rd_w v) := hgd.1
  have hba : ln_ba (rd_w v) bs := hok.2.2.2.1
  have hb : ln_by (rd_w v) bs := hba.b
  have hlen := hb.2.2
  have h60 := hb.1
  have hU10 : U.length ≤ 10 := hok.2.2.2.2.1
  have ht1 := hw.1
  have ht3 := hw.2.1
  refine az_M.of rfl (Nat.le_of_ble_eq_true rfl) ?_
  show az_W _ _ _ _ 0 [(0, .ref 64), (1, .long x)] [] _ _
  refine az_aload_n dX12_letter_0 ?_
  refine az_iconst (v := nI 0) dX12_letter_1 ?_
  refine az_putf (fs' := [.int (nI 0), .ref 65, .ref 66, .ref 67, .ref 68, sc0 5, fI (sc0 6), sc0 7, sc0 8, fI (sc0 9), fI (sc0 10), sc0 11, fI (sc0 12), sc0 13, sc0 14, .ref 69, .ref 70, .ref 71, sc0 18, .ref 72, .ref 73, .ref 74, sc0 22, sc0 23, .ref 75, sc0 25, .ref 76, .ref 77, .ref 78, sc0 29, .ref 79, .ref 80, .ref 81, .ref 82, .ref 83, .ref 84, .ref 85, sc0 37, .ref 86, .ref 87, .ref 88, .ref 89, .ref 90, .ref 91, .ref 92]) dX12_letter_2 fl_X12_1 o1 ?_
  obtain ⟨h1, hf1, hM1, hh1⟩ : ∃ h1, az_fr hp h1 64 93 ∧ mm h1 ((tp, bt), (fk, fp), v, (mo, ni, bs), U, im, tr) ∧ h1 = az_up hp 64 (mo_o (su sc0 0 (.int (nI 0)))) := ⟨_, az_fr.rf.up, hM.O (sc := su sc0 0 (.int (nI 0))) o2.1 o2.2.1 o2.2.2, rfl⟩
  rw [show (az_up hp 64 (az_O 11 [.int (nI 0), .ref 65, .ref 66, .ref 67, .ref 68, sc0 5, fI (sc0 6), sc0 7, sc0 8, fI (sc0 9), fI (sc0 10), sc0 11, fI (sc0 12), sc0 13, sc0 14, .ref 69, .ref 70, .ref 71, sc0 18, .ref 72, .ref 73, .ref 74, sc0 22, sc0 23, .ref 75, sc0 25, .ref 76, .ref 77, .ref 78, sc0 29, .ref 79, .ref 80, .ref 81, .ref 82, .ref 83, .ref 84, .ref 85, sc0 37, .ref 86, .ref 87, .ref 88, .ref 89, .ref 90, .ref 91, .ref 92])) = h1 from hh1.symm]
  obtain ⟨sc, A, tf, hI, rs, rm, nu, a1, a2, a3, a4, a5, a6, a7, a8, a9, a10, a11, a12, a13, a14⟩ := id hM1
  have a4 : mT A v (mo, ni, bs) := a4
  have a5 : mU A U := a5
  have a7 : mI A hI im := a7
  have a9 : ∀ j, j < tp → tf j = bt j := a9
  have a13 : mR rs rm nu tr := a13
  obtain ⟨f70, e70⟩ := a14.J (q := 70) (n := 366)
  obtain ⟨f71, e71⟩ := a14.J (q := 71) (n := 366)
  refine az_lload_n dX12_letter_5 ?_
  refine az_lconst (v := lN 0) dX12_letter_6 ?_
  refine az_lcmp_ge (tgt := 14) dX12_letter_7 dX12_letter_8 (fun c7 => ?_) (fun c7 => ?_)
  · obtain ⟨k9, hk63, hx⟩ := J_of (Int64.not_lt.mpr c7)
    subst hx
    obtain ⟨g2, rfl⟩ := lN_ex f71
    refine az_aload_n dX12_letter_14 ?_
    refine az_cV0 (st := []) dX12_letter_15 ml_X12_253 a1 (m_laysLong (d := d - 1) (by omega) hw hb a1 a3 a4 e70 ?_)
    intro g9 hm
    refine az_aload_n dX12_letter_18 ?_
    refine az_lload_n dX12_letter_19 ?_
    refine az_cV0 (st := []) dX12_letter_20 ml_X12_267 (az_up_ne a1) (m_comesTo (d := d - 1) (p := k9) (g1 := g9) (g2 := g2) (r := GO (rd_w v) bs g9 g2 k9) (by omega) hw hb (az_up_ne a1) (az_up_ne a3) a4 az_up_eq (az_up_ne e71) (fun k x hk hx => hm.lt hk hx) hk63 rfl ?_)
    exact az_iret dX12_letter_23 (by rw [go_letter hm hw hb]; have hh := (hM1.J (q := 70) (n := 366) (f := fun j => lN (g9 j))).O (sc := su sc 18 (.long (lN (GO (rd_w v) bs g9 g2 k9).2.2))) a2.1 a2.2.1 a2.2.2; by_cases hkl : k9 < (ln_str (rd_w v) bs).length; rw [List.getElem?_eq_getElem hkl, show ln_opt (some (ln_str (rd_w v) bs)[k9]) = nI ((ln_str (rd_w v) bs).getD k9 0) from (by rw [List.getD_eq_getElem?_getD, List.getElem?_eq_getElem hkl]; rfl)]; exact hQ k9 rfl hkl _ hh hf1.up.up; rw [List.getElem?_eq_none (by omega)]; exact hQN k9 rfl hk63 (by omega) _ hh hf1.up.up)
  · refine az_bipush (v := (-3)) dX12_letter_11 ?_
    exact az_iret dX12_letter_13 (hQ3 (Int64.not_le.mp c7) h1 hM1 hf1)
set_option maxHeartbeats 4000000 in
set_option maxRecDepth 100000 in
theorem q_count {d : Nat} {xl : Int32} {x : Int64} {tp fk mo ni : Nat} {bt : Nat → Nat} {fp : Int32} {v : rd_V} {bs : List Nat} {U : ln_U} {im : Nat → Option (rd_V × ln_Z)} {tr : Nat → Option (Nat × List Int64)} {hp : az_Hp} {Q : Option Value → az_Hp → Prop} (hd : 4 ≤ d) (hok : cs_ok ((tp, bt), (fk, fp), v, (mo, ni, bs), U, im, tr)) (hM : mm hp ((tp, bt), (fk, fp), v, (mo, ni, bs), U, im, tr)) (hQ2 : ¬ cs_in xl 6 → ∀ h', mm h' ((tp, bt), (fk, fp), v, (mo, ni, bs), U, im, tr) → az_fr hp h' 64 93 → Q (some (.long (-2))) h') (hQ3 : cs_in xl 6 → (∀ k, k ≤ (ln_str (rd_w v) bs).length → x ≠ lN k) → ∀ h', mm h' ((tp, bt), (fk, fp), v, (mo, ni, bs), U, im, tr) → az_fr hp h' 64 93 → Q (some (.long (-3))) h') (hQ : ∀ l k, xl = nI l → l < 6 → x = lN k → k ≤ (ln_str (rd_w v) bs).length → ∀ h', mm h' ((tp, bt), (fk, fp), v, (mo, ni, bs), U, im, tr) → az_fr hp h' 64 93 → Q (some (.long (lN (((ln_str (rd_w v) bs).take k).count l)))) h') : az_M mX12_count d 0 0 [.ref 64, .int xl, .long x] hp Q := by
  obtain ⟨sc0, A0, tf0, hI0, rs0, rm0, nu0, o1, o2, -⟩ := id hM
  have hgd : rd_good v := hok.2.2.1
  have hw : ln_ok (rd_w v) := hgd.1
  have hba : ln_ba (rd_w v) bs := hok.2.2.2.1
  have hb : ln_by (rd_w v) bs := hba.b
  have hlen := hb.2.2
  have h60 := hb.1
  have hU10 : U.length ≤ 10 := hok.2.2.2.2.1
  have ht1 := hw.1
  have ht3 := hw.2.1
  refine az_M.of rfl (Nat.le_of_ble_eq_true rfl) ?_
  show az_W _ _ _ _ 0 [(0, .ref 64), (1, .int xl), (2, .long x)] [] _ _
  refine az_aload_n dX12_count_0 ?_
  refine az_iconst (v := nI 0) dX12_count_1 ?_
  refine az_putf (fs' := [.int (nI 0), .ref 65, .ref 66, .ref 67, .ref 68, sc0 5, fI (sc0 6), sc0 7, sc0 8, fI (sc0 9), fI (sc0 10), sc0 11, fI (sc0 12), sc0 13, sc0 14, .ref 69, .ref 70, .ref 71, sc0 18, .ref 72, .ref 73, .ref 74, sc0 22, sc0 23, .ref 75, sc0 25, .ref 76, .ref 77, .ref 78, sc0 29, .ref 79, .ref 80, .ref 81, .ref 82, .ref 83, .ref 84, .ref 85, sc0 37, .ref 86, .ref 87, .ref 88, .ref 89, .ref 90, .ref 91, .ref 92]) dX12_count_2 fl_X12_1 o1 ?_
  obtain ⟨h1, hf1, hM1, hh1⟩ : ∃ h1, az_fr hp h1 64 93 ∧ mm h1 ((tp, bt), (fk, fp), v, (mo, ni, bs), U, im, tr) ∧ h1 = az_up hp 64 (mo_o (su sc0 0 (.int (nI 0)))) := ⟨_, az_fr.rf.up, hM.O (sc := su sc0 0 (.int (nI 0))) o2.1 o2.2.1 o2.2.2, rfl⟩
  rw [show (az_up hp 64 (az_O 11 [.int (nI 0), .ref 65, .ref 66, .ref 67, .ref 68, sc0 5, fI (sc0 6), sc0 7, sc0 8, fI (sc0 9), fI (sc0 10), sc0 11, fI (sc0 12), sc0 13, sc0 14, .ref 69, .ref 70, .ref 71, sc0 18, .ref 72, .ref 73, .ref 74, sc0 22, sc0 23, .ref 75, sc0 25, .ref 76, .ref 77, .ref 78, sc0 29, .ref 79, .ref 80, .ref 81, .ref 82, .ref 83, .ref 84, .ref 85, sc0 37, .ref 86, .ref 87, .ref 88, .ref 89, .ref 90, .ref 91, .ref 92])) = h1 from hh1.symm]
  obtain ⟨sc, A, tf, hI, rs, rm, nu, a1, a2, a3, a4, a5, a6, a7, a8, a9, a10, a11, a12, a13, a14⟩ := id hM1
  have a4 : mT A v (mo, ni, bs) := a4
  have a5 : mU A U := a5
  have a7 : mI A hI im := a7
  have a9 : ∀ j, j < tp → tf j = bt j := a9
  have a13 : mR rs rm nu tr := a13
  obtain ⟨f70, e70⟩ := a14.J (q := 70) (n := 366)
  obtain ⟨f71, e71⟩ := a14.J (q := 71) (n := 366)
  refine az_iload_n dX12_count_5 ?_
  refine az_i2l dX12_count_6 ?_
  refine az_cS0 (st := []) dX12_count_7 ml_X12_293 (m_isLetterI (d := d - 1) (by omega) ?_ ?_)
  · intro l9 hxl hl6
    subst hxl
    refine az_if_neN (tgt := 17) dX12_count_10 (fun c10 => ?_) (fun c10 => ?_)
    · skip
      refine az_lload_n dX12_count_17 ?_
      refine az_lconst (v := lN 0) dX12_count_18 ?_
      refine az_aload_n dX12_count_19 ?_
      refine az_cV0 (st := [.long (lN 0), .long x]) dX12_count_20 ml_X12_278 a1 (m_lengthNow (d := d - 1) (by omega) hw hb a1 a3 a4 e70 ?_)
      intro g9 hm
      refine az_cS0 (st := []) dX12_count_23 ml_X12_169 (m_withinJ (d := d - 1) (lo := 0) (hi := (ln_str (rd_w v) bs).length) (by omega) (by decide) ?_ ?_)
      · intro k9 hx hk0 hkl
        subst hx
        refine az_if_neN (tgt := 33) dX12_count_26 (fun c26 => ?_) (fun c26 => ?_)
        · skip
          refine az_aload_n dX12_count_33 ?_
          refine az_iload_n dX12_count_34 ?_
          refine az_cV0 (st := []) dX12_count_35 ml_X12_304 (az_up_ne a1) (m_laysOf (d := d - 1) (c := l9) (by omega) hw hb hl6 (az_up_ne a1) (az_up_ne a3) a4 (az_up_ne e71) ?_)
          intro g2 hm2
          refine az_aload_n dX12_count_38 ?_
          refine az_lload_n dX12_count_39 ?_
          refine az_cV0 (st := []) dX12_count_40 ml_X12_267 (az_up_ne (az_up_ne a1)) (m_comesTo (d := d - 1) (p := k9) (g1 := g9) (g2 := g2) (r := GO (rd_w v) bs g9 g2 k9) (by omega) hw hb (az_up_ne (az_up_ne a1)) (az_up_ne (az_up_ne a3)) a4 (az_up_ne az_up_eq) az_up_eq (fun k x hk hx => hm.lt hk hx) (by omega) rfl ?_)
          refine az_pop dX12_count_43 ?_
          refine az_aload_n dX12_count_44 ?_
          refine az_getf (v := .long (lN ((GO (rd_w v) bs g9 g2 k9).2.2))) dX12_count_45 fl_X12_260 az_up_eq ?_
          exact az_lret dX12_count_48 (by rw [go_count hm hm2 hw hb hkl]; exact hQ l9 k9 rfl hl6 rfl hkl _ (((hM1.J (q := 70) (n := 366) (f := fun j => lN (g9 j))).J (q := 71) (n := 366) (f := fun j => lN (g2 j))).O (sc := su sc 18 (.long (lN (((ln_str (rd_w v) bs).take k9).count l9)))) a2.1 a2.2.1 a2.2.2) hf1.up.up.up)
        · exact absurd c26 (by omega)
      · intro hx
        refine az_if_neN (tgt := 33) dX12_count_26 (fun c26 => ?_) (fun c26 => ?_)
        · exact absurd c26 (by omega)
        · refine az_ldc2 (v := (-3)) dX12_count_29 cn_X12_302 ?_
          exact az_lret dX12_count_32 (hQ3 (cs_in_n hl6 (by decide)).1 (fun k9 hk9 => hx k9 (Nat.zero_le _) hk9) _ hM1.J hf1.up)
    · exact absurd c10 (by omega)
  · intro hxl
    refine az_if_neN (tgt := 17) dX12_count_10 (fun c10 => ?_) (fun c10 => ?_)
    · exact absurd c10 (by omega)
    · refine az_ldc2 (v := (-2)) dX12_count_13 cn_X12_300 ?_
      exact az_lret dX12_count_16 (hQ2 (cs_in_no hxl) h1 hM1 hf1)

