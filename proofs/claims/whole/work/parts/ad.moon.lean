/-! The model: the moon, undone, told deeds -/
set_option maxHeartbeats 4000000 in
set_option maxRecDepth 100000 in
theorem q_moon {d : Nat} {x : Int32} {tp fk mo ni : Nat} {bt : Nat → Nat} {fp : Int32} {v : rd_V} {bs : List Nat} {U : ln_U} {im : Nat → Option (rd_V × ln_Z)} {tr : Nat → Option (Nat × List Int64)} {hp : az_Hp} {Q : Option Value → az_Hp → Prop} (hd : 2 ≤ d) (hok : cs_ok ((tp, bt), (fk, fp), v, (mo, ni, bs), U, im, tr)) (hM : mm hp ((tp, bt), (fk, fp), v, (mo, ni, bs), U, im, tr)) (hQ0 : ¬ cs_in x 10 → ∀ h', mm h' ((tp, bt), (fk, fp), v, (mo, ni, bs), U, im, tr) → az_fr hp h' 64 93 → Q (some (.int (-11))) h') (hQ1 : ∀ n, x = nI n → n < 10 → ∀ h', mm h' ((tp, bt), (fk, fp), v, (n, ni, bs), ln_push U (bs.length, ni, mo), im, tr) → az_fr hp h' 64 93 → Q (some (.int (nI mo))) h') : az_M mX12_moon d 0 0 [.ref 64, .int x] hp Q := by
  obtain ⟨sc0, A0, tf0, hI0, rs0, rm0, nu0, o1, o2, -⟩ := id hM
  have hgd : rd_good v := hok.2.2.1
  have hw : ln_ok (rd_w v) := hgd.1
  have hba : ln_ba (rd_w v) bs := hok.2.2.2.1
  have hb : ln_by (rd_w v) bs := hba.b
  have hlen := hb.2.2
  have h60 := hb.1
  have hU10 : U.length ≤ 10 := hok.2.2.2.2.1
  have ht1 := hw.1
  have ht3 := hw.2.1
  refine az_M.of rfl (Nat.le_of_ble_eq_true rfl) ?_
  show az_W _ _ _ _ 0 [(0, .ref 64), (1, .int x)] [] _ _
  refine az_aload_n dX12_moon_0 ?_
  refine az_iconst (v := nI 0) dX12_moon_1 ?_
  refine az_putf (fs' := [.int (nI 0), .ref 65, .ref 66, .ref 67, .ref 68, sc0 5, fI (sc0 6), sc0 7, sc0 8, fI (sc0 9), fI (sc0 10), sc0 11, fI (sc0 12), sc0 13, sc0 14, .ref 69, .ref 70, .ref 71, sc0 18, .ref 72, .ref 73, .ref 74, sc0 22, sc0 23, .ref 75, sc0 25, .ref 76, .ref 77, .ref 78, sc0 29, .ref 79, .ref 80, .ref 81, .ref 82, .ref 83, .ref 84, .ref 85, sc0 37, .ref 86, .ref 87, .ref 88, .ref 89, .ref 90, .ref 91, .ref 92]) dX12_moon_2 fl_X12_1 o1 ?_
  obtain ⟨h1, hf1, hM1, hh1⟩ : ∃ h1, az_fr hp h1 64 93 ∧ mm h1 ((tp, bt), (fk, fp), v, (mo, ni, bs), U, im, tr) ∧ h1 = az_up hp 64 (mo_o (su sc0 0 (.int (nI 0)))) := ⟨_, az_fr.rf.up, hM.O (sc := su sc0 0 (.int (nI 0))) o2.1 o2.2.1 o2.2.2, rfl⟩
  rw [show (az_up hp 64 (az_O 11 [.int (nI 0), .ref 65, .ref 66, .ref 67, .ref 68, sc0 5, fI (sc0 6), sc0 7, sc0 8, fI (sc0 9), fI (sc0 10), sc0 11, fI (sc0 12), sc0 13, sc0 14, .ref 69, .ref 70, .ref 71, sc0 18, .ref 72, .ref 73, .ref 74, sc0 22, sc0 23, .ref 75, sc0 25, .ref 76, .ref 77, .ref 78, sc0 29, .ref 79, .ref 80, .ref 81, .ref 82, .ref 83, .ref 84, .ref 85, sc0 37, .ref 86, .ref 87, .ref 88, .ref 89, .ref 90, .ref 91, .ref 92])) = h1 from hh1.symm]
  obtain ⟨sc, A, tf, hI, rs, rm, nu, a1, a2, a3, a4, a5, a6, a7, a8, a9, a10, a11, a12, a13, a14⟩ := id hM1
  have a4 : mT A v (mo, ni, bs) := a4
  have a5 : mU A U := a5
  have a7 : mI A hI im := a7
  have a9 : ∀ j, j < tp → tf j = bt j := a9
  have a13 : mR rs rm nu tr := a13
  obtain ⟨f74, e74⟩ := a14.I (q := 74) (n := 3)
  refine az_iload_n dX12_moon_5 ?_
  refine az_i2l dX12_moon_6 ?_
  refine az_lconst (v := lN 0) dX12_moon_7 ?_
  refine az_ldc2 (v := lN 9) dX12_moon_8 cn_X12_332 ?_
  refine az_cS0 (st := []) dX12_moon_11 ml_X12_169 (m_withinI (d := d - 1) (lo := 0) (hi := 9) (by decide) (by decide) ?_ ?_)
  · intro n hx hn0 hn9
    subst hx
    refine az_if_neN (tgt := 20) dX12_moon_14 (fun c14 => ?_) (fun c14 => ?_)
    · skip
      refine az_aload_n dX12_moon_20 ?_
      refine az_cV0 (st := []) dX12_moon_21 ml_X12_321 a1 (m_stores (d := d - 1) a1 a3 e74 ?_)
      intro wn hwn
      have hw3 : (wn 2, wn 1, wn 0) = (bs.length, ni, mo) := (by rw [hwn 2 (by decide), hwn 1 (by decide), hwn 0 (by decide)]; exact Prod.ext a4.2.2.2.1 (Prod.ext a4.2.2.1 a4.2.1))
      refine az_aload_n dX12_moon_24 ?_
      refine az_getf (v := .ref 65) dX12_moon_25 fl_X12_13 (az_up_ne a1) ?_
      refine az_bipush (v := nI 111) dX12_moon_28 ?_
      refine az_iload_n dX12_moon_30 ?_
      refine az_iastN (j := 111) dX12_moon_31 (az_up_ne a3) ?_
      rw [az_s_nI]
      have hkA : (∀ j, (j < 111 ∨ (114 ≤ j ∧ j < 145) ∨ 205 ≤ j) → (az_s A 111 n) j = A j) := (fun j hj => az_s_ne (by omega))
      have hT1 : mT (az_s A 111 n) v (n, ni, bs) := ⟨a4.1.keep hw hkA, az_s_eq, (az_s_ne (by decide)).trans a4.2.2.1, (az_s_ne (by decide)).trans a4.2.2.2.1, fun k hk => (az_s_ne (by omega)).trans (a4.2.2.2.2 k hk)⟩
      refine az_aload_n dX12_moon_32 ?_
      refine az_cV0 (st := []) dX12_moon_33 ml_X12_327 (az_up_ne (az_up_ne a1)) (m_notes (d := d - 1) (U := U) (wn := wn) (az_up_ne (az_up_ne a1)) az_up_eq (az_up_ne az_up_eq) (a5.keep hU10 hkA) hU10 ?_)
      intro A3 k3 k4
      rw [hw3] at k4
      refine az_aload_n dX12_moon_36 ?_
      refine az_getf (v := .ref 74) dX12_moon_37 fl_X12_46 (az_up_ne (az_up_ne (az_up_ne a1))) ?_
      refine az_iconst (v := nI 0) dX12_moon_40 ?_
      refine az_ialdN (j := 0) dX12_moon_41 (az_up_ne (az_up_ne az_up_eq)) ?_
      rw [show wn 0 = mo from congrArg (fun q : Nat × Nat × Nat => q.2.2) hw3]
      exact az_iret dX12_moon_42 (hQ1 n rfl (by omega) _ (mm.go a2 a6 a7 a8 a9 a10 a11 a12 a13 (L := [64, 65, 70, 72, 73, 74]) (by repeat (first | exact mf.rf | refine mf.up ?_ (by decide))) (by decide) (by repeat (first | exact a14 | refine mk.uA ?_ | refine mk.uJ ?_ rfl | refine mk.uI ?_ rfl | refine mk.uO ?_)) (az_up_ne (az_up_ne (az_up_ne a1))) ⟨rfl, rfl, rfl⟩ az_up_eq (hT1.keepN hw k3) k4 (fun j hj => (k3 j (by omega)).trans (hkA j (by omega)))) (hf1.tr (mf.fr (L := [64, 65, 70, 72, 73, 74]) (by repeat (first | exact mf.rf | refine mf.up ?_ (by decide))))))
    · exact absurd c14 (by omega)
  · intro hx
    refine az_if_neN (tgt := 20) dX12_moon_14 (fun c14 => ?_) (fun c14 => ?_)
    · exact absurd c14 (by omega)
    · refine az_bipush (v := (-11)) dX12_moon_17 ?_
      exact az_iret dX12_moon_19 (hQ0 (cs_in_no (fun n hn => hx n (Nat.zero_le _) (by omega))) h1 hM1 hf1)
theorem mV.keepZ {A A' : Nat → Nat} {v : rd_V} (H : mV A v) (hw : ln_ok (rd_w v)) (h : ∀ j, (j < 111 ∨ 115 ≤ j) → A' j = A j) : mV A' v := by
  have e : mV (fun j => if j = 114 then A' j else A j) v := mV.keepN H hw (fun j hj => if_neg (by omega))
  exact mV.keep e hw (fun j hj => (by by_cases q : j = 114; rw [q]; exact (if_pos rfl).symm; exact (h j (by omega)).trans (if_neg q).symm))
set_option maxHeartbeats 4000000 in
set_option maxRecDepth 100000 in
theorem m_undoW {d n k9 : Nat} {sc : Nat → Value} {A : Nat → Nat} {hp : az_Hp} {Q : Option Value → az_Hp → Prop} (h64 : hp.2 64 = some (mo_o sc)) (h65 : hp.2 65 = some (az_I 3318 (fun j => nI (A j)))) (hB : A 114 = k9) (hk9 : k9 < 10) (hQ : ∀ A9 : Nat → Nat, (∀ y, y < 3 → A9 (111 + y) = A (115 + 3 * k9 + y)) → (∀ y, (y < 111 ∨ 114 ≤ y) → A9 y = A y) → Q (some (.int (nI k9))) (az_up hp 65 (az_I 3318 (fun j => nI (A9 j))))) : az_W mX12_undo d 0 0 44 [(0, .ref 64), (1, .int (nI n)), (2, .int (nI 0))] [] hp Q := by
  have loop : ∀ (k : Nat) (i : Nat) (A9 : Nat → Nat) (h' : az_Hp), 3 - i = k → (i ≤ 3) → (∀ y, y < i → A9 (111 + y) = A (115 + 3 * k9 + y)) → (∀ y, (y < 111 ∨ 114 ≤ y) → A9 y = A y) → (h' = az_up hp 65 (az_I 3318 (fun j => nI (A9 j)))) → az_W mX12_undo d 0 0 44 [(0, .ref 64), (1, .int (nI n)), (2, .int (nI i))] [] h' Q := by
    intro k
    induction k using Nat.strongRecOn with
    | _ k ih =>
    intro i A9 h' hk hi hF hG he
    refine az_iload_n dX12_undo_44 ?_
    refine az_iconst (v := nI 3) dX12_undo_45 ?_
    refine az_icmp_geN (tgt := 83) dX12_undo_46 (fun c46 => ?_) (fun c46 => ?_)
    · refine az_aload_n dX12_undo_83 ?_
      refine az_getf (v := .ref 65) dX12_undo_84 fl_X12_13 (by rw [he]; exact az_up_ne h64) ?_
      refine az_bipush (v := nI 114) dX12_undo_87 ?_
      refine az_ialdN (j := 114) dX12_undo_89 (by rw [he]; exact az_up_eq) ?_
      rw [show A9 114 = k9 from (hG 114 (by omega)).trans hB]
      exact az_iret dX12_undo_90 (by rw [he]; exact hQ A9 (fun y hy => hF y (by omega)) hG)
    · refine az_aload_n dX12_undo_49 ?_
      refine az_getf (v := .ref 65) dX12_undo_50 fl_X12_13 (by rw [he]; exact az_up_ne h64) ?_
      refine az_bipush (v := nI 111) dX12_undo_53 ?_
      refine az_iload_n dX12_undo_55 ?_
      refine az_iaddN dX12_undo_56 ?_
      refine az_aload_n dX12_undo_57 ?_
      refine az_getf (v := .ref 65) dX12_undo_58 fl_X12_13 (by rw [he]; exact az_up_ne h64) ?_
      refine az_bipush (v := nI 115) dX12_undo_61 ?_
      refine az_iconst (v := nI 3) dX12_undo_63 ?_
      refine az_aload_n dX12_undo_64 ?_
      refine az_getf (v := .ref 65) dX12_undo_65 fl_X12_13 (by rw [he]; exact az_up_ne h64) ?_
      refine az_bipush (v := nI 114) dX12_undo_68 ?_
      refine az_ialdN (j := 114) dX12_undo_70 (by rw [he]; exact az_up_eq) ?_
      rw [show A9 114 = k9 from (hG 114 (by omega)).trans hB]
      refine az_imulN dX12_undo_71 ?_
      refine az_iaddN dX12_undo_72 ?_
      refine az_iload_n dX12_undo_73 ?_
      refine az_iaddN dX12_undo_74 ?_
      refine az_ialdN (j := (115 + (3 * k9)) + i) dX12_undo_75 (by rw [he]; exact az_up_eq) ?_
      rw [show A9 (115 + 3 * k9 + i) = A (115 + 3 * k9 + i) from hG _ (by omega)]
      refine az_iastN (j := 111 + i) dX12_undo_76 (by rw [he]; exact az_up_eq) ?_
      rw [az_s_nI]
      refine az_iincN (n := 1) (ls' := [(0, .ref 64), (1, .int (nI n)), (2, .int (nI (i + 1)))]) dX12_undo_77 ?_
      refine az_goto (tgt := 44) dX12_undo_80 ?_
      exact ih _ (by omega) (i + 1) (az_s A9 (111 + i) (A (115 + 3 * k9 + i))) _ rfl (by omega) (fun y hy => by by_cases e : y = i; rw [e, az_s_eq]; rw [az_s_ne (by omega)]; exact hF y (by omega)) (fun y hy => (az_s_ne (by omega)).trans (hG y hy)) (by rw [he, az_up_up])
  exact loop _ 0 A _ rfl (Nat.zero_le _) (fun y hy => absurd hy (by omega)) (fun _ _ => rfl) (az_up_same h65).symm
set_option maxHeartbeats 4000000 in
set_option maxRecDepth 100000 in
theorem q_undo {d : Nat} {x : Int32} {tp fk mo ni : Nat} {bt : Nat → Nat} {fp : Int32} {v : rd_V} {bs : List Nat} {U : ln_U} {im : Nat → Option (rd_V × ln_Z)} {tr : Nat → Option (Nat × List Int64)} {hp : az_Hp} {Q : Option Value → az_Hp → Prop} (hd : 2 ≤ d) (hok : cs_ok ((tp, bt), (fk, fp), v, (mo, ni, bs), U, im, tr)) (hM : mm hp ((tp, bt), (fk, fp), v, (mo, ni, bs), U, im, tr)) (hQ0 : (∀ n, 1 ≤ n → n ≤ U.length → x ≠ nI n) → ∀ h', mm h' ((tp, bt), (fk, fp), v, (mo, ni, bs), U, im, tr) → az_fr hp h' 64 93 → Q (some (.int (-3))) h') (hQ1 : ∀ n u, x = nI n → 1 ≤ n → n ≤ U.length → U[U.length - n]? = some u → ∀ h', mm h' ((tp, bt), (fk, fp), v, (u.2.2, u.2.1, bs.take u.1), U.take (U.length - n), im, tr) → az_fr hp h' 64 93 → Q (some (.int (nI (U.length - n)))) h') : az_M mX12_undo d 0 0 [.ref 64, .int x] hp Q := by
  obtain ⟨sc0, A0, tf0, hI0, rs0, rm0, nu0, o1, o2, -⟩ := id hM
  have hgd : rd_good v := hok.2.2.1
  have hw : ln_ok (rd_w v) := hgd.1
  have hba : ln_ba (rd_w v) bs := hok.2.2.2.1
  have hb : ln_by (rd_w v) bs := hba.b
  have hlen := hb.2.2
  have h60 := hb.1
  have hU10 : U.length ≤ 10 := hok.2.2.2.2.1
  have ht1 := hw.1
  have ht3 := hw.2.1
  have hkU : ∀ u ∈ U, u.1 ≤ bs.length := hok.2.2.2.2.2.1.1
  refine az_M.of rfl (Nat.le_of_ble_eq_true rfl) ?_
  show az_W _ _ _ _ 0 [(0, .ref 64), (1, .int x)] [] _ _
  refine az_aload_n dX12_undo_0 ?_
  refine az_iconst (v := nI 0) dX12_undo_1 ?_
  refine az_putf (fs' := [.int (nI 0), .ref 65, .ref 66, .ref 67, .ref 68, sc0 5, fI (sc0 6), sc0 7, sc0 8, fI (sc0 9), fI (sc0 10), sc0 11, fI (sc0 12), sc0 13, sc0 14, .ref 69, .ref 70, .ref 71, sc0 18, .ref 72, .ref 73, .ref 74, sc0 22, sc0 23, .ref 75, sc0 25, .ref 76, .ref 77, .ref 78, sc0 29, .ref 79, .ref 80, .ref 81, .ref 82, .ref 83, .ref 84, .ref 85, sc0 37, .ref 86, .ref 87, .ref 88, .ref 89, .ref 90, .ref 91, .ref 92]) dX12_undo_2 fl_X12_1 o1 ?_
  obtain ⟨h1, hf1, hM1, hh1⟩ : ∃ h1, az_fr hp h1 64 93 ∧ mm h1 ((tp, bt), (fk, fp), v, (mo, ni, bs), U, im, tr) ∧ h1 = az_up hp 64 (mo_o (su sc0 0 (.int (nI 0)))) := ⟨_, az_fr.rf.up, hM.O (sc := su sc0 0 (.int (nI 0))) o2.1 o2.2.1 o2.2.2, rfl⟩
  rw [show (az_up hp 64 (az_O 11 [.int (nI 0), .ref 65, .ref 66, .ref 67, .ref 68, sc0 5, fI (sc0 6), sc0 7, sc0 8, fI (sc0 9), fI (sc0 10), sc0 11, fI (sc0 12), sc0 13, sc0 14, .ref 69, .ref 70, .ref 71, sc0 18, .ref 72, .ref 73, .ref 74, sc0 22, sc0 23, .ref 75, sc0 25, .ref 76, .ref 77, .ref 78, sc0 29, .ref 79, .ref 80, .ref 81, .ref 82, .ref 83, .ref 84, .ref 85, sc0 37, .ref 86, .ref 87, .ref 88, .ref 89, .ref 90, .ref 91, .ref 92])) = h1 from hh1.symm]
  obtain ⟨sc, A, tf, hI, rs, rm, nu, a1, a2, a3, a4, a5, a6, a7, a8, a9, a10, a11, a12, a13, a14⟩ := id hM1
  have a4 : mT A v (mo, ni, bs) := a4
  have a5 : mU A U := a5
  have a7 : mI A hI im := a7
  have a9 : ∀ j, j < tp → tf j = bt j := a9
  have a13 : mR rs rm nu tr := a13
  refine az_iload_n dX12_undo_5 ?_
  refine az_i2l dX12_undo_6 ?_
  refine az_lconst (v := lN 1) dX12_undo_7 ?_
  refine az_ldc2 (v := lN 10) dX12_undo_8 cn_X12_285 ?_
  refine az_cS0 (st := []) dX12_undo_11 ml_X12_169 (m_withinI (d := d - 1) (lo := 1) (hi := 10) (by decide) (by decide) ?_ ?_)
  · intro n hx hn1 hn10
    subst hx
    refine az_if_eqN (tgt := 28) dX12_undo_14 (fun c14 => ?_) (fun c14 => ?_)
    · exact absurd c14 (by omega)
    · have hA4 : A 114 = U.length := a5.1
      refine az_iload_n dX12_undo_17 ?_
      refine az_aload_n dX12_undo_18 ?_
      refine az_getf (v := .ref 65) dX12_undo_19 fl_X12_13 a1 ?_
      refine az_bipush (v := nI 114) dX12_undo_22 ?_
      refine az_ialdN (j := 114) dX12_undo_24 a3 ?_
      rw [hA4]
      refine az_icmp_leN (tgt := 31) dX12_undo_25 (fun c25 => ?_) (fun c25 => ?_)
      · refine az_aload_n dX12_undo_31 ?_
        refine az_getf (v := .ref 65) dX12_undo_32 fl_X12_13 a1 ?_
        refine az_bipush (v := nI 114) dX12_undo_35 ?_
        refine az_dup2_11 dX12_undo_37 ?_
        refine az_ialdN (j := 114) dX12_undo_38 a3 ?_
        rw [hA4]
        refine az_iload_n dX12_undo_39 ?_
        refine az_isubN dX12_undo_40 (by omega) ?_
        refine az_iastN (j := 114) dX12_undo_41 a3 ?_
        rw [az_s_nI]
        obtain ⟨k9, hk9⟩ : ∃ k9, U.length = k9 + n := ⟨U.length - n, by omega⟩
        have hkl : k9 < U.length := (by omega)
        rw [show U.length - n = k9 by omega]
        have hu1 : U[k9]? = some (U.getD k9 (0, 0, 0)) := (by rw [List.getElem?_eq_getElem hkl, List.getD_eq_getElem?_getD, List.getElem?_eq_getElem hkl]; rfl)
        obtain ⟨u, hu⟩ : ∃ u, U.getD k9 (0, 0, 0) = u := ⟨_, rfl⟩
        rw [hu] at hu1
        obtain ⟨g1, g2, g3⟩ := a5.2 k9 hkl
        rw [hu] at g1 g2 g3
        have hub := hkU u (List.mem_of_getElem? hu1)
        refine az_iconst (v := nI 0) dX12_undo_42 ?_
        refine az_istore_n (ls' := [(0, .ref 64), (1, .int (nI n)), (2, .int (nI 0))]) dX12_undo_43 ?_
        refine m_undoW (A := az_s A 114 k9) (az_up_ne a1) az_up_eq az_s_eq (by omega) (fun A9 hF hG9 => ?_)
        have hG : ∀ y, (y < 111 ∨ 115 ≤ y) → A9 y = A y := (fun y hy => (hG9 y (by omega)).trans (az_s_ne (by omega)))
        have hB : A9 114 = k9 := (hG9 114 (by omega)).trans az_s_eq
        have hF : ∀ y, y < 3 → A9 (111 + y) = A (115 + 3 * k9 + y) := (fun y hy => (hF y hy).trans (az_s_ne (by omega)))
        rw [az_up_up]
        have hT9 : mT A9 v (u.2.2, u.2.1, bs.take u.1) := ⟨mV.keepZ a4.1 hw hG, (hF 0 (by omega)).trans g1, (hF 1 (by omega)).trans g2, ((hF 2 (by omega)).trans g3).trans (by simp [Nat.min_eq_left hub]), fun k hk => (by have hk2 : k < u.1 := (by have := hk; simp at this; omega); show A9 (145 + k) = (bs.take u.1).getD k 0; rw [hG _ (by omega), a4.2.2.2.2 k (by show k < bs.length; omega), List.getD_eq_getElem?_getD, List.getD_eq_getElem?_getD, List.getElem?_take_of_lt hk2])⟩
        have hU9 : mU A9 (U.take k9) := ⟨hB.trans (by simp; omega), fun k hk => (by have hk2 : k < k9 := (by have := hk; simp at this; omega); rw [show (U.take k9).getD k (0, 0, 0) = U.getD k (0, 0, 0) from (by rw [List.getD_eq_getElem?_getD, List.getElem?_take_of_lt hk2, ← List.getD_eq_getElem?_getD])]; obtain ⟨q1, q2, q3⟩ := a5.2 k (by omega); exact ⟨(hG _ (by omega)).trans q1, (hG _ (by omega)).trans q2, (hG _ (by omega)).trans q3⟩)⟩
        have hQ2 := hQ1 n u rfl hn1 (by omega) (by rw [show U.length - n = k9 by omega]; exact hu1)
        rw [show U.length - n = k9 by omega] at hQ2
        exact hQ2 _ (mm.go a2 a6 a7 a8 a9 a10 a11 a12 a13 (L := [64, 65, 70, 72, 73, 74]) (mf.rf.up (by decide)) (by decide) (mk.uA a14) (az_up_ne a1) ⟨rfl, rfl, rfl⟩ az_up_eq hT9 hU9 (fun j hj => hG j (by omega))) (hf1.up)
      · refine az_bipush (v := (-3)) dX12_undo_28 ?_
        exact az_iret dX12_undo_30 (by first | exact hQ0 (fun n q1 q2 => hx n q1 (by omega)) h1 hM1 hf1 | exact hQ0 (fun n' q1 q2 q3 => by have := lN_2 q3 (by omega) (by omega); omega) h1 hM1 hf1)
  · intro hx
    refine az_if_eqN (tgt := 28) dX12_undo_14 (fun c14 => ?_) (fun c14 => ?_)
    · refine az_bipush (v := (-3)) dX12_undo_28 ?_
      exact az_iret dX12_undo_30 (by first | exact hQ0 (fun n q1 q2 => hx n q1 (by omega)) h1 hM1 hf1 | exact hQ0 (fun n' q1 q2 q3 => by have := lN_2 q3 (by omega) (by omega); omega) h1 hM1 hf1)
    · exact absurd c14 (by omega)

