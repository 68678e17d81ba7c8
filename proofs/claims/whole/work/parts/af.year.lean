/-! The model: a year -/
theorem yr_un (x : Int32) : ∃ u, u < 65536 ∧ yr_u x = nI u := by
  refine ⟨x.toBitVec.toNat >>> 16, ?_, ?_⟩
  · rw [Nat.shiftRight_eq_div_pow]
    have := x.toBitVec.isLt
    omega
  · apply Int32.toBitVec_inj.mp
    apply BitVec.eq_of_toNat_eq
    have h1 : (yr_u x).toBitVec.toNat = x.toBitVec.toNat >>> 16 := by
      show (x.toUInt32 >>> ((nI 16).toUInt32 &&& Int32.toUInt32 31)).toNat = _
      rw [show (nI 16).toUInt32 &&& Int32.toUInt32 31 = (16 : UInt32) by decide, UInt32.toNat_shiftRight]
      rfl
    rw [h1]
    show _ = (BitVec.ofNat 32 _).toNat
    rw [BitVec.toNat_ofNat, Nat.mod_eq_of_lt]
    rw [Nat.shiftRight_eq_div_pow]
    have := x.toBitVec.isLt
    omega
theorem yr_k_lt (x : Int32) : (yr_k x).toInt < 5 := by
  obtain ⟨u, hu, e⟩ := yr_un x
  have h := rem_toInt (yr_u x) (nI 5)
  rw [e, nI_toI (by omega), nI_toI (by omega)] at h
  show (yr_u x - yr_u x / nI 5 * nI 5).toInt < 5
  rw [e, h]
  have := Int.tmod_lt_of_pos (a := (u : Int)) (b := ((5 : Nat) : Int)) (by decide)
  omega
set_option maxHeartbeats 4000000 in
set_option maxRecDepth 100000 in
theorem m_draw {d b : Nat} {sc : Nat → Value} {x : Int32} {hp : az_Hp} {Q : Option Value → az_Hp → Prop} (h64 : hp.2 64 = some (mo_o sc)) (h25 : sc 25 = .int x) (hb0 : ¬ nI b = 0) (hQ : Q (some (.int (yr_m (yr_u (yr_n x)) (nI b)))) (az_up hp 64 (mo_o (su sc 25 (.int (yr_n x)))))) : az_M mX12_draw d 0 0 [.ref 64, .int (nI b)] hp Q := by
  have e64 : hp.2 64 = some (az_O 11 [sc 0, .ref 65, .ref 66, .ref 67, .ref 68, sc 5, fI (sc 6), sc 7, sc 8, fI (sc 9), fI (sc 10), sc 11, fI (sc 12), sc 13, sc 14, .ref 69, .ref 70, .ref 71, sc 18, .ref 72, .ref 73, .ref 74, sc 22, sc 23, .ref 75, .int x, .ref 76, .ref 77, .ref 78, sc 29, .ref 79, .ref 80, .ref 81, .ref 82, .ref 83, .ref 84, .ref 85, sc 37, .ref 86, .ref 87, .ref 88, .ref 89, .ref 90, .ref 91, .ref 92]) := by rw [← h25]; exact h64
  refine az_M.of rfl (Nat.le_of_ble_eq_true rfl) ?_
  show az_W _ _ _ _ 0 [(0, .ref 64), (1, .int (nI b))] [] _ _
  refine az_aload_n dX12_draw_0 ?_
  refine az_ldcw (v := nI 1103515245) dX12_draw_1 cn_X12_362 ?_
  refine az_aload_n dX12_draw_4 ?_
  refine az_getf (v := .int x) dX12_draw_5 fl_X12_363 e64 ?_
  refine az_imul dX12_draw_8 ?_
  refine az_sipush (v := nI 12345) dX12_draw_9 ?_
  refine az_iadd dX12_draw_12 ?_
  rw [show nI 1103515245 * x + nI 12345 = yr_n x from rfl]
  refine az_putf (fs' := [sc 0, .ref 65, .ref 66, .ref 67, .ref 68, sc 5, fI (sc 6), sc 7, sc 8, fI (sc 9), fI (sc 10), sc 11, fI (sc 12), sc 13, sc 14, .ref 69, .ref 70, .ref 71, sc 18, .ref 72, .ref 73, .ref 74, sc 22, sc 23, .ref 75, .int (yr_n x), .ref 76, .ref 77, .ref 78, sc 29, .ref 79, .ref 80, .ref 81, .ref 82, .ref 83, .ref 84, .ref 85, sc 37, .ref 86, .ref 87, .ref 88, .ref 89, .ref 90, .ref 91, .ref 92]) dX12_draw_13 fl_X12_363 e64 ?_
  refine az_aload_n dX12_draw_16 ?_
  refine az_getf (v := .int (yr_n x)) dX12_draw_17 fl_X12_363 az_up_eq ?_
  refine az_bipush (v := nI 16) dX12_draw_20 ?_
  refine az_iushr dX12_draw_22 ?_
  rw [show ((yr_n x).toUInt32 >>> ((nI 16).toUInt32 &&& Int32.toUInt32 31)).toInt32 = yr_u (yr_n x) from rfl]
  refine az_iload_n dX12_draw_23 ?_
  refine az_irem dX12_draw_24 hb0 ?_
  exact az_iret dX12_draw_25 (hQ)
set_option maxHeartbeats 4000000 in
set_option maxRecDepth 100000 in
theorem m_drawn {d : Nat} {sc : Nat → Value} {x : Int32} {hp : az_Hp} {Q : Option Value → az_Hp → Prop} (hd : 1 ≤ d) (h64 : hp.2 64 = some (mo_o sc)) (h25 : sc 25 = .int x) (hQ : ∀ sc', sc' 25 = .int (yr_d x).1 → (∀ j, j ≠ 25 → sc' j = sc j) → Q (some (.int (yr_d x).2)) (az_up hp 64 (mo_o sc'))) : az_M mX12_drawn d 0 0 [.ref 64] hp Q := by
  have hk5 := yr_k_lt (yr_n x)
  refine az_M.of rfl (Nat.le_of_ble_eq_true rfl) ?_
  show az_W _ _ _ _ 0 [(0, .ref 64)] [] _ _
  refine az_aload_n dX12_drawn_0 ?_
  refine az_iconst (v := nI 5) dX12_drawn_1 ?_
  refine az_cV0 (st := []) dX12_drawn_2 ml_X12_366 h64 (m_draw (d := d - 1) (b := 5) h64 h25 (by decide) ?_)
  refine az_istore_n (ls' := [(0, .ref 64), (1, .int (yr_k (yr_n x)))]) dX12_drawn_5 ?_
  refine az_iload_n dX12_drawn_6 ?_
  refine az_iconst (v := nI 2) dX12_drawn_7 ?_
  refine az_icmp_ge (tgt := 15) dX12_drawn_8 (fun c8 => ?_) (fun c8 => ?_)
  · refine az_iload_n dX12_drawn_15 ?_
    refine az_iconst (v := nI 4) dX12_drawn_16 ?_
    refine az_icmp_ge (tgt := 28) dX12_drawn_17 (fun c17 => ?_) (fun c17 => ?_)
    · refine az_bipush (v := nI 10) dX12_drawn_28 ?_
      refine az_aload_n dX12_drawn_30 ?_
      refine az_bipush (v := nI 10) dX12_drawn_31 ?_
      refine az_cV0 (st := [.int (nI 10)]) dX12_drawn_33 ml_X12_366 az_up_eq (m_draw (d := d - 1) (b := 10) (sc := su sc 25 (.int (yr_n x))) (x := yr_n x) az_up_eq rfl (by decide) ?_)
      rw [az_up_up]
      refine az_iadd dX12_drawn_36 ?_
      exact az_iret dX12_drawn_37 (by first | (have e : yr_d x = (yr_n x, nI 0) := (by rw [yr_d, if_pos (Int32.not_le.mp c8)]); rw [e] at hQ; exact hQ (su sc 25 (.int (yr_n x))) rfl (fun j hj => if_neg hj)) | (have e : yr_d x = (yr_n (yr_n x), yr_m (yr_u (yr_n (yr_n x))) (nI 4)) := (by rw [yr_d, if_neg (Int32.not_lt.mpr c8), if_neg (fun q => by rw [q] at c17; exact c17 (by decide))]); rw [e] at hQ; exact hQ (su (su sc 25 (.int (yr_n x))) 25 (.int (yr_n (yr_n x)))) rfl (fun j hj => by simp [su, hj])) | (have e : yr_d x = (yr_n (yr_n x), nI 10 + yr_m (yr_u (yr_n (yr_n x))) (nI 10)) := (by rw [yr_d, if_neg (Int32.not_lt.mpr c8), if_pos (Int32.toInt_inj.mp (by have q := Int32.le_iff_toInt_le.mp c17; rw [nI_toI (by decide)] at q ⊢; omega))]); rw [e] at hQ; exact hQ (su (su sc 25 (.int (yr_n x))) 25 (.int (yr_n (yr_n x)))) rfl (fun j hj => by simp [su, hj])))
    · refine az_aload_n dX12_drawn_20 ?_
      refine az_iconst (v := nI 4) dX12_drawn_21 ?_
      refine az_cV0 (st := []) dX12_drawn_22 ml_X12_366 az_up_eq (m_draw (d := d - 1) (b := 4) (sc := su sc 25 (.int (yr_n x))) (x := yr_n x) az_up_eq rfl (by decide) ?_)
      rw [az_up_up]
      refine az_goto (tgt := 37) dX12_drawn_25 ?_
      exact az_iret dX12_drawn_37 (by first | (have e : yr_d x = (yr_n x, nI 0) := (by rw [yr_d, if_pos (Int32.not_le.mp c8)]); rw [e] at hQ; exact hQ (su sc 25 (.int (yr_n x))) rfl (fun j hj => if_neg hj)) | (have e : yr_d x = (yr_n (yr_n x), yr_m (yr_u (yr_n (yr_n x))) (nI 4)) := (by rw [yr_d, if_neg (Int32.not_lt.mpr c8), if_neg (fun q => by rw [q] at c17; exact c17 (by decide))]); rw [e] at hQ; exact hQ (su (su sc 25 (.int (yr_n x))) 25 (.int (yr_n (yr_n x)))) rfl (fun j hj => by simp [su, hj])) | (have e : yr_d x = (yr_n (yr_n x), nI 10 + yr_m (yr_u (yr_n (yr_n x))) (nI 10)) := (by rw [yr_d, if_neg (Int32.not_lt.mpr c8), if_pos (Int32.toInt_inj.mp (by have q := Int32.le_iff_toInt_le.mp c17; rw [nI_toI (by decide)] at q ⊢; omega))]); rw [e] at hQ; exact hQ (su (su sc 25 (.int (yr_n x))) 25 (.int (yr_n (yr_n x)))) rfl (fun j hj => by simp [su, hj])))
  · refine az_iconst (v := nI 0) dX12_drawn_11 ?_
    refine az_goto (tgt := 37) dX12_drawn_12 ?_
    exact az_iret dX12_drawn_37 (by first | (have e : yr_d x = (yr_n x, nI 0) := (by rw [yr_d, if_pos (Int32.not_le.mp c8)]); rw [e] at hQ; exact hQ (su sc 25 (.int (yr_n x))) rfl (fun j hj => if_neg hj)) | (have e : yr_d x = (yr_n (yr_n x), yr_m (yr_u (yr_n (yr_n x))) (nI 4)) := (by rw [yr_d, if_neg (Int32.not_lt.mpr c8), if_neg (fun q => by rw [q] at c17; exact c17 (by decide))]); rw [e] at hQ; exact hQ (su (su sc 25 (.int (yr_n x))) 25 (.int (yr_n (yr_n x)))) rfl (fun j hj => by simp [su, hj])) | (have e : yr_d x = (yr_n (yr_n x), nI 10 + yr_m (yr_u (yr_n (yr_n x))) (nI 10)) := (by rw [yr_d, if_neg (Int32.not_lt.mpr c8), if_pos (Int32.toInt_inj.mp (by have q := Int32.le_iff_toInt_le.mp c17; rw [nI_toI (by decide)] at q ⊢; omega))]); rw [e] at hQ; exact hQ (su (su sc 25 (.int (yr_n x))) 25 (.int (yr_n (yr_n x)))) rfl (fun j hj => by simp [su, hj])))
theorem dy_step {w : ln_W} {pk sl : List Nat} {k : Nat} {x : Int32} {z : ln_Z} : dy w pk sl (k + 1) x z = if (dz w pk sl z (yr_d x).2.toInt64).1 = 0 then ((dy w pk sl k (yr_d x).1 (dz w pk sl z (yr_d x).2.toInt64).2).1 + 1, (dy w pk sl k (yr_d x).1 (dz w pk sl z (yr_d x).2.toInt64).2).2) else dy w pk sl k (yr_d x).1 z := rfl
theorem I_lN {x : Int32} {n : Nat} (hn : n < 2 ^ 31) (h : x.toInt64 = lN n) : x = nI n := by
  apply Int32.toInt_inj.mp
  have := congrArg Int64.toInt h
  rw [Int32.toInt_toInt64, lN_toI (by omega)] at this
  rw [this, nI_toI hn]
set_option maxHeartbeats 4000000 in
set_option maxRecDepth 100000 in
theorem m_yearW {d n : Nat} {xs : Int32} {sc : Nat → Value} {A tf : Nat → Nat} {hI rs rm : Nat → Int32} {nu : Nat → Int64} {wn : Nat → Nat} {h1 hb2 : az_Hp} {sc0 : Nat → Value} {tp fk mo ni : Nat} {bt : Nat → Nat} {fp : Int32} {v : rd_V} {bs : List Nat} {U : ln_U} {im : Nat → Option (rd_V × ln_Z)} {tr : Nat → Option (Nat × List Int64)} {hp : az_Hp} {Q : Option Value → az_Hp → Prop} (hgd : rd_good v) (hb : ln_by (rd_w v) bs) (hd : 9 ≤ d) (hok : cs_ok ((tp, bt), (fk, fp), v, (mo, ni, bs), U, im, tr)) (a2 : sc 5 = .int (nI tp) ∧ sc 13 = .int (nI fk) ∧ sc 14 = .int fp) (a6 : h1.2 66 = some (az_Z 2 hI)) (a7 : mI A hI im) (a8 : h1.2 67 = some (az_I 900 (fun j => nI (tf j)))) (a9 : ∀ j, j < tp → tf j = bt j) (a10 : h1.2 90 = some (az_I 4 rs)) (a11 : h1.2 91 = some (az_I 4 rm)) (a12 : h1.2 92 = some (az_J 160 nu)) (a13 : mR rs rm nu tr) (a4 : mT A v (mo, ni, bs)) (a5 : mU A U) (hf1 : az_fr hp h1 64 93) (hn20 : n ≤ 20) (hw3 : (wn 2, wn 1, wn 0) = (bs.length, ni, mo)) (c64 : hb2.2 64 = some (mo_o sc0)) (c25 : sc0 25 = .int xs) (cs0 : ∀ j, j ≠ 25 → sc0 j = sc j) (c65 : hb2.2 65 = some (az_I 3318 (fun j => nI (A j)))) (c74 : hb2.2 74 = some (az_I 3 (fun j => nI (wn j)))) (cmk : mk hb2) (cmf : mf h1 hb2 [64, 65, 70, 72, 73, 74]) (hQ : ∀ h', mm h' ((tp, bt), (fk, fp), v, (dy (rd_w v) v.2.2.2.2.2.2.2.1 v.2.2.2.2.2.2.2.2 n xs (mo, ni, bs)).2, cs_push U (dy (rd_w v) v.2.2.2.2.2.2.2.1 v.2.2.2.2.2.2.2.2 n xs (mo, ni, bs)).1 (bs.length, ni, mo), im, tr) → az_fr hp h' 64 93 → Q (some (.int (nI (dy (rd_w v) v.2.2.2.2.2.2.2.1 v.2.2.2.2.2.2.2.2 n xs (mo, ni, bs)).1))) h') : az_W mX12_year d 0 0 34 [(0, .ref 64), (1, .int xs), (2, .int (nI n)), (3, .int (nI 0)), (4, .int (nI 0))] [] hb2 Q := by
  have hw : ln_ok (rd_w v) := hgd.1
  have ht1 := hw.1
  have ht3 := hw.2.1
  have hU10 : U.length ≤ 10 := hok.2.2.2.2.1
  have loop : ∀ (k : Nat) (i ct m9 n9 : Nat) (b9 : List Nat) (x1 : Int32) (h' : az_Hp) (sc1 : Nat → Value) (A1 : Nat → Nat), n - i = k → (i ≤ n) → (ct ≤ i) → (ln_by (rd_w v) b9) → (h'.2 64 = some (mo_o sc1)) → (sc1 25 = .int x1) → (∀ j, j ≠ 18 → j ≠ 22 → j ≠ 25 → sc1 j = sc j) → (h'.2 65 = some (az_I 3318 (fun j => nI (A1 j)))) → (mT A1 v (m9, n9, b9)) → ((∀ j, (j < 111 ∨ (114 ≤ j ∧ j < 145) ∨ 205 ≤ j) → A1 j = A j)) → (h'.2 74 = some (az_I 3 (fun j => nI (wn j)))) → (mk h') → (mf hb2 h' [64, 65, 70, 72, 73]) → (dy (rd_w v) v.2.2.2.2.2.2.2.1 v.2.2.2.2.2.2.2.2 n xs (mo, ni, bs) = (ct + (dy (rd_w v) v.2.2.2.2.2.2.2.1 v.2.2.2.2.2.2.2.2 (n - i) x1 (m9, n9, b9)).1, (dy (rd_w v) v.2.2.2.2.2.2.2.1 v.2.2.2.2.2.2.2.2 (n - i) x1 (m9, n9, b9)).2)) → az_W mX12_year d 0 0 34 [(0, .ref 64), (1, .int xs), (2, .int (nI n)), (3, .int (nI ct)), (4, .int (nI i))] [] h' Q := by
    intro k
    induction k using Nat.strongRecOn with
    | _ k ih =>
    intro i ct m9 n9 b9 x1 h' sc1 A1 hk hi hct hby b64 b25 hs1 b65 hT1 hA1 b74 mk1' mf1 hD
    refine az_iload dX12_year_34 ?_
    refine az_iload_n dX12_year_36 ?_
    refine az_icmp_geN (tgt := 74) dX12_year_37 (fun c37 => ?_) (fun c37 => ?_)
    · have hDi : dy (rd_w v) v.2.2.2.2.2.2.2.1 v.2.2.2.2.2.2.2.2 n xs (mo, ni, bs) = (ct, (m9, n9, b9)) := (by rw [show n - i = 0 by omega] at hD; exact hD)
      refine az_iload_n dX12_year_74 ?_
      refine az_if_leN (tgt := 82) dX12_year_75 (fun c75 => ?_) (fun c75 => ?_)
      · refine az_iload_n dX12_year_82 ?_
        exact az_iret dX12_year_83 (by first | (rw [hDi, push_1 (by show ¬ ct = 0; omega)] at hQ; exact hQ _ (mm.go a2 a6 a7 a8 a9 a10 a11 a12 a13 (L := [64, 65, 70, 72, 73, 74]) ((cmf.tr (mf1.wk (L' := [64, 65, 70, 72, 73, 74])) (by decide)).up (by decide)) (by decide) (mk.uA mk1') b64 ⟨hs1 5 (by decide) (by decide) (by decide), hs1 13 (by decide) (by decide) (by decide), hs1 14 (by decide) (by decide) (by decide)⟩ b65 (hT1.keepN hw k3) k4 (fun j hj => (k3 j (by omega)).trans (hA1 j (by omega)))) (hf1.tr (mf.fr (L := [64, 65, 70, 72, 73, 74]) ((cmf.tr (mf1.wk (L' := [64, 65, 70, 72, 73, 74])) (by decide)).up (by decide))))) | (rw [hDi, push_0 (by show ct = 0; omega)] at hQ; exact hQ _ (mm.go a2 a6 a7 a8 a9 a10 a11 a12 a13 (L := [64, 65, 70, 72, 73, 74]) (cmf.tr (mf1.wk (L' := [64, 65, 70, 72, 73, 74])) (by decide)) (by decide) mk1' b64 ⟨hs1 5 (by decide) (by decide) (by decide), hs1 13 (by decide) (by decide) (by decide), hs1 14 (by decide) (by decide) (by decide)⟩ b65 hT1 (a5.keep hU10 hA1) (fun j hj => hA1 j (by omega))) (hf1.tr (mf.fr (L := [64, 65, 70, 72, 73, 74]) (cmf.tr (mf1.wk (L' := [64, 65, 70, 72, 73, 74])) (by decide))))))
      · refine az_aload_n dX12_year_78 ?_
        refine az_cV0 (st := []) dX12_year_79 ml_X12_327 b64 (m_notes (d := d - 1) (U := U) (wn := wn) b64 b65 b74 (a5.keep hU10 hA1) hU10 ?_)
        intro A3 k3 k4
        rw [hw3] at k4
        refine az_iload_n dX12_year_82 ?_
        exact az_iret dX12_year_83 (by first | (rw [hDi, push_1 (by show ¬ ct = 0; omega)] at hQ; exact hQ _ (mm.go a2 a6 a7 a8 a9 a10 a11 a12 a13 (L := [64, 65, 70, 72, 73, 74]) ((cmf.tr (mf1.wk (L' := [64, 65, 70, 72, 73, 74])) (by decide)).up (by decide)) (by decide) (mk.uA mk1') (az_up_ne b64) ⟨hs1 5 (by decide) (by decide) (by decide), hs1 13 (by decide) (by decide) (by decide), hs1 14 (by decide) (by decide) (by decide)⟩ az_up_eq (hT1.keepN hw k3) k4 (fun j hj => (k3 j (by omega)).trans (hA1 j (by omega)))) (hf1.tr (mf.fr (L := [64, 65, 70, 72, 73, 74]) ((cmf.tr (mf1.wk (L' := [64, 65, 70, 72, 73, 74])) (by decide)).up (by decide))))) | (rw [hDi, push_0 (by show ct = 0; omega)] at hQ; exact hQ _ (mm.go a2 a6 a7 a8 a9 a10 a11 a12 a13 (L := [64, 65, 70, 72, 73, 74]) (cmf.tr (mf1.wk (L' := [64, 65, 70, 72, 73, 74])) (by decide)) (by decide) mk1' b64 ⟨hs1 5 (by decide) (by decide) (by decide), hs1 13 (by decide) (by decide) (by decide), hs1 14 (by decide) (by decide) (by decide)⟩ b65 hT1 (a5.keep hU10 hA1) (fun j hj => hA1 j (by omega))) (hf1.tr (mf.fr (L := [64, 65, 70, 72, 73, 74]) (cmf.tr (mf1.wk (L' := [64, 65, 70, 72, 73, 74])) (by decide))))))
    · refine az_aload_n dX12_year_40 ?_
      refine az_cV0 (st := []) dX12_year_41 ml_X12_371 b64 (m_drawn (d := d - 1) (x := x1) (by omega) b64 b25 ?_)
      intro sc2 d25 hs2
      obtain ⟨r9, hr9⟩ : ∃ r9, n - i = r9 + 1 := ⟨n - i - 1, by omega⟩
      rw [hr9, dy_step] at hD
      refine az_istore (ls' := [(0, .ref 64), (1, .int xs), (2, .int (nI n)), (3, .int (nI ct)), (4, .int (nI i)), (5, .int ((yr_d x1).2))]) dX12_year_44 ?_
      refine az_aload_n dX12_year_46 ?_
      refine az_iload dX12_year_47 ?_
      refine az_i2l dX12_year_49 ?_
      refine az_cV0 (st := []) dX12_year_50 ml_X12_341 az_up_eq (m_whyNot (d := d - 1) (x := (yr_d x1).2.toInt64) (by omega) hgd hby az_up_eq (az_up_ne b65) hT1 (mk.uO mk1') ?_)
      intro h3 sc3 d64 b22 hs3 mk3 mf3
      have hco := dz_co (rd_w v) v.2.2.2.2.2.2.2.1 v.2.2.2.2.2.2.2.2 (m9, n9, b9) (yr_d x1).2.toInt64
      have hby2 := dz_by (pk := v.2.2.2.2.2.2.2.1) (sl := v.2.2.2.2.2.2.2.2) (z := (m9, n9, b9)) (v := (yr_d x1).2.toInt64) hw hby
      refine az_if_eqN (tgt := 59) dX12_year_53 (fun c53 => ?_) (fun c53 => ?_)
      · obtain ⟨n5, hn5, hn8⟩ := dz_0 hw c53
        have hI5 := I_lN (by omega) hn5
        rw [hI5]
        refine az_aload_n dX12_year_59 ?_
        refine az_iload dX12_year_60 ?_
        refine az_cV0 (st := []) dX12_year_62 ml_X12_344 d64 (m_does (d := d - 1) (n := n5) (by omega) hw hby hn8 (by rw [← hn5]; exact c53) d64 (fun hle => b22 n5 hn5 hle) (mf3.at (az_up_ne b65)) hT1 ?_)
        intro A2 k1 k2
        rw [← hn5] at k1
        refine az_iincN (n := 1) (ls' := [(0, .ref 64), (1, .int xs), (2, .int (nI n)), (3, .int (nI (ct + 1))), (4, .int (nI i)), (5, .int (nI n5))]) dX12_year_65 ?_
        refine az_iincN (n := 1) (ls' := [(0, .ref 64), (1, .int xs), (2, .int (nI n)), (3, .int (nI (ct + 1))), (4, .int (nI (i + 1))), (5, .int (nI n5))]) dX12_year_68 ?_
        refine az_goto (tgt := 34) dX12_year_71 ?_
        refine az_W.keep (ls' := [(0, .ref 64), (1, .int xs), (2, .int (nI n)), (3, .int (nI (ct + 1))), (4, .int (nI (i + 1)))]) [0, 1, 2, 3, 4] rfl ?_
        first | (rw [if_pos c53] at hD; exact ih _ (by omega) (i + 1) (ct + 1) (dz (rd_w v) v.2.2.2.2.2.2.2.1 v.2.2.2.2.2.2.2.2 (m9, n9, b9) (yr_d x1).2.toInt64).2.1 (dz (rd_w v) v.2.2.2.2.2.2.2.1 v.2.2.2.2.2.2.2.2 (m9, n9, b9) (yr_d x1).2.toInt64).2.2.1 (dz (rd_w v) v.2.2.2.2.2.2.2.1 v.2.2.2.2.2.2.2.2 (m9, n9, b9) (yr_d x1).2.toInt64).2.2.2 (yr_d x1).1 _ sc3 A2 rfl (by omega) (by omega) hby2 (az_up_ne d64) ((hs3 25 (by decide) (by decide)).trans d25) (fun j e1 e2 e3 => (hs3 j e1 e2).trans ((hs2 j e3).trans (hs1 j e1 e2 e3))) az_up_eq k1 (fun j hj => (k2 j hj).trans (hA1 j hj)) (az_up_ne (mf3.at (az_up_ne b74))) (mk.uA mk3) (((mf1.up (by decide)).tr (mf3.wk (L' := [64, 65, 70, 72, 73])) (by decide)).up (by decide)) (by rw [hD, show n - (i + 1) = r9 by omega]; exact Prod.ext (show ct + ((dy (rd_w v) v.2.2.2.2.2.2.2.1 v.2.2.2.2.2.2.2.2 r9 (yr_d x1).1 (dz (rd_w v) v.2.2.2.2.2.2.2.1 v.2.2.2.2.2.2.2.2 (m9, n9, b9) (yr_d x1).2.toInt64).2).1 + 1) = ct + 1 + (dy (rd_w v) v.2.2.2.2.2.2.2.1 v.2.2.2.2.2.2.2.2 r9 (yr_d x1).1 (dz (rd_w v) v.2.2.2.2.2.2.2.1 v.2.2.2.2.2.2.2.2 (m9, n9, b9) (yr_d x1).2.toInt64).2).1 by omega) rfl)) | (rw [if_neg c53] at hD; exact ih _ (by omega) (i + 1) ct m9 n9 b9 (yr_d x1).1 _ sc3 A1 rfl (by omega) (by omega) hby d64 ((hs3 25 (by decide) (by decide)).trans d25) (fun j e1 e2 e3 => (hs3 j e1 e2).trans ((hs2 j e3).trans (hs1 j e1 e2 e3))) (mf3.at (az_up_ne b65)) hT1 hA1 (mf3.at (az_up_ne b74)) mk3 ((mf1.up (by decide)).tr (mf3.wk (L' := [64, 65, 70, 72, 73])) (by decide)) (by rw [hD, show n - (i + 1) = r9 by omega]))
      · refine az_goto (tgt := 68) dX12_year_56 ?_
        refine az_iincN (n := 1) (ls' := [(0, .ref 64), (1, .int xs), (2, .int (nI n)), (3, .int (nI ct)), (4, .int (nI (i + 1))), (5, .int ((yr_d x1).2))]) dX12_year_68 ?_
        refine az_goto (tgt := 34) dX12_year_71 ?_
        refine az_W.keep (ls' := [(0, .ref 64), (1, .int xs), (2, .int (nI n)), (3, .int (nI ct)), (4, .int (nI (i + 1)))]) [0, 1, 2, 3, 4] rfl ?_
        first | (rw [if_pos c53] at hD; exact ih _ (by omega) (i + 1) (ct + 1) (dz (rd_w v) v.2.2.2.2.2.2.2.1 v.2.2.2.2.2.2.2.2 (m9, n9, b9) (yr_d x1).2.toInt64).2.1 (dz (rd_w v) v.2.2.2.2.2.2.2.1 v.2.2.2.2.2.2.2.2 (m9, n9, b9) (yr_d x1).2.toInt64).2.2.1 (dz (rd_w v) v.2.2.2.2.2.2.2.1 v.2.2.2.2.2.2.2.2 (m9, n9, b9) (yr_d x1).2.toInt64).2.2.2 (yr_d x1).1 _ sc3 A2 rfl (by omega) (by omega) hby2 (az_up_ne d64) ((hs3 25 (by decide) (by decide)).trans d25) (fun j e1 e2 e3 => (hs3 j e1 e2).trans ((hs2 j e3).trans (hs1 j e1 e2 e3))) az_up_eq k1 (fun j hj => (k2 j hj).trans (hA1 j hj)) (az_up_ne (mf3.at (az_up_ne b74))) (mk.uA mk3) (((mf1.up (by decide)).tr (mf3.wk (L' := [64, 65, 70, 72, 73])) (by decide)).up (by decide)) (by rw [hD, show n - (i + 1) = r9 by omega]; exact Prod.ext (show ct + ((dy (rd_w v) v.2.2.2.2.2.2.2.1 v.2.2.2.2.2.2.2.2 r9 (yr_d x1).1 (dz (rd_w v) v.2.2.2.2.2.2.2.1 v.2.2.2.2.2.2.2.2 (m9, n9, b9) (yr_d x1).2.toInt64).2).1 + 1) = ct + 1 + (dy (rd_w v) v.2.2.2.2.2.2.2.1 v.2.2.2.2.2.2.2.2 r9 (yr_d x1).1 (dz (rd_w v) v.2.2.2.2.2.2.2.1 v.2.2.2.2.2.2.2.2 (m9, n9, b9) (yr_d x1).2.toInt64).2).1 by omega) rfl)) | (rw [if_neg c53] at hD; exact ih _ (by omega) (i + 1) ct m9 n9 b9 (yr_d x1).1 _ sc3 A1 rfl (by omega) (by omega) hby d64 ((hs3 25 (by decide) (by decide)).trans d25) (fun j e1 e2 e3 => (hs3 j e1 e2).trans ((hs2 j e3).trans (hs1 j e1 e2 e3))) (mf3.at (az_up_ne b65)) hT1 hA1 (mf3.at (az_up_ne b74)) mk3 ((mf1.up (by decide)).tr (mf3.wk (L' := [64, 65, 70, 72, 73])) (by decide)) (by rw [hD, show n - (i + 1) = r9 by omega]))
  exact loop _ 0 0 mo ni bs xs hb2 sc0 A rfl (Nat.zero_le _) (Nat.le_refl _) hb c64 c25 (fun j _ _ e3 => cs0 j e3) c65 a4 (fun _ _ => rfl) c74 cmk mf.rf (by rw [Nat.sub_zero]; exact Prod.ext (show (dy (rd_w v) v.2.2.2.2.2.2.2.1 v.2.2.2.2.2.2.2.2 n xs (mo, ni, bs)).1 = 0 + (dy (rd_w v) v.2.2.2.2.2.2.2.1 v.2.2.2.2.2.2.2.2 n xs (mo, ni, bs)).1 by omega) rfl)
set_option maxHeartbeats 4000000 in
set_option maxRecDepth 100000 in
theorem q_year {d : Nat} {xs xt : Int32} {tp fk mo ni : Nat} {bt : Nat → Nat} {fp : Int32} {v : rd_V} {bs : List Nat} {U : ln_U} {im : Nat → Option (rd_V × ln_Z)} {tr : Nat → Option (Nat × List Int64)} {hp : az_Hp} {Q : Option Value → az_Hp → Prop} (hd : 9 ≤ d) (hok : cs_ok ((tp, bt), (fk, fp), v, (mo, ni, bs), U, im, tr)) (hM : mm hp ((tp, bt), (fk, fp), v, (mo, ni, bs), U, im, tr)) (hQ3 : (∀ n, 1 ≤ n → n ≤ 20 → xt ≠ nI n) → ∀ h', mm h' ((tp, bt), (fk, fp), v, (mo, ni, bs), U, im, tr) → az_fr hp h' 64 93 → Q (some (.int (-3))) h') (hQ : ∀ n, xt = nI n → 1 ≤ n → n ≤ 20 → ∀ h', mm h' ((tp, bt), (fk, fp), v, (dy (rd_w v) v.2.2.2.2.2.2.2.1 v.2.2.2.2.2.2.2.2 n xs (mo, ni, bs)).2, cs_push U (dy (rd_w v) v.2.2.2.2.2.2.2.1 v.2.2.2.2.2.2.2.2 n xs (mo, ni, bs)).1 (bs.length, ni, mo), im, tr) → az_fr hp h' 64 93 → Q (some (.int (nI (dy (rd_w v) v.2.2.2.2.2.2.2.1 v.2.2.2.2.2.2.2.2 n xs (mo, ni, bs)).1))) h') : az_M mX12_year d 0 0 [.ref 64, .int xs, .int xt] hp Q := by
  obtain ⟨sc0, A0, tf0, hI0, rs0, rm0, nu0, o1, o2, -⟩ := id hM
  have hgd : rd_good v := hok.2.2.1
  have hw : ln_ok (rd_w v) := hgd.1
  have hba : ln_ba (rd_w v) bs := hok.2.2.2.1
  have hb : ln_by (rd_w v) bs := hba.b
  have hlen := hb.2.2
  have h60 := hb.1
  have hU10 : U.length ≤ 10 := hok.2.2.2.2.1
  have ht1 := hw.1
  have ht3 := hw.2.1
  refine az_M.of rfl (Nat.le_of_ble_eq_true rfl) ?_
  show az_W _ _ _ _ 0 [(0, .ref 64), (1, .int xs), (2, .int xt)] [] _ _
  refine az_aload_n dX12_year_0 ?_
  refine az_iconst (v := nI 0) dX12_year_1 ?_
  refine az_putf (fs' := [.int (nI 0), .ref 65, .ref 66, .ref 67, .ref 68, sc0 5, fI (sc0 6), sc0 7, sc0 8, fI (sc0 9), fI (sc0 10), sc0 11, fI (sc0 12), sc0 13, sc0 14, .ref 69, .ref 70, .ref 71, sc0 18, .ref 72, .ref 73, .ref 74, sc0 22, sc0 23, .ref 75, sc0 25, .ref 76, .ref 77, .ref 78, sc0 29, .ref 79, .ref 80, .ref 81, .ref 82, .ref 83, .ref 84, .ref 85, sc0 37, .ref 86, .ref 87, .ref 88, .ref 89, .ref 90, .ref 91, .ref 92]) dX12_year_2 fl_X12_1 o1 ?_
  obtain ⟨h1, hf1, hM1, hh1⟩ : ∃ h1, az_fr hp h1 64 93 ∧ mm h1 ((tp, bt), (fk, fp), v, (mo, ni, bs), U, im, tr) ∧ h1 = az_up hp 64 (mo_o (su sc0 0 (.int (nI 0)))) := ⟨_, az_fr.rf.up, hM.O (sc := su sc0 0 (.int (nI 0))) o2.1 o2.2.1 o2.2.2, rfl⟩
  rw [show (az_up hp 64 (az_O 11 [.int (nI 0), .ref 65, .ref 66, .ref 67, .ref 68, sc0 5, fI (sc0 6), sc0 7, sc0 8, fI (sc0 9), fI (sc0 10), sc0 11, fI (sc0 12), sc0 13, sc0 14, .ref 69, .ref 70, .ref 71, sc0 18, .ref 72, .ref 73, .ref 74, sc0 22, sc0 23, .ref 75, sc0 25, .ref 76, .ref 77, .ref 78, sc0 29, .ref 79, .ref 80, .ref 81, .ref 82, .ref 83, .ref 84, .ref 85, sc0 37, .ref 86, .ref 87, .ref 88, .ref 89, .ref 90, .ref 91, .ref 92])) = h1 from hh1.symm]
  obtain ⟨sc, A, tf, hI, rs, rm, nu, a1, a2, a3, a4, a5, a6, a7, a8, a9, a10, a11, a12, a13, a14⟩ := id hM1
  have a4 : mT A v (mo, ni, bs) := a4
  have a5 : mU A U := a5
  have a7 : mI A hI im := a7
  have a9 : ∀ j, j < tp → tf j = bt j := a9
  have a13 : mR rs rm nu tr := a13
  obtain ⟨f74, e74⟩ := a14.I (q := 74) (n := 3)
  refine az_iload_n dX12_year_5 ?_
  refine az_i2l dX12_year_6 ?_
  refine az_lconst (v := lN 1) dX12_year_7 ?_
  refine az_ldc2 (v := lN 20) dX12_year_8 cn_X12_369 ?_
  refine az_cS0 (st := []) dX12_year_11 ml_X12_169 (m_withinI (d := d - 1) (lo := 1) (hi := 20) (by decide) (by decide) ?_ ?_)
  · intro n hx hn1 hn20
    refine az_if_neN (tgt := 20) dX12_year_14 (fun c14 => ?_) (fun c14 => ?_)
    · subst hx
      refine az_aload_n dX12_year_20 ?_
      refine az_cV0 (st := []) dX12_year_21 ml_X12_321 a1 (m_stores (d := d - 1) a1 a3 e74 ?_)
      intro wn hwn
      have hw3 : (wn 2, wn 1, wn 0) = (bs.length, ni, mo) := (by rw [hwn 2 (by decide), hwn 1 (by decide), hwn 0 (by decide)]; exact Prod.ext a4.2.2.2.1 (Prod.ext a4.2.2.1 a4.2.1))
      refine az_aload_n dX12_year_24 ?_
      refine az_iload_n dX12_year_25 ?_
      refine az_putf (fs' := [sc 0, .ref 65, .ref 66, .ref 67, .ref 68, sc 5, fI (sc 6), sc 7, sc 8, fI (sc 9), fI (sc 10), sc 11, fI (sc 12), sc 13, sc 14, .ref 69, .ref 70, .ref 71, sc 18, .ref 72, .ref 73, .ref 74, sc 22, sc 23, .ref 75, .int xs, .ref 76, .ref 77, .ref 78, sc 29, .ref 79, .ref 80, .ref 81, .ref 82, .ref 83, .ref 84, .ref 85, sc 37, .ref 86, .ref 87, .ref 88, .ref 89, .ref 90, .ref 91, .ref 92]) dX12_year_26 fl_X12_363 (az_up_ne a1) ?_
      refine az_iconst (v := nI 0) dX12_year_29 ?_
      refine az_istore_n (ls' := [(0, .ref 64), (1, .int xs), (2, .int (nI n)), (3, .int (nI 0))]) dX12_year_30 ?_
      refine az_iconst (v := nI 0) dX12_year_31 ?_
      refine az_istore (ls' := [(0, .ref 64), (1, .int xs), (2, .int (nI n)), (3, .int (nI 0)), (4, .int (nI 0))]) dX12_year_32 ?_
      exact m_yearW (sc0 := su sc 25 (.int xs)) hgd hb hd hok a2 a6 a7 a8 a9 a10 a11 a12 a13 a4 a5 hf1 hn20 hw3 az_up_eq rfl (fun j hj => if_neg hj) (az_up_ne (az_up_ne a3)) (az_up_ne az_up_eq) (mk.uO (mk.uI a14 rfl)) (((mf.rf.up (by decide)).up (by decide))) (fun h' b1 b2 => hQ n rfl hn1 hn20 h' b1 b2)
    · exact absurd c14 (by omega)
  · intro hx
    refine az_if_neN (tgt := 20) dX12_year_14 (fun c14 => ?_) (fun c14 => ?_)
    · exact absurd c14 (by omega)
    · refine az_bipush (v := (-3)) dX12_year_17 ?_
      exact az_iret dX12_year_19 (hQ3 hx h1 hM1 hf1)

