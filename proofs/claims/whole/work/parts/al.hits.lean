/-! The model: told words sought -/
theorem kp_yes {g : Nat → Nat} {s x b : Nat} (h : fb_P g b s ∧ g b = x) : kp g s x (b + 1) = b + 1 := by rw [kp, if_pos h]
theorem kp_no {g : Nat → Nat} {s x b : Nat} (h : ¬ (fb_P g b s ∧ g b = x)) : kp g s x (b + 1) = kp g s x b := by rw [kp, if_neg h]
theorem nI_add1 (b : Nat) : nI (b + 1) = nI b + nI 1 := by
  apply Int32.toBitVec_inj.mp
  show BitVec.ofNat 32 (b + 1) = BitVec.ofNat 32 b + BitVec.ofNat 32 1
  rw [BitVec.ofNat_add]
theorem nI_subadd (a b c : Int32) : a - (b + c) + c = a - b := by
  apply Int32.toBitVec_inj.mp
  rw [Int32.toBitVec_add, Int32.toBitVec_sub, Int32.toBitVec_sub, Int32.toBitVec_add]
  rw [BitVec.sub_eq_add_neg, BitVec.neg_add, BitVec.sub_eq_add_neg, BitVec.sub_eq_add_neg, ← BitVec.add_assoc, BitVec.add_assoc, BitVec.add_left_neg, BitVec.add_zero]
set_option maxHeartbeats 4000000 in
set_option maxRecDepth 100000 in
theorem m_isRead {d nw b s c : Nat} {sc : Nat → Value} {g : Nat → Nat} {f77 : Nat → Int32} {hp : az_Hp} {Q : Option Value → az_Hp → Prop} (h64 : hp.2 64 = some (mo_o sc)) (h77 : hp.2 77 = some (az_I 6 f77)) (hn6 : nw ≤ 6) (hf : ∀ i, i < nw → f77 i = nI (g i)) (hg : ∀ i, i < nw → g i < 6) (hs : s < nw) (hb1 : b ≤ s) (hc : c < 6) (hQ1 : fb_P g b s ∧ g b = c → Q (some (.int (nI 1))) hp) (hQ0 : ¬ (fb_P g b s ∧ g b = c) → Q (some (.int (nI 0))) hp) : az_M mX12_isRead d 0 0 [.ref 64, .int (nI (b + 1)), .int (nI s), .int (nI c)] hp Q := by
  have hgb := hg b (by omega)
  have loop : ∀ (k : Nat) (i : Nat), b - i = k → (i ≤ b) → (g b = c) → (∀ j, j < i → g j = g (s - b + j)) → az_W mX12_isRead d 0 0 24 [(0, .ref 64), (1, .int (nI (b + 1))), (2, .int (nI s)), (3, .int (nI c)), (4, .int (nI i))] [] hp Q := by
    intro k
    induction k using Nat.strongRecOn with
    | _ k ih =>
    intro i hk hi hgb9 hF
    refine az_iload dX12_isRead_24 ?_
    refine az_iload_n dX12_isRead_26 ?_
    refine az_iconst (v := nI 1) dX12_isRead_27 ?_
    refine az_isubN dX12_isRead_28 (by omega) ?_
    rw [show b + 1 - 1 = b from rfl]
    refine az_icmp_geN (tgt := 63) dX12_isRead_29 (fun c29 => ?_) (fun c29 => ?_)
    · refine az_iconst (v := nI 1) dX12_isRead_63 ?_
      exact az_iret dX12_isRead_64 (hQ1 ⟨⟨hb1, fun j hj => hF j (by omega)⟩, hgb9⟩)
    · refine az_aload_n dX12_isRead_32 ?_
      refine az_getf (v := .ref 77) dX12_isRead_33 fl_X12_55 h64 ?_
      refine az_iload dX12_isRead_36 ?_
      refine az_ialdN (j := i) dX12_isRead_38 h77 ?_
      rw [hf i (by omega)]
      have hgi := hg i (by omega)
      have hgj := hg (s - b + i) (by omega)
      refine az_aload_n dX12_isRead_39 ?_
      refine az_getf (v := .ref 77) dX12_isRead_40 fl_X12_55 h64 ?_
      refine az_iload_n dX12_isRead_43 ?_
      refine az_iload_n dX12_isRead_44 ?_
      refine az_isub dX12_isRead_45 ?_
      rw [show nI s - nI (b + 1) = nI s - nI (b + 1) from rfl]
      refine az_iconst (v := nI 1) dX12_isRead_46 ?_
      refine az_iadd dX12_isRead_47 ?_
      rw [show nI s - nI (b + 1) + nI 1 = nI (s - b) from (by rw [show nI (b + 1) = nI b + nI 1 from nI_add1 b, nI_subadd, nI_subN hb1])]
      refine az_iload dX12_isRead_48 ?_
      refine az_iaddN dX12_isRead_50 ?_
      refine az_ialdN (j := (s - b) + i) dX12_isRead_51 h77 ?_
      rw [hf (s - b + i) (by omega)]
      refine az_icmp_eqN (tgt := 57) dX12_isRead_52 (fun c52 => ?_) (fun c52 => ?_)
      · refine az_iincN (n := 1) (ls' := [(0, .ref 64), (1, .int (nI (b + 1))), (2, .int (nI s)), (3, .int (nI c)), (4, .int (nI (i + 1)))]) dX12_isRead_57 ?_
        refine az_goto (tgt := 24) dX12_isRead_60 ?_
        exact ih _ (by omega) (i + 1) rfl (by omega) hgb9 (fun j hj => if e : j = i then (by rw [e]; exact c52) else hF j (by omega))
      · refine az_iconst (v := nI 0) dX12_isRead_55 ?_
        exact az_iret dX12_isRead_56 (hQ0 (fun q => c52 (q.1.2 i (by omega))))
  refine az_M.of rfl (Nat.le_of_ble_eq_true rfl) ?_
  show az_W _ _ _ _ 0 [(0, .ref 64), (1, .int (nI (b + 1))), (2, .int (nI s)), (3, .int (nI c))] [] _ _
  refine az_iload_n dX12_isRead_0 ?_
  refine az_iload_n dX12_isRead_1 ?_
  refine az_iconst (v := nI 1) dX12_isRead_2 ?_
  refine az_iaddN dX12_isRead_3 ?_
  refine az_icmp_gtN (tgt := 19) dX12_isRead_4 (fun c4 => ?_) (fun c4 => ?_)
  · exact absurd c4 (by omega)
  · refine az_aload_n dX12_isRead_7 ?_
    refine az_getf (v := .ref 77) dX12_isRead_8 fl_X12_55 h64 ?_
    refine az_iload_n dX12_isRead_11 ?_
    refine az_iconst (v := nI 1) dX12_isRead_12 ?_
    refine az_isubN dX12_isRead_13 (by omega) ?_
    refine az_ialdN (j := (b + 1) - 1) dX12_isRead_14 h77 ?_
    rw [show b + 1 - 1 = b from rfl, hf b (by omega)]
    refine az_iload_n dX12_isRead_15 ?_
    refine az_icmp_eqN (tgt := 21) dX12_isRead_16 (fun c16 => ?_) (fun c16 => ?_)
    · refine az_iconst (v := nI 0) dX12_isRead_21 ?_
      refine az_istore (ls' := [(0, .ref 64), (1, .int (nI (b + 1))), (2, .int (nI s)), (3, .int (nI c)), (4, .int (nI 0))]) dX12_isRead_22 ?_
      exact loop _ 0 rfl (Nat.zero_le _) c16 (fun j hj => absurd hj (by omega))
    · refine az_iconst (v := nI 0) dX12_isRead_19 ?_
      exact az_iret dX12_isRead_20 (by first | exact hQ0 (fun q => c16 q.2) | exact absurd c4 (by omega))
def fm_E (w : ln_W) (bs : List Nat) (g : Nat → Nat) (n : Nat) (rT hH : Nat → Nat) (k y s : Nat) : Prop := rT (6 * (6 * k + y) + s) = fa_s g n s (ln_run w (bs.drop k) [y]) ∧ hH (6 * (6 * k + y) + s) = min (fa_h g n s (ln_run w (bs.drop k) [y])) 9223372036854775807
theorem fm_last {w : ln_W} {bs : List Nat} {g : Nat → Nat} {n : Nat} {rT hH : Nat → Nat} {y s : Nat} (h1 : rT (6 * (6 * bs.length + y) + s) = fd_d g n s y) (h2 : hH (6 * (6 * bs.length + y) + s) = fd_h g n s y) : fm_E w bs g n rT hH bs.length y s := by
  refine ⟨?_, ?_⟩
  · rw [h1, List.drop_length]; rfl
  · have := fd_h_le g n s y
    rw [h2, List.drop_length, show fa_h g n s (ln_run w [] [y]) = fd_h g n s y + 0 from rfl, Nat.add_zero, Nat.min_eq_left (by omega)]
set_option maxHeartbeats 4000000 in
set_option maxRecDepth 100000 in
theorem m_hitsA {d : Nat} {sc : Nat → Value} {A : Nat → Nat} {v : rd_V} {mo ni : Nat} {bs : List Nat} {hp : az_Hp} {Q : Option Value → az_Hp → Prop} {nw : Nat} {g : Nat → Nat} {f77 : Nat → Int32} (hd : 1 ≤ d) (hn1 : 1 ≤ nw) (hn6 : nw ≤ 6) (hw : ln_ok (rd_w v)) (hb : ln_by (rd_w v) bs) (h64 : hp.2 64 = some (mo_o sc)) (h29 : sc 29 = .int (nI nw)) (h65 : hp.2 65 = some (az_I 3318 (fun j => nI (A j)))) (hT : mT A v (mo, ni, bs)) (h77 : hp.2 77 = some (az_I 6 f77)) (hf : ∀ i, i < nw → f77 i = nI (g i)) (hg : ∀ i, i < nw → g i < 6) (hk : mk hp) (hQ : ∀ (h' : az_Hp) (rT hH : Nat → Nat), h'.2 76 = some (az_I 2196 (fun j => nI (rT j))) → h'.2 78 = some (az_J 2196 (fun j => lN (hH j))) → (∀ y s, y < 6 → s < nw → fm_E (rd_w v) bs g nw rT hH bs.length y s) → mk h' → mf hp h' [76, 78] → az_W mX12_laysHits d 0 0 140 [(0, .ref 64), (1, .int (nI 6))] [] h' Q) : az_M mX12_laysHits d 0 0 [.ref 64] hp Q := by
  have h60 := hb.1
  have hA113 : A 113 = bs.length := hT.2.2.2.1
  obtain ⟨f76, e76⟩ := hk.I (q := 76) (n := 2196)
  obtain ⟨r76, rfl⟩ := nI_ex f76
  obtain ⟨f78, e78⟩ := hk.J (q := 78) (n := 2196)
  obtain ⟨r78, rfl⟩ := lN_ex f78
  have inner : ∀ (k : Nat) (c s iz m : Nat) (rT hH : Nat → Nat) (h' : az_Hp) (hc : c < 6) (hs : s < nw) (hiz : iz = fd_h g nw s c) (hK : az_W mX12_laysHits d 0 0 104 [(0, .ref 64), (1, .int (nI c)), (2, .int (nI s)), (3, .int (nI (6 * (6 * bs.length + c) + s))), (4, .int (nI iz)), (5, .int (nI (fd_d g nw s c)))] [] h' Q) (b76 : h'.2 76 = some (az_I 2196 (fun j => nI (rT j)))) (b78 : h'.2 78 = some (az_J 2196 (fun j => lN (hH j)))) (mk1' : mk h') (mf1 : mf hp h' [76, 78]), m = k → (m ≤ s + 1) → (kp g s c m = fd_d g nw s c) → az_W mX12_laysHits d 0 0 82 [(0, .ref 64), (1, .int (nI c)), (2, .int (nI s)), (3, .int (nI (6 * (6 * bs.length + c) + s))), (4, .int (nI iz)), (5, .int (nI m))] [] h' Q := by
    intro k
    induction k using Nat.strongRecOn with
    | _ k ih =>
    intro c s iz m rT hH h' hc hs hiz hK b76 b78 mk1' mf1 hk hms hm
    have b64 : h'.2 64 = some (mo_o sc) := mf1.at h64
    have b64' : h'.2 64 = some (az_O 11 [sc 0, .ref 65, .ref 66, .ref 67, .ref 68, sc 5, fI (sc 6), sc 7, sc 8, fI (sc 9), fI (sc 10), sc 11, fI (sc 12), sc 13, sc 14, .ref 69, .ref 70, .ref 71, sc 18, .ref 72, .ref 73, .ref 74, sc 22, sc 23, .ref 75, sc 25, .ref 76, .ref 77, .ref 78, .int (nI nw), .ref 79, .ref 80, .ref 81, .ref 82, .ref 83, .ref 84, .ref 85, sc 37, .ref 86, .ref 87, .ref 88, .ref 89, .ref 90, .ref 91, .ref 92]) := (by rw [← h29]; exact b64)
    have b65 : h'.2 65 = some (az_I 3318 (fun j => nI (A j))) := mf1.at h65
    have b77 : h'.2 77 = some (az_I 6 f77) := mf1.at h77
    refine az_iload dX12_laysHits_82 ?_
    refine az_if_leN (tgt := 104) dX12_laysHits_84 (fun c84 => ?_) (fun c84 => ?_)
    · first | (have e0 : m = 0 := (by omega); subst e0; rw [show fd_d g nw s c = 0 from hm.symm] at hK; exact hK) | (rw [← hm, kp_yes hyes] at hK; exact hK)
    · obtain ⟨b9, rfl⟩ : ∃ b9, m = b9 + 1 := ⟨m - 1, by omega⟩
      have hbs : b9 ≤ s := (by omega)
      refine az_aload_n dX12_laysHits_87 ?_
      refine az_iload dX12_laysHits_88 ?_
      refine az_iload_n dX12_laysHits_90 ?_
      refine az_iload_n dX12_laysHits_91 ?_
      refine az_cV0 (st := []) dX12_laysHits_92 ml_X12_379 b64' (m_isRead (d := d - 1) (nw := nw) (b := b9) (s := s) (c := c) b64 b77 hn6 hf hg hs hbs hc ?_ ?_)
      · intro hyes
        refine az_if_neN (tgt := 104) dX12_laysHits_95 (fun c95 => ?_) (fun c95 => ?_)
        · first | (have e0 : m = 0 := (by omega); subst e0; rw [show fd_d g nw s c = 0 from hm.symm] at hK; exact hK) | (rw [← hm, kp_yes hyes] at hK; exact hK)
        · exact absurd c95 (by omega)
      · intro hno
        refine az_if_neN (tgt := 104) dX12_laysHits_95 (fun c95 => ?_) (fun c95 => ?_)
        · exact absurd c95 (by omega)
        · refine az_iinc (v := nI b9) (ls' := [(0, .ref 64), (1, .int (nI c)), (2, .int (nI s)), (3, .int (nI (6 * (6 * bs.length + c) + s))), (4, .int (nI iz)), (5, .int (nI b9))]) dX12_laysHits_98 ?_ (hx := (by rw [nI_dec, nI_subN (by omega)]; rfl))
          refine az_goto (tgt := 82) dX12_laysHits_101 ?_
          exact ih _ (by omega) c s iz b9 rT hH h' hc hs hiz hK b76 b78 mk1' mf1 rfl (by omega) (by rw [← hm, kp_no hno])
  have outer : ∀ (k : Nat) (c s : Nat) (rT hH : Nat → Nat) (h' : az_Hp), (6 - c) * 7 + (6 - s) = k → (c < 6) → (s ≤ nw) → (h'.2 76 = some (az_I 2196 (fun j => nI (rT j)))) → (h'.2 78 = some (az_J 2196 (fun j => lN (hH j)))) → (∀ y t, y < 6 → t < nw → (y < c ∨ (y = c ∧ t < s)) → fm_E (rd_w v) bs g nw rT hH bs.length y t) → (mk h') → (mf hp h' [76, 78]) → az_W mX12_laysHits d 0 0 10 [(0, .ref 64), (1, .int (nI c)), (2, .int (nI s))] [] h' Q := by
    intro k
    induction k using Nat.strongRecOn with
    | _ k ih =>
    intro c s rT hH h' hk hc hs9 b76 b78 hD mk1' mf1
    have b64 : h'.2 64 = some (mo_o sc) := mf1.at h64
    have b64' : h'.2 64 = some (az_O 11 [sc 0, .ref 65, .ref 66, .ref 67, .ref 68, sc 5, fI (sc 6), sc 7, sc 8, fI (sc 9), fI (sc 10), sc 11, fI (sc 12), sc 13, sc 14, .ref 69, .ref 70, .ref 71, sc 18, .ref 72, .ref 73, .ref 74, sc 22, sc 23, .ref 75, sc 25, .ref 76, .ref 77, .ref 78, .int (nI nw), .ref 79, .ref 80, .ref 81, .ref 82, .ref 83, .ref 84, .ref 85, sc 37, .ref 86, .ref 87, .ref 88, .ref 89, .ref 90, .ref 91, .ref 92]) := (by rw [← h29]; exact b64)
    have b65 : h'.2 65 = some (az_I 3318 (fun j => nI (A j))) := mf1.at h65
    have b77 : h'.2 77 = some (az_I 6 f77) := mf1.at h77
    refine az_iload_n dX12_laysHits_10 ?_
    refine az_aload_n dX12_laysHits_11 ?_
    refine az_getf (v := .int (nI nw)) dX12_laysHits_12 fl_X12_376 b64' ?_
    refine az_icmp_geN (tgt := 134) dX12_laysHits_15 (fun c15 => ?_) (fun c15 => ?_)
    · refine az_iincN (n := 1) (ls' := [(0, .ref 64), (1, .int (nI (c + 1))), (2, .int (nI s))]) dX12_laysHits_134 ?_
      refine az_goto (tgt := 2) dX12_laysHits_137 ?_
      refine az_iload_n dX12_laysHits_2 ?_
      refine az_bipush (v := nI 6) dX12_laysHits_3 ?_
      refine az_icmp_geN (tgt := 140) dX12_laysHits_5 (fun c5 => ?_) (fun c5 => ?_)
      · have e5 : c = 5 := (by omega)
        subst e5
        refine az_W.keep (ls' := [(0, .ref 64), (1, .int (nI 6))]) [0, 1] rfl ?_
        exact hQ _ _ _ b76 b78 (fun y t hy ht => hD y t hy ht (by omega)) (by repeat (first | exact mk1' | refine mk.uA ?_ | refine mk.uJ ?_ rfl | refine mk.uI ?_ rfl | refine mk.uO ?_)) (by repeat (first | exact mf1 | refine mf.up ?_ (by decide)))
      · refine az_iconst (v := nI 0) dX12_laysHits_8 ?_
        refine az_istore_n (ls' := [(0, .ref 64), (1, .int (nI (c + 1))), (2, .int (nI 0))]) dX12_laysHits_9 ?_
        first | exact ih _ (by omega) c (s + 1) (az_s rT (6 * (6 * bs.length + c) + s) (fd_d g nw s c)) (az_s hH (6 * (6 * bs.length + c) + s) (fd_h g nw s c)) _ rfl (by omega) (by omega) (az_up_ne az_up_eq) az_up_eq (fun y t hy ht h => (by by_cases e : y = c ∧ t = s; (obtain ⟨rfl, rfl⟩ := e; exact fm_last az_s_eq az_s_eq); (obtain ⟨q1, q2⟩ := hD y t hy ht (by omega); exact ⟨(az_s_ne (fun q => e (by omega))).trans q1, (az_s_ne (fun q => e (by omega))).trans q2⟩))) (mk.uJ (mk.uI mk1' rfl) rfl) ((mf1.up (by decide)).up (by decide)) | exact ih _ (by omega) (c + 1) 0 rT hH h' rfl (by omega) (Nat.zero_le _) b76 b78 (fun y t hy ht h => hD y t hy ht (by omega)) mk1' mf1
    · have hs : s < nw := (by omega)
      refine az_bipush (v := nI 6) dX12_laysHits_18 ?_
      refine az_bipush (v := nI 6) dX12_laysHits_20 ?_
      refine az_aload_n dX12_laysHits_22 ?_
      refine az_getf (v := .ref 65) dX12_laysHits_23 fl_X12_13 b64' ?_
      refine az_bipush (v := nI 113) dX12_laysHits_26 ?_
      refine az_ialdN (j := 113) dX12_laysHits_28 b65 ?_
      rw [hA113]
      refine az_imulN dX12_laysHits_29 ?_
      refine az_iload_n dX12_laysHits_30 ?_
      refine az_iaddN dX12_laysHits_31 ?_
      refine az_imulN dX12_laysHits_32 ?_
      refine az_iload_n dX12_laysHits_33 ?_
      refine az_iaddN dX12_laysHits_34 ?_
      refine az_istore_n (ls' := [(0, .ref 64), (1, .int (nI c)), (2, .int (nI s)), (3, .int (nI ((6 * ((6 * bs.length) + c)) + s)))]) dX12_laysHits_35 ?_
      refine az_iload_n dX12_laysHits_36 ?_
      refine az_aload_n dX12_laysHits_37 ?_
      refine az_getf (v := .int (nI nw)) dX12_laysHits_38 fl_X12_376 b64' ?_
      refine az_iconst (v := nI 1) dX12_laysHits_41 ?_
      refine az_isubN dX12_laysHits_42 (by omega) ?_
      refine az_icmp_neN (tgt := 60) dX12_laysHits_43 (fun c43 => ?_) (fun c43 => ?_)
      · refine az_iconst (v := nI 0) dX12_laysHits_60 ?_
        refine az_istore (ls' := [(0, .ref 64), (1, .int (nI c)), (2, .int (nI s)), (3, .int (nI ((6 * ((6 * bs.length) + c)) + s))), (4, .int (nI 0))]) dX12_laysHits_61 ?_
        refine az_iload dX12_laysHits_63 ?_
        refine az_if_eqN (tgt := 77) dX12_laysHits_65 (fun c65 => ?_) (fun c65 => ?_)
        · refine az_iload_n dX12_laysHits_77 ?_
          refine az_iconst (v := nI 1) dX12_laysHits_78 ?_
          refine az_iaddN dX12_laysHits_79 ?_
          refine az_istore (ls' := [(0, .ref 64), (1, .int (nI c)), (2, .int (nI s)), (3, .int (nI ((6 * ((6 * bs.length) + c)) + s))), (4, .int (nI 0)), (5, .int (nI (s + 1)))]) dX12_laysHits_80 ?_
          first | (have hz1 : fd_h g nw s c = 1 := (by rw [fd_h, if_pos ⟨by omega, by omega⟩]); rw [show nI 1 = nI (fd_h g nw s c) from (by rw [hz1])]; refine inner _ c s (fd_h g nw s c) (nw - 1) rT hH h' (by omega) hs rfl ?_ b76 b78 mk1' mf1 rfl (by omega) (by rw [fd_d, if_pos ⟨by omega, by omega⟩, show nw - 1 = s by omega])) | (have hz1 : fd_h g nw s c = 0 := (by rw [fd_h, if_neg (fun q => by omega)]); rw [show nI 0 = nI (fd_h g nw s c) from (by rw [hz1])]; refine inner _ c s (fd_h g nw s c) (s + 1) rT hH h' (by omega) hs rfl ?_ b76 b78 mk1' mf1 rfl (by omega) (by rw [fd_d, if_neg (fun q => by omega)]))
          refine az_aload_n dX12_laysHits_104 ?_
          refine az_getf (v := .ref 76) dX12_laysHits_105 fl_X12_52 b64' ?_
          refine az_iload_n dX12_laysHits_108 ?_
          refine az_iload dX12_laysHits_109 ?_
          refine az_iastN (j := (6 * ((6 * bs.length) + c)) + s) dX12_laysHits_111 b76 ?_
          rw [az_s_nI]
          refine az_aload_n dX12_laysHits_112 ?_
          refine az_getf (v := .ref 78) dX12_laysHits_113 fl_X12_58 (az_up_ne b64') ?_
          refine az_iload_n dX12_laysHits_116 ?_
          refine az_iload dX12_laysHits_117 ?_
          refine az_if_eqN (tgt := 126) dX12_laysHits_119 (fun c119 => ?_) (fun c119 => ?_)
          · have hz9 : fd_h g nw s c = 0 := (by omega)
            refine az_lconst (v := lN 0) dX12_laysHits_126 ?_
            first | rw [show lN 1 = lN (fd_h g nw s c) from (by rw [hz9])] | rw [show lN 0 = lN (fd_h g nw s c) from (by rw [hz9])]
            refine az_lastN (j := (6 * ((6 * bs.length) + c)) + s) dX12_laysHits_127 (az_up_ne b78) ?_
            rw [az_s_lN]
            refine az_iincN (n := 1) (ls' := [(0, .ref 64), (1, .int (nI c)), (2, .int (nI (s + 1))), (3, .int (nI ((6 * ((6 * bs.length) + c)) + s))), (4, .int (nI (fd_h g nw s c))), (5, .int (nI (fd_d g nw s c)))]) dX12_laysHits_128 ?_
            refine az_goto (tgt := 10) dX12_laysHits_131 ?_
            refine az_W.keep (ls' := [(0, .ref 64), (1, .int (nI c)), (2, .int (nI (s + 1)))]) [0, 1, 2] rfl ?_
            first | exact ih _ (by omega) c (s + 1) (az_s rT (6 * (6 * bs.length + c) + s) (fd_d g nw s c)) (az_s hH (6 * (6 * bs.length + c) + s) (fd_h g nw s c)) _ rfl (by omega) (by omega) (az_up_ne az_up_eq) az_up_eq (fun y t hy ht h => (by by_cases e : y = c ∧ t = s; (obtain ⟨rfl, rfl⟩ := e; exact fm_last az_s_eq az_s_eq); (obtain ⟨q1, q2⟩ := hD y t hy ht (by omega); exact ⟨(az_s_ne (fun q => e (by omega))).trans q1, (az_s_ne (fun q => e (by omega))).trans q2⟩))) (mk.uJ (mk.uI mk1' rfl) rfl) ((mf1.up (by decide)).up (by decide)) | exact ih _ (by omega) (c + 1) 0 rT hH h' rfl (by omega) (Nat.zero_le _) b76 b78 (fun y t hy ht h => hD y t hy ht (by omega)) mk1' mf1
          · have hz9 : fd_h g nw s c = 1 := (by have := fd_h_le g nw s c; omega)
            refine az_lconst (v := lN 1) dX12_laysHits_122 ?_
            refine az_goto (tgt := 127) dX12_laysHits_123 ?_
            first | rw [show lN 1 = lN (fd_h g nw s c) from (by rw [hz9])] | rw [show lN 0 = lN (fd_h g nw s c) from (by rw [hz9])]
            refine az_lastN (j := (6 * ((6 * bs.length) + c)) + s) dX12_laysHits_127 (az_up_ne b78) ?_
            rw [az_s_lN]
            refine az_iincN (n := 1) (ls' := [(0, .ref 64), (1, .int (nI c)), (2, .int (nI (s + 1))), (3, .int (nI ((6 * ((6 * bs.length) + c)) + s))), (4, .int (nI (fd_h g nw s c))), (5, .int (nI (fd_d g nw s c)))]) dX12_laysHits_128 ?_
            refine az_goto (tgt := 10) dX12_laysHits_131 ?_
            refine az_W.keep (ls' := [(0, .ref 64), (1, .int (nI c)), (2, .int (nI (s + 1)))]) [0, 1, 2] rfl ?_
            first | exact ih _ (by omega) c (s + 1) (az_s rT (6 * (6 * bs.length + c) + s) (fd_d g nw s c)) (az_s hH (6 * (6 * bs.length + c) + s) (fd_h g nw s c)) _ rfl (by omega) (by omega) (az_up_ne az_up_eq) az_up_eq (fun y t hy ht h => (by by_cases e : y = c ∧ t = s; (obtain ⟨rfl, rfl⟩ := e; exact fm_last az_s_eq az_s_eq); (obtain ⟨q1, q2⟩ := hD y t hy ht (by omega); exact ⟨(az_s_ne (fun q => e (by omega))).trans q1, (az_s_ne (fun q => e (by omega))).trans q2⟩))) (mk.uJ (mk.uI mk1' rfl) rfl) ((mf1.up (by decide)).up (by decide)) | exact ih _ (by omega) (c + 1) 0 rT hH h' rfl (by omega) (Nat.zero_le _) b76 b78 (fun y t hy ht h => hD y t hy ht (by omega)) mk1' mf1
        · exact absurd c65 (by omega)
      · refine az_aload_n dX12_laysHits_46 ?_
        refine az_getf (v := .ref 77) dX12_laysHits_47 fl_X12_55 b64' ?_
        refine az_iload_n dX12_laysHits_50 ?_
        refine az_ialdN (j := s) dX12_laysHits_51 b77 ?_
        rw [hf s (by omega)]
        have hgs := hg s (by omega)
        refine az_iload_n dX12_laysHits_52 ?_
        refine az_icmp_neN (tgt := 60) dX12_laysHits_53 (fun c53 => ?_) (fun c53 => ?_)
        · refine az_iconst (v := nI 0) dX12_laysHits_60 ?_
          refine az_istore (ls' := [(0, .ref 64), (1, .int (nI c)), (2, .int (nI s)), (3, .int (nI ((6 * ((6 * bs.length) + c)) + s))), (4, .int (nI 0))]) dX12_laysHits_61 ?_
          refine az_iload dX12_laysHits_63 ?_
          refine az_if_eqN (tgt := 77) dX12_laysHits_65 (fun c65 => ?_) (fun c65 => ?_)
          · refine az_iload_n dX12_laysHits_77 ?_
            refine az_iconst (v := nI 1) dX12_laysHits_78 ?_
            refine az_iaddN dX12_laysHits_79 ?_
            refine az_istore (ls' := [(0, .ref 64), (1, .int (nI c)), (2, .int (nI s)), (3, .int (nI ((6 * ((6 * bs.length) + c)) + s))), (4, .int (nI 0)), (5, .int (nI (s + 1)))]) dX12_laysHits_80 ?_
            first | (have hz1 : fd_h g nw s c = 1 := (by rw [fd_h, if_pos ⟨by omega, by omega⟩]); rw [show nI 1 = nI (fd_h g nw s c) from (by rw [hz1])]; refine inner _ c s (fd_h g nw s c) (nw - 1) rT hH h' (by omega) hs rfl ?_ b76 b78 mk1' mf1 rfl (by omega) (by rw [fd_d, if_pos ⟨by omega, by omega⟩, show nw - 1 = s by omega])) | (have hz1 : fd_h g nw s c = 0 := (by rw [fd_h, if_neg (fun q => by omega)]); rw [show nI 0 = nI (fd_h g nw s c) from (by rw [hz1])]; refine inner _ c s (fd_h g nw s c) (s + 1) rT hH h' (by omega) hs rfl ?_ b76 b78 mk1' mf1 rfl (by omega) (by rw [fd_d, if_neg (fun q => by omega)]))
            refine az_aload_n dX12_laysHits_104 ?_
            refine az_getf (v := .ref 76) dX12_laysHits_105 fl_X12_52 b64' ?_
            refine az_iload_n dX12_laysHits_108 ?_
            refine az_iload dX12_laysHits_109 ?_
            refine az_iastN (j := (6 * ((6 * bs.length) + c)) + s) dX12_laysHits_111 b76 ?_
            rw [az_s_nI]
            refine az_aload_n dX12_laysHits_112 ?_
            refine az_getf (v := .ref 78) dX12_laysHits_113 fl_X12_58 (az_up_ne b64') ?_
            refine az_iload_n dX12_laysHits_116 ?_
            refine az_iload dX12_laysHits_117 ?_
            refine az_if_eqN (tgt := 126) dX12_laysHits_119 (fun c119 => ?_) (fun c119 => ?_)
            · have hz9 : fd_h g nw s c = 0 := (by omega)
              refine az_lconst (v := lN 0) dX12_laysHits_126 ?_
              first | rw [show lN 1 = lN (fd_h g nw s c) from (by rw [hz9])] | rw [show lN 0 = lN (fd_h g nw s c) from (by rw [hz9])]
              refine az_lastN (j := (6 * ((6 * bs.length) + c)) + s) dX12_laysHits_127 (az_up_ne b78) ?_
              rw [az_s_lN]
              refine az_iincN (n := 1) (ls' := [(0, .ref 64), (1, .int (nI c)), (2, .int (nI (s + 1))), (3, .int (nI ((6 * ((6 * bs.length) + c)) + s))), (4, .int (nI (fd_h g nw s c))), (5, .int (nI (fd_d g nw s c)))]) dX12_laysHits_128 ?_
              refine az_goto (tgt := 10) dX12_laysHits_131 ?_
              refine az_W.keep (ls' := [(0, .ref 64), (1, .int (nI c)), (2, .int (nI (s + 1)))]) [0, 1, 2] rfl ?_
              first | exact ih _ (by omega) c (s + 1) (az_s rT (6 * (6 * bs.length + c) + s) (fd_d g nw s c)) (az_s hH (6 * (6 * bs.length + c) + s) (fd_h g nw s c)) _ rfl (by omega) (by omega) (az_up_ne az_up_eq) az_up_eq (fun y t hy ht h => (by by_cases e : y = c ∧ t = s; (obtain ⟨rfl, rfl⟩ := e; exact fm_last az_s_eq az_s_eq); (obtain ⟨q1, q2⟩ := hD y t hy ht (by omega); exact ⟨(az_s_ne (fun q => e (by omega))).trans q1, (az_s_ne (fun q => e (by omega))).trans q2⟩))) (mk.uJ (mk.uI mk1' rfl) rfl) ((mf1.up (by decide)).up (by decide)) | exact ih _ (by omega) (c + 1) 0 rT hH h' rfl (by omega) (Nat.zero_le _) b76 b78 (fun y t hy ht h => hD y t hy ht (by omega)) mk1' mf1
            · have hz9 : fd_h g nw s c = 1 := (by have := fd_h_le g nw s c; omega)
              refine az_lconst (v := lN 1) dX12_laysHits_122 ?_
              refine az_goto (tgt := 127) dX12_laysHits_123 ?_
              first | rw [show lN 1 = lN (fd_h g nw s c) from (by rw [hz9])] | rw [show lN 0 = lN (fd_h g nw s c) from (by rw [hz9])]
              refine az_lastN (j := (6 * ((6 * bs.length) + c)) + s) dX12_laysHits_127 (az_up_ne b78) ?_
              rw [az_s_lN]
              refine az_iincN (n := 1) (ls' := [(0, .ref 64), (1, .int (nI c)), (2, .int (nI (s + 1))), (3, .int (nI ((6 * ((6 * bs.length) + c)) + s))), (4, .int (nI (fd_h g nw s c))), (5, .int (nI (fd_d g nw s c)))]) dX12_laysHits_128 ?_
              refine az_goto (tgt := 10) dX12_laysHits_131 ?_
              refine az_W.keep (ls' := [(0, .ref 64), (1, .int (nI c)), (2, .int (nI (s + 1)))]) [0, 1, 2] rfl ?_
              first | exact ih _ (by omega) c (s + 1) (az_s rT (6 * (6 * bs.length + c) + s) (fd_d g nw s c)) (az_s hH (6 * (6 * bs.length + c) + s) (fd_h g nw s c)) _ rfl (by omega) (by omega) (az_up_ne az_up_eq) az_up_eq (fun y t hy ht h => (by by_cases e : y = c ∧ t = s; (obtain ⟨rfl, rfl⟩ := e; exact fm_last az_s_eq az_s_eq); (obtain ⟨q1, q2⟩ := hD y t hy ht (by omega); exact ⟨(az_s_ne (fun q => e (by omega))).trans q1, (az_s_ne (fun q => e (by omega))).trans q2⟩))) (mk.uJ (mk.uI mk1' rfl) rfl) ((mf1.up (by decide)).up (by decide)) | exact ih _ (by omega) (c + 1) 0 rT hH h' rfl (by omega) (Nat.zero_le _) b76 b78 (fun y t hy ht h => hD y t hy ht (by omega)) mk1' mf1
          · exact absurd c65 (by omega)
        · refine az_iconst (v := nI 1) dX12_laysHits_56 ?_
          refine az_goto (tgt := 61) dX12_laysHits_57 ?_
          refine az_istore (ls' := [(0, .ref 64), (1, .int (nI c)), (2, .int (nI s)), (3, .int (nI ((6 * ((6 * bs.length) + c)) + s))), (4, .int (nI 1))]) dX12_laysHits_61 ?_
          refine az_iload dX12_laysHits_63 ?_
          refine az_if_eqN (tgt := 77) dX12_laysHits_65 (fun c65 => ?_) (fun c65 => ?_)
          · exact absurd c65 (by omega)
          · refine az_aload_n dX12_laysHits_68 ?_
            refine az_getf (v := .int (nI nw)) dX12_laysHits_69 fl_X12_376 b64' ?_
            refine az_iconst (v := nI 1) dX12_laysHits_72 ?_
            refine az_isubN dX12_laysHits_73 (by omega) ?_
            refine az_goto (tgt := 80) dX12_laysHits_74 ?_
            refine az_istore (ls' := [(0, .ref 64), (1, .int (nI c)), (2, .int (nI s)), (3, .int (nI ((6 * ((6 * bs.length) + c)) + s))), (4, .int (nI 1)), (5, .int (nI (nw - 1)))]) dX12_laysHits_80 ?_
            first | (have hz1 : fd_h g nw s c = 1 := (by rw [fd_h, if_pos ⟨by omega, by omega⟩]); rw [show nI 1 = nI (fd_h g nw s c) from (by rw [hz1])]; refine inner _ c s (fd_h g nw s c) (nw - 1) rT hH h' (by omega) hs rfl ?_ b76 b78 mk1' mf1 rfl (by omega) (by rw [fd_d, if_pos ⟨by omega, by omega⟩, show nw - 1 = s by omega])) | (have hz1 : fd_h g nw s c = 0 := (by rw [fd_h, if_neg (fun q => by omega)]); rw [show nI 0 = nI (fd_h g nw s c) from (by rw [hz1])]; refine inner _ c s (fd_h g nw s c) (s + 1) rT hH h' (by omega) hs rfl ?_ b76 b78 mk1' mf1 rfl (by omega) (by rw [fd_d, if_neg (fun q => by omega)]))
            refine az_aload_n dX12_laysHits_104 ?_
            refine az_getf (v := .ref 76) dX12_laysHits_105 fl_X12_52 b64' ?_
            refine az_iload_n dX12_laysHits_108 ?_
            refine az_iload dX12_laysHits_109 ?_
            refine az_iastN (j := (6 * ((6 * bs.length) + c)) + s) dX12_laysHits_111 b76 ?_
            rw [az_s_nI]
            refine az_aload_n dX12_laysHits_112 ?_
            refine az_getf (v := .ref 78) dX12_laysHits_113 fl_X12_58 (az_up_ne b64') ?_
            refine az_iload_n dX12_laysHits_116 ?_
            refine az_iload dX12_laysHits_117 ?_
            refine az_if_eqN (tgt := 126) dX12_laysHits_119 (fun c119 => ?_) (fun c119 => ?_)
            · have hz9 : fd_h g nw s c = 0 := (by omega)
              refine az_lconst (v := lN 0) dX12_laysHits_126 ?_
              first | rw [show lN 1 = lN (fd_h g nw s c) from (by rw [hz9])] | rw [show lN 0 = lN (fd_h g nw s c) from (by rw [hz9])]
              refine az_lastN (j := (6 * ((6 * bs.length) + c)) + s) dX12_laysHits_127 (az_up_ne b78) ?_
              rw [az_s_lN]
              refine az_iincN (n := 1) (ls' := [(0, .ref 64), (1, .int (nI c)), (2, .int (nI (s + 1))), (3, .int (nI ((6 * ((6 * bs.length) + c)) + s))), (4, .int (nI (fd_h g nw s c))), (5, .int (nI (fd_d g nw s c)))]) dX12_laysHits_128 ?_
              refine az_goto (tgt := 10) dX12_laysHits_131 ?_
              refine az_W.keep (ls' := [(0, .ref 64), (1, .int (nI c)), (2, .int (nI (s + 1)))]) [0, 1, 2] rfl ?_
              first | exact ih _ (by omega) c (s + 1) (az_s rT (6 * (6 * bs.length + c) + s) (fd_d g nw s c)) (az_s hH (6 * (6 * bs.length + c) + s) (fd_h g nw s c)) _ rfl (by omega) (by omega) (az_up_ne az_up_eq) az_up_eq (fun y t hy ht h => (by by_cases e : y = c ∧ t = s; (obtain ⟨rfl, rfl⟩ := e; exact fm_last az_s_eq az_s_eq); (obtain ⟨q1, q2⟩ := hD y t hy ht (by omega); exact ⟨(az_s_ne (fun q => e (by omega))).trans q1, (az_s_ne (fun q => e (by omega))).trans q2⟩))) (mk.uJ (mk.uI mk1' rfl) rfl) ((mf1.up (by decide)).up (by decide)) | exact ih _ (by omega) (c + 1) 0 rT hH h' rfl (by omega) (Nat.zero_le _) b76 b78 (fun y t hy ht h => hD y t hy ht (by omega)) mk1' mf1
            · have hz9 : fd_h g nw s c = 1 := (by have := fd_h_le g nw s c; omega)
              refine az_lconst (v := lN 1) dX12_laysHits_122 ?_
              refine az_goto (tgt := 127) dX12_laysHits_123 ?_
              first | rw [show lN 1 = lN (fd_h g nw s c) from (by rw [hz9])] | rw [show lN 0 = lN (fd_h g nw s c) from (by rw [hz9])]
              refine az_lastN (j := (6 * ((6 * bs.length) + c)) + s) dX12_laysHits_127 (az_up_ne b78) ?_
              rw [az_s_lN]
              refine az_iincN (n := 1) (ls' := [(0, .ref 64), (1, .int (nI c)), (2, .int (nI (s + 1))), (3, .int (nI ((6 * ((6 * bs.length) + c)) + s))), (4, .int (nI (fd_h g nw s c))), (5, .int (nI (fd_d g nw s c)))]) dX12_laysHits_128 ?_
              refine az_goto (tgt := 10) dX12_laysHits_131 ?_
              refine az_W.keep (ls' := [(0, .ref 64), (1, .int (nI c)), (2, .int (nI (s + 1)))]) [0, 1, 2] rfl ?_
              first | exact ih _ (by omega) c (s + 1) (az_s rT (6 * (6 * bs.length + c) + s) (fd_d g nw s c)) (az_s hH (6 * (6 * bs.length + c) + s) (fd_h g nw s c)) _ rfl (by omega) (by omega) (az_up_ne az_up_eq) az_up_eq (fun y t hy ht h => (by by_cases e : y = c ∧ t = s; (obtain ⟨rfl, rfl⟩ := e; exact fm_last az_s_eq az_s_eq); (obtain ⟨q1, q2⟩ := hD y t hy ht (by omega); exact ⟨(az_s_ne (fun q => e (by omega))).trans q1, (az_s_ne (fun q => e (by omega))).trans q2⟩))) (mk.uJ (mk.uI mk1' rfl) rfl) ((mf1.up (by decide)).up (by decide)) | exact ih _ (by omega) (c + 1) 0 rT hH h' rfl (by omega) (Nat.zero_le _) b76 b78 (fun y t hy ht h => hD y t hy ht (by omega)) mk1' mf1
  refine az_M.of rfl (Nat.le_of_ble_eq_true rfl) ?_
  show az_W _ _ _ _ 0 [(0, .ref 64)] [] _ _
  refine az_iconst (v := nI 0) dX12_laysHits_0 ?_
  refine az_istore_n (ls' := [(0, .ref 64), (1, .int (nI 0))]) dX12_laysHits_1 ?_
  refine az_iload_n dX12_laysHits_2 ?_
  refine az_bipush (v := nI 6) dX12_laysHits_3 ?_
  refine az_icmp_geN (tgt := 140) dX12_laysHits_5 (fun c5 => ?_) (fun c5 => ?_)
  · exact absurd c5 (by omega)
  · refine az_iconst (v := nI 0) dX12_laysHits_8 ?_
    refine az_istore_n (ls' := [(0, .ref 64), (1, .int (nI 0)), (2, .int (nI 0))]) dX12_laysHits_9 ?_
    exact outer _ 0 0 r76 r78 hp rfl (by decide) (Nat.zero_le _) e76 e78 (fun y t _ _ h => by omega) hk mf.rf

