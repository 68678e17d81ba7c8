/-! The model: deeds that are told -/
theorem dz_moon {w : ln_W} {pk sl : List Nat} {z : ln_Z} {n : Nat} (hw : ln_ok w) (h1 : 10 ≤ n) (h2 : n ≤ 19) : dz w pk sl z (lN n) = (0, (n - 10, z.2.1, z.2.2)) := by
  have h3 := hw.2.1
  unfold dz
  rw [if_neg (fun c => by have := congrArg Int64.toInt c; rw [lN_toI (by omega), lN_toI (by omega)] at this; omega), if_neg (fun c => by have := (lN_leN (by omega) (by omega)).mp c.2; omega), if_pos ⟨(lN_leN (by omega) (by omega)).mpr h1, (lN_leN (by omega) (by omega)).mpr h2⟩, show (lN n).toInt.toNat = n by rw [lN_toI (by omega)]; rfl]
theorem dz_out {w : ln_W} {pk sl : List Nat} {z : ln_Z} {x : Int64} (hw : ln_ok w) (h1 : ∀ n, n ≤ ln_tb w → x ≠ lN n) (h2 : ∀ n, 10 ≤ n → n ≤ 19 → x ≠ lN n) : dz w pk sl z x = (1, z) := by
  have h3 := hw.2.1
  unfold dz
  rw [if_neg (h1 0 (Nat.zero_le _)), if_neg (fun c => ?_), if_neg (fun c => ?_)]
  · obtain ⟨n, hn, rfl⟩ := J_of (x := x) (fun q => by have := Int64.lt_iff_toInt_lt.mp q; have c2 := Int64.le_iff_toInt_le.mp c.1; rw [lN_toI (by omega)] at this c2; omega)
    exact h2 n ((lN_leN (by omega) (by omega)).mp c.1) ((lN_leN (by omega) (by omega)).mp c.2) rfl
  · obtain ⟨n, hn, rfl⟩ := J_of (x := x) (fun q => by have := Int64.lt_iff_toInt_lt.mp q; have c2 := Int64.lt_iff_toInt_lt.mp c.1; rw [lN_toI (by omega)] at this c2; omega)
    exact h1 n ((lN_leN (by omega) (by omega)).mp c.2) rfl
theorem dz_0 {w : ln_W} {pk sl : List Nat} {z : ln_Z} {x : Int64} (hw : ln_ok w) (h : (dz w pk sl z x).1 = 0) : ∃ n, x = lN n ∧ (n ≤ ln_tb w ∨ (10 ≤ n ∧ n ≤ 19)) := by
  by_cases h1 : ∀ n, n ≤ ln_tb w → x ≠ lN n
  · by_cases h2 : ∀ n, 10 ≤ n → n ≤ 19 → x ≠ lN n
    · rw [dz_out hw h1 h2] at h
      cases h
    · apply Classical.byContradiction
      intro c
      exact h2 (fun n a b e => c ⟨n, e, Or.inr ⟨a, b⟩⟩)
  · apply Classical.byContradiction
    intro c
    exact h1 (fun n a e => c ⟨n, e, Or.inl a⟩)
theorem dz_co (w : ln_W) (pk sl : List Nat) (z : ln_Z) (x : Int64) : (dz w pk sl z x).1 ≤ 3 := by
  have key : ∀ tb, (dt w z tb).1 ≤ 3 := by
    intro tb
    unfold dt
    split
    · dsimp only; omega
    · split <;> (dsimp only; omega)
  unfold dz
  split
  · split
    · exact Nat.zero_le _
    · exact key _
  · split
    · exact key _
    · split
      · exact Nat.zero_le _
      · exact (by decide : 1 ≤ 3)
set_option maxHeartbeats 4000000 in
set_option maxRecDepth 100000 in
theorem m_whyNot {d : Nat} {sc : Nat → Value} {A : Nat → Nat} {v : rd_V} {mo ni : Nat} {bs : List Nat} {hp : az_Hp} {Q : Option Value → az_Hp → Prop} {x : Int64} (hd : 7 ≤ d) (hgd : rd_good v) (hb : ln_by (rd_w v) bs) (h64 : hp.2 64 = some (mo_o sc)) (h65 : hp.2 65 = some (az_I 3318 (fun j => nI (A j)))) (hT : mT A v (mo, ni, bs)) (hk : mk hp) (hQ : ∀ h' sc', h'.2 64 = some (mo_o sc') → (∀ n, x = lN n → n ≤ ln_tb (rd_w v) → sc' 22 = .int (ln_opt (mpk v (mo, ni, bs) n))) → (∀ j, j ≠ 18 → j ≠ 22 → sc' j = sc j) → mk h' → mf hp h' [64, 70, 72, 73] → Q (some (.int (nI (dz (rd_w v) v.2.2.2.2.2.2.2.1 v.2.2.2.2.2.2.2.2 (mo, ni, bs) x).1))) h') : az_M mX12_whyNot d 0 0 [.ref 64, .long x] hp Q := by
  have hw : ln_ok (rd_w v) := hgd.1
  have ht3 := hw.2.1
  refine az_M.of rfl (Nat.le_of_ble_eq_true rfl) ?_
  show az_W _ _ _ _ 0 [(0, .ref 64), (1, .long x)] [] _ _
  refine az_lload_n dX12_whyNot_0 ?_
  refine az_lconst (v := lN 0) dX12_whyNot_1 ?_
  refine az_ldc2 (v := lN 3) dX12_whyNot_2 cn_X12_334 ?_
  refine az_cS0 (st := []) dX12_whyNot_5 ml_X12_169 (m_withinJ (d := d - 1) (lo := 0) (hi := 3) (by decide) (by decide) ?_ ?_)
  · intro n1 hx1 ha1 hb1
    refine az_if_eqN (tgt := 17) dX12_whyNot_8 (fun c8 => ?_) (fun c8 => ?_)
    · exact absurd c8 (by omega)
    · refine az_aload_n dX12_whyNot_11 ?_
      refine az_lload_n dX12_whyNot_12 ?_
      refine az_cV0 (st := []) dX12_whyNot_13 ml_X12_318 h64 (m_whyNight (d := d - 1) (by omega) hgd hb h64 h65 hT hk ?_ ?_)
      · intro hno
        exact az_iret dX12_whyNot_16 (by first | (rw [show wcode (rd_w v) (mo, ni, bs) (mpk v (mo, ni, bs) n) = (dz (rd_w v) v.2.2.2.2.2.2.2.1 v.2.2.2.2.2.2.2.2 (mo, ni, bs) x).1 from (by rw [hx, dz_mpk hw _ hn])]; exact hQ h1 sc1 a1 (fun n' hx' hn' => (by have e9 : n' = n := (by have := congrArg Int64.toInt (hx'.symm.trans hx); rw [lN_toI (by omega), lN_toI (by omega)] at this; omega); rw [e9]; exact b22)) hs1 mk1' mf1) | (rw [show (1 : Nat) = (dz (rd_w v) v.2.2.2.2.2.2.2.1 v.2.2.2.2.2.2.2.2 (mo, ni, bs) x).1 from (by rw [dz_out hw hno (fun n' a b e => (by have := congrArg Int64.toInt (hx1.symm.trans e); rw [lN_toI (by omega), lN_toI (by omega)] at this; omega))])]; exact hQ hp sc h64 (fun n' hx' hn' => absurd hx' (hno n' hn')) (fun _ _ _ => rfl) hk mf.rf))
      · intro n hx hn h1 sc1 a1 b22 hs1 mk1' mf1
        exact az_iret dX12_whyNot_16 (by first | (rw [show wcode (rd_w v) (mo, ni, bs) (mpk v (mo, ni, bs) n) = (dz (rd_w v) v.2.2.2.2.2.2.2.1 v.2.2.2.2.2.2.2.2 (mo, ni, bs) x).1 from (by rw [hx, dz_mpk hw _ hn])]; exact hQ h1 sc1 a1 (fun n' hx' hn' => (by have e9 : n' = n := (by have := congrArg Int64.toInt (hx'.symm.trans hx); rw [lN_toI (by omega), lN_toI (by omega)] at this; omega); rw [e9]; exact b22)) hs1 mk1' mf1) | (rw [show (1 : Nat) = (dz (rd_w v) v.2.2.2.2.2.2.2.1 v.2.2.2.2.2.2.2.2 (mo, ni, bs) x).1 from (by rw [dz_out hw hno (fun n' a b e => (by have := congrArg Int64.toInt (hx1.symm.trans e); rw [lN_toI (by omega), lN_toI (by omega)] at this; omega))])]; exact hQ hp sc h64 (fun n' hx' hn' => absurd hx' (hno n' hn')) (fun _ _ _ => rfl) hk mf.rf))
  · intro hx0
    refine az_if_eqN (tgt := 17) dX12_whyNot_8 (fun c8 => ?_) (fun c8 => ?_)
    · refine az_lload_n dX12_whyNot_17 ?_
      refine az_ldc2 (v := lN 10) dX12_whyNot_18 cn_X12_285 ?_
      refine az_ldc2 (v := lN 19) dX12_whyNot_21 cn_X12_336 ?_
      refine az_cS0 (st := []) dX12_whyNot_24 ml_X12_169 (m_withinJ (d := d - 1) (lo := 10) (hi := 19) (by decide) (by decide) ?_ ?_)
      · intro n2 hx2 ha2 hb2
        refine az_if_eqN (tgt := 34) dX12_whyNot_27 (fun c27 => ?_) (fun c27 => ?_)
        · exact absurd c27 (by omega)
        · refine az_iconst (v := nI 0) dX12_whyNot_30 ?_
          refine az_goto (tgt := 35) dX12_whyNot_31 ?_
          exact az_iret dX12_whyNot_35 (by first | (rw [show (0 : Nat) = (dz (rd_w v) v.2.2.2.2.2.2.2.1 v.2.2.2.2.2.2.2.2 (mo, ni, bs) x).1 from (by rw [hx2, dz_moon hw ha2 hb2])]; exact hQ hp sc h64 (fun n' hx' hn' => absurd hx' (hx0 n' (Nat.zero_le _) (by omega))) (fun _ _ _ => rfl) hk mf.rf) | (rw [show (1 : Nat) = (dz (rd_w v) v.2.2.2.2.2.2.2.1 v.2.2.2.2.2.2.2.2 (mo, ni, bs) x).1 from (by rw [dz_out hw (fun n' hn' => hx0 n' (Nat.zero_le _) (by omega)) hx2])]; exact hQ hp sc h64 (fun n' hx' hn' => absurd hx' (hx0 n' (Nat.zero_le _) (by omega))) (fun _ _ _ => rfl) hk mf.rf))
      · intro hx2
        refine az_if_eqN (tgt := 34) dX12_whyNot_27 (fun c27 => ?_) (fun c27 => ?_)
        · refine az_iconst (v := nI 1) dX12_whyNot_34 ?_
          exact az_iret dX12_whyNot_35 (by first | (rw [show (0 : Nat) = (dz (rd_w v) v.2.2.2.2.2.2.2.1 v.2.2.2.2.2.2.2.2 (mo, ni, bs) x).1 from (by rw [hx2, dz_moon hw ha2 hb2])]; exact hQ hp sc h64 (fun n' hx' hn' => absurd hx' (hx0 n' (Nat.zero_le _) (by omega))) (fun _ _ _ => rfl) hk mf.rf) | (rw [show (1 : Nat) = (dz (rd_w v) v.2.2.2.2.2.2.2.1 v.2.2.2.2.2.2.2.2 (mo, ni, bs) x).1 from (by rw [dz_out hw (fun n' hn' => hx0 n' (Nat.zero_le _) (by omega)) hx2])]; exact hQ hp sc h64 (fun n' hx' hn' => absurd hx' (hx0 n' (Nat.zero_le _) (by omega))) (fun _ _ _ => rfl) hk mf.rf))
        · exact absurd c27 (by omega)
    · exact absurd c8 (by omega)
theorem wnext_60 {v : rd_V} (hw : ln_ok (rd_w v)) {z : ln_Z} {n tb : Nat} (hn : n ≤ ln_tb (rd_w v)) (h0 : (dz (rd_w v) v.2.2.2.2.2.2.2.1 v.2.2.2.2.2.2.2.2 z (lN n)).1 = 0) (h : mpk v z n = some tb) : z.2.2.length < 60 := by
  rw [dz_mpk hw z hn, h] at h0
  have h0 : (dt (rd_w v) z tb).1 = 0 := h0
  unfold dt at h0
  split at h0
  · cases h0
  · omega
theorem wnext_dz {v : rd_V} (hw : ln_ok (rd_w v)) {z : ln_Z} {n : Nat} (hn : n ≤ ln_tb (rd_w v)) (h0 : (dz (rd_w v) v.2.2.2.2.2.2.2.1 v.2.2.2.2.2.2.2.2 z (lN n)).1 = 0) : wnext z (mpk v z n) = (dz (rd_w v) v.2.2.2.2.2.2.2.1 v.2.2.2.2.2.2.2.2 z (lN n)).2 := by
  rw [dz_mpk hw z hn] at h0 ⊢
  exact (if_pos h0).symm
set_option maxHeartbeats 4000000 in
set_option maxRecDepth 100000 in
theorem m_does {d : Nat} {sc : Nat → Value} {A : Nat → Nat} {v : rd_V} {mo ni : Nat} {bs : List Nat} {hp : az_Hp} {Q : Option Value → az_Hp → Prop} {n : Nat} (hd : 1 ≤ d) (hw : ln_ok (rd_w v)) (hb : ln_by (rd_w v) bs) (hn : n ≤ ln_tb (rd_w v) ∨ (10 ≤ n ∧ n ≤ 19)) (h0 : (dz (rd_w v) v.2.2.2.2.2.2.2.1 v.2.2.2.2.2.2.2.2 (mo, ni, bs) (lN n)).1 = 0) (h64 : hp.2 64 = some (mo_o sc)) (h22 : n ≤ ln_tb (rd_w v) → sc 22 = .int (ln_opt (mpk v (mo, ni, bs) n))) (h65 : hp.2 65 = some (az_I 3318 (fun j => nI (A j)))) (hT : mT A v (mo, ni, bs)) (hQ : ∀ A', mT A' v (dz (rd_w v) v.2.2.2.2.2.2.2.1 v.2.2.2.2.2.2.2.2 (mo, ni, bs) (lN n)).2 → (∀ j, (j < 111 ∨ (114 ≤ j ∧ j < 145) ∨ 205 ≤ j) → A' j = A j) → Q none (az_up hp 65 (az_I 3318 (fun j => nI (A' j))))) : az_M mX12_does d 0 0 [.ref 64, .int (nI n)] hp Q := by
  have ht3 := hw.2.1
  refine az_M.of rfl (Nat.le_of_ble_eq_true rfl) ?_
  show az_W _ _ _ _ 0 [(0, .ref 64), (1, .int (nI n))] [] _ _
  refine az_iload_n dX12_does_0 ?_
  refine az_bipush (v := nI 10) dX12_does_1 ?_
  refine az_icmp_geN (tgt := 13) dX12_does_3 (fun c3 => ?_) (fun c3 => ?_)
  · refine az_aload_n dX12_does_13 ?_
    refine az_getf (v := .ref 65) dX12_does_14 fl_X12_13 h64 ?_
    refine az_bipush (v := nI 111) dX12_does_17 ?_
    refine az_iload_n dX12_does_19 ?_
    refine az_bipush (v := nI 10) dX12_does_20 ?_
    refine az_isubN dX12_does_22 (by omega) ?_
    refine az_iastN (j := 111) dX12_does_23 h65 ?_
    rw [az_s_nI]
    exact az_vret dX12_does_24 (by first | exact hQ A' k1 k2 | (rw [dz_moon hw (by omega) (by omega)] at hQ; exact hQ _ ⟨hT.1.keep hw (fun j hj => az_s_ne (by omega)), ⟨az_s_eq, (az_s_ne (by decide)).trans hT.2.2.1, (az_s_ne (by decide)).trans hT.2.2.2.1, fun k hk => (az_s_ne (by omega)).trans (hT.2.2.2.2 k hk)⟩⟩ (fun j hj => az_s_ne (by omega))))
  · refine az_aload_n dX12_does_6 ?_
    refine az_cV0 (st := []) dX12_does_7 ml_X12_324 h64 (m_goesNight (d := d - 1) (p := mpk v (mo, ni, bs) n) hw hb h64 (h22 (by omega)) h65 hT (fun tb h => (by have := mpk_lt hw (by omega) h; omega)) (fun tb h => wnext_60 hw (by omega) h0 h) ?_)
    intro A' k1 k2
    rw [wnext_dz hw (by omega) h0] at k1
    refine az_goto (tgt := 24) dX12_does_10 ?_
    exact az_vret dX12_does_24 (by first | exact hQ A' k1 k2 | (rw [dz_moon hw (by omega) (by omega)] at hQ; exact hQ _ ⟨hT.1.keep hw (fun j hj => az_s_ne (by omega)), ⟨az_s_eq, (az_s_ne (by decide)).trans hT.2.2.1, (az_s_ne (by decide)).trans hT.2.2.2.1, fun k hk => (az_s_ne (by omega)).trans (hT.2.2.2.2 k hk)⟩⟩ (fun j hj => az_s_ne (by omega))))
theorem dl_step {w : ln_W} {pk sl : List Nat} {l : List Int64} {i : Nat} {z : ln_Z} (h : i < l.length) : dl w pk sl (l.drop i) z = if (dz w pk sl z (l.getD i 0)).1 = 0 then ((dl w pk sl (l.drop (i + 1)) (dz w pk sl z (l.getD i 0)).2).1 + 1, (dl w pk sl (l.drop (i + 1)) (dz w pk sl z (l.getD i 0)).2).2) else (0, (dz w pk sl z (l.getD i 0)).1, z) := by
  rw [dropJ h, dl]
set_option maxHeartbeats 4000000 in
set_option maxRecDepth 100000 in
theorem m_tells {d : Nat} {sc : Nat → Value} {A : Nat → Nat} {v : rd_V} {mo ni : Nat} {bs : List Nat} {hp : az_Hp} {Q : Option Value → az_Hp → Prop} {n : Nat} {y : Nat × List Int64} {rm : Nat → Int32} {nu : Nat → Int64} (hd : 8 ≤ d) (hgd : rd_good v) (hb : ln_by (rd_w v) bs) (hn : n < 4) (hy : y.2.length ≤ 40) (h91 : hp.2 91 = some (az_I 4 rm)) (hrm : rm n = nI y.2.length) (h92 : hp.2 92 = some (az_J 160 nu)) (hnu : ∀ j, j < y.2.length → nu (40 * n + j) = y.2.getD j 0) (h64 : hp.2 64 = some (mo_o sc)) (h65 : hp.2 65 = some (az_I 3318 (fun j => nI (A j)))) (hT : mT A v (mo, ni, bs)) (hk : mk hp) (hQ : ∀ h' sc' A', h'.2 64 = some (mo_o sc') → sc' 23 = .int (nI (dl (rd_w v) v.2.2.2.2.2.2.2.1 v.2.2.2.2.2.2.2.2 y.2 (mo, ni, bs)).2.1) → (∀ j, j ≠ 18 → j ≠ 22 → j ≠ 23 → sc' j = sc j) → h'.2 65 = some (az_I 3318 (fun j => nI (A' j))) → mT A' v (dl (rd_w v) v.2.2.2.2.2.2.2.1 v.2.2.2.2.2.2.2.2 y.2 (mo, ni, bs)).2.2 → (∀ j, (j < 111 ∨ (114 ≤ j ∧ j < 145) ∨ 205 ≤ j) → A' j = A j) → mk h' → mf hp h' [64, 65, 70, 72, 73] → Q (some (.int (nI (dl (rd_w v) v.2.2.2.2.2.2.2.1 v.2.2.2.2.2.2.2.2 y.2 (mo, ni, bs)).1))) h') : az_M mX12_tells d 0 0 [.ref 64, .int (nI n)] hp Q := by
  have hw : ln_ok (rd_w v) := hgd.1
  have ht3 := hw.2.1
  have loop : ∀ (k : Nat) (i m9 n9 : Nat) (b9 : List Nat) (h' : az_Hp) (sc1 : Nat → Value) (A1 : Nat → Nat), y.2.length - i = k → (i ≤ y.2.length) → (ln_by (rd_w v) b9) → (h'.2 64 = some (mo_o sc1)) → (sc1 23 = .int (nI 0)) → (∀ j, j ≠ 18 → j ≠ 22 → j ≠ 23 → sc1 j = sc j) → (h'.2 65 = some (az_I 3318 (fun j => nI (A1 j)))) → (mT A1 v (m9, n9, b9)) → ((∀ j, (j < 111 ∨ (114 ≤ j ∧ j < 145) ∨ 205 ≤ j) → A1 j = A j)) → (mk h') → (mf hp h' [64, 65, 70, 72, 73]) → (dl (rd_w v) v.2.2.2.2.2.2.2.1 v.2.2.2.2.2.2.2.2 y.2 (mo, ni, bs) = (i + (dl (rd_w v) v.2.2.2.2.2.2.2.1 v.2.2.2.2.2.2.2.2 (y.2.drop i) (m9, n9, b9)).1, (dl (rd_w v) v.2.2.2.2.2.2.2.1 v.2.2.2.2.2.2.2.2 (y.2.drop i) (m9, n9, b9)).2)) → az_W mX12_tells d 0 0 7 [(0, .ref 64), (1, .int (nI n)), (2, .int (nI i))] [] h' Q := by
    intro k
    induction k using Nat.strongRecOn with
    | _ k ih =>
    intro i m9 n9 b9 h' sc1 A1 hk hi hby a64 a23 hs1 a65 hT1 hA1 mk1' mf1 hD
    refine az_iload_n dX12_tells_7 ?_
    refine az_aload_n dX12_tells_8 ?_
    refine az_getf (v := .ref 91) dX12_tells_9 fl_X12_97 a64 ?_
    refine az_iload_n dX12_tells_12 ?_
    refine az_ialdN (j := n) dX12_tells_13 (mf1.at h91) ?_
    rw [hrm]
    refine az_icmp_geN (tgt := 67) dX12_tells_14 (fun c14 => ?_) (fun c14 => ?_)
    · refine az_aload_n dX12_tells_67 ?_
      refine az_getf (v := .ref 91) dX12_tells_68 fl_X12_97 a64 ?_
      refine az_iload_n dX12_tells_71 ?_
      refine az_ialdN (j := n) dX12_tells_72 (mf1.at h91) ?_
      rw [hrm]
      exact az_iret dX12_tells_73 (by have e9 : i = y.2.length := (by omega); rw [e9, List.drop_length] at hD; have hQ2 := hQ; rw [hD] at hQ2; exact hQ2 h' sc1 A1 a64 a23 hs1 a65 hT1 hA1 mk1' mf1)
    · refine az_aload_n dX12_tells_17 ?_
      refine az_aload_n dX12_tells_18 ?_
      refine az_aload_n dX12_tells_19 ?_
      refine az_getf (v := .ref 92) dX12_tells_20 fl_X12_100 a64 ?_
      refine az_bipush (v := nI 40) dX12_tells_23 ?_
      refine az_iload_n dX12_tells_25 ?_
      refine az_imulN dX12_tells_26 ?_
      refine az_iload_n dX12_tells_27 ?_
      refine az_iaddN dX12_tells_28 ?_
      refine az_laldN (j := (40 * n) + i) dX12_tells_29 (mf1.at h92) ?_
      rw [hnu i (by omega)]
      refine az_cV0 (st := [.ref 64]) dX12_tells_30 ml_X12_341 a64 (m_whyNot (d := d - 1) (x := (y.2.getD i 0)) (by omega) hgd hby a64 a65 hT1 mk1' ?_)
      intro h2 sc2 b64 b22 hs2 mk2 mf2
      have hstep := dl_step (w := rd_w v) (pk := v.2.2.2.2.2.2.2.1) (sl := v.2.2.2.2.2.2.2.2) (z := (m9, n9, b9)) (show i < y.2.length by omega)
      have hby2 := dz_by (pk := v.2.2.2.2.2.2.2.1) (sl := v.2.2.2.2.2.2.2.2) (z := (m9, n9, b9)) (v := (y.2.getD i 0)) hw hby
      have hco : (dz (rd_w v) v.2.2.2.2.2.2.2.1 v.2.2.2.2.2.2.2.2 (m9, n9, b9) (y.2.getD i 0)).1 < 2 ^ 31 := (by have := dz_co (rd_w v) v.2.2.2.2.2.2.2.1 v.2.2.2.2.2.2.2.2 (m9, n9, b9) (y.2.getD i 0); omega)
      refine az_putf (fs' := [sc2 0, .ref 65, .ref 66, .ref 67, .ref 68, sc2 5, fI (sc2 6), sc2 7, sc2 8, fI (sc2 9), fI (sc2 10), sc2 11, fI (sc2 12), sc2 13, sc2 14, .ref 69, .ref 70, .ref 71, sc2 18, .ref 72, .ref 73, .ref 74, sc2 22, .int (nI ((dz (rd_w v) v.2.2.2.2.2.2.2.1 v.2.2.2.2.2.2.2.2 (m9, n9, b9) (y.2.getD i 0)).1)), .ref 75, sc2 25, .ref 76, .ref 77, .ref 78, sc2 29, .ref 79, .ref 80, .ref 81, .ref 82, .ref 83, .ref 84, .ref 85, sc2 37, .ref 86, .ref 87, .ref 88, .ref 89, .ref 90, .ref 91, .ref 92]) dX12_tells_33 fl_X12_338 b64 ?_
      refine az_aload_n dX12_tells_36 ?_
      refine az_getf (v := .int (nI ((dz (rd_w v) v.2.2.2.2.2.2.2.1 v.2.2.2.2.2.2.2.2 (m9, n9, b9) (y.2.getD i 0)).1))) dX12_tells_37 fl_X12_338 az_up_eq ?_
      refine az_if_eqN (tgt := 45) dX12_tells_40 (fun c40 => ?_) (fun c40 => ?_)
      · refine az_aload_n dX12_tells_45 ?_
        refine az_aload_n dX12_tells_46 ?_
        refine az_getf (v := .ref 92) dX12_tells_47 fl_X12_100 az_up_eq ?_
        refine az_bipush (v := nI 40) dX12_tells_50 ?_
        refine az_iload_n dX12_tells_52 ?_
        refine az_imulN dX12_tells_53 ?_
        refine az_iload_n dX12_tells_54 ?_
        refine az_iaddN dX12_tells_55 ?_
        refine az_laldN (j := (40 * n) + i) dX12_tells_56 (az_up_ne (mf2.at (mf1.at h92))) ?_
        rw [hnu i (by omega)]
        refine az_l2i dX12_tells_57 ?_
        obtain ⟨n5, hn5, hn8⟩ := dz_0 hw c40
        rw [hn5, lN_i]
        refine az_cV0 (st := []) dX12_tells_58 ml_X12_344 az_up_eq (m_does (d := d - 1) (n := n5) (sc := su sc2 23 (.int (nI (dz (rd_w v) v.2.2.2.2.2.2.2.1 v.2.2.2.2.2.2.2.2 (m9, n9, b9) (lN n5)).1))) (by omega) hw hby hn8 (by rw [← hn5]; exact c40) az_up_eq (fun hle => b22 n5 hn5 hle) (az_up_ne (mf2.at a65)) hT1 ?_)
        intro A2 k1 k2
        rw [← hn5] at k1
        refine az_iincN (n := 1) (ls' := [(0, .ref 64), (1, .int (nI n)), (2, .int (nI (i + 1)))]) dX12_tells_61 ?_
        refine az_goto (tgt := 7) dX12_tells_64 ?_
        exact ih _ (by omega) (i + 1) (dz (rd_w v) v.2.2.2.2.2.2.2.1 v.2.2.2.2.2.2.2.2 (m9, n9, b9) (y.2.getD i 0)).2.1 (dz (rd_w v) v.2.2.2.2.2.2.2.1 v.2.2.2.2.2.2.2.2 (m9, n9, b9) (y.2.getD i 0)).2.2.1 (dz (rd_w v) v.2.2.2.2.2.2.2.1 v.2.2.2.2.2.2.2.2 (m9, n9, b9) (y.2.getD i 0)).2.2.2 _ (su sc2 23 (.int (nI (dz (rd_w v) v.2.2.2.2.2.2.2.1 v.2.2.2.2.2.2.2.2 (m9, n9, b9) (lN n5)).1))) A2 rfl (by omega) hby2 (az_up_ne az_up_eq) (by show Value.int (nI (dz (rd_w v) v.2.2.2.2.2.2.2.1 v.2.2.2.2.2.2.2.2 (m9, n9, b9) (lN n5)).1) = _; rw [← hn5, c40]) (fun j e1 e2 e3 => by simp only [su, if_neg e3]; exact (hs2 j e1 e2).trans (hs1 j e1 e2 e3)) az_up_eq k1 (fun j hj => (k2 j hj).trans (hA1 j hj)) (mk.uA (mk.uO mk2)) (((mf1.tr mf2 (by decide)).up (by decide)).up (by decide)) (by rw [if_pos c40] at hstep; rw [hD, hstep]; exact Prod.ext (show i + ((dl (rd_w v) v.2.2.2.2.2.2.2.1 v.2.2.2.2.2.2.2.2 (y.2.drop (i + 1)) (dz (rd_w v) v.2.2.2.2.2.2.2.1 v.2.2.2.2.2.2.2.2 (m9, n9, b9) (y.2.getD i 0)).2).1 + 1) = i + 1 + (dl (rd_w v) v.2.2.2.2.2.2.2.1 v.2.2.2.2.2.2.2.2 (y.2.drop (i + 1)) (dz (rd_w v) v.2.2.2.2.2.2.2.1 v.2.2.2.2.2.2.2.2 (m9, n9, b9) (y.2.getD i 0)).2).1 by omega) rfl)
      · refine az_iload_n dX12_tells_43 ?_
        exact az_iret dX12_tells_44 (by rw [if_neg c40] at hstep; rw [hstep] at hD; have hQ2 := hQ; rw [hD] at hQ2; exact hQ2 _ (su sc2 23 (.int (nI (dz (rd_w v) v.2.2.2.2.2.2.2.1 v.2.2.2.2.2.2.2.2 (m9, n9, b9) (y.2.getD i 0)).1))) A1 az_up_eq rfl (fun j e1 e2 e3 => by simp only [su, if_neg e3]; exact (hs2 j e1 e2).trans (hs1 j e1 e2 e3)) (az_up_ne (mf2.at a65)) hT1 hA1 (mk.uO mk2) ((mf1.tr mf2 (by decide)).up (by decide)))
  refine az_M.of rfl (Nat.le_of_ble_eq_true rfl) ?_
  show az_W _ _ _ _ 0 [(0, .ref 64), (1, .int (nI n))] [] _ _
  refine az_aload_n dX12_tells_0 ?_
  refine az_iconst (v := nI 0) dX12_tells_1 ?_
  refine az_putf (fs' := [sc 0, .ref 65, .ref 66, .ref 67, .ref 68, sc 5, fI (sc 6), sc 7, sc 8, fI (sc 9), fI (sc 10), sc 11, fI (sc 12), sc 13, sc 14, .ref 69, .ref 70, .ref 71, sc 18, .ref 72, .ref 73, .ref 74, sc 22, .int (nI 0), .ref 75, sc 25, .ref 76, .ref 77, .ref 78, sc 29, .ref 79, .ref 80, .ref 81, .ref 82, .ref 83, .ref 84, .ref 85, sc 37, .ref 86, .ref 87, .ref 88, .ref 89, .ref 90, .ref 91, .ref 92]) dX12_tells_2 fl_X12_338 h64 ?_
  refine az_iconst (v := nI 0) dX12_tells_5 ?_
  refine az_istore_n (ls' := [(0, .ref 64), (1, .int (nI n)), (2, .int (nI 0))]) dX12_tells_6 ?_
  exact loop _ 0 mo ni bs _ (su sc 23 (.int (nI 0))) A rfl (Nat.zero_le _) hb az_up_eq rfl (fun j e1 e2 e3 => by simp only [su, if_neg e3]) (az_up_ne h65) hT (fun _ _ => rfl) (mk.uO hk) (mf.rf.up (by decide)) (by rw [List.drop_zero]; exact Prod.ext (by show _ = 0 + _; omega) rfl)

