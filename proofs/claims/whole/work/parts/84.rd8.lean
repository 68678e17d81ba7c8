/-! Reader: sums, units, truths -/
set_option maxHeartbeats 8000000 in
set_option maxRecDepth 100000 in
theorem s_readBoth {D tx n r dp : Nat} {b : Nat → Nat} {L : rd_P × rd_P × rd_P} (h8 : 8 ≤ D) (hGF : rd_G n (rd_un b n r L)) (hA : rd_CM mX5_readUnit (rd_un b n r L) D tx n b dp) : rd_CM mX5_readBoth (rd_bo b n r L) (D + 1) tx n b dp := by
  intro d q e0 c0 hp Q hd hS0 hQ
  obtain ⟨va0, hW0, hce0, hv0⟩ := id hS0
  obtain ⟨hX0, he0, hc0, cf0, ol0, g0, -⟩ := id hW0
  have hn9 := hX0.2.1
  have bad : ∀ (k : Nat) (i f9 p9 : Nat) (h' : az_Hp) (hE9 : rd_Er h' q tx n b f9 p9 e0 c0.length) (hQb : Q (some (.int (nI 0))) h'), 0 = k → (i ≤ 901) → az_W mX5_readBoth d 0 0 8 [(0, .ref q), (1, .int (nI dp)), (2, .int (nI 0)), (3, .int (nI i))] [] h' Q := by
    intro k
    induction k using Nat.strongRecOn with
    | _ k ih =>
    intro i f9 p9 h' hE9 hQb hk hi9
    obtain ⟨hX9, ki9, aa9, zz9, va9, m9, cf9, ol9, g9, -⟩ := id hE9
    refine az_iload_n dX5_readBoth_8 ?_
    refine az_aload_n dX5_readBoth_9 ?_
    refine az_getf (v := .int (nI n)) dX5_readBoth_10 fl_X5_35 g9 ?_
    refine az_icmp_geN (tgt := 51) dX5_readBoth_13 (fun c13 => ?_) (fun c13 => ?_)
    · refine az_iload_n dX5_readBoth_51 ?_
      exact az_iret dX5_readBoth_52 (hQb)
    · refine az_iload_n dX5_readBoth_16 ?_
      refine az_if_eqN (tgt := 51) dX5_readBoth_17 (fun c17 => ?_) (fun c17 => ?_)
      · refine az_iload_n dX5_readBoth_51 ?_
        exact az_iret dX5_readBoth_52 (hQb)
      · exact absurd c17 (by omega)
  have loop : ∀ (k : Nat) (i e9 : Nat) (c9 : List Nat) (h' : az_Hp) (hS9 : rd_St h' q tx n b e9 c9) (hf9 : rd_f hp h' q) (hQ9 : rd_Q (rd_lp b n (rd_un b n r L) (rd_cn b n) (n - i) e9 c9) e0 c0.length hp q tx n b Q), n - i = k → (i ≤ n) → (c9.length + e0 ≤ c0.length + e9) → (e0 ≤ e9) → az_W mX5_readBoth d 0 0 8 [(0, .ref q), (1, .int (nI dp)), (2, .int (nI 1)), (3, .int (nI i))] [] h' Q := by
    intro k
    induction k using Nat.strongRecOn with
    | _ k ih =>
    intro i e9 c9 h' hS9 hf9 hQ9 hk hi9 hgl hge
    obtain ⟨va9, hW9, hce9, hv9⟩ := id hS9
    obtain ⟨hX9, he9, hc9, cf9, ol9, g9, -⟩ := id hW9
    refine az_iload_n dX5_readBoth_8 ?_
    refine az_aload_n dX5_readBoth_9 ?_
    refine az_getf (v := .int (nI n)) dX5_readBoth_10 fl_X5_35 g9 ?_
    refine az_icmp_geN (tgt := 51) dX5_readBoth_13 (fun c13 => ?_) (fun c13 => ?_)
    · refine az_iload_n dX5_readBoth_51 ?_
      exact az_iret dX5_readBoth_52 (by first | (rw [show n - i = 0 by omega] at hQ9; exact hQ9 h' hS9 hf9) | (rw [show n - i = (n - (i + 1)) + 1 by omega, rd_lp] at hQ9; dsimp only at hQ9; rw [if_pos (show rd_cn b n e9 = 0 from if_neg hs0)] at hQ9; exact hQ9 h' hS9 hf9))
    · refine az_iload_n dX5_readBoth_16 ?_
      refine az_if_eqN (tgt := 51) dX5_readBoth_17 (fun c17 => ?_) (fun c17 => ?_)
      · exact absurd c17 (by omega)
      · refine az_aload_n dX5_readBoth_20 ?_
        refine az_ldcS (k := 10) dX5_readBoth_21 rfl rfl rfl ?_
        refine az_cV0 (st := []) dX5_readBoth_23 ml_X5_87 g9 (s_isWord (d := d - 1) (k9 := 10) (r := ("LetterNights$Reader", 162, "and")) (by omega) rfl hW9 ?_ ?_)
        · intro hs1
          refine az_if_eqN (tgt := 51) dX5_readBoth_26 (fun c26 => ?_) (fun c26 => ?_)
          · exact absurd c26 (by omega)
          · refine az_aload_n dX5_readBoth_29 ?_
            refine az_cV0 (st := []) dX5_readBoth_30 ml_X5_41 g9 (s_adv (d := d - 1) (by omega) hW9 ?_)
            intro h2 hS2 hf2
            obtain ⟨va2, hW2, hce2, hv2⟩ := id hS2
            obtain ⟨hX2, he2, hc2, cf2, ol2, g2, -⟩ := id hW2
            rw [show n - i = (n - (i + 1)) + 1 by omega, rd_lp] at hQ9
            dsimp only at hQ9
            rw [if_neg (show ¬ rd_cn b n e9 = 0 by rw [(show rd_cn b n e9 = 3007 from if_pos hs1)]; decide), (show rd_cn b n e9 = 3007 from if_pos hs1)] at hQ9
            have hkn := rd_cn_k (b := b) (n := n) e9 (by rw [(show rd_cn b n e9 = 3007 from if_pos hs1)]; decide)
            have hel := rd_en_lt (b := b) he9 hkn
            refine az_aload_n dX5_readBoth_33 ?_
            refine az_iload_n dX5_readBoth_34 ?_
            refine az_cV0 (st := []) dX5_readBoth_35 ml_X5_159 g2 (hA (d := d - 1) (by omega) hS2 (rd_Q.i ?_ ?_))
            · intro e3 c3 hq3 h3 hS3 hf3
              obtain ⟨va3, hW3, hce3, hv3⟩ := id hS3
              obtain ⟨hX3, he3, hc3, cf3, ol3, g3, -⟩ := id hW3
              rw [hq3, rd_b_l] at hQ9
              have hg3 := hGF _ _ _ _ hel.2.2 hq3
              refine az_istore_n (ls' := [(0, .ref q), (1, .int (nI dp)), (2, .int (nI 1)), (3, .int (nI i))]) dX5_readBoth_38 ?_
              refine az_aload_n dX5_readBoth_39 ?_
              refine az_bipush (v := (-18)) dX5_readBoth_40 ?_
              first | exact az_cV0 (st := []) (av := [.int (-18)]) dX5_readBoth_42 ml_X5_155 g3 (s_encodeE (d := d - 1) (k1 := e0) (k2 := c0.length) (hE3.mono (by omega)) (fun h4 hE4 hf4 => az_iincN (n := 1) (ls' := [(0, .ref q), (1, .int (nI dp)), (2, .int (nI 0)), (3, .int (nI (i + 1)))]) dX5_readBoth_45 (az_goto (tgt := 8) dX5_readBoth_48 (bad _ (i + 1) f3 p3 h4 hE4 (hQ9 h4 hE4 (((hf9.tr hf2).tr hf3).tr hf4)) rfl (by omega))))) | exact az_cV0 (st := []) (av := [.int (-18)]) dX5_readBoth_42 ml_X5_155 g3 (s_encodeS (d := d - 1) (x := 3007) hS3 (by omega) (fun h4 hS4 hf4 => az_iincN (n := 1) (ls' := [(0, .ref q), (1, .int (nI dp)), (2, .int (nI 1)), (3, .int (nI (i + 1)))]) dX5_readBoth_45 (az_goto (tgt := 8) dX5_readBoth_48 (ih _ (by omega) (i + 1) e3 (c3 ++ [3007]) h4 hS4 (((hf9.tr hf2).tr hf3).tr hf4) hQ9 rfl (by omega) (by rw [List.length_append, List.length_singleton]; omega) (by omega)))))
            · intro f3 p3 hq3 h3 hE3 hf3
              obtain ⟨hX3, ki3, aa3, zz3, va3, m3, cf3, ol3, g3, -⟩ := id hE3
              rw [hq3] at hQ9
              refine az_istore_n (ls' := [(0, .ref q), (1, .int (nI dp)), (2, .int (nI 0)), (3, .int (nI i))]) dX5_readBoth_38 ?_
              refine az_aload_n dX5_readBoth_39 ?_
              refine az_bipush (v := (-18)) dX5_readBoth_40 ?_
              first | exact az_cV0 (st := []) (av := [.int (-18)]) dX5_readBoth_42 ml_X5_155 g3 (s_encodeE (d := d - 1) (k1 := e0) (k2 := c0.length) (hE3.mono (by omega)) (fun h4 hE4 hf4 => az_iincN (n := 1) (ls' := [(0, .ref q), (1, .int (nI dp)), (2, .int (nI 0)), (3, .int (nI (i + 1)))]) dX5_readBoth_45 (az_goto (tgt := 8) dX5_readBoth_48 (bad _ (i + 1) f3 p3 h4 hE4 (hQ9 h4 hE4 (((hf9.tr hf2).tr hf3).tr hf4)) rfl (by omega))))) | exact az_cV0 (st := []) (av := [.int (-18)]) dX5_readBoth_42 ml_X5_155 g3 (s_encodeS (d := d - 1) (x := 3007) hS3 (by omega) (fun h4 hS4 hf4 => az_iincN (n := 1) (ls' := [(0, .ref q), (1, .int (nI dp)), (2, .int (nI 1)), (3, .int (nI (i + 1)))]) dX5_readBoth_45 (az_goto (tgt := 8) dX5_readBoth_48 (ih _ (by omega) (i + 1) e3 (c3 ++ [3007]) h4 hS4 (((hf9.tr hf2).tr hf3).tr hf4) hQ9 rfl (by omega) (by rw [List.length_append, List.length_singleton]; omega) (by omega)))))
        · intro hs0
          refine az_if_eqN (tgt := 51) dX5_readBoth_26 (fun c26 => ?_) (fun c26 => ?_)
          · refine az_iload_n dX5_readBoth_51 ?_
            exact az_iret dX5_readBoth_52 (by first | (rw [show n - i = 0 by omega] at hQ9; exact hQ9 h' hS9 hf9) | (rw [show n - i = (n - (i + 1)) + 1 by omega, rd_lp] at hQ9; dsimp only at hQ9; rw [if_pos (show rd_cn b n e9 = 0 from if_neg hs0)] at hQ9; exact hQ9 h' hS9 hf9))
          · exact absurd c26 (by omega)
  refine az_M.of rfl (Nat.le_of_ble_eq_true rfl) ?_
  show az_W _ _ _ _ 0 [(0, .ref q), (1, .int (nI dp))] [] _ _
  refine az_aload_n dX5_readBoth_0 ?_
  refine az_iload_n dX5_readBoth_1 ?_
  refine az_cV0 (st := []) dX5_readBoth_2 ml_X5_159 g0 (hA (d := d - 1) (by omega) hS0 (rd_Q.i ?_ ?_))
  · intro e1 c1 hq1 h1 hS1 hf1
    obtain ⟨va1, hW1, hce1, hv1⟩ := id hS1
    obtain ⟨hX1, he1, hc1, cf1, ol1, g1, -⟩ := id hW1
    rw [rd_bo, hq1, rd_b_l] at hQ
    have hg1 := hGF _ _ _ _ he0 hq1
    refine az_istore_n (ls' := [(0, .ref q), (1, .int (nI dp)), (2, .int (nI 1))]) dX5_readBoth_5 ?_
    refine az_iconst (v := nI 0) dX5_readBoth_6 ?_
    refine az_istore_n (ls' := [(0, .ref q), (1, .int (nI dp)), (2, .int (nI 1)), (3, .int (nI 0))]) dX5_readBoth_7 ?_
    first | exact bad _ 0 f1 p1 h1 hE1 (hQ h1 hE1 hf1) rfl (by omega) | exact loop _ 0 e1 c1 h1 hS1 hf1 hQ rfl (Nat.zero_le _) hg1.2.2 hg1.1
  · intro f1 p1 hq1 h1 hE1 hf1
    obtain ⟨hX1, ki1, aa1, zz1, va1, m1, cf1, ol1, g1, -⟩ := id hE1
    rw [rd_bo, hq1] at hQ
    refine az_istore_n (ls' := [(0, .ref q), (1, .int (nI dp)), (2, .int (nI 0))]) dX5_readBoth_5 ?_
    refine az_iconst (v := nI 0) dX5_readBoth_6 ?_
    refine az_istore_n (ls' := [(0, .ref q), (1, .int (nI dp)), (2, .int (nI 0)), (3, .int (nI 0))]) dX5_readBoth_7 ?_
    first | exact bad _ 0 f1 p1 h1 hE1 (hQ h1 hE1 hf1) rfl (by omega) | exact loop _ 0 e1 c1 h1 hS1 hf1 hQ rfl (Nat.zero_le _) hg1.2.2 hg1.1
set_option maxHeartbeats 8000000 in
set_option maxRecDepth 100000 in
theorem s_readTruth {D tx n r dp : Nat} {b : Nat → Nat} {L : rd_P × rd_P × rd_P} (h8 : 8 ≤ D) (hGF : rd_G n (rd_bo b n r L)) (hA : rd_CM mX5_readBoth (rd_bo b n r L) D tx n b dp) : rd_CM mX5_readTruth (rd_tr b n r L) (D + 1) tx n b dp := by
  intro d q e0 c0 hp Q hd hS0 hQ
  obtain ⟨va0, hW0, hce0, hv0⟩ := id hS0
  obtain ⟨hX0, he0, hc0, cf0, ol0, g0, -⟩ := id hW0
  have hn9 := hX0.2.1
  have bad : ∀ (k : Nat) (i f9 p9 : Nat) (h' : az_Hp) (hE9 : rd_Er h' q tx n b f9 p9 e0 c0.length) (hQb : Q (some (.int (nI 0))) h'), 0 = k → (i ≤ 901) → az_W mX5_readTruth d 0 0 8 [(0, .ref q), (1, .int (nI dp)), (2, .int (nI 0)), (3, .int (nI i))] [] h' Q := by
    intro k
    induction k using Nat.strongRecOn with
    | _ k ih =>
    intro i f9 p9 h' hE9 hQb hk hi9
    obtain ⟨hX9, ki9, aa9, zz9, va9, m9, cf9, ol9, g9, -⟩ := id hE9
    refine az_iload_n dX5_readTruth_8 ?_
    refine az_aload_n dX5_readTruth_9 ?_
    refine az_getf (v := .int (nI n)) dX5_readTruth_10 fl_X5_35 g9 ?_
    refine az_icmp_geN (tgt := 51) dX5_readTruth_13 (fun c13 => ?_) (fun c13 => ?_)
    · refine az_iload_n dX5_readTruth_51 ?_
      exact az_iret dX5_readTruth_52 (hQb)
    · refine az_iload_n dX5_readTruth_16 ?_
      refine az_if_eqN (tgt := 51) dX5_readTruth_17 (fun c17 => ?_) (fun c17 => ?_)
      · refine az_iload_n dX5_readTruth_51 ?_
        exact az_iret dX5_readTruth_52 (hQb)
      · exact absurd c17 (by omega)
  have loop : ∀ (k : Nat) (i e9 : Nat) (c9 : List Nat) (h' : az_Hp) (hS9 : rd_St h' q tx n b e9 c9) (hf9 : rd_f hp h' q) (hQ9 : rd_Q (rd_lp b n (rd_bo b n r L) (rd_co b n) (n - i) e9 c9) e0 c0.length hp q tx n b Q), n - i = k → (i ≤ n) → (c9.length + e0 ≤ c0.length + e9) → (e0 ≤ e9) → az_W mX5_readTruth d 0 0 8 [(0, .ref q), (1, .int (nI dp)), (2, .int (nI 1)), (3, .int (nI i))] [] h' Q := by
    intro k
    induction k using Nat.strongRecOn with
    | _ k ih =>
    intro i e9 c9 h' hS9 hf9 hQ9 hk hi9 hgl hge
    obtain ⟨va9, hW9, hce9, hv9⟩ := id hS9
    obtain ⟨hX9, he9, hc9, cf9, ol9, g9, -⟩ := id hW9
    refine az_iload_n dX5_readTruth_8 ?_
    refine az_aload_n dX5_readTruth_9 ?_
    refine az_getf (v := .int (nI n)) dX5_readTruth_10 fl_X5_35 g9 ?_
    refine az_icmp_geN (tgt := 51) dX5_readTruth_13 (fun c13 => ?_) (fun c13 => ?_)
    · refine az_iload_n dX5_readTruth_51 ?_
      exact az_iret dX5_readTruth_52 (by first | (rw [show n - i = 0 by omega] at hQ9; exact hQ9 h' hS9 hf9) | (rw [show n - i = (n - (i + 1)) + 1 by omega, rd_lp] at hQ9; dsimp only at hQ9; rw [if_pos (show rd_co b n e9 = 0 from if_neg hs0)] at hQ9; exact hQ9 h' hS9 hf9))
    · refine az_iload_n dX5_readTruth_16 ?_
      refine az_if_eqN (tgt := 51) dX5_readTruth_17 (fun c17 => ?_) (fun c17 => ?_)
      · exact absurd c17 (by omega)
      · refine az_aload_n dX5_readTruth_20 ?_
        refine az_ldcS (k := 11) dX5_readTruth_21 rfl rfl rfl ?_
        refine az_cV0 (st := []) dX5_readTruth_23 ml_X5_87 g9 (s_isWord (d := d - 1) (k9 := 11) (r := ("LetterNights$Reader", 151, "or")) (by omega) rfl hW9 ?_ ?_)
        · intro hs1
          refine az_if_eqN (tgt := 51) dX5_readTruth_26 (fun c26 => ?_) (fun c26 => ?_)
          · exact absurd c26 (by omega)
          · refine az_aload_n dX5_readTruth_29 ?_
            refine az_cV0 (st := []) dX5_readTruth_30 ml_X5_41 g9 (s_adv (d := d - 1) (by omega) hW9 ?_)
            intro h2 hS2 hf2
            obtain ⟨va2, hW2, hce2, hv2⟩ := id hS2
            obtain ⟨hX2, he2, hc2, cf2, ol2, g2, -⟩ := id hW2
            rw [show n - i = (n - (i + 1)) + 1 by omega, rd_lp] at hQ9
            dsimp only at hQ9
            rw [if_neg (show ¬ rd_co b n e9 = 0 by rw [(show rd_co b n e9 = 3008 from if_pos hs1)]; decide), (show rd_co b n e9 = 3008 from if_pos hs1)] at hQ9
            have hkn := rd_co_k (b := b) (n := n) e9 (by rw [(show rd_co b n e9 = 3008 from if_pos hs1)]; decide)
            have hel := rd_en_lt (b := b) he9 hkn
            refine az_aload_n dX5_readTruth_33 ?_
            refine az_iload_n dX5_readTruth_34 ?_
            refine az_cV0 (st := []) dX5_readTruth_35 ml_X5_148 g2 (hA (d := d - 1) (by omega) hS2 (rd_Q.i ?_ ?_))
            · intro e3 c3 hq3 h3 hS3 hf3
              obtain ⟨va3, hW3, hce3, hv3⟩ := id hS3
              obtain ⟨hX3, he3, hc3, cf3, ol3, g3, -⟩ := id hW3
              rw [hq3, rd_b_l] at hQ9
              have hg3 := hGF _ _ _ _ hel.2.2 hq3
              refine az_istore_n (ls' := [(0, .ref q), (1, .int (nI dp)), (2, .int (nI 1)), (3, .int (nI i))]) dX5_readTruth_38 ?_
              refine az_aload_n dX5_readTruth_39 ?_
              refine az_bipush (v := (-19)) dX5_readTruth_40 ?_
              first | exact az_cV0 (st := []) (av := [.int (-19)]) dX5_readTruth_42 ml_X5_155 g3 (s_encodeE (d := d - 1) (k1 := e0) (k2 := c0.length) (hE3.mono (by omega)) (fun h4 hE4 hf4 => az_iincN (n := 1) (ls' := [(0, .ref q), (1, .int (nI dp)), (2, .int (nI 0)), (3, .int (nI (i + 1)))]) dX5_readTruth_45 (az_goto (tgt := 8) dX5_readTruth_48 (bad _ (i + 1) f3 p3 h4 hE4 (hQ9 h4 hE4 (((hf9.tr hf2).tr hf3).tr hf4)) rfl (by omega))))) | exact az_cV0 (st := []) (av := [.int (-19)]) dX5_readTruth_42 ml_X5_155 g3 (s_encodeS (d := d - 1) (x := 3008) hS3 (by omega) (fun h4 hS4 hf4 => az_iincN (n := 1) (ls' := [(0, .ref q), (1, .int (nI dp)), (2, .int (nI 1)), (3, .int (nI (i + 1)))]) dX5_readTruth_45 (az_goto (tgt := 8) dX5_readTruth_48 (ih _ (by omega) (i + 1) e3 (c3 ++ [3008]) h4 hS4 (((hf9.tr hf2).tr hf3).tr hf4) hQ9 rfl (by omega) (by rw [List.length_append, List.length_singleton]; omega) (by omega)))))
            · intro f3 p3 hq3 h3 hE3 hf3
              obtain ⟨hX3, ki3, aa3, zz3, va3, m3, cf3, ol3, g3, -⟩ := id hE3
              rw [hq3] at hQ9
              refine az_istore_n (ls' := [(0, .ref q), (1, .int (nI dp)), (2, .int (nI 0)), (3, .int (nI i))]) dX5_readTruth_38 ?_
              refine az_aload_n dX5_readTruth_39 ?_
              refine az_bipush (v := (-19)) dX5_readTruth_40 ?_
              first | exact az_cV0 (st := []) (av := [.int (-19)]) dX5_readTruth_42 ml_X5_155 g3 (s_encodeE (d := d - 1) (k1 := e0) (k2 := c0.length) (hE3.mono (by omega)) (fun h4 hE4 hf4 => az_iincN (n := 1) (ls' := [(0, .ref q), (1, .int (nI dp)), (2, .int (nI 0)), (3, .int (nI (i + 1)))]) dX5_readTruth_45 (az_goto (tgt := 8) dX5_readTruth_48 (bad _ (i + 1) f3 p3 h4 hE4 (hQ9 h4 hE4 (((hf9.tr hf2).tr hf3).tr hf4)) rfl (by omega))))) | exact az_cV0 (st := []) (av := [.int (-19)]) dX5_readTruth_42 ml_X5_155 g3 (s_encodeS (d := d - 1) (x := 3008) hS3 (by omega) (fun h4 hS4 hf4 => az_iincN (n := 1) (ls' := [(0, .ref q), (1, .int (nI dp)), (2, .int (nI 1)), (3, .int (nI (i + 1)))]) dX5_readTruth_45 (az_goto (tgt := 8) dX5_readTruth_48 (ih _ (by omega) (i + 1) e3 (c3 ++ [3008]) h4 hS4 (((hf9.tr hf2).tr hf3).tr hf4) hQ9 rfl (by omega) (by rw [List.length_append, List.length_singleton]; omega) (by omega)))))
        · intro hs0
          refine az_if_eqN (tgt := 51) dX5_readTruth_26 (fun c26 => ?_) (fun c26 => ?_)
          · refine az_iload_n dX5_readTruth_51 ?_
            exact az_iret dX5_readTruth_52 (by first | (rw [show n - i = 0 by omega] at hQ9; exact hQ9 h' hS9 hf9) | (rw [show n - i = (n - (i + 1)) + 1 by omega, rd_lp] at hQ9; dsimp only at hQ9; rw [if_pos (show rd_co b n e9 = 0 from if_neg hs0)] at hQ9; exact hQ9 h' hS9 hf9))
          · exact absurd c26 (by omega)
  refine az_M.of rfl (Nat.le_of_ble_eq_true rfl) ?_
  show az_W _ _ _ _ 0 [(0, .ref q), (1, .int (nI dp))] [] _ _
  refine az_aload_n dX5_readTruth_0 ?_
  refine az_iload_n dX5_readTruth_1 ?_
  refine az_cV0 (st := []) dX5_readTruth_2 ml_X5_148 g0 (hA (d := d - 1) (by omega) hS0 (rd_Q.i ?_ ?_))
  · intro e1 c1 hq1 h1 hS1 hf1
    obtain ⟨va1, hW1, hce1, hv1⟩ := id hS1
    obtain ⟨hX1, he1, hc1, cf1, ol1, g1, -⟩ := id hW1
    rw [rd_tr, hq1, rd_b_l] at hQ
    have hg1 := hGF _ _ _ _ he0 hq1
    refine az_istore_n (ls' := [(0, .ref q), (1, .int (nI dp)), (2, .int (nI 1))]) dX5_readTruth_5 ?_
    refine az_iconst (v := nI 0) dX5_readTruth_6 ?_
    refine az_istore_n (ls' := [(0, .ref q), (1, .int (nI dp)), (2, .int (nI 1)), (3, .int (nI 0))]) dX5_readTruth_7 ?_
    first | exact bad _ 0 f1 p1 h1 hE1 (hQ h1 hE1 hf1) rfl (by omega) | exact loop _ 0 e1 c1 h1 hS1 hf1 hQ rfl (Nat.zero_le _) hg1.2.2 hg1.1
  · intro f1 p1 hq1 h1 hE1 hf1
    obtain ⟨hX1, ki1, aa1, zz1, va1, m1, cf1, ol1, g1, -⟩ := id hE1
    rw [rd_tr, hq1] at hQ
    refine az_istore_n (ls' := [(0, .ref q), (1, .int (nI dp)), (2, .int (nI 0))]) dX5_readTruth_5 ?_
    refine az_iconst (v := nI 0) dX5_readTruth_6 ?_
    refine az_istore_n (ls' := [(0, .ref q), (1, .int (nI dp)), (2, .int (nI 0)), (3, .int (nI 0))]) dX5_readTruth_7 ?_
    first | exact bad _ 0 f1 p1 h1 hE1 (hQ h1 hE1 hf1) rfl (by omega) | exact loop _ 0 e1 c1 h1 hS1 hf1 hQ rfl (Nat.zero_le _) hg1.2.2 hg1.1
set_option maxHeartbeats 8000000 in
set_option maxRecDepth 100000 in
theorem s_readSum {D tx n r dp : Nat} {b : Nat → Nat} {L : rd_P × rd_P × rd_P} (h8 : 8 ≤ D) (hGF : rd_G n (rd_tm b n r L)) (hA : rd_CM mX5_readTerm (rd_tm b n r L) D tx n b dp) : rd_CM mX5_readSum (rd_sm b n r L) (D + 1) tx n b dp := by
  intro d q e0 c0 hp Q hd hS0 hQ
  obtain ⟨va0, hW0, hce0, hv0⟩ := id hS0
  obtain ⟨hX0, he0, hc0, cf0, ol0, g0, -⟩ := id hW0
  have hn9 := hX0.2.1
  have bad : ∀ (k : Nat) (i f9 p9 : Nat) (h' : az_Hp) (hE9 : rd_Er h' q tx n b f9 p9 e0 c0.length) (hQb : Q (some (.int (nI 0))) h'), 0 = k → (i ≤ 901) → az_W mX5_readSum d 0 0 8 [(0, .ref q), (1, .int (nI dp)), (2, .int (nI 0)), (3, .int (nI i))] [] h' Q := by
    intro k
    induction k using Nat.strongRecOn with
    | _ k ih =>
    intro i f9 p9 h' hE9 hQb hk hi9
    obtain ⟨hX9, ki9, aa9, zz9, va9, m9, cf9, ol9, g9, -⟩ := id hE9
    refine az_iload_n dX5_readSum_8 ?_
    refine az_aload_n dX5_readSum_9 ?_
    refine az_getf (v := .int (nI n)) dX5_readSum_10 fl_X5_35 g9 ?_
    refine az_icmp_geN (tgt := 78) dX5_readSum_13 (fun c13 => ?_) (fun c13 => ?_)
    · refine az_iload_n dX5_readSum_78 ?_
      exact az_iret dX5_readSum_79 (hQb)
    · refine az_iload_n dX5_readSum_16 ?_
      refine az_if_eqN (tgt := 78) dX5_readSum_17 (fun c17 => ?_) (fun c17 => ?_)
      · refine az_iload_n dX5_readSum_78 ?_
        exact az_iret dX5_readSum_79 (hQb)
      · exact absurd c17 (by omega)
  have loop : ∀ (k : Nat) (i e9 : Nat) (c9 : List Nat) (h' : az_Hp) (hS9 : rd_St h' q tx n b e9 c9) (hf9 : rd_f hp h' q) (hQ9 : rd_Q (rd_lp b n (rd_tm b n r L) (rd_ca b n) (n - i) e9 c9) e0 c0.length hp q tx n b Q), n - i = k → (i ≤ n) → (c9.length + e0 ≤ c0.length + e9) → (e0 ≤ e9) → az_W mX5_readSum d 0 0 8 [(0, .ref q), (1, .int (nI dp)), (2, .int (nI 1)), (3, .int (nI i))] [] h' Q := by
    intro k
    induction k using Nat.strongRecOn with
    | _ k ih =>
    intro i e9 c9 h' hS9 hf9 hQ9 hk hi9 hgl hge
    obtain ⟨va9, hW9, hce9, hv9⟩ := id hS9
    obtain ⟨hX9, he9, hc9, cf9, ol9, g9, -⟩ := id hW9
    refine az_iload_n dX5_readSum_8 ?_
    refine az_aload_n dX5_readSum_9 ?_
    refine az_getf (v := .int (nI n)) dX5_readSum_10 fl_X5_35 g9 ?_
    refine az_icmp_geN (tgt := 78) dX5_readSum_13 (fun c13 => ?_) (fun c13 => ?_)
    · refine az_iload_n dX5_readSum_78 ?_
      exact az_iret dX5_readSum_79 (by first | (rw [show n - i = 0 by omega] at hQ9; exact hQ9 h' hS9 hf9) | (rw [show n - i = (n - (i + 1)) + 1 by omega, rd_lp] at hQ9; dsimp only at hQ9; rw [if_pos (show rd_ca b n e9 = 0 by rw [rd_ca, if_neg hs0, if_neg hm0])] at hQ9; exact hQ9 h' hS9 hf9))
    · refine az_iload_n dX5_readSum_16 ?_
      refine az_if_eqN (tgt := 78) dX5_readSum_17 (fun c17 => ?_) (fun c17 => ?_)
      · exact absurd c17 (by omega)
      · refine az_aload_n dX5_readSum_20 ?_
        refine az_bipush (v := nI 43) dX5_readSum_21 ?_
        refine az_cV0 (st := []) dX5_readSum_23 ml_X5_169 g9 (s_isSign (d := d - 1) (x := 43) hW9 (by omega) ?_ ?_)
        · intro hs1
          refine az_if_neN (tgt := 38) dX5_readSum_26 (fun c26 => ?_) (fun c26 => ?_)
          · refine az_aload_n dX5_readSum_38 ?_
            refine az_bipush (v := nI 43) dX5_readSum_39 ?_
            refine az_cV0 (st := []) dX5_readSum_41 ml_X5_169 g9 (s_isSign (d := d - 1) (x := 43) hW9 (by omega) ?_ ?_)
            · intro hp1
              have hcd : rd_ca b n e9 = 3000 := if_pos hp1
              refine az_if_eqN (tgt := 52) dX5_readSum_44 (fun c44 => ?_) (fun c44 => ?_)
              · exact absurd c44 (by omega)
              · refine az_bipush (v := (-12)) dX5_readSum_47 ?_
                refine az_goto (tgt := 54) dX5_readSum_49 ?_
                refine az_istore (ls' := [(0, .ref q), (1, .int (nI dp)), (2, .int (nI 1)), (3, .int (nI i)), (4, .int ((-12)))]) dX5_readSum_54 ?_
                refine az_aload_n dX5_readSum_56 ?_
                refine az_cV0 (st := []) dX5_readSum_57 ml_X5_41 g9 (s_adv (d := d - 1) (by omega) hW9 ?_)
                intro h2 hS2 hf2
                obtain ⟨va2, hW2, hce2, hv2⟩ := id hS2
                obtain ⟨hX2, he2, hc2, cf2, ol2, g2, -⟩ := id hW2
                rw [show n - i = (n - (i + 1)) + 1 by omega, rd_lp] at hQ9
                dsimp only at hQ9
                rw [if_neg (show ¬ rd_ca b n e9 = 0 by rw [hcd]; decide), hcd] at hQ9
                have hkn := rd_ca_k (b := b) (n := n) e9 (by rw [hcd]; decide)
                have hel := rd_en_lt (b := b) he9 hkn
                refine az_aload_n dX5_readSum_60 ?_
                refine az_iload_n dX5_readSum_61 ?_
                refine az_cV0 (st := []) dX5_readSum_62 ml_X5_176 g2 (hA (d := d - 1) (by omega) hS2 (rd_Q.i ?_ ?_))
                · intro e3 c3 hq3 h3 hS3 hf3
                  obtain ⟨va3, hW3, hce3, hv3⟩ := id hS3
                  obtain ⟨hX3, he3, hc3, cf3, ol3, g3, -⟩ := id hW3
                  rw [hq3, rd_b_l] at hQ9
                  have hg3 := hGF _ _ _ _ hel.2.2 hq3
                  refine az_istore_n (ls' := [(0, .ref q), (1, .int (nI dp)), (2, .int (nI 1)), (3, .int (nI i)), (4, .int ((-12)))]) dX5_readSum_65 ?_
                  refine az_aload_n dX5_readSum_66 ?_
                  refine az_iload dX5_readSum_67 ?_
                  first | exact az_cV0 (st := []) (av := [.int (-12)]) dX5_readSum_69 ml_X5_155 g3 (s_encodeE (d := d - 1) (k1 := e0) (k2 := c0.length) (hE3.mono (by omega)) (fun h4 hE4 hf4 => az_iincN (n := 1) (ls' := [(0, .ref q), (1, .int (nI dp)), (2, .int (nI 0)), (3, .int (nI (i + 1))), (4, .int (-12))]) dX5_readSum_72 (az_goto (tgt := 8) dX5_readSum_75 (az_W.keep (ls' := [(0, .ref q), (1, .int (nI dp)), (2, .int (nI 0)), (3, .int (nI (i + 1)))]) [0, 1, 2, 3] rfl (bad _ (i + 1) f3 p3 h4 hE4 (hQ9 h4 hE4 (((hf9.tr hf2).tr hf3).tr hf4)) rfl (by omega)))))) | exact az_cV0 (st := []) (av := [.int (-13)]) dX5_readSum_69 ml_X5_155 g3 (s_encodeE (d := d - 1) (k1 := e0) (k2 := c0.length) (hE3.mono (by omega)) (fun h4 hE4 hf4 => az_iincN (n := 1) (ls' := [(0, .ref q), (1, .int (nI dp)), (2, .int (nI 0)), (3, .int (nI (i + 1))), (4, .int (-13))]) dX5_readSum_72 (az_goto (tgt := 8) dX5_readSum_75 (az_W.keep (ls' := [(0, .ref q), (1, .int (nI dp)), (2, .int (nI 0)), (3, .int (nI (i + 1)))]) [0, 1, 2, 3] rfl (bad _ (i + 1) f3 p3 h4 hE4 (hQ9 h4 hE4 (((hf9.tr hf2).tr hf3).tr hf4)) rfl (by omega)))))) | exact az_cV0 (st := []) (av := [.int (-12)]) dX5_readSum_69 ml_X5_155 g3 (s_encodeS (d := d - 1) (x := 3000) hS3 (by omega) (fun h4 hS4 hf4 => az_iincN (n := 1) (ls' := [(0, .ref q), (1, .int (nI dp)), (2, .int (nI 1)), (3, .int (nI (i + 1))), (4, .int (-12))]) dX5_readSum_72 (az_goto (tgt := 8) dX5_readSum_75 (az_W.keep (ls' := [(0, .ref q), (1, .int (nI dp)), (2, .int (nI 1)), (3, .int (nI (i + 1)))]) [0, 1, 2, 3] rfl (ih _ (by omega) (i + 1) e3 (c3 ++ [3000]) h4 hS4 (((hf9.tr hf2).tr hf3).tr hf4) hQ9 rfl (by omega) (by rw [List.length_append, List.length_singleton]; omega) (by omega)))))) | exact az_cV0 (st := []) (av := [.int (-13)]) dX5_readSum_69 ml_X5_155 g3 (s_encodeS (d := d - 1) (x := 3001) hS3 (by omega) (fun h4 hS4 hf4 => az_iincN (n := 1) (ls' := [(0, .ref q), (1, .int (nI dp)), (2, .int (nI 1)), (3, .int (nI (i + 1))), (4, .int (-13))]) dX5_readSum_72 (az_goto (tgt := 8) dX5_readSum_75 (az_W.keep (ls' := [(0, .ref q), (1, .int (nI dp)), (2, .int (nI 1)), (3, .int (nI (i + 1)))]) [0, 1, 2, 3] rfl (ih _ (by omega) (i + 1) e3 (c3 ++ [3001]) h4 hS4 (((hf9.tr hf2).tr hf3).tr hf4) hQ9 rfl (by omega) (by rw [List.length_append, List.length_singleton]; omega) (by omega))))))
                · intro f3 p3 hq3 h3 hE3 hf3
                  obtain ⟨hX3, ki3, aa3, zz3, va3, m3, cf3, ol3, g3, -⟩ := id hE3
                  rw [hq3] at hQ9
                  refine az_istore_n (ls' := [(0, .ref q), (1, .int (nI dp)), (2, .int (nI 0)), (3, .int (nI i)), (4, .int ((-12)))]) dX5_readSum_65 ?_
                  refine az_aload_n dX5_readSum_66 ?_
                  refine az_iload dX5_readSum_67 ?_
                  first | exact az_cV0 (st := []) (av := [.int (-12)]) dX5_readSum_69 ml_X5_155 g3 (s_encodeE (d := d - 1) (k1 := e0) (k2 := c0.length) (hE3.mono (by omega)) (fun h4 hE4 hf4 => az_iincN (n := 1) (ls' := [(0, .ref q), (1, .int (nI dp)), (2, .int (nI 0)), (3, .int (nI (i + 1))), (4, .int (-12))]) dX5_readSum_72 (az_goto (tgt := 8) dX5_readSum_75 (az_W.keep (ls' := [(0, .ref q), (1, .int (nI dp)), (2, .int (nI 0)), (3, .int (nI (i + 1)))]) [0, 1, 2, 3] rfl (bad _ (i + 1) f3 p3 h4 hE4 (hQ9 h4 hE4 (((hf9.tr hf2).tr hf3).tr hf4)) rfl (by omega)))))) | exact az_cV0 (st := []) (av := [.int (-13)]) dX5_readSum_69 ml_X5_155 g3 (s_encodeE (d := d - 1) (k1 := e0) (k2 := c0.length) (hE3.mono (by omega)) (fun h4 hE4 hf4 => az_iincN (n := 1) (ls' := [(0, .ref q), (1, .int (nI dp)), (2, .int (nI 0)), (3, .int (nI (i + 1))), (4, .int (-13))]) dX5_readSum_72 (az_goto (tgt := 8) dX5_readSum_75 (az_W.keep (ls' := [(0, .ref q), (1, .int (nI dp)), (2, .int (nI 0)), (3, .int (nI (i + 1)))]) [0, 1, 2, 3] rfl (bad _ (i + 1) f3 p3 h4 hE4 (hQ9 h4 hE4 (((hf9.tr hf2).tr hf3).tr hf4)) rfl (by omega)))))) | exact az_cV0 (st := []) (av := [.int (-12)]) dX5_readSum_69 ml_X5_155 g3 (s_encodeS (d := d - 1) (x := 3000) hS3 (by omega) (fun h4 hS4 hf4 => az_iincN (n := 1) (ls' := [(0, .ref q), (1, .int (nI dp)), (2, .int (nI 1)), (3, .int (nI (i + 1))), (4, .int (-12))]) dX5_readSum_72 (az_goto (tgt := 8) dX5_readSum_75 (az_W.keep (ls' := [(0, .ref q), (1, .int (nI dp)), (2, .int (nI 1)), (3, .int (nI (i + 1)))]) [0, 1, 2, 3] rfl (ih _ (by omega) (i + 1) e3 (c3 ++ [3000]) h4 hS4 (((hf9.tr hf2).tr hf3).tr hf4) hQ9 rfl (by omega) (by rw [List.length_append, List.length_singleton]; omega) (by omega)))))) | exact az_cV0 (st := []) (av := [.int (-13)]) dX5_readSum_69 ml_X5_155 g3 (s_encodeS (d := d - 1) (x := 3001) hS3 (by omega) (fun h4 hS4 hf4 => az_iincN (n := 1) (ls' := [(0, .ref q), (1, .int (nI dp)), (2, .int (nI 1)), (3, .int (nI (i + 1))), (4, .int (-13))]) dX5_readSum_72 (az_goto (tgt := 8) dX5_readSum_75 (az_W.keep (ls' := [(0, .ref q), (1, .int (nI dp)), (2, .int (nI 1)), (3, .int (nI (i + 1)))]) [0, 1, 2, 3] rfl (ih _ (by omega) (i + 1) e3 (c3 ++ [3001]) h4 hS4 (((hf9.tr hf2).tr hf3).tr hf4) hQ9 rfl (by omega) (by rw [List.length_append, List.length_singleton]; omega) (by omega))))))
            · intro hp0
              have hcd : rd_ca b n e9 = 3001 := (by first | exact absurd hs1 hp0 | (rw [rd_ca, if_neg hp0, if_pos hm1]))
              refine az_if_eqN (tgt := 52) dX5_readSum_44 (fun c44 => ?_) (fun c44 => ?_)
              · refine az_bipush (v := (-13)) dX5_readSum_52 ?_
                refine az_istore (ls' := [(0, .ref q), (1, .int (nI dp)), (2, .int (nI 1)), (3, .int (nI i)), (4, .int ((-13)))]) dX5_readSum_54 ?_
                refine az_aload_n dX5_readSum_56 ?_
                refine az_cV0 (st := []) dX5_readSum_57 ml_X5_41 g9 (s_adv (d := d - 1) (by omega) hW9 ?_)
                intro h2 hS2 hf2
                obtain ⟨va2, hW2, hce2, hv2⟩ := id hS2
                obtain ⟨hX2, he2, hc2, cf2, ol2, g2, -⟩ := id hW2
                rw [show n - i = (n - (i + 1)) + 1 by omega, rd_lp] at hQ9
                dsimp only at hQ9
                rw [if_neg (show ¬ rd_ca b n e9 = 0 by rw [hcd]; decide), hcd] at hQ9
                have hkn := rd_ca_k (b := b) (n := n) e9 (by rw [hcd]; decide)
                have hel := rd_en_lt (b := b) he9 hkn
                refine az_aload_n dX5_readSum_60 ?_
                refine az_iload_n dX5_readSum_61 ?_
                refine az_cV0 (st := []) dX5_readSum_62 ml_X5_176 g2 (hA (d := d - 1) (by omega) hS2 (rd_Q.i ?_ ?_))
                · intro e3 c3 hq3 h3 hS3 hf3
                  obtain ⟨va3, hW3, hce3, hv3⟩ := id hS3
                  obtain ⟨hX3, he3, hc3, cf3, ol3, g3, -⟩ := id hW3
                  rw [hq3, rd_b_l] at hQ9
                  have hg3 := hGF _ _ _ _ hel.2.2 hq3
                  refine az_istore_n (ls' := [(0, .ref q), (1, .int (nI dp)), (2, .int (nI 1)), (3, .int (nI i)), (4, .int ((-13)))]) dX5_readSum_65 ?_
                  refine az_aload_n dX5_readSum_66 ?_
                  refine az_iload dX5_readSum_67 ?_
                  first | exact az_cV0 (st := []) (av := [.int (-12)]) dX5_readSum_69 ml_X5_155 g3 (s_encodeE (d := d - 1) (k1 := e0) (k2 := c0.length) (hE3.mono (by omega)) (fun h4 hE4 hf4 => az_iincN (n := 1) (ls' := [(0, .ref q), (1, .int (nI dp)), (2, .int (nI 0)), (3, .int (nI (i + 1))), (4, .int (-12))]) dX5_readSum_72 (az_goto (tgt := 8) dX5_readSum_75 (az_W.keep (ls' := [(0, .ref q), (1, .int (nI dp)), (2, .int (nI 0)), (3, .int (nI (i + 1)))]) [0, 1, 2, 3] rfl (bad _ (i + 1) f3 p3 h4 hE4 (hQ9 h4 hE4 (((hf9.tr hf2).tr hf3).tr hf4)) rfl (by omega)))))) | exact az_cV0 (st := []) (av := [.int (-13)]) dX5_readSum_69 ml_X5_155 g3 (s_encodeE (d := d - 1) (k1 := e0) (k2 := c0.length) (hE3.mono (by omega)) (fun h4 hE4 hf4 => az_iincN (n := 1) (ls' := [(0, .ref q), (1, .int (nI dp)), (2, .int (nI 0)), (3, .int (nI (i + 1))), (4, .int (-13))]) dX5_readSum_72 (az_goto (tgt := 8) dX5_readSum_75 (az_W.keep (ls' := [(0, .ref q), (1, .int (nI dp)), (2, .int (nI 0)), (3, .int (nI (i + 1)))]) [0, 1, 2, 3] rfl (bad _ (i + 1) f3 p3 h4 hE4 (hQ9 h4 hE4 (((hf9.tr hf2).tr hf3).tr hf4)) rfl (by omega)))))) | exact az_cV0 (st := []) (av := [.int (-12)]) dX5_readSum_69 ml_X5_155 g3 (s_encodeS (d := d - 1) (x := 3000) hS3 (by omega) (fun h4 hS4 hf4 => az_iincN (n := 1) (ls' := [(0, .ref q), (1, .int (nI dp)), (2, .int (nI 1)), (3, .int (nI (i + 1))), (4, .int (-12))]) dX5_readSum_72 (az_goto (tgt := 8) dX5_readSum_75 (az_W.keep (ls' := [(0, .ref q), (1, .int (nI dp)), (2, .int (nI 1)), (3, .int (nI (i + 1)))]) [0, 1, 2, 3] rfl (ih _ (by omega) (i + 1) e3 (c3 ++ [3000]) h4 hS4 (((hf9.tr hf2).tr hf3).tr hf4) hQ9 rfl (by omega) (by rw [List.length_append, List.length_singleton]; omega) (by omega)))))) | exact az_cV0 (st := []) (av := [.int (-13)]) dX5_readSum_69 ml_X5_155 g3 (s_encodeS (d := d - 1) (x := 3001) hS3 (by omega) (fun h4 hS4 hf4 => az_iincN (n := 1) (ls' := [(0, .ref q), (1, .int (nI dp)), (2, .int (nI 1)), (3, .int (nI (i + 1))), (4, .int (-13))]) dX5_readSum_72 (az_goto (tgt := 8) dX5_readSum_75 (az_W.keep (ls' := [(0, .ref q), (1, .int (nI dp)), (2, .int (nI 1)), (3, .int (nI (i + 1)))]) [0, 1, 2, 3] rfl (ih _ (by omega) (i + 1) e3 (c3 ++ [3001]) h4 hS4 (((hf9.tr hf2).tr hf3).tr hf4) hQ9 rfl (by omega) (by rw [List.length_append, List.length_singleton]; omega) (by omega))))))
                · intro f3 p3 hq3 h3 hE3 hf3
                  obtain ⟨hX3, ki3, aa3, zz3, va3, m3, cf3, ol3, g3, -⟩ := id hE3
                  rw [hq3] at hQ9
                  refine az_istore_n (ls' := [(0, .ref q), (1, .int (nI dp)), (2, .int (nI 0)), (3, .int (nI i)), (4, .int ((-13)))]) dX5_readSum_65 ?_
                  refine az_aload_n dX5_readSum_66 ?_
                  refine az_iload dX5_readSum_67 ?_
                  first | exact az_cV0 (st := []) (av := [.int (-12)]) dX5_readSum_69 ml_X5_155 g3 (s_encodeE (d := d - 1) (k1 := e0) (k2 := c0.length) (hE3.mono (by omega)) (fun h4 hE4 hf4 => az_iincN (n := 1) (ls' := [(0, .ref q), (1, .int (nI dp)), (2, .int (nI 0)), (3, .int (nI (i + 1))), (4, .int (-12))]) dX5_readSum_72 (az_goto (tgt := 8) dX5_readSum_75 (az_W.keep (ls' := [(0, .ref q), (1, .int (nI dp)), (2, .int (nI 0)), (3, .int (nI (i + 1)))]) [0, 1, 2, 3] rfl (bad _ (i + 1) f3 p3 h4 hE4 (hQ9 h4 hE4 (((hf9.tr hf2).tr hf3).tr hf4)) rfl (by omega)))))) | exact az_cV0 (st := []) (av := [.int (-13)]) dX5_readSum_69 ml_X5_155 g3 (s_encodeE (d := d - 1) (k1 := e0) (k2 := c0.length) (hE3.mono (by omega)) (fun h4 hE4 hf4 => az_iincN (n := 1) (ls' := [(0, .ref q), (1, .int (nI dp)), (2, .int (nI 0)), (3, .int (nI (i + 1))), (4, .int (-13))]) dX5_readSum_72 (az_goto (tgt := 8) dX5_readSum_75 (az_W.keep (ls' := [(0, .ref q), (1, .int (nI dp)), (2, .int (nI 0)), (3, .int (nI (i + 1)))]) [0, 1, 2, 3] rfl (bad _ (i + 1) f3 p3 h4 hE4 (hQ9 h4 hE4 (((hf9.tr hf2).tr hf3).tr hf4)) rfl (by omega)))))) | exact az_cV0 (st := []) (av := [.int (-12)]) dX5_readSum_69 ml_X5_155 g3 (s_encodeS (d := d - 1) (x := 3000) hS3 (by omega) (fun h4 hS4 hf4 => az_iincN (n := 1) (ls' := [(0, .ref q), (1, .int (nI dp)), (2, .int (nI 1)), (3, .int (nI (i + 1))), (4, .int (-12))]) dX5_readSum_72 (az_goto (tgt := 8) dX5_readSum_75 (az_W.keep (ls' := [(0, .ref q), (1, .int (nI dp)), (2, .int (nI 1)), (3, .int (nI (i + 1)))]) [0, 1, 2, 3] rfl (ih _ (by omega) (i + 1) e3 (c3 ++ [3000]) h4 hS4 (((hf9.tr hf2).tr hf3).tr hf4) hQ9 rfl (by omega) (by rw [List.length_append, List.length_singleton]; omega) (by omega)))))) | exact az_cV0 (st := []) (av := [.int (-13)]) dX5_readSum_69 ml_X5_155 g3 (s_encodeS (d := d - 1) (x := 3001) hS3 (by omega) (fun h4 hS4 hf4 => az_iincN (n := 1) (ls' := [(0, .ref q), (1, .int (nI dp)), (2, .int (nI 1)), (3, .int (nI (i + 1))), (4, .int (-13))]) dX5_readSum_72 (az_goto (tgt := 8) dX5_readSum_75 (az_W.keep (ls' := [(0, .ref q), (1, .int (nI dp)), (2, .int (nI 1)), (3, .int (nI (i + 1)))]) [0, 1, 2, 3] rfl (ih _ (by omega) (i + 1) e3 (c3 ++ [3001]) h4 hS4 (((hf9.tr hf2).tr hf3).tr hf4) hQ9 rfl (by omega) (by rw [List.length_append, List.length_singleton]; omega) (by omega))))))
              · exact absurd c44 (by omega)
          · exact absurd c26 (by omega)
        · intro hs0
          refine az_if_neN (tgt := 38) dX5_readSum_26 (fun c26 => ?_) (fun c26 => ?_)
          · exact absurd c26 (by omega)
          · refine az_aload_n dX5_readSum_29 ?_
            refine az_bipush (v := nI 45) dX5_readSum_30 ?_
            refine az_cV0 (st := []) dX5_readSum_32 ml_X5_169 g9 (s_isSign (d := d - 1) (x := 45) hW9 (by omega) ?_ ?_)
            · intro hm1
              refine az_if_eqN (tgt := 78) dX5_readSum_35 (fun c35 => ?_) (fun c35 => ?_)
              · exact absurd c35 (by omega)
              · refine az_aload_n dX5_readSum_38 ?_
                refine az_bipush (v := nI 43) dX5_readSum_39 ?_
                refine az_cV0 (st := []) dX5_readSum_41 ml_X5_169 g9 (s_isSign (d := d - 1) (x := 43) hW9 (by omega) ?_ ?_)
                · intro hp1
                  have hcd : rd_ca b n e9 = 3000 := if_pos hp1
                  refine az_if_eqN (tgt := 52) dX5_readSum_44 (fun c44 => ?_) (fun c44 => ?_)
                  · exact absurd c44 (by omega)
                  · refine az_bipush (v := (-12)) dX5_readSum_47 ?_
                    refine az_goto (tgt := 54) dX5_readSum_49 ?_
                    refine az_istore (ls' := [(0, .ref q), (1, .int (nI dp)), (2, .int (nI 1)), (3, .int (nI i)), (4, .int ((-12)))]) dX5_readSum_54 ?_
                    refine az_aload_n dX5_readSum_56 ?_
                    refine az_cV0 (st := []) dX5_readSum_57 ml_X5_41 g9 (s_adv (d := d - 1) (by omega) hW9 ?_)
                    intro h2 hS2 hf2
                    obtain ⟨va2, hW2, hce2, hv2⟩ := id hS2
                    obtain ⟨hX2, he2, hc2, cf2, ol2, g2, -⟩ := id hW2
                    rw [show n - i = (n - (i + 1)) + 1 by omega, rd_lp] at hQ9
                    dsimp only at hQ9
                    rw [if_neg (show ¬ rd_ca b n e9 = 0 by rw [hcd]; decide), hcd] at hQ9
                    have hkn := rd_ca_k (b := b) (n := n) e9 (by rw [hcd]; decide)
                    have hel := rd_en_lt (b := b) he9 hkn
                    refine az_aload_n dX5_readSum_60 ?_
                    refine az_iload_n dX5_readSum_61 ?_
                    refine az_cV0 (st := []) dX5_readSum_62 ml_X5_176 g2 (hA (d := d - 1) (by omega) hS2 (rd_Q.i ?_ ?_))
                    · intro e3 c3 hq3 h3 hS3 hf3
                      obtain ⟨va3, hW3, hce3, hv3⟩ := id hS3
                      obtain ⟨hX3, he3, hc3, cf3, ol3, g3, -⟩ := id hW3
                      rw [hq3, rd_b_l] at hQ9
                      have hg3 := hGF _ _ _ _ hel.2.2 hq3
                      refine az_istore_n (ls' := [(0, .ref q), (1, .int (nI dp)), (2, .int (nI 1)), (3, .int (nI i)), (4, .int ((-12)))]) dX5_readSum_65 ?_
                      refine az_aload_n dX5_readSum_66 ?_
                      refine az_iload dX5_readSum_67 ?_
                      first | exact az_cV0 (st := []) (av := [.int (-12)]) dX5_readSum_69 ml_X5_155 g3 (s_encodeE (d := d - 1) (k1 := e0) (k2 := c0.length) (hE3.mono (by omega)) (fun h4 hE4 hf4 => az_iincN (n := 1) (ls' := [(0, .ref q), (1, .int (nI dp)), (2, .int (nI 0)), (3, .int (nI (i + 1))), (4, .int (-12))]) dX5_readSum_72 (az_goto (tgt := 8) dX5_readSum_75 (az_W.keep (ls' := [(0, .ref q), (1, .int (nI dp)), (2, .int (nI 0)), (3, .int (nI (i + 1)))]) [0, 1, 2, 3] rfl (bad _ (i + 1) f3 p3 h4 hE4 (hQ9 h4 hE4 (((hf9.tr hf2).tr hf3).tr hf4)) rfl (by omega)))))) | exact az_cV0 (st := []) (av := [.int (-13)]) dX5_readSum_69 ml_X5_155 g3 (s_encodeE (d := d - 1) (k1 := e0) (k2 := c0.length) (hE3.mono (by omega)) (fun h4 hE4 hf4 => az_iincN (n := 1) (ls' := [(0, .ref q), (1, .int (nI dp)), (2, .int (nI 0)), (3, .int (nI (i + 1))), (4, .int (-13))]) dX5_readSum_72 (az_goto (tgt := 8) dX5_readSum_75 (az_W.keep (ls' := [(0, .ref q), (1, .int (nI dp)), (2, .int (nI 0)), (3, .int (nI (i + 1)))]) [0, 1, 2, 3] rfl (bad _ (i + 1) f3 p3 h4 hE4 (hQ9 h4 hE4 (((hf9.tr hf2).tr hf3).tr hf4)) rfl (by omega)))))) | exact az_cV0 (st := []) (av := [.int (-12)]) dX5_readSum_69 ml_X5_155 g3 (s_encodeS (d := d - 1) (x := 3000) hS3 (by omega) (fun h4 hS4 hf4 => az_iincN (n := 1) (ls' := [(0, .ref q), (1, .int (nI dp)), (2, .int (nI 1)), (3, .int (nI (i + 1))), (4, .int (-12))]) dX5_readSum_72 (az_goto (tgt := 8) dX5_readSum_75 (az_W.keep (ls' := [(0, .ref q), (1, .int (nI dp)), (2, .int (nI 1)), (3, .int (nI (i + 1)))]) [0, 1, 2, 3] rfl (ih _ (by omega) (i + 1) e3 (c3 ++ [3000]) h4 hS4 (((hf9.tr hf2).tr hf3).tr hf4) hQ9 rfl (by omega) (by rw [List.length_append, List.length_singleton]; omega) (by omega)))))) | exact az_cV0 (st := []) (av := [.int (-13)]) dX5_readSum_69 ml_X5_155 g3 (s_encodeS (d := d - 1) (x := 3001) hS3 (by omega) (fun h4 hS4 hf4 => az_iincN (n := 1) (ls' := [(0, .ref q), (1, .int (nI dp)), (2, .int (nI 1)), (3, .int (nI (i + 1))), (4, .int (-13))]) dX5_readSum_72 (az_goto (tgt := 8) dX5_readSum_75 (az_W.keep (ls' := [(0, .ref q), (1, .int (nI dp)), (2, .int (nI 1)), (3, .int (nI (i + 1)))]) [0, 1, 2, 3] rfl (ih _ (by omega) (i + 1) e3 (c3 ++ [3001]) h4 hS4 (((hf9.tr hf2).tr hf3).tr hf4) hQ9 rfl (by omega) (by rw [List.length_append, List.length_singleton]; omega) (by omega))))))
                    · intro f3 p3 hq3 h3 hE3 hf3
                      obtain ⟨hX3, ki3, aa3, zz3, va3, m3, cf3, ol3, g3, -⟩ := id hE3
                      rw [hq3] at hQ9
                      refine az_istore_n (ls' := [(0, .ref q), (1, .int (nI dp)), (2, .int (nI 0)), (3, .int (nI i)), (4, .int ((-12)))]) dX5_readSum_65 ?_
                      refine az_aload_n dX5_readSum_66 ?_
                      refine az_iload dX5_readSum_67 ?_
                      first | exact az_cV0 (st := []) (av := [.int (-12)]) dX5_readSum_69 ml_X5_155 g3 (s_encodeE (d := d - 1) (k1 := e0) (k2 := c0.length) (hE3.mono (by omega)) (fun h4 hE4 hf4 => az_iincN (n := 1) (ls' := [(0, .ref q), (1, .int (nI dp)), (2, .int (nI 0)), (3, .int (nI (i + 1))), (4, .int (-12))]) dX5_readSum_72 (az_goto (tgt := 8) dX5_readSum_75 (az_W.keep (ls' := [(0, .ref q), (1, .int (nI dp)), (2, .int (nI 0)), (3, .int (nI (i + 1)))]) [0, 1, 2, 3] rfl (bad _ (i + 1) f3 p3 h4 hE4 (hQ9 h4 hE4 (((hf9.tr hf2).tr hf3).tr hf4)) rfl (by omega)))))) | exact az_cV0 (st := []) (av := [.int (-13)]) dX5_readSum_69 ml_X5_155 g3 (s_encodeE (d := d - 1) (k1 := e0) (k2 := c0.length) (hE3.mono (by omega)) (fun h4 hE4 hf4 => az_iincN (n := 1) (ls' := [(0, .ref q), (1, .int (nI dp)), (2, .int (nI 0)), (3, .int (nI (i + 1))), (4, .int (-13))]) dX5_readSum_72 (az_goto (tgt := 8) dX5_readSum_75 (az_W.keep (ls' := [(0, .ref q), (1, .int (nI dp)), (2, .int (nI 0)), (3, .int (nI (i + 1)))]) [0, 1, 2, 3] rfl (bad _ (i + 1) f3 p3 h4 hE4 (hQ9 h4 hE4 (((hf9.tr hf2).tr hf3).tr hf4)) rfl (by omega)))))) | exact az_cV0 (st := []) (av := [.int (-12)]) dX5_readSum_69 ml_X5_155 g3 (s_encodeS (d := d - 1) (x := 3000) hS3 (by omega) (fun h4 hS4 hf4 => az_iincN (n := 1) (ls' := [(0, .ref q), (1, .int (nI dp)), (2, .int (nI 1)), (3, .int (nI (i + 1))), (4, .int (-12))]) dX5_readSum_72 (az_goto (tgt := 8) dX5_readSum_75 (az_W.keep (ls' := [(0, .ref q), (1, .int (nI dp)), (2, .int (nI 1)), (3, .int (nI (i + 1)))]) [0, 1, 2, 3] rfl (ih _ (by omega) (i + 1) e3 (c3 ++ [3000]) h4 hS4 (((hf9.tr hf2).tr hf3).tr hf4) hQ9 rfl (by omega) (by rw [List.length_append, List.length_singleton]; omega) (by omega)))))) | exact az_cV0 (st := []) (av := [.int (-13)]) dX5_readSum_69 ml_X5_155 g3 (s_encodeS (d := d - 1) (x := 3001) hS3 (by omega) (fun h4 hS4 hf4 => az_iincN (n := 1) (ls' := [(0, .ref q), (1, .int (nI dp)), (2, .int (nI 1)), (3, .int (nI (i + 1))), (4, .int (-13))]) dX5_readSum_72 (az_goto (tgt := 8) dX5_readSum_75 (az_W.keep (ls' := [(0, .ref q), (1, .int (nI dp)), (2, .int (nI 1)), (3, .int (nI (i + 1)))]) [0, 1, 2, 3] rfl (ih _ (by omega) (i + 1) e3 (c3 ++ [3001]) h4 hS4 (((hf9.tr hf2).tr hf3).tr hf4) hQ9 rfl (by omega) (by rw [List.length_append, List.length_singleton]; omega) (by omega))))))
                · intro hp0
                  have hcd : rd_ca b n e9 = 3001 := (by first | exact absurd hs1 hp0 | (rw [rd_ca, if_neg hp0, if_pos hm1]))
                  refine az_if_eqN (tgt := 52) dX5_readSum_44 (fun c44 => ?_) (fun c44 => ?_)
                  · refine az_bipush (v := (-13)) dX5_readSum_52 ?_
                    refine az_istore (ls' := [(0, .ref q), (1, .int (nI dp)), (2, .int (nI 1)), (3, .int (nI i)), (4, .int ((-13)))]) dX5_readSum_54 ?_
                    refine az_aload_n dX5_readSum_56 ?_
                    refine az_cV0 (st := []) dX5_readSum_57 ml_X5_41 g9 (s_adv (d := d - 1) (by omega) hW9 ?_)
                    intro h2 hS2 hf2
                    obtain ⟨va2, hW2, hce2, hv2⟩ := id hS2
                    obtain ⟨hX2, he2, hc2, cf2, ol2, g2, -⟩ := id hW2
                    rw [show n - i = (n - (i + 1)) + 1 by omega, rd_lp] at hQ9
                    dsimp only at hQ9
                    rw [if_neg (show ¬ rd_ca b n e9 = 0 by rw [hcd]; decide), hcd] at hQ9
                    have hkn := rd_ca_k (b := b) (n := n) e9 (by rw [hcd]; decide)
                    have hel := rd_en_lt (b := b) he9 hkn
                    refine az_aload_n dX5_readSum_60 ?_
                    refine az_iload_n dX5_readSum_61 ?_
                    refine az_cV0 (st := []) dX5_readSum_62 ml_X5_176 g2 (hA (d := d - 1) (by omega) hS2 (rd_Q.i ?_ ?_))
                    · intro e3 c3 hq3 h3 hS3 hf3
                      obtain ⟨va3, hW3, hce3, hv3⟩ := id hS3
                      obtain ⟨hX3, he3, hc3, cf3, ol3, g3, -⟩ := id hW3
                      rw [hq3, rd_b_l] at hQ9
                      have hg3 := hGF _ _ _ _ hel.2.2 hq3
                      refine az_istore_n (ls' := [(0, .ref q), (1, .int (nI dp)), (2, .int (nI 1)), (3, .int (nI i)), (4, .int ((-13)))]) dX5_readSum_65 ?_
                      refine az_aload_n dX5_readSum_66 ?_
                      refine az_iload dX5_readSum_67 ?_
                      first | exact az_cV0 (st := []) (av := [.int (-12)]) dX5_readSum_69 ml_X5_155 g3 (s_encodeE (d := d - 1) (k1 := e0) (k2 := c0.length) (hE3.mono (by omega)) (fun h4 hE4 hf4 => az_iincN (n := 1) (ls' := [(0, .ref q), (1, .int (nI dp)), (2, .int (nI 0)), (3, .int (nI (i + 1))), (4, .int (-12))]) dX5_readSum_72 (az_goto (tgt := 8) dX5_readSum_75 (az_W.keep (ls' := [(0, .ref q), (1, .int (nI dp)), (2, .int (nI 0)), (3, .int (nI (i + 1)))]) [0, 1, 2, 3] rfl (bad _ (i + 1) f3 p3 h4 hE4 (hQ9 h4 hE4 (((hf9.tr hf2).tr hf3).tr hf4)) rfl (by omega)))))) | exact az_cV0 (st := []) (av := [.int (-13)]) dX5_readSum_69 ml_X5_155 g3 (s_encodeE (d := d - 1) (k1 := e0) (k2 := c0.length) (hE3.mono (by omega)) (fun h4 hE4 hf4 => az_iincN (n := 1) (ls' := [(0, .ref q), (1, .int (nI dp)), (2, .int (nI 0)), (3, .int (nI (i + 1))), (4, .int (-13))]) dX5_readSum_72 (az_goto (tgt := 8) dX5_readSum_75 (az_W.keep (ls' := [(0, .ref q), (1, .int (nI dp)), (2, .int (nI 0)), (3, .int (nI (i + 1)))]) [0, 1, 2, 3] rfl (bad _ (i + 1) f3 p3 h4 hE4 (hQ9 h4 hE4 (((hf9.tr hf2).tr hf3).tr hf4)) rfl (by omega)))))) | exact az_cV0 (st := []) (av := [.int (-12)]) dX5_readSum_69 ml_X5_155 g3 (s_encodeS (d := d - 1) (x := 3000) hS3 (by omega) (fun h4 hS4 hf4 => az_iincN (n := 1) (ls' := [(0, .ref q), (1, .int (nI dp)), (2, .int (nI 1)), (3, .int (nI (i + 1))), (4, .int (-12))]) dX5_readSum_72 (az_goto (tgt := 8) dX5_readSum_75 (az_W.keep (ls' := [(0, .ref q), (1, .int (nI dp)), (2, .int (nI 1)), (3, .int (nI (i + 1)))]) [0, 1, 2, 3] rfl (ih _ (by omega) (i + 1) e3 (c3 ++ [3000]) h4 hS4 (((hf9.tr hf2).tr hf3).tr hf4) hQ9 rfl (by omega) (by rw [List.length_append, List.length_singleton]; omega) (by omega)))))) | exact az_cV0 (st := []) (av := [.int (-13)]) dX5_readSum_69 ml_X5_155 g3 (s_encodeS (d := d - 1) (x := 3001) hS3 (by omega) (fun h4 hS4 hf4 => az_iincN (n := 1) (ls' := [(0, .ref q), (1, .int (nI dp)), (2, .int (nI 1)), (3, .int (nI (i + 1))), (4, .int (-13))]) dX5_readSum_72 (az_goto (tgt := 8) dX5_readSum_75 (az_W.keep (ls' := [(0, .ref q), (1, .int (nI dp)), (2, .int (nI 1)), (3, .int (nI (i + 1)))]) [0, 1, 2, 3] rfl (ih _ (by omega) (i + 1) e3 (c3 ++ [3001]) h4 hS4 (((hf9.tr hf2).tr hf3).tr hf4) hQ9 rfl (by omega) (by rw [List.length_append, List.length_singleton]; omega) (by omega))))))
                    · intro f3 p3 hq3 h3 hE3 hf3
                      obtain ⟨hX3, ki3, aa3, zz3, va3, m3, cf3, ol3, g3, -⟩ := id hE3
                      rw [hq3] at hQ9
                      refine az_istore_n (ls' := [(0, .ref q), (1, .int (nI dp)), (2, .int (nI 0)), (3, .int (nI i)), (4, .int ((-13)))]) dX5_readSum_65 ?_
                      refine az_aload_n dX5_readSum_66 ?_
                      refine az_iload dX5_readSum_67 ?_
                      first | exact az_cV0 (st := []) (av := [.int (-12)]) dX5_readSum_69 ml_X5_155 g3 (s_encodeE (d := d - 1) (k1 := e0) (k2 := c0.length) (hE3.mono (by omega)) (fun h4 hE4 hf4 => az_iincN (n := 1) (ls' := [(0, .ref q), (1, .int (nI dp)), (2, .int (nI 0)), (3, .int (nI (i + 1))), (4, .int (-12))]) dX5_readSum_72 (az_goto (tgt := 8) dX5_readSum_75 (az_W.keep (ls' := [(0, .ref q), (1, .int (nI dp)), (2, .int (nI 0)), (3, .int (nI (i + 1)))]) [0, 1, 2, 3] rfl (bad _ (i + 1) f3 p3 h4 hE4 (hQ9 h4 hE4 (((hf9.tr hf2).tr hf3).tr hf4)) rfl (by omega)))))) | exact az_cV0 (st := []) (av := [.int (-13)]) dX5_readSum_69 ml_X5_155 g3 (s_encodeE (d := d - 1) (k1 := e0) (k2 := c0.length) (hE3.mono (by omega)) (fun h4 hE4 hf4 => az_iincN (n := 1) (ls' := [(0, .ref q), (1, .int (nI dp)), (2, .int (nI 0)), (3, .int (nI (i + 1))), (4, .int (-13))]) dX5_readSum_72 (az_goto (tgt := 8) dX5_readSum_75 (az_W.keep (ls' := [(0, .ref q), (1, .int (nI dp)), (2, .int (nI 0)), (3, .int (nI (i + 1)))]) [0, 1, 2, 3] rfl (bad _ (i + 1) f3 p3 h4 hE4 (hQ9 h4 hE4 (((hf9.tr hf2).tr hf3).tr hf4)) rfl (by omega)))))) | exact az_cV0 (st := []) (av := [.int (-12)]) dX5_readSum_69 ml_X5_155 g3 (s_encodeS (d := d - 1) (x := 3000) hS3 (by omega) (fun h4 hS4 hf4 => az_iincN (n := 1) (ls' := [(0, .ref q), (1, .int (nI dp)), (2, .int (nI 1)), (3, .int (nI (i + 1))), (4, .int (-12))]) dX5_readSum_72 (az_goto (tgt := 8) dX5_readSum_75 (az_W.keep (ls' := [(0, .ref q), (1, .int (nI dp)), (2, .int (nI 1)), (3, .int (nI (i + 1)))]) [0, 1, 2, 3] rfl (ih _ (by omega) (i + 1) e3 (c3 ++ [3000]) h4 hS4 (((hf9.tr hf2).tr hf3).tr hf4) hQ9 rfl (by omega) (by rw [List.length_append, List.length_singleton]; omega) (by omega)))))) | exact az_cV0 (st := []) (av := [.int (-13)]) dX5_readSum_69 ml_X5_155 g3 (s_encodeS (d := d - 1) (x := 3001) hS3 (by omega) (fun h4 hS4 hf4 => az_iincN (n := 1) (ls' := [(0, .ref q), (1, .int (nI dp)), (2, .int (nI 1)), (3, .int (nI (i + 1))), (4, .int (-13))]) dX5_readSum_72 (az_goto (tgt := 8) dX5_readSum_75 (az_W.keep (ls' := [(0, .ref q), (1, .int (nI dp)), (2, .int (nI 1)), (3, .int (nI (i + 1)))]) [0, 1, 2, 3] rfl (ih _ (by omega) (i + 1) e3 (c3 ++ [3001]) h4 hS4 (((hf9.tr hf2).tr hf3).tr hf4) hQ9 rfl (by omega) (by rw [List.length_append, List.length_singleton]; omega) (by omega))))))
                  · exact absurd c44 (by omega)
            · intro hm0
              refine az_if_eqN (tgt := 78) dX5_readSum_35 (fun c35 => ?_) (fun c35 => ?_)
              · refine az_iload_n dX5_readSum_78 ?_
                exact az_iret dX5_readSum_79 (by first | (rw [show n - i = 0 by omega] at hQ9; exact hQ9 h' hS9 hf9) | (rw [show n - i = (n - (i + 1)) + 1 by omega, rd_lp] at hQ9; dsimp only at hQ9; rw [if_pos (show rd_ca b n e9 = 0 by rw [rd_ca, if_neg hs0, if_neg hm0])] at hQ9; exact hQ9 h' hS9 hf9))
              · exact absurd c35 (by omega)
  refine az_M.of rfl (Nat.le_of_ble_eq_true rfl) ?_
  show az_W _ _ _ _ 0 [(0, .ref q), (1, .int (nI dp))] [] _ _
  refine az_aload_n dX5_readSum_0 ?_
  refine az_iload_n dX5_readSum_1 ?_
  refine az_cV0 (st := []) dX5_readSum_2 ml_X5_176 g0 (hA (d := d - 1) (by omega) hS0 (rd_Q.i ?_ ?_))
  · intro e1 c1 hq1 h1 hS1 hf1
    obtain ⟨va1, hW1, hce1, hv1⟩ := id hS1
    obtain ⟨hX1, he1, hc1, cf1, ol1, g1, -⟩ := id hW1
    rw [rd_sm, hq1, rd_b_l] at hQ
    have hg1 := hGF _ _ _ _ he0 hq1
    refine az_istore_n (ls' := [(0, .ref q), (1, .int (nI dp)), (2, .int (nI 1))]) dX5_readSum_5 ?_
    refine az_iconst (v := nI 0) dX5_readSum_6 ?_
    refine az_istore_n (ls' := [(0, .ref q), (1, .int (nI dp)), (2, .int (nI 1)), (3, .int (nI 0))]) dX5_readSum_7 ?_
    first | exact bad _ 0 f1 p1 h1 hE1 (hQ h1 hE1 hf1) rfl (by omega) | exact loop _ 0 e1 c1 h1 hS1 hf1 hQ rfl (Nat.zero_le _) hg1.2.2 hg1.1
  · intro f1 p1 hq1 h1 hE1 hf1
    obtain ⟨hX1, ki1, aa1, zz1, va1, m1, cf1, ol1, g1, -⟩ := id hE1
    rw [rd_sm, hq1] at hQ
    refine az_istore_n (ls' := [(0, .ref q), (1, .int (nI dp)), (2, .int (nI 0))]) dX5_readSum_5 ?_
    refine az_iconst (v := nI 0) dX5_readSum_6 ?_
    refine az_istore_n (ls' := [(0, .ref q), (1, .int (nI dp)), (2, .int (nI 0)), (3, .int (nI 0))]) dX5_readSum_7 ?_
    first | exact bad _ 0 f1 p1 h1 hE1 (hQ h1 hE1 hf1) rfl (by omega) | exact loop _ 0 e1 c1 h1 hS1 hf1 hQ rfl (Nat.zero_le _) hg1.2.2 hg1.1
set_option maxHeartbeats 8000000 in
set_option maxRecDepth 100000 in
theorem s_readUnit {D tx n dp : Nat} {b : Nat → Nat} {L : rd_P × rd_P × rd_P} (h8 : 8 ≤ D) (hdp : dp ≤ 6) (hGL : rd_GL n L) (hU : dp < 6 → rd_CM mX5_readUnit L.2.1 D tx n b (dp + 1)) (hT : dp < 6 → rd_CM mX5_readTruth L.2.2 D tx n b (dp + 1)) (hM : rd_CM mX5_readSum (rd_sm b n (6 - dp) L) D tx n b dp) : rd_CM mX5_readUnit (rd_un b n (6 - dp) L) (D + 1) tx n b dp := by
  intro d q e0 c0 hp Q hd hS0 hQ
  obtain ⟨va0, hW0, hce0, hv0⟩ := id hS0
  obtain ⟨hX0, he0, hc0, cf0, ol0, g0, -⟩ := id hW0
  refine az_M.of rfl (Nat.le_of_ble_eq_true rfl) ?_
  show az_W _ _ _ _ 0 [(0, .ref q), (1, .int (nI dp))] [] _ _
  refine az_aload_n dX5_readUnit_0 ?_
  refine az_ldcS (k := 9) dX5_readUnit_1 rfl rfl rfl ?_
  refine az_cV0 (st := []) dX5_readUnit_3 ml_X5_87 g0 (s_isWord (d := d - 1) (k9 := 9) (r := ("LetterNights$Reader", 164, "not")) (by omega) rfl hW0 ?_ ?_)
  · intro hw1
    rw [rd_un, if_pos hw1] at hQ
    have hel := rd_en_lt (b := b) he0 (rd_isW_k hw1)
    refine az_if_eqN (tgt := 37) dX5_readUnit_6 (fun c6 => ?_) (fun c6 => ?_)
    · exact absurd c6 (by omega)
    · refine az_aload_n dX5_readUnit_9 ?_
      refine az_iload_n dX5_readUnit_10 ?_
      refine az_cV0 (st := []) dX5_readUnit_11 ml_X5_166 g0 (s_goDeeper (d := d - 1) (by omega) hdp hW0 (rd_Q.i ?_ ?_))
      · intro e1 c1 hq1 h1 hS1 hf1
        obtain ⟨va1, hW1, hce1, hv1⟩ := id hS1
        obtain ⟨hX1, he1, hc1, cf1, ol1, g1, -⟩ := id hW1
        rw [hq1, rd_b_l] at hQ
        obtain ⟨hgd, hge, hgc⟩ := rd_gd_lt hq1
        have hg1 := rd_G_gd b n (6 - dp) _ _ _ _ he0 hq1
        refine az_if_eqN (tgt := 27) dX5_readUnit_14 (fun c14 => ?_) (fun c14 => ?_)
        · exact absurd c14 (by omega)
        · refine az_aload_n dX5_readUnit_17 ?_
          refine az_iload_n dX5_readUnit_18 ?_
          refine az_iconst (v := nI 1) dX5_readUnit_19 ?_
          refine az_iaddN dX5_readUnit_20 ?_
          refine az_cV0 (st := []) dX5_readUnit_21 ml_X5_159 g1 (hU (by omega) (d := d - 1) (by omega) hS1 (rd_Q.i ?_ ?_))
          · intro e2 c2 hq2 h2 hS2 hf2
            obtain ⟨va2, hW2, hce2, hv2⟩ := id hS2
            obtain ⟨hX2, he2, hc2, cf2, ol2, g2, -⟩ := id hW2
            rw [hq2, rd_b_l] at hQ
            have hg2 := hGL.2.1 _ _ _ _ he1 hq2
            rw [rd_enc] at hQ
            refine az_if_neN (tgt := 29) dX5_readUnit_24 (fun c24 => ?_) (fun c24 => ?_)
            · refine az_aload_n dX5_readUnit_29 ?_
              refine az_bipush (v := (-10)) dX5_readUnit_30 ?_
              refine az_cV0 (st := []) dX5_readUnit_32 ml_X5_155 g2 (s_encodeS (d := d - 1) (x := 3006) hS2 (by rw [hgc] at hg2; omega) ?_)
              intro h9 hS9 hf9
              refine az_iconst (v := nI 1) dX5_readUnit_35 ?_
              exact az_iret dX5_readUnit_36 (hQ h9 hS9 ((hf1.tr hf2).tr hf9))
            · exact absurd c24 (by omega)
          · intro f2 p2 hq2 h2 hE2 hf2
            obtain ⟨hX2, ki2, aa2, zz2, va2, m2, cf2, ol2, g2, -⟩ := id hE2
            rw [hq2] at hQ
            refine az_if_neN (tgt := 29) dX5_readUnit_24 (fun c24 => ?_) (fun c24 => ?_)
            · exact absurd c24 (by omega)
            · refine az_iconst (v := nI 0) dX5_readUnit_27 ?_
              exact az_iret dX5_readUnit_28 (by first | exact hQ h2 (hE2.mono (by omega)) (hf1.tr hf2) | exact hQ h1 hE1 hf1)
      · intro f1 p1 hq1 h1 hE1 hf1
        obtain ⟨hX1, ki1, aa1, zz1, va1, m1, cf1, ol1, g1, -⟩ := id hE1
        rw [hq1] at hQ
        refine az_if_eqN (tgt := 27) dX5_readUnit_14 (fun c14 => ?_) (fun c14 => ?_)
        · refine az_iconst (v := nI 0) dX5_readUnit_27 ?_
          exact az_iret dX5_readUnit_28 (by first | exact hQ h2 (hE2.mono (by omega)) (hf1.tr hf2) | exact hQ h1 hE1 hf1)
        · exact absurd c14 (by omega)
  · intro hw0
    rw [rd_un, if_neg hw0] at hQ
    refine az_if_eqN (tgt := 37) dX5_readUnit_6 (fun c6 => ?_) (fun c6 => ?_)
    · refine az_aload_n dX5_readUnit_37 ?_
      refine az_bipush (v := nI 91) dX5_readUnit_38 ?_
      refine az_cV0 (st := []) dX5_readUnit_40 ml_X5_169 g0 (s_isSign (d := d - 1) (x := 91) hW0 (by omega) ?_ ?_)
      · intro hs1
        rw [if_pos hs1] at hQ
        refine az_if_eqN (tgt := 79) dX5_readUnit_43 (fun c43 => ?_) (fun c43 => ?_)
        · exact absurd c43 (by omega)
        · refine az_aload_n dX5_readUnit_46 ?_
          refine az_iload_n dX5_readUnit_47 ?_
          refine az_cV0 (st := []) dX5_readUnit_48 ml_X5_166 g0 (s_goDeeper (d := d - 1) (by omega) hdp hW0 (rd_Q.i ?_ ?_))
          · intro e1 c1 hq1 h1 hS1 hf1
            obtain ⟨va1, hW1, hce1, hv1⟩ := id hS1
            obtain ⟨hX1, he1, hc1, cf1, ol1, g1, -⟩ := id hW1
            rw [hq1, rd_b_l] at hQ
            have hgd := rd_gd_lt hq1
            have hg1 := rd_G_gd b n (6 - dp) _ _ _ _ he0 hq1
            refine az_if_eqN (tgt := 77) dX5_readUnit_51 (fun c51 => ?_) (fun c51 => ?_)
            · exact absurd c51 (by omega)
            · refine az_aload_n dX5_readUnit_54 ?_
              refine az_iload_n dX5_readUnit_55 ?_
              refine az_iconst (v := nI 1) dX5_readUnit_56 ?_
              refine az_iaddN dX5_readUnit_57 ?_
              refine az_cV0 (st := []) dX5_readUnit_58 ml_X5_122 g1 (hT (by omega) (d := d - 1) (by omega) hS1 (rd_Q.i ?_ ?_))
              · intro e2 c2 hq2 h2 hS2 hf2
                obtain ⟨va2, hW2, hce2, hv2⟩ := id hS2
                obtain ⟨hX2, he2, hc2, cf2, ol2, g2, -⟩ := id hW2
                rw [hq2, rd_b_l] at hQ
                have hg2 := hGL.2.2 _ _ _ _ he1 hq2
                refine az_if_eqN (tgt := 77) dX5_readUnit_61 (fun c61 => ?_) (fun c61 => ?_)
                · exact absurd c61 (by omega)
                · refine az_aload_n dX5_readUnit_64 ?_
                  refine az_bipush (v := nI 93) dX5_readUnit_65 ?_
                  refine az_cV0 (st := []) dX5_readUnit_67 ml_X5_81 g2 (s_takeSign (d := d - 1) (x := 93) (by omega) (by omega) hW2 (rd_Q.i ?_ ?_))
                  · intro e3 c3 hq3 h3 hS3 hf3
                    obtain ⟨va3, hW3, hce3, hv3⟩ := id hS3
                    obtain ⟨hX3, he3, hc3, cf3, ol3, g3, -⟩ := id hW3
                    rw [hq3] at hQ
                    refine az_if_eqN (tgt := 77) dX5_readUnit_70 (fun c70 => ?_) (fun c70 => ?_)
                    · exact absurd c70 (by omega)
                    · refine az_iconst (v := nI 1) dX5_readUnit_73 ?_
                      refine az_goto (tgt := 78) dX5_readUnit_74 ?_
                      exact az_iret dX5_readUnit_78 (by first | exact hQ h3 hS3 ((hf1.tr hf2).tr hf3) | exact hQ h3 (hE3.mono (by omega)) ((hf1.tr hf2).tr hf3) | exact hQ h2 (hE2.mono (by omega)) (hf1.tr hf2) | exact hQ h1 hE1 hf1)
                  · intro f3 p3 hq3 h3 hE3 hf3
                    obtain ⟨hX3, ki3, aa3, zz3, va3, m3, cf3, ol3, g3, -⟩ := id hE3
                    rw [hq3] at hQ
                    refine az_if_eqN (tgt := 77) dX5_readUnit_70 (fun c70 => ?_) (fun c70 => ?_)
                    · refine az_iconst (v := nI 0) dX5_readUnit_77 ?_
                      exact az_iret dX5_readUnit_78 (by first | exact hQ h3 hS3 ((hf1.tr hf2).tr hf3) | exact hQ h3 (hE3.mono (by omega)) ((hf1.tr hf2).tr hf3) | exact hQ h2 (hE2.mono (by omega)) (hf1.tr hf2) | exact hQ h1 hE1 hf1)
                    · exact absurd c70 (by omega)
              · intro f2 p2 hq2 h2 hE2 hf2
                obtain ⟨hX2, ki2, aa2, zz2, va2, m2, cf2, ol2, g2, -⟩ := id hE2
                rw [hq2] at hQ
                refine az_if_eqN (tgt := 77) dX5_readUnit_61 (fun c61 => ?_) (fun c61 => ?_)
                · refine az_iconst (v := nI 0) dX5_readUnit_77 ?_
                  exact az_iret dX5_readUnit_78 (by first | exact hQ h3 hS3 ((hf1.tr hf2).tr hf3) | exact hQ h3 (hE3.mono (by omega)) ((hf1.tr hf2).tr hf3) | exact hQ h2 (hE2.mono (by omega)) (hf1.tr hf2) | exact hQ h1 hE1 hf1)
                · exact absurd c61 (by omega)
          · intro f1 p1 hq1 h1 hE1 hf1
            obtain ⟨hX1, ki1, aa1, zz1, va1, m1, cf1, ol1, g1, -⟩ := id hE1
            rw [hq1] at hQ
            refine az_if_eqN (tgt := 77) dX5_readUnit_51 (fun c51 => ?_) (fun c51 => ?_)
            · refine az_iconst (v := nI 0) dX5_readUnit_77 ?_
              exact az_iret dX5_readUnit_78 (by first | exact hQ h3 hS3 ((hf1.tr hf2).tr hf3) | exact hQ h3 (hE3.mono (by omega)) ((hf1.tr hf2).tr hf3) | exact hQ h2 (hE2.mono (by omega)) (hf1.tr hf2) | exact hQ h1 hE1 hf1)
            · exact absurd c51 (by omega)
      · intro hs0
        rw [if_neg hs0] at hQ
        refine az_if_eqN (tgt := 79) dX5_readUnit_43 (fun c43 => ?_) (fun c43 => ?_)
        · refine az_aload_n dX5_readUnit_79 ?_
          refine az_iload_n dX5_readUnit_80 ?_
          refine az_cV0 (st := []) dX5_readUnit_81 ml_X5_104 g0 (hM (d := d - 1) (by omega) hS0 (rd_Q.i ?_ ?_))
          · intro e1 c1 hq1 h1 hS1 hf1
            obtain ⟨va1, hW1, hce1, hv1⟩ := id hS1
            obtain ⟨hX1, he1, hc1, cf1, ol1, g1, -⟩ := id hW1
            rw [hq1, rd_b_l] at hQ
            have hg1 := rd_G_sm hGL _ _ _ _ he0 hq1
            refine az_if_neN (tgt := 89) dX5_readUnit_84 (fun c84 => ?_) (fun c84 => ?_)
            · refine az_aload_n dX5_readUnit_89 ?_
              refine az_cV0 (st := []) dX5_readUnit_90 ml_X5_172 g1 (s_lawOfComparison (d := d - 1) (by omega) hW1 ?_)
              refine az_istore_n (ls' := [(0, .ref q), (1, .int (nI dp)), (2, .int (lw_phi (rd_cp b n e1)))]) dX5_readUnit_93 ?_
              refine az_iload_n dX5_readUnit_94 ?_
              refine az_if_ne (tgt := 104) dX5_readUnit_95 (fun c95 => ?_) (fun c95 => ?_)
              · refine az_aload_n dX5_readUnit_104 ?_
                refine az_cV0 (st := []) dX5_readUnit_105 ml_X5_41 g1 (s_adv (d := d - 1) (by omega) hW1 ?_)
                intro h2 hS2 hf2
                obtain ⟨va2, hW2, hce2, hv2⟩ := id hS2
                obtain ⟨hX2, he2, hc2, cf2, ol2, g2, -⟩ := id hW2
                have hcp : ¬ rd_cp b n e1 = 0 := (fun q9 => c95 (by rw [q9]; exact lw_phi_0))
                rw [if_neg hcp] at hQ
                have hel := rd_en_lt (b := b) he1 (rd_cp_k e1 hcp)
                refine az_aload_n dX5_readUnit_108 ?_
                refine az_iload_n dX5_readUnit_109 ?_
                refine az_cV0 (st := []) dX5_readUnit_110 ml_X5_104 g2 (hM (d := d - 1) (by omega) hS2 (rd_Q.i ?_ ?_))
                · intro e3 c3 hq3 h3 hS3 hf3
                  obtain ⟨va3, hW3, hce3, hv3⟩ := id hS3
                  obtain ⟨hX3, he3, hc3, cf3, ol3, g3, -⟩ := id hW3
                  rw [hq3, rd_b_l] at hQ
                  have hg3 := rd_G_sm hGL _ _ _ _ hel.2.2 hq3
                  rw [rd_enc] at hQ
                  refine az_if_neN (tgt := 118) dX5_readUnit_113 (fun c113 => ?_) (fun c113 => ?_)
                  · refine az_aload_n dX5_readUnit_118 ?_
                    refine az_iload_n dX5_readUnit_119 ?_
                    refine az_cV0 (st := []) dX5_readUnit_120 ml_X5_155 g3 (s_encodeS (d := d - 1) (x := rd_cp b n e1) hS3 (by omega) ?_)
                    intro h9 hS9 hf9
                    refine az_iconst (v := nI 1) dX5_readUnit_123 ?_
                    exact az_iret dX5_readUnit_124 (hQ h9 hS9 (((hf1.tr hf2).tr hf3).tr hf9))
                  · exact absurd c113 (by omega)
                · intro f3 p3 hq3 h3 hE3 hf3
                  obtain ⟨hX3, ki3, aa3, zz3, va3, m3, cf3, ol3, g3, -⟩ := id hE3
                  rw [hq3] at hQ
                  refine az_if_neN (tgt := 118) dX5_readUnit_113 (fun c113 => ?_) (fun c113 => ?_)
                  · exact absurd c113 (by omega)
                  · refine az_iconst (v := nI 0) dX5_readUnit_116 ?_
                    exact az_iret dX5_readUnit_117 (hQ h3 (hE3.mono (by omega)) ((hf1.tr hf2).tr hf3))
              · refine az_aload_n dX5_readUnit_98 ?_
                refine az_iconst (v := nI 2) dX5_readUnit_99 ?_
                refine az_cV0 (st := []) dX5_readUnit_100 ml_X5_128 g1 (s_failR (d := d - 1) hW1 (rd_Q.i ?_ ?_))
                · intro e2 c2 hq2 h2 hS2 hf2
                  obtain ⟨va2, hW2, hce2, hv2⟩ := id hS2
                  obtain ⟨hX2, he2, hc2, cf2, ol2, g2, -⟩ := id hW2
                  exact az_iret dX5_readUnit_103 (by rw [if_pos (rd_cp_phi c95), hq2] at hQ; first | exact hQ h2 (hE2.mono (by omega)) (hf1.tr hf2) | exact hQ h2 hS2 (hf1.tr hf2))
                · intro f2 p2 hq2 h2 hE2 hf2
                  obtain ⟨hX2, ki2, aa2, zz2, va2, m2, cf2, ol2, g2, -⟩ := id hE2
                  exact az_iret dX5_readUnit_103 (by rw [if_pos (rd_cp_phi c95), hq2] at hQ; first | exact hQ h2 (hE2.mono (by omega)) (hf1.tr hf2) | exact hQ h2 hS2 (hf1.tr hf2))
            · exact absurd c84 (by omega)
          · intro f1 p1 hq1 h1 hE1 hf1
            obtain ⟨hX1, ki1, aa1, zz1, va1, m1, cf1, ol1, g1, -⟩ := id hE1
            rw [hq1] at hQ
            refine az_if_neN (tgt := 89) dX5_readUnit_84 (fun c84 => ?_) (fun c84 => ?_)
            · exact absurd c84 (by omega)
            · refine az_iconst (v := nI 0) dX5_readUnit_87 ?_
              exact az_iret dX5_readUnit_88 (hQ h1 hE1 hf1)
        · exact absurd c43 (by omega)
    · exact absurd c6 (by omega)
