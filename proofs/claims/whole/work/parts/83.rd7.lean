/-! Reader: atoms, terms, sums, units, truths -/
theorem rd_nm_phi {b : Nat → Nat} {n e : Nat} (h : lw_phi (rd_nm b n e) = 0) : rd_nm b n e = 0 := by
  unfold rd_nm at *
  split at h
  · exact absurd h (by decide)
  · split at h
    · exact absurd h (by decide)
    · split at h
      · exact absurd h (by decide)
      · split at h
        · exact absurd h (by decide)
        · split at h
          · exact absurd h (by decide)
          · rename_i h1 h2 h3 h4 h5
            rw [if_neg h1, if_neg h2, if_neg h3, if_neg h4, if_neg h5]
theorem rd_cp_phi {b : Nat → Nat} {n e : Nat} (h : lw_phi (rd_cp b n e) = 0) : rd_cp b n e = 0 := by
  unfold rd_cp at *
  split at h
  · exact absurd h (by decide)
  · split at h
    · exact absurd h (by decide)
    · split at h
      · exact absurd h (by decide)
      · rename_i h1 h2 h3
        rw [if_neg h1, if_neg h2, if_neg h3]
theorem lw_phi_0 : lw_phi 0 = 0 := by decide
set_option maxHeartbeats 8000000 in
set_option maxRecDepth 100000 in
theorem s_readAtom {D tx n dp : Nat} {b : Nat → Nat} {L : rd_P × rd_P × rd_P} (h8 : 8 ≤ D) (hdp : dp ≤ 6) (hG : rd_GL n L) (hM : dp < 6 → rd_CM mX5_readSum L.1 D tx n b (dp + 1)) (hC : dp < 6 → rd_CC mX5_readChoice (rd_ch b n L) D tx n b (dp + 1)) : rd_CM mX5_readAtom (rd_at b n (6 - dp) L) (D + 1) tx n b dp := by
  intro d q e0 c0 hp Q hd hS0 hQ
  obtain ⟨va0, hW0, hce0, hv0⟩ := id hS0
  obtain ⟨hX0, he0, hc0, cf0, ol0, g0, -⟩ := id hW0
  refine az_M.of rfl (Nat.le_of_ble_eq_true rfl) ?_
  show az_W _ _ _ _ 0 [(0, .ref q), (1, .int (nI dp))] [] _ _
  refine az_aload_n dX5_readAtom_0 ?_
  refine az_bipush (v := nI 40) dX5_readAtom_1 ?_
  refine az_cV0 (st := []) dX5_readAtom_3 ml_X5_169 g0 (s_isSign (d := d - 1) (x := 40) hW0 (by omega) ?_ ?_)
  · intro hs1
    rw [rd_at, if_pos hs1] at hQ
    refine az_if_eqN (tgt := 42) dX5_readAtom_6 (fun c6 => ?_) (fun c6 => ?_)
    · exact absurd c6 (by omega)
    · refine az_aload_n dX5_readAtom_9 ?_
      refine az_iload_n dX5_readAtom_10 ?_
      refine az_cV0 (st := []) dX5_readAtom_11 ml_X5_166 g0 (s_goDeeper (d := d - 1) (by omega) hdp hW0 (rd_Q.i ?_ ?_))
      · intro e1 c1 hq1 h1 hS1 hf1
        obtain ⟨va1, hW1, hce1, hv1⟩ := id hS1
        obtain ⟨hX1, he1, hc1, cf1, ol1, g1, -⟩ := id hW1
        rw [hq1, rd_b_l] at hQ
        have hgd := rd_gd_lt hq1
        have hg1 := rd_G_gd b n (6 - dp) _ _ _ _ he0 hq1
        refine az_if_eqN (tgt := 40) dX5_readAtom_14 (fun c14 => ?_) (fun c14 => ?_)
        · exact absurd c14 (by omega)
        · refine az_aload_n dX5_readAtom_17 ?_
          refine az_iload_n dX5_readAtom_18 ?_
          refine az_iconst (v := nI 1) dX5_readAtom_19 ?_
          refine az_iaddN dX5_readAtom_20 ?_
          refine az_cV0 (st := []) dX5_readAtom_21 ml_X5_104 g1 (hM (by omega) (d := d - 1) (by omega) hS1 (rd_Q.i ?_ ?_))
          · intro e2 c2 hq2 h2 hS2 hf2
            obtain ⟨va2, hW2, hce2, hv2⟩ := id hS2
            obtain ⟨hX2, he2, hc2, cf2, ol2, g2, -⟩ := id hW2
            rw [hq2, rd_b_l] at hQ
            have hg2 := hG.1 _ _ _ _ he1 hq2
            refine az_if_eqN (tgt := 40) dX5_readAtom_24 (fun c24 => ?_) (fun c24 => ?_)
            · exact absurd c24 (by omega)
            · refine az_aload_n dX5_readAtom_27 ?_
              refine az_bipush (v := nI 41) dX5_readAtom_28 ?_
              refine az_cV0 (st := []) dX5_readAtom_30 ml_X5_81 g2 (s_takeSign (d := d - 1) (x := 41) (by omega) (by omega) hW2 (rd_Q.i ?_ ?_))
              · intro e3 c3 hq3 h3 hS3 hf3
                obtain ⟨va3, hW3, hce3, hv3⟩ := id hS3
                obtain ⟨hX3, he3, hc3, cf3, ol3, g3, -⟩ := id hW3
                rw [hq3] at hQ
                refine az_if_eqN (tgt := 40) dX5_readAtom_33 (fun c33 => ?_) (fun c33 => ?_)
                · exact absurd c33 (by omega)
                · refine az_iconst (v := nI 1) dX5_readAtom_36 ?_
                  refine az_goto (tgt := 41) dX5_readAtom_37 ?_
                  exact az_iret dX5_readAtom_41 (by first | exact hQ h3 hS3 ((hf1.tr hf2).tr hf3) | exact hQ h3 (hE3.mono (by omega)) ((hf1.tr hf2).tr hf3) | exact hQ h2 (hE2.mono (by omega)) (hf1.tr hf2) | exact hQ h1 hE1 hf1)
              · intro f3 p3 hq3 h3 hE3 hf3
                obtain ⟨hX3, ki3, aa3, zz3, va3, m3, cf3, ol3, g3, -⟩ := id hE3
                rw [hq3] at hQ
                refine az_if_eqN (tgt := 40) dX5_readAtom_33 (fun c33 => ?_) (fun c33 => ?_)
                · refine az_iconst (v := nI 0) dX5_readAtom_40 ?_
                  exact az_iret dX5_readAtom_41 (by first | exact hQ h3 hS3 ((hf1.tr hf2).tr hf3) | exact hQ h3 (hE3.mono (by omega)) ((hf1.tr hf2).tr hf3) | exact hQ h2 (hE2.mono (by omega)) (hf1.tr hf2) | exact hQ h1 hE1 hf1)
                · exact absurd c33 (by omega)
          · intro f2 p2 hq2 h2 hE2 hf2
            obtain ⟨hX2, ki2, aa2, zz2, va2, m2, cf2, ol2, g2, -⟩ := id hE2
            rw [hq2] at hQ
            refine az_if_eqN (tgt := 40) dX5_readAtom_24 (fun c24 => ?_) (fun c24 => ?_)
            · refine az_iconst (v := nI 0) dX5_readAtom_40 ?_
              exact az_iret dX5_readAtom_41 (by first | exact hQ h3 hS3 ((hf1.tr hf2).tr hf3) | exact hQ h3 (hE3.mono (by omega)) ((hf1.tr hf2).tr hf3) | exact hQ h2 (hE2.mono (by omega)) (hf1.tr hf2) | exact hQ h1 hE1 hf1)
            · exact absurd c24 (by omega)
      · intro f1 p1 hq1 h1 hE1 hf1
        obtain ⟨hX1, ki1, aa1, zz1, va1, m1, cf1, ol1, g1, -⟩ := id hE1
        rw [hq1] at hQ
        refine az_if_eqN (tgt := 40) dX5_readAtom_14 (fun c14 => ?_) (fun c14 => ?_)
        · refine az_iconst (v := nI 0) dX5_readAtom_40 ?_
          exact az_iret dX5_readAtom_41 (by first | exact hQ h3 hS3 ((hf1.tr hf2).tr hf3) | exact hQ h3 (hE3.mono (by omega)) ((hf1.tr hf2).tr hf3) | exact hQ h2 (hE2.mono (by omega)) (hf1.tr hf2) | exact hQ h1 hE1 hf1)
        · exact absurd c14 (by omega)
  · intro hs0
    rw [rd_at, if_neg hs0] at hQ
    refine az_if_eqN (tgt := 42) dX5_readAtom_6 (fun c6 => ?_) (fun c6 => ?_)
    · refine az_aload_n dX5_readAtom_42 ?_
      refine az_ldcS (k := 8) dX5_readAtom_43 rfl rfl rfl ?_
      refine az_cV0 (st := []) dX5_readAtom_45 ml_X5_87 g0 (s_isWord (d := d - 1) (k9 := 8) (r := ("LetterNights$Reader", 182, "if")) (by omega) rfl hW0 ?_ ?_)
      · intro hw1
        rw [if_pos hw1] at hQ
        have hel := rd_en_lt (b := b) he0 (rd_isW_k hw1)
        refine az_if_eqN (tgt := 75) dX5_readAtom_48 (fun c48 => ?_) (fun c48 => ?_)
        · exact absurd c48 (by omega)
        · refine az_aload_n dX5_readAtom_51 ?_
          refine az_iload_n dX5_readAtom_52 ?_
          refine az_cV0 (st := []) dX5_readAtom_53 ml_X5_166 g0 (s_goDeeper (d := d - 1) (by omega) hdp hW0 (rd_Q.i ?_ ?_))
          · intro e1 c1 hq1 h1 hS1 hf1
            obtain ⟨va1, hW1, hce1, hv1⟩ := id hS1
            obtain ⟨hX1, he1, hc1, cf1, ol1, g1, -⟩ := id hW1
            rw [hq1, rd_b_l] at hQ
            have hgd := rd_gd_lt hq1
            have hg1 := rd_G_gd b n (6 - dp) _ _ _ _ he0 hq1
            refine az_if_eqN (tgt := 73) dX5_readAtom_56 (fun c56 => ?_) (fun c56 => ?_)
            · exact absurd c56 (by omega)
            · refine az_aload_n dX5_readAtom_59 ?_
              refine az_iload_n dX5_readAtom_60 ?_
              refine az_iconst (v := nI 1) dX5_readAtom_61 ?_
              refine az_iaddN dX5_readAtom_62 ?_
              refine az_cV0 (st := []) dX5_readAtom_63 ml_X5_184 g1 (hC (by omega) (d := d - 1) (by omega) (by omega) hS1 (rd_Q.i ?_ ?_))
              · intro e2 c2 hq2 h2 hS2 hf2
                obtain ⟨va2, hW2, hce2, hv2⟩ := id hS2
                obtain ⟨hX2, he2, hc2, cf2, ol2, g2, -⟩ := id hW2
                rw [hq2] at hQ
                refine az_if_eqN (tgt := 73) dX5_readAtom_66 (fun c66 => ?_) (fun c66 => ?_)
                · exact absurd c66 (by omega)
                · refine az_iconst (v := nI 1) dX5_readAtom_69 ?_
                  refine az_goto (tgt := 74) dX5_readAtom_70 ?_
                  exact az_iret dX5_readAtom_74 (by first | exact hQ h2 hS2 (hf1.tr hf2) | exact hQ h2 (hE2.mono (by rw [hgd.2.2, hgd.2.1]; omega)) (hf1.tr hf2) | exact hQ h1 hE1 hf1)
              · intro f2 p2 hq2 h2 hE2 hf2
                obtain ⟨hX2, ki2, aa2, zz2, va2, m2, cf2, ol2, g2, -⟩ := id hE2
                rw [hq2] at hQ
                refine az_if_eqN (tgt := 73) dX5_readAtom_66 (fun c66 => ?_) (fun c66 => ?_)
                · refine az_iconst (v := nI 0) dX5_readAtom_73 ?_
                  exact az_iret dX5_readAtom_74 (by first | exact hQ h2 hS2 (hf1.tr hf2) | exact hQ h2 (hE2.mono (by rw [hgd.2.2, hgd.2.1]; omega)) (hf1.tr hf2) | exact hQ h1 hE1 hf1)
                · exact absurd c66 (by omega)
          · intro f1 p1 hq1 h1 hE1 hf1
            obtain ⟨hX1, ki1, aa1, zz1, va1, m1, cf1, ol1, g1, -⟩ := id hE1
            rw [hq1] at hQ
            refine az_if_eqN (tgt := 73) dX5_readAtom_56 (fun c56 => ?_) (fun c56 => ?_)
            · refine az_iconst (v := nI 0) dX5_readAtom_73 ?_
              exact az_iret dX5_readAtom_74 (by first | exact hQ h2 hS2 (hf1.tr hf2) | exact hQ h2 (hE2.mono (by rw [hgd.2.2, hgd.2.1]; omega)) (hf1.tr hf2) | exact hQ h1 hE1 hf1)
            · exact absurd c56 (by omega)
      · intro hw0
        rw [if_neg hw0] at hQ
        refine az_if_eqN (tgt := 75) dX5_readAtom_48 (fun c48 => ?_) (fun c48 => ?_)
        · refine az_aload_n dX5_readAtom_75 ?_
          refine az_getf (v := .int (nI (rd_kd b n e0))) dX5_readAtom_76 fl_X5_51 g0 ?_
          refine az_iconst (v := nI 2) dX5_readAtom_79 ?_
          have hk4 := rd_kd_le b n e0
          refine az_icmp_neN (tgt := 90) dX5_readAtom_80 (fun c80 => ?_) (fun c80 => ?_)
          · refine az_aload_n dX5_readAtom_90 ?_
            refine az_cV0 (st := []) dX5_readAtom_91 ml_X5_187 g0 (s_lawOfName (d := d - 1) (by omega) hW0 ?_)
            refine az_istore_n (ls' := [(0, .ref q), (1, .int (nI dp)), (2, .int (lw_phi (rd_nm b n e0)))]) dX5_readAtom_94 ?_
            refine az_iload_n dX5_readAtom_95 ?_
            refine az_if_ne (tgt := 113) dX5_readAtom_96 (fun c96 => ?_) (fun c96 => ?_)
            · have hkn : rd_kd b n e0 ≠ 0 := (by first | omega | (have h9 := rd_nm_k e0 (fun q9 => c96 (by rw [q9]; exact lw_phi_0)); omega))
              have hel := rd_en_lt (b := b) he0 hkn
              refine az_aload_n dX5_readAtom_113 ?_
              refine az_iload_n dX5_readAtom_114 ?_
              refine az_cV0 (st := []) dX5_readAtom_115 ml_X5_155 g0 (s_encode (d := d - 1) hW0 (by omega) ?_)
              intro h9 hW9 hf9
              obtain ⟨hX9, he9, hc9, cf9, ol9, g9, -⟩ := id hW9
              refine az_aload_n dX5_readAtom_118 ?_
              refine az_cV0 (st := []) dX5_readAtom_119 ml_X5_41 g9 (s_adv (d := d - 1) (by omega) hW9 ?_)
              intro h10 hS10 hf10
              refine az_iconst (v := nI 1) dX5_readAtom_122 ?_
              exact az_iret dX5_readAtom_123 (by first | (rw [if_pos c80] at hQ; exact hQ h10 hS10 (hf9.tr hf10)) | (rw [if_neg c80, if_neg (fun q9 => c96 (by rw [q9]; exact lw_phi_0))] at hQ; exact hQ h10 hS10 (hf9.tr hf10)) | (exact absurd c104 c80))
            · refine az_aload_n dX5_readAtom_99 ?_
              refine az_getf (v := .int (nI (rd_kd b n e0))) dX5_readAtom_100 fl_X5_51 g0 ?_
              refine az_iconst (v := nI 2) dX5_readAtom_103 ?_
              refine az_icmp_eqN (tgt := 113) dX5_readAtom_104 (fun c104 => ?_) (fun c104 => ?_)
              · have hkn : rd_kd b n e0 ≠ 0 := (by first | omega | (have h9 := rd_nm_k e0 (fun q9 => c96 (by rw [q9]; exact lw_phi_0)); omega))
                have hel := rd_en_lt (b := b) he0 hkn
                refine az_aload_n dX5_readAtom_113 ?_
                refine az_iload_n dX5_readAtom_114 ?_
                refine az_cV0 (st := []) dX5_readAtom_115 ml_X5_155 g0 (s_encode (d := d - 1) hW0 (by omega) ?_)
                intro h9 hW9 hf9
                obtain ⟨hX9, he9, hc9, cf9, ol9, g9, -⟩ := id hW9
                refine az_aload_n dX5_readAtom_118 ?_
                refine az_cV0 (st := []) dX5_readAtom_119 ml_X5_41 g9 (s_adv (d := d - 1) (by omega) hW9 ?_)
                intro h10 hS10 hf10
                refine az_iconst (v := nI 1) dX5_readAtom_122 ?_
                exact az_iret dX5_readAtom_123 (by first | (rw [if_pos c80] at hQ; exact hQ h10 hS10 (hf9.tr hf10)) | (rw [if_neg c80, if_neg (fun q9 => c96 (by rw [q9]; exact lw_phi_0))] at hQ; exact hQ h10 hS10 (hf9.tr hf10)) | (exact absurd c104 c80))
              · refine az_aload_n dX5_readAtom_107 ?_
                refine az_iconst (v := nI 2) dX5_readAtom_108 ?_
                refine az_cV0 (st := []) dX5_readAtom_109 ml_X5_128 g0 (s_failR (d := d - 1) hW0 (rd_Q.i ?_ ?_))
                · intro e4 c4 hq4 h4 hS4 hf4
                  obtain ⟨va4, hW4, hce4, hv4⟩ := id hS4
                  obtain ⟨hX4, he4, hc4, cf4, ol4, g4, -⟩ := id hW4
                  exact az_iret dX5_readAtom_112 (by first | exact absurd c80 c104 | (rw [if_neg c80, if_pos (rd_nm_phi (Classical.not_not.mp c96)), hq4] at hQ; first | exact hQ h4 hE4 hf4 | exact hQ h4 hS4 hf4) | (rw [if_neg c80, if_pos (rd_nm_phi c96), hq4] at hQ; first | exact hQ h4 hE4 hf4 | exact hQ h4 hS4 hf4))
                · intro f4 p4 hq4 h4 hE4 hf4
                  obtain ⟨hX4, ki4, aa4, zz4, va4, m4, cf4, ol4, g4, -⟩ := id hE4
                  exact az_iret dX5_readAtom_112 (by first | exact absurd c80 c104 | (rw [if_neg c80, if_pos (rd_nm_phi (Classical.not_not.mp c96)), hq4] at hQ; first | exact hQ h4 hE4 hf4 | exact hQ h4 hS4 hf4) | (rw [if_neg c80, if_pos (rd_nm_phi c96), hq4] at hQ; first | exact hQ h4 hE4 hf4 | exact hQ h4 hS4 hf4))
          · refine az_aload_n dX5_readAtom_83 ?_
            refine az_getf (v := .int va0) dX5_readAtom_84 fl_X5_69 g0 ?_
            rw [hv0 c80, ← lw_phi_n (rd_va_lt he0 c80)]
            refine az_goto (tgt := 94) dX5_readAtom_87 ?_
            refine az_istore_n (ls' := [(0, .ref q), (1, .int (nI dp)), (2, .int (lw_phi (rd_va b n e0)))]) dX5_readAtom_94 ?_
            refine az_iload_n dX5_readAtom_95 ?_
            refine az_if_ne (tgt := 113) dX5_readAtom_96 (fun c96 => ?_) (fun c96 => ?_)
            · have hkn : rd_kd b n e0 ≠ 0 := (by first | omega | (have h9 := rd_nm_k e0 (fun q9 => c96 (by rw [q9]; exact lw_phi_0)); omega))
              have hel := rd_en_lt (b := b) he0 hkn
              refine az_aload_n dX5_readAtom_113 ?_
              refine az_iload_n dX5_readAtom_114 ?_
              refine az_cV0 (st := []) dX5_readAtom_115 ml_X5_155 g0 (s_encode (d := d - 1) hW0 (by omega) ?_)
              intro h9 hW9 hf9
              obtain ⟨hX9, he9, hc9, cf9, ol9, g9, -⟩ := id hW9
              refine az_aload_n dX5_readAtom_118 ?_
              refine az_cV0 (st := []) dX5_readAtom_119 ml_X5_41 g9 (s_adv (d := d - 1) (by omega) hW9 ?_)
              intro h10 hS10 hf10
              refine az_iconst (v := nI 1) dX5_readAtom_122 ?_
              exact az_iret dX5_readAtom_123 (by first | (rw [if_pos c80] at hQ; exact hQ h10 hS10 (hf9.tr hf10)) | (rw [if_neg c80, if_neg (fun q9 => c96 (by rw [q9]; exact lw_phi_0))] at hQ; exact hQ h10 hS10 (hf9.tr hf10)) | (exact absurd c104 c80))
            · refine az_aload_n dX5_readAtom_99 ?_
              refine az_getf (v := .int (nI (rd_kd b n e0))) dX5_readAtom_100 fl_X5_51 g0 ?_
              refine az_iconst (v := nI 2) dX5_readAtom_103 ?_
              refine az_icmp_eqN (tgt := 113) dX5_readAtom_104 (fun c104 => ?_) (fun c104 => ?_)
              · have hkn : rd_kd b n e0 ≠ 0 := (by first | omega | (have h9 := rd_nm_k e0 (fun q9 => c96 (by rw [q9]; exact lw_phi_0)); omega))
                have hel := rd_en_lt (b := b) he0 hkn
                refine az_aload_n dX5_readAtom_113 ?_
                refine az_iload_n dX5_readAtom_114 ?_
                refine az_cV0 (st := []) dX5_readAtom_115 ml_X5_155 g0 (s_encode (d := d - 1) hW0 (by omega) ?_)
                intro h9 hW9 hf9
                obtain ⟨hX9, he9, hc9, cf9, ol9, g9, -⟩ := id hW9
                refine az_aload_n dX5_readAtom_118 ?_
                refine az_cV0 (st := []) dX5_readAtom_119 ml_X5_41 g9 (s_adv (d := d - 1) (by omega) hW9 ?_)
                intro h10 hS10 hf10
                refine az_iconst (v := nI 1) dX5_readAtom_122 ?_
                exact az_iret dX5_readAtom_123 (by first | (rw [if_pos c80] at hQ; exact hQ h10 hS10 (hf9.tr hf10)) | (rw [if_neg c80, if_neg (fun q9 => c96 (by rw [q9]; exact lw_phi_0))] at hQ; exact hQ h10 hS10 (hf9.tr hf10)) | (exact absurd c104 c80))
              · refine az_aload_n dX5_readAtom_107 ?_
                refine az_iconst (v := nI 2) dX5_readAtom_108 ?_
                refine az_cV0 (st := []) dX5_readAtom_109 ml_X5_128 g0 (s_failR (d := d - 1) hW0 (rd_Q.i ?_ ?_))
                · intro e4 c4 hq4 h4 hS4 hf4
                  obtain ⟨va4, hW4, hce4, hv4⟩ := id hS4
                  obtain ⟨hX4, he4, hc4, cf4, ol4, g4, -⟩ := id hW4
                  exact az_iret dX5_readAtom_112 (by first | exact absurd c80 c104 | (rw [if_neg c80, if_pos (rd_nm_phi (Classical.not_not.mp c96)), hq4] at hQ; first | exact hQ h4 hE4 hf4 | exact hQ h4 hS4 hf4) | (rw [if_neg c80, if_pos (rd_nm_phi c96), hq4] at hQ; first | exact hQ h4 hE4 hf4 | exact hQ h4 hS4 hf4))
                · intro f4 p4 hq4 h4 hE4 hf4
                  obtain ⟨hX4, ki4, aa4, zz4, va4, m4, cf4, ol4, g4, -⟩ := id hE4
                  exact az_iret dX5_readAtom_112 (by first | exact absurd c80 c104 | (rw [if_neg c80, if_pos (rd_nm_phi (Classical.not_not.mp c96)), hq4] at hQ; first | exact hQ h4 hE4 hf4 | exact hQ h4 hS4 hf4) | (rw [if_neg c80, if_pos (rd_nm_phi c96), hq4] at hQ; first | exact hQ h4 hE4 hf4 | exact hQ h4 hS4 hf4))
        · exact absurd c48 (by omega)
    · exact absurd c6 (by omega)
set_option maxHeartbeats 8000000 in
set_option maxRecDepth 100000 in
theorem s_readTerm {D tx n r dp : Nat} {b : Nat → Nat} {L : rd_P × rd_P × rd_P} (h8 : 8 ≤ D) (hGF : rd_G n (rd_at b n r L)) (hA : rd_CM mX5_readAtom (rd_at b n r L) D tx n b dp) : rd_CM mX5_readTerm (rd_tm b n r L) (D + 1) tx n b dp := by
  intro d q e0 c0 hp Q hd hS0 hQ
  obtain ⟨va0, hW0, hce0, hv0⟩ := id hS0
  obtain ⟨hX0, he0, hc0, cf0, ol0, g0, -⟩ := id hW0
  have hn9 := hX0.2.1
  have bad : ∀ (k : Nat) (i f9 p9 : Nat) (h' : az_Hp) (hE9 : rd_Er h' q tx n b f9 p9 e0 c0.length) (hQb : Q (some (.int (nI 0))) h'), 0 = k → (i ≤ 901) → az_W mX5_readTerm d 0 0 8 [(0, .ref q), (1, .int (nI dp)), (2, .int (nI 0)), (3, .int (nI i))] [] h' Q := by
    intro k
    induction k using Nat.strongRecOn with
    | _ k ih =>
    intro i f9 p9 h' hE9 hQb hk hi9
    obtain ⟨hX9, ki9, aa9, zz9, va9, m9, cf9, ol9, g9, -⟩ := id hE9
    refine az_iload_n dX5_readTerm_8 ?_
    refine az_aload_n dX5_readTerm_9 ?_
    refine az_getf (v := .int (nI n)) dX5_readTerm_10 fl_X5_35 g9 ?_
    refine az_icmp_geN (tgt := 51) dX5_readTerm_13 (fun c13 => ?_) (fun c13 => ?_)
    · refine az_iload_n dX5_readTerm_51 ?_
      exact az_iret dX5_readTerm_52 (hQb)
    · refine az_iload_n dX5_readTerm_16 ?_
      refine az_if_eqN (tgt := 51) dX5_readTerm_17 (fun c17 => ?_) (fun c17 => ?_)
      · refine az_iload_n dX5_readTerm_51 ?_
        exact az_iret dX5_readTerm_52 (hQb)
      · exact absurd c17 (by omega)
  have loop : ∀ (k : Nat) (i e9 : Nat) (c9 : List Nat) (h' : az_Hp) (hS9 : rd_St h' q tx n b e9 c9) (hf9 : rd_f hp h' q) (hQ9 : rd_Q (rd_lp b n (rd_at b n r L) (rd_ct b n) (n - i) e9 c9) e0 c0.length hp q tx n b Q), n - i = k → (i ≤ n) → (c9.length + e0 ≤ c0.length + e9) → (e0 ≤ e9) → az_W mX5_readTerm d 0 0 8 [(0, .ref q), (1, .int (nI dp)), (2, .int (nI 1)), (3, .int (nI i))] [] h' Q := by
    intro k
    induction k using Nat.strongRecOn with
    | _ k ih =>
    intro i e9 c9 h' hS9 hf9 hQ9 hk hi9 hgl hge
    obtain ⟨va9, hW9, hce9, hv9⟩ := id hS9
    obtain ⟨hX9, he9, hc9, cf9, ol9, g9, -⟩ := id hW9
    refine az_iload_n dX5_readTerm_8 ?_
    refine az_aload_n dX5_readTerm_9 ?_
    refine az_getf (v := .int (nI n)) dX5_readTerm_10 fl_X5_35 g9 ?_
    refine az_icmp_geN (tgt := 51) dX5_readTerm_13 (fun c13 => ?_) (fun c13 => ?_)
    · refine az_iload_n dX5_readTerm_51 ?_
      exact az_iret dX5_readTerm_52 (by first | (rw [show n - i = 0 by omega] at hQ9; exact hQ9 h' hS9 hf9) | (rw [show n - i = (n - (i + 1)) + 1 by omega, rd_lp] at hQ9; dsimp only at hQ9; rw [if_pos (show rd_ct b n e9 = 0 from if_neg hs0)] at hQ9; exact hQ9 h' hS9 hf9))
    · refine az_iload_n dX5_readTerm_16 ?_
      refine az_if_eqN (tgt := 51) dX5_readTerm_17 (fun c17 => ?_) (fun c17 => ?_)
      · exact absurd c17 (by omega)
      · refine az_aload_n dX5_readTerm_20 ?_
        refine az_bipush (v := nI 42) dX5_readTerm_21 ?_
        refine az_cV0 (st := []) dX5_readTerm_23 ml_X5_169 g9 (s_isSign (d := d - 1) (x := 42) hW9 (by omega) ?_ ?_)
        · intro hs1
          refine az_if_eqN (tgt := 51) dX5_readTerm_26 (fun c26 => ?_) (fun c26 => ?_)
          · exact absurd c26 (by omega)
          · refine az_aload_n dX5_readTerm_29 ?_
            refine az_cV0 (st := []) dX5_readTerm_30 ml_X5_41 g9 (s_adv (d := d - 1) (by omega) hW9 ?_)
            intro h2 hS2 hf2
            obtain ⟨va2, hW2, hce2, hv2⟩ := id hS2
            obtain ⟨hX2, he2, hc2, cf2, ol2, g2, -⟩ := id hW2
            rw [show n - i = (n - (i + 1)) + 1 by omega, rd_lp] at hQ9
            dsimp only at hQ9
            rw [if_neg (show ¬ rd_ct b n e9 = 0 by rw [(show rd_ct b n e9 = 3002 from if_pos hs1)]; decide), (show rd_ct b n e9 = 3002 from if_pos hs1)] at hQ9
            have hkn := rd_ct_k (b := b) (n := n) e9 (by rw [(show rd_ct b n e9 = 3002 from if_pos hs1)]; decide)
            have hel := rd_en_lt (b := b) he9 hkn
            refine az_aload_n dX5_readTerm_33 ?_
            refine az_iload_n dX5_readTerm_34 ?_
            refine az_cV0 (st := []) dX5_readTerm_35 ml_X5_179 g2 (hA (d := d - 1) (by omega) hS2 (rd_Q.i ?_ ?_))
            · intro e3 c3 hq3 h3 hS3 hf3
              obtain ⟨va3, hW3, hce3, hv3⟩ := id hS3
              obtain ⟨hX3, he3, hc3, cf3, ol3, g3, -⟩ := id hW3
              rw [hq3, rd_b_l] at hQ9
              have hg3 := hGF _ _ _ _ hel.2.2 hq3
              refine az_istore_n (ls' := [(0, .ref q), (1, .int (nI dp)), (2, .int (nI 1)), (3, .int (nI i))]) dX5_readTerm_38 ?_
              refine az_aload_n dX5_readTerm_39 ?_
              refine az_bipush (v := (-14)) dX5_readTerm_40 ?_
              first | exact az_cV0 (st := []) (av := [.int (-14)]) dX5_readTerm_42 ml_X5_155 g3 (s_encodeE (d := d - 1) (k1 := e0) (k2 := c0.length) (hE3.mono (by omega)) (fun h4 hE4 hf4 => az_iincN (n := 1) (ls' := [(0, .ref q), (1, .int (nI dp)), (2, .int (nI 0)), (3, .int (nI (i + 1)))]) dX5_readTerm_45 (az_goto (tgt := 8) dX5_readTerm_48 (bad _ (i + 1) f3 p3 h4 hE4 (hQ9 h4 hE4 (((hf9.tr hf2).tr hf3).tr hf4)) rfl (by omega))))) | exact az_cV0 (st := []) (av := [.int (-14)]) dX5_readTerm_42 ml_X5_155 g3 (s_encodeS (d := d - 1) (x := 3002) hS3 (by omega) (fun h4 hS4 hf4 => az_iincN (n := 1) (ls' := [(0, .ref q), (1, .int (nI dp)), (2, .int (nI 1)), (3, .int (nI (i + 1)))]) dX5_readTerm_45 (az_goto (tgt := 8) dX5_readTerm_48 (ih _ (by omega) (i + 1) e3 (c3 ++ [3002]) h4 hS4 (((hf9.tr hf2).tr hf3).tr hf4) hQ9 rfl (by omega) (by rw [List.length_append, List.length_singleton]; omega) (by omega)))))
            · intro f3 p3 hq3 h3 hE3 hf3
              obtain ⟨hX3, ki3, aa3, zz3, va3, m3, cf3, ol3, g3, -⟩ := id hE3
              rw [hq3] at hQ9
              refine az_istore_n (ls' := [(0, .ref q), (1, .int (nI dp)), (2, .int (nI 0)), (3, .int (nI i))]) dX5_readTerm_38 ?_
              refine az_aload_n dX5_readTerm_39 ?_
              refine az_bipush (v := (-14)) dX5_readTerm_40 ?_
              first | exact az_cV0 (st := []) (av := [.int (-14)]) dX5_readTerm_42 ml_X5_155 g3 (s_encodeE (d := d - 1) (k1 := e0) (k2 := c0.length) (hE3.mono (by omega)) (fun h4 hE4 hf4 => az_iincN (n := 1) (ls' := [(0, .ref q), (1, .int (nI dp)), (2, .int (nI 0)), (3, .int (nI (i + 1)))]) dX5_readTerm_45 (az_goto (tgt := 8) dX5_readTerm_48 (bad _ (i + 1) f3 p3 h4 hE4 (hQ9 h4 hE4 (((hf9.tr hf2).tr hf3).tr hf4)) rfl (by omega))))) | exact az_cV0 (st := []) (av := [.int (-14)]) dX5_readTerm_42 ml_X5_155 g3 (s_encodeS (d := d - 1) (x := 3002) hS3 (by omega) (fun h4 hS4 hf4 => az_iincN (n := 1) (ls' := [(0, .ref q), (1, .int (nI dp)), (2, .int (nI 1)), (3, .int (nI (i + 1)))]) dX5_readTerm_45 (az_goto (tgt := 8) dX5_readTerm_48 (ih _ (by omega) (i + 1) e3 (c3 ++ [3002]) h4 hS4 (((hf9.tr hf2).tr hf3).tr hf4) hQ9 rfl (by omega) (by rw [List.length_append, List.length_singleton]; omega) (by omega)))))
        · intro hs0
          refine az_if_eqN (tgt := 51) dX5_readTerm_26 (fun c26 => ?_) (fun c26 => ?_)
          · refine az_iload_n dX5_readTerm_51 ?_
            exact az_iret dX5_readTerm_52 (by first | (rw [show n - i = 0 by omega] at hQ9; exact hQ9 h' hS9 hf9) | (rw [show n - i = (n - (i + 1)) + 1 by omega, rd_lp] at hQ9; dsimp only at hQ9; rw [if_pos (show rd_ct b n e9 = 0 from if_neg hs0)] at hQ9; exact hQ9 h' hS9 hf9))
          · exact absurd c26 (by omega)
  refine az_M.of rfl (Nat.le_of_ble_eq_true rfl) ?_
  show az_W _ _ _ _ 0 [(0, .ref q), (1, .int (nI dp))] [] _ _
  refine az_aload_n dX5_readTerm_0 ?_
  refine az_iload_n dX5_readTerm_1 ?_
  refine az_cV0 (st := []) dX5_readTerm_2 ml_X5_179 g0 (hA (d := d - 1) (by omega) hS0 (rd_Q.i ?_ ?_))
  · intro e1 c1 hq1 h1 hS1 hf1
    obtain ⟨va1, hW1, hce1, hv1⟩ := id hS1
    obtain ⟨hX1, he1, hc1, cf1, ol1, g1, -⟩ := id hW1
    rw [rd_tm, hq1, rd_b_l] at hQ
    have hg1 := hGF _ _ _ _ he0 hq1
    refine az_istore_n (ls' := [(0, .ref q), (1, .int (nI dp)), (2, .int (nI 1))]) dX5_readTerm_5 ?_
    refine az_iconst (v := nI 0) dX5_readTerm_6 ?_
    refine az_istore_n (ls' := [(0, .ref q), (1, .int (nI dp)), (2, .int (nI 1)), (3, .int (nI 0))]) dX5_readTerm_7 ?_
    first | exact bad _ 0 f1 p1 h1 hE1 (hQ h1 hE1 hf1) rfl (by omega) | exact loop _ 0 e1 c1 h1 hS1 hf1 hQ rfl (Nat.zero_le _) hg1.2.2 hg1.1
  · intro f1 p1 hq1 h1 hE1 hf1
    obtain ⟨hX1, ki1, aa1, zz1, va1, m1, cf1, ol1, g1, -⟩ := id hE1
    rw [rd_tm, hq1] at hQ
    refine az_istore_n (ls' := [(0, .ref q), (1, .int (nI dp)), (2, .int (nI 0))]) dX5_readTerm_5 ?_
    refine az_iconst (v := nI 0) dX5_readTerm_6 ?_
    refine az_istore_n (ls' := [(0, .ref q), (1, .int (nI dp)), (2, .int (nI 0)), (3, .int (nI 0))]) dX5_readTerm_7 ?_
    first | exact bad _ 0 f1 p1 h1 hE1 (hQ h1 hE1 hf1) rfl (by omega) | exact loop _ 0 e1 c1 h1 hS1 hf1 hQ rfl (Nat.zero_le _) hg1.2.2 hg1.1
