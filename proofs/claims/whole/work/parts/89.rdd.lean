/-! Reader: rules -/
theorem rd_tn_c {b : Nat → Nat} {n lo hi e e' : Nat} {c c' : List Nat} (h : rd_tn b n lo hi e c = .inl (e', c')) (d : List Nat) : rd_tn b n lo hi e d = .inl (e', d) := by
  unfold rd_tn at *
  split at h
  · cases h
  · rename_i h1
    split at h
    · cases h
    · rename_i h2
      cases h
      rw [if_neg h1, if_neg h2]
theorem rd_tn_e {b : Nat → Nat} {n lo hi e : Nat} {c : List Nat} {x : Nat × Nat} (h : rd_tn b n lo hi e c = .inr x) (d : List Nat) : rd_tn b n lo hi e d = .inr x := by
  unfold rd_tn at *
  split at h
  · rename_i h1; rw [if_pos h1]; exact h
  · rename_i h1
    split at h
    · rename_i h2; rw [if_neg h1, if_pos h2]; exact h
    · cases h
theorem rd_ts_c {b : Nat → Nat} {n x e e' : Nat} {c c' : List Nat} (h : rd_ts b n x e c = .inl (e', c')) (d : List Nat) : rd_ts b n x e d = .inl (e', d) := by
  unfold rd_ts at *
  split at h
  · rename_i h1; cases h; rw [if_pos h1]
  · cases h
theorem rd_ts_e {b : Nat → Nat} {n y e : Nat} {c : List Nat} {x : Nat × Nat} (h : rd_ts b n y e c = .inr x) (d : List Nat) : rd_ts b n y e d = .inr x := by
  unfold rd_ts at *
  split at h
  · cases h
  · rename_i h1; rw [if_neg h1]; exact h
theorem rd_upd_is {f : Nat → Nat} {i x : Nat} : az_s (fun j => nI (f j)) i (nI x) = fun j => nI (rd_upd f i x j) := by
  funext j
  unfold rd_upd
  by_cases h : j = i
  · rw [h, az_s_eq, if_pos rfl]
  · rw [az_s_ne h, if_neg h]
set_option maxHeartbeats 8000000 in
set_option maxRecDepth 100000 in
theorem s_readRule {d q tx n e t : Nat} {b : Nat → Nat} {k5 : Nat} {va : Int32} {v : rd_V} {hp : az_Hp} {Q : Option Value → az_Hp → Prop} (hd : 8 ≤ d) (hW : rd_Sg hp q tx n b e k5 va) (hT : rd_To hp t (rd_w v) q tx) (htb : 1 ≤ v.1 ∧ v.1 ≤ 3) (hQ : rd_TQ (rd_rule b n e v) hp q tx n b t Q) : az_M mX5_readRule d 0 0 [.ref q, .ref t] hp Q := by
  obtain ⟨hX, he, hc, cf, ol, h0, h3, hcf, h2⟩ := id hW
  obtain ⟨w, hw9⟩ : ∃ w, w = rd_w v := ⟨_, rfl⟩
  rw [← hw9] at hT
  have htw : ln_tb w = v.1 := by rw [hw9]; rfl
  have htx := hX.2.2.1
  refine az_M.of rfl (Nat.le_of_ble_eq_true rfl) ?_
  show az_W _ _ _ _ 0 [(0, .ref q), (1, .ref t)] [] _ _
  refine az_aload_n dX5_readRule_0 ?_
  refine az_cV0 (st := []) dX5_readRule_1 ml_X5_41 h0 (g_adv (d := d - 1) (by omega) hW ?_)
  intro h1 hS1 hf1
  obtain ⟨va1, hW1, hce1, hv1⟩ := id hS1
  obtain ⟨hX1, he1, hc1, cf1, ol1, g1, g3, hcf1, g2⟩ := id hW1
  have hT1 := hT.f hf1
  obtain ⟨a4, a5, t0, t1, t2, t3, t4, t5, o1, o2, o3, o4, o5, o6⟩ := id hT1
  refine az_aload_n dX5_readRule_4 ?_
  refine az_iconst (v := nI 0) dX5_readRule_5 ?_
  refine az_aload_n dX5_readRule_6 ?_
  refine az_getf (v := .int (nI (ln_tb w))) dX5_readRule_7 fl_X5_72 t0 ?_
  refine az_iconst (v := nI 1) dX5_readRule_10 ?_
  refine az_isubN dX5_readRule_11 (by omega) ?_
  refine az_cV0 (st := []) dX5_readRule_12 ml_X5_65 g1 (g_takeNumber (d := d - 1) (lo := 0) (hi := ln_tb w - 1) (by omega) hS1 (by omega) (by omega) ?_ ?_)
  · intro hq2 m1 m2 h2' hW2 hf2
    obtain ⟨hX2, he2, hc2, cf2, ol2, k0, k3, hcf2, k2⟩ := id hW2
    rw [htw] at hq2
    rw [rd_rule, rd_tn_c hq2 []] at hQ
    dsimp only at hQ
    refine az_if_neN (tgt := 20) dX5_readRule_15 (fun c15 => ?_) (fun c15 => ?_)
    · refine az_aload_n dX5_readRule_20 ?_
      refine az_getf (v := .int (nI (rd_va b n (rd_en b n e)))) dX5_readRule_21 fl_X5_69 k0 ?_
      refine az_istore_n (ls' := [(0, .ref q), (1, .ref t), (2, .int (nI (rd_va b n (rd_en b n e))))]) dX5_readRule_24 ?_
      refine az_aload_n dX5_readRule_25 ?_
      refine az_iconst (v := nI 1) dX5_readRule_26 ?_
      refine az_aload_n dX5_readRule_27 ?_
      refine az_getf (v := .ref (q + 2)) dX5_readRule_28 fl_X5_22 k0 ?_
      refine az_iconst (v := nI 0) dX5_readRule_31 ?_
      refine az_cV0 (st := []) dX5_readRule_32 ml_X5_133 k0 (g_takeLetters (d := d - 1) (most := 1) (at9 := 0) (by omega) hW2 k2 (by omega) (by omega) (by omega) ?_ ?_)
      · intro hq3 m3 m4 h3' g' hg hg6 hgo hA' hW3 fA
        obtain ⟨hX3, he3, hc3, cf3, ol3, l0, -⟩ := id hW3
        rw [(rd_tl_c hq3 []).1] at hQ
        dsimp only at hQ
        refine az_if_eqN (tgt := 47) dX5_readRule_35 (fun c35 => ?_) (fun c35 => ?_)
        · exact absurd c35 (by omega)
        · refine az_aload_n dX5_readRule_38 ?_
          refine az_bipush (v := nI 58) dX5_readRule_39 ?_
          refine az_cV0 (st := []) dX5_readRule_41 ml_X5_81 l0 (g_takeSign (d := d - 1) (x := 58) (by omega) (by omega) hW3 (rd_Qg.i ?_ ?_))
          · intro e4 c4 hq4 h4' hS4 hf4
            obtain ⟨va4, hW4, hce4, hv4⟩ := id hS4
            obtain ⟨hX4, he4, hc4, cf4, ol4, n0, n3, hcf4, n2⟩ := id hW4
            rw [rd_ts_c hq4 []] at hQ
            dsimp only at hQ
            have hkp : ∀ z, t ≤ z → h4'.2 z = h1.2 z := (fun z hz => (by rw [hf4.2 z (by omega) (by omega), fA.2 z (by omega) (by omega) (by omega), hf2.2 z (by omega) (by omega)]))
            have hT4 := (⟨(hkp t (by omega)).trans t0, (hkp (t + 1) (by omega)).trans t1, (hkp (t + 2) (by omega)).trans t2, (hkp (t + 3) (by omega)).trans t3, (hkp a4 (by omega)).trans t4, (hkp a5 (by omega)).trans t5⟩ : _ ∧ _ ∧ _ ∧ _ ∧ _ ∧ _)
            have hh4 : h4'.1 = h1.1 := hf4.1.trans (fA.1.trans hf2.1)
            have hb6 := hg6 0 (by omega)
            rw [Nat.add_zero] at hb6
            have hr4 : rd_h hp h4' q t := ((hf1.tr hf2).h.tr (fA.h (by omega))).tr hf4.h
            refine az_if_neN (tgt := 49) dX5_readRule_44 (fun c44 => ?_) (fun c44 => ?_)
            · refine az_iload_n dX5_readRule_49 ?_
              refine az_bipush (v := nI 6) dX5_readRule_50 ?_
              refine az_imulN dX5_readRule_52 ?_
              refine az_aload_n dX5_readRule_53 ?_
              refine az_getf (v := .ref (q + 2)) dX5_readRule_54 fl_X5_22 n0 ?_
              refine az_iconst (v := nI 0) dX5_readRule_57 ?_
              refine az_ialdN (j := 0) dX5_readRule_58 (hf4.at hA') ?_
              rw [show g' 0 = nI (b (rd_fr b n (rd_en b n (rd_en b n e))) - 97) by (have h9 := hg 0 (by omega); rw [Nat.add_zero, Nat.add_zero] at h9; exact h9)]
              refine az_iaddN dX5_readRule_59 ?_
              refine az_istore_n (ls' := [(0, .ref q), (1, .ref t), (2, .int (nI (rd_va b n (rd_en b n e)))), (3, .int (nI (((rd_va b n (rd_en b n e)) * 6) + (b (rd_fr b n (rd_en b n (rd_en b n e))) - 97))))]) dX5_readRule_60 ?_
              refine az_iload_n dX5_readRule_61 ?_
              refine az_if_ltN (tgt := 74) dX5_readRule_62 (fun c62 => ?_) (fun c62 => ?_)
              · first | exact c62.elim | exact absurd c62 (by omega)
              · refine az_iload_n dX5_readRule_65 ?_
                refine az_aload_n dX5_readRule_66 ?_
                refine az_getf (v := .ref (t + 2)) dX5_readRule_67 fl_X5_140 (hT4.1) ?_
                refine az_alen dX5_readRule_70 (hT4.2.2.1) ?_
                refine az_icmp_ltN (tgt := 80) dX5_readRule_71 (fun c71 => ?_) (fun c71 => ?_)
                · refine az_aload_n dX5_readRule_80 ?_
                  refine az_ldcS (k := 6) dX5_readRule_81 rfl rfl rfl ?_
                  refine az_cV0 (st := []) dX5_readRule_83 ml_X5_87 n0 (g_isWord (d := d - 1) (k9 := 6) (r := ("LetterNights$Reader", 143, "nothing")) (by omega) rfl hW4 ?_ ?_)
                  · intro hw1
                    rw [if_pos hw1] at hQ
                    refine az_if_eqN (tgt := 101) dX5_readRule_86 (fun c86 => ?_) (fun c86 => ?_)
                    · exact absurd c86 (by omega)
                    · refine az_aload_n dX5_readRule_89 ?_
                      refine az_cV0 (st := []) dX5_readRule_90 ml_X5_41 n0 (g_adv (d := d - 1) (by omega) hW4 ?_)
                      intro h5 hS5 hf5
                      obtain ⟨va5, hW5, hce5, hv5⟩ := id hS5
                      obtain ⟨hX5, he5, hc5, cf5, ol5, p0, p3, hcf5, p2⟩ := id hW5
                      refine az_aload_n dX5_readRule_93 ?_
                      refine az_iconst (v := nI 0) dX5_readRule_94 ?_
                      refine az_putf (fs' := [.int (nI 0), .int ((-1)), .ref tx, .int (nI n), .int (nI (rd_kd b n (rd_en b n e4))), .int (nI (rd_fr b n (rd_en b n e4))), .int (nI (rd_en b n (rd_en b n e4))), .int (nI 0), .ref (q + 2), .ref (q + 3), .int (nI k5)]) dX5_readRule_95 fl_X5_69 p0 ?_
                      refine az_goto (tgt := 118) dX5_readRule_98 ?_
                      refine az_aload_n dX5_readRule_118 ?_
                      refine az_getf (v := .ref (t + 2)) dX5_readRule_119 fl_X5_140 (az_up_ne (hf5.at hT4.1)) ?_
                      refine az_iload_n dX5_readRule_122 ?_
                      refine az_aload_n dX5_readRule_123 ?_
                      refine az_getf (v := .int (nI 0)) dX5_readRule_124 fl_X5_69 az_up_eq ?_
                      refine az_iastN (j := ((rd_va b n (rd_en b n e)) * 6) + (b (rd_fr b n (rd_en b n (rd_en b n e))) - 97)) dX5_readRule_127 (az_up_ne (hf5.at hT4.2.2.1)) ?_
                      rw [rd_upd_is]
                      refine az_iconst (v := nI 1) dX5_readRule_128 ?_
                      exact az_iret dX5_readRule_129 (by first | (exact hQ _ ⟨k5, _, (rd_Sg.upz (hp := az_up h5 q _) ⟨hX5.fr rd_f.rf.up, he5, hc5, cf5, ol5, az_up_eq, az_up_ne p3, hcf5, az_up_ne p2⟩ (by omega) (by omega))⟩ ⟨a4, a5, (az_up_ne (az_up_ne (hf5.at (by rw [hw9] at hT4; exact hT4.1)))), (az_up_ne (az_up_ne (hf5.at (by rw [hw9] at hT4; exact hT4.2.1)))), (by rw [hw9]; exact az_up_eq), (az_up_ne (az_up_ne (hf5.at (by rw [hw9] at hT4; exact hT4.2.2.2.1)))), (az_up_ne (az_up_ne (hf5.at (by rw [hw9] at hT4; exact hT4.2.2.2.2.1)))), (az_up_ne (az_up_ne (hf5.at (by rw [hw9] at hT4; exact hT4.2.2.2.2.2)))), o1, o2, o3, (by show a4 < h5.1; rw [hf5.1, hh4]; exact o4), o5, (by show a5 < h5.1; rw [hf5.1, hh4]; exact o6)⟩ (((hr4.tr hf5.h).up).up)) | (exact hQ _ ⟨k5, _, hW5.upz (by omega) (by omega)⟩ ⟨a4, a5, (az_up_ne ((fB.2 t (by omega) (by omega) (by omega)).trans (by rw [hw9] at hT4; exact hT4.1))), (az_up_ne ((fB.2 (t + 1) (by omega) (by omega) (by omega)).trans (by rw [hw9] at hT4; exact hT4.2.1))), (by rw [hw9]; exact az_up_eq), (by rw [az_up_ne hB', rd_ls_is hgB (fun j hj => (by rw [hgBo j hj]))]; rw [hw9]; rfl), (az_up_ne ((fB.2 a4 (by omega) (by omega) (by omega)).trans (by rw [hw9] at hT4; exact hT4.2.2.2.2.1))), (az_up_ne ((fB.2 a5 (by omega) (by omega) (by omega)).trans (by rw [hw9] at hT4; exact hT4.2.2.2.2.2))), o1, o2, o3, (by show a4 < h5.1; rw [fB.1, hh4]; exact o4), o5, (by show a5 < h5.1; rw [fB.1, hh4]; exact o6)⟩ ((hr4.tr (fB.h (by omega))).up)))
                  · intro hw0
                    rw [if_neg hw0] at hQ
                    refine az_if_eqN (tgt := 101) dX5_readRule_86 (fun c86 => ?_) (fun c86 => ?_)
                    · refine az_aload_n dX5_readRule_101 ?_
                      refine az_iconst (v := nI 4) dX5_readRule_102 ?_
                      refine az_aload_n dX5_readRule_103 ?_
                      refine az_getf (v := .ref (t + 3)) dX5_readRule_104 fl_X5_145 (hT4.1) ?_
                      refine az_iload_n dX5_readRule_107 ?_
                      refine az_iconst (v := nI 4) dX5_readRule_108 ?_
                      refine az_imulN dX5_readRule_109 ?_
                      refine az_cV0 (st := []) dX5_readRule_110 ml_X5_133 n0 (g_takeLetters (d := d - 1) (most := 4) (at9 := (rd_va b n (rd_en b n e) * 6 + (b (rd_fr b n (rd_en b n (rd_en b n e))) - 97)) * 4) (by omega) hW4 hT4.2.2.2.1 (by omega) (by omega) (by omega) ?_ ?_)
                      · intro hq5 m5 m6 h5 gB hgB hgB6 hgBo hB' hW5 fB
                        obtain ⟨hX5, he5, hc5, cf5, ol5, p0, -⟩ := id hW5
                        rw [(rd_tl_c hq5 []).1] at hQ
                        refine az_if_neN (tgt := 118) dX5_readRule_113 (fun c113 => ?_) (fun c113 => ?_)
                        · refine az_aload_n dX5_readRule_118 ?_
                          refine az_getf (v := .ref (t + 2)) dX5_readRule_119 fl_X5_140 (fB.2 t (by omega) (by omega) (by omega) |>.trans hT4.1) ?_
                          refine az_iload_n dX5_readRule_122 ?_
                          refine az_aload_n dX5_readRule_123 ?_
                          refine az_getf (v := .int (nI (rd_en b n e4 - rd_fr b n e4))) dX5_readRule_124 fl_X5_69 p0 ?_
                          refine az_iastN (j := ((rd_va b n (rd_en b n e)) * 6) + (b (rd_fr b n (rd_en b n (rd_en b n e))) - 97)) dX5_readRule_127 (fB.2 (t + 2) (by omega) (by omega) (by omega) |>.trans hT4.2.2.1) ?_
                          rw [rd_upd_is]
                          refine az_iconst (v := nI 1) dX5_readRule_128 ?_
                          exact az_iret dX5_readRule_129 (by first | (exact hQ _ ⟨k5, _, (rd_Sg.upz (hp := az_up h5 q _) ⟨hX5.fr rd_f.rf.up, he5, hc5, cf5, ol5, az_up_eq, az_up_ne p3, hcf5, az_up_ne p2⟩ (by omega) (by omega))⟩ ⟨a4, a5, (az_up_ne (az_up_ne (hf5.at (by rw [hw9] at hT4; exact hT4.1)))), (az_up_ne (az_up_ne (hf5.at (by rw [hw9] at hT4; exact hT4.2.1)))), (by rw [hw9]; exact az_up_eq), (az_up_ne (az_up_ne (hf5.at (by rw [hw9] at hT4; exact hT4.2.2.2.1)))), (az_up_ne (az_up_ne (hf5.at (by rw [hw9] at hT4; exact hT4.2.2.2.2.1)))), (az_up_ne (az_up_ne (hf5.at (by rw [hw9] at hT4; exact hT4.2.2.2.2.2)))), o1, o2, o3, (by show a4 < h5.1; rw [hf5.1, hh4]; exact o4), o5, (by show a5 < h5.1; rw [hf5.1, hh4]; exact o6)⟩ (((hr4.tr hf5.h).up).up)) | (exact hQ _ ⟨k5, _, hW5.upz (by omega) (by omega)⟩ ⟨a4, a5, (az_up_ne ((fB.2 t (by omega) (by omega) (by omega)).trans (by rw [hw9] at hT4; exact hT4.1))), (az_up_ne ((fB.2 (t + 1) (by omega) (by omega) (by omega)).trans (by rw [hw9] at hT4; exact hT4.2.1))), (by rw [hw9]; exact az_up_eq), (by rw [az_up_ne hB', rd_ls_is hgB (fun j hj => (by rw [hgBo j hj]))]; rw [hw9]; rfl), (az_up_ne ((fB.2 a4 (by omega) (by omega) (by omega)).trans (by rw [hw9] at hT4; exact hT4.2.2.2.2.1))), (az_up_ne ((fB.2 a5 (by omega) (by omega) (by omega)).trans (by rw [hw9] at hT4; exact hT4.2.2.2.2.2))), o1, o2, o3, (by show a4 < h5.1; rw [fB.1, hh4]; exact o4), o5, (by show a5 < h5.1; rw [fB.1, hh4]; exact o6)⟩ ((hr4.tr (fB.h (by omega))).up)))
                        · exact absurd c113 (by omega)
                      · intro f p hq5 h5 hE5 hf5
                        refine az_if_neN (tgt := 118) dX5_readRule_113 (fun c113 => ?_) (fun c113 => ?_)
                        · exact absurd c113 (by omega)
                        · refine az_iconst (v := nI 0) dX5_readRule_116 ?_
                          exact az_iret dX5_readRule_117 (by rw [rd_tl_e hq5] at hQ; exact hQ h5 ⟨hE5.z, w, a4, a5, hf5.at hT4.1, hf5.at hT4.2.1, hf5.at hT4.2.2.1, hf5.at hT4.2.2.2.1, hf5.at hT4.2.2.2.2.1, hf5.at hT4.2.2.2.2.2, o1, o2, o3, (by rw [hf5.1, hh4]; exact o4), o5, (by rw [hf5.1, hh4]; exact o6)⟩ (hr4.tr hf5.h))
                    · exact absurd c86 (by omega)
                · exact absurd c71 (by omega)
            · exact absurd c44 (by omega)
          · intro f p hq4 h4' hE4 hf4
            refine az_if_neN (tgt := 49) dX5_readRule_44 (fun c44 => ?_) (fun c44 => ?_)
            · exact absurd c44 (by omega)
            · refine az_iconst (v := nI 0) dX5_readRule_47 ?_
              exact az_iret dX5_readRule_48 (by first | (rw [rd_tl_e hq3] at hQ; exact hQ h3' ⟨hE3.z, w, (hT1.f hf2).f hf3⟩ (((hf1.tr hf2).tr hf3).h)) | (rw [rd_ts_e hq4] at hQ; exact hQ h4' ⟨hE4.z, w, ((hT1.f hf2).eqv (Nat.le_of_eq fA.1.symm) (fun z u1 _ => fA.2 z (by omega) (by omega) (by omega))).f hf4⟩ (((hf1.tr hf2).h.tr (fA.h (by omega))).tr hf4.h)))
      · intro f p hq3 h3' hE3 hf3
        refine az_if_eqN (tgt := 47) dX5_readRule_35 (fun c35 => ?_) (fun c35 => ?_)
        · refine az_iconst (v := nI 0) dX5_readRule_47 ?_
          exact az_iret dX5_readRule_48 (by first | (rw [rd_tl_e hq3] at hQ; exact hQ h3' ⟨hE3.z, w, (hT1.f hf2).f hf3⟩ (((hf1.tr hf2).tr hf3).h)) | (rw [rd_ts_e hq4] at hQ; exact hQ h4' ⟨hE4.z, w, ((hT1.f hf2).eqv (Nat.le_of_eq fA.1.symm) (fun z u1 _ => fA.2 z (by omega) (by omega) (by omega))).f hf4⟩ (((hf1.tr hf2).h.tr (fA.h (by omega))).tr hf4.h)))
        · exact absurd c35 (by omega)
    · exact absurd c15 (by omega)
  · intro f p hq2 h2' hE2 hf2
    refine az_if_neN (tgt := 20) dX5_readRule_15 (fun c15 => ?_) (fun c15 => ?_)
    · exact absurd c15 (by omega)
    · refine az_iconst (v := nI 0) dX5_readRule_18 ?_
      exact az_iret dX5_readRule_19 (by rw [htw] at hq2; rw [rd_rule, rd_tn_e hq2] at hQ; exact hQ h2' ⟨hE2.z, w, hT1.f hf2⟩ ((hf1.tr hf2).h))
