/-! The model's reader: a rule -/
def rd_nt (b : Nat → Nat) (n : Nat) : rd_P := fun e c => if rd_isW b n e "nothing" then .inl (rd_en b n e, c) else rd_tl b n 4 e c
theorem nt_1 {b : Nat → Nat} {n e : Nat} {c : List Nat} {r : rd_R} (hr : r = .inl (e, c)) (he : e ≤ n) (h : mrK b n e 5) : rd_b r (rd_nt b n) = .inl (rd_en b n e, c) := by
  rw [hr]
  exact if_pos ((kw_nothing he).mp h)
theorem nt_0 {b : Nat → Nat} {n : Nat} {r : rd_R} (hle : ∀ e c, r = .inl (e, c) → e ≤ n) (h : mr_no b n r 5) : rd_b r (rd_nt b n) = rd_b r (rd_tl b n 4) := by
  match r, hle, h with
  | .inr x, _, _ => rfl
  | .inl (e, c), hle, h => exact if_neg (fun q => h e c rfl ((kw_nothing (hle e c rfl)).mpr q))
theorem tn_c {b : Nat → Nat} {n lo hi e e' : Nat} {c c' : List Nat} (h : rd_tn b n lo hi e c = .inl (e', c')) : c' = c := by
  unfold rd_tn at h
  split at h
  · cases h
  · split at h
    · cases h
    · cases h; rfl
theorem rule_x {b : Nat → Nat} {n e : Nat} {v : rd_V} {r2 r3 r4 r5 : rd_R} (q2 : r2 = rd_tn b n 0 (v.1 - 1) (rd_en b n e) []) (q3 : r3 = rd_b r2 (rd_tl b n 1)) (q4 : r4 = rd_b r3 (rd_ts b n 58)) (q5 : r5 = rd_b r4 (rd_nt b n)) : (∀ x, r5 = .inr x → rd_rule b n e v = .inr x) ∧ (∀ e9 c9, r5 = .inl (e9, c9) → ∃ e1 e2 e4, r2 = .inl (e1, []) ∧ r3 = .inl (e2, []) ∧ r4 = .inl (e4, []) ∧ c9 = [] ∧ rd_tl b n 1 e1 [] = .inl (e2, []) ∧ rd_nt b n e4 [] = .inl (e9, []) ∧ rd_rule b n e v = .inl (e9, (v.1, v.2.1, v.2.2.1, v.2.2.2.1, v.2.2.2.2.1, rd_upd v.2.2.2.2.2.1 (rd_va b n (rd_en b n e) * 6 + (b (rd_fr b n e1) - 97)) (if rd_isW b n e4 "nothing" then 0 else rd_en b n e4 - rd_fr b n e4), (if rd_isW b n e4 "nothing" then v.2.2.2.2.2.2.1 else rd_ls b n e4 ((rd_va b n (rd_en b n e) * 6 + (b (rd_fr b n e1) - 97)) * 4) v.2.2.2.2.2.2.1), v.2.2.2.2.2.2.2))) := by
  subst q2 q3 q4 q5
  unfold rd_rule
  cases h1 : rd_tn b n 0 (v.1 - 1) (rd_en b n e) [] with
  | inr x => exact ⟨fun y q => (by cases q; rfl), fun _ _ q => nomatch q⟩
  | inl y1 =>
    obtain ⟨e1, c1⟩ := y1
    obtain rfl := tn_c h1
    simp only [rd_b_l]
    cases h2 : rd_tl b n 1 e1 [] with
    | inr x => exact ⟨fun y q => (by cases q; rfl), fun _ _ q => nomatch q⟩
    | inl y2 =>
      obtain ⟨e2, c2⟩ := y2
      obtain ⟨rfl, -⟩ := tl_c h2
      simp only [rd_b_l]
      cases h3 : rd_ts b n 58 e2 [] with
      | inr x => exact ⟨fun y q => (by cases q; rfl), fun _ _ q => nomatch q⟩
      | inl y3 =>
        obtain ⟨e4, c4⟩ := y3
        obtain ⟨rfl, -⟩ := ts_c h3
        simp only [rd_b_l]
        by_cases h4 : rd_isW b n e4 "nothing"
        · rw [show rd_nt b n e4 [] = .inl (rd_en b n e4, []) from if_pos h4, if_pos h4]
          refine ⟨fun _ q => (nomatch q), fun e9 c9 q => ?_⟩
          cases q
          refine ⟨e1, e2, e4, rfl, rfl, rfl, rfl, h2, if_pos h4, ?_⟩
          rw [if_pos h4, if_pos h4]
        · rw [show rd_nt b n e4 [] = rd_tl b n 4 e4 [] from if_neg h4, if_neg h4]
          cases h5 : rd_tl b n 4 e4 [] with
          | inr x => exact ⟨fun y q => (by cases q; rfl), fun _ _ q => nomatch q⟩
          | inl y5 =>
            obtain ⟨e5, c5⟩ := y5
            obtain ⟨rfl, -⟩ := tl_c h5
            refine ⟨fun _ q => (nomatch q), fun e9 c9 q => ?_⟩
            cases q
            refine ⟨e1, e2, e4, rfl, rfl, rfl, rfl, h2, (if_neg h4).trans h5, ?_⟩
            rw [if_neg h4, if_neg h4]
set_option maxHeartbeats 4000000 in
set_option maxRecDepth 100000 in
theorem m_ruleT {d N F a z n : Nat} {v1 ki nu wr wa : Int32} {sc : Nat → Value} {g sp : Nat → Nat} {hp : az_Hp} {Q : Option Value → az_Hp → Prop} (hN : N ≤ 4) (hF : F ≤ 100) (h64 : hp.2 64 = some (mr_o sc a z n ki nu wr wa)) (h68 : hp.2 68 = some (az_I 1106 (fun j => nI (g j)))) (h69 : hp.2 69 = some (az_I 12 (fun j => nI (sp j)))) (hQ : ∀ h' (g' : Nat → Nat), h'.2 68 = some (az_I 1106 (fun j => nI (g' j))) → g' F = N → (∀ i, i < N → g' (F + 1 + i) = sp i) → (∀ j, j < F ∨ F + 1 + N ≤ j → g' j = g j) → mf hp h' [68] → Q none h') : az_W mX12_readRule d 0 0 79 [(0, .ref 64), (1, .int v1), (2, .int (nI F)), (3, .int (nI N))] [] hp Q := by
  have lp : ∀ (k : Nat) (j : Nat) (h' : az_Hp) (g9 : Nat → Nat), N - j = k → (j ≤ N) → (h'.2 68 = some (az_I 1106 (fun i => nI (g9 i)))) → (g9 F = N) → (∀ i, i < j → g9 (F + 1 + i) = sp i) → (∀ i, i < F ∨ F + 1 + N ≤ i → g9 i = g i) → (mf hp h' [68]) → az_W mX12_readRule d 0 0 89 [(0, .ref 64), (1, .int v1), (2, .int (nI F)), (3, .int (nI N)), (4, .int (nI j))] [] h' Q := by
    intro k
    induction k using Nat.strongRecOn with
    | _ k ih =>
    intro j h' g9 hk hj h8 g2 hg go mf9
    refine az_iload dX12_readRule_89 ?_
    refine az_iload_n dX12_readRule_91 ?_
    refine az_icmp_geN (tgt := 119) dX12_readRule_92 (fun c92 => ?_) (fun c92 => ?_)
    · exact az_vret dX12_readRule_119 (hQ h' g9 h8 g2 (fun i hi => hg i (by omega)) go mf9)
    · refine az_aload_n dX12_readRule_95 ?_
      refine az_getf (v := .ref 68) dX12_readRule_96 fl_X12_24 (mf9.at h64) ?_
      refine az_iload_n dX12_readRule_99 ?_
      refine az_iconst (v := nI 1) dX12_readRule_100 ?_
      refine az_iaddN dX12_readRule_101 ?_
      refine az_iload dX12_readRule_102 ?_
      refine az_iaddN dX12_readRule_104 ?_
      refine az_aload_n dX12_readRule_105 ?_
      refine az_getf (v := .ref 69) dX12_readRule_106 fl_X12_30 (mf9.at h64) ?_
      refine az_iload dX12_readRule_109 ?_
      refine az_ialdN (j := j) dX12_readRule_111 (mf9.at h69) ?_ (by omega)
      refine az_iastN (j := (F + 1) + j) dX12_readRule_112 h8 ?_ (by omega)
      rw [az_s_nI]
      refine az_iincN (n := 1) (ls' := [(0, .ref 64), (1, .int v1), (2, .int (nI F)), (3, .int (nI N)), (4, .int (nI (j + 1)))]) dX12_readRule_113 ?_
      refine az_goto (tgt := 89) dX12_readRule_116 ?_
      exact ih _ (by omega) (j + 1) _ (az_s g9 (F + 1 + j) (sp j)) rfl (by omega) az_up_eq ((az_s_ne (by omega)).trans g2) (fun i hi => (by by_cases e9 : i = j; rw [e9, az_s_eq]; rw [az_s_ne (by omega)]; exact hg i (by omega))) (fun i hi => (az_s_ne (by omega)).trans (go i hi)) (mf9.up (by decide))
  refine az_aload_n dX12_readRule_79 ?_
  refine az_getf (v := .ref 68) dX12_readRule_80 fl_X12_24 h64 ?_
  refine az_iload_n dX12_readRule_83 ?_
  refine az_iload_n dX12_readRule_84 ?_
  refine az_iastN (j := F) dX12_readRule_85 h68 ?_ (by omega)
  rw [az_s_nI]
  refine az_iconst (v := nI 0) dX12_readRule_86 ?_
  refine az_istore (ls' := [(0, .ref 64), (1, .int v1), (2, .int (nI F)), (3, .int (nI N)), (4, .int (nI 0))]) dX12_readRule_87 ?_
  exact lp _ 0 _ (az_s g F N) rfl (Nat.zero_le _) az_up_eq az_s_eq (fun i hi => absurd hi (Nat.not_lt_zero i)) (fun i hi => az_s_ne (by omega)) (mf.rf.up (by decide))
theorem mr_V.rl {g g' : Nat → Nat} {v : rd_V} {k0 N R : Nat} {ch9 : Nat → Nat} (H : mr_V g v k0) (hB : mr_B v) (hR : R < 18) (hN : N ≤ 4) (h2 : g' (15 + 5 * R) = N) (h3 : ∀ i, i < N → g' (15 + 5 * R + 1 + i) = ch9 (R * 4 + i)) (h : ∀ j, j < 15 + 5 * R ∨ 15 + 5 * R + 1 + N ≤ j → g' j = g j) (hc : ∀ j, j < R * 4 ∨ R * 4 + N ≤ j → ch9 j = v.2.2.2.2.2.2.1 j) : mr_V g' (v.1, v.2.1, v.2.2.1, v.2.2.2.1, v.2.2.2.2.1, rd_upd v.2.2.2.2.2.1 R N, ch9, v.2.2.2.2.2.2.2) k0 := by
  obtain ⟨⟨a1, a2, a3, a4, a5, a6, a7, a8⟩, ⟨b1, b2, b3, b4⟩, c1, c2⟩ := H
  have hv := hB.2.2.1
  obtain ⟨d1, d2⟩ := a7.cg (A' := g') (k0 := k0) c1 (fun j hj => h j (by omega))
  obtain ⟨d3, d4⟩ := a8.cg (A' := g') (k0 := k0) c2 (fun j hj => h j (by omega))
  refine ⟨⟨(h 0 (by omega)).trans a1, (h 1 (by omega)).trans a2, (h 2 (by omega)).trans a3, fun k hk => (h _ (by have hk : k < v.2.2.2.1 := hk; omega)).trans (a4 k hk), fun r hr => ?_, fun r i hr hi => ?_, d1, d3⟩, ⟨(h 111 (by omega)).trans b1, (h 112 (by omega)).trans b2, (h 113 (by omega)).trans b3, (h 114 (by omega)).trans b4⟩, d2, d4⟩
  · show g' (15 + 5 * r) = rd_upd v.2.2.2.2.2.1 R N r
    unfold rd_upd
    by_cases e : r = R
    · rw [if_pos e, e]; exact h2
    · rw [if_neg e, h _ (by omega)]; exact a5 r hr
  · show g' (15 + 5 * r + 1 + i) = ch9 (r * 4 + i)
    have hi : i < rd_upd v.2.2.2.2.2.1 R N r := hi
    unfold rd_upd at hi
    by_cases e : r = R
    · rw [if_pos e] at hi
      rw [e]
      exact h3 i hi
    · rw [if_neg e] at hi
      have hz := hB.2.2.2 r hr
      rw [h _ (by omega), hc _ (by omega)]
      exact a6 r i hr hi
theorem sp_0 {h : az_Hp} {b : Nat → Nat} {n m : Nat} {r : rd_R} {y : Int32} (hT : mr_T h b n) (hy : ∀ e c z, r = .inl (e, c) → rd_tl b n m e c = .inl z → y = nI (rd_en b n e - rd_fr b n e) ∧ rd_en b n e - rd_fr b n e ≤ m ∧ 1 ≤ rd_en b n e - rd_fr b n e ∧ (∀ i, i < rd_en b n e - rd_fr b n e → b (rd_fr b n e + i) - 97 < 6) ∧ ∃ g : Nat → Nat, h.2 69 = some (az_I 12 (fun i => nI (g i))) ∧ ∀ i, i < rd_en b n e - rd_fr b n e → g i = b (rd_fr b n e + i) - 97) : ∃ sp : Nat → Int32, h.2 69 = some (az_I 12 sp) ∧ ∀ e c z, r = .inl (e, c) → rd_tl b n m e c = .inl z → sp 0 = nI (b (rd_fr b n e) - 97) ∧ b (rd_fr b n e) - 97 < 6 := by
  by_cases q : ∃ e c z, r = .inl (e, c) ∧ rd_tl b n m e c = .inl z
  · obtain ⟨e, c, z, h1, h2⟩ := q
    obtain ⟨-, -, u3, u4, g, u5, u6⟩ := hy e c z h1 h2
    refine ⟨_, u5, fun e' c' z' h1' h2' => ?_⟩
    rw [h1] at h1'
    cases h1'
    have a := u6 0 (by omega)
    have a2 := u4 0 (by omega)
    exact ⟨congrArg nI a, a2⟩
  · obtain ⟨-, -, -, sp, h69⟩ := hT
    exact ⟨sp, h69, fun e c z h1 h2 => absurd ⟨e, c, z, h1, h2⟩ q⟩
set_option maxHeartbeats 4000000 in
set_option maxRecDepth 100000 in
theorem m_readRule {d e : Nat} {v : rd_V} {sc : Nat → Value} {b : Nat → Nat} {n : Nat} {fr : Nat → Nat} {k0 : Nat} {hp : az_Hp} {Q : Option Value → az_Hp → Prop} (hd : 10 ≤ d) (H : mr_R hp sc b n fr k0 (.inl (e, []))) (hV : mr_V fr v k0) (hB : mr_B v) (hQ : ∀ h', mr_L h' sc b n (rd_rule b n e v) → mf hp h' [64, 68, 69] → Q none h') : az_M mX12_readRule d 0 0 [.ref 64] hp Q := by
  obtain ⟨a0, z0, ki0, nu0, wa0, e0, w0, hki0, hnu0⟩ := H.o
  have he := H.2.1
  have hb1 := hB.1
  have hb3 := hB.2.1
  refine az_M.of rfl (Nat.le_of_ble_eq_true rfl) ?_
  show az_W _ _ _ _ 0 [(0, .ref 64)] [] _ _
  refine az_aload_n dX12_readRule_0 ?_
  refine az_cV0 (st := []) dX12_readRule_1 ml_X12_162 e0 (m_nextR (d := d - 1) (e := e) (c := []) (c' := []) (sc := sc) (b := b) (n := n) (fr := fr) (k0 := k0) (by omega) H.1 H.2.1 (by have h1 := H.2.1; have h2 := H.2.2.1; have h3 := rd_en_le2 (b := b) h1; exact Nat.le_trans h2 h3) H.2.2.2.1 H.2.2.2.2 ?_)
  intro h1 H1 mf1
  obtain ⟨a1, z1, ki1, nu1, wa1, e1, w1, hki1, hnu1⟩ := H1.o
  obtain ⟨g, h68, hg⟩ := H1.g
  refine az_aload_n dX12_readRule_4 ?_
  refine az_iconst (v := nI 0) dX12_readRule_5 ?_
  refine az_aload_n dX12_readRule_6 ?_
  refine az_getf (v := .ref 68) dX12_readRule_7 fl_X12_24 e1 ?_
  refine az_iconst (v := nI 1) dX12_readRule_10 ?_
  refine az_ialdN (j := 1) dX12_readRule_11 h68 ?_ (by decide)
  rw [show g 1 = v.1 from ((hg _ _ rfl).2.2 1 (by omega)).trans hV.1.2.1]
  refine az_iconst (v := nI 1) dX12_readRule_12 ?_
  refine az_isubN dX12_readRule_13 (by omega) ?_
  refine az_cV0 (st := []) dX12_readRule_14 ml_X12_206 e1 (m_takes (d := d - 1) (lo := 0) (hi := v.1 - 1) (by omega) (by omega) (by omega) H1 ?_)
  intro h2 y1 H2 mf2 hy1
  obtain ⟨r2, q2⟩ : ∃ x : rd_R, x = rd_tn b n 0 (v.1 - 1) (rd_en b n e) [] := ⟨_, rfl⟩
  have H2 : mr_R h2 sc b n fr k0 r2 := (by rw [q2]; exact H2)
  obtain ⟨a2, z2, ki2, nu2, wa2, e2, w2, hki2, hnu2⟩ := H2.o
  refine az_istore_n (ls' := [(0, .ref 64), (1, .int y1)]) dX12_readRule_17 ?_
  refine az_aload_n dX12_readRule_18 ?_
  refine az_iconst (v := nI 1) dX12_readRule_19 ?_
  refine az_cV0 (st := []) dX12_readRule_20 ml_X12_210 e2 (m_spells (d := d - 1) (m := 1) (by omega) (by decide) H2 ?_)
  intro h3 y3 H3 mf3 hy3
  obtain ⟨sp3, h69, hs3⟩ := sp_0 H3.1 hy3
  obtain ⟨r3, q3⟩ : ∃ x : rd_R, x = rd_b r2 (rd_tl b n 1) := ⟨_, rfl⟩
  rw [← q3] at H3
  obtain ⟨a3, z3, ki3, nu3, wa3, e3, w3, hki3, hnu3⟩ := H3.o
  refine az_pop dX12_readRule_23 ?_
  refine az_bipush (v := nI 15) dX12_readRule_24 ?_
  refine az_iconst (v := nI 5) dX12_readRule_26 ?_
  refine az_bipush (v := nI 6) dX12_readRule_27 ?_
  refine az_iload_n dX12_readRule_29 ?_
  refine az_imul dX12_readRule_30 ?_
  refine az_aload_n dX12_readRule_31 ?_
  refine az_getf (v := .ref 69) dX12_readRule_32 fl_X12_30 e3 ?_
  refine az_iconst (v := nI 0) dX12_readRule_35 ?_
  refine az_ialdN (j := 0) dX12_readRule_36 h69 ?_ (by decide)
  refine az_iadd dX12_readRule_37 ?_
  refine az_imul dX12_readRule_38 ?_
  refine az_iadd dX12_readRule_39 ?_
  refine az_istore_n (ls' := [(0, .ref 64), (1, .int y1), (2, .int ((nI 15) + ((nI 5) * (((nI 6) * y1) + (sp3 0)))))]) dX12_readRule_40 ?_
  refine az_aload_n dX12_readRule_41 ?_
  refine az_bipush (v := nI 31) dX12_readRule_42 ?_
  refine az_cV0 (st := []) dX12_readRule_44 ml_X12_185 e3 (m_eats (d := d - 1) (k9 := 31) (by omega) (by decide) H3 ?_ ?_)
  · intro ee4 cc4 hr4 hm4 h4 H4 mf4
    rw [← tok_1 (tkS (fun e => ks_58)) (fun e c q => (H3.le e c q).1) hr4 hm4] at H4
    obtain ⟨r4, q4⟩ : ∃ x : rd_R, x = rd_b r3 (rd_ts b n 58) := ⟨_, rfl⟩
    rw [← q4] at H4
    obtain ⟨a4, z4, ki4, nu4, wa4, e4, w4, hki4, hnu4⟩ := H4.o
    refine az_if_neN (tgt := 55) dX12_readRule_47 (fun c47 => ?_) (fun c47 => ?_)
    · refine az_iconst (v := nI 0) dX12_readRule_55 ?_
      refine az_istore_n (ls' := [(0, .ref 64), (1, .int y1), (2, .int ((nI 15) + ((nI 5) * (((nI 6) * y1) + (sp3 0))))), (3, .int (nI 0))]) dX12_readRule_56 ?_
      refine az_aload_n dX12_readRule_57 ?_
      refine az_iconst (v := nI 5) dX12_readRule_58 ?_
      refine az_cV0 (st := []) dX12_readRule_59 ml_X12_185 e4 (m_eats (d := d - 1) (k9 := 5) (by omega) (by decide) H4 ?_ ?_)
      · intro ee5 cc5 hr5 hm5 h5 H5 mf5
        rw [← nt_1 hr5 (H4.le _ _ hr5).1 hm5] at H5
        obtain ⟨r5, q5⟩ : ∃ x : rd_R, x = rd_b r4 (rd_nt b n) := ⟨_, rfl⟩
        rw [← q5] at H5
        obtain ⟨a5, z5, ki5, nu5, wa5, e5, w5, hki5, hnu5⟩ := H5.o
        refine az_if_neN (tgt := 71) dX12_readRule_62 (fun c62 => ?_) (fun c62 => ?_)
        · refine az_aload_n dX12_readRule_71 ?_
          refine az_getf (v := .int (nI (mr_w (r5)))) dX12_readRule_72 fl_X12_153 e5 ?_
          refine az_if_eqN (tgt := 79) dX12_readRule_75 (fun c75 => ?_) (fun c75 => ?_)
          · obtain ⟨e9, c9, hr9⟩ := mr_w0 H5 c75
            obtain ⟨p1, p2, p4, u1, u2, u4, rfl, u5, u6, uR⟩ := (rule_x (v := v) q2 q3 q4 q5).2 e9 c9 hr9
            have hy := hy1 (rd_en b n e) [] _ rfl (q2.symm.trans u1)
            have hin := rd_tn_in (q2.symm.trans u1)
            obtain ⟨hs, hl6⟩ := hs3 p1 [] _ u1 u5
            obtain ⟨g', h68', hg'⟩ := H5.g
            obtain ⟨g1, g2, g3⟩ := hg' e9 [] hr9
            have HT := H5.1
            rw [hr9] at H5
            obtain ⟨va, hva⟩ : ∃ x, x = rd_va b n (rd_en b n e) := ⟨_, rfl⟩
            obtain ⟨le9, hle9⟩ : ∃ x, x = b (rd_fr b n p1) - 97 := ⟨_, rfl⟩
            rw [← hva] at hin hy uR
            rw [← hle9] at hs hl6 uR
            rw [hy, hs, show nI 15 + nI 5 * (nI 6 * nI va + nI le9) = nI (15 + 5 * (va * 6 + le9)) from (by rw [nI_mul, nI_add, nI_mul, nI_add, show 6 * va = va * 6 by omega])]
            first | (have _g := hno5; have hn4 : ¬ rd_isW b n p4 "nothing" := (fun q => hno5 p4 [] u4 ((kw_nothing (H4.le p4 [] u4).1).mpr q)); rw [rd_nt, if_neg hn4] at u6; obtain ⟨ky, k1, k2, k3, sp, h69', hsp⟩ := hy6 p4 [] _ u4 u6; rw [ky]; refine m_ruleT (N := rd_en b n p4 - rd_fr b n p4) k1 (by omega) e5 h68' h69' (fun h6 g6 w1 w2 w3 w4 mf6 => hQ h6 ?_ ((((((mf1.wk (L' := [64, 68, 69])).tr mf2 (by decide)).tr mf3 (by decide)).tr mf4 (by decide)).tr mf5 (by decide)).tr mf6 (by decide))); rw [uR, if_neg hn4, if_neg hn4]; exact mr_R.L (L := []) (k0 := k0) H5 mf6 w1 ((w4 205 (by omega)).trans g1) ((hV.cg g3 hB.2.2.1 hB.2.2.2).rl hB (by omega) k1 w2 (fun i hi => (w3 i hi).trans ((hsp i hi).trans (by rw [rd_ls, if_pos (by omega), show (va * 6 + le9) * 4 + i - (va * 6 + le9) * 4 = i by omega]))) w4 (fun j hj => (by rw [rd_ls, if_neg (by omega)])))) | (have hy4 : rd_isW b n p4 "nothing" := (by have hpe : p4 = ee5 := (by have q := u4.symm.trans hr5; injection q with q; injection q); rw [← hpe] at hm5; exact (kw_nothing (H4.le p4 [] u4).1).mp hm5); obtain ⟨t1, t2, t3, sp, h69'⟩ := HT; obtain ⟨sp', rfl⟩ := nI_ex sp; refine m_ruleT (N := 0) (by decide) (by omega) e5 h68' h69' (fun h6 g6 w1 w2 w3 w4 mf6 => hQ h6 ?_ ((((((mf1.wk (L' := [64, 68, 69])).tr mf2 (by decide)).tr mf3 (by decide)).tr mf4 (by decide)).tr mf5 (by decide)).tr mf6 (by decide))); rw [uR, if_pos hy4, if_pos hy4]; exact mr_R.L (L := []) (k0 := k0) H5 mf6 w1 ((w4 205 (by omega)).trans g1) ((hV.cg g3 hB.2.2.1 hB.2.2.2).rl hB (by omega) (by decide) w2 (fun i hi => absurd hi (Nat.not_lt_zero i)) w4 (fun j hj => rfl)))
          · exact az_vret dX12_readRule_78 (by obtain ⟨x, hx⟩ := mr_w1 c75; refine hQ h5 ?_ (((((mf1.wk (L' := [64, 68, 69])).tr mf2 (by decide)).tr mf3 (by decide)).tr mf4 (by decide)).tr mf5 (by decide)); rw [(rule_x (v := v) q2 q3 q4 q5).1 x hx]; rw [hx] at H5; exact H5)
        · exact absurd c62 (by omega)
      · intro hno5
        refine az_if_neN (tgt := 71) dX12_readRule_62 (fun c62 => ?_) (fun c62 => ?_)
        · exact absurd c62 (by omega)
        · refine az_aload_n dX12_readRule_65 ?_
          refine az_iconst (v := nI 4) dX12_readRule_66 ?_
          refine az_cV0 (st := []) dX12_readRule_67 ml_X12_210 e4 (m_spells (d := d - 1) (m := 4) (by omega) (by decide) H4 ?_)
          intro h5 y6 H5 mf5 hy6
          rw [← nt_0 (fun e c q => (H4.le e c q).1) hno5] at H5
          obtain ⟨r5, q5⟩ : ∃ x : rd_R, x = rd_b r4 (rd_nt b n) := ⟨_, rfl⟩
          rw [← q5] at H5
          obtain ⟨a5, z5, ki5, nu5, wa5, e5, w5, hki5, hnu5⟩ := H5.o
          refine az_istore_n (ls' := [(0, .ref 64), (1, .int y1), (2, .int ((nI 15) + ((nI 5) * (((nI 6) * y1) + (sp3 0))))), (3, .int y6)]) dX12_readRule_70 ?_
          refine az_aload_n dX12_readRule_71 ?_
          refine az_getf (v := .int (nI (mr_w (r5)))) dX12_readRule_72 fl_X12_153 e5 ?_
          refine az_if_eqN (tgt := 79) dX12_readRule_75 (fun c75 => ?_) (fun c75 => ?_)
          · obtain ⟨e9, c9, hr9⟩ := mr_w0 H5 c75
            obtain ⟨p1, p2, p4, u1, u2, u4, rfl, u5, u6, uR⟩ := (rule_x (v := v) q2 q3 q4 q5).2 e9 c9 hr9
            have hy := hy1 (rd_en b n e) [] _ rfl (q2.symm.trans u1)
            have hin := rd_tn_in (q2.symm.trans u1)
            obtain ⟨hs, hl6⟩ := hs3 p1 [] _ u1 u5
            obtain ⟨g', h68', hg'⟩ := H5.g
            obtain ⟨g1, g2, g3⟩ := hg' e9 [] hr9
            have HT := H5.1
            rw [hr9] at H5
            obtain ⟨va, hva⟩ : ∃ x, x = rd_va b n (rd_en b n e) := ⟨_, rfl⟩
            obtain ⟨le9, hle9⟩ : ∃ x, x = b (rd_fr b n p1) - 97 := ⟨_, rfl⟩
            rw [← hva] at hin hy uR
            rw [← hle9] at hs hl6 uR
            rw [hy, hs, show nI 15 + nI 5 * (nI 6 * nI va + nI le9) = nI (15 + 5 * (va * 6 + le9)) from (by rw [nI_mul, nI_add, nI_mul, nI_add, show 6 * va = va * 6 by omega])]
            first | (have _g := hno5; have hn4 : ¬ rd_isW b n p4 "nothing" := (fun q => hno5 p4 [] u4 ((kw_nothing (H4.le p4 [] u4).1).mpr q)); rw [rd_nt, if_neg hn4] at u6; obtain ⟨ky, k1, k2, k3, sp, h69', hsp⟩ := hy6 p4 [] _ u4 u6; rw [ky]; refine m_ruleT (N := rd_en b n p4 - rd_fr b n p4) k1 (by omega) e5 h68' h69' (fun h6 g6 w1 w2 w3 w4 mf6 => hQ h6 ?_ ((((((mf1.wk (L' := [64, 68, 69])).tr mf2 (by decide)).tr mf3 (by decide)).tr mf4 (by decide)).tr mf5 (by decide)).tr mf6 (by decide))); rw [uR, if_neg hn4, if_neg hn4]; exact mr_R.L (L := []) (k0 := k0) H5 mf6 w1 ((w4 205 (by omega)).trans g1) ((hV.cg g3 hB.2.2.1 hB.2.2.2).rl hB (by omega) k1 w2 (fun i hi => (w3 i hi).trans ((hsp i hi).trans (by rw [rd_ls, if_pos (by omega), show (va * 6 + le9) * 4 + i - (va * 6 + le9) * 4 = i by omega]))) w4 (fun j hj => (by rw [rd_ls, if_neg (by omega)])))) | (have hy4 : rd_isW b n p4 "nothing" := (by have hpe : p4 = ee5 := (by have q := u4.symm.trans hr5; injection q with q; injection q); rw [← hpe] at hm5; exact (kw_nothing (H4.le p4 [] u4).1).mp hm5); obtain ⟨t1, t2, t3, sp, h69'⟩ := HT; obtain ⟨sp', rfl⟩ := nI_ex sp; refine m_ruleT (N := 0) (by decide) (by omega) e5 h68' h69' (fun h6 g6 w1 w2 w3 w4 mf6 => hQ h6 ?_ ((((((mf1.wk (L' := [64, 68, 69])).tr mf2 (by decide)).tr mf3 (by decide)).tr mf4 (by decide)).tr mf5 (by decide)).tr mf6 (by decide))); rw [uR, if_pos hy4, if_pos hy4]; exact mr_R.L (L := []) (k0 := k0) H5 mf6 w1 ((w4 205 (by omega)).trans g1) ((hV.cg g3 hB.2.2.1 hB.2.2.2).rl hB (by omega) (by decide) w2 (fun i hi => absurd hi (Nat.not_lt_zero i)) w4 (fun j hj => rfl)))
          · exact az_vret dX12_readRule_78 (by obtain ⟨x, hx⟩ := mr_w1 c75; refine hQ h5 ?_ (((((mf1.wk (L' := [64, 68, 69])).tr mf2 (by decide)).tr mf3 (by decide)).tr mf4 (by decide)).tr mf5 (by decide)); rw [(rule_x (v := v) q2 q3 q4 q5).1 x hx]; rw [hx] at H5; exact H5)
    · exact absurd c47 (by omega)
  · intro hno4
    refine az_if_neN (tgt := 55) dX12_readRule_47 (fun c47 => ?_) (fun c47 => ?_)
    · exact absurd c47 (by omega)
    · refine az_aload_n dX12_readRule_50 ?_
      refine az_iconst (v := nI 2) dX12_readRule_51 ?_
      refine az_cV0 (st := []) dX12_readRule_52 ml_X12_165 e3 (m_fails (d := d - 1) (f9 := 2) (by decide) (by decide) H3 ?_)
      intro h4 H4 mf4
      rw [← tok_0 (tkS (fun e => ks_58)) (fun e c q => (H3.le e c q).1) hno4] at H4
      obtain ⟨r4, q4⟩ : ∃ x : rd_R, x = rd_b r3 (rd_ts b n 58) := ⟨_, rfl⟩
      rw [← q4] at H4
      obtain ⟨a4, z4, ki4, nu4, wa4, e4, w4, hki4, hnu4⟩ := H4.o
      refine az_iconst (v := nI 0) dX12_readRule_55 ?_
      refine az_istore_n (ls' := [(0, .ref 64), (1, .int y1), (2, .int ((nI 15) + ((nI 5) * (((nI 6) * y1) + (sp3 0))))), (3, .int (nI 0))]) dX12_readRule_56 ?_
      refine az_aload_n dX12_readRule_57 ?_
      refine az_iconst (v := nI 5) dX12_readRule_58 ?_
      refine az_cV0 (st := []) dX12_readRule_59 ml_X12_185 e4 (m_eats (d := d - 1) (k9 := 5) (by omega) (by decide) H4 ?_ ?_)
      · intro ee5 cc5 hr5 hm5 h5 H5 mf5
        rw [← nt_1 hr5 (H4.le _ _ hr5).1 hm5] at H5
        obtain ⟨r5, q5⟩ : ∃ x : rd_R, x = rd_b r4 (rd_nt b n) := ⟨_, rfl⟩
        rw [← q5] at H5
        obtain ⟨a5, z5, ki5, nu5, wa5, e5, w5, hki5, hnu5⟩ := H5.o
        refine az_if_neN (tgt := 71) dX12_readRule_62 (fun c62 => ?_) (fun c62 => ?_)
        · refine az_aload_n dX12_readRule_71 ?_
          refine az_getf (v := .int (nI (mr_w (r5)))) dX12_readRule_72 fl_X12_153 e5 ?_
          refine az_if_eqN (tgt := 79) dX12_readRule_75 (fun c75 => ?_) (fun c75 => ?_)
          · obtain ⟨e9, c9, hr9⟩ := mr_w0 H5 c75
            obtain ⟨p1, p2, p4, u1, u2, u4, rfl, u5, u6, uR⟩ := (rule_x (v := v) q2 q3 q4 q5).2 e9 c9 hr9
            have hy := hy1 (rd_en b n e) [] _ rfl (q2.symm.trans u1)
            have hin := rd_tn_in (q2.symm.trans u1)
            obtain ⟨hs, hl6⟩ := hs3 p1 [] _ u1 u5
            obtain ⟨g', h68', hg'⟩ := H5.g
            obtain ⟨g1, g2, g3⟩ := hg' e9 [] hr9
            have HT := H5.1
            rw [hr9] at H5
            obtain ⟨va, hva⟩ : ∃ x, x = rd_va b n (rd_en b n e) := ⟨_, rfl⟩
            obtain ⟨le9, hle9⟩ : ∃ x, x = b (rd_fr b n p1) - 97 := ⟨_, rfl⟩
            rw [← hva] at hin hy uR
            rw [← hle9] at hs hl6 uR
            rw [hy, hs, show nI 15 + nI 5 * (nI 6 * nI va + nI le9) = nI (15 + 5 * (va * 6 + le9)) from (by rw [nI_mul, nI_add, nI_mul, nI_add, show 6 * va = va * 6 by omega])]
            first | (have _g := hno5; have hn4 : ¬ rd_isW b n p4 "nothing" := (fun q => hno5 p4 [] u4 ((kw_nothing (H4.le p4 [] u4).1).mpr q)); rw [rd_nt, if_neg hn4] at u6; obtain ⟨ky, k1, k2, k3, sp, h69', hsp⟩ := hy6 p4 [] _ u4 u6; rw [ky]; refine m_ruleT (N := rd_en b n p4 - rd_fr b n p4) k1 (by omega) e5 h68' h69' (fun h6 g6 w1 w2 w3 w4 mf6 => hQ h6 ?_ ((((((mf1.wk (L' := [64, 68, 69])).tr mf2 (by decide)).tr mf3 (by decide)).tr mf4 (by decide)).tr mf5 (by decide)).tr mf6 (by decide))); rw [uR, if_neg hn4, if_neg hn4]; exact mr_R.L (L := []) (k0 := k0) H5 mf6 w1 ((w4 205 (by omega)).trans g1) ((hV.cg g3 hB.2.2.1 hB.2.2.2).rl hB (by omega) k1 w2 (fun i hi => (w3 i hi).trans ((hsp i hi).trans (by rw [rd_ls, if_pos (by omega), show (va * 6 + le9) * 4 + i - (va * 6 + le9) * 4 = i by omega]))) w4 (fun j hj => (by rw [rd_ls, if_neg (by omega)])))) | (have hy4 : rd_isW b n p4 "nothing" := (by have hpe : p4 = ee5 := (by have q := u4.symm.trans hr5; injection q with q; injection q); rw [← hpe] at hm5; exact (kw_nothing (H4.le p4 [] u4).1).mp hm5); obtain ⟨t1, t2, t3, sp, h69'⟩ := HT; obtain ⟨sp', rfl⟩ := nI_ex sp; refine m_ruleT (N := 0) (by decide) (by omega) e5 h68' h69' (fun h6 g6 w1 w2 w3 w4 mf6 => hQ h6 ?_ ((((((mf1.wk (L' := [64, 68, 69])).tr mf2 (by decide)).tr mf3 (by decide)).tr mf4 (by decide)).tr mf5 (by decide)).tr mf6 (by decide))); rw [uR, if_pos hy4, if_pos hy4]; exact mr_R.L (L := []) (k0 := k0) H5 mf6 w1 ((w4 205 (by omega)).trans g1) ((hV.cg g3 hB.2.2.1 hB.2.2.2).rl hB (by omega) (by decide) w2 (fun i hi => absurd hi (Nat.not_lt_zero i)) w4 (fun j hj => rfl)))
          · exact az_vret dX12_readRule_78 (by obtain ⟨x, hx⟩ := mr_w1 c75; refine hQ h5 ?_ (((((mf1.wk (L' := [64, 68, 69])).tr mf2 (by decide)).tr mf3 (by decide)).tr mf4 (by decide)).tr mf5 (by decide)); rw [(rule_x (v := v) q2 q3 q4 q5).1 x hx]; rw [hx] at H5; exact H5)
        · exact absurd c62 (by omega)
      · intro hno5
        refine az_if_neN (tgt := 71) dX12_readRule_62 (fun c62 => ?_) (fun c62 => ?_)
        · exact absurd c62 (by omega)
        · refine az_aload_n dX12_readRule_65 ?_
          refine az_iconst (v := nI 4) dX12_readRule_66 ?_
          refine az_cV0 (st := []) dX12_readRule_67 ml_X12_210 e4 (m_spells (d := d - 1) (m := 4) (by omega) (by decide) H4 ?_)
          intro h5 y6 H5 mf5 hy6
          rw [← nt_0 (fun e c q => (H4.le e c q).1) hno5] at H5
          obtain ⟨r5, q5⟩ : ∃ x : rd_R, x = rd_b r4 (rd_nt b n) := ⟨_, rfl⟩
          rw [← q5] at H5
          obtain ⟨a5, z5, ki5, nu5, wa5, e5, w5, hki5, hnu5⟩ := H5.o
          refine az_istore_n (ls' := [(0, .ref 64), (1, .int y1), (2, .int ((nI 15) + ((nI 5) * (((nI 6) * y1) + (sp3 0))))), (3, .int y6)]) dX12_readRule_70 ?_
          refine az_aload_n dX12_readRule_71 ?_
          refine az_getf (v := .int (nI (mr_w (r5)))) dX12_readRule_72 fl_X12_153 e5 ?_
          refine az_if_eqN (tgt := 79) dX12_readRule_75 (fun c75 => ?_) (fun c75 => ?_)
          · obtain ⟨e9, c9, hr9⟩ := mr_w0 H5 c75
            obtain ⟨p1, p2, p4, u1, u2, u4, rfl, u5, u6, uR⟩ := (rule_x (v := v) q2 q3 q4 q5).2 e9 c9 hr9
            have hy := hy1 (rd_en b n e) [] _ rfl (q2.symm.trans u1)
            have hin := rd_tn_in (q2.symm.trans u1)
            obtain ⟨hs, hl6⟩ := hs3 p1 [] _ u1 u5
            obtain ⟨g', h68', hg'⟩ := H5.g
            obtain ⟨g1, g2, g3⟩ := hg' e9 [] hr9
            have HT := H5.1
            rw [hr9] at H5
            obtain ⟨va, hva⟩ : ∃ x, x = rd_va b n (rd_en b n e) := ⟨_, rfl⟩
            obtain ⟨le9, hle9⟩ : ∃ x, x = b (rd_fr b n p1) - 97 := ⟨_, rfl⟩
            rw [← hva] at hin hy uR
            rw [← hle9] at hs hl6 uR
            rw [hy, hs, show nI 15 + nI 5 * (nI 6 * nI va + nI le9) = nI (15 + 5 * (va * 6 + le9)) from (by rw [nI_mul, nI_add, nI_mul, nI_add, show 6 * va = va * 6 by omega])]
            first | (have _g := hno5; have hn4 : ¬ rd_isW b n p4 "nothing" := (fun q => hno5 p4 [] u4 ((kw_nothing (H4.le p4 [] u4).1).mpr q)); rw [rd_nt, if_neg hn4] at u6; obtain ⟨ky, k1, k2, k3, sp, h69', hsp⟩ := hy6 p4 [] _ u4 u6; rw [ky]; refine m_ruleT (N := rd_en b n p4 - rd_fr b n p4) k1 (by omega) e5 h68' h69' (fun h6 g6 w1 w2 w3 w4 mf6 => hQ h6 ?_ ((((((mf1.wk (L' := [64, 68, 69])).tr mf2 (by decide)).tr mf3 (by decide)).tr mf4 (by decide)).tr mf5 (by decide)).tr mf6 (by decide))); rw [uR, if_neg hn4, if_neg hn4]; exact mr_R.L (L := []) (k0 := k0) H5 mf6 w1 ((w4 205 (by omega)).trans g1) ((hV.cg g3 hB.2.2.1 hB.2.2.2).rl hB (by omega) k1 w2 (fun i hi => (w3 i hi).trans ((hsp i hi).trans (by rw [rd_ls, if_pos (by omega), show (va * 6 + le9) * 4 + i - (va * 6 + le9) * 4 = i by omega]))) w4 (fun j hj => (by rw [rd_ls, if_neg (by omega)])))) | (have hy4 : rd_isW b n p4 "nothing" := (by have hpe : p4 = ee5 := (by have q := u4.symm.trans hr5; injection q with q; injection q); rw [← hpe] at hm5; exact (kw_nothing (H4.le p4 [] u4).1).mp hm5); obtain ⟨t1, t2, t3, sp, h69'⟩ := HT; obtain ⟨sp', rfl⟩ := nI_ex sp; refine m_ruleT (N := 0) (by decide) (by omega) e5 h68' h69' (fun h6 g6 w1 w2 w3 w4 mf6 => hQ h6 ?_ ((((((mf1.wk (L' := [64, 68, 69])).tr mf2 (by decide)).tr mf3 (by decide)).tr mf4 (by decide)).tr mf5 (by decide)).tr mf6 (by decide))); rw [uR, if_pos hy4, if_pos hy4]; exact mr_R.L (L := []) (k0 := k0) H5 mf6 w1 ((w4 205 (by omega)).trans g1) ((hV.cg g3 hB.2.2.1 hB.2.2.2).rl hB (by omega) (by decide) w2 (fun i hi => absurd hi (Nat.not_lt_zero i)) w4 (fun j hj => rfl)))
          · exact az_vret dX12_readRule_78 (by obtain ⟨x, hx⟩ := mr_w1 c75; refine hQ h5 ?_ (((((mf1.wk (L' := [64, 68, 69])).tr mf2 (by decide)).tr mf3 (by decide)).tr mf4 (by decide)).tr mf5 (by decide)); rw [(rule_x (v := v) q2 q3 q4 q5).1 x hx]; rw [hx] at H5; exact H5)
