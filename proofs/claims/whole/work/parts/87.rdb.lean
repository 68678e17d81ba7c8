/-! Reader: letters taken -/
theorem rd_k1 {b : Nat → Nat} {n e : Nat} (he : e ≤ n) (hk : rd_kd b n e = 1) : ∀ j, rd_fr b n e ≤ j → j < rd_en b n e → 97 ≤ b j ∧ b j ≤ 122 := by
  have h1 := rd_en_lt (b := b) he (by omega)
  have ha : rd_fr b n e < n := by omega
  have hL : 97 ≤ b (rd_fr b n e) ∧ b (rd_fr b n e) ≤ 122 := by
    refine Classical.byContradiction (fun q => ?_)
    by_cases hD : 48 ≤ b (rd_fr b n e) ∧ b (rd_fr b n e) ≤ 57
    · rw [rd_kd, (rd_kA_2 ha hD).1] at hk
      split at hk <;> omega
    · rw [rd_kd, (rd_kA_3 ha q hD).1] at hk
      split at hk <;> omega
  intro j h2 h3
  by_cases e0 : j = rd_fr b n e
  · rw [e0]; exact hL
  · refine rd_ro_in b 97 122 (n - (rd_fr b n e + 1)) (rd_fr b n e + 1) j (by omega) ?_
    rw [← (rd_kA_1 ha hL).2]
    exact h3
abbrev rd_af (b : Nat → Nat) (n e : Nat) : Prop := ∀ i, i < rd_en b n e - rd_fr b n e → b (rd_fr b n e + i) ≤ 102
def rd_tl (b : Nat → Nat) (n most : Nat) : rd_P := fun e c => if rd_kd b n e ≠ 1 then rd_fail b n 2 e else if ¬ rd_af b n e then rd_fail b n 2 e else if most < rd_en b n e - rd_fr b n e then rd_fail b n 3 e else .inl (rd_en b n e, c)
def rd_fA (h h' : az_Hp) (q iA : Nat) : Prop := h'.1 = h.1 ∧ ∀ z, z ≠ q → z ≠ q + 3 → z ≠ iA → h'.2 z = h.2 z
theorem az_I_inj {m m' : Nat} {g g' : Nat → Int32} (h : (some (az_I m g) : Option az_C) = some (az_I m' g')) : m = m' := by
  unfold az_I at h
  injection h with h
  injection h with h
  injection h with h1 h2
  injection h2
theorem rd_Sw.upA {hp : az_Hp} {q tx n e iA m : Nat} {b : Nat → Nat} {c : List Nat} {va : Int32} {g g' : Nat → Int32} (hS : rd_Sw hp q tx n b e c va) (hA : hp.2 iA = some (az_I m g)) (h1 : iA ≠ q ∧ iA ≠ q + 3 ∧ iA ≠ tx) : rd_Sw (az_up hp iA (az_I m g')) q tx n b e c va := by
  obtain ⟨⟨x1, x2, x3, tf, x4, x5⟩, he, hc, cf, ol, h0, h3, hcf, h2⟩ := hS
  refine ⟨⟨x1, x2, x3, tf, az_up_ne x4, x5⟩, he, hc, cf, ?_⟩
  by_cases e2 : iA = q + 2
  · rw [e2] at hA
    have hm := az_I_inj (hA.symm.trans h2)
    subst hm
    exact ⟨g', az_up_ne h0, az_up_ne h3, hcf, by rw [← e2]; exact az_up_eq⟩
  · exact ⟨ol, az_up_ne h0, az_up_ne h3, hcf, az_up_ne h2⟩
set_option maxHeartbeats 4000000 in
set_option maxRecDepth 100000 in
theorem s_takeLetters {d q tx n e most at9 iA m : Nat} {b : Nat → Nat} {c : List Nat} {va : Int32} {g : Nat → Int32} {hp : az_Hp} {Q : Option Value → az_Hp → Prop} (hd : 6 ≤ d) (hW : rd_Sw hp q tx n b e c va) (hA : hp.2 iA = some (az_I m g)) (hi9 : iA ≠ q ∧ iA ≠ q + 3 ∧ iA ≠ tx) (hm : at9 + most ≤ m) (hm9 : m ≤ 900)
    (hQ1 : rd_tl b n most e c = .inl (rd_en b n e, c) → 1 ≤ (rd_en b n e - rd_fr b n e) → (rd_en b n e - rd_fr b n e) ≤ most → ∀ (h' : az_Hp) (g' : Nat → Int32), (∀ j, j < (rd_en b n e - rd_fr b n e) → g' (at9 + j) = nI (b (rd_fr b n e + j) - 97)) → (∀ j, j < (rd_en b n e - rd_fr b n e) → b (rd_fr b n e + j) - 97 < 6) → (∀ j, (j < at9 ∨ at9 + (rd_en b n e - rd_fr b n e) ≤ j) → g' j = g j) → h'.2 iA = some (az_I m g') → rd_Sw h' q tx n b (rd_en b n e) c (nI (rd_en b n e - rd_fr b n e)) → rd_fA hp h' q iA → Q (some (.int (nI 1))) h') (hQ0 : ∀ f p, rd_tl b n most e c = .inr (f, p) → ∀ h', rd_Er h' q tx n b f p e c.length → rd_f hp h' q → Q (some (.int (nI 0))) h') : az_M mX5_takeLetters d 0 0 [.ref q, .int (nI most), .ref iA, .int (nI at9)] hp Q := by
  obtain ⟨hX, he, hc, cf, ol, h0, h3, hcf, h2⟩ := id hW
  obtain ⟨hb, hn, ht9, tf, ht, htf⟩ := id hX
  obtain ⟨i1, i2, i3⟩ := id hi9
  have hk4 := rd_kd_le b n e
  have hel := rd_en_le (b := b) he
  have wr : ∀ (k : Nat) (j : Nat) (g' : Nat → Int32) (h' : az_Hp) (hk1 : rd_kd b n e = 1) (haf : rd_af b n e) (hmn : (rd_en b n e - rd_fr b n e) ≤ most) (hm1 : 1 ≤ (rd_en b n e - rd_fr b n e)), (rd_en b n e - rd_fr b n e) - j = k → (j ≤ (rd_en b n e - rd_fr b n e)) → (∀ i, i < j → g' (at9 + i) = nI (b (rd_fr b n e + i) - 97)) → (∀ i, (i < at9 ∨ at9 + j ≤ i) → g' i = g i) → (h' = az_up hp iA (az_I m g')) → az_W mX5_takeLetters d 0 0 92 [(0, .ref q), (1, .int (nI most)), (2, .ref iA), (3, .int (nI at9)), (4, .int (nI ((rd_en b n e - rd_fr b n e)))), (5, .int (nI j))] [] h' Q := by
    intro k
    induction k using Nat.strongRecOn with
    | _ k ih =>
    intro j g' h' hk1 haf hmn hm1 hk hj9 hg ho hh
    refine az_iload dX5_takeLetters_92 ?_
    refine az_iload dX5_takeLetters_94 ?_
    refine az_icmp_geN (tgt := 126) dX5_takeLetters_96 (fun c96 => ?_) (fun c96 => ?_)
    · have hW' : rd_Sw h' q tx n b e c va := (by rw [hh]; exact hW.upA hA hi9)
      refine az_aload_n dX5_takeLetters_126 ?_
      refine az_cV0 (st := []) dX5_takeLetters_127 ml_X5_41 (by rw [hh]; exact az_up_ne h0) (s_adv (d := d - 1) (by omega) hW' ?_)
      intro h1 hS1 hf1
      obtain ⟨va1, hW1, hce1, hv1⟩ := id hS1
      obtain ⟨hX1, he1, hc1, cf1, ol1, g1, g3, hcf1, g2⟩ := id hW1
      refine az_aload_n dX5_takeLetters_130 ?_
      refine az_iload dX5_takeLetters_131 ?_
      refine az_putf (fs' := [.int (nI 0), .int ((-1)), .ref tx, .int (nI n), .int (nI (rd_kd b n (rd_en b n e))), .int (nI (rd_fr b n (rd_en b n e))), .int (nI (rd_en b n (rd_en b n e))), .int (nI ((rd_en b n e - rd_fr b n e))), .ref (q + 2), .ref (q + 3), .int (nI c.length)]) dX5_takeLetters_133 fl_X5_69 g1 ?_
      refine az_iconst (v := nI 1) dX5_takeLetters_136 ?_
      exact az_iret dX5_takeLetters_137 (hQ1 (by rw [rd_tl, if_neg (fun q9 => q9 hk1), if_neg (fun q9 => q9 haf), if_neg (by omega)]) (by omega) hmn _ g' (fun i q9 => hg i (by omega)) (fun i q9 => (by have := haf i q9; omega)) (fun i q9 => ho i (by omega)) (az_up_ne (hf1.at (by rw [hh]; exact az_up_eq))) ⟨hX1.fr rd_f.rf.up, he1, hc1, cf1, ol1, az_up_eq, az_up_ne g3, hcf1, az_up_ne g2⟩ ⟨hf1.1.trans (by rw [hh]; rfl), fun z u1 u2 u3 => (by rw [az_up_ne rfl, hf1.2 z u1 u2, hh, az_up_ne rfl])⟩)
    · refine az_aload_n dX5_takeLetters_99 ?_
      refine az_iload_n dX5_takeLetters_100 ?_
      refine az_iload dX5_takeLetters_101 ?_
      refine az_iaddN dX5_takeLetters_103 ?_
      refine az_aload_n dX5_takeLetters_104 ?_
      refine az_getf (v := .ref tx) dX5_takeLetters_105 fl_X5_18 (by rw [hh]; exact az_up_ne h0) ?_
      refine az_aload_n dX5_takeLetters_108 ?_
      refine az_getf (v := .int (nI (rd_fr b n e))) dX5_takeLetters_109 fl_X5_204 (by rw [hh]; exact az_up_ne h0) ?_
      refine az_iload dX5_takeLetters_112 ?_
      refine az_iaddN dX5_takeLetters_114 ?_
      have hk9 := rd_k1 he hk1 (rd_fr b n e + j) (by omega) (by omega)
      refine az_baldN (j := (rd_fr b n e) + j) dX5_takeLetters_115 (by rw [hh]; exact az_up_ne ht) ?_
      rw [htf _ (by omega), bI_nI (by omega)]
      refine az_bipush (v := nI 97) dX5_takeLetters_116 ?_
      refine az_isubN dX5_takeLetters_118 (by omega) ?_
      refine az_iastN (j := at9 + j) dX5_takeLetters_119 (by rw [hh]; exact az_up_eq) ?_
      refine az_iincN (n := 1) (ls' := [(0, .ref q), (1, .int (nI most)), (2, .ref iA), (3, .int (nI at9)), (4, .int (nI ((rd_en b n e - rd_fr b n e)))), (5, .int (nI (j + 1)))]) dX5_takeLetters_120 ?_
      refine az_goto (tgt := 92) dX5_takeLetters_123 ?_
      exact ih _ (by omega) (j + 1) (az_s g' (at9 + j) (nI (b (rd_fr b n e + j) - 97))) _ hk1 haf hmn hm1 rfl (by omega) (fun i q9 => if e9 : i = j then (by rw [e9, az_s_eq]) else (by rw [az_s_ne (by omega)]; exact hg i (by omega))) (fun i q9 => (by rw [az_s_ne (by omega)]; exact ho i (by omega))) (by rw [hh, az_up_up])
  have sc : ∀ (k : Nat) (i : Nat) (hk1 : rd_kd b n e = 1), rd_en b n e - i = k → (rd_fr b n e ≤ i) → (i ≤ rd_en b n e) → (∀ j, rd_fr b n e + j < i → b (rd_fr b n e + j) ≤ 102) → az_W mX5_takeLetters d 0 0 20 [(0, .ref q), (1, .int (nI most)), (2, .ref iA), (3, .int (nI at9)), (4, .int (nI i))] [] hp Q := by
    intro k
    induction k using Nat.strongRecOn with
    | _ k ih =>
    intro i hk1 hk hi1 hi2 hin
    refine az_iload dX5_takeLetters_20 ?_
    refine az_aload_n dX5_takeLetters_22 ?_
    refine az_getf (v := .int (nI (rd_en b n e))) dX5_takeLetters_23 fl_X5_38 h0 ?_
    refine az_icmp_geN (tgt := 53) dX5_takeLetters_26 (fun c26 => ?_) (fun c26 => ?_)
    · have haf : rd_af b n e := (fun j q9 => hin j (by omega))
      have hlt := rd_en_lt (b := b) he (by omega)
      refine az_aload_n dX5_takeLetters_53 ?_
      refine az_getf (v := .int (nI (rd_en b n e))) dX5_takeLetters_54 fl_X5_38 h0 ?_
      refine az_aload_n dX5_takeLetters_57 ?_
      refine az_getf (v := .int (nI (rd_fr b n e))) dX5_takeLetters_58 fl_X5_204 h0 ?_
      refine az_isubN dX5_takeLetters_61 (by omega) ?_
      refine az_istore (ls' := [(0, .ref q), (1, .int (nI most)), (2, .ref iA), (3, .int (nI at9)), (4, .int (nI ((rd_en b n e) - (rd_fr b n e))))]) dX5_takeLetters_62 ?_
      refine az_iload dX5_takeLetters_64 ?_
      refine az_iload_n dX5_takeLetters_66 ?_
      refine az_icmp_gtN (tgt := 83) dX5_takeLetters_67 (fun c67 => ?_) (fun c67 => ?_)
      · refine az_aload_n dX5_takeLetters_83 ?_
        refine az_iconst (v := nI 3) dX5_takeLetters_84 ?_
        refine az_cV0 (st := []) dX5_takeLetters_85 ml_X5_128 h0 (s_failR (d := d - 1) hW (fun h2' hE2 hf2 => ?_))
        exact az_iret dX5_takeLetters_88 (hQ0 _ _ (by rw [rd_tl, if_neg (fun q9 => q9 hk1), if_neg (fun q9 => q9 haf), if_pos (by omega)]; rfl) h2' hE2 hf2)
      · refine az_iload_n dX5_takeLetters_70 ?_
        refine az_if_ltN (tgt := 83) dX5_takeLetters_71 (fun c71 => ?_) (fun c71 => ?_)
        · first | exact c71.elim | exact absurd c71 (by omega)
        · refine az_iload_n dX5_takeLetters_74 ?_
          refine az_iload dX5_takeLetters_75 ?_
          refine az_iaddN dX5_takeLetters_77 ?_
          refine az_aload_n dX5_takeLetters_78 ?_
          refine az_alen dX5_takeLetters_79 hA ?_
          refine az_icmp_leN (tgt := 89) dX5_takeLetters_80 (fun c80 => ?_) (fun c80 => ?_)
          · refine az_iconst (v := nI 0) dX5_takeLetters_89 ?_
            refine az_istore (ls' := [(0, .ref q), (1, .int (nI most)), (2, .ref iA), (3, .int (nI at9)), (4, .int (nI ((rd_en b n e) - (rd_fr b n e)))), (5, .int (nI 0))]) dX5_takeLetters_90 ?_
            exact wr _ 0 g hp hk1 haf (by omega) (by omega) rfl (Nat.zero_le _) (fun i q9 => absurd q9 (by omega)) (fun i _ => rfl) (az_up_same hA).symm
          · exact absurd c80 (by omega)
    · refine az_aload_n dX5_takeLetters_29 ?_
      refine az_getf (v := .ref tx) dX5_takeLetters_30 fl_X5_18 h0 ?_
      refine az_iload dX5_takeLetters_33 ?_
      have hk9 := rd_k1 he hk1 i (by omega) (by omega)
      refine az_baldN (j := i) dX5_takeLetters_35 ht ?_
      rw [htf i (by omega)]
      refine az_bipush (v := nI 102) dX5_takeLetters_36 ?_
      refine az_icmp_le (tgt := 47) dX5_takeLetters_38 (fun c38 => ?_) (fun c38 => ?_)
      · refine az_iincN (n := 1) (ls' := [(0, .ref q), (1, .int (nI most)), (2, .ref iA), (3, .int (nI at9)), (4, .int (nI (i + 1)))]) dX5_takeLetters_47 ?_
        refine az_goto (tgt := 20) dX5_takeLetters_50 ?_
        exact ih _ (by omega) (i + 1) hk1 rfl (by omega) (by omega) (fun j q9 => if e9 : rd_fr b n e + j = i then (by rw [e9]; rw [bI_le (hb i) (by omega)] at c38; omega) else hin j (by omega))
      · refine az_aload_n dX5_takeLetters_41 ?_
        refine az_iconst (v := nI 2) dX5_takeLetters_42 ?_
        refine az_cV0 (st := []) dX5_takeLetters_43 ml_X5_128 h0 (s_failR (d := d - 1) hW (fun h2' hE2 hf2 => ?_))
        exact az_iret dX5_takeLetters_46 (hQ0 _ _ (by rw [rd_tl, if_neg (fun q9 => q9 hk1), if_pos (fun q9 => (by rw [bI_le (hb i) (by omega)] at c38; have h9 := q9 (i - rd_fr b n e) (by omega); rw [show rd_fr b n e + (i - rd_fr b n e) = i by omega] at h9; omega))]; rfl) h2' hE2 hf2)
  refine az_M.of rfl (Nat.le_of_ble_eq_true rfl) ?_
  show az_W _ _ _ _ 0 [(0, .ref q), (1, .int (nI most)), (2, .ref iA), (3, .int (nI at9))] [] _ _
  refine az_aload_n dX5_takeLetters_0 ?_
  refine az_getf (v := .int (nI (rd_kd b n e))) dX5_takeLetters_1 fl_X5_51 h0 ?_
  refine az_iconst (v := nI 1) dX5_takeLetters_4 ?_
  refine az_icmp_eqN (tgt := 14) dX5_takeLetters_5 (fun c5 => ?_) (fun c5 => ?_)
  · refine az_aload_n dX5_takeLetters_14 ?_
    refine az_getf (v := .int (nI (rd_fr b n e))) dX5_takeLetters_15 fl_X5_204 h0 ?_
    refine az_istore (ls' := [(0, .ref q), (1, .int (nI most)), (2, .ref iA), (3, .int (nI at9)), (4, .int (nI (rd_fr b n e)))]) dX5_takeLetters_18 ?_
    exact sc _ (rd_fr b n e) c5 rfl (Nat.le_refl _) hel.1 (fun j q9 => absurd q9 (by omega))
  · refine az_aload_n dX5_takeLetters_8 ?_
    refine az_iconst (v := nI 2) dX5_takeLetters_9 ?_
    refine az_cV0 (st := []) dX5_takeLetters_10 ml_X5_128 h0 (s_failR (d := d - 1) hW (fun h2' hE2 hf2 => ?_))
    exact az_iret dX5_takeLetters_13 (hQ0 _ _ (by rw [rd_tl, if_pos c5]; rfl) h2' hE2 hf2)
