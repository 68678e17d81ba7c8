/-! The model: a plain row; street's end -/
set_option maxHeartbeats 4000000 in
set_option maxRecDepth 100000 in
theorem m_plain {d q N : Nat} {g : Nat → Nat} {hp : az_Hp} {Q : Option Value → az_Hp → Prop} (hN : 1106 ≤ N) (h0 : hp.2 q = some (az_I N (fun j => nI (g j)))) (hQ : ∀ h' (g' : Nat → Nat), h'.2 q = some (az_I N (fun j => nI (g' j))) → mr_V g' rd_v0 0 → g' 205 = 0 → (∀ j, 1106 ≤ j → g' j = g j) → mf hp h' [q] → Q none h') : az_M mX12_plain d 0 0 [.ref q] hp Q := by
  have fin : ∀ h' (g' : Nat → Nat), h'.2 q = some (az_I N (fun j => nI (g' j))) → (g' 0 = 0 ∧ g' 1 = 1 ∧ g' 2 = 1 ∧ g' 3 = 0) → (∀ r, r < 18 → g' (15 + 5 * r) = 1 ∧ g' (15 + 5 * r + 1) = r % 6) → (∀ j, 105 ≤ j → j < 1106 → g' j = 0) → (∀ j, 1106 ≤ j → g' j = g j) → mf hp h' [q] → Q none h' := by
    intro h' g' u1 u2 u3 u4 u5 mf1
    refine hQ h' g' u1 ⟨⟨u2.1, u2.2.1, u2.2.2.1, fun k hk => ?_, fun r hr => ?_, fun r i hr hi => ?_, ⟨fun _ => u4 105 (by decide) (by decide), fun q => absurd rfl q⟩, ⟨fun _ => u4 106 (by decide) (by decide), fun q => absurd rfl q⟩⟩, ⟨u4 111 (by decide) (by decide), u4 112 (by decide) (by decide), u4 113 (by decide) (by decide), u4 114 (by decide) (by decide)⟩, fun q => absurd rfl q, fun q => absurd rfl q⟩ (u4 205 (by decide) (by decide)) u5 mf1
    · have hk : k < 1 := hk
      obtain rfl : k = 0 := by omega
      exact u2.2.2.2
    · show g' (15 + 5 * r) = if r < 18 then 1 else 0
      rw [if_pos hr]
      exact (u3 r hr).1
    · have hi : i < if r < 18 then 1 else 0 := hi
      rw [if_pos hr] at hi
      obtain rfl : i = 0 := by omega
      show g' (15 + 5 * r + 1) = if (r * 4 + 0) % 4 = 0 ∧ (r * 4 + 0) / 4 < 18 then (r * 4 + 0) / 4 % 6 else 0
      rw [if_pos (by omega), show (r * 4 + 0) / 4 = r by omega]
      exact (u3 r hr).2
  have lp2 : ∀ (k : Nat) (k9 : Nat) (h' : az_Hp) (g9 : Nat → Nat), 18 - k9 = k → (k9 ≤ 18) → (h'.2 q = some (az_I N (fun j => nI (g9 j)))) → (g9 0 = 0 ∧ g9 1 = 1 ∧ g9 2 = 1 ∧ g9 3 = 0) → (∀ r, r < k9 → g9 (15 + 5 * r) = 1 ∧ g9 (15 + 5 * r + 1) = r % 6) → (∀ j, 105 ≤ j → j < 1106 → g9 j = 0) → (∀ j, 1106 ≤ j → g9 j = g j) → (mf hp h' [q]) → az_W mX12_plain d 0 0 29 [(0, .ref q), (1, .int (nI k9))] [] h' Q := by
    intro k
    induction k using Nat.strongRecOn with
    | _ k ih =>
    intro k9 h' g9 hk hk9 h9 h4 hr9 hz9 ho mf9
    refine az_iload_n dX12_plain_29 ?_
    refine az_bipush (v := nI 18) dX12_plain_30 ?_
    refine az_icmp_geN (tgt := 64) dX12_plain_32 (fun c32 => ?_) (fun c32 => ?_)
    · exact az_vret dX12_plain_64 (fin h' g9 h9 h4 (fun r hr => hr9 r (by omega)) hz9 ho mf9)
    · refine az_aload_n dX12_plain_35 ?_
      refine az_bipush (v := nI 15) dX12_plain_36 ?_
      refine az_iconst (v := nI 5) dX12_plain_38 ?_
      refine az_iload_n dX12_plain_39 ?_
      refine az_imulN dX12_plain_40 ?_
      refine az_iaddN dX12_plain_41 ?_
      refine az_iconst (v := nI 1) dX12_plain_42 ?_
      refine az_iastN (j := 15 + (5 * k9)) dX12_plain_43 h9 ?_ (by omega)
      rw [az_s_nI]
      refine az_aload_n dX12_plain_44 ?_
      refine az_bipush (v := nI 15) dX12_plain_45 ?_
      refine az_iconst (v := nI 5) dX12_plain_47 ?_
      refine az_iload_n dX12_plain_48 ?_
      refine az_imulN dX12_plain_49 ?_
      refine az_iaddN dX12_plain_50 ?_
      refine az_iconst (v := nI 1) dX12_plain_51 ?_
      refine az_iaddN dX12_plain_52 ?_
      refine az_iload_n dX12_plain_53 ?_
      refine az_bipush (v := nI 6) dX12_plain_54 ?_
      refine az_irem dX12_plain_56 (by decide) ?_
      rw [nI_rem9 (by omega) (by decide)]
      refine az_iastN (j := (15 + (5 * k9)) + 1) dX12_plain_57 az_up_eq ?_ (by omega)
      rw [az_s_nI]
      refine az_iincN (n := 1) (ls' := [(0, .ref q), (1, .int (nI (k9 + 1)))]) dX12_plain_58 ?_
      refine az_goto (tgt := 29) dX12_plain_61 ?_
      first | (have _g := hz; exact ih _ (by omega) (i + 1) _ (az_s g9 i 0) rfl (by omega) az_up_eq (fun j hj => (by by_cases e9 : j = i; rw [e9, az_s_eq]; rw [az_s_ne e9]; exact hz j (by omega))) (fun j hj => (az_s_ne (by omega)).trans (ho j hj)) (mf9.up (List.mem_singleton.mpr rfl))) | (have _g := hr9; exact ih _ (by omega) (k9 + 1) _ (az_s (az_s g9 (15 + 5 * k9) 1) (15 + 5 * k9 + 1) (k9 % 6)) rfl (by omega) (by simp only [az_up_up]; exact az_up_eq) (by refine ⟨?_, ?_, ?_, ?_⟩ <;> rw [az_s_ne (by omega), az_s_ne (by omega)] <;> simp only [h4]) (fun r hr => (by by_cases e9 : r = k9; rw [e9, az_s_ne (by omega), az_s_eq, az_s_eq]; exact ⟨rfl, rfl⟩; rw [az_s_ne (by omega), az_s_ne (by omega), az_s_ne (by omega), az_s_ne (by omega)]; exact hr9 r (by omega))) (fun j j1 j2 => ((az_s_ne (by omega)).trans (az_s_ne (by omega))).trans (hz9 j j1 j2)) (fun j hj => ((az_s_ne (by omega)).trans (az_s_ne (by omega))).trans (ho j hj)) ((mf9.up (List.mem_singleton.mpr rfl)).up (List.mem_singleton.mpr rfl)))
  have lp1 : ∀ (k : Nat) (i : Nat) (h' : az_Hp) (g9 : Nat → Nat), 1106 - i = k → (i ≤ 1106) → (h'.2 q = some (az_I N (fun j => nI (g9 j)))) → (∀ j, j < i → g9 j = 0) → (∀ j, 1106 ≤ j → g9 j = g j) → (mf hp h' [q]) → az_W mX12_plain d 0 0 2 [(0, .ref q), (1, .int (nI i))] [] h' Q := by
    intro k
    induction k using Nat.strongRecOn with
    | _ k ih =>
    intro i h' g9 hk hi9 h9 hz ho mf9
    refine az_iload_n dX12_plain_2 ?_
    refine az_sipush (v := nI 1106) dX12_plain_3 ?_
    refine az_icmp_geN (tgt := 19) dX12_plain_6 (fun c6 => ?_) (fun c6 => ?_)
    · refine az_aload_n dX12_plain_19 ?_
      refine az_iconst (v := nI 1) dX12_plain_20 ?_
      refine az_iconst (v := nI 1) dX12_plain_21 ?_
      refine az_iastN (j := 1) dX12_plain_22 h9 ?_ (by omega)
      rw [az_s_nI]
      refine az_aload_n dX12_plain_23 ?_
      refine az_iconst (v := nI 2) dX12_plain_24 ?_
      refine az_iconst (v := nI 1) dX12_plain_25 ?_
      refine az_iastN (j := 2) dX12_plain_26 az_up_eq ?_ (by omega)
      rw [az_s_nI]
      refine az_iconst (v := nI 0) dX12_plain_27 ?_
      refine az_istore_n (ls' := [(0, .ref q), (1, .int (nI 0))]) dX12_plain_28 ?_
      exact lp2 _ 0 _ (az_s (az_s g9 1 1) 2 1) rfl (Nat.zero_le _) (by simp only [az_up_up]; exact az_up_eq) (by refine ⟨?_, ?_, ?_, ?_⟩; rw [az_s_ne (by decide), az_s_ne (by decide)]; exact hz 0 (by omega); rw [az_s_ne (by decide), az_s_eq]; exact az_s_eq; rw [az_s_ne (by decide), az_s_ne (by decide)]; exact hz 3 (by omega)) (fun r hr => absurd hr (Nat.not_lt_zero r)) (fun j j1 j2 => (by rw [az_s_ne (by omega), az_s_ne (by omega)]; exact hz j (by omega))) (fun j hj => (by rw [az_s_ne (by omega), az_s_ne (by omega)]; exact ho j hj)) ((mf9.up (List.mem_singleton.mpr rfl)).up (List.mem_singleton.mpr rfl))
    · refine az_aload_n dX12_plain_9 ?_
      refine az_iload_n dX12_plain_10 ?_
      refine az_iconst (v := nI 0) dX12_plain_11 ?_
      refine az_iastN (j := i) dX12_plain_12 h9 ?_ (by omega)
      rw [az_s_nI]
      refine az_iincN (n := 1) (ls' := [(0, .ref q), (1, .int (nI (i + 1)))]) dX12_plain_13 ?_
      refine az_goto (tgt := 2) dX12_plain_16 ?_
      first | (have _g := hz; exact ih _ (by omega) (i + 1) _ (az_s g9 i 0) rfl (by omega) az_up_eq (fun j hj => (by by_cases e9 : j = i; rw [e9, az_s_eq]; rw [az_s_ne e9]; exact hz j (by omega))) (fun j hj => (az_s_ne (by omega)).trans (ho j hj)) (mf9.up (List.mem_singleton.mpr rfl))) | (have _g := hr9; exact ih _ (by omega) (k9 + 1) _ (az_s (az_s g9 (15 + 5 * k9) 1) (15 + 5 * k9 + 1) (k9 % 6)) rfl (by omega) (by simp only [az_up_up]; exact az_up_eq) (by refine ⟨?_, ?_, ?_, ?_⟩ <;> rw [az_s_ne (by omega), az_s_ne (by omega)] <;> simp only [h4]) (fun r hr => (by by_cases e9 : r = k9; rw [e9, az_s_ne (by omega), az_s_eq, az_s_eq]; exact ⟨rfl, rfl⟩; rw [az_s_ne (by omega), az_s_ne (by omega), az_s_ne (by omega), az_s_ne (by omega)]; exact hr9 r (by omega))) (fun j j1 j2 => ((az_s_ne (by omega)).trans (az_s_ne (by omega))).trans (hz9 j j1 j2)) (fun j hj => ((az_s_ne (by omega)).trans (az_s_ne (by omega))).trans (ho j hj)) ((mf9.up (List.mem_singleton.mpr rfl)).up (List.mem_singleton.mpr rfl)))
  refine az_M.of rfl (Nat.le_of_ble_eq_true rfl) ?_
  show az_W _ _ _ _ 0 [(0, .ref q)] [] _ _
  refine az_iconst (v := nI 0) dX12_plain_0 ?_
  refine az_istore_n (ls' := [(0, .ref q), (1, .int (nI 0))]) dX12_plain_1 ?_
  exact lp1 _ 0 hp g rfl (Nat.zero_le _) h0 (fun j hj => absurd hj (Nat.not_lt_zero j)) (fun _ _ => rfl) mf.rf
theorem m_nextF {d a n : Nat} {ki nu wa : Int32} {sc : Nat → Value} {b g : Nat → Nat} {hp : az_Hp} {Q : Option Value → az_Hp → Prop} (hd : 7 ≤ d) (hT : mr_T hp b n) (h64 : hp.2 64 = some (mr_o sc a 0 n ki nu (nI 0) wa)) (h68 : hp.2 68 = some (az_I 1106 (fun j => nI (g j)))) (h5 : g 205 = 0) (hQ : ∀ h', mr_R h' sc b n g 0 (.inl (0, [])) → mf hp h' [64] → Q none h') : az_M mX12_next d 0 0 [.ref 64] hp Q := by
  obtain ⟨t1, t2, ⟨tf, t3, t4⟩, sp, t5⟩ := id hT
  refine m_next hd t1 t2 t3 t4 h64 (Nat.zero_le _) (fun k2 nu2 hk2 hnu2 => ?_)
  have hf : mf hp (az_up hp 64 (mr_o sc (rd_fr b n 0) (rd_en b n 0) n (nI k2) nu2 (nI 0) wa)) [64] := mf.rf.up (by decide)
  exact hQ _ ⟨hT.fr hf, Nat.zero_le _, Nat.le_refl _, ⟨k2, nu2, wa, hk2, hnu2, az_up_eq⟩, g, hf.at h68, h5, (fun i hi => absurd hi (Nat.not_lt_zero i)), fun _ _ => rfl⟩ hf

set_option maxHeartbeats 4000000 in
set_option maxRecDepth 100000 in
theorem m_streetDE {d a z n f p : Nat} {x ki nu : Int32} {sc : Nat → Value} {hp : az_Hp} {Q : Option Value → az_Hp → Prop} (hf1 : 1 ≤ f) (hf2 : f < 100) (h64 : hp.2 64 = some (mr_o sc a z n ki nu (nI f) (nI p))) (hQ : ∀ h', h'.2 64 = some (mr_o (su (su sc 13 (.int (nI f))) 14 (.int (nI p))) a z n ki nu (nI f) (nI p)) → mf hp h' [64] → Q (some (.int ((-30) - nI f))) h') : az_W mX12_street d 0 0 125 [(0, .ref 64), (1, .int x)] [] hp Q := by
  refine az_aload_n dX12_street_125 ?_
  refine az_aload_n dX12_street_126 ?_
  refine az_getf (v := .int (nI f)) dX12_street_127 fl_X12_153 h64 ?_
  refine az_putf (fs' := [sc 0, .ref 65, .ref 66, .ref 67, .ref 68, sc 5, .int (nI a), .int (nI z), .int (nI n), .int ki, .int nu, .int (nI f), .int (nI p), .int (nI f), sc 14, .ref 69, .ref 70, .ref 71, sc 18, .ref 72, .ref 73, .ref 74, sc 22, sc 23, .ref 75, sc 25, .ref 76, .ref 77, .ref 78, sc 29, .ref 79, .ref 80, .ref 81, .ref 82, .ref 83, .ref 84, .ref 85, sc 37, .ref 86, .ref 87, .ref 88, .ref 89, .ref 90, .ref 91, .ref 92]) dX12_street_130 fl_X12_232 h64 ?_
  refine az_aload_n dX12_street_133 ?_
  refine az_aload_n dX12_street_134 ?_
  refine az_getf (v := .int (nI f)) dX12_street_135 fl_X12_153 az_up_eq ?_
  refine az_if_neN (tgt := 145) dX12_street_138 (fun c138 => ?_) (fun c138 => ?_)
  · refine az_aload_n dX12_street_145 ?_
    refine az_getf (v := .int (nI p)) dX12_street_146 fl_X12_156 az_up_eq ?_
    refine az_putf (fs' := [sc 0, .ref 65, .ref 66, .ref 67, .ref 68, sc 5, .int (nI a), .int (nI z), .int (nI n), .int ki, .int nu, .int (nI f), .int (nI p), .int (nI f), .int (nI p), .ref 69, .ref 70, .ref 71, sc 18, .ref 72, .ref 73, .ref 74, sc 22, sc 23, .ref 75, sc 25, .ref 76, .ref 77, .ref 78, sc 29, .ref 79, .ref 80, .ref 81, .ref 82, .ref 83, .ref 84, .ref 85, sc 37, .ref 86, .ref 87, .ref 88, .ref 89, .ref 90, .ref 91, .ref 92]) dX12_street_149 fl_X12_27 az_up_eq ?_
    refine az_aload_n dX12_street_152 ?_
    refine az_getf (v := .int (nI f)) dX12_street_153 fl_X12_153 az_up_eq ?_
    refine az_if_eqN (tgt := 167) dX12_street_156 (fun c156 => ?_) (fun c156 => ?_)
    · exact absurd c156 (by omega)
    · refine az_bipush (v := (-30)) dX12_street_159 ?_
      refine az_aload_n dX12_street_161 ?_
      refine az_getf (v := .int (nI f)) dX12_street_162 fl_X12_153 az_up_eq ?_
      refine az_isub dX12_street_165 ?_
      exact az_iret dX12_street_166 (hQ _ (by simp only [az_up_up]; exact az_up_eq) ((mf.rf.up (by decide)).up (by decide)))
  · exact absurd c138 (by omega)
set_option maxHeartbeats 4000000 in
set_option maxRecDepth 100000 in
theorem m_streetDS {d a z n : Nat} {x ki nu wa : Int32} {sc : Nat → Value} {g A : Nat → Nat} {hp : az_Hp} {Q : Option Value → az_Hp → Prop} (h64 : hp.2 64 = some (mr_o sc a z n ki nu (nI 0) wa)) (h65 : hp.2 65 = some (az_I 3318 (fun j => nI (A j)))) (h68 : hp.2 68 = some (az_I 1106 (fun j => nI (g j)))) (hQ : ∀ h' (A' : Nat → Nat), h'.2 64 = some (mr_o (su (su sc 13 (.int (nI 0))) 14 (.int (-1))) a z n ki nu (nI 0) wa) → h'.2 65 = some (az_I 3318 (fun j => nI (A' j))) → (∀ j, j < 1106 → A' j = g j) → (∀ j, 1106 ≤ j → A' j = A j) → mf hp h' [64, 65] → Q (some (.int (nI (A' 0)))) h') : az_W mX12_street d 0 0 125 [(0, .ref 64), (1, .int x)] [] hp Q := by
  have lp : ∀ (k : Nat) (j : Nat) (h' : az_Hp) (A9 : Nat → Nat), 1106 - j = k → (j ≤ 1106) → (h'.2 64 = some (mr_o (su (su sc 13 (.int (nI 0))) 14 (.int (-1))) a z n ki nu (nI 0) wa)) → (h'.2 65 = some (az_I 3318 (fun i => nI (A9 i)))) → (∀ i, i < j → A9 i = g i) → (∀ i, 1106 ≤ i → A9 i = A i) → (mf hp h' [64, 65]) → az_W mX12_street d 0 0 169 [(0, .ref 64), (1, .int x), (2, .int (nI j))] [] h' Q := by
    intro k
    induction k using Nat.strongRecOn with
    | _ k ih =>
    intro j h' A9 hk hj h4 h5 hg ho mf9
    refine az_iload_n dX12_street_169 ?_
    refine az_sipush (v := nI 1106) dX12_street_170 ?_
    refine az_icmp_geN (tgt := 194) dX12_street_173 (fun c173 => ?_) (fun c173 => ?_)
    · refine az_aload_n dX12_street_194 ?_
      refine az_getf (v := .ref 65) dX12_street_195 fl_X12_13 h4 ?_
      refine az_iconst (v := nI 0) dX12_street_198 ?_
      refine az_ialdN (j := 0) dX12_street_199 h5 ?_ (by decide)
      exact az_iret dX12_street_200 (hQ h' A9 h4 h5 (fun i hi => hg i (by omega)) ho mf9)
    · refine az_aload_n dX12_street_176 ?_
      refine az_getf (v := .ref 65) dX12_street_177 fl_X12_13 h4 ?_
      refine az_iload_n dX12_street_180 ?_
      refine az_aload_n dX12_street_181 ?_
      refine az_getf (v := .ref 68) dX12_street_182 fl_X12_24 h4 ?_
      refine az_iload_n dX12_street_185 ?_
      refine az_ialdN (j := j) dX12_street_186 (mf9.at h68) ?_ (by omega)
      refine az_iastN (j := j) dX12_street_187 h5 ?_ (by omega)
      rw [az_s_nI]
      refine az_iincN (n := 1) (ls' := [(0, .ref 64), (1, .int x), (2, .int (nI (j + 1)))]) dX12_street_188 ?_
      refine az_goto (tgt := 169) dX12_street_191 ?_
      exact ih _ (by omega) (j + 1) _ (az_s A9 j (g j)) rfl (by omega) (az_up_ne h4) az_up_eq (fun i hi => (by by_cases e9 : i = j; rw [e9, az_s_eq]; rw [az_s_ne e9]; exact hg i (by omega))) (fun i hi => (az_s_ne (by omega)).trans (ho i hi)) (mf9.up (by decide))
  refine az_aload_n dX12_street_125 ?_
  refine az_aload_n dX12_street_126 ?_
  refine az_getf (v := .int (nI 0)) dX12_street_127 fl_X12_153 h64 ?_
  refine az_putf (fs' := [sc 0, .ref 65, .ref 66, .ref 67, .ref 68, sc 5, .int (nI a), .int (nI z), .int (nI n), .int ki, .int nu, .int (nI 0), .int wa, .int (nI 0), sc 14, .ref 69, .ref 70, .ref 71, sc 18, .ref 72, .ref 73, .ref 74, sc 22, sc 23, .ref 75, sc 25, .ref 76, .ref 77, .ref 78, sc 29, .ref 79, .ref 80, .ref 81, .ref 82, .ref 83, .ref 84, .ref 85, sc 37, .ref 86, .ref 87, .ref 88, .ref 89, .ref 90, .ref 91, .ref 92]) dX12_street_130 fl_X12_232 h64 ?_
  refine az_aload_n dX12_street_133 ?_
  refine az_aload_n dX12_street_134 ?_
  refine az_getf (v := .int (nI 0)) dX12_street_135 fl_X12_153 az_up_eq ?_
  refine az_if_neN (tgt := 145) dX12_street_138 (fun c138 => ?_) (fun c138 => ?_)
  · exact absurd c138 (by omega)
  · refine az_iconst (v := (-1)) dX12_street_141 ?_
    refine az_goto (tgt := 149) dX12_street_142 ?_
    refine az_putf (fs' := [sc 0, .ref 65, .ref 66, .ref 67, .ref 68, sc 5, .int (nI a), .int (nI z), .int (nI n), .int ki, .int nu, .int (nI 0), .int wa, .int (nI 0), .int ((-1)), .ref 69, .ref 70, .ref 71, sc 18, .ref 72, .ref 73, .ref 74, sc 22, sc 23, .ref 75, sc 25, .ref 76, .ref 77, .ref 78, sc 29, .ref 79, .ref 80, .ref 81, .ref 82, .ref 83, .ref 84, .ref 85, sc 37, .ref 86, .ref 87, .ref 88, .ref 89, .ref 90, .ref 91, .ref 92]) dX12_street_149 fl_X12_27 az_up_eq ?_
    refine az_aload_n dX12_street_152 ?_
    refine az_getf (v := .int (nI 0)) dX12_street_153 fl_X12_153 az_up_eq ?_
    refine az_if_eqN (tgt := 167) dX12_street_156 (fun c156 => ?_) (fun c156 => ?_)
    · refine az_iconst (v := nI 0) dX12_street_167 ?_
      refine az_istore_n (ls' := [(0, .ref 64), (1, .int x), (2, .int (nI 0))]) dX12_street_168 ?_
      exact lp _ 0 _ A rfl (Nat.zero_le _) (by simp only [az_up_up]; exact az_up_eq) (az_up_ne (az_up_ne h65)) (fun i hi => absurd hi (Nat.not_lt_zero i)) (fun _ _ => rfl) ((mf.rf.up (by decide)).up (by decide))
    · exact absurd c156 (by omega)
