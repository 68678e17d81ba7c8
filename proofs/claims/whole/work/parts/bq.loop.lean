/-! The law's loop -/
theorem and63 (x : Int32) : ∃ k : Nat, k < 64 ∧ x &&& nI 63 = nI k := by
  refine ⟨x.toBitVec.toNat &&& 63, ?_, ?_⟩
  · exact Nat.lt_of_le_of_lt Nat.and_le_right (by decide)
  · have h := nI_back x
    rw [← nI_and, h]
theorem len6 {L i : Nat} (hL : L ≤ 3072) (hi : i ≤ L + 6) (h : ¬ nI L - nI 6 < nI i) : i + 6 ≤ L := by
  by_cases h6 : 6 ≤ L
  · rw [nI_subN h6, nI_ltI (by omega) (by omega)] at h
    omega
  · exfalso
    apply h
    have hm : (nI L - nI 6).toInt < 0 := by
      rcases (by omega : L = 0 ∨ L = 1 ∨ L = 2 ∨ L = 3 ∨ L = 4 ∨ L = 5) with rfl | rfl | rfl | rfl | rfl | rfl <;> decide
    rw [Int32.lt_iff_toInt_lt, nI_toI (n := i) (by omega)]
    omega
set_option maxHeartbeats 4000000 in
set_option maxRecDepth 100000 in
theorem lw_loop {L : Nat} {xs : Nat → Int32} {d : Nat} {Q : Option Value → az_Hp → Prop} (hd : 81 ≤ d) (hL : L ≤ 3072) (hQ : ∀ h', Q (some (.int 1)) h') : ∀ (n : Nat) (rc rs K i : Nat) (s : cs_S) (hp : az_Hp), L - i = n → i ≤ L + 6 → cs hp s K → mm hp s → (K ≤ 32768 ∧ ∃ j, K = 2 ^ j) → 907 * ((L - i) / 6) ≤ rc → 1011 * ((L - i) / 6) + 4 * (32768 - K) ≤ rs → al_W L xs mL_law d rc rs 18 [(0, .retAddr 45), (1, .ref 0), (2, .ref 64), (3, .int (nI i))] [] hp Q := by
  intro n
  induction n using Nat.strongRecOn with
  | _ n ih =>
  intro rc rs K i s hp hn hi9 hC hM hK hrc hrs
  refine al_iload_n dL_law_18 ?_
  refine al_aload_nS dL_law_19 ?_
  refine al_slen dL_law_20 ?_
  refine al_bipush (v := nI 6) dL_law_21 ?_
  refine al_isub dL_law_23 ?_
  refine al_icmp_gt (tgt := 1640) dL_law_24 (fun c => ?_) (fun c => ?_)
  · refine al_iconst (v := 1) dL_law_1640 ?_
    exact al_iret dL_law_1641 (hQ _)
  · have hi := len6 hL hi9 c
    have hdv : (L - i) / 6 = (L - (i + 6)) / 6 + 1 := by omega
    have nxt : ∀ h' s' K' rs', cs h' s' K' → mm h' s' → (K' ≤ 32768 ∧ ∃ j, K' = 2 ^ j) → (K ≤ K' ∧ rs ≤ rs' + 1011 + 4 * (K' - K)) → al_W L xs mL_law d (rc - 907) rs' 1634 [(0, .retAddr 45), (1, .ref 0), (2, .ref 64), (3, .int (nI i))] [] h' Q := by
      intro h' s' K' rs' c1 m1 k1 k2
      have hK1 := k1.1
      have hK2 := hK.1
      refine al_iincN (n := 6) dL_law_1634 ?_
      refine al_goto (tgt := 18) dL_law_1637 ?_
      exact ih (L - (i + 6)) (by omega) (rc - 907) rs' K' (i + 6) s' h' rfl (by omega) c1 m1 k1 (by omega) (by omega)
    refine al_aload_nS dL_law_27 ?_
    refine al_iload_n dL_law_28 ?_
    refine al_sld (j := i) dL_law_29 ?_
    refine al_bipush (v := nI 63) dL_law_30 ?_
    refine al_iand dL_law_32 ?_
    obtain ⟨k, hk, hx⟩ := and63 (xs i)
    rw [hx]
    clear hx
    have hK1 := hK.1
    rcases (by omega : k = 0 ∨ k = 1 ∨ k = 2 ∨ k = 3 ∨ k = 4 ∨ k = 5 ∨ k = 6 ∨ k = 7 ∨ k = 8 ∨ k = 9 ∨ k = 10 ∨ k = 11 ∨ k = 12 ∨ k = 13 ∨ k = 14 ∨ k = 15 ∨ k = 16 ∨ k = 17 ∨ k = 18 ∨ k = 19 ∨ k = 20 ∨ k = 21 ∨ k = 22 ∨ k = 23 ∨ k = 24 ∨ k = 25 ∨ k = 26 ∨ k = 27 ∨ k = 28 ∨ k = 29 ∨ k = 30 ∨ k = 31 ∨ k = 32 ∨ k = 33 ∨ k = 34 ∨ k = 35 ∨ k = 36 ∨ k = 37 ∨ k = 38 ∨ k = 39 ∨ k = 40 ∨ 41 ≤ k) with rfl | rfl | rfl | rfl | rfl | rfl | rfl | rfl | rfl | rfl | rfl | rfl | rfl | rfl | rfl | rfl | rfl | rfl | rfl | rfl | rfl | rfl | rfl | rfl | rfl | rfl | rfl | rfl | rfl | rfl | rfl | rfl | rfl | rfl | rfl | rfl | rfl | rfl | rfl | rfl | rfl | hk9
    · exact al_tswIn (off := 179) (tgt := 212) dL_law_33 (by decide) (by decide) (by decide +kernel) (by decide) (lc_feed hd hi hL hC hM hK (by omega) (by omega) nxt)
    · exact al_tswIn (off := 242) (tgt := 275) dL_law_33 (by decide) (by decide) (by decide +kernel) (by decide) (lc_street hd hi hL hC hM hK (by omega) (by omega) nxt)
    · exact al_tswIn (off := 265) (tgt := 298) dL_law_33 (by decide) (by decide) (by decide +kernel) (by decide) (lc_fault hd hi hL hC hM hK (by omega) (by omega) nxt)
    · exact al_tswIn (off := 288) (tgt := 321) dL_law_33 (by decide) (by decide) (by decide +kernel) (by decide) (lc_becomes hd hi hL hC hM hK (by omega) (by omega) nxt)
    · exact al_tswIn (off := 331) (tgt := 364) dL_law_33 (by decide) (by decide) (by decide +kernel) (by decide) (lc_picks hd hi hL hC hM hK (by omega) (by omega) nxt)
    · exact al_tswIn (off := 344) (tgt := 377) dL_law_33 (by decide) (by decide) (by decide +kernel) (by decide) (lc_length hd hi hL hC hM hK (by omega) (by omega) nxt)
    · exact al_tswIn (off := 358) (tgt := 391) dL_law_33 (by decide) (by decide) (by decide +kernel) (by decide) (lc_letter hd hi hL hC hM hK (by omega) (by omega) nxt)
    · exact al_tswIn (off := 411) (tgt := 444) dL_law_33 (by decide) (by decide) (by decide +kernel) (by decide) (lc_count hd hi hL hC hM hK (by omega) (by omega) nxt)
    · exact al_tswIn (off := 475) (tgt := 508) dL_law_33 (by decide) (by decide) (by decide +kernel) (by decide) (lc_place hd hi hL hC hM hK (by omega) (by omega) nxt)
    · exact al_tswIn (off := 539) (tgt := 572) dL_law_33 (by decide) (by decide) (by decide +kernel) (by decide) (lc_night hd hi hL hC hM hK (by omega) (by omega) nxt)
    · exact al_tswIn (off := 563) (tgt := 596) dL_law_33 (by decide) (by decide) (by decide +kernel) (by decide) (lc_nights hd hi hL hC hM hK (by omega) (by omega) nxt)
    · exact al_tswIn (off := 586) (tgt := 619) dL_law_33 (by decide) (by decide) (by decide +kernel) (by decide) (lc_moon hd hi hL hC hM hK (by omega) (by omega) nxt)
    · exact al_tswIn (off := 609) (tgt := 642) dL_law_33 (by decide) (by decide) (by decide +kernel) (by decide) (lc_undo hd hi hL hC hM hK (by omega) (by omega) nxt)
    · exact al_tswIn (off := 632) (tgt := 665) dL_law_33 (by decide) (by decide) (by decide +kernel) (by decide) (lc_judge hd hi hL hC hM hK (by omega) (by omega) nxt)
    · exact al_tswIn (off := 665) (tgt := 698) dL_law_33 (by decide) (by decide) (by decide +kernel) (by decide) (lc_perform hd hi hL hC hM hK (by omega) (by omega) nxt)
    · exact al_tswIn (off := 688) (tgt := 721) dL_law_33 (by decide) (by decide) (by decide +kernel) (by decide) (lc_year hd hi hL hC hM hK (by omega) (by omega) nxt)
    · exact al_tswIn (off := 721) (tgt := 754) dL_law_33 (by decide) (by decide) (by decide +kernel) (by decide) (lc_occurs hd hi hL hC hM hK (by omega) (by omega) nxt)
    · exact al_tswIn (off := 745) (tgt := 778) dL_law_33 (by decide) (by decide) (by decide +kernel) (by decide) (lc_first hd hi hL hC hM hK (by omega) (by omega) nxt)
    · exact al_tswIn (off := 769) (tgt := 802) dL_law_33 (by decide) (by decide) (by decide +kernel) (by decide) (lc_backs hd hi hL hC hM hK (by omega) (by omega) nxt)
    · exact al_tswIn (off := 802) (tgt := 835) dL_law_33 (by decide) (by decide) (by decide +kernel) (by decide) (lc_backBy hd hi hL hC hM hK (by omega) (by omega) nxt)
    · exact al_tswIn (off := 845) (tgt := 878) dL_law_33 (by decide) (by decide) (by decide +kernel) (by decide) (lc_fate hd hi hL hC hM hK (by omega) (by omega) nxt)
    · exact al_tswIn (off := 878) (tgt := 911) dL_law_33 (by decide) (by decide) (by decide +kernel) (by decide) (lc_degree hd hi hL hC hM hK (by omega) (by omega) nxt)
    · exact al_tswIn (off := 911) (tgt := 944) dL_law_33 (by decide) (by decide) (by decide +kernel) (by decide) (lc_begins hd hi hL hC hM hK (by omega) (by omega) nxt)
    · exact al_tswIn (off := 934) (tgt := 967) dL_law_33 (by decide) (by decide) (by decide +kernel) (by decide) (lc_comes hd hi hL hC hM hK (by omega) (by omega) nxt)
    · exact al_tswIn (off := 957) (tgt := 990) dL_law_33 (by decide) (by decide) (by decide +kernel) (by decide) (lc_soonest hd hi hL hC hM hK (by omega) (by omega) nxt)
    · exact al_tswIn (off := 1010) (tgt := 1043) dL_law_33 (by decide) (by decide) (by decide +kernel) (by decide) (lc_way hd hi hL hC hM hK (by omega) (by omega) nxt)
    · exact al_tswIn (off := 1073) (tgt := 1106) dL_law_33 (by decide) (by decide) (by decide +kernel) (by decide) (lc_rows hd hi hL hC hM hK (by omega) (by omega) nxt)
    · exact al_tswIn (off := 1136) (tgt := 1169) dL_law_33 (by decide) (by decide) (by decide +kernel) (by decide) (lc_longBy hd hi hL hC hM hK (by omega) (by omega) nxt)
    · exact al_tswIn (off := 1159) (tgt := 1192) dL_law_33 (by decide) (by decide) (by decide +kernel) (by decide) (lc_tables hd hi hL hC hM hK (by omega) (by omega) nxt)
    · exact al_tswIn (off := 1192) (tgt := 1225) dL_law_33 (by decide) (by decide) (by decide +kernel) (by decide) (lc_moons hd hi hL hC hM hK (by omega) (by omega) nxt)
    · exact al_tswIn (off := 1215) (tgt := 1248) dL_law_33 (by decide) (by decide) (by decide +kernel) (by decide) (lc_attempt hd hi hL hC hM hK (by omega) (by omega) nxt)
    · exact al_tswIn (off := 1238) (tgt := 1271) dL_law_33 (by decide) (by decide) (by decide +kernel) (by decide) (lc_turned hd hi hL hC hM hK (by omega) (by omega) nxt)
    · exact al_tswIn (off := 1262) (tgt := 1295) dL_law_33 (by decide) (by decide) (by decide +kernel) (by decide) (lc_best hd hi hL hC hM hK (by omega) (by omega) nxt)
    · exact al_tswIn (off := 1285) (tgt := 1318) dL_law_33 (by decide) (by decide) (by decide +kernel) (by decide) (lc_chance hd hi hL hC hM hK (by omega) (by omega) nxt)
    · exact al_tswIn (off := 1318) (tgt := 1351) dL_law_33 (by decide) (by decide) (by decide +kernel) (by decide) (lc_mean hd hi hL hC hM hK (by omega) (by omega) nxt)
    · exact al_tswIn (off := 1352) (tgt := 1385) dL_law_33 (by decide) (by decide) (by decide +kernel) (by decide) (lc_numbers hd hi hL hC hM hK (by omega) (by omega) nxt)
    · exact al_tswIn (off := 1395) (tgt := 1428) dL_law_33 (by decide) (by decide) (by decide +kernel) (by decide) (lc_write hd hi hL hC hM hK (by omega) (by omega) nxt)
    · exact al_tswIn (off := 1469) (tgt := 1502) dL_law_33 (by decide) (by decide) (by decide +kernel) (by decide) (lc_lists hd hi hL hC hM hK (by omega) (by omega) nxt)
    · exact al_tswIn (off := 1532) (tgt := 1565) dL_law_33 (by decide) (by decide) (by decide +kernel) (by decide) (lc_image hd hi hL hC hM hK (by omega) (by omega) nxt)
    · exact al_tswIn (off := 1555) (tgt := 1588) dL_law_33 (by decide) (by decide) (by decide +kernel) (by decide) (lc_restore hd hi hL hC hM hK (by omega) (by omega) nxt)
    · exact al_tswIn (off := 1578) (tgt := 1611) dL_law_33 (by decide) (by decide) (by decide +kernel) (by decide) (lc_told hd hi hL hC hM hK (by omega) (by omega) nxt)
    · exact al_tswOut (tgt := 1634) dL_law_33 (Or.inr (by rw [nI_toI (by omega)]; omega)) (by decide) (al_W.room (by omega) (Nat.le_refl _) (nxt hp s K rs hC hM hK ⟨Nat.le_refl _, by omega⟩))
