/-! Finder: search -/
theorem byte6 {v : Nat} (h : v < 6) : (nI v).toInt8.toInt32 = nI v := by
  revert v; decide
set_option maxRecDepth 100000 in
theorem s_cellOf {d k x s : Nat} {hp : az_Hp} {Q : Option Value → az_Hp → Prop} (hk : k ≤ 60) (hx : x < 6) (hs : s < 6) (hQ : Q (some (.int (nI ((k * 6 + x) * 6 + s)))) hp) : az_M mX0_cellOf d 0 0 [.int (nI k), .int (nI x), .int (nI s)] hp Q := by
  refine az_M.of rfl (Nat.le_of_ble_eq_true rfl) ?_
  show az_W _ _ _ _ 0 [(0, .int (nI k)), (1, .int (nI x)), (2, .int (nI s))] [] _ _
  refine az_iload_n dX0_cellOf_0 ?_
  refine az_bipush (v := nI 6) dX0_cellOf_1 ?_
  refine az_imulN dX0_cellOf_3 ?_
  refine az_iload_n dX0_cellOf_4 ?_
  refine az_iaddN dX0_cellOf_5 ?_
  refine az_bipush (v := nI 6) dX0_cellOf_6 ?_
  refine az_imulN dX0_cellOf_8 ?_
  refine az_iload_n dX0_cellOf_9 ?_
  refine az_iaddN dX0_cellOf_10 ?_
  exact az_iret dX0_cellOf_11 (hQ)
/-- what is told of the letter y of night k from state s on is right -/
def fd_E (w : ln_W) (bs : List Nat) (g : Nat → Nat) (n : Nat) (sG : Nat → Int32) (hN : Nat → Nat) (k y s : Nat) : Prop := sG ((k * 6 + y) * 6 + s) = nI (fa_s g n s (ln_run w (bs.drop k) [y])) ∧ hN ((k * 6 + y) * 6 + s) = min (fa_h g n s (ln_run w (bs.drop k) [y])) 2000000000000
theorem run_take {w : ln_W} {bs : List Nat} {lv x : Nat} (h : lv < bs.length) : ln_run w (bs.drop (lv + 1)) ((ln_sub w (bs.getD lv 0) x).take (ln_sz w (bs.getD lv 0 * 6 + x))) = ln_run w (bs.drop lv) [x] := by
  rw [drop_getD h, ln_run_cons, ← ln_sub_len, List.take_length]
  simp
theorem run_step {w : ln_W} {bs : List Nat} {tb x i : Nat} (h : i < ln_sz w (tb * 6 + x)) : ln_run w bs ((ln_sub w tb x).take (i + 1)) = ln_run w bs ((ln_sub w tb x).take i) ++ ln_run w bs [ln_ch w ((tb * 6 + x) * 4 + i)] := by
  rw [take_getD (by rw [ln_sub_len]; exact h), sub_getD h, ln_run_app]
set_option maxHeartbeats 4000000 in
set_option maxRecDepth 100000 in
theorem s_searchLetter {d q a t n mo ni lv x : Nat} {g : Nat → Nat} {w : ln_W} {bs : List Nat} {v5 v6 : Value} {sG0 : Nat → Int32} {hN0 : Nat → Nat} {hp : az_Hp} {Q : Option Value → az_Hp → Prop} (hd : 1 ≤ d) (hw : ln_ok w) (hb : ln_by w bs) (hT : ln_To hp t w q (q + 6)) (hS : ln_Scene hp a t w mo ni bs) (hqa : q + 6 ≤ a ∨ a + 8 ≤ q) (hn6 : n ≤ 6) (h0 : hp.2 q = some (az_O 0 [.ref (q + 1), .int (nI n), .ref (q + 2), .ref (q + 3), .ref (q + 4), v5, v6, .ref (q + 5)])) (hlv : lv < bs.length) (hx : x < 6) (h3 : hp.2 (q + 3) = some (az_Y 2196 sG0)) (h4 : hp.2 (q + 4) = some (az_J 2196 (fun j => lN (hN0 j)))) (hF0 : ∀ k y s, lv + 1 ≤ k → k ≤ bs.length → y < 6 → s < n → fd_E w bs g n sG0 hN0 k y s) (hQ : ∀ (h' : az_Hp) (sG : Nat → Int32) (hN : Nat → Nat), h'.2 (q + 3) = some (az_Y 2196 sG) → h'.2 (q + 4) = some (az_J 2196 (fun j => lN (hN j))) → az_fr hp h' (q + 3) (q + 5) → (∀ s, s < n → fd_E w bs g n sG hN lv x s) → (∀ j, (j < (lv * 6 + x) * 6 ∨ (lv * 6 + x) * 6 + 6 ≤ j) → sG j = sG0 j ∧ hN j = hN0 j) → Q none h') : az_M mX0_searchLetter d 0 0 [.ref q, .ref a, .int (nI lv), .int (nI x)] hp Q := by
  obtain ⟨hi, fr, la, no, wa, nc, g0, -, g2, t2, -⟩ := id hS
  obtain ⟨a4, a5, hT0, -⟩ := id hT
  have h60 := hb.1
  have hb3 : bs.getD lv 0 < 3 := Nat.lt_of_lt_of_le (hb.2.1 _ (getD_mem hlv)) hw.2.1
  have hz4 := hw.2.2.2.2.2.2.1 (bs.getD lv 0 * 6 + x)
  have inner : ∀ (k : Nat) (s i sv now : Nat) (h' : az_Hp) (sG : Nat → Int32) (hN : Nat → Nat) (hs : s < n) (e3 : h'.2 (q + 3) = some (az_Y 2196 sG)) (e4 : h'.2 (q + 4) = some (az_J 2196 (fun j => lN (hN j)))) (hfr : az_fr hp h' (q + 3) (q + 5)) (hF : ∀ k y s, lv + 1 ≤ k → k ≤ bs.length → y < 6 → s < n → fd_E w bs g n sG hN k y s) (hK : ∀ sv : Nat, sv ≤ 4 * 2000000000000 → min sv 2000000000000 = min (fa_h g n s (ln_run w (bs.drop lv) [x])) 2000000000000 → az_W mX0_searchLetter d 0 0 98 [(0, .ref q), (1, .ref a), (2, .int (nI lv)), (3, .int (nI x)), (4, .int (nI (bs.getD lv 0))), (5, .int (nI (ln_sz w (bs.getD lv 0 * 6 + x)))), (6, .int (nI s)), (7, .int (nI (fa_s g n s (ln_run w (bs.drop lv) [x])))), (8, .long (lN sv)), (10, .int (nI (ln_sz w (bs.getD lv 0 * 6 + x))))] [] h' Q), ln_sz w (bs.getD lv 0 * 6 + x) - i = k → (i ≤ ln_sz w (bs.getD lv 0 * 6 + x)) → (min sv 2000000000000 = min (fa_h g n s (ln_run w (bs.drop (lv + 1)) ((ln_sub w (bs.getD lv 0) x).take i))) 2000000000000) → (sv ≤ i * 2000000000000) → (now = fa_s g n s (ln_run w (bs.drop (lv + 1)) ((ln_sub w (bs.getD lv 0) x).take i))) → az_W mX0_searchLetter d 0 0 42 [(0, .ref q), (1, .ref a), (2, .int (nI lv)), (3, .int (nI x)), (4, .int (nI (bs.getD lv 0))), (5, .int (nI (ln_sz w (bs.getD lv 0 * 6 + x)))), (6, .int (nI s)), (7, .int (nI now)), (8, .long (lN sv)), (10, .int (nI i))] [] h' Q := by
    intro k
    induction k using Nat.strongRecOn with
    | _ k ih =>
    intro s i sv now h' sG hN hs e3 e4 hfr hF hK hk hi4 hsv hsc hnw
    have hT' : ln_Town h' t w := (hT.fr (hfr.wide (lo' := q) (hi' := q + 6))).town
    obtain ⟨a4', a5', hT0', -⟩ := id hT'
    refine az_iload dX0_searchLetter_42 ?_
    refine az_iload dX0_searchLetter_44 ?_
    refine az_icmp_geN (tgt := 98) dX0_searchLetter_46 (fun c46 => ?_) (fun c46 => ?_)
    · have h4c : sv ≤ 4 * 2000000000000 := Nat.le_trans hsc (Nat.mul_le_mul_right _ (Nat.le_trans hi4 hz4))
      obtain rfl : i = ln_sz w (bs.getD lv 0 * 6 + x) := by omega
      rw [run_take hlv] at hsv hnw
      subst hnw
      exact hK sv h4c hsv
    · refine az_iload_n dX0_searchLetter_49 ?_
      refine az_iconst (v := nI 1) dX0_searchLetter_50 ?_
      refine az_iaddN dX0_searchLetter_51 ?_
      refine az_aload_n dX0_searchLetter_52 ?_
      refine az_getf (v := .ref t) dX0_searchLetter_53 fl_X0_65 (hfr.at g0) ?_
      refine az_iload dX0_searchLetter_56 ?_
      refine az_iload_n dX0_searchLetter_58 ?_
      refine az_iload dX0_searchLetter_59 ?_
      refine az_cV0 (st := [.int (nI (lv + 1))]) dX0_searchLetter_61 ml_X0_74 hT0' (s_childOf (d := d - 1) hT' hb3 hx (i := i) (by omega) ?_)
      have hc6 := hw.2.2.2.2.2.2.2.1 ((bs.getD lv 0 * 6 + x) * 4 + i)
      have hnow : now < n := by rw [hnw]; exact fa_s_lt (g := g) (ln_run w (bs.drop (lv + 1)) ((ln_sub w (bs.getD lv 0) x).take i)) hs
      have hE := hF (lv + 1) (ln_ch w ((bs.getD lv 0 * 6 + x) * 4 + i)) now (Nat.le_refl _) (by omega) hc6 hnow
      refine az_iload dX0_searchLetter_64 ?_
      refine az_cS0 (st := []) dX0_searchLetter_66 ml_X0_54 (s_cellOf (d := d - 1) (k := lv + 1) (x := ln_ch w ((bs.getD lv 0 * 6 + x) * 4 + i)) (s := now) (by omega) hc6 (by omega) ?_)
      refine az_istore (ls' := [(0, .ref q), (1, .ref a), (2, .int (nI lv)), (3, .int (nI x)), (4, .int (nI (bs.getD lv 0))), (5, .int (nI (ln_sz w (bs.getD lv 0 * 6 + x)))), (6, .int (nI s)), (7, .int (nI now)), (8, .long (lN sv)), (10, .int (nI i)), (11, .int (nI (((lv + 1) * 6 + ln_ch w ((bs.getD lv 0 * 6 + x) * 4 + i)) * 6 + now)))]) dX0_searchLetter_69 ?_
      refine az_lload dX0_searchLetter_71 ?_
      refine az_aload_n dX0_searchLetter_73 ?_
      refine az_getf (v := .ref (q + 4)) dX0_searchLetter_74 fl_X0_22 (hfr.at h0) ?_
      refine az_iload dX0_searchLetter_77 ?_
      refine az_laldN (j := ((lv + 1) * 6 + ln_ch w ((bs.getD lv 0 * 6 + x) * 4 + i)) * 6 + now) dX0_searchLetter_79 e4 ?_
      rw [hE.2]
      refine az_laddN dX0_searchLetter_80 ?_
      refine az_lstore (ls' := [(0, .ref q), (1, .ref a), (2, .int (nI lv)), (3, .int (nI x)), (4, .int (nI (bs.getD lv 0))), (5, .int (nI (ln_sz w (bs.getD lv 0 * 6 + x)))), (6, .int (nI s)), (7, .int (nI now)), (8, .long (lN (sv + (min (fa_h g n now (ln_run w (bs.drop (lv + 1)) [ln_ch w ((bs.getD lv 0 * 6 + x) * 4 + i)])) 2000000000000)))), (10, .int (nI i)), (11, .int (nI (((lv + 1) * 6 + ln_ch w ((bs.getD lv 0 * 6 + x) * 4 + i)) * 6 + now)))]) dX0_searchLetter_81 ?_
      refine az_aload_n dX0_searchLetter_83 ?_
      refine az_getf (v := .ref (q + 3)) dX0_searchLetter_84 fl_X0_18 (hfr.at h0) ?_
      refine az_iload dX0_searchLetter_87 ?_
      refine az_baldN (j := ((lv + 1) * 6 + ln_ch w ((bs.getD lv 0 * 6 + x) * 4 + i)) * 6 + now) dX0_searchLetter_89 e3 ?_
      rw [hE.1]
      refine az_istore (ls' := [(0, .ref q), (1, .ref a), (2, .int (nI lv)), (3, .int (nI x)), (4, .int (nI (bs.getD lv 0))), (5, .int (nI (ln_sz w (bs.getD lv 0 * 6 + x)))), (6, .int (nI s)), (7, .int (nI (fa_s g n now (ln_run w (bs.drop (lv + 1)) [ln_ch w ((bs.getD lv 0 * 6 + x) * 4 + i)])))), (8, .long (lN (sv + (min (fa_h g n now (ln_run w (bs.drop (lv + 1)) [ln_ch w ((bs.getD lv 0 * 6 + x) * 4 + i)])) 2000000000000)))), (10, .int (nI i)), (11, .int (nI (((lv + 1) * 6 + ln_ch w ((bs.getD lv 0 * 6 + x) * 4 + i)) * 6 + now)))]) dX0_searchLetter_90 ?_
      refine az_iincN (n := 1) (ls' := [(0, .ref q), (1, .ref a), (2, .int (nI lv)), (3, .int (nI x)), (4, .int (nI (bs.getD lv 0))), (5, .int (nI (ln_sz w (bs.getD lv 0 * 6 + x)))), (6, .int (nI s)), (7, .int (nI (fa_s g n now (ln_run w (bs.drop (lv + 1)) [ln_ch w ((bs.getD lv 0 * 6 + x) * 4 + i)])))), (8, .long (lN (sv + (min (fa_h g n now (ln_run w (bs.drop (lv + 1)) [ln_ch w ((bs.getD lv 0 * 6 + x) * 4 + i)])) 2000000000000)))), (10, .int (nI (i + 1))), (11, .int (nI (((lv + 1) * 6 + ln_ch w ((bs.getD lv 0 * 6 + x) * 4 + i)) * 6 + now)))]) dX0_searchLetter_92 ?_
      refine az_goto (tgt := 42) dX0_searchLetter_95 ?_
      refine az_W.keep (ls' := [(0, .ref q), (1, .ref a), (2, .int (nI lv)), (3, .int (nI x)), (4, .int (nI (bs.getD lv 0))), (5, .int (nI (ln_sz w (bs.getD lv 0 * 6 + x)))), (6, .int (nI s)), (7, .int (nI (fa_s g n now (ln_run w (bs.drop (lv + 1)) [ln_ch w ((bs.getD lv 0 * 6 + x) * 4 + i)])))), (8, .long (lN (sv + (min (fa_h g n now (ln_run w (bs.drop (lv + 1)) [ln_ch w ((bs.getD lv 0 * 6 + x) * 4 + i)])) 2000000000000)))), (10, .int (nI (i + 1)))]) [0, 1, 2, 3, 4, 5, 6, 7, 8, 10] rfl ?_
      exact ih _ (by omega) s (i + 1) (sv + min (fa_h g n now (ln_run w (bs.drop (lv + 1)) [ln_ch w ((bs.getD lv 0 * 6 + x) * 4 + i)])) 2000000000000) (fa_s g n now (ln_run w (bs.drop (lv + 1)) [ln_ch w ((bs.getD lv 0 * 6 + x) * 4 + i)])) h' sG hN hs e3 e4 hfr hF hK rfl (by omega) (by rw [run_step (by omega), fa_h_app, ← hnw]; omega) (by omega) (by rw [run_step (by omega), fa_s_app, ← hnw])
  have outer : ∀ (k : Nat) (s : Nat) (h' : az_Hp) (sG : Nat → Int32) (hN : Nat → Nat), n - s = k → (s ≤ n) → (h'.2 (q + 3) = some (az_Y 2196 sG)) → (h'.2 (q + 4) = some (az_J 2196 (fun j => lN (hN j)))) → (az_fr hp h' (q + 3) (q + 5)) → (∀ k y s, lv + 1 ≤ k → k ≤ bs.length → y < 6 → s < n → fd_E w bs g n sG hN k y s) → (∀ s9, s9 < s → fd_E w bs g n sG hN lv x s9) → (∀ j, (j < (lv * 6 + x) * 6 ∨ (lv * 6 + x) * 6 + 6 ≤ j) → sG j = sG0 j ∧ hN j = hN0 j) → az_W mX0_searchLetter d 0 0 23 [(0, .ref q), (1, .ref a), (2, .int (nI lv)), (3, .int (nI x)), (4, .int (nI (bs.getD lv 0))), (5, .int (nI (ln_sz w (bs.getD lv 0 * 6 + x)))), (6, .int (nI s))] [] h' Q := by
    intro k
    induction k using Nat.strongRecOn with
    | _ k ih =>
    intro s h' sG hN hk hsn e3 e4 hfr hF hM hO
    have hT' : ln_Town h' t w := (hT.fr (hfr.wide (lo' := q) (hi' := q + 6))).town
    obtain ⟨a4', a5', hT0', -⟩ := id hT'
    refine az_iload dX0_searchLetter_23 ?_
    refine az_aload_n dX0_searchLetter_25 ?_
    refine az_getf (v := .int (nI n)) dX0_searchLetter_26 fl_X0_41 (hfr.at h0) ?_
    refine az_icmp_geN (tgt := 138) dX0_searchLetter_29 (fun c29 => ?_) (fun c29 => ?_)
    · exact az_vret dX0_searchLetter_138 (hQ h' sG hN e3 e4 hfr (fun s9 q1 => hM s9 (by omega)) hO)
    · refine az_iload dX0_searchLetter_32 ?_
      refine az_istore (ls' := [(0, .ref q), (1, .ref a), (2, .int (nI lv)), (3, .int (nI x)), (4, .int (nI (bs.getD lv 0))), (5, .int (nI (ln_sz w (bs.getD lv 0 * 6 + x)))), (6, .int (nI s)), (7, .int (nI s))]) dX0_searchLetter_34 ?_
      refine az_lconst (v := lN 0) dX0_searchLetter_36 ?_
      refine az_lstore (ls' := [(0, .ref q), (1, .ref a), (2, .int (nI lv)), (3, .int (nI x)), (4, .int (nI (bs.getD lv 0))), (5, .int (nI (ln_sz w (bs.getD lv 0 * 6 + x)))), (6, .int (nI s)), (7, .int (nI s)), (8, .long (lN 0))]) dX0_searchLetter_37 ?_
      refine az_iconst (v := nI 0) dX0_searchLetter_39 ?_
      refine az_istore (ls' := [(0, .ref q), (1, .ref a), (2, .int (nI lv)), (3, .int (nI x)), (4, .int (nI (bs.getD lv 0))), (5, .int (nI (ln_sz w (bs.getD lv 0 * 6 + x)))), (6, .int (nI s)), (7, .int (nI s)), (8, .long (lN 0)), (10, .int (nI 0))]) dX0_searchLetter_40 ?_
      refine inner _ s 0 0 s h' sG hN (by omega) e3 e4 hfr hF ?_ rfl (Nat.zero_le _) (by rw [List.take_zero, ln_run_empty]; rfl) (Nat.zero_le _) (by rw [List.take_zero, ln_run_empty]; rfl)
      intro sv hsc hsv
      have hnow := fa_s_lt (g := g) (ln_run w (bs.drop lv) [x]) (show s < n by omega)
      refine az_iload_n dX0_searchLetter_98 ?_
      refine az_iload_n dX0_searchLetter_99 ?_
      refine az_iload dX0_searchLetter_100 ?_
      refine az_cS0 (st := []) dX0_searchLetter_102 ml_X0_54 (s_cellOf (d := d - 1) (k := lv) (x := x) (s := s) (by omega) hx (by omega) ?_)
      refine az_istore (ls' := [(0, .ref q), (1, .ref a), (2, .int (nI lv)), (3, .int (nI x)), (4, .int (nI (bs.getD lv 0))), (5, .int (nI (ln_sz w (bs.getD lv 0 * 6 + x)))), (6, .int (nI s)), (7, .int (nI (fa_s g n s (ln_run w (bs.drop lv) [x])))), (8, .long (lN sv)), (10, .int (nI ((lv * 6 + x) * 6 + s)))]) dX0_searchLetter_105 ?_
      refine az_aload_n dX0_searchLetter_107 ?_
      refine az_getf (v := .ref (q + 3)) dX0_searchLetter_108 fl_X0_18 (hfr.at h0) ?_
      refine az_iload dX0_searchLetter_111 ?_
      refine az_iload dX0_searchLetter_113 ?_
      refine az_i2b dX0_searchLetter_115 ?_
      rw [byte6 (by omega)]
      refine az_bastN (j := (lv * 6 + x) * 6 + s) dX0_searchLetter_116 e3 ?_
      rw [byte6 (by omega)]
      refine az_aload_n dX0_searchLetter_117 ?_
      refine az_getf (v := .ref (q + 4)) dX0_searchLetter_118 fl_X0_22 (az_up_ne (hfr.at h0)) ?_
      refine az_iload dX0_searchLetter_121 ?_
      refine az_lload dX0_searchLetter_123 ?_
      refine az_ldc2 (v := lN 2000000000000) dX0_searchLetter_125 cn_X0_77 ?_
      refine az_lminN dX0_searchLetter_128 ml_X0_79 ?_
      refine az_lastN (j := (lv * 6 + x) * 6 + s) dX0_searchLetter_131 (az_up_ne e4) ?_
      rw [az_s_lN]
      refine az_iincN (n := 1) (ls' := [(0, .ref q), (1, .ref a), (2, .int (nI lv)), (3, .int (nI x)), (4, .int (nI (bs.getD lv 0))), (5, .int (nI (ln_sz w (bs.getD lv 0 * 6 + x)))), (6, .int (nI (s + 1))), (7, .int (nI (fa_s g n s (ln_run w (bs.drop lv) [x])))), (8, .long (lN sv)), (10, .int (nI ((lv * 6 + x) * 6 + s)))]) dX0_searchLetter_132 ?_
      refine az_goto (tgt := 23) dX0_searchLetter_135 ?_
      refine az_W.keep (ls' := [(0, .ref q), (1, .ref a), (2, .int (nI lv)), (3, .int (nI x)), (4, .int (nI (bs.getD lv 0))), (5, .int (nI (ln_sz w (bs.getD lv 0 * 6 + x)))), (6, .int (nI (s + 1)))]) [0, 1, 2, 3, 4, 5, 6] rfl ?_
      exact ih _ (by omega) (s + 1) _ (az_s sG ((lv * 6 + x) * 6 + s) (nI (fa_s g n s (ln_run w (bs.drop lv) [x])))) (az_s hN ((lv * 6 + x) * 6 + s) (min sv 2000000000000)) rfl (by omega) (az_up_ne az_up_eq) az_up_eq hfr.up.up (fun k y s q1 q2 q3 q4 => (by unfold fd_E; rw [az_s_ne (by omega), az_s_ne (by omega)]; exact hF k y s q1 q2 q3 q4)) (fun s9 q1 => if e : s9 = s then (by unfold fd_E; rw [e, az_s_eq, az_s_eq]; exact ⟨rfl, hsv⟩) else (by unfold fd_E; rw [az_s_ne (by omega), az_s_ne (by omega)]; exact hM s9 (by omega))) (fun j q1 => (by rw [az_s_ne (by omega), az_s_ne (by omega)]; exact hO j q1))
  refine az_M.of rfl (Nat.le_of_ble_eq_true rfl) ?_
  show az_W _ _ _ _ 0 [(0, .ref q), (1, .ref a), (2, .int (nI lv)), (3, .int (nI x))] [] _ _
  refine az_aload_n dX0_searchLetter_0 ?_
  refine az_getf (v := .ref (a + 2)) dX0_searchLetter_1 fl_X0_62 g0 ?_
  refine az_iload_n dX0_searchLetter_4 ?_
  refine az_ialdN (j := lv) dX0_searchLetter_5 g2 ?_
  rw [t2 lv hlv]
  refine az_istore (ls' := [(0, .ref q), (1, .ref a), (2, .int (nI lv)), (3, .int (nI x)), (4, .int (nI (bs.getD lv 0)))]) dX0_searchLetter_6 ?_
  refine az_aload_n dX0_searchLetter_8 ?_
  refine az_getf (v := .ref t) dX0_searchLetter_9 fl_X0_65 g0 ?_
  refine az_iload dX0_searchLetter_12 ?_
  refine az_iload_n dX0_searchLetter_14 ?_
  refine az_cV0 (st := []) dX0_searchLetter_15 ml_X0_69 hT0 (s_sizeOf (d := d - 1) hT.town hb3 hx ?_)
  refine az_istore (ls' := [(0, .ref q), (1, .ref a), (2, .int (nI lv)), (3, .int (nI x)), (4, .int (nI (bs.getD lv 0))), (5, .int (nI (ln_sz w (bs.getD lv 0 * 6 + x))))]) dX0_searchLetter_18 ?_
  refine az_iconst (v := nI 0) dX0_searchLetter_20 ?_
  refine az_istore (ls' := [(0, .ref q), (1, .ref a), (2, .int (nI lv)), (3, .int (nI x)), (4, .int (nI (bs.getD lv 0))), (5, .int (nI (ln_sz w (bs.getD lv 0 * 6 + x)))), (6, .int (nI 0))]) dX0_searchLetter_21 ?_
  exact outer _ 0 hp sG0 hN0 rfl (Nat.zero_le _) h3 h4 az_fr.rf hF0 (fun s9 q1 => absurd q1 (by omega)) (fun j _ => ⟨rfl, rfl⟩)
