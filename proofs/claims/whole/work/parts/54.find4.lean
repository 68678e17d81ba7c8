/-! Finder: hits, the first place -/
theorem word_take {w : ln_W} {bs : List Nat} {i : Nat} (h : i < ln_sd w) : ln_run w bs ((ln_word w).take (i + 1)) = ln_run w bs ((ln_word w).take i) ++ ln_run w bs [ln_st w i] := by
  have hl : i < (ln_word w).length := by simp [ln_word]; exact h
  rw [take_getD hl, ln_run_app]
  congr 2
  simp [ln_word, List.getD_eq_getElem?_getD, h]
theorem word_all (w : ln_W) (bs : List Nat) : ln_run w bs ((ln_word w).take (ln_sd w)) = ln_str w bs := by
  rw [List.take_of_length_le (by simp [ln_word])]; rfl
theorem word_drop {w : ln_W} {bs : List Nat} {i : Nat} (h : i < ln_sd w) : ln_run w bs ((ln_word w).drop i) = ln_run w bs [ln_st w i] ++ ln_run w bs ((ln_word w).drop (i + 1)) := by
  have hl : i < (ln_word w).length := by simp [ln_word]; exact h
  rw [drop_getD hl, show ∀ (y : Nat) (l : List Nat), y :: l = [y] ++ l from fun _ _ => rfl, ln_run_app]
  congr 2
  simp [ln_word, List.getD_eq_getElem?_getD, h]
theorem word_part {w : ln_W} {bs : List Nat} {i : Nat} (h : i < ln_sd w) : (ln_run w bs [ln_st w i]).length ≤ (ln_str w bs).length := by
  have h1 : ln_str w bs = ln_run w bs ((ln_word w).take i) ++ ln_run w bs ((ln_word w).drop i) := by
    rw [← ln_run_app, List.take_append_drop]; rfl
  rw [h1, word_drop h]
  simp
  omega
theorem word_take_len {w : ln_W} {bs : List Nat} (i : Nat) : (ln_run w bs ((ln_word w).take i)).length ≤ (ln_str w bs).length := by
  have h1 : ln_str w bs = ln_run w bs ((ln_word w).take i) ++ ln_run w bs ((ln_word w).drop i) := by
    rw [← ln_run_app, List.take_append_drop]; rfl
  rw [h1]
  simp
set_option maxRecDepth 100000 in
theorem s_hitsInAll {d q a t n mo ni : Nat} {g : Nat → Nat} {w : ln_W} {bs : List Nat} {v5 v6 : Value} {hp : az_Hp} {Q : Option Value → az_Hp → Prop} (hd : 1 ≤ d) (hw : ln_ok w) (hb : ln_by w bs) (hT : ln_Town hp t w) (hS : ln_Scene hp a t w mo ni bs) (hn1 : 1 ≤ n) (hn6 : n ≤ 6) (h0 : hp.2 q = some (az_O 0 [.ref (q + 1), .int (nI n), .ref (q + 2), .ref (q + 3), .ref (q + 4), v5, v6, .ref (q + 5)])) (hF : fd_T hp q w bs g n) (hQ : Q (some (.long (lN (fa_h g n 0 (ln_str w bs))))) hp) : az_M mX0_hitsInAll d 0 0 [.ref q, .ref a] hp Q := by
  obtain ⟨hi, fr, la, no, wa, nc, g0, -⟩ := id hS
  obtain ⟨a4, a5, hT0, hT1, -⟩ := id hT
  obtain ⟨sG, hN, e3, e4, hE⟩ := hF
  have hlen := hb.2.2
  have hsd := hw.2.2.2.2.1
  have loop : ∀ (k : Nat) (i now sv : Nat), ln_sd w - i = k → (i ≤ ln_sd w) → (now < n) → (now = fa_s g n 0 (ln_run w bs ((ln_word w).take i))) → (sv = fa_h g n 0 (ln_run w bs ((ln_word w).take i))) → az_W mX0_hitsInAll d 0 0 8 [(0, .ref q), (1, .ref a), (2, .long (lN sv)), (4, .int (nI now)), (5, .int (nI i))] [] hp Q := by
    intro k
    induction k using Nat.strongRecOn with
    | _ k ih =>
    intro i now sv hk hi9 hnl hnw hsv
    refine az_iload dX0_hitsInAll_8 ?_
    refine az_aload_n dX0_hitsInAll_10 ?_
    refine az_getf (v := .ref t) dX0_hitsInAll_11 fl_X0_65 g0 ?_
    refine az_getf (v := .int (nI (ln_sd w))) dX0_hitsInAll_14 fl_X0_82 hT0 ?_
    refine az_icmp_geN (tgt := 63) dX0_hitsInAll_17 (fun c17 => ?_) (fun c17 => ?_)
    · refine az_lload_n dX0_hitsInAll_63 ?_
      exact az_lret dX0_hitsInAll_64 (by rw [hsv, show i = ln_sd w by omega, word_all]; exact hQ)
    · refine az_iconst (v := nI 0) dX0_hitsInAll_20 ?_
      refine az_aload_n dX0_hitsInAll_21 ?_
      refine az_getf (v := .ref t) dX0_hitsInAll_22 fl_X0_65 g0 ?_
      refine az_getf (v := .ref (t + 1)) dX0_hitsInAll_25 fl_X0_85 hT0 ?_
      refine az_iload dX0_hitsInAll_28 ?_
      refine az_ialdN (j := i) dX0_hitsInAll_30 hT1 ?_
      refine az_iload dX0_hitsInAll_31 ?_
      have hst := hw.2.2.2.2.2.1 i
      have hE0 := hE 0 (ln_st w i) now (Nat.zero_le _) hst hnl
      unfold fd_E at hE0
      rw [List.drop_zero] at hE0
      refine az_cS0 (st := []) dX0_hitsInAll_33 ml_X0_54 (s_cellOf (d := d - 1) (k := 0) (x := ln_st w i) (s := now) (by omega) hst (by omega) ?_)
      refine az_istore (ls' := [(0, .ref q), (1, .ref a), (2, .long (lN sv)), (4, .int (nI now)), (5, .int (nI i)), (6, .int (nI ((0 * 6 + ln_st w i) * 6 + now)))]) dX0_hitsInAll_36 ?_
      refine az_lload_n dX0_hitsInAll_38 ?_
      have hm1 := fa_h_le g n now (ln_run w bs [ln_st w i])
      have hm2 := word_part (w := w) (bs := bs) (i := i) (by omega)
      have hm3 := fa_h_le g n 0 (ln_run w bs ((ln_word w).take i))
      have hm4 := word_take_len (w := w) (bs := bs) i
      refine az_aload_n dX0_hitsInAll_39 ?_
      refine az_getf (v := .ref (q + 4)) dX0_hitsInAll_40 fl_X0_22 h0 ?_
      refine az_iload dX0_hitsInAll_43 ?_
      refine az_laldN (j := (0 * 6 + ln_st w i) * 6 + now) dX0_hitsInAll_45 e4 ?_
      rw [hE0.2, Nat.min_eq_left (by omega)]
      refine az_laddN dX0_hitsInAll_46 ?_
      refine az_lstore_n (ls' := [(0, .ref q), (1, .ref a), (2, .long (lN (sv + (fa_h g n now (ln_run w bs [ln_st w i]))))), (4, .int (nI now)), (5, .int (nI i)), (6, .int (nI ((0 * 6 + ln_st w i) * 6 + now)))]) dX0_hitsInAll_47 ?_
      refine az_aload_n dX0_hitsInAll_48 ?_
      refine az_getf (v := .ref (q + 3)) dX0_hitsInAll_49 fl_X0_18 h0 ?_
      refine az_iload dX0_hitsInAll_52 ?_
      refine az_baldN (j := (0 * 6 + ln_st w i) * 6 + now) dX0_hitsInAll_54 e3 ?_
      rw [hE0.1]
      refine az_istore (ls' := [(0, .ref q), (1, .ref a), (2, .long (lN (sv + (fa_h g n now (ln_run w bs [ln_st w i]))))), (4, .int (nI (fa_s g n now (ln_run w bs [ln_st w i])))), (5, .int (nI i)), (6, .int (nI ((0 * 6 + ln_st w i) * 6 + now)))]) dX0_hitsInAll_55 ?_
      refine az_iincN (n := 1) (ls' := [(0, .ref q), (1, .ref a), (2, .long (lN (sv + (fa_h g n now (ln_run w bs [ln_st w i]))))), (4, .int (nI (fa_s g n now (ln_run w bs [ln_st w i])))), (5, .int (nI (i + 1))), (6, .int (nI ((0 * 6 + ln_st w i) * 6 + now)))]) dX0_hitsInAll_57 ?_
      refine az_goto (tgt := 8) dX0_hitsInAll_60 ?_
      refine az_W.keep (ls' := [(0, .ref q), (1, .ref a), (2, .long (lN (sv + (fa_h g n now (ln_run w bs [ln_st w i]))))), (4, .int (nI (fa_s g n now (ln_run w bs [ln_st w i])))), (5, .int (nI (i + 1)))]) [0, 1, 2, 4, 5] rfl ?_
      exact ih _ (by omega) (i + 1) (fa_s g n now (ln_run w bs [ln_st w i])) (sv + fa_h g n now (ln_run w bs [ln_st w i])) rfl (by omega) (fa_s_lt _ hnl) (by rw [word_take (by omega), fa_s_app, hnw]) (by rw [word_take (by omega), fa_h_app, hsv, hnw])
  refine az_M.of rfl (Nat.le_of_ble_eq_true rfl) ?_
  show az_W _ _ _ _ 0 [(0, .ref q), (1, .ref a)] [] _ _
  refine az_lconst (v := lN 0) dX0_hitsInAll_0 ?_
  refine az_lstore_n (ls' := [(0, .ref q), (1, .ref a), (2, .long (lN 0))]) dX0_hitsInAll_1 ?_
  refine az_iconst (v := nI 0) dX0_hitsInAll_2 ?_
  refine az_istore (ls' := [(0, .ref q), (1, .ref a), (2, .long (lN 0)), (4, .int (nI 0))]) dX0_hitsInAll_3 ?_
  refine az_iconst (v := nI 0) dX0_hitsInAll_5 ?_
  refine az_istore (ls' := [(0, .ref q), (1, .ref a), (2, .long (lN 0)), (4, .int (nI 0)), (5, .int (nI 0))]) dX0_hitsInAll_6 ?_
  exact loop _ 0 0 0 rfl (Nat.zero_le _) (by omega) (by rw [List.take_zero, ln_run_empty]; rfl) (by rw [List.take_zero, ln_run_empty]; rfl)
set_option maxRecDepth 100000 in
theorem s_isHit {d q o n k x s p : Nat} {g g9 : Nat → Nat} {w : ln_W} {bs : List Nat} {hp : az_Hp} {Q : Option Value → az_Hp → Prop} (hd : 1 ≤ d) (hb : ln_by w bs) (hn6 : n ≤ 6) (h0 : hp.2 q = some (az_O 0 [.ref (q + 1), .int (nI n), .ref (q + 2), .ref (q + 3), .ref (q + 4), .int (nI s), .long (lN p), .ref (q + 5)])) (hF : fd_T hp q w bs g n) (ho : hp.2 o = some (az_J 366 (fun j => lN (g9 j)))) (hc : ln_caps w bs (fun _ => 1) g9) (hoq : o < q ∨ q + 6 ≤ o) (hk : k ≤ bs.length) (hx : x < 6) (hs : s < n) (hp9 : p + (ln_run w (bs.drop k) [x]).length ≤ 2000000000000) (hQ1 : 0 < fa_h g n s (ln_run w (bs.drop k) [x]) → Q (some (.int (nI 1))) hp) (hQ0 : fa_h g n s (ln_run w (bs.drop k) [x]) = 0 → Q (some (.int (nI 0))) (az_up hp q (az_O 0 [.ref (q + 1), .int (nI n), .ref (q + 2), .ref (q + 3), .ref (q + 4), .int (nI (fa_s g n s (ln_run w (bs.drop k) [x]))), .long (lN (p + (ln_run w (bs.drop k) [x]).length)), .ref (q + 5)]))) : az_M mX0_isHit d 0 0 [.ref q, .int (nI k), .int (nI x), .ref o] hp Q := by
  obtain ⟨sG, hN, e3, e4, hE⟩ := hF
  have h60 := hb.1
  have hE0 := hE k x s hk hx hs
  have hcx : g9 (k * 6 + x) = (ln_run w (bs.drop k) [x]).length := by
    rw [hc k x hk hx, ln_wT, wl_len, Nat.min_eq_left (by omega)]
  refine az_M.of rfl (Nat.le_of_ble_eq_true rfl) ?_
  show az_W _ _ _ _ 0 [(0, .ref q), (1, .int (nI k)), (2, .int (nI x)), (3, .ref o)] [] _ _
  refine az_iload_n dX0_isHit_0 ?_
  refine az_iload_n dX0_isHit_1 ?_
  refine az_aload_n dX0_isHit_2 ?_
  refine az_getf (v := .int (nI s)) dX0_isHit_3 fl_X0_88 h0 ?_
  refine az_cS0 (st := []) dX0_isHit_6 ml_X0_54 (s_cellOf (d := d - 1) (k := k) (x := x) (s := s) (by omega) hx (by omega) ?_)
  refine az_istore (ls' := [(0, .ref q), (1, .int (nI k)), (2, .int (nI x)), (3, .ref o), (4, .int (nI ((k * 6 + x) * 6 + s)))]) dX0_isHit_9 ?_
  refine az_aload_n dX0_isHit_11 ?_
  refine az_getf (v := .ref (q + 4)) dX0_isHit_12 fl_X0_22 h0 ?_
  refine az_iload dX0_isHit_15 ?_
  refine az_laldN (j := (k * 6 + x) * 6 + s) dX0_isHit_17 e4 ?_
  rw [hE0.2]
  refine az_lconst (v := lN 0) dX0_isHit_18 ?_
  refine az_lcmp_leN (tgt := 25) dX0_isHit_19 dX0_isHit_20 (fun c19 => ?_) (fun c19 => ?_)
  · refine az_aload_n dX0_isHit_25 ?_
    refine az_aload_n dX0_isHit_26 ?_
    refine az_getf (v := .ref (q + 3)) dX0_isHit_27 fl_X0_18 h0 ?_
    refine az_iload dX0_isHit_30 ?_
    refine az_baldN (j := (k * 6 + x) * 6 + s) dX0_isHit_32 e3 ?_
    rw [hE0.1]
    refine az_putf (fs' := [.ref (q + 1), .int (nI n), .ref (q + 2), .ref (q + 3), .ref (q + 4), .int (nI (fa_s g n s (ln_run w (bs.drop k) [x]))), .long (lN p), .ref (q + 5)]) dX0_isHit_33 fl_X0_88 h0 ?_
    refine az_aload_n dX0_isHit_36 ?_
    refine az_dup dX0_isHit_37 ?_
    refine az_getf (v := .long (lN p)) dX0_isHit_38 fl_X0_91 az_up_eq ?_
    refine az_aload_n dX0_isHit_41 ?_
    refine az_iload_n dX0_isHit_42 ?_
    refine az_bipush (v := nI 6) dX0_isHit_43 ?_
    refine az_imulN dX0_isHit_45 ?_
    refine az_iload_n dX0_isHit_46 ?_
    refine az_iaddN dX0_isHit_47 ?_
    refine az_laldN (j := (k * 6) + x) dX0_isHit_48 (az_up_ne ho) ?_
    rw [hcx]
    refine az_laddN dX0_isHit_49 ?_
    refine az_putf (fs' := [.ref (q + 1), .int (nI n), .ref (q + 2), .ref (q + 3), .ref (q + 4), .int (nI (fa_s g n s (ln_run w (bs.drop k) [x]))), .long (lN (p + ((ln_run w (bs.drop k) [x]).length))), .ref (q + 5)]) dX0_isHit_50 fl_X0_91 az_up_eq ?_
    rw [az_up_up]
    refine az_iconst (v := nI 0) dX0_isHit_53 ?_
    exact az_iret dX0_isHit_54 (hQ0 (by omega))
  · refine az_iconst (v := nI 1) dX0_isHit_23 ?_
    exact az_iret dX0_isHit_24 (hQ1 (by omega))

theorem run_drop {w : ln_W} {bs : List Nat} {tb x i : Nat} (h : i < ln_sz w (tb * 6 + x)) : ln_run w bs ((ln_sub w tb x).drop i) = ln_run w bs [ln_ch w ((tb * 6 + x) * 4 + i)] ++ ln_run w bs ((ln_sub w tb x).drop (i + 1)) := by
  rw [drop_getD (by rw [ln_sub_len]; exact h), sub_getD h, show ∀ (y : Nat) (l : List Nat), y :: l = [y] ++ l from fun _ _ => rfl, ln_run_app]
theorem run_drop0 {w : ln_W} {bs : List Nat} {lv x : Nat} (h : lv < bs.length) : ln_run w (bs.drop (lv + 1)) ((ln_sub w (bs.getD lv 0) x).drop 0) = ln_run w (bs.drop lv) [x] := by
  rw [drop_getD h, ln_run_cons, List.drop_zero]
  simp
theorem fd_T.up {h : az_Hp} {q : Nat} {w : ln_W} {bs : List Nat} {g : Nat → Nat} {n : Nat} {c : az_C} (hF : fd_T h q w bs g n) : fd_T (az_up h q c) q w bs g n := by
  obtain ⟨sG, hN, e3, e4, hE⟩ := hF
  exact ⟨sG, hN, az_up_ne e3, az_up_ne e4, hE⟩
set_option maxHeartbeats 4000000 in
set_option maxRecDepth 100000 in
theorem s_childHit {d q o a t n lv x s0 p0 mo ni : Nat} {g g9 : Nat → Nat} {w : ln_W} {bs : List Nat} {hp : az_Hp} {Q : Option Value → az_Hp → Prop} (hd : 2 ≤ d) (hw : ln_ok w) (hb : ln_by w bs) (hT : ln_To hp t w q (q + 6)) (hS : ln_Scene hp a t w mo ni bs) (hqa : q + 6 ≤ a ∨ a + 8 ≤ q) (hn6 : n ≤ 6) (h0 : hp.2 q = some (az_O 0 [.ref (q + 1), .int (nI n), .ref (q + 2), .ref (q + 3), .ref (q + 4), .int (nI s0), .long (lN p0), .ref (q + 5)])) (hF : fd_T hp q w bs g n) (ho : hp.2 o = some (az_J 366 (fun j => lN (g9 j)))) (hc : ln_caps w bs (fun _ => 1) g9) (hoq : o < q ∨ q + 6 ≤ o) (hlv : lv < bs.length) (hx : x < 6) (hs0 : s0 < n) (hp9 : p0 + (ln_run w (bs.drop lv) [x]).length ≤ 2000000000000) (hh0 : 0 < fa_h g n s0 (ln_run w (bs.drop lv) [x])) (hQ : ∀ y s p, y < 6 → s < n → 0 < fa_h g n s (ln_run w (bs.drop (lv + 1)) [y]) → p + (ln_run w (bs.drop (lv + 1)) [y]).length ≤ 2000000000000 → fa_f g n s0 p0 (ln_run w (bs.drop lv) [x]) = fa_f g n s p (ln_run w (bs.drop (lv + 1)) [y]) → Q (some (.int (nI y))) (az_up hp q (az_O 0 [.ref (q + 1), .int (nI n), .ref (q + 2), .ref (q + 3), .ref (q + 4), .int (nI s), .long (lN p), .ref (q + 5)]))) : az_M mX0_childHit d 0 0 [.ref q, .ref a, .int (nI lv), .int (nI x), .ref o] hp Q := by
  obtain ⟨hi, fr, la, no, wa, nc, g0, -, g2, t2, -⟩ := id hS
  obtain ⟨a4, a5, hT0, -⟩ := id hT
  have h60 := hb.1
  have hb3 : bs.getD lv 0 < 3 := Nat.lt_of_lt_of_le (hb.2.1 _ (getD_mem hlv)) hw.2.1
  have hz4 := hw.2.2.2.2.2.2.1 (bs.getD lv 0 * 6 + x)
  have loop : ∀ (k : Nat) (i s p : Nat) (h' : az_Hp), ln_sz w (bs.getD lv 0 * 6 + x) - i = k → (i ≤ ln_sz w (bs.getD lv 0 * 6 + x)) → (s < n) → (0 < fa_h g n s (ln_run w (bs.drop (lv + 1)) ((ln_sub w (bs.getD lv 0) x).drop i))) → (fa_f g n s0 p0 (ln_run w (bs.drop lv) [x]) = fa_f g n s p (ln_run w (bs.drop (lv + 1)) ((ln_sub w (bs.getD lv 0) x).drop i))) → (p + (ln_run w (bs.drop (lv + 1)) ((ln_sub w (bs.getD lv 0) x).drop i)).length ≤ 2000000000000) → (h' = az_up hp q (az_O 0 [.ref (q + 1), .int (nI n), .ref (q + 2), .ref (q + 3), .ref (q + 4), .int (nI s), .long (lN p), .ref (q + 5)])) → az_W mX0_childHit d 0 0 23 [(0, .ref q), (1, .ref a), (2, .int (nI lv)), (3, .int (nI x)), (4, .ref o), (5, .int (nI (bs.getD lv 0))), (6, .int (nI (ln_sz w (bs.getD lv 0 * 6 + x)))), (7, .int (nI i))] [] h' Q := by
    intro k
    induction k using Nat.strongRecOn with
    | _ k ih =>
    intro i s p h' hk hi4 hs hhd hff hpl he
    have hT' : ln_Town h' t w := (hT.fr (by rw [he]; exact az_fr.rf.up)).town
    obtain ⟨a4', a5', hT0', -⟩ := id hT'
    refine az_iload dX0_childHit_23 ?_
    refine az_iload dX0_childHit_25 ?_
    refine az_icmp_geN (tgt := 67) dX0_childHit_27 (fun c27 => ?_) (fun c27 => ?_)
    · refine az_iconst (v := (-1)) dX0_childHit_67 ?_
      exact az_iret dX0_childHit_68 (absurd hhd (by rw [show i = ln_sz w (bs.getD lv 0 * 6 + x) by omega, ← ln_sub_len, List.drop_length, ln_run_empty]; exact Nat.lt_irrefl 0))
    · refine az_aload_n dX0_childHit_30 ?_
      refine az_getf (v := .ref t) dX0_childHit_31 fl_X0_65 (by rw [he]; exact az_up_ne g0) ?_
      refine az_iload dX0_childHit_34 ?_
      refine az_iload_n dX0_childHit_36 ?_
      refine az_iload dX0_childHit_37 ?_
      refine az_cV0 (st := []) dX0_childHit_39 ml_X0_74 hT0' (s_childOf (d := d - 1) hT' hb3 hx (i := i) (by omega) ?_)
      have hc6 := hw.2.2.2.2.2.2.2.1 ((bs.getD lv 0 * 6 + x) * 4 + i)
      rw [run_drop (by omega)] at hhd hff hpl
      rw [List.length_append] at hpl
      rw [fa_h_app] at hhd
      refine az_istore (ls' := [(0, .ref q), (1, .ref a), (2, .int (nI lv)), (3, .int (nI x)), (4, .ref o), (5, .int (nI (bs.getD lv 0))), (6, .int (nI (ln_sz w (bs.getD lv 0 * 6 + x)))), (7, .int (nI i)), (8, .int (nI (ln_ch w ((bs.getD lv 0 * 6 + x) * 4 + i))))]) dX0_childHit_42 ?_
      refine az_aload_n dX0_childHit_44 ?_
      refine az_iload_n dX0_childHit_45 ?_
      refine az_iconst (v := nI 1) dX0_childHit_46 ?_
      refine az_iaddN dX0_childHit_47 ?_
      refine az_iload dX0_childHit_48 ?_
      refine az_aload dX0_childHit_50 ?_
      refine az_cV0 (st := []) dX0_childHit_52 ml_X0_95 (by rw [he]; exact az_up_eq) (s_isHit (d := d - 1) (by omega) hb hn6 (by rw [he]; exact az_up_eq) (by rw [he]; exact hF.up) (by rw [he]; exact az_up_ne ho) hc hoq (k := lv + 1) (x := ln_ch w ((bs.getD lv 0 * 6 + x) * 4 + i)) (by omega) hc6 hs (p := p) (by omega) (fun hhit => ?_) (fun hmis => ?_))
      · rw [fa_f_app1 hhit] at hff
        refine az_if_eqN (tgt := 61) dX0_childHit_55 (fun c55 => ?_) (fun c55 => ?_)
        · refine az_iincN (n := 1) (ls' := [(0, .ref q), (1, .ref a), (2, .int (nI lv)), (3, .int (nI x)), (4, .ref o), (5, .int (nI (bs.getD lv 0))), (6, .int (nI (ln_sz w (bs.getD lv 0 * 6 + x)))), (7, .int (nI (i + 1))), (8, .int (nI (ln_ch w ((bs.getD lv 0 * 6 + x) * 4 + i))))]) dX0_childHit_61 ?_
          refine az_goto (tgt := 23) dX0_childHit_64 ?_
          refine az_W.keep (ls' := [(0, .ref q), (1, .ref a), (2, .int (nI lv)), (3, .int (nI x)), (4, .ref o), (5, .int (nI (bs.getD lv 0))), (6, .int (nI (ln_sz w (bs.getD lv 0 * 6 + x)))), (7, .int (nI (i + 1)))]) [0, 1, 2, 3, 4, 5, 6, 7] rfl ?_
          first | exact absurd c55 (by decide) | exact ih _ (by omega) (i + 1) (fa_s g n s (ln_run w (bs.drop (lv + 1)) [ln_ch w ((bs.getD lv 0 * 6 + x) * 4 + i)])) (p + (ln_run w (bs.drop (lv + 1)) [ln_ch w ((bs.getD lv 0 * 6 + x) * 4 + i)]).length) _ rfl (by omega) (fa_s_lt _ hs) (by omega) hff (by omega) (by rw [he, az_up_up])
        · refine az_iload dX0_childHit_58 ?_
          exact az_iret dX0_childHit_60 (by first | exact absurd rfl c55 | (rw [he]; exact hQ _ s p hc6 hs hhit (by omega) hff))
      · rw [fa_f_app0 hmis] at hff
        refine az_if_eqN (tgt := 61) dX0_childHit_55 (fun c55 => ?_) (fun c55 => ?_)
        · refine az_iincN (n := 1) (ls' := [(0, .ref q), (1, .ref a), (2, .int (nI lv)), (3, .int (nI x)), (4, .ref o), (5, .int (nI (bs.getD lv 0))), (6, .int (nI (ln_sz w (bs.getD lv 0 * 6 + x)))), (7, .int (nI (i + 1))), (8, .int (nI (ln_ch w ((bs.getD lv 0 * 6 + x) * 4 + i))))]) dX0_childHit_61 ?_
          refine az_goto (tgt := 23) dX0_childHit_64 ?_
          refine az_W.keep (ls' := [(0, .ref q), (1, .ref a), (2, .int (nI lv)), (3, .int (nI x)), (4, .ref o), (5, .int (nI (bs.getD lv 0))), (6, .int (nI (ln_sz w (bs.getD lv 0 * 6 + x)))), (7, .int (nI (i + 1)))]) [0, 1, 2, 3, 4, 5, 6, 7] rfl ?_
          first | exact absurd c55 (by decide) | exact ih _ (by omega) (i + 1) (fa_s g n s (ln_run w (bs.drop (lv + 1)) [ln_ch w ((bs.getD lv 0 * 6 + x) * 4 + i)])) (p + (ln_run w (bs.drop (lv + 1)) [ln_ch w ((bs.getD lv 0 * 6 + x) * 4 + i)]).length) _ rfl (by omega) (fa_s_lt _ hs) (by omega) hff (by omega) (by rw [he, az_up_up])
        · refine az_iload dX0_childHit_58 ?_
          exact az_iret dX0_childHit_60 (by first | exact absurd rfl c55 | (rw [he]; exact hQ _ s p hc6 hs hhit (by omega) hff))
  refine az_M.of rfl (Nat.le_of_ble_eq_true rfl) ?_
  show az_W _ _ _ _ 0 [(0, .ref q), (1, .ref a), (2, .int (nI lv)), (3, .int (nI x)), (4, .ref o)] [] _ _
  refine az_aload_n dX0_childHit_0 ?_
  refine az_getf (v := .ref (a + 2)) dX0_childHit_1 fl_X0_62 g0 ?_
  refine az_iload_n dX0_childHit_4 ?_
  refine az_ialdN (j := lv) dX0_childHit_5 g2 ?_
  rw [t2 lv hlv]
  refine az_istore (ls' := [(0, .ref q), (1, .ref a), (2, .int (nI lv)), (3, .int (nI x)), (4, .ref o), (5, .int (nI (bs.getD lv 0)))]) dX0_childHit_6 ?_
  refine az_aload_n dX0_childHit_8 ?_
  refine az_getf (v := .ref t) dX0_childHit_9 fl_X0_65 g0 ?_
  refine az_iload dX0_childHit_12 ?_
  refine az_iload_n dX0_childHit_14 ?_
  refine az_cV0 (st := []) dX0_childHit_15 ml_X0_69 hT0 (s_sizeOf (d := d - 1) hT.town hb3 hx ?_)
  refine az_istore (ls' := [(0, .ref q), (1, .ref a), (2, .int (nI lv)), (3, .int (nI x)), (4, .ref o), (5, .int (nI (bs.getD lv 0))), (6, .int (nI (ln_sz w (bs.getD lv 0 * 6 + x))))]) dX0_childHit_18 ?_
  refine az_iconst (v := nI 0) dX0_childHit_20 ?_
  refine az_istore (ls' := [(0, .ref q), (1, .ref a), (2, .int (nI lv)), (3, .int (nI x)), (4, .ref o), (5, .int (nI (bs.getD lv 0))), (6, .int (nI (ln_sz w (bs.getD lv 0 * 6 + x)))), (7, .int (nI 0))]) dX0_childHit_21 ?_
  exact loop _ 0 s0 p0 _ rfl (Nat.zero_le _) hs0 (by rw [run_drop0 hlv]; exact hh0) (by rw [run_drop0 hlv]) (by rw [run_drop0 hlv]; exact hp9) (az_up_same h0).symm

theorem nI_ne_neg1 {n : Nat} (h : n < 2 ^ 31) : ¬ nI n = (-1) := by
  intro q
  have := congrArg Int32.toInt q
  rw [nI_toInt (by omega)] at this
  have h9 : (-1 : Int32).toInt = -1 := by decide
  omega
theorem fa_f_one {g : Nat → Nat} {n s p x : Nat} {w : ln_W} (h : 0 < fa_h g n s (ln_run w [] [x])) : fa_f g n s p (ln_run w [] [x]) = some p := by
  have h1 : fa_h g n s (ln_run w [] [x]) = fd_h g n s x + 0 := rfl
  have h2 := fd_h_le g n s x
  show (if fd_h g n s x = 1 then some p else none) = some p
  rw [if_pos (by omega)]
set_option maxHeartbeats 4000000 in
set_option maxRecDepth 100000 in
theorem s_firstPlace {d q o a t n mo ni : Nat} {v5 v6 : Value} {g g9 : Nat → Nat} {w : ln_W} {bs : List Nat} {hp : az_Hp} {Q : Option Value → az_Hp → Prop} (hd : 3 ≤ d) (hw : ln_ok w) (hb : ln_by w bs) (hT : ln_To hp t w q (q + 6)) (hS : ln_Scene hp a t w mo ni bs) (hqa : q + 6 ≤ a ∨ a + 8 ≤ q) (hn1 : 1 ≤ n) (hn6 : n ≤ 6) (h0 : hp.2 q = some (az_O 0 [.ref (q + 1), .int (nI n), .ref (q + 2), .ref (q + 3), .ref (q + 4), v5, v6, .ref (q + 5)])) (hF : fd_T hp q w bs g n) (ho : hp.2 o = some (az_J 366 (fun j => lN (g9 j)))) (hc : ln_caps w bs (fun _ => 1) g9) (hoq : o < q ∨ q + 6 ≤ o) (hQ0 : ∀ s p, fa_f g n 0 0 (ln_str w bs) = none → Q (some (.long (-1))) (az_up hp q (az_O 0 [.ref (q + 1), .int (nI n), .ref (q + 2), .ref (q + 3), .ref (q + 4), .int (nI s), .long (lN p), .ref (q + 5)]))) (hQ1 : ∀ s p, fa_f g n 0 0 (ln_str w bs) = some p → p ≤ 2000000000000 → Q (some (.long (lN (p + 1) - lN n))) (az_up hp q (az_O 0 [.ref (q + 1), .int (nI n), .ref (q + 2), .ref (q + 3), .ref (q + 4), .int (nI s), .long (lN p), .ref (q + 5)]))) : az_M mX0_firstPlace d 0 0 [.ref q, .ref a, .ref o] hp Q := by
  obtain ⟨hi, fr, la, no, wa, nc, g0, -⟩ := id hS
  obtain ⟨a4, a5, hT0, hT1, -⟩ := id hT
  have h60 := hb.1
  have hlen := hb.2.2
  have hsd := hw.2.2.2.2.1
  have down : ∀ (k : Nat) (lv x s p : Nat) (h' : az_Hp), bs.length - lv = k → (lv ≤ bs.length) → (x < 6) → (s < n) → (0 < fa_h g n s (ln_run w (bs.drop lv) [x])) → (fa_f g n 0 0 (ln_str w bs) = fa_f g n s p (ln_run w (bs.drop lv) [x])) → (p + (ln_run w (bs.drop lv) [x]).length ≤ 2000000000000) → (h' = az_up hp q (az_O 0 [.ref (q + 1), .int (nI n), .ref (q + 2), .ref (q + 3), .ref (q + 4), .int (nI s), .long (lN p), .ref (q + 5)])) → az_W mX0_firstPlace d 0 0 71 [(0, .ref q), (1, .ref a), (2, .ref o), (3, .int (nI x)), (4, .int (nI lv))] [] h' Q := by
    intro k
    induction k using Nat.strongRecOn with
    | _ k ih =>
    intro lv x s p h' hk hlv hx hs hhd hff hpl he
    refine az_iload dX0_firstPlace_71 ?_
    refine az_aload_n dX0_firstPlace_73 ?_
    refine az_getf (v := .int (nI bs.length)) dX0_firstPlace_74 fl_X0_49 (by rw [he]; exact az_up_ne g0) ?_
    refine az_icmp_geN (tgt := 101) dX0_firstPlace_77 (fun c77 => ?_) (fun c77 => ?_)
    · refine az_iload_n dX0_firstPlace_101 ?_
      refine az_iconst (v := (-1)) dX0_firstPlace_102 ?_
      refine az_icmp_ne (tgt := 112) dX0_firstPlace_103 (fun c103 => ?_) (fun c103 => ?_)
      · refine az_aload_n dX0_firstPlace_112 ?_
        refine az_getf (v := .long (lN p)) dX0_firstPlace_113 fl_X0_91 (by rw [he]; exact az_up_eq) ?_
        refine az_lconst (v := lN 1) dX0_firstPlace_116 ?_
        refine az_laddN dX0_firstPlace_117 ?_
        refine az_aload_n dX0_firstPlace_118 ?_
        refine az_getf (v := .int (nI n)) dX0_firstPlace_119 fl_X0_41 (by rw [he]; exact az_up_eq) ?_
        refine az_i2lN dX0_firstPlace_122 ?_
        refine az_lsub dX0_firstPlace_123 ?_
        exact az_lret dX0_firstPlace_124 (by rw [he]; exact hQ1 s p (by rw [hff, show lv = bs.length by omega, List.drop_length]; exact fa_f_one (by rw [show lv = bs.length by omega, List.drop_length] at hhd; exact hhd)) (by omega))
      · exact absurd c103 (nI_ne_neg1 (by omega))
    · refine az_iload_n dX0_firstPlace_80 ?_
      refine az_iconst (v := (-1)) dX0_firstPlace_81 ?_
      refine az_icmp_eq (tgt := 101) dX0_firstPlace_82 (fun c82 => ?_) (fun c82 => ?_)
      · exact absurd c82 (nI_ne_neg1 (by omega))
      · refine az_aload_n dX0_firstPlace_85 ?_
        refine az_aload_n dX0_firstPlace_86 ?_
        refine az_iload dX0_firstPlace_87 ?_
        refine az_iload_n dX0_firstPlace_89 ?_
        refine az_aload_n dX0_firstPlace_90 ?_
        refine az_cV0 (st := []) dX0_firstPlace_91 ml_X0_99 (by rw [he]; exact az_up_eq) (s_childHit (d := d - 1) (by omega) hw hb (hT.fr (by rw [he]; exact az_fr.rf.up)) (ln_Scene.fr (lo := q) (hi := q + 6) hS (by rw [he]; exact az_fr.rf.up) (by omega)) hqa hn6 (by rw [he]; exact az_up_eq) (by rw [he]; exact hF.up) (by rw [he]; exact az_up_ne ho) hc hoq (lv := lv) (x := x) (by omega) hx hs hpl hhd ?_)
        intro y s2 p2 hy6 hs2 hh2 hpl2 hff2
        refine az_istore_n (ls' := [(0, .ref q), (1, .ref a), (2, .ref o), (3, .int (nI y)), (4, .int (nI lv))]) dX0_firstPlace_94 ?_
        refine az_iincN (n := 1) (ls' := [(0, .ref q), (1, .ref a), (2, .ref o), (3, .int (nI y)), (4, .int (nI (lv + 1)))]) dX0_firstPlace_95 ?_
        refine az_goto (tgt := 71) dX0_firstPlace_98 ?_
        exact ih _ (by omega) (lv + 1) y s2 p2 _ rfl (by omega) hy6 hs2 hh2 (by rw [← hff2]; exact hff) hpl2 (by rw [he, az_up_up])
  have hitx : ∀ (k : Nat) (i x s p : Nat) (h' : az_Hp), i = k → (i ≤ ln_sd w) → (x < 6) → (s < n) → (0 < fa_h g n s (ln_run w (bs.drop 0) [x])) → (fa_f g n 0 0 (ln_str w bs) = fa_f g n s p (ln_run w (bs.drop 0) [x])) → (p + (ln_run w (bs.drop 0) [x]).length ≤ 2000000000000) → (h' = az_up hp q (az_O 0 [.ref (q + 1), .int (nI n), .ref (q + 2), .ref (q + 3), .ref (q + 4), .int (nI s), .long (lN p), .ref (q + 5)])) → az_W mX0_firstPlace d 0 0 15 [(0, .ref q), (1, .ref a), (2, .ref o), (3, .int (nI x)), (4, .int (nI i))] [] h' Q := by
    intro k
    induction k using Nat.strongRecOn with
    | _ k ih =>
    intro i x s p h' hk hi9 hx hs hhd hff hpl he
    have hT' : ln_Town h' t w := (hT.fr (by rw [he]; exact az_fr.rf.up)).town
    obtain ⟨a4', a5', hT0', -⟩ := id hT'
    refine az_iload dX0_firstPlace_15 ?_
    refine az_aload_n dX0_firstPlace_17 ?_
    refine az_getf (v := .ref t) dX0_firstPlace_18 fl_X0_65 (by rw [he]; exact az_up_ne g0) ?_
    refine az_getf (v := .int (nI (ln_sd w))) dX0_firstPlace_21 fl_X0_82 hT0' ?_
    refine az_icmp_geN (tgt := 68) dX0_firstPlace_24 (fun c24 => ?_) (fun c24 => ?_)
    · refine az_iconst (v := nI 0) dX0_firstPlace_68 ?_
      refine az_istore (ls' := [(0, .ref q), (1, .ref a), (2, .ref o), (3, .int (nI x)), (4, .int (nI 0))]) dX0_firstPlace_69 ?_
      exact down _ 0 x s p h' rfl (Nat.zero_le _) hx hs hhd hff hpl he
    · refine az_iload_n dX0_firstPlace_27 ?_
      refine az_iconst (v := (-1)) dX0_firstPlace_28 ?_
      refine az_icmp_ne (tgt := 68) dX0_firstPlace_29 (fun c29 => ?_) (fun c29 => ?_)
      · refine az_iconst (v := nI 0) dX0_firstPlace_68 ?_
        refine az_istore (ls' := [(0, .ref q), (1, .ref a), (2, .ref o), (3, .int (nI x)), (4, .int (nI 0))]) dX0_firstPlace_69 ?_
        exact down _ 0 x s p h' rfl (Nat.zero_le _) hx hs hhd hff hpl he
      · exact absurd c29 (nI_ne_neg1 (by omega))
  have first9 : ∀ (k : Nat) (i s p : Nat) (h' : az_Hp), ln_sd w - i = k → (i ≤ ln_sd w) → (s < n) → (fa_f g n 0 0 (ln_str w bs) = fa_f g n s p (ln_run w bs ((ln_word w).drop i))) → (p + (ln_run w bs ((ln_word w).drop i)).length ≤ 2000000000000) → (h' = az_up hp q (az_O 0 [.ref (q + 1), .int (nI n), .ref (q + 2), .ref (q + 3), .ref (q + 4), .int (nI s), .long (lN p), .ref (q + 5)])) → az_W mX0_firstPlace d 0 0 15 [(0, .ref q), (1, .ref a), (2, .ref o), (3, .int ((-1))), (4, .int (nI i))] [] h' Q := by
    intro k
    induction k using Nat.strongRecOn with
    | _ k ih =>
    intro i s p h' hk hi9 hs hff hpl he
    have hT' : ln_Town h' t w := (hT.fr (by rw [he]; exact az_fr.rf.up)).town
    obtain ⟨a4', a5', hT0', hT1', -⟩ := id hT'
    refine az_iload dX0_firstPlace_15 ?_
    refine az_aload_n dX0_firstPlace_17 ?_
    refine az_getf (v := .ref t) dX0_firstPlace_18 fl_X0_65 (by rw [he]; exact az_up_ne g0) ?_
    refine az_getf (v := .int (nI (ln_sd w))) dX0_firstPlace_21 fl_X0_82 hT0' ?_
    refine az_icmp_geN (tgt := 68) dX0_firstPlace_24 (fun c24 => ?_) (fun c24 => ?_)
    · refine az_iconst (v := nI 0) dX0_firstPlace_68 ?_
      refine az_istore (ls' := [(0, .ref q), (1, .ref a), (2, .ref o), (3, .int ((-1))), (4, .int (nI 0))]) dX0_firstPlace_69 ?_
      refine az_iload dX0_firstPlace_71 ?_
      refine az_aload_n dX0_firstPlace_73 ?_
      refine az_getf (v := .int (nI bs.length)) dX0_firstPlace_74 fl_X0_49 (by rw [he]; exact az_up_ne g0) ?_
      refine az_icmp_geN (tgt := 101) dX0_firstPlace_77 (fun c77 => ?_) (fun c77 => ?_)
      · refine az_iload_n dX0_firstPlace_101 ?_
        refine az_iconst (v := (-1)) dX0_firstPlace_102 ?_
        refine az_icmp_ne (tgt := 112) dX0_firstPlace_103 (fun c103 => ?_) (fun c103 => ?_)
        · exact absurd rfl c103
        · refine az_ldc2 (v := (-1)) dX0_firstPlace_106 cn_X0_103 ?_
          refine az_goto (tgt := 124) dX0_firstPlace_109 ?_
          exact az_lret dX0_firstPlace_124 (by rw [he]; exact hQ0 s p (by rw [hff, show i = ln_sd w by omega, List.drop_of_length_le (by simp [ln_word]), ln_run_empty]; rfl))
      · refine az_iload_n dX0_firstPlace_80 ?_
        refine az_iconst (v := (-1)) dX0_firstPlace_81 ?_
        refine az_icmp_eq (tgt := 101) dX0_firstPlace_82 (fun c82 => ?_) (fun c82 => ?_)
        · refine az_iload_n dX0_firstPlace_101 ?_
          refine az_iconst (v := (-1)) dX0_firstPlace_102 ?_
          refine az_icmp_ne (tgt := 112) dX0_firstPlace_103 (fun c103 => ?_) (fun c103 => ?_)
          · exact absurd rfl c103
          · refine az_ldc2 (v := (-1)) dX0_firstPlace_106 cn_X0_103 ?_
            refine az_goto (tgt := 124) dX0_firstPlace_109 ?_
            exact az_lret dX0_firstPlace_124 (by rw [he]; exact hQ0 s p (by rw [hff, show i = ln_sd w by omega, List.drop_of_length_le (by simp [ln_word]), ln_run_empty]; rfl))
        · exact absurd rfl c82
    · refine az_iload_n dX0_firstPlace_27 ?_
      refine az_iconst (v := (-1)) dX0_firstPlace_28 ?_
      refine az_icmp_ne (tgt := 68) dX0_firstPlace_29 (fun c29 => ?_) (fun c29 => ?_)
      · exact absurd rfl c29
      · refine az_aload_n dX0_firstPlace_32 ?_
        refine az_getf (v := .ref t) dX0_firstPlace_33 fl_X0_65 (by rw [he]; exact az_up_ne g0) ?_
        refine az_getf (v := .ref (t + 1)) dX0_firstPlace_36 fl_X0_85 hT0' ?_
        refine az_iload dX0_firstPlace_39 ?_
        refine az_ialdN (j := i) dX0_firstPlace_41 hT1' ?_
        refine az_istore (ls' := [(0, .ref q), (1, .ref a), (2, .ref o), (3, .int ((-1))), (4, .int (nI i)), (5, .int (nI (ln_st w i)))]) dX0_firstPlace_42 ?_
        have hx6 := hw.2.2.2.2.2.1 i
        rw [word_drop (by omega)] at hff hpl
        rw [List.length_append] at hpl
        refine az_aload_n dX0_firstPlace_44 ?_
        refine az_iconst (v := nI 0) dX0_firstPlace_45 ?_
        refine az_iload dX0_firstPlace_46 ?_
        refine az_aload_n dX0_firstPlace_48 ?_
        refine az_cV0 (st := []) dX0_firstPlace_49 ml_X0_95 (by rw [he]; exact az_up_eq) (s_isHit (d := d - 1) (by omega) hb hn6 (by rw [he]; exact az_up_eq) (by rw [he]; exact hF.up) (by rw [he]; exact az_up_ne ho) hc hoq (k := 0) (x := ln_st w i) (Nat.zero_le _) hx6 hs (p := p) (by rw [List.drop_zero]; omega) (fun hhit => ?_) (fun hmis => ?_))
        · rw [List.drop_zero] at hhit
          rw [fa_f_app1 hhit] at hff
          refine az_if_eqN (tgt := 60) dX0_firstPlace_52 (fun c52 => ?_) (fun c52 => ?_)
          · refine az_iconst (v := (-1)) dX0_firstPlace_60 ?_
            refine az_istore_n (ls' := [(0, .ref q), (1, .ref a), (2, .ref o), (3, .int ((-1))), (4, .int (nI i)), (5, .int (nI (ln_st w i)))]) dX0_firstPlace_61 ?_
            refine az_iincN (n := 1) (ls' := [(0, .ref q), (1, .ref a), (2, .ref o), (3, .int ((-1))), (4, .int (nI (i + 1))), (5, .int (nI (ln_st w i)))]) dX0_firstPlace_62 ?_
            refine az_goto (tgt := 15) dX0_firstPlace_65 ?_
            refine az_W.keep (ls' := [(0, .ref q), (1, .ref a), (2, .ref o), (3, .int ((-1))), (4, .int (nI (i + 1)))]) [0, 1, 2, 3, 4] rfl ?_
            first | exact absurd c52 (by decide) | exact absurd rfl c52 | exact hitx _ (i + 1) (ln_st w i) s p h' rfl (by omega) hx6 hs hhit hff (by rw [List.drop_zero]; omega) he | exact ih _ (by omega) (i + 1) (fa_s g n s (ln_run w bs [ln_st w i])) (p + (ln_run w bs [ln_st w i]).length) _ rfl (by omega) (fa_s_lt _ hs) hff (by omega) (by rw [he, az_up_up])
          · refine az_iload dX0_firstPlace_55 ?_
            refine az_goto (tgt := 61) dX0_firstPlace_57 ?_
            refine az_istore_n (ls' := [(0, .ref q), (1, .ref a), (2, .ref o), (3, .int (nI (ln_st w i))), (4, .int (nI i)), (5, .int (nI (ln_st w i)))]) dX0_firstPlace_61 ?_
            refine az_iincN (n := 1) (ls' := [(0, .ref q), (1, .ref a), (2, .ref o), (3, .int (nI (ln_st w i))), (4, .int (nI (i + 1))), (5, .int (nI (ln_st w i)))]) dX0_firstPlace_62 ?_
            refine az_goto (tgt := 15) dX0_firstPlace_65 ?_
            refine az_W.keep (ls' := [(0, .ref q), (1, .ref a), (2, .ref o), (3, .int (nI (ln_st w i))), (4, .int (nI (i + 1)))]) [0, 1, 2, 3, 4] rfl ?_
            first | exact absurd c52 (by decide) | exact absurd rfl c52 | exact hitx _ (i + 1) (ln_st w i) s p h' rfl (by omega) hx6 hs hhit hff (by rw [List.drop_zero]; omega) he | exact ih _ (by omega) (i + 1) (fa_s g n s (ln_run w bs [ln_st w i])) (p + (ln_run w bs [ln_st w i]).length) _ rfl (by omega) (fa_s_lt _ hs) hff (by omega) (by rw [he, az_up_up])
        · rw [List.drop_zero] at hmis ⊢
          rw [fa_f_app0 hmis] at hff
          refine az_if_eqN (tgt := 60) dX0_firstPlace_52 (fun c52 => ?_) (fun c52 => ?_)
          · refine az_iconst (v := (-1)) dX0_firstPlace_60 ?_
            refine az_istore_n (ls' := [(0, .ref q), (1, .ref a), (2, .ref o), (3, .int ((-1))), (4, .int (nI i)), (5, .int (nI (ln_st w i)))]) dX0_firstPlace_61 ?_
            refine az_iincN (n := 1) (ls' := [(0, .ref q), (1, .ref a), (2, .ref o), (3, .int ((-1))), (4, .int (nI (i + 1))), (5, .int (nI (ln_st w i)))]) dX0_firstPlace_62 ?_
            refine az_goto (tgt := 15) dX0_firstPlace_65 ?_
            refine az_W.keep (ls' := [(0, .ref q), (1, .ref a), (2, .ref o), (3, .int ((-1))), (4, .int (nI (i + 1)))]) [0, 1, 2, 3, 4] rfl ?_
            first | exact absurd c52 (by decide) | exact absurd rfl c52 | exact hitx _ (i + 1) (ln_st w i) s p h' rfl (by omega) hx6 hs hhit hff (by rw [List.drop_zero]; omega) he | exact ih _ (by omega) (i + 1) (fa_s g n s (ln_run w bs [ln_st w i])) (p + (ln_run w bs [ln_st w i]).length) _ rfl (by omega) (fa_s_lt _ hs) hff (by omega) (by rw [he, az_up_up])
          · refine az_iload dX0_firstPlace_55 ?_
            refine az_goto (tgt := 61) dX0_firstPlace_57 ?_
            refine az_istore_n (ls' := [(0, .ref q), (1, .ref a), (2, .ref o), (3, .int (nI (ln_st w i))), (4, .int (nI i)), (5, .int (nI (ln_st w i)))]) dX0_firstPlace_61 ?_
            refine az_iincN (n := 1) (ls' := [(0, .ref q), (1, .ref a), (2, .ref o), (3, .int (nI (ln_st w i))), (4, .int (nI (i + 1))), (5, .int (nI (ln_st w i)))]) dX0_firstPlace_62 ?_
            refine az_goto (tgt := 15) dX0_firstPlace_65 ?_
            refine az_W.keep (ls' := [(0, .ref q), (1, .ref a), (2, .ref o), (3, .int (nI (ln_st w i))), (4, .int (nI (i + 1)))]) [0, 1, 2, 3, 4] rfl ?_
            first | exact absurd c52 (by decide) | exact absurd rfl c52 | exact hitx _ (i + 1) (ln_st w i) s p h' rfl (by omega) hx6 hs hhit hff (by rw [List.drop_zero]; omega) he | exact ih _ (by omega) (i + 1) (fa_s g n s (ln_run w bs [ln_st w i])) (p + (ln_run w bs [ln_st w i]).length) _ rfl (by omega) (fa_s_lt _ hs) hff (by omega) (by rw [he, az_up_up])
  refine az_M.of rfl (Nat.le_of_ble_eq_true rfl) ?_
  show az_W _ _ _ _ 0 [(0, .ref q), (1, .ref a), (2, .ref o)] [] _ _
  refine az_aload_n dX0_firstPlace_0 ?_
  refine az_iconst (v := nI 0) dX0_firstPlace_1 ?_
  refine az_putf (fs' := [.ref (q + 1), .int (nI n), .ref (q + 2), .ref (q + 3), .ref (q + 4), .int (nI 0), v6, .ref (q + 5)]) dX0_firstPlace_2 fl_X0_88 h0 ?_
  refine az_aload_n dX0_firstPlace_5 ?_
  refine az_lconst (v := lN 0) dX0_firstPlace_6 ?_
  refine az_putf (fs' := [.ref (q + 1), .int (nI n), .ref (q + 2), .ref (q + 3), .ref (q + 4), .int (nI 0), .long (lN 0), .ref (q + 5)]) dX0_firstPlace_7 fl_X0_91 az_up_eq ?_
  rw [az_up_up]
  refine az_iconst (v := (-1)) dX0_firstPlace_10 ?_
  refine az_istore_n (ls' := [(0, .ref q), (1, .ref a), (2, .ref o), (3, .int ((-1)))]) dX0_firstPlace_11 ?_
  refine az_iconst (v := nI 0) dX0_firstPlace_12 ?_
  refine az_istore (ls' := [(0, .ref q), (1, .ref a), (2, .ref o), (3, .int ((-1))), (4, .int (nI 0))]) dX0_firstPlace_13 ?_
  exact first9 _ 0 0 0 _ rfl (Nat.zero_le _) (by omega) (by rw [List.drop_zero]; rfl) (by rw [List.drop_zero]; show 0 + (ln_str w bs).length ≤ _; omega) rfl
