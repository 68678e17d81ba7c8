/-! Scene: its start -/
/-- a scene's cells, whatever they hold -/
def sc_Q (h : az_Hp) (a t : Nat) (v1 v2 v3 v4 v5 : Value) (c : Nat → Int64) (hi fr la : Nat → Int32) : Prop := ∃ (no wa : Nat → Int32) (nc : Nat → Int64),
  h.2 a = some (az_O 5 [.ref t, v1, v2, v3, v4, v5, .ref (a + 1), .ref (a + 2), .ref (a + 3), .ref (a + 4), .ref (a + 5), .ref (a + 6), .ref (a + 7)]) ∧ h.2 (a + 1) = some (az_J 6 c) ∧ h.2 (a + 2) = some (az_I 60 hi) ∧ h.2 (a + 3) = some (az_I 6 fr) ∧ h.2 (a + 4) = some (az_I 6 la) ∧ h.2 (a + 5) = some (az_I 6 no) ∧ h.2 (a + 6) = some (az_J 6 nc) ∧ h.2 (a + 7) = some (az_I 64 wa)
theorem sc_Q.R {h : az_Hp} {a t : Nat} {v1 v2 v3 : Value} {l : List Nat} {hi fr la : Nat → Int32} (H : sc_Q h a t v1 v2 v3 (.long (lN l.length)) (.int (nI (ln_dd l).length)) (fun x => lN (l.count x)) hi fr la) (h1 : tells fr (ln_dd l)) (h2 : tells la (ln_dd l.reverse)) : sc_R h a t v1 v2 v3 l hi := by
  obtain ⟨no, wa, nc, g0, g1, g2, g3, g4, g5, g6, g7⟩ := H
  exact ⟨fr, la, no, wa, nc, g0, g1, g2, g3, h1, g4, h2, g5, g6, g7⟩
theorem sc_R.Q {h : az_Hp} {a t : Nat} {v1 v2 v3 : Value} {l : List Nat} {hi : Nat → Int32} (H : sc_R h a t v1 v2 v3 l hi) : ∃ fr la, sc_Q h a t v1 v2 v3 (.long (lN l.length)) (.int (nI (ln_dd l).length)) (fun x => lN (l.count x)) hi fr la ∧ tells fr (ln_dd l) ∧ tells la (ln_dd l.reverse) := by
  obtain ⟨fr, la, no, wa, nc, g0, g1, g2, g3, h1, g4, h2, g5, g6, g7⟩ := H
  exact ⟨fr, la, ⟨no, wa, nc, g0, g1, g2, g3, g4, g5, g6, g7⟩, h1, h2⟩
theorem word_len (w : ln_W) : (ln_word w).length = ln_sd w := by simp [ln_word]
theorem word_getD {w : ln_W} {i : Nat} (h : i < ln_sd w) : (ln_word w).getD i 0 = ln_st w i := by
  rw [List.getD_eq_getElem?_getD]; simp [ln_word, h]
theorem word_rev {w : ln_W} {i : Nat} (h : i < ln_sd w) : (ln_word w).reverse.getD i 0 = ln_st w (ln_sd w - 1 - i) := by
  rw [List.getD_eq_getElem?_getD, List.getElem?_reverse (by rw [word_len]; exact h), word_len, ← word_getD (by omega), List.getD_eq_getElem?_getD]
theorem dd_take {l : List Nat} {i : Nat} (h : i < l.length) : ln_dd (l.take (i + 1)) = ln_en (ln_dd (l.take i)) (l.getD i 0) := by
  rw [take_getD h, dd_snoc]
theorem cnt_take {l : List Nat} {i : Nat} (h : i < l.length) : (fun y => lN ((l.take (i + 1)).count y)) = fun y => lN (az_s (fun y => (l.take i).count y) (l.getD i 0) ((l.take i).count (l.getD i 0) + 1) y) := by
  funext y
  congr 1
  rw [tk_count h]
  by_cases e : y = l.getD i 0
  · rw [e, if_pos rfl, az_s_eq]
  · rw [if_neg e, az_s_ne e]; rfl
set_option maxRecDepth 100000 in
theorem s_layStart {d a t : Nat} {w : ln_W} {v1 v2 v3 v4 v5 : Value} {c : Nat → Int64} {hi fr la : Nat → Int32} {hp : az_Hp} {Q : Option Value → az_Hp → Prop} (hd : 1 ≤ d) (hw : ln_ok w) (hT : ln_To hp t w a (a + 8)) (hS : sc_Q hp a t v1 v2 v3 v4 v5 c hi fr la) (hQ : ∀ h', sc_R h' a t v1 v2 v3 (ln_word w) hi → az_fr hp h' a (a + 8) → Q none h') : az_M mX6_layStart d 0 0 [.ref a] hp Q := by
  obtain ⟨no0, wa0, nc0, e0, e1, e2, e3, e4, e5, e6, e7⟩ := hS
  have hsd := hw.2.2.2.2.1
  obtain ⟨a4, a5, hT0, -, -, -, -, -, ot0, -, -⟩ := id hT
  have loop : ∀ (k : Nat) (i : Nat) (fr la : Nat → Int32) (h' : az_Hp), ln_sd w - i = k → (i ≤ ln_sd w) → (az_fr hp h' a (a + 8)) → (sc_Q h' a t v1 v2 v3 (.long (lN (ln_sd w))) (.int (nI (ln_dd ((ln_word w).take i)).length)) (fun y => lN (((ln_word w).take i).count y)) hi fr la) → (tells fr (ln_dd ((ln_word w).take i))) → (tells la (ln_dd ((ln_word w).reverse.take i))) → az_W mX6_layStart d 0 0 29 [(0, .ref a), (1, .int (nI ((ln_dd ((ln_word w).reverse.take i)).length))), (2, .int (nI i))] [] h' Q := by
    intro k
    induction k using Nat.strongRecOn with
    | _ k ih =>
    intro i fr la h' hk hi9 hf hq tf tl
    obtain ⟨no, wa, nc, g0, g1, g2, g3, g4, g5, g6, g7⟩ := id hq
    obtain ⟨a4', a5', hT0', k1, -, -, -, -, ot, -, -⟩ := hT.fr hf
    refine az_iload_n dX6_layStart_29 ?_
    refine az_aload_n dX6_layStart_30 ?_
    refine az_getf (v := .ref t) dX6_layStart_31 fl_X6_40 g0 ?_
    refine az_getf (v := .int (nI (ln_sd w))) dX6_layStart_34 fl_X6_89 hT0' ?_
    refine az_icmp_geN (tgt := 110) dX6_layStart_37 (fun c37 => ?_) (fun c37 => ?_)
    · have hwl : (ln_word w).length ≤ i := by rw [word_len]; omega
      rw [List.take_of_length_le hwl] at hq tf
      rw [List.take_of_length_le (by rw [List.length_reverse]; exact hwl)] at tl
      rw [← word_len w] at hq
      exact az_vret dX6_layStart_110 (hQ _ (hq.R tf tl) hf)
    · refine az_aload_n dX6_layStart_40 ?_
      refine az_getf (v := .ref t) dX6_layStart_41 fl_X6_40 g0 ?_
      refine az_getf (v := .ref (t + 1)) dX6_layStart_44 fl_X6_92 hT0' ?_
      refine az_iload_n dX6_layStart_47 ?_
      have hx6 := hw.2.2.2.2.2.1 i
      refine az_ialdN (j := i) dX6_layStart_48 k1 ?_
      refine az_istore_n (ls' := [(0, .ref a), (1, .int (nI ((ln_dd ((ln_word w).reverse.take i)).length))), (2, .int (nI i)), (3, .int (nI (ln_st w i)))]) dX6_layStart_49 ?_
      refine az_aload_n dX6_layStart_50 ?_
      refine az_getf (v := .ref (a + 1)) dX6_layStart_51 fl_X6_9 g0 ?_
      refine az_iload_n dX6_layStart_54 ?_
      refine az_dup2_11 dX6_layStart_55 ?_
      refine az_laldN (j := ln_st w i) dX6_layStart_56 g1 ?_
      refine az_lconst (v := lN 1) dX6_layStart_57 ?_
      refine az_laddN dX6_layStart_58 ?_
      refine az_lastN (j := ln_st w i) dX6_layStart_59 g1 ?_
      rw [az_s_lN]
      refine az_aload_n dX6_layStart_60 ?_
      refine az_aload_n dX6_layStart_61 ?_
      refine az_getf (v := .ref (a + 3)) dX6_layStart_62 fl_X6_19 (az_up_ne g0) ?_
      refine az_aload_n dX6_layStart_65 ?_
      refine az_getf (v := .int (nI ((ln_dd ((ln_word w).take i)).length))) dX6_layStart_66 fl_X6_64 (az_up_ne g0) ?_
      refine az_iload_n dX6_layStart_69 ?_
      refine az_cS0 (st := [.ref a]) dX6_layStart_70 ml_X6_95 (s_enlisted (d := d - 1) (acc := ln_dd ((ln_word w).take i)) (az_up_ne g3) tf (dd_nodup _) (fun y hy => ln_word_lt hw (List.mem_of_mem_take ((dd_mem _ _).mp hy))) hx6 (fun fr' tf' => ?_))
      refine az_putf (fs' := [.ref t, v1, v2, v3, .long (lN (ln_sd w)), .int (nI ((ln_en (ln_dd ((ln_word w).take i)) (ln_st w i)).length)), .ref (a + 1), .ref (a + 2), .ref (a + 3), .ref (a + 4), .ref (a + 5), .ref (a + 6), .ref (a + 7)]) dX6_layStart_73 fl_X6_64 (az_up_ne (az_up_ne g0)) ?_
      refine az_aload_n dX6_layStart_76 ?_
      refine az_getf (v := .ref (a + 4)) dX6_layStart_77 fl_X6_22 az_up_eq ?_
      refine az_iload_n dX6_layStart_80 ?_
      refine az_aload_n dX6_layStart_81 ?_
      refine az_getf (v := .ref t) dX6_layStart_82 fl_X6_40 az_up_eq ?_
      refine az_getf (v := .ref (t + 1)) dX6_layStart_85 fl_X6_92 (az_up_ne (az_up_ne (az_up_ne hT0'))) ?_
      refine az_aload_n dX6_layStart_88 ?_
      refine az_getf (v := .ref t) dX6_layStart_89 fl_X6_40 az_up_eq ?_
      refine az_getf (v := .int (nI (ln_sd w))) dX6_layStart_92 fl_X6_89 (az_up_ne (az_up_ne (az_up_ne hT0'))) ?_
      refine az_iconst (v := nI 1) dX6_layStart_95 ?_
      refine az_isubN dX6_layStart_96 (by omega) ?_
      refine az_iload_n dX6_layStart_97 ?_
      refine az_isubN dX6_layStart_98 (by omega) ?_
      have hy6 := hw.2.2.2.2.2.1 (ln_sd w - 1 - i)
      refine az_ialdN (j := ((ln_sd w) - 1) - i) dX6_layStart_99 (az_up_ne (az_up_ne (az_up_ne k1))) ?_
      refine az_cS0 (st := []) dX6_layStart_100 ml_X6_95 (s_enlisted (d := d - 1) (acc := ln_dd ((ln_word w).reverse.take i)) (az_up_ne (az_up_ne (az_up_ne g4))) tl (dd_nodup _) (fun y hy => ln_word_lt hw (List.mem_reverse.mp (List.mem_of_mem_take ((dd_mem _ _).mp hy)))) hy6 (fun la' tl' => ?_))
      refine az_istore_n (ls' := [(0, .ref a), (1, .int (nI ((ln_en (ln_dd ((ln_word w).reverse.take i)) (ln_st w (ln_sd w - 1 - i))).length))), (2, .int (nI i)), (3, .int (nI (ln_st w i)))]) dX6_layStart_103 ?_
      refine az_iincN (n := 1) (ls' := [(0, .ref a), (1, .int (nI ((ln_en (ln_dd ((ln_word w).reverse.take i)) (ln_st w (ln_sd w - 1 - i))).length))), (2, .int (nI (i + 1))), (3, .int (nI (ln_st w i)))]) dX6_layStart_104 ?_
      refine az_goto (tgt := 29) dX6_layStart_107 ?_
      refine az_W.keep (ls' := [(0, .ref a), (1, .int (nI ((ln_en (ln_dd ((ln_word w).reverse.take i)) (ln_st w (ln_sd w - 1 - i))).length))), (2, .int (nI (i + 1)))]) [0, 1, 2] rfl ?_
      have hwl : i < (ln_word w).length := by rw [word_len]; omega
      have hwr : i < (ln_word w).reverse.length := by rw [List.length_reverse]; exact hwl
      rw [← word_getD (show i < ln_sd w by omega), ← dd_take hwl] at tf'
      rw [← word_rev (show i < ln_sd w by omega), ← dd_take hwr] at tl'
      rw [← word_getD (show i < ln_sd w by omega), ← word_rev (show i < ln_sd w by omega), ← dd_take hwl, ← dd_take hwr]
      exact ih _ (by omega) (i + 1) fr' la' _ rfl (by omega) hf.up.up.up.up ⟨no, wa, nc, az_up_ne az_up_eq, az_up_ne (az_up_ne (az_up_ne (by rw [cnt_take hwl]; exact az_up_eq))), az_up_ne (az_up_ne (az_up_ne (az_up_ne g2))), az_up_ne (az_up_ne az_up_eq), az_up_eq, az_up_ne (az_up_ne (az_up_ne (az_up_ne g5))), az_up_ne (az_up_ne (az_up_ne (az_up_ne g6))), az_up_ne (az_up_ne (az_up_ne (az_up_ne g7)))⟩ tf' tl'
  refine az_M.of rfl (Nat.le_of_ble_eq_true rfl) ?_
  show az_W _ _ _ _ 0 [(0, .ref a)] [] _ _
  refine az_aload_n dX6_layStart_0 ?_
  refine az_getf (v := .ref (a + 1)) dX6_layStart_1 fl_X6_9 e0 ?_
  refine az_lconst (v := lN 0) dX6_layStart_4 ?_
  refine az_cS0 (st := []) dX6_layStart_5 ml_X6_83 (s_fillJ (d := d - 1) (by decide) e1 ?_)
  refine az_aload_n dX6_layStart_8 ?_
  refine az_aload_n dX6_layStart_9 ?_
  refine az_getf (v := .ref t) dX6_layStart_10 fl_X6_40 (az_up_ne e0) ?_
  refine az_getf (v := .int (nI (ln_sd w))) dX6_layStart_13 fl_X6_89 (az_up_ne hT0) ?_
  refine az_i2lN dX6_layStart_16 ?_
  refine az_putf (fs' := [.ref t, v1, v2, v3, .long (lN (ln_sd w)), v5, .ref (a + 1), .ref (a + 2), .ref (a + 3), .ref (a + 4), .ref (a + 5), .ref (a + 6), .ref (a + 7)]) dX6_layStart_17 fl_X6_60 (az_up_ne e0) ?_
  refine az_aload_n dX6_layStart_20 ?_
  refine az_iconst (v := nI 0) dX6_layStart_21 ?_
  refine az_putf (fs' := [.ref t, v1, v2, v3, .long (lN (ln_sd w)), .int (nI 0), .ref (a + 1), .ref (a + 2), .ref (a + 3), .ref (a + 4), .ref (a + 5), .ref (a + 6), .ref (a + 7)]) dX6_layStart_22 fl_X6_64 az_up_eq ?_
  refine az_iconst (v := nI 0) dX6_layStart_25 ?_
  refine az_istore_n (ls' := [(0, .ref a), (1, .int (nI 0))]) dX6_layStart_26 ?_
  refine az_iconst (v := nI 0) dX6_layStart_27 ?_
  refine az_istore_n (ls' := [(0, .ref a), (1, .int (nI 0)), (2, .int (nI 0))]) dX6_layStart_28 ?_
  exact loop _ 0 fr la _ rfl (Nat.zero_le _) az_fr.rf.up.up.up ⟨no0, wa0, nc0, az_up_eq, az_up_ne (az_up_ne az_up_eq), az_up_ne (az_up_ne (az_up_ne e2)), az_up_ne (az_up_ne (az_up_ne e3)), az_up_ne (az_up_ne (az_up_ne e4)), az_up_ne (az_up_ne (az_up_ne e5)), az_up_ne (az_up_ne (az_up_ne e6)), az_up_ne (az_up_ne (az_up_ne e7))⟩ (fun j hj => absurd hj (Nat.not_lt_zero j)) (fun j hj => absurd hj (Nat.not_lt_zero j))
