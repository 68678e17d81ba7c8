/-! Futures: a night ahead -/
set_option maxRecDepth 100000 in
theorem s_clearF {d u t wn wx dp : Nat} {tl : Value} {f : Nat → Int64} {hp : az_Hp} {Q : Option Value → az_Hp → Prop} (hd : 2 ≤ d) (h0 : hp.2 u = some (az_O 1 [.ref t, .ref (u + 1), .ref (u + 2), .ref (u + 3), .ref (u + 4), tl, .ref wn, .ref wx])) (h1 : hp.2 (u + 1) = some (az_J 54 f)) (hdp : dp ≤ 8) (hQ : ∀ g, (∀ j, (j < dp * 6 ∨ (dp + 1) * 6 ≤ j) → g j = f j) → (∀ j, dp * 6 ≤ j → j < (dp + 1) * 6 → g j = lN 0) → Q none (az_up hp (u + 1) (az_J 54 g))) : az_M mX1_clear d 0 0 [.ref u, .int (nI dp)] hp Q := by
  refine az_M.of rfl (Nat.le_of_ble_eq_true rfl) ?_
  show az_W _ _ _ _ 0 [(0, .ref u), (1, .int (nI dp))] [] _ _
  refine az_aload_n dX1_clear_0 ?_
  refine az_getf (v := .ref (u + 1)) dX1_clear_1 fl_X1_11 h0 ?_
  refine az_iload_n dX1_clear_4 ?_
  refine az_bipush (v := nI 6) dX1_clear_5 ?_
  refine az_imulN dX1_clear_7 ?_
  refine az_iload_n dX1_clear_8 ?_
  refine az_iconst (v := nI 1) dX1_clear_9 ?_
  refine az_iaddN dX1_clear_10 ?_
  refine az_bipush (v := nI 6) dX1_clear_11 ?_
  refine az_imulN dX1_clear_13 ?_
  refine az_lconst (v := lN 0) dX1_clear_14 ?_
  refine az_cS0 (st := []) dX1_clear_15 ml_X1_54 (s_fillJR (d := d - 1) (by omega) (lo := dp * 6) (hi := (dp + 1) * 6) (by omega) (by omega) (by decide) h1 ?_)
  intro g q1 q2
  exact az_vret dX1_clear_18 (hQ g q1 q2)
set_option maxHeartbeats 4000000 in
set_option maxRecDepth 100000 in
theorem s_addNight {d u t wn wx dp tb : Nat} {w : ln_W} {tl : Value} {c e : Nat → Nat} {f : Nat → Int64} {hp : az_Hp} {Q : Option Value → az_Hp → Prop} (hw : ln_ok w) (hT : ln_To hp t w u (u + 4)) (h0 : hp.2 u = some (az_O 1 [.ref t, .ref (u + 1), .ref (u + 2), .ref (u + 3), .ref (u + 4), tl, .ref wn, .ref wx])) (h1 : hp.2 (u + 1) = some (az_J 54 f)) (hdp : dp ≤ 7) (h3 : tb < 3) (hc : ∀ x, x < 6 → f (dp * 6 + x) = lN (c x)) (hcb : ∀ x, x < 6 → c x < 2 ^ 63) (hce : ∀ x, x < 6 → f (dp * 6 + 6 + x) = lN (e x)) (hQ : ∀ g, (∀ j, j < dp * 6 + 6 → g j = f j) → (∀ x, x < 6 → g (dp * 6 + 6 + x) = lN (e x + fu_n w tb c x)) → Q none (az_up hp (u + 1) (az_J 54 g))) : az_M mX1_addNight d 0 0 [.ref u, .int (nI dp), .int (nI tb)] hp Q := by
  obtain ⟨a4, a5, hT0, hT1, hT2, -⟩ := id hT
  have inner : ∀ (k : Nat) (x i s9 : Nat) (g : Nat → Int64) (h' : az_Hp) (hx6 : x < 6) (hs9 : s9 = ln_sz w (tb * 6 + x) ∨ (s9 = 0 ∧ c x = 0)) (hK : ∀ (g : Nat → Int64) (h' : az_Hp), (∀ j, j < dp * 6 + 6 → g j = f j) → (∀ y, y < 6 → g (dp * 6 + 6 + y) = lN (e y + sm (fun z => c z * (ln_sub w tb z).count y) (x + 1))) → h' = az_up hp (u + 1) (az_J 54 g) → az_W mX1_addNight d 0 0 108 [(0, .ref u), (1, .int (nI dp)), (2, .int (nI tb)), (3, .int (nI (dp * 6))), (4, .int (nI (dp * 6 + 6))), (5, .int (nI x)), (6, .int (nI (tb * 6 + x))), (7, .long (lN (c x))), (9, .int (nI s9)), (10, .int (nI s9))] [] h' Q), s9 - i = k → (i ≤ s9) → (∀ j, j < dp * 6 + 6 → g j = f j) → (∀ y, y < 6 → g (dp * 6 + 6 + y) = lN (e y + fu_p w tb c x i y)) → (h' = az_up hp (u + 1) (az_J 54 g)) → az_W mX1_addNight d 0 0 67 [(0, .ref u), (1, .int (nI dp)), (2, .int (nI tb)), (3, .int (nI (dp * 6))), (4, .int (nI (dp * 6 + 6))), (5, .int (nI x)), (6, .int (nI (tb * 6 + x))), (7, .long (lN (c x))), (9, .int (nI s9)), (10, .int (nI i))] [] h' Q := by
    intro k
    induction k using Nat.strongRecOn with
    | _ k ih =>
    intro x i s9 g h' hx6 hs9 hK hk hi9 ho hg he
    have hT' : ln_Town h' t w := (hT.fr (by rw [he]; exact az_fr.rf.up)).town
    obtain ⟨a4', a5', hT0', hT1', hT2', hT3', -⟩ := id hT'
    have hz4 := hw.2.2.2.2.2.2.1 (tb * 6 + x)
    refine az_iload dX1_addNight_67 ?_
    refine az_iload dX1_addNight_69 ?_
    refine az_icmp_geN (tgt := 108) dX1_addNight_71 (fun c71 => ?_) (fun c71 => ?_)
    · obtain rfl : i = s9 := by omega
      exact hK g h' ho (fun y q => (by rcases hs9 with q1 | q1; (rw [hg y q, q1, fu_p_full]); (rw [hg y q, q1.1, fu_p_none q1.2]))) he
    · refine az_aload_n dX1_addNight_74 ?_
      refine az_getf (v := .ref (u + 1)) dX1_addNight_75 fl_X1_11 (by rw [he]; exact az_up_ne h0) ?_
      refine az_iload dX1_addNight_78 ?_
      refine az_aload_n dX1_addNight_80 ?_
      refine az_getf (v := .ref t) dX1_addNight_81 fl_X1_35 (by rw [he]; exact az_up_ne h0) ?_
      refine az_getf (v := .ref (t + 3)) dX1_addNight_84 fl_X1_60 hT0' ?_
      refine az_iload dX1_addNight_87 ?_
      refine az_iconst (v := nI 4) dX1_addNight_89 ?_
      refine az_imulN dX1_addNight_90 ?_
      refine az_iload dX1_addNight_91 ?_
      refine az_iaddN dX1_addNight_93 ?_
      refine az_ialdN (j := ((tb * 6 + x) * 4) + i) dX1_addNight_94 hT3' ?_
      have hc6 := hw.2.2.2.2.2.2.2.1 ((tb * 6 + x) * 4 + i)
      refine az_iaddN dX1_addNight_95 ?_
      refine az_dup2_11 dX1_addNight_96 ?_
      refine az_laldN (j := (dp * 6 + 6) + (ln_ch w (((tb * 6 + x) * 4) + i))) dX1_addNight_97 (by rw [he]; exact az_up_eq) ?_
      rw [hg (ln_ch w ((tb * 6 + x) * 4 + i)) hc6]
      refine az_lload dX1_addNight_98 ?_
      refine az_laddN dX1_addNight_100 ?_
      refine az_lastN (j := (dp * 6 + 6) + (ln_ch w (((tb * 6 + x) * 4) + i))) dX1_addNight_101 (by rw [he]; exact az_up_eq) ?_
      refine az_iincN (n := 1) (ls' := [(0, .ref u), (1, .int (nI dp)), (2, .int (nI tb)), (3, .int (nI (dp * 6))), (4, .int (nI (dp * 6 + 6))), (5, .int (nI x)), (6, .int (nI (tb * 6 + x))), (7, .long (lN (c x))), (9, .int (nI s9)), (10, .int (nI (i + 1)))]) dX1_addNight_102 ?_
      refine az_goto (tgt := 67) dX1_addNight_105 ?_
      exact ih _ (by omega) x (i + 1) s9 (az_s g (dp * 6 + 6 + ln_ch w ((tb * 6 + x) * 4 + i)) (lN (e (ln_ch w ((tb * 6 + x) * 4 + i)) + fu_p w tb c x i (ln_ch w ((tb * 6 + x) * 4 + i)) + c x))) _ hx6 hs9 hK rfl (by omega) (fun j q => (by rw [az_s_ne (by omega)]; exact ho j q)) (fun y q => if e9 : y = ln_ch w ((tb * 6 + x) * 4 + i) then (by rw [e9, az_s_eq, fu_p_step (by omega), if_pos rfl, Nat.add_assoc]) else (by rw [az_s_ne (by omega), fu_p_step (by omega), if_neg e9]; exact hg y q)) (by rw [he, az_up_up])
  have outer : ∀ (k : Nat) (x : Nat) (g : Nat → Int64) (h' : az_Hp), 6 - x = k → (x ≤ 6) → (∀ j, j < dp * 6 + 6 → g j = f j) → (∀ y, y < 6 → g (dp * 6 + 6 + y) = lN (e y + sm (fun z => c z * (ln_sub w tb z).count y) x)) → (h' = az_up hp (u + 1) (az_J 54 g)) → az_W mX1_addNight d 0 0 14 [(0, .ref u), (1, .int (nI dp)), (2, .int (nI tb)), (3, .int (nI (dp * 6))), (4, .int (nI (dp * 6 + 6))), (5, .int (nI x))] [] h' Q := by
    intro k
    induction k using Nat.strongRecOn with
    | _ k ih =>
    intro x g h' hk hx6 ho hg he
    have hT' : ln_Town h' t w := (hT.fr (by rw [he]; exact az_fr.rf.up)).town
    obtain ⟨a4', a5', hT0', hT1', hT2', hT3', -⟩ := id hT'
    refine az_iload dX1_addNight_14 ?_
    refine az_bipush (v := nI 6) dX1_addNight_16 ?_
    refine az_icmp_geN (tgt := 114) dX1_addNight_18 (fun c18 => ?_) (fun c18 => ?_)
    · exact az_vret dX1_addNight_114 (by rw [he]; exact hQ g ho (fun y q => (by rw [hg y q, show x = 6 by omega]; rfl)))
    · refine az_iload_n dX1_addNight_21 ?_
      refine az_bipush (v := nI 6) dX1_addNight_22 ?_
      refine az_imulN dX1_addNight_24 ?_
      refine az_iload dX1_addNight_25 ?_
      refine az_iaddN dX1_addNight_27 ?_
      refine az_istore (ls' := [(0, .ref u), (1, .int (nI dp)), (2, .int (nI tb)), (3, .int (nI (dp * 6))), (4, .int (nI (dp * 6 + 6))), (5, .int (nI x)), (6, .int (nI ((tb * 6) + x)))]) dX1_addNight_28 ?_
      refine az_aload_n dX1_addNight_30 ?_
      refine az_getf (v := .ref (u + 1)) dX1_addNight_31 fl_X1_11 (by rw [he]; exact az_up_ne h0) ?_
      refine az_iload_n dX1_addNight_34 ?_
      refine az_iload dX1_addNight_35 ?_
      refine az_iaddN dX1_addNight_37 ?_
      refine az_laldN (j := (dp * 6) + x) dX1_addNight_38 (by rw [he]; exact az_up_eq) ?_
      rw [ho (dp * 6 + x) (by omega), hc x (by omega)]
      refine az_lstore (ls' := [(0, .ref u), (1, .int (nI dp)), (2, .int (nI tb)), (3, .int (nI (dp * 6))), (4, .int (nI (dp * 6 + 6))), (5, .int (nI x)), (6, .int (nI ((tb * 6) + x))), (7, .long (lN (c x)))]) dX1_addNight_39 ?_
      refine az_lload dX1_addNight_41 ?_
      have hcbx := hcb x (by omega)
      refine az_lconst (v := lN 0) dX1_addNight_43 ?_
      refine az_lcmp_neN (tgt := 52) dX1_addNight_44 dX1_addNight_45 (fun c44 => ?_) (fun c44 => ?_)
      · refine az_aload_n dX1_addNight_52 ?_
        refine az_getf (v := .ref t) dX1_addNight_53 fl_X1_35 (by rw [he]; exact az_up_ne h0) ?_
        refine az_getf (v := .ref (t + 2)) dX1_addNight_56 fl_X1_49 hT0' ?_
        refine az_iload dX1_addNight_59 ?_
        refine az_ialdN (j := (tb * 6) + x) dX1_addNight_61 hT2' ?_
        refine az_istore (ls' := [(0, .ref u), (1, .int (nI dp)), (2, .int (nI tb)), (3, .int (nI (dp * 6))), (4, .int (nI (dp * 6 + 6))), (5, .int (nI x)), (6, .int (nI ((tb * 6) + x))), (7, .long (lN (c x))), (9, .int (nI (ln_sz w ((tb * 6) + x))))]) dX1_addNight_62 ?_
        refine az_iconst (v := nI 0) dX1_addNight_64 ?_
        refine az_istore (ls' := [(0, .ref u), (1, .int (nI dp)), (2, .int (nI tb)), (3, .int (nI (dp * 6))), (4, .int (nI (dp * 6 + 6))), (5, .int (nI x)), (6, .int (nI ((tb * 6) + x))), (7, .long (lN (c x))), (9, .int (nI (ln_sz w ((tb * 6) + x)))), (10, .int (nI 0))]) dX1_addNight_65 ?_
        refine inner _ x 0 (ln_sz w ((tb * 6) + x)) g h' (by omega) (by first | exact Or.inl rfl | exact Or.inr ⟨rfl, by omega⟩) ?_ rfl (Nat.zero_le _) ho (fun y q => (by rw [fu_p_0]; exact hg y q)) he
        intro g h' ho hg he
        refine az_iincN (n := 1) (ls' := [(0, .ref u), (1, .int (nI dp)), (2, .int (nI tb)), (3, .int (nI (dp * 6))), (4, .int (nI (dp * 6 + 6))), (5, .int (nI (x + 1))), (6, .int (nI ((tb * 6) + x))), (7, .long (lN (c x))), (9, .int (nI (ln_sz w ((tb * 6) + x)))), (10, .int (nI ((ln_sz w ((tb * 6) + x)))))]) dX1_addNight_108 ?_
        refine az_goto (tgt := 14) dX1_addNight_111 ?_
        refine az_W.keep (ls' := [(0, .ref u), (1, .int (nI dp)), (2, .int (nI tb)), (3, .int (nI (dp * 6))), (4, .int (nI (dp * 6 + 6))), (5, .int (nI (x + 1)))]) [0, 1, 2, 3, 4, 5] rfl ?_
        exact ih _ (by omega) (x + 1) g h' rfl (by omega) ho hg he
      · refine az_iconst (v := nI 0) dX1_addNight_48 ?_
        refine az_goto (tgt := 62) dX1_addNight_49 ?_
        refine az_istore (ls' := [(0, .ref u), (1, .int (nI dp)), (2, .int (nI tb)), (3, .int (nI (dp * 6))), (4, .int (nI (dp * 6 + 6))), (5, .int (nI x)), (6, .int (nI ((tb * 6) + x))), (7, .long (lN (c x))), (9, .int (nI 0))]) dX1_addNight_62 ?_
        refine az_iconst (v := nI 0) dX1_addNight_64 ?_
        refine az_istore (ls' := [(0, .ref u), (1, .int (nI dp)), (2, .int (nI tb)), (3, .int (nI (dp * 6))), (4, .int (nI (dp * 6 + 6))), (5, .int (nI x)), (6, .int (nI ((tb * 6) + x))), (7, .long (lN (c x))), (9, .int (nI 0)), (10, .int (nI 0))]) dX1_addNight_65 ?_
        refine inner _ x 0 0 g h' (by omega) (by first | exact Or.inl rfl | exact Or.inr ⟨rfl, by omega⟩) ?_ rfl (Nat.zero_le _) ho (fun y q => (by rw [fu_p_0]; exact hg y q)) he
        intro g h' ho hg he
        refine az_iincN (n := 1) (ls' := [(0, .ref u), (1, .int (nI dp)), (2, .int (nI tb)), (3, .int (nI (dp * 6))), (4, .int (nI (dp * 6 + 6))), (5, .int (nI (x + 1))), (6, .int (nI ((tb * 6) + x))), (7, .long (lN (c x))), (9, .int (nI 0)), (10, .int (nI 0))]) dX1_addNight_108 ?_
        refine az_goto (tgt := 14) dX1_addNight_111 ?_
        refine az_W.keep (ls' := [(0, .ref u), (1, .int (nI dp)), (2, .int (nI tb)), (3, .int (nI (dp * 6))), (4, .int (nI (dp * 6 + 6))), (5, .int (nI (x + 1)))]) [0, 1, 2, 3, 4, 5] rfl ?_
        exact ih _ (by omega) (x + 1) g h' rfl (by omega) ho hg he
  refine az_M.of rfl (Nat.le_of_ble_eq_true rfl) ?_
  show az_W _ _ _ _ 0 [(0, .ref u), (1, .int (nI dp)), (2, .int (nI tb))] [] _ _
  refine az_iload_n dX1_addNight_0 ?_
  refine az_bipush (v := nI 6) dX1_addNight_1 ?_
  refine az_imulN dX1_addNight_3 ?_
  refine az_istore_n (ls' := [(0, .ref u), (1, .int (nI dp)), (2, .int (nI tb)), (3, .int (nI (dp * 6)))]) dX1_addNight_4 ?_
  refine az_iload_n dX1_addNight_5 ?_
  refine az_bipush (v := nI 6) dX1_addNight_6 ?_
  refine az_iaddN dX1_addNight_8 ?_
  refine az_istore (ls' := [(0, .ref u), (1, .int (nI dp)), (2, .int (nI tb)), (3, .int (nI (dp * 6))), (4, .int (nI ((dp * 6) + 6)))]) dX1_addNight_9 ?_
  refine az_iconst (v := nI 0) dX1_addNight_11 ?_
  refine az_istore (ls' := [(0, .ref u), (1, .int (nI dp)), (2, .int (nI tb)), (3, .int (nI (dp * 6))), (4, .int (nI ((dp * 6) + 6))), (5, .int (nI 0))]) dX1_addNight_12 ?_
  exact outer _ 0 f _ rfl (Nat.zero_le _) (fun j _ => rfl) (fun y q => (by rw [hce y q]; rfl)) (az_up_same h1).symm
