/-! Scene: the order of kinds behind a night -/
def ln_fx (w : ln_W) (tb fb x : Nat) : List Nat := if fb = 0 then ln_sub w tb x else (ln_sub w tb x).reverse
theorem fx_len (w : ln_W) (tb fb x : Nat) : (ln_fx w tb fb x).length = ln_sz w (tb * 6 + x) := by
  unfold ln_fx; split <;> simp [ln_sub_len]
theorem fx_get0 {w : ln_W} {tb fb x i : Nat} (h : fb = 0) (hi : i < ln_sz w (tb * 6 + x)) : (ln_fx w tb fb x).getD i 0 = ln_ch w ((tb * 6 + x) * 4 + i) := by
  rw [ln_fx, if_pos h, sub_getD hi]
theorem fx_get1 {w : ln_W} {tb fb x i : Nat} (h : ¬ fb = 0) (hi : i < ln_sz w (tb * 6 + x)) : (ln_fx w tb fb x).getD i 0 = ln_ch w ((tb * 6 + x) * 4 + (ln_sz w (tb * 6 + x) - 1 - i)) := by
  have h1 : i < (ln_sub w tb x).length := by rw [ln_sub_len]; exact hi
  rw [ln_fx, if_neg h, List.getD_eq_getElem?_getD, List.getElem?_reverse h1, ln_sub_len, ← sub_getD (by omega), List.getD_eq_getElem?_getD]
theorem fx_lt {w : ln_W} (hw : ln_ok w) {tb fb x y : Nat} (h : y ∈ ln_fx w tb fb x) : y < 6 := by
  unfold ln_fx at h
  split at h
  · exact ln_sub_lt hw h
  · exact ln_sub_lt hw (List.mem_reverse.mp h)
/-- the order so far: of the first k kinds, and of the first i children of the next one -/
def ln_ac (w : ln_W) (tb fb : Nat) (L : List Nat) (k i : Nat) : List Nat := ln_dd ((L.take k).flatMap (ln_fx w tb fb) ++ (ln_fx w tb fb (L.getD k 0)).take i)
theorem ln_ac_lt {w : ln_W} (hw : ln_ok w) {tb fb : Nat} {L : List Nat} {k i : Nat} : ∀ y ∈ ln_ac w tb fb L k i, y < 6 := by
  intro y hy
  rw [ln_ac, dd_mem] at hy
  rcases List.mem_append.mp hy with h | h
  · obtain ⟨x, -, hx⟩ := List.mem_flatMap.mp h
    exact fx_lt hw hx
  · exact fx_lt hw (List.mem_of_mem_take h)
theorem take_getD {l : List Nat} {i : Nat} (h : i < l.length) : l.take (i + 1) = l.take i ++ [l.getD i 0] := by
  rw [List.take_succ, List.getD_eq_getElem?_getD, List.getElem?_eq_getElem h]
  rfl
theorem ln_ac_step {w : ln_W} {tb fb : Nat} {L : List Nat} {k i : Nat} (h : i < ln_sz w (tb * 6 + L.getD k 0)) : ln_ac w tb fb L k (i + 1) = ln_en (ln_ac w tb fb L k i) ((ln_fx w tb fb (L.getD k 0)).getD i 0) := by
  rw [ln_ac, take_getD (by rw [fx_len]; exact h), ← List.append_assoc, dd_snoc, ln_ac]
theorem ln_ac_next {w : ln_W} {tb fb : Nat} {L : List Nat} {k : Nat} (h : k < L.length) : ln_ac w tb fb L k (ln_sz w (tb * 6 + L.getD k 0)) = ln_ac w tb fb L (k + 1) 0 := by
  rw [ln_ac, ln_ac, ← fx_len w tb fb, List.take_length, List.take_zero, List.append_nil, List.take_succ, List.getElem?_eq_getElem h, List.flatMap_append, List.getD_eq_getElem?_getD, List.getElem?_eq_getElem h]
  simp
theorem ln_ac_all {w : ln_W} {tb fb : Nat} {L : List Nat} : ln_ac w tb fb L L.length 0 = ln_dd (L.flatMap (ln_fx w tb fb)) := by
  rw [ln_ac, List.take_length, List.take_zero, List.append_nil]
set_option maxRecDepth 100000 in
theorem s_growOrder {d a t tb fb o : Nat} {w : ln_W} {L : List Nat} {v1 v2 v3 v4 : Value} {f no : Nat → Int32} {hp : az_Hp} {Q : Option Value → az_Hp → Prop} (hd : 1 ≤ d) (hw : ln_ok w) (hL : ∀ y ∈ L, y < 6) (hL6 : L.length ≤ 6) (hT : ln_To hp t w a (a + 8)) (hS0 : hp.2 a = some (az_O 5 [.ref t, v1, v2, v3, v4, .int (nI L.length), .ref (a + 1), .ref (a + 2), .ref (a + 3), .ref (a + 4), .ref (a + 5), .ref (a + 6), .ref (a + 7)])) (ho : o = a + 3 ∨ o = a + 4) (hSo : hp.2 o = some (az_I 6 f)) (hf : tells f L) (hS5 : hp.2 (a + 5) = some (az_I 6 no)) (h3 : tb < 3) (hfb : fb ≤ 1) (hQ : ∀ no' f', tells f' (ln_dd (L.flatMap (ln_fx w tb fb))) → Q (some (.int (nI (ln_dd (L.flatMap (ln_fx w tb fb))).length))) (az_up (az_up hp (a + 5) (az_I 6 no')) o (az_I 6 f'))) : az_M mX6_growOrder d 0 0 [.ref a, .ref o, .int (nI tb), .int (nI fb)] hp Q := by
  have inner : ∀ (k : Nat) (k9 i : Nat) (acc : List Nat) (g : Nat → Int32) (h' : az_Hp) (hk9 : k9 < L.length) (hK : ∀ (acc' : List Nat) (g' : Nat → Int32) (h'' : az_Hp), acc' = ln_ac w tb fb L (k9 + 1) 0 → tells g' acc' → h'' = az_up hp (a + 5) (az_I 6 g') → az_W mX6_growOrder d 0 0 90 [(0, .ref a), (1, .ref o), (2, .int (nI tb)), (3, .int (nI fb)), (4, .int (nI acc'.length)), (5, .int (nI k9)), (6, .int (nI (L.getD k9 0))), (7, .int (nI (ln_sz w (tb * 6 + L.getD k9 0)))), (8, .int (nI (ln_sz w (tb * 6 + L.getD k9 0))))] [] h'' Q), ln_sz w (tb * 6 + L.getD k9 0) - i = k → (i ≤ ln_sz w (tb * 6 + L.getD k9 0)) → (acc = ln_ac w tb fb L k9 i) → (tells g acc) → (h' = az_up hp (a + 5) (az_I 6 g)) → az_W mX6_growOrder d 0 0 36 [(0, .ref a), (1, .ref o), (2, .int (nI tb)), (3, .int (nI fb)), (4, .int (nI acc.length)), (5, .int (nI k9)), (6, .int (nI (L.getD k9 0))), (7, .int (nI (ln_sz w (tb * 6 + L.getD k9 0)))), (8, .int (nI i))] [] h' Q := by
    intro k
    induction k using Nat.strongRecOn with
    | _ k ih =>
    intro k9 i acc g h' hk9 hK hk hi hacc hg he
    have hT' : ln_Town h' t w := (hT.fr (by rw [he]; exact az_fr.rf.up)).town
    obtain ⟨a4', a5', hT0', -⟩ := id hT'
    have hz4 := hw.2.2.2.2.2.2.1 (tb * 6 + L.getD k9 0)
    have hx6 := hL _ (getD_mem hk9)
    refine az_iload dX6_growOrder_36 ?_
    refine az_iload dX6_growOrder_38 ?_
    refine az_icmp_geN (tgt := 90) dX6_growOrder_40 (fun c40 => ?_) (fun c40 => ?_)
    · obtain rfl : i = ln_sz w (tb * 6 + L.getD k9 0) := by omega
      exact hK acc g h' (by rw [hacc, ln_ac_next hk9]) hg he
    · refine az_aload_n dX6_growOrder_43 ?_
      refine az_getf (v := .ref t) dX6_growOrder_44 fl_X6_40 (by rw [he]; exact az_up_ne hS0) ?_
      refine az_iload_n dX6_growOrder_47 ?_
      refine az_iload dX6_growOrder_48 ?_
      refine az_iload_n dX6_growOrder_50 ?_
      refine az_if_eqN (tgt := 64) dX6_growOrder_51 (fun c51 => ?_) (fun c51 => ?_)
      · refine az_iload dX6_growOrder_64 ?_
        refine az_cV0 (st := []) dX6_growOrder_66 ml_X6_147 hT0' (s_childOf (d := d - 1) hT' h3 (lt := L.getD k9 0) hx6 (i := i) (by omega) ?_)
        have hcc : (ln_fx w tb fb (L.getD k9 0)).getD i 0 = (ln_ch w ((tb * 6 + L.getD k9 0) * 4 + i)) := by first | exact fx_get0 c51 (by omega) | exact fx_get1 c51 (by omega)
        refine az_istore (ls' := [(0, .ref a), (1, .ref o), (2, .int (nI tb)), (3, .int (nI fb)), (4, .int (nI acc.length)), (5, .int (nI k9)), (6, .int (nI (L.getD k9 0))), (7, .int (nI (ln_sz w (tb * 6 + L.getD k9 0)))), (8, .int (nI i)), (9, .int (nI (ln_ch w ((tb * 6 + L.getD k9 0) * 4 + i))))]) dX6_growOrder_69 ?_
        refine az_aload_n dX6_growOrder_71 ?_
        refine az_getf (v := .ref (a + 5)) dX6_growOrder_72 fl_X6_25 (by rw [he]; exact az_up_ne hS0) ?_
        refine az_iload dX6_growOrder_75 ?_
        refine az_iload dX6_growOrder_77 ?_
        refine az_cS0 (st := []) dX6_growOrder_79 ml_X6_95 (s_enlisted (d := d - 1) (acc := acc) (by rw [he]; exact az_up_eq) hg (by rw [hacc]; exact dd_nodup _) (by rw [hacc]; exact ln_ac_lt hw) (hw.2.2.2.2.2.2.2.1 _) (fun g' hg' => ?_))
        refine az_istore (ls' := [(0, .ref a), (1, .ref o), (2, .int (nI tb)), (3, .int (nI fb)), (4, .int (nI ((ln_en acc (ln_ch w ((tb * 6 + L.getD k9 0) * 4 + i))).length))), (5, .int (nI k9)), (6, .int (nI (L.getD k9 0))), (7, .int (nI (ln_sz w (tb * 6 + L.getD k9 0)))), (8, .int (nI i)), (9, .int (nI (ln_ch w ((tb * 6 + L.getD k9 0) * 4 + i))))]) dX6_growOrder_82 ?_
        refine az_iincN (n := 1) (ls' := [(0, .ref a), (1, .ref o), (2, .int (nI tb)), (3, .int (nI fb)), (4, .int (nI ((ln_en acc (ln_ch w ((tb * 6 + L.getD k9 0) * 4 + i))).length))), (5, .int (nI k9)), (6, .int (nI (L.getD k9 0))), (7, .int (nI (ln_sz w (tb * 6 + L.getD k9 0)))), (8, .int (nI (i + 1))), (9, .int (nI (ln_ch w ((tb * 6 + L.getD k9 0) * 4 + i))))]) dX6_growOrder_84 ?_
        refine az_goto (tgt := 36) dX6_growOrder_87 ?_
        refine az_W.keep (ls' := [(0, .ref a), (1, .ref o), (2, .int (nI tb)), (3, .int (nI fb)), (4, .int (nI ((ln_en acc (ln_ch w ((tb * 6 + L.getD k9 0) * 4 + i))).length))), (5, .int (nI k9)), (6, .int (nI (L.getD k9 0))), (7, .int (nI (ln_sz w (tb * 6 + L.getD k9 0)))), (8, .int (nI (i + 1)))]) [0, 1, 2, 3, 4, 5, 6, 7, 8] rfl ?_
        exact ih _ (by omega) k9 (i + 1) _ g' _ hk9 hK rfl (by omega) (by rw [ln_ac_step (by omega), hcc, hacc]) hg' (by rw [he, az_up_up])
      · refine az_iload dX6_growOrder_54 ?_
        refine az_iconst (v := nI 1) dX6_growOrder_56 ?_
        refine az_isubN dX6_growOrder_57 (by omega) ?_
        refine az_iload dX6_growOrder_58 ?_
        refine az_isubN dX6_growOrder_60 (by omega) ?_
        refine az_goto (tgt := 66) dX6_growOrder_61 ?_
        refine az_cV0 (st := []) dX6_growOrder_66 ml_X6_147 hT0' (s_childOf (d := d - 1) hT' h3 (lt := L.getD k9 0) hx6 (i := (((ln_sz w (tb * 6 + L.getD k9 0)) - 1) - i)) (by omega) ?_)
        have hcc : (ln_fx w tb fb (L.getD k9 0)).getD i 0 = (ln_ch w ((tb * 6 + L.getD k9 0) * 4 + (((ln_sz w (tb * 6 + L.getD k9 0)) - 1) - i))) := by first | exact fx_get0 c51 (by omega) | exact fx_get1 c51 (by omega)
        refine az_istore (ls' := [(0, .ref a), (1, .ref o), (2, .int (nI tb)), (3, .int (nI fb)), (4, .int (nI acc.length)), (5, .int (nI k9)), (6, .int (nI (L.getD k9 0))), (7, .int (nI (ln_sz w (tb * 6 + L.getD k9 0)))), (8, .int (nI i)), (9, .int (nI (ln_ch w ((tb * 6 + L.getD k9 0) * 4 + (((ln_sz w (tb * 6 + L.getD k9 0)) - 1) - i)))))]) dX6_growOrder_69 ?_
        refine az_aload_n dX6_growOrder_71 ?_
        refine az_getf (v := .ref (a + 5)) dX6_growOrder_72 fl_X6_25 (by rw [he]; exact az_up_ne hS0) ?_
        refine az_iload dX6_growOrder_75 ?_
        refine az_iload dX6_growOrder_77 ?_
        refine az_cS0 (st := []) dX6_growOrder_79 ml_X6_95 (s_enlisted (d := d - 1) (acc := acc) (by rw [he]; exact az_up_eq) hg (by rw [hacc]; exact dd_nodup _) (by rw [hacc]; exact ln_ac_lt hw) (hw.2.2.2.2.2.2.2.1 _) (fun g' hg' => ?_))
        refine az_istore (ls' := [(0, .ref a), (1, .ref o), (2, .int (nI tb)), (3, .int (nI fb)), (4, .int (nI ((ln_en acc (ln_ch w ((tb * 6 + L.getD k9 0) * 4 + (((ln_sz w (tb * 6 + L.getD k9 0)) - 1) - i)))).length))), (5, .int (nI k9)), (6, .int (nI (L.getD k9 0))), (7, .int (nI (ln_sz w (tb * 6 + L.getD k9 0)))), (8, .int (nI i)), (9, .int (nI (ln_ch w ((tb * 6 + L.getD k9 0) * 4 + (((ln_sz w (tb * 6 + L.getD k9 0)) - 1) - i)))))]) dX6_growOrder_82 ?_
        refine az_iincN (n := 1) (ls' := [(0, .ref a), (1, .ref o), (2, .int (nI tb)), (3, .int (nI fb)), (4, .int (nI ((ln_en acc (ln_ch w ((tb * 6 + L.getD k9 0) * 4 + (((ln_sz w (tb * 6 + L.getD k9 0)) - 1) - i)))).length))), (5, .int (nI k9)), (6, .int (nI (L.getD k9 0))), (7, .int (nI (ln_sz w (tb * 6 + L.getD k9 0)))), (8, .int (nI (i + 1))), (9, .int (nI (ln_ch w ((tb * 6 + L.getD k9 0) * 4 + (((ln_sz w (tb * 6 + L.getD k9 0)) - 1) - i)))))]) dX6_growOrder_84 ?_
        refine az_goto (tgt := 36) dX6_growOrder_87 ?_
        refine az_W.keep (ls' := [(0, .ref a), (1, .ref o), (2, .int (nI tb)), (3, .int (nI fb)), (4, .int (nI ((ln_en acc (ln_ch w ((tb * 6 + L.getD k9 0) * 4 + (((ln_sz w (tb * 6 + L.getD k9 0)) - 1) - i)))).length))), (5, .int (nI k9)), (6, .int (nI (L.getD k9 0))), (7, .int (nI (ln_sz w (tb * 6 + L.getD k9 0)))), (8, .int (nI (i + 1)))]) [0, 1, 2, 3, 4, 5, 6, 7, 8] rfl ?_
        exact ih _ (by omega) k9 (i + 1) _ g' _ hk9 hK rfl (by omega) (by rw [ln_ac_step (by omega), hcc, hacc]) hg' (by rw [he, az_up_up])
  have outer : ∀ (k : Nat) (k9 : Nat) (acc : List Nat) (g : Nat → Int32) (h' : az_Hp), L.length - k9 = k → (k9 ≤ L.length) → (acc = ln_ac w tb fb L k9 0) → (tells g acc) → (h' = az_up hp (a + 5) (az_I 6 g)) → az_W mX6_growOrder d 0 0 6 [(0, .ref a), (1, .ref o), (2, .int (nI tb)), (3, .int (nI fb)), (4, .int (nI acc.length)), (5, .int (nI k9))] [] h' Q := by
    intro k
    induction k using Nat.strongRecOn with
    | _ k ih =>
    intro k9 acc g h' hk hk9 hacc hg he
    have hT' : ln_Town h' t w := (hT.fr (by rw [he]; exact az_fr.rf.up)).town
    obtain ⟨a4', a5', hT0', -⟩ := id hT'
    refine az_iload dX6_growOrder_6 ?_
    refine az_aload_n dX6_growOrder_8 ?_
    refine az_getf (v := .int (nI L.length)) dX6_growOrder_9 fl_X6_64 (by rw [he]; exact az_up_ne hS0) ?_
    refine az_icmp_geN (tgt := 96) dX6_growOrder_12 (fun c12 => ?_) (fun c12 => ?_)
    · refine az_aload_n dX6_growOrder_96 ?_
      refine az_getf (v := .ref (a + 5)) dX6_growOrder_97 fl_X6_25 (by rw [he]; exact az_up_ne hS0) ?_
      refine az_iconst (v := nI 0) dX6_growOrder_100 ?_
      refine az_aload_n dX6_growOrder_101 ?_
      refine az_iconst (v := nI 0) dX6_growOrder_102 ?_
      refine az_bipush (v := nI 6) dX6_growOrder_103 ?_
      refine az_copyi dX6_growOrder_105 al_X6_67 (a0 := a + 5) (a := o) (n0 := 6) (n1 := 6) (f := g) (g := f) (by rw [he]; exact az_up_eq) (by rw [he]; exact az_up_ne hSo) (az_ix_nI (j := 0) (by decide)) (az_ix_nI (j := 0) (by decide)) (az_ix_nI (j := 6) (by decide)) (by decide) (by decide) ?_
      obtain rfl : k9 = L.length := by omega
      rw [ln_ac_all] at hacc
      subst hacc
      refine az_iload dX6_growOrder_108 ?_
      exact az_iret dX6_growOrder_110 (by rw [he]; exact hQ g _ (fun j hj => by have h6 : j < 6 := Nat.lt_of_lt_of_le hj (nodup_lt 6 _ (dd_nodup _) (fun y hy => by rw [dd_mem] at hy; obtain ⟨x, -, hx⟩ := List.mem_flatMap.mp hy; exact fx_lt hw hx)); show (if 0 ≤ j ∧ j < 0 + 6 then g (0 + (j - 0)) else _) = _; rw [if_pos ⟨Nat.zero_le _, by omega⟩, show 0 + (j - 0) = j by omega]; exact hg j hj))
    · refine az_aload_n dX6_growOrder_15 ?_
      refine az_iload dX6_growOrder_16 ?_
      have hx6 := hL _ (getD_mem (show k9 < L.length by omega))
      refine az_ialdN (j := k9) dX6_growOrder_18 (by rw [he]; exact az_up_ne hSo) ?_
      rw [hf k9 (by omega)]
      refine az_istore (ls' := [(0, .ref a), (1, .ref o), (2, .int (nI tb)), (3, .int (nI fb)), (4, .int (nI acc.length)), (5, .int (nI k9)), (6, .int (nI (L.getD k9 0)))]) dX6_growOrder_19 ?_
      refine az_aload_n dX6_growOrder_21 ?_
      refine az_getf (v := .ref t) dX6_growOrder_22 fl_X6_40 (by rw [he]; exact az_up_ne hS0) ?_
      refine az_iload_n dX6_growOrder_25 ?_
      refine az_iload dX6_growOrder_26 ?_
      refine az_cV0 (st := []) dX6_growOrder_28 ml_X6_137 hT0' (s_sizeOf (d := d - 1) hT' h3 (lt := L.getD k9 0) hx6 ?_)
      refine az_istore (ls' := [(0, .ref a), (1, .ref o), (2, .int (nI tb)), (3, .int (nI fb)), (4, .int (nI acc.length)), (5, .int (nI k9)), (6, .int (nI (L.getD k9 0))), (7, .int (nI (ln_sz w (tb * 6 + L.getD k9 0))))]) dX6_growOrder_31 ?_
      refine az_iconst (v := nI 0) dX6_growOrder_33 ?_
      refine az_istore (ls' := [(0, .ref a), (1, .ref o), (2, .int (nI tb)), (3, .int (nI fb)), (4, .int (nI acc.length)), (5, .int (nI k9)), (6, .int (nI (L.getD k9 0))), (7, .int (nI (ln_sz w (tb * 6 + L.getD k9 0)))), (8, .int (nI 0))]) dX6_growOrder_34 ?_
      refine inner _ k9 0 acc g h' (by omega) ?_ rfl (Nat.zero_le _) hacc hg he
      intro acc g h' hacc hg he
      refine az_iincN (n := 1) (ls' := [(0, .ref a), (1, .ref o), (2, .int (nI tb)), (3, .int (nI fb)), (4, .int (nI acc.length)), (5, .int (nI (k9 + 1))), (6, .int (nI (L.getD k9 0))), (7, .int (nI (ln_sz w (tb * 6 + L.getD k9 0)))), (8, .int (nI (ln_sz w (tb * 6 + L.getD k9 0))))]) dX6_growOrder_90 ?_
      refine az_goto (tgt := 6) dX6_growOrder_93 ?_
      refine az_W.keep (ls' := [(0, .ref a), (1, .ref o), (2, .int (nI tb)), (3, .int (nI fb)), (4, .int (nI acc.length)), (5, .int (nI (k9 + 1)))]) [0, 1, 2, 3, 4, 5] rfl ?_
      exact ih _ (by omega) (k9 + 1) acc g h' rfl (by omega) hacc hg he
  refine az_M.of rfl (Nat.le_of_ble_eq_true rfl) ?_
  show az_W _ _ _ _ 0 [(0, .ref a), (1, .ref o), (2, .int (nI tb)), (3, .int (nI fb))] [] _ _
  refine az_iconst (v := nI 0) dX6_growOrder_0 ?_
  refine az_istore (ls' := [(0, .ref a), (1, .ref o), (2, .int (nI tb)), (3, .int (nI fb)), (4, .int (nI 0))]) dX6_growOrder_1 ?_
  refine az_iconst (v := nI 0) dX6_growOrder_3 ?_
  refine az_istore (ls' := [(0, .ref a), (1, .ref o), (2, .int (nI tb)), (3, .int (nI fb)), (4, .int (nI 0)), (5, .int (nI 0))]) dX6_growOrder_4 ?_
  exact outer _ 0 [] no _ rfl (Nat.zero_le _) rfl (fun j hj => absurd hj (by simp)) (az_up_same hS5).symm
