/-! The model: how long the street is -/
theorem take_sum {g : Nat → Nat} {l : List Nat} {i : Nat} (h : i < l.length) : ((l.take (i + 1)).map g).sum = ((l.take i).map g).sum + g (l.getD i 0) := by
  have e : l.take (i + 1) = l.take i ++ [l.getD i 0] := by
    rw [List.take_add_one, List.getElem?_eq_getElem h, List.getD_eq_getElem?_getD, List.getElem?_eq_getElem h]
    rfl
  rw [e, List.map_append, List.sum_append]
  simp
theorem sum_mem {g : Nat → Nat} {l : List Nat} {y : Nat} (h : y ∈ l) : g y ≤ (l.map g).sum := by
  induction l with
  | nil => cases h
  | cons a l ih =>
    rw [List.map_cons, List.sum_cons]
    rcases List.mem_cons.mp h with rfl | h
    · omega
    · have := ih h
      omega
theorem mc.sum {w : ln_W} {bs : List Nat} {g g9 : Nat → Nat} (H : mc w bs g g9) (hw : ln_ok w) (ht : ln_wl g (ln_str w bs) ≤ 9223372036854775807) : ((ln_word w).map g9).sum = ln_wl g (ln_str w bs) := by
  have e : ln_wl g (ln_str w bs) = ((ln_word w).map (fun y => ln_wT w bs g 0 y)).sum := by
    rw [ln_str, wl_run_flat]
    rfl
  rw [e] at ht ⊢
  congr 1
  apply List.map_congr_left
  intro y hy
  have h0 := H 0 y (Nat.zero_le _) (ln_word_lt hw hy)
  rw [Nat.mul_zero, Nat.zero_add] at h0
  rw [h0]
  have h1 : ln_wT w bs g 0 y ≤ ((ln_word w).map (fun y => ln_wT w bs g 0 y)).sum := sum_mem (g := fun y => ln_wT w bs g 0 y) hy
  omega
theorem mc.str {w : ln_W} {bs : List Nat} {g9 : Nat → Nat} (H : mc w bs (fun _ => 1) g9) (hw : ln_ok w) (hb : ln_by w bs) : ((ln_word w).map g9).sum = (ln_str w bs).length := by
  have := hb.2.2
  rw [H.sum hw (by rw [wl_len]; omega), wl_len]
theorem mc.cnt {w : ln_W} {bs : List Nat} {g9 : Nat → Nat} {c : Nat} (H : mc w bs (fun x => if x = c then 1 else 0) g9) (hw : ln_ok w) (hb : ln_by w bs) : ((ln_word w).map g9).sum = (ln_str w bs).count c := by
  have := hb.2.2
  have h2 : (ln_str w bs).count c ≤ (ln_str w bs).length := List.count_le_length
  rw [H.sum hw (by rw [wl_cnt]; omega), wl_cnt]
theorem wl_flat (w : ln_W) (tb : Nat) (l : List Nat) : ln_wl (fun x => ln_sz w (tb * 6 + x)) l = (l.flatMap (ln_sub w tb)).length := by
  induction l with
  | nil => rfl
  | cons x l ih =>
    rw [List.flatMap_cons, List.length_append, ln_sub_len, ← ih]
    simp [ln_wl]
set_option maxHeartbeats 4000000 in
set_option maxRecDepth 100000 in
theorem m_laysLong {d : Nat} {sc : Nat → Value} {A : Nat → Nat} {v : rd_V} {mo ni : Nat} {bs : List Nat} {hp : az_Hp} {Q : Option Value → az_Hp → Prop} {f0 : Nat → Int64} (hd : 2 ≤ d) (hw : ln_ok (rd_w v)) (hb : ln_by (rd_w v) bs) (h64 : hp.2 64 = some (mo_o sc)) (h65 : hp.2 65 = some (az_I 3318 (fun j => nI (A j)))) (hT : mT A v (mo, ni, bs)) (h70 : hp.2 70 = some (az_J 366 f0)) (hQ : ∀ g9 : Nat → Nat, mc (rd_w v) bs (fun _ => 1) g9 → Q none (az_up hp 70 (az_J 366 (fun j => lN (g9 j))))) : az_M mX12_laysLong d 0 0 [.ref 64] hp Q := by
  have h60 := hb.1
  have hA113 : A 113 = bs.length := hT.2.2.2.1
  obtain ⟨f9, rfl⟩ := lN_ex f0
  have init : ∀ (k : Nat) (x : Nat) (g9 : Nat → Nat) (h' : az_Hp), 6 - x = k → (x ≤ 6) → (∀ y, y < x → g9 (6 * bs.length + y) = 1) → (h' = az_up hp 70 (az_J 366 (fun j => lN (g9 j)))) → az_W mX12_laysLong d 0 0 2 [(0, .ref 64), (1, .int (nI x))] [] h' Q := by
    intro k
    induction k using Nat.strongRecOn with
    | _ k ih =>
    intro x g9 h' hk hx6 hF he
    have e64 : h'.2 64 = some (mo_o sc) := (by rw [he]; exact az_up_ne h64)
    have e65 : h'.2 65 = some (az_I 3318 (fun j => nI (A j))) := (by rw [he]; exact az_up_ne h65)
    have ea : h'.2 70 = some (az_J 366 (fun j => lN (g9 j))) := (by rw [he]; exact az_up_eq)
    refine az_iload_n dX12_laysLong_2 ?_
    refine az_bipush (v := nI 6) dX12_laysLong_3 ?_
    refine az_icmp_geN (tgt := 32) dX12_laysLong_5 (fun c5 => ?_) (fun c5 => ?_)
    · refine az_aload_n dX12_laysLong_32 ?_
      refine az_aload_n dX12_laysLong_33 ?_
      refine az_getf (v := .ref 70) dX12_laysLong_34 fl_X12_33 e64 ?_
      refine az_cV0 (st := []) dX12_laysLong_37 ml_X12_249 e64 (m_laysBack (d := d - 1) (v := v) (bs := bs) (g := fun _ => 1) (by omega) (Or.inl rfl) hw hb e64 e65 hT ea (fun y hy => hF y (by omega)) (fun _ _ => by decide) ?_)
      intro g2 hm
      rw [he, az_up_up]
      exact az_vret dX12_laysLong_40 (hQ g2 hm)
    · refine az_aload_n dX12_laysLong_8 ?_
      refine az_getf (v := .ref 70) dX12_laysLong_9 fl_X12_33 e64 ?_
      refine az_bipush (v := nI 6) dX12_laysLong_12 ?_
      refine az_aload_n dX12_laysLong_14 ?_
      refine az_getf (v := .ref 65) dX12_laysLong_15 fl_X12_13 e64 ?_
      refine az_bipush (v := nI 113) dX12_laysLong_18 ?_
      refine az_ialdN (j := 113) dX12_laysLong_20 e65 ?_
      rw [hA113]
      refine az_imulN dX12_laysLong_21 ?_
      refine az_iload_n dX12_laysLong_22 ?_
      refine az_iaddN dX12_laysLong_23 ?_
      refine az_lconst (v := lN 1) dX12_laysLong_24 ?_
      refine az_lastN (j := (6 * bs.length) + x) dX12_laysLong_25 ea ?_
      rw [az_s_lN]
      refine az_iincN (n := 1) (ls' := [(0, .ref 64), (1, .int (nI (x + 1)))]) dX12_laysLong_26 ?_
      refine az_goto (tgt := 2) dX12_laysLong_29 ?_
      exact ih _ (by omega) (x + 1) (az_s g9 (6 * bs.length + x) 1) _ rfl (by omega) (fun y hy => by by_cases e : y = x; rw [e, az_s_eq]; rw [az_s_ne (by omega)]; exact hF y (by omega)) (by rw [he, az_up_up])
  refine az_M.of rfl (Nat.le_of_ble_eq_true rfl) ?_
  show az_W _ _ _ _ 0 [(0, .ref 64)] [] _ _
  refine az_iconst (v := nI 0) dX12_laysLong_0 ?_
  refine az_istore_n (ls' := [(0, .ref 64), (1, .int (nI 0))]) dX12_laysLong_1 ?_
  exact init _ 0 f9 _ rfl (Nat.zero_le _) (fun y hy => absurd hy (by omega)) (az_up_same h70).symm
set_option maxHeartbeats 4000000 in
set_option maxRecDepth 100000 in
theorem m_laysOf {d : Nat} {sc : Nat → Value} {A : Nat → Nat} {v : rd_V} {mo ni : Nat} {bs : List Nat} {hp : az_Hp} {Q : Option Value → az_Hp → Prop} {c : Nat} {f0 : Nat → Int64} (hd : 2 ≤ d) (hw : ln_ok (rd_w v)) (hb : ln_by (rd_w v) bs) (hc : c < 6) (h64 : hp.2 64 = some (mo_o sc)) (h65 : hp.2 65 = some (az_I 3318 (fun j => nI (A j)))) (hT : mT A v (mo, ni, bs)) (h71 : hp.2 71 = some (az_J 366 f0)) (hQ : ∀ g9 : Nat → Nat, mc (rd_w v) bs (fun x => if x = c then 1 else 0) g9 → Q none (az_up hp 71 (az_J 366 (fun j => lN (g9 j))))) : az_M mX12_laysOf d 0 0 [.ref 64, .int (nI c)] hp Q := by
  have h60 := hb.1
  have hA113 : A 113 = bs.length := hT.2.2.2.1
  obtain ⟨f9, rfl⟩ := lN_ex f0
  have init : ∀ (k : Nat) (x : Nat) (g9 : Nat → Nat) (h' : az_Hp), 6 - x = k → (x ≤ 6) → (∀ y, y < x → g9 (6 * bs.length + y) = if y = c then 1 else 0) → (h' = az_up hp 71 (az_J 366 (fun j => lN (g9 j)))) → az_W mX12_laysOf d 0 0 2 [(0, .ref 64), (1, .int (nI c)), (2, .int (nI x))] [] h' Q := by
    intro k
    induction k using Nat.strongRecOn with
    | _ k ih =>
    intro x g9 h' hk hx6 hF he
    have e64 : h'.2 64 = some (mo_o sc) := (by rw [he]; exact az_up_ne h64)
    have e65 : h'.2 65 = some (az_I 3318 (fun j => nI (A j))) := (by rw [he]; exact az_up_ne h65)
    have ea : h'.2 71 = some (az_J 366 (fun j => lN (g9 j))) := (by rw [he]; exact az_up_eq)
    refine az_iload_n dX12_laysOf_2 ?_
    refine az_bipush (v := nI 6) dX12_laysOf_3 ?_
    refine az_icmp_geN (tgt := 41) dX12_laysOf_5 (fun c5 => ?_) (fun c5 => ?_)
    · refine az_aload_n dX12_laysOf_41 ?_
      refine az_aload_n dX12_laysOf_42 ?_
      refine az_getf (v := .ref 71) dX12_laysOf_43 fl_X12_37 e64 ?_
      refine az_cV0 (st := []) dX12_laysOf_46 ml_X12_249 e64 (m_laysBack (d := d - 1) (v := v) (bs := bs) (g := fun x => if x = c then 1 else 0) (by omega) (Or.inr rfl) hw hb e64 e65 hT ea (fun y hy => hF y (by omega)) (fun x _ => by show (if x = c then 1 else 0) ≤ 9223372036854775807; split <;> decide) ?_)
      intro g2 hm
      rw [he, az_up_up]
      exact az_vret dX12_laysOf_49 (hQ g2 hm)
    · refine az_aload_n dX12_laysOf_8 ?_
      refine az_getf (v := .ref 71) dX12_laysOf_9 fl_X12_37 e64 ?_
      refine az_bipush (v := nI 6) dX12_laysOf_12 ?_
      refine az_aload_n dX12_laysOf_14 ?_
      refine az_getf (v := .ref 65) dX12_laysOf_15 fl_X12_13 e64 ?_
      refine az_bipush (v := nI 113) dX12_laysOf_18 ?_
      refine az_ialdN (j := 113) dX12_laysOf_20 e65 ?_
      rw [hA113]
      refine az_imulN dX12_laysOf_21 ?_
      refine az_iload_n dX12_laysOf_22 ?_
      refine az_iaddN dX12_laysOf_23 ?_
      refine az_iload_n dX12_laysOf_24 ?_
      refine az_iload_n dX12_laysOf_25 ?_
      refine az_icmp_neN (tgt := 33) dX12_laysOf_26 (fun c26 => ?_) (fun c26 => ?_)
      · refine az_lconst (v := lN 0) dX12_laysOf_33 ?_
        refine az_lastN (j := (6 * bs.length) + x) dX12_laysOf_34 ea ?_
        rw [az_s_lN]
        refine az_iincN (n := 1) (ls' := [(0, .ref 64), (1, .int (nI c)), (2, .int (nI (x + 1)))]) dX12_laysOf_35 ?_
        refine az_goto (tgt := 2) dX12_laysOf_38 ?_
        first | exact ih _ (by omega) (x + 1) (az_s g9 (6 * bs.length + x) 1) _ rfl (by omega) (fun y hy => by by_cases e : y = x; rw [e, az_s_eq, if_pos (by omega)]; rw [az_s_ne (by omega)]; exact hF y (by omega)) (by rw [he, az_up_up]) | exact ih _ (by omega) (x + 1) (az_s g9 (6 * bs.length + x) 0) _ rfl (by omega) (fun y hy => by by_cases e : y = x; rw [e, az_s_eq, if_neg (by omega)]; rw [az_s_ne (by omega)]; exact hF y (by omega)) (by rw [he, az_up_up])
      · refine az_lconst (v := lN 1) dX12_laysOf_29 ?_
        refine az_goto (tgt := 34) dX12_laysOf_30 ?_
        refine az_lastN (j := (6 * bs.length) + x) dX12_laysOf_34 ea ?_
        rw [az_s_lN]
        refine az_iincN (n := 1) (ls' := [(0, .ref 64), (1, .int (nI c)), (2, .int (nI (x + 1)))]) dX12_laysOf_35 ?_
        refine az_goto (tgt := 2) dX12_laysOf_38 ?_
        first | exact ih _ (by omega) (x + 1) (az_s g9 (6 * bs.length + x) 1) _ rfl (by omega) (fun y hy => by by_cases e : y = x; rw [e, az_s_eq, if_pos (by omega)]; rw [az_s_ne (by omega)]; exact hF y (by omega)) (by rw [he, az_up_up]) | exact ih _ (by omega) (x + 1) (az_s g9 (6 * bs.length + x) 0) _ rfl (by omega) (fun y hy => by by_cases e : y = x; rw [e, az_s_eq, if_neg (by omega)]; rw [az_s_ne (by omega)]; exact hF y (by omega)) (by rw [he, az_up_up])
  refine az_M.of rfl (Nat.le_of_ble_eq_true rfl) ?_
  show az_W _ _ _ _ 0 [(0, .ref 64), (1, .int (nI c))] [] _ _
  refine az_iconst (v := nI 0) dX12_laysOf_0 ?_
  refine az_istore_n (ls' := [(0, .ref 64), (1, .int (nI c)), (2, .int (nI 0))]) dX12_laysOf_1 ?_
  exact init _ 0 f9 _ rfl (Nat.zero_le _) (fun y hy => absurd hy (by omega)) (az_up_same h71).symm
set_option maxHeartbeats 4000000 in
set_option maxRecDepth 100000 in
theorem m_sumOf {d : Nat} {sc : Nat → Value} {A : Nat → Nat} {v : rd_V} {hp : az_Hp} {Q : Option Value → az_Hp → Prop} {a : Nat} {g9 : Nat → Nat} (hw : ln_ok (rd_w v)) (h64 : hp.2 64 = some (mo_o sc)) (h65 : hp.2 65 = some (az_I 3318 (fun j => nI (A j)))) (hV : mV A v) (ha : hp.2 a = some (az_J 366 (fun j => lN (g9 j)))) (hQ : Q (some (.long (lN (((ln_word (rd_w v)).map g9).sum)))) hp) : az_M mX12_sumOf d 0 0 [.ref 64, .ref a] hp Q := by
  have hA2 : A 2 = ln_sd (rd_w v) := hV.2.2.1
  have hAw : ∀ k, k < ln_sd (rd_w v) → A (3 + k) = ln_st (rd_w v) k := hV.2.2.2.1
  have h12 := hw.2.2.2.2.1
  have hwl := word_len (rd_w v)
  have loop : ∀ (k : Nat) (i : Nat), ln_sd (rd_w v) - i = k → (i ≤ ln_sd (rd_w v)) → az_W mX12_sumOf d 0 0 5 [(0, .ref 64), (1, .ref a), (2, .long (lN ((((ln_word (rd_w v)).take i).map g9).sum))), (4, .int (nI i))] [] hp Q := by
    intro k
    induction k using Nat.strongRecOn with
    | _ k ih =>
    intro i hk hi
    refine az_iload dX12_sumOf_5 ?_
    refine az_aload_n dX12_sumOf_7 ?_
    refine az_getf (v := .ref 65) dX12_sumOf_8 fl_X12_13 h64 ?_
    refine az_iconst (v := nI 2) dX12_sumOf_11 ?_
    refine az_ialdN (j := 2) dX12_sumOf_12 h65 ?_
    rw [hA2]
    refine az_icmp_geN (tgt := 36) dX12_sumOf_13 (fun c13 => ?_) (fun c13 => ?_)
    · refine az_lload_n dX12_sumOf_36 ?_
      exact az_lret dX12_sumOf_37 (by obtain rfl : i = ln_sd (rd_w v) := (by omega); rw [← hwl, List.take_length]; exact hQ)
    · refine az_lload_n dX12_sumOf_16 ?_
      refine az_aload_n dX12_sumOf_17 ?_
      refine az_aload_n dX12_sumOf_18 ?_
      refine az_getf (v := .ref 65) dX12_sumOf_19 fl_X12_13 h64 ?_
      refine az_iconst (v := nI 3) dX12_sumOf_22 ?_
      refine az_iload dX12_sumOf_23 ?_
      refine az_iaddN dX12_sumOf_25 ?_
      refine az_ialdN (j := 3 + i) dX12_sumOf_26 h65 ?_
      rw [hAw i (by omega)]
      have h6 := hw.2.2.2.2.2.1 i
      refine az_laldN (j := ln_st (rd_w v) i) dX12_sumOf_27 ha ?_
      refine az_laddN dX12_sumOf_28 ?_
      rw [show (((ln_word (rd_w v)).take i).map g9).sum + g9 (ln_st (rd_w v) i) = (((ln_word (rd_w v)).take (i + 1)).map g9).sum from (by rw [take_sum (by omega), word_getD (by omega)])]
      refine az_lstore_n (ls' := [(0, .ref 64), (1, .ref a), (2, .long (lN ((((ln_word (rd_w v)).take (i + 1)).map g9).sum))), (4, .int (nI i))]) dX12_sumOf_29 ?_
      refine az_iincN (n := 1) (ls' := [(0, .ref 64), (1, .ref a), (2, .long (lN ((((ln_word (rd_w v)).take (i + 1)).map g9).sum))), (4, .int (nI (i + 1)))]) dX12_sumOf_30 ?_
      refine az_goto (tgt := 5) dX12_sumOf_33 ?_
      exact ih _ (by omega) (i + 1) rfl (by omega)
  refine az_M.of rfl (Nat.le_of_ble_eq_true rfl) ?_
  show az_W _ _ _ _ 0 [(0, .ref 64), (1, .ref a)] [] _ _
  refine az_lconst (v := lN 0) dX12_sumOf_0 ?_
  refine az_lstore_n (ls' := [(0, .ref 64), (1, .ref a), (2, .long (lN 0))]) dX12_sumOf_1 ?_
  refine az_iconst (v := nI 0) dX12_sumOf_2 ?_
  refine az_istore (ls' := [(0, .ref 64), (1, .ref a), (2, .long (lN 0)), (4, .int (nI 0))]) dX12_sumOf_3 ?_
  exact loop _ 0 rfl (Nat.zero_le _)
set_option maxHeartbeats 4000000 in
set_option maxRecDepth 100000 in
theorem m_lengthNow {d : Nat} {sc : Nat → Value} {A : Nat → Nat} {v : rd_V} {mo ni : Nat} {bs : List Nat} {hp : az_Hp} {Q : Option Value → az_Hp → Prop} {f0 : Nat → Int64} (hd : 3 ≤ d) (hw : ln_ok (rd_w v)) (hb : ln_by (rd_w v) bs) (h64 : hp.2 64 = some (mo_o sc)) (h65 : hp.2 65 = some (az_I 3318 (fun j => nI (A j)))) (hT : mT A v (mo, ni, bs)) (h70 : hp.2 70 = some (az_J 366 f0)) (hQ : ∀ g9 : Nat → Nat, mc (rd_w v) bs (fun _ => 1) g9 → Q (some (.long (lN (ln_str (rd_w v) bs).length))) (az_up hp 70 (az_J 366 (fun j => lN (g9 j))))) : az_M mX12_lengthNow d 0 0 [.ref 64] hp Q := by
  refine az_M.of rfl (Nat.le_of_ble_eq_true rfl) ?_
  show az_W _ _ _ _ 0 [(0, .ref 64)] [] _ _
  refine az_aload_n dX12_lengthNow_0 ?_
  refine az_cV0 (st := []) dX12_lengthNow_1 ml_X12_253 h64 (m_laysLong (d := d - 1) (by omega) hw hb h64 h65 hT h70 ?_)
  intro g9 hm
  refine az_aload_n dX12_lengthNow_4 ?_
  refine az_aload_n dX12_lengthNow_5 ?_
  refine az_getf (v := .ref 70) dX12_lengthNow_6 fl_X12_33 (az_up_ne h64) ?_
  refine az_cV0 (st := []) dX12_lengthNow_9 ml_X12_256 (az_up_ne h64) (m_sumOf (d := d - 1) (v := v) (g9 := g9) hw (az_up_ne h64) (az_up_ne h65) hT.1 az_up_eq ?_)
  rw [hm.str hw hb]
  exact az_lret dX12_lengthNow_12 (hQ g9 hm)
set_option maxHeartbeats 4000000 in
set_option maxRecDepth 100000 in
theorem m_longBehind {d : Nat} {sc : Nat → Value} {A : Nat → Nat} {v : rd_V} {mo ni : Nat} {bs : List Nat} {hp : az_Hp} {Q : Option Value → az_Hp → Prop} {tb : Nat} {f0 : Nat → Int64} (hd : 2 ≤ d) (hw : ln_ok (rd_w v)) (hb : ln_by (rd_w v) bs) (htb : tb < 3) (h64 : hp.2 64 = some (mo_o sc)) (h65 : hp.2 65 = some (az_I 3318 (fun j => nI (A j)))) (hT : mT A v (mo, ni, bs)) (h70 : hp.2 70 = some (az_J 366 f0)) (hQ : ∀ g9 : Nat → Nat, Q (some (.long (lN (ln_str (rd_w v) (bs ++ [tb])).length))) (az_up hp 70 (az_J 366 (fun j => lN (g9 j))))) : az_M mX12_longBehind d 0 0 [.ref 64, .int (nI tb)] hp Q := by
  have h60 := hb.1
  have hlen := hb.2.2
  have hA113 : A 113 = bs.length := hT.2.2.2.1
  have hfl := flat_le hw tb (ln_str (rd_w v) bs)
  obtain ⟨f9, rfl⟩ := lN_ex f0
  have init : ∀ (k : Nat) (x : Nat) (g9 : Nat → Nat) (h' : az_Hp), 6 - x = k → (x ≤ 6) → (∀ y, y < x → g9 (6 * bs.length + y) = ln_sz (rd_w v) (tb * 6 + y)) → (h' = az_up hp 70 (az_J 366 (fun j => lN (g9 j)))) → az_W mX12_longBehind d 0 0 2 [(0, .ref 64), (1, .int (nI tb)), (2, .int (nI x))] [] h' Q := by
    intro k
    induction k using Nat.strongRecOn with
    | _ k ih =>
    intro x g9 h' hk hx6 hF he
    have e64 : h'.2 64 = some (mo_o sc) := (by rw [he]; exact az_up_ne h64)
    have e65 : h'.2 65 = some (az_I 3318 (fun j => nI (A j))) := (by rw [he]; exact az_up_ne h65)
    have ea : h'.2 70 = some (az_J 366 (fun j => lN (g9 j))) := (by rw [he]; exact az_up_eq)
    refine az_iload_n dX12_longBehind_2 ?_
    refine az_bipush (v := nI 6) dX12_longBehind_3 ?_
    refine az_icmp_geN (tgt := 38) dX12_longBehind_5 (fun c5 => ?_) (fun c5 => ?_)
    · refine az_aload_n dX12_longBehind_38 ?_
      refine az_aload_n dX12_longBehind_39 ?_
      refine az_getf (v := .ref 70) dX12_longBehind_40 fl_X12_33 e64 ?_
      refine az_cV0 (st := []) dX12_longBehind_43 ml_X12_249 e64 (m_laysBack (d := d - 1) (v := v) (bs := bs) (g := fun x => ln_sz (rd_w v) (tb * 6 + x)) (by omega) (Or.inl rfl) hw hb e64 e65 hT ea (fun y hy => hF y (by omega)) (fun x _ => Nat.le_trans (hw.2.2.2.2.2.2.1 (tb * 6 + x)) (by decide)) ?_)
      intro g2 hm
      rw [he, az_up_up]
      refine az_aload_n dX12_longBehind_46 ?_
      refine az_aload_n dX12_longBehind_47 ?_
      refine az_getf (v := .ref 70) dX12_longBehind_48 fl_X12_33 (az_up_ne h64) ?_
      refine az_cV0 (st := []) dX12_longBehind_51 ml_X12_256 (az_up_ne h64) (m_sumOf (d := d - 1) (v := v) (g9 := g2) hw (az_up_ne h64) (az_up_ne h65) hT.1 az_up_eq ?_)
      rw [hm.sum hw (by rw [wl_flat]; omega), wl_flat, ← ln_str_snoc]
      exact az_lret dX12_longBehind_54 (hQ g2)
    · refine az_aload_n dX12_longBehind_8 ?_
      refine az_getf (v := .ref 70) dX12_longBehind_9 fl_X12_33 e64 ?_
      refine az_bipush (v := nI 6) dX12_longBehind_12 ?_
      refine az_aload_n dX12_longBehind_14 ?_
      refine az_getf (v := .ref 65) dX12_longBehind_15 fl_X12_13 e64 ?_
      refine az_bipush (v := nI 113) dX12_longBehind_18 ?_
      refine az_ialdN (j := 113) dX12_longBehind_20 e65 ?_
      rw [hA113]
      refine az_imulN dX12_longBehind_21 ?_
      refine az_iload_n dX12_longBehind_22 ?_
      refine az_iaddN dX12_longBehind_23 ?_
      refine az_aload_n dX12_longBehind_24 ?_
      refine az_iload_n dX12_longBehind_25 ?_
      refine az_iload_n dX12_longBehind_26 ?_
      refine az_cV0 (st := [.int (nI ((6 * bs.length) + x)), .ref 70]) dX12_longBehind_27 ml_X12_239 e64 (m_becomeMany (d := d - 1) (v := v) (tb := tb) (x := x) e64 e65 hT.1 htb (by omega) ?_)
      have hz4 := hw.2.2.2.2.2.2.1 (tb * 6 + x)
      refine az_i2lN dX12_longBehind_30 ?_
      refine az_lastN (j := (6 * bs.length) + x) dX12_longBehind_31 ea ?_
      rw [az_s_lN]
      refine az_iincN (n := 1) (ls' := [(0, .ref 64), (1, .int (nI tb)), (2, .int (nI (x + 1)))]) dX12_longBehind_32 ?_
      refine az_goto (tgt := 2) dX12_longBehind_35 ?_
      exact ih _ (by omega) (x + 1) (az_s g9 (6 * bs.length + x) (ln_sz (rd_w v) (tb * 6 + x))) _ rfl (by omega) (fun y hy => by by_cases e : y = x; rw [e, az_s_eq]; rw [az_s_ne (by omega)]; exact hF y (by omega)) (by rw [he, az_up_up])
  refine az_M.of rfl (Nat.le_of_ble_eq_true rfl) ?_
  show az_W _ _ _ _ 0 [(0, .ref 64), (1, .int (nI tb))] [] _ _
  refine az_iconst (v := nI 0) dX12_longBehind_0 ?_
  refine az_istore_n (ls' := [(0, .ref 64), (1, .int (nI tb)), (2, .int (nI 0))]) dX12_longBehind_1 ?_
  exact init _ 0 f9 _ rfl (Nat.zero_le _) (fun y hy => absurd hy (by omega)) (az_up_same h70).symm

