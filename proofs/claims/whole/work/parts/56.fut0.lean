/-! Futures: counts of nights ahead -/
set_option maxRecDepth 100000 in
theorem s_rangeCheck {d n lo hi : Nat} {hp : az_Hp} {Q : Option Value → az_Hp → Prop} (h1 : lo ≤ hi) (h2 : hi ≤ n) (h3 : n < 2 ^ 31) (hQ : Q none hp) : az_M mJ7_rangeCheck_23922 d 0 0 [.int (nI n), .int (nI lo), .int (nI hi)] hp Q := by
  refine az_M.of rfl (Nat.le_of_ble_eq_true rfl) ?_
  show az_W _ _ _ _ 0 [(0, .int (nI n)), (1, .int (nI lo)), (2, .int (nI hi))] [] _ _
  refine az_iload_n dJ7_rangeCheck_23922_0 ?_
  refine az_iload_n dJ7_rangeCheck_23922_1 ?_
  refine az_icmp_leN (tgt := 46) dJ7_rangeCheck_23922_2 (fun c2 => ?_) (fun c2 => ?_)
  · refine az_iload_n dJ7_rangeCheck_23922_46 ?_
    refine az_if_geN (tgt := 59) dJ7_rangeCheck_23922_47 (fun c47 => ?_) (fun c47 => ?_)
    · refine az_iload_n dJ7_rangeCheck_23922_59 ?_
      refine az_iload_n dJ7_rangeCheck_23922_60 ?_
      refine az_icmp_leN (tgt := 73) dJ7_rangeCheck_23922_61 (fun c61 => ?_) (fun c61 => ?_)
      · exact az_vret dJ7_rangeCheck_23922_73 (hQ)
      · exact absurd h2 (by omega)
    · exact absurd c47 (by omega)
  · exact absurd h1 (by omega)
set_option maxRecDepth 100000 in
theorem s_fillJR {d a n lo hi : Nat} {f : Nat → Int64} {v : Int64} {hp : az_Hp} {Q : Option Value → az_Hp → Prop} (hd : 1 ≤ d) (hl : lo ≤ hi) (hh : hi ≤ n) (hn : n < 2 ^ 31) (ha : hp.2 a = some (az_J n f)) (hQ : ∀ g, (∀ j, (j < lo ∨ hi ≤ j) → g j = f j) → (∀ j, lo ≤ j → j < hi → g j = v) → Q none (az_up hp a (az_J n g))) : az_M mJ7_fill_bad5a d 0 0 [.ref a, .int (nI lo), .int (nI hi), .long v] hp Q := by
  have loop : ∀ (k : Nat) (i : Nat) (g : Nat → Int64) (h' : az_Hp), hi - i = k → (lo ≤ i) → (i ≤ hi) → (∀ j, (j < lo ∨ hi ≤ j) → g j = f j) → (∀ j, lo ≤ j → j < i → g j = v) → (h' = az_up hp a (az_J n g)) → az_W mJ7_fill_bad5a d 0 0 10 [(0, .ref a), (1, .int (nI lo)), (2, .int (nI hi)), (3, .long v), (5, .int (nI i))] [] h' Q := by
    intro k
    induction k using Nat.strongRecOn with
    | _ k ih =>
    intro i g h' hk hi1 hi2 ho hg he
    refine az_iload dJ7_fill_bad5a_10 ?_
    refine az_iload_n dJ7_fill_bad5a_12 ?_
    refine az_icmp_geN (tgt := 27) dJ7_fill_bad5a_13 (fun c13 => ?_) (fun c13 => ?_)
    · exact az_vret dJ7_fill_bad5a_27 (by rw [he]; exact hQ g ho (fun j q1 q2 => hg j q1 (by omega)))
    · refine az_aload_n dJ7_fill_bad5a_16 ?_
      refine az_iload dJ7_fill_bad5a_17 ?_
      refine az_lload_n dJ7_fill_bad5a_19 ?_
      refine az_lastN (j := i) dJ7_fill_bad5a_20 (by rw [he]; exact az_up_eq) ?_
      refine az_iincN (n := 1) (ls' := [(0, .ref a), (1, .int (nI lo)), (2, .int (nI hi)), (3, .long v), (5, .int (nI (i + 1)))]) dJ7_fill_bad5a_21 ?_
      refine az_goto (tgt := 10) dJ7_fill_bad5a_24 ?_
      exact ih _ (by omega) (i + 1) (az_s g i v) _ rfl (by omega) (by omega) (fun j q => (by rw [az_s_ne (by omega)]; exact ho j q)) (fun j q1 q2 => if e : j = i then (by rw [e]; exact az_s_eq) else (by rw [az_s_ne e]; exact hg j q1 (by omega))) (by rw [he, az_up_up])
  refine az_M.of rfl (Nat.le_of_ble_eq_true rfl) ?_
  show az_W _ _ _ _ 0 [(0, .ref a), (1, .int (nI lo)), (2, .int (nI hi)), (3, .long v)] [] _ _
  refine az_aload_n dJ7_fill_bad5a_0 ?_
  refine az_alen dJ7_fill_bad5a_1 ha ?_
  refine az_iload_n dJ7_fill_bad5a_2 ?_
  refine az_iload_n dJ7_fill_bad5a_3 ?_
  refine az_cS0 (st := []) dJ7_fill_bad5a_4 ml_J7_13 (s_rangeCheck (d := d - 1) hl hh hn ?_)
  refine az_iload_n dJ7_fill_bad5a_7 ?_
  refine az_istore (ls' := [(0, .ref a), (1, .int (nI lo)), (2, .int (nI hi)), (3, .long v), (5, .int (nI lo))]) dJ7_fill_bad5a_8 ?_
  exact loop _ lo f _ rfl (Nat.le_refl _) hl (fun j _ => rfl) (fun j q1 q2 => absurd q1 (by omega)) (az_up_same ha).symm
set_option maxRecDepth 100000 in
theorem s_fillIR {d a n lo hi : Nat} {f : Nat → Int32} {v : Int32} {hp : az_Hp} {Q : Option Value → az_Hp → Prop} (hd : 1 ≤ d) (hl : lo ≤ hi) (hh : hi ≤ n) (hn : n < 2 ^ 31) (ha : hp.2 a = some (az_I n f)) (hQ : ∀ g, (∀ j, (j < lo ∨ hi ≤ j) → g j = f j) → (∀ j, lo ≤ j → j < hi → g j = v) → Q none (az_up hp a (az_I n g))) : az_M mJ7_fill_fda19 d 0 0 [.ref a, .int (nI lo), .int (nI hi), .int v] hp Q := by
  have loop : ∀ (k : Nat) (i : Nat) (g : Nat → Int32) (h' : az_Hp), hi - i = k → (lo ≤ i) → (i ≤ hi) → (∀ j, (j < lo ∨ hi ≤ j) → g j = f j) → (∀ j, lo ≤ j → j < i → g j = v) → (h' = az_up hp a (az_I n g)) → az_W mJ7_fill_fda19 d 0 0 10 [(0, .ref a), (1, .int (nI lo)), (2, .int (nI hi)), (3, .int v), (4, .int (nI i))] [] h' Q := by
    intro k
    induction k using Nat.strongRecOn with
    | _ k ih =>
    intro i g h' hk hi1 hi2 ho hg he
    refine az_iload dJ7_fill_fda19_10 ?_
    refine az_iload_n dJ7_fill_fda19_12 ?_
    refine az_icmp_geN (tgt := 27) dJ7_fill_fda19_13 (fun c13 => ?_) (fun c13 => ?_)
    · exact az_vret dJ7_fill_fda19_27 (by rw [he]; exact hQ g ho (fun j q1 q2 => hg j q1 (by omega)))
    · refine az_aload_n dJ7_fill_fda19_16 ?_
      refine az_iload dJ7_fill_fda19_17 ?_
      refine az_iload_n dJ7_fill_fda19_19 ?_
      refine az_iastN (j := i) dJ7_fill_fda19_20 (by rw [he]; exact az_up_eq) ?_
      refine az_iincN (n := 1) (ls' := [(0, .ref a), (1, .int (nI lo)), (2, .int (nI hi)), (3, .int v), (4, .int (nI (i + 1)))]) dJ7_fill_fda19_21 ?_
      refine az_goto (tgt := 10) dJ7_fill_fda19_24 ?_
      exact ih _ (by omega) (i + 1) (az_s g i v) _ rfl (by omega) (by omega) (fun j q => (by rw [az_s_ne (by omega)]; exact ho j q)) (fun j q1 q2 => if e : j = i then (by rw [e]; exact az_s_eq) else (by rw [az_s_ne e]; exact hg j q1 (by omega))) (by rw [he, az_up_up])
  refine az_M.of rfl (Nat.le_of_ble_eq_true rfl) ?_
  show az_W _ _ _ _ 0 [(0, .ref a), (1, .int (nI lo)), (2, .int (nI hi)), (3, .int v)] [] _ _
  refine az_aload_n dJ7_fill_fda19_0 ?_
  refine az_alen dJ7_fill_fda19_1 ha ?_
  refine az_iload_n dJ7_fill_fda19_2 ?_
  refine az_iload_n dJ7_fill_fda19_3 ?_
  refine az_cS0 (st := []) dJ7_fill_fda19_4 ml_J7_13 (s_rangeCheck (d := d - 1) hl hh hn ?_)
  refine az_iload_n dJ7_fill_fda19_7 ?_
  refine az_istore (ls' := [(0, .ref a), (1, .int (nI lo)), (2, .int (nI hi)), (3, .int v), (4, .int (nI lo))]) dJ7_fill_fda19_8 ?_
  exact loop _ lo f _ rfl (Nat.le_refl _) hl (fun j _ => rfl) (fun j q1 q2 => absurd q1 (by omega)) (az_up_same ha).symm
/-- how long it is; how many stand behind a night by a table; how long that is -/
def fu_l (c : Nat → Nat) : Nat := sm c 6
def fu_n (w : ln_W) (tb : Nat) (c : Nat → Nat) (y : Nat) : Nat := sm (fun z => c z * (ln_sub w tb z).count y) 6
def fu_b (w : ln_W) (tb : Nat) (c : Nat → Nat) : Nat := sm (fun x => c x * ln_sz w (tb * 6 + x)) 6
def fu_p (w : ln_W) (tb : Nat) (c : Nat → Nat) (x i y : Nat) : Nat := sm (fun z => c z * (ln_sub w tb z).count y) x + c x * ((ln_sub w tb x).take i).count y
theorem fu_p_0 (w : ln_W) (tb : Nat) (c : Nat → Nat) (x y : Nat) : fu_p w tb c x 0 y = sm (fun z => c z * (ln_sub w tb z).count y) x := by simp [fu_p]
theorem fu_p_full (w : ln_W) (tb : Nat) (c : Nat → Nat) (x y : Nat) : fu_p w tb c x (ln_sz w (tb * 6 + x)) y = sm (fun z => c z * (ln_sub w tb z).count y) (x + 1) := by
  rw [fu_p, ← ln_sub_len, List.take_length, sm]
theorem fu_p_none {w : ln_W} {tb : Nat} {c : Nat → Nat} {x : Nat} (h : c x = 0) (y : Nat) : fu_p w tb c x 0 y = sm (fun z => c z * (ln_sub w tb z).count y) (x + 1) := by
  rw [fu_p_0, sm, h]; simp
theorem fu_p_step {w : ln_W} {tb : Nat} {c : Nat → Nat} {x i : Nat} (h : i < ln_sz w (tb * 6 + x)) (y : Nat) : fu_p w tb c x (i + 1) y = fu_p w tb c x i y + (if y = ln_ch w ((tb * 6 + x) * 4 + i) then c x else 0) := by
  rw [fu_p, fu_p, tk_count (by rw [ln_sub_len]; exact h), sub_getD h, Nat.mul_add]
  split <;> omega
theorem sm_mul (a : Nat) (g : Nat → Nat) (k : Nat) : sm (fun j => a * g j) k = a * sm g k := by
  induction k with
  | zero => rfl
  | succ k ih => rw [sm, sm, ih, Nat.mul_add]
theorem sm_swap (F : Nat → Nat → Nat) (m k : Nat) : sm (fun y => sm (fun z => F z y) m) k = sm (fun z => sm (fun y => F z y) k) m := by
  induction m with
  | zero => exact sm_zero k
  | succ m ih =>
    rw [sm, ← ih, ← sm_add]
    rfl
theorem cnt_len {l : List Nat} (hl : ∀ x ∈ l, x < 6) : sm (fun y => l.count y) 6 = l.length := by
  have := len_flat (fun _ => [0]) l hl
  rw [show (fun z => l.count z * [0].length) = fun y => l.count y by funext z; simp] at this
  rw [← this]
  simp [List.length_flatMap]
  exact (wl_len l).symm ▸ rfl
theorem fu_b_is {w : ln_W} (hw : ln_ok w) (tb : Nat) (c : Nat → Nat) : fu_l (fu_n w tb c) = fu_b w tb c := by
  unfold fu_l fu_n fu_b
  rw [show (fun y => sm (fun z => c z * (ln_sub w tb z).count y) 6) = (fun y => sm (fun z => (fun z y => c z * (ln_sub w tb z).count y) z y) 6) from rfl, sm_swap]
  refine sm_congr (fun z hz => ?_)
  show sm (fun y => c z * (ln_sub w tb z).count y) 6 = _
  rw [sm_mul, cnt_len (fun x hx => ln_sub_lt hw hx), ln_sub_len]
theorem fu_b_le {w : ln_W} (hw : ln_ok w) (tb : Nat) (c : Nat → Nat) : fu_b w tb c ≤ 4 * fu_l c := by
  unfold fu_b fu_l
  have : ∀ k, sm (fun x => c x * ln_sz w (tb * 6 + x)) k ≤ 4 * sm c k := by
    intro k
    induction k with
    | zero => exact Nat.le_refl _
    | succ k ih =>
      rw [sm, sm]
      have := Nat.mul_le_mul_left (c k) (hw.2.2.2.2.2.2.1 (tb * 6 + k))
      omega
  exact this 6
theorem sm_ge {c : Nat → Nat} {x k : Nat} (h : x < k) : c x ≤ sm c k := by
  induction k with
  | zero => omega
  | succ k ih =>
    rw [sm]
    by_cases e : x = k
    · rw [e]; omega
    · have := ih (by omega); omega
theorem fu_str {w : ln_W} (hw : ln_ok w) (bs : List Nat) : fu_l (fun x => (ln_str w bs).count x) = (ln_str w bs).length := cnt_len (ln_str_lt hw bs)
theorem fu_flat {w : ln_W} {tb : Nat} {l : List Nat} (hl : ∀ x ∈ l, x < 6) : fu_n w tb (fun x => l.count x) = fun y => (l.flatMap (ln_sub w tb)).count y := by
  funext y
  rw [cnt_flat _ _ _ hl]
  rfl
set_option maxRecDepth 100000 in
theorem s_spanAt {d u t wn wx dp : Nat} {tl : Value} {c : Nat → Nat} {f : Nat → Int64} {hp : az_Hp} {Q : Option Value → az_Hp → Prop} (h0 : hp.2 u = some (az_O 1 [.ref t, .ref (u + 1), .ref (u + 2), .ref (u + 3), .ref (u + 4), tl, .ref wn, .ref wx])) (h1 : hp.2 (u + 1) = some (az_J 54 f)) (hdp : dp ≤ 8) (hc : ∀ x, x < 6 → f (dp * 6 + x) = lN (c x)) (hQ : Q (some (.long (lN (fu_l c)))) hp) : az_M mX1_spanAt d 0 0 [.ref u, .int (nI dp)] hp Q := by
  have loop : ∀ (k : Nat) (x : Nat), 6 - x = k → (x ≤ 6) → az_W mX1_spanAt d 0 0 5 [(0, .ref u), (1, .int (nI dp)), (2, .long (lN (sm c x))), (4, .int (nI x))] [] hp Q := by
    intro k
    induction k using Nat.strongRecOn with
    | _ k ih =>
    intro x hk hx6
    refine az_iload dX1_spanAt_5 ?_
    refine az_bipush (v := nI 6) dX1_spanAt_7 ?_
    refine az_icmp_geN (tgt := 33) dX1_spanAt_9 (fun c9 => ?_) (fun c9 => ?_)
    · refine az_lload_n dX1_spanAt_33 ?_
      exact az_lret dX1_spanAt_34 (by rw [show x = 6 by omega]; exact hQ)
    · refine az_lload_n dX1_spanAt_12 ?_
      refine az_aload_n dX1_spanAt_13 ?_
      refine az_getf (v := .ref (u + 1)) dX1_spanAt_14 fl_X1_11 h0 ?_
      refine az_iload_n dX1_spanAt_17 ?_
      refine az_bipush (v := nI 6) dX1_spanAt_18 ?_
      refine az_imulN dX1_spanAt_20 ?_
      refine az_iload dX1_spanAt_21 ?_
      refine az_iaddN dX1_spanAt_23 ?_
      refine az_laldN (j := (dp * 6) + x) dX1_spanAt_24 h1 ?_
      rw [hc x (by omega)]
      refine az_laddN dX1_spanAt_25 ?_
      refine az_lstore_n (ls' := [(0, .ref u), (1, .int (nI dp)), (2, .long (lN ((sm c x) + (c x)))), (4, .int (nI x))]) dX1_spanAt_26 ?_
      refine az_iincN (n := 1) (ls' := [(0, .ref u), (1, .int (nI dp)), (2, .long (lN ((sm c x) + (c x)))), (4, .int (nI (x + 1)))]) dX1_spanAt_27 ?_
      refine az_goto (tgt := 5) dX1_spanAt_30 ?_
      exact ih _ (by omega) (x + 1) rfl (by omega)
  refine az_M.of rfl (Nat.le_of_ble_eq_true rfl) ?_
  show az_W _ _ _ _ 0 [(0, .ref u), (1, .int (nI dp))] [] _ _
  refine az_lconst (v := lN 0) dX1_spanAt_0 ?_
  refine az_lstore_n (ls' := [(0, .ref u), (1, .int (nI dp)), (2, .long (lN 0))]) dX1_spanAt_1 ?_
  refine az_iconst (v := nI 0) dX1_spanAt_2 ?_
  refine az_istore (ls' := [(0, .ref u), (1, .int (nI dp)), (2, .long (lN 0)), (4, .int (nI 0))]) dX1_spanAt_3 ?_
  exact loop _ 0 rfl (Nat.zero_le _)
set_option maxRecDepth 100000 in
theorem s_spanByF {d u t wn wx dp tb : Nat} {w : ln_W} {tl : Value} {c : Nat → Nat} {f : Nat → Int64} {hp : az_Hp} {Q : Option Value → az_Hp → Prop} (hw : ln_ok w) (hT : ln_Town hp t w) (h0 : hp.2 u = some (az_O 1 [.ref t, .ref (u + 1), .ref (u + 2), .ref (u + 3), .ref (u + 4), tl, .ref wn, .ref wx])) (h1 : hp.2 (u + 1) = some (az_J 54 f)) (hdp : dp ≤ 8) (h3 : tb < 3) (hc : ∀ x, x < 6 → f (dp * 6 + x) = lN (c x)) (hQ : Q (some (.long (lN (fu_b w tb c)))) hp) : az_M mX1_spanBy d 0 0 [.ref u, .int (nI dp), .int (nI tb)] hp Q := by
  obtain ⟨a4, a5, hT0, hT1, hT2, -⟩ := id hT
  have loop : ∀ (k : Nat) (x : Nat), 6 - x = k → (x ≤ 6) → az_W mX1_spanBy d 0 0 17 [(0, .ref u), (1, .int (nI dp)), (2, .int (nI tb)), (3, .int (nI (dp * 6))), (4, .int (nI (tb * 6))), (5, .long (lN (sm (fun x => c x * ln_sz w (tb * 6 + x)) x))), (7, .int (nI x))] [] hp Q := by
    intro k
    induction k using Nat.strongRecOn with
    | _ k ih =>
    intro x hk hx6
    refine az_iload dX1_spanBy_17 ?_
    refine az_bipush (v := nI 6) dX1_spanBy_19 ?_
    refine az_icmp_geN (tgt := 59) dX1_spanBy_21 (fun c21 => ?_) (fun c21 => ?_)
    · refine az_lload dX1_spanBy_59 ?_
      exact az_lret dX1_spanBy_61 (by rw [show x = 6 by omega]; exact hQ)
    · refine az_lload dX1_spanBy_24 ?_
      refine az_aload_n dX1_spanBy_26 ?_
      refine az_getf (v := .ref (u + 1)) dX1_spanBy_27 fl_X1_11 h0 ?_
      refine az_iload_n dX1_spanBy_30 ?_
      refine az_iload dX1_spanBy_31 ?_
      refine az_iaddN dX1_spanBy_33 ?_
      refine az_laldN (j := (dp * 6) + x) dX1_spanBy_34 h1 ?_
      rw [hc x (by omega)]
      refine az_aload_n dX1_spanBy_35 ?_
      refine az_getf (v := .ref t) dX1_spanBy_36 fl_X1_35 h0 ?_
      refine az_getf (v := .ref (t + 2)) dX1_spanBy_39 fl_X1_49 hT0 ?_
      refine az_iload dX1_spanBy_42 ?_
      refine az_iload dX1_spanBy_44 ?_
      refine az_iaddN dX1_spanBy_46 ?_
      refine az_ialdN (j := (tb * 6) + x) dX1_spanBy_47 hT2 ?_
      have hz4 := hw.2.2.2.2.2.2.1 (tb * 6 + x)
      refine az_i2lN dX1_spanBy_48 ?_
      refine az_lmulN dX1_spanBy_49 ?_
      refine az_laddN dX1_spanBy_50 ?_
      refine az_lstore (ls' := [(0, .ref u), (1, .int (nI dp)), (2, .int (nI tb)), (3, .int (nI (dp * 6))), (4, .int (nI (tb * 6))), (5, .long (lN ((sm (fun x => c x * ln_sz w (tb * 6 + x)) x) + ((c x) * (ln_sz w ((tb * 6) + x)))))), (7, .int (nI x))]) dX1_spanBy_51 ?_
      refine az_iincN (n := 1) (ls' := [(0, .ref u), (1, .int (nI dp)), (2, .int (nI tb)), (3, .int (nI (dp * 6))), (4, .int (nI (tb * 6))), (5, .long (lN ((sm (fun x => c x * ln_sz w (tb * 6 + x)) x) + ((c x) * (ln_sz w ((tb * 6) + x)))))), (7, .int (nI (x + 1)))]) dX1_spanBy_53 ?_
      refine az_goto (tgt := 17) dX1_spanBy_56 ?_
      exact ih _ (by omega) (x + 1) rfl (by omega)
  refine az_M.of rfl (Nat.le_of_ble_eq_true rfl) ?_
  show az_W _ _ _ _ 0 [(0, .ref u), (1, .int (nI dp)), (2, .int (nI tb))] [] _ _
  refine az_iload_n dX1_spanBy_0 ?_
  refine az_bipush (v := nI 6) dX1_spanBy_1 ?_
  refine az_imulN dX1_spanBy_3 ?_
  refine az_istore_n (ls' := [(0, .ref u), (1, .int (nI dp)), (2, .int (nI tb)), (3, .int (nI (dp * 6)))]) dX1_spanBy_4 ?_
  refine az_iload_n dX1_spanBy_5 ?_
  refine az_bipush (v := nI 6) dX1_spanBy_6 ?_
  refine az_imulN dX1_spanBy_8 ?_
  refine az_istore (ls' := [(0, .ref u), (1, .int (nI dp)), (2, .int (nI tb)), (3, .int (nI (dp * 6))), (4, .int (nI (tb * 6)))]) dX1_spanBy_9 ?_
  refine az_lconst (v := lN 0) dX1_spanBy_11 ?_
  refine az_lstore (ls' := [(0, .ref u), (1, .int (nI dp)), (2, .int (nI tb)), (3, .int (nI (dp * 6))), (4, .int (nI (tb * 6))), (5, .long (lN 0))]) dX1_spanBy_12 ?_
  refine az_iconst (v := nI 0) dX1_spanBy_14 ?_
  refine az_istore (ls' := [(0, .ref u), (1, .int (nI dp)), (2, .int (nI tb)), (3, .int (nI (dp * 6))), (4, .int (nI (tb * 6))), (5, .long (lN 0)), (7, .int (nI 0))]) dX1_spanBy_15 ?_
  exact loop _ 0 rfl (Nat.zero_le _)
