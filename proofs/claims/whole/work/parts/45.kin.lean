/-! Kin: which letters come to which -/
/-- whether letter y is among those of a row's number x, 1 or 0 -/
def kb (f : Nat → Nat) (x y : Nat) : Nat := if f x >>> y &&& 1 = 0 then 0 else 1
theorem kb_le (f : Nat → Nat) (x y : Nat) : kb f x y ≤ 1 := by unfold kb; split <;> omega
set_option maxRecDepth 100000 in
theorem s_reaches {d q x y : Nat} {f : Nat → Nat} {hp : az_Hp} {Q : Option Value → az_Hp → Prop} (h0 : hp.2 q = some (az_O 2 [.ref (q + 1), .ref (q + 2)])) (h1 : hp.2 (q + 1) = some (az_I 6 (fun j => nI (f j)))) (hf : f x < 64) (hx : x < 6) (hy : y < 6) (hQ : Q (some (.int (nI (kb f x y)))) hp) : az_M mX2_reaches d 0 0 [.ref q, .int (nI x), .int (nI y)] hp Q := by
  have hle : f x >>> y &&& 1 ≤ 1 := Nat.and_le_right
  refine az_M.of rfl (Nat.le_of_ble_eq_true rfl) ?_
  show az_W _ _ _ _ 0 [(0, .ref q), (1, .int (nI x)), (2, .int (nI y))] [] _ _
  refine az_aload_n dX2_reaches_0 ?_
  refine az_getf (v := .ref (q + 1)) dX2_reaches_1 fl_X2_9 h0 ?_
  refine az_iload_n dX2_reaches_4 ?_
  refine az_ialdN (j := x) dX2_reaches_5 h1 ?_
  refine az_iload_n dX2_reaches_6 ?_
  refine az_ishrN dX2_reaches_7 ?_
  refine az_iconst (v := nI 1) dX2_reaches_8 ?_
  refine az_iandN dX2_reaches_9 ?_
  refine az_if_eqN (tgt := 17) dX2_reaches_10 (fun c10 => ?_) (fun c10 => ?_)
  · rw [kb, if_pos c10] at hQ
    refine az_iconst (v := nI 0) dX2_reaches_17 ?_
    exact az_iret dX2_reaches_18 (hQ)
  · rw [kb, if_neg c10] at hQ
    refine az_iconst (v := nI 1) dX2_reaches_13 ?_
    refine az_goto (tgt := 18) dX2_reaches_14 ?_
    exact az_iret dX2_reaches_18 (hQ)
/-- the longest chain behind x, of the letters below k -/
def kn_lb (f c : Nat → Nat) (x : Nat) : Nat → Nat
  | 0 => 0
  | k + 1 => if kb f x k = 0 then kn_lb f c x k else if kb f k x = 0 then max (kn_lb f c x k) (c k) else kn_lb f c x k
theorem kn_lb_le {f c : Nat → Nat} {x m : Nat} (h : ∀ y, c y ≤ m) (k : Nat) : kn_lb f c x k ≤ m := by
  induction k with
  | zero => exact Nat.zero_le _
  | succ k ih =>
    rw [kn_lb]
    have := h k
    split
    · exact ih
    · split
      · omega
      · exact ih
set_option maxRecDepth 100000 in
theorem s_longestBehind {d q x m : Nat} {f c : Nat → Nat} {hp : az_Hp} {Q : Option Value → az_Hp → Prop} (hd : 1 ≤ d) (h0 : hp.2 q = some (az_O 2 [.ref (q + 1), .ref (q + 2)])) (h1 : hp.2 (q + 1) = some (az_I 6 (fun j => nI (f j)))) (h2 : hp.2 (q + 2) = some (az_I 6 (fun j => nI (c j)))) (hf : ∀ y, f y < 64) (hx : x < 6) (hc : ∀ y, c y ≤ m) (hm : m < 2 ^ 30) (hQ : Q (some (.int (nI (kn_lb f c x 6)))) hp) : az_M mX2_longestBehind d 0 0 [.ref q, .int (nI x)] hp Q := by
  have loop : ∀ (k : Nat) (i : Nat), 6 - i = k → (i ≤ 6) → az_W mX2_longestBehind d 0 0 4 [(0, .ref q), (1, .int (nI x)), (2, .int (nI (kn_lb f c x i))), (3, .int (nI i))] [] hp Q := by
    intro k
    induction k using Nat.strongRecOn with
    | _ k ih =>
    intro i hk h6
    refine az_iload_n dX2_longestBehind_4 ?_
    refine az_bipush (v := nI 6) dX2_longestBehind_5 ?_
    refine az_icmp_geN (tgt := 45) dX2_longestBehind_7 (fun c7 => ?_) (fun c7 => ?_)
    · refine az_iload_n dX2_longestBehind_45 ?_
      exact az_iret dX2_longestBehind_46 (by rw [show i = 6 by omega]; exact hQ)
    · refine az_aload_n dX2_longestBehind_10 ?_
      refine az_iload_n dX2_longestBehind_11 ?_
      refine az_iload_n dX2_longestBehind_12 ?_
      refine az_cV0 (st := []) dX2_longestBehind_13 ml_X2_24 h0 (s_reaches (d := d - 1) h0 h1 (hf _) hx (y := i) (by omega) ?_)
      have hkb := kb_le f x i
      refine az_if_eqN (tgt := 39) dX2_longestBehind_16 (fun c16 => ?_) (fun c16 => ?_)
      · refine az_iincN (n := 1) (ls' := [(0, .ref q), (1, .int (nI x)), (2, .int (nI (kn_lb f c x i))), (3, .int (nI (i + 1)))]) dX2_longestBehind_39 ?_
        refine az_goto (tgt := 4) dX2_longestBehind_42 ?_
        have hstep : kn_lb f c x (i + 1) = (kn_lb f c x i) := by first | (rw [kn_lb, if_pos c16]) | (rw [kn_lb, if_neg c16, if_neg c25]) | (rw [kn_lb, if_neg c16, if_pos c25])
        rw [← hstep]
        exact ih _ (by omega) (i + 1) rfl (by omega)
      · refine az_aload_n dX2_longestBehind_19 ?_
        refine az_iload_n dX2_longestBehind_20 ?_
        refine az_iload_n dX2_longestBehind_21 ?_
        refine az_cV0 (st := []) dX2_longestBehind_22 ml_X2_24 h0 (s_reaches (d := d - 1) h0 h1 (hf _) (x := i) (by omega) hx ?_)
        have hkb2 := kb_le f i x
        refine az_if_neN (tgt := 39) dX2_longestBehind_25 (fun c25 => ?_) (fun c25 => ?_)
        · refine az_iincN (n := 1) (ls' := [(0, .ref q), (1, .int (nI x)), (2, .int (nI (kn_lb f c x i))), (3, .int (nI (i + 1)))]) dX2_longestBehind_39 ?_
          refine az_goto (tgt := 4) dX2_longestBehind_42 ?_
          have hstep : kn_lb f c x (i + 1) = (kn_lb f c x i) := by first | (rw [kn_lb, if_pos c16]) | (rw [kn_lb, if_neg c16, if_neg c25]) | (rw [kn_lb, if_neg c16, if_pos c25])
          rw [← hstep]
          exact ih _ (by omega) (i + 1) rfl (by omega)
        · refine az_iload_n dX2_longestBehind_28 ?_
          refine az_aload_n dX2_longestBehind_29 ?_
          refine az_getf (v := .ref (q + 2)) dX2_longestBehind_30 fl_X2_15 h0 ?_
          refine az_iload_n dX2_longestBehind_33 ?_
          refine az_ialdN (j := i) dX2_longestBehind_34 h2 ?_
          have hci := hc i
          have hl := kn_lb_le (f := f) (x := x) hc i
          refine az_mmaxN dX2_longestBehind_35 ml_X2_41 ?_
          refine az_istore_n (ls' := [(0, .ref q), (1, .int (nI x)), (2, .int (nI (max (kn_lb f c x i) (c i)))), (3, .int (nI i))]) dX2_longestBehind_38 ?_
          refine az_iincN (n := 1) (ls' := [(0, .ref q), (1, .int (nI x)), (2, .int (nI (max (kn_lb f c x i) (c i)))), (3, .int (nI (i + 1)))]) dX2_longestBehind_39 ?_
          refine az_goto (tgt := 4) dX2_longestBehind_42 ?_
          have hstep : kn_lb f c x (i + 1) = (max (kn_lb f c x i) (c i)) := by first | (rw [kn_lb, if_pos c16]) | (rw [kn_lb, if_neg c16, if_neg c25]) | (rw [kn_lb, if_neg c16, if_pos c25])
          rw [← hstep]
          exact ih _ (by omega) (i + 1) rfl (by omega)
  refine az_M.of rfl (Nat.le_of_ble_eq_true rfl) ?_
  show az_W _ _ _ _ 0 [(0, .ref q), (1, .int (nI x))] [] _ _
  refine az_iconst (v := nI 0) dX2_longestBehind_0 ?_
  refine az_istore_n (ls' := [(0, .ref q), (1, .int (nI x)), (2, .int (nI 0))]) dX2_longestBehind_1 ?_
  refine az_iconst (v := nI 0) dX2_longestBehind_2 ?_
  refine az_istore_n (ls' := [(0, .ref q), (1, .int (nI x)), (2, .int (nI 0)), (3, .int (nI 0))]) dX2_longestBehind_3 ?_
  exact loop _ 0 rfl (Nat.zero_le _)
/-- the longest chain of x and those it comes to, below k -/
def kn_cf (f c : Nat → Nat) (x : Nat) : Nat → Nat
  | 0 => c x
  | k + 1 => if kb f x k = 0 then kn_cf f c x k else max (kn_cf f c x k) (c k)
theorem kn_cf_le {f c : Nat → Nat} {x m : Nat} (h : ∀ y, c y ≤ m) (k : Nat) : kn_cf f c x k ≤ m := by
  induction k with
  | zero => exact h x
  | succ k ih =>
    rw [kn_cf]
    have := h k
    split <;> omega
set_option maxRecDepth 100000 in
theorem s_chainFrom {d q x m : Nat} {f c : Nat → Nat} {hp : az_Hp} {Q : Option Value → az_Hp → Prop} (hd : 1 ≤ d) (h0 : hp.2 q = some (az_O 2 [.ref (q + 1), .ref (q + 2)])) (h1 : hp.2 (q + 1) = some (az_I 6 (fun j => nI (f j)))) (h2 : hp.2 (q + 2) = some (az_I 6 (fun j => nI (c j)))) (hf : ∀ y, f y < 64) (hx : x < 6) (hc : ∀ y, c y ≤ m) (hm : m < 2 ^ 30) (hQ : Q (some (.int (nI (kn_cf f c x 6)))) hp) : az_M mX2_chainFrom d 0 0 [.ref q, .int (nI x)] hp Q := by
  have loop : ∀ (k : Nat) (i : Nat), 6 - i = k → (i ≤ 6) → az_W mX2_chainFrom d 0 0 9 [(0, .ref q), (1, .int (nI x)), (2, .int (nI (kn_cf f c x i))), (3, .int (nI i))] [] hp Q := by
    intro k
    induction k using Nat.strongRecOn with
    | _ k ih =>
    intro i hk h6
    refine az_iload_n dX2_chainFrom_9 ?_
    refine az_bipush (v := nI 6) dX2_chainFrom_10 ?_
    refine az_icmp_geN (tgt := 41) dX2_chainFrom_12 (fun c12 => ?_) (fun c12 => ?_)
    · refine az_iload_n dX2_chainFrom_41 ?_
      exact az_iret dX2_chainFrom_42 (by rw [show i = 6 by omega]; exact hQ)
    · refine az_aload_n dX2_chainFrom_15 ?_
      refine az_iload_n dX2_chainFrom_16 ?_
      refine az_iload_n dX2_chainFrom_17 ?_
      refine az_cV0 (st := []) dX2_chainFrom_18 ml_X2_24 h0 (s_reaches (d := d - 1) h0 h1 (hf _) hx (y := i) (by omega) ?_)
      have hkb := kb_le f x i
      refine az_if_eqN (tgt := 35) dX2_chainFrom_21 (fun c21 => ?_) (fun c21 => ?_)
      · refine az_iincN (n := 1) (ls' := [(0, .ref q), (1, .int (nI x)), (2, .int (nI (kn_cf f c x i))), (3, .int (nI (i + 1)))]) dX2_chainFrom_35 ?_
        refine az_goto (tgt := 9) dX2_chainFrom_38 ?_
        have hstep : kn_cf f c x (i + 1) = (kn_cf f c x i) := by first | (rw [kn_cf, if_pos c21]) | (rw [kn_cf, if_neg c21])
        rw [← hstep]
        exact ih _ (by omega) (i + 1) rfl (by omega)
      · refine az_iload_n dX2_chainFrom_24 ?_
        refine az_aload_n dX2_chainFrom_25 ?_
        refine az_getf (v := .ref (q + 2)) dX2_chainFrom_26 fl_X2_15 h0 ?_
        refine az_iload_n dX2_chainFrom_29 ?_
        refine az_ialdN (j := i) dX2_chainFrom_30 h2 ?_
        have hci := hc i
        have hl := kn_cf_le (f := f) (x := x) hc i
        refine az_mmaxN dX2_chainFrom_31 ml_X2_41 ?_
        refine az_istore_n (ls' := [(0, .ref q), (1, .int (nI x)), (2, .int (nI (max (kn_cf f c x i) (c i)))), (3, .int (nI i))]) dX2_chainFrom_34 ?_
        refine az_iincN (n := 1) (ls' := [(0, .ref q), (1, .int (nI x)), (2, .int (nI (max (kn_cf f c x i) (c i)))), (3, .int (nI (i + 1)))]) dX2_chainFrom_35 ?_
        refine az_goto (tgt := 9) dX2_chainFrom_38 ?_
        have hstep : kn_cf f c x (i + 1) = (max (kn_cf f c x i) (c i)) := by first | (rw [kn_cf, if_pos c21]) | (rw [kn_cf, if_neg c21])
        rw [← hstep]
        exact ih _ (by omega) (i + 1) rfl (by omega)
  refine az_M.of rfl (Nat.le_of_ble_eq_true rfl) ?_
  show az_W _ _ _ _ 0 [(0, .ref q), (1, .int (nI x))] [] _ _
  refine az_aload_n dX2_chainFrom_0 ?_
  refine az_getf (v := .ref (q + 2)) dX2_chainFrom_1 fl_X2_15 h0 ?_
  refine az_iload_n dX2_chainFrom_4 ?_
  refine az_ialdN (j := x) dX2_chainFrom_5 h2 ?_
  refine az_istore_n (ls' := [(0, .ref q), (1, .int (nI x)), (2, .int (nI (c x)))]) dX2_chainFrom_6 ?_
  refine az_iconst (v := nI 0) dX2_chainFrom_7 ?_
  refine az_istore_n (ls' := [(0, .ref q), (1, .int (nI x)), (2, .int (nI (c x))), (3, .int (nI 0))]) dX2_chainFrom_8 ?_
  exact loop _ 0 rfl (Nat.zero_le _)
