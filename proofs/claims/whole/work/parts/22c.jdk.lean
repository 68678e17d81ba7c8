/-! the JDK's own: Math, Arrays -/
set_option maxRecDepth 100000 in
/-- Arrays.fill of longs: all of them -/
theorem s_fillJ {d a n : Nat} {f : Nat → Int64} {v : Int64} {hp : az_Hp} {Q : Option Value → az_Hp → Prop} (hn : n < 2 ^ 31) (ha : hp.2 a = some (az_J n f)) (hQ : Q none (az_up hp a (az_J n (fun _ => v)))) : az_M mJ7_fill_d0a16 d 0 0 [.ref a, .long v] hp Q := by
  have loop : ∀ (k : Nat) (i : Nat) (g : Nat → Int64) (h' : az_Hp), n - i = k → (i ≤ n) → (∀ j, j < i → g j = v) → (h' = az_up hp a (az_J n g)) → az_W mJ7_fill_d0a16 d 0 0 6 [(0, .ref a), (1, .long v), (3, .int (nI i)), (4, .int (nI n))] [] h' Q := by
    intro k
    induction k using Nat.strongRecOn with
    | _ k ih =>
    intro i g h' hk hi hg he
    refine az_iload_n dJ7_fill_d0a16_6 ?_
    refine az_iload dJ7_fill_d0a16_7 ?_
    refine az_icmp_geN (tgt := 22) dJ7_fill_d0a16_9 (fun c9 => ?_) (fun c9 => ?_)
    · refine az_W.reJ (g := fun _ => v) (a := a) (n := n) (by rw [he]; exact az_up_eq) (fun j hj => hg j (by omega)) ?_
      exact az_vret dJ7_fill_d0a16_22 (by rw [he, az_up_up]; exact hQ)
    · refine az_aload_n dJ7_fill_d0a16_12 ?_
      refine az_iload_n dJ7_fill_d0a16_13 ?_
      refine az_lload_n dJ7_fill_d0a16_14 ?_
      refine az_lastN (j := i) dJ7_fill_d0a16_15 (by rw [he]; exact az_up_eq) ?_
      refine az_iincN (n := 1) (ls' := [(0, .ref a), (1, .long v), (3, .int (nI (i + 1))), (4, .int (nI n))]) dJ7_fill_d0a16_16 ?_
      refine az_goto (tgt := 6) dJ7_fill_d0a16_19 ?_
      exact ih _ (by omega) (i + 1) (az_s g i v) _ rfl (by omega) (fun j hj => by by_cases e : j = i; rw [e]; exact az_s_eq; rw [az_s_ne e]; exact hg j (by omega)) (by rw [he, az_up_up])
  refine az_M.of rfl (Nat.le_of_ble_eq_true rfl) ?_
  show az_W _ _ _ _ 0 [(0, .ref a), (1, .long v)] [] _ _
  refine az_iconst (v := nI 0) dJ7_fill_d0a16_0 ?_
  refine az_istore_n (ls' := [(0, .ref a), (1, .long v), (3, .int (nI 0))]) dJ7_fill_d0a16_1 ?_
  refine az_aload_n dJ7_fill_d0a16_2 ?_
  refine az_alen dJ7_fill_d0a16_3 ha ?_
  refine az_istore (ls' := [(0, .ref a), (1, .long v), (3, .int (nI 0)), (4, .int (nI n))]) dJ7_fill_d0a16_4 ?_
  exact loop _ 0 f _ rfl (Nat.zero_le _) (fun j hj => absurd hj (by omega)) (az_up_same ha).symm
set_option maxRecDepth 100000 in
/-- Arrays.fill of ints: all of them -/
theorem s_fillI {d a n : Nat} {f : Nat → Int32} {v : Int32} {hp : az_Hp} {Q : Option Value → az_Hp → Prop} (hn : n < 2 ^ 31) (ha : hp.2 a = some (az_I n f)) (hQ : Q none (az_up hp a (az_I n (fun _ => v)))) : az_M mJ7_fill_53178 d 0 0 [.ref a, .int v] hp Q := by
  have loop : ∀ (k : Nat) (i : Nat) (g : Nat → Int32) (h' : az_Hp), n - i = k → (i ≤ n) → (∀ j, j < i → g j = v) → (h' = az_up hp a (az_I n g)) → az_W mJ7_fill_53178 d 0 0 5 [(0, .ref a), (1, .int v), (2, .int (nI i)), (3, .int (nI n))] [] h' Q := by
    intro k
    induction k using Nat.strongRecOn with
    | _ k ih =>
    intro i g h' hk hi hg he
    refine az_iload_n dJ7_fill_53178_5 ?_
    refine az_iload_n dJ7_fill_53178_6 ?_
    refine az_icmp_geN (tgt := 20) dJ7_fill_53178_7 (fun c7 => ?_) (fun c7 => ?_)
    · refine az_W.reI (g := fun _ => v) (a := a) (n := n) (by rw [he]; exact az_up_eq) (fun j hj => hg j (by omega)) ?_
      exact az_vret dJ7_fill_53178_20 (by rw [he, az_up_up]; exact hQ)
    · refine az_aload_n dJ7_fill_53178_10 ?_
      refine az_iload_n dJ7_fill_53178_11 ?_
      refine az_iload_n dJ7_fill_53178_12 ?_
      refine az_iastN (j := i) dJ7_fill_53178_13 (by rw [he]; exact az_up_eq) ?_
      refine az_iincN (n := 1) (ls' := [(0, .ref a), (1, .int v), (2, .int (nI (i + 1))), (3, .int (nI n))]) dJ7_fill_53178_14 ?_
      refine az_goto (tgt := 5) dJ7_fill_53178_17 ?_
      exact ih _ (by omega) (i + 1) (az_s g i v) _ rfl (by omega) (fun j hj => by by_cases e : j = i; rw [e]; exact az_s_eq; rw [az_s_ne e]; exact hg j (by omega)) (by rw [he, az_up_up])
  refine az_M.of rfl (Nat.le_of_ble_eq_true rfl) ?_
  show az_W _ _ _ _ 0 [(0, .ref a), (1, .int v)] [] _ _
  refine az_iconst (v := nI 0) dJ7_fill_53178_0 ?_
  refine az_istore_n (ls' := [(0, .ref a), (1, .int v), (2, .int (nI 0))]) dJ7_fill_53178_1 ?_
  refine az_aload_n dJ7_fill_53178_2 ?_
  refine az_alen dJ7_fill_53178_3 ha ?_
  refine az_istore_n (ls' := [(0, .ref a), (1, .int v), (2, .int (nI 0)), (3, .int (nI n))]) dJ7_fill_53178_4 ?_
  exact loop _ 0 f _ rfl (Nat.zero_le _) (fun j hj => absurd hj (by omega)) (az_up_same ha).symm
