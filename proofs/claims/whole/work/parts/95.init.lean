/-! The class's constructors -/
set_option maxRecDepth 100000 in
theorem s_initPast {d t : Nat} {f9 : Nat → Option az_C} {Q : Option Value → az_Hp → Prop} (hd : 1 ≤ d) (h0 : ((t + 1, f9) : az_Hp).2 t = some (az_O 3 [.int 0, .null, .null, .null])) (hQ : ∀ h' : az_Hp, h'.1 = t + 4 → (∀ z, z < t → h'.2 z = f9 z) → h'.2 t = some (az_O 3 [.int (nI 0), .ref (t + 1), .ref (t + 2), .ref (t + 3)]) → h'.2 (t + 1) = some (az_I 11 (fun _ => nI 0)) → h'.2 (t + 2) = some (az_I 11 (fun _ => nI 0)) → h'.2 (t + 3) = some (az_I 11 (fun _ => nI 0)) → Q none h') : az_M mX4_init d 3 33 [.ref t] ((t + 1, f9) : az_Hp) Q := by
  refine az_M.of rfl (Nat.le_of_ble_eq_true rfl) ?_
  show az_W _ _ _ _ 0 [(0, .ref t)] [] _ _
  refine az_aload_n dX4_init_0 ?_
  refine az_oinit dX4_init_1 ol_X4_1 ?_
  refine az_aload_n dX4_init_4 ?_
  refine az_iconst (v := nI 0) dX4_init_5 ?_
  refine az_putf (fs' := [.int (nI 0), .null, .null, .null]) dX4_init_6 fl_X4_7 h0 ?_
  refine az_aload_n dX4_init_9 ?_
  refine az_bipush (v := nI 11) dX4_init_10 ?_
  refine az_newI (n := 11) dX4_init_12 ?_
  show az_W _ _ _ _ 14 [(0, .ref t)] [.ref (t + 1), .ref t] _ _
  refine az_putF (fs' := [.int (nI 0), .ref (t + 1), .null, .null]) dX4_init_14 fl_X4_13 (az_nw_neN (N := t + 1) az_up_eq) ?_
  refine az_aload_n dX4_init_17 ?_
  refine az_bipush (v := nI 11) dX4_init_18 ?_
  refine az_newI (n := 11) dX4_init_20 ?_
  show az_W _ _ _ _ 22 [(0, .ref t)] [.ref (t + 2), .ref t] _ _
  refine az_putF (fs' := [.int (nI 0), .ref (t + 1), .ref (t + 2), .null]) dX4_init_22 fl_X4_17 (az_nw_neN (N := t + 2) az_up_eq) ?_
  refine az_aload_n dX4_init_25 ?_
  refine az_bipush (v := nI 11) dX4_init_26 ?_
  refine az_newI (n := 11) dX4_init_28 ?_
  show az_W _ _ _ _ 30 [(0, .ref t)] [.ref (t + 3), .ref t] _ _
  refine az_putF (fs' := [.int (nI 0), .ref (t + 1), .ref (t + 2), .ref (t + 3)]) dX4_init_30 fl_X4_20 (az_nw_neN (N := t + 3) az_up_eq) ?_
  exact az_vret dX4_init_33 (hQ (az_up (az_nw (az_up (az_nw (az_up (az_nw (az_up ((t + 1, f9) : az_Hp) t (az_O 3 [.int (nI 0), .null, .null, .null])) (az_I 11 (fun _ => nI 0))) t (az_O 3 [.int (nI 0), .ref (t + 1), .null, .null])) (az_I 11 (fun _ => nI 0))) t (az_O 3 [.int (nI 0), .ref (t + 1), .ref (t + 2), .null])) (az_I 11 (fun _ => nI 0))) t (az_O 3 [.int (nI 0), .ref (t + 1), .ref (t + 2), .ref (t + 3)])) rfl (fun z hz => (by rw [az_up_ne rfl, az_nw_neN (N := t + 3) rfl, az_up_ne rfl, az_nw_neN (N := t + 2) rfl, az_up_ne rfl, az_nw_neN (N := t + 1) rfl, az_up_ne rfl])) az_up_eq (az_up_ne (az_nw_neN (N := t + 3) (az_up_ne (az_nw_neN (N := t + 2) (az_up_ne az_nw_eqN))))) (az_up_ne (az_nw_neN (N := t + 3) (az_up_ne az_nw_eqN))) (az_up_ne az_nw_eqN))
set_option maxRecDepth 100000 in
theorem s_initSurvey {d t : Nat} {f9 : Nat → Option az_C} {Q : Option Value → az_Hp → Prop} (hd : 1 ≤ d) (h0 : ((t + 1, f9) : az_Hp).2 t = some (az_O 6 [.null, .null, .long 0, .long 0])) (hQ : ∀ h' : az_Hp, h'.1 = t + 3 → (∀ z, z < t → h'.2 z = f9 z) → h'.2 t = some (az_O 6 [.ref (t + 1), .ref (t + 2), .long 0, .long 0]) → h'.2 (t + 1) = some (az_J 366 (fun _ => lN 0)) → h'.2 (t + 2) = some (az_J 366 (fun _ => lN 0)) → Q none h') : az_M mX7_init d 2 732 [.ref t] ((t + 1, f9) : az_Hp) Q := by
  refine az_M.of rfl (Nat.le_of_ble_eq_true rfl) ?_
  show az_W _ _ _ _ 0 [(0, .ref t)] [] _ _
  refine az_aload_n dX7_init_0 ?_
  refine az_oinit dX7_init_1 ol_X7_3 ?_
  refine az_aload_n dX7_init_4 ?_
  refine az_sipush (v := nI 366) dX7_init_5 ?_
  refine az_newJ (n := 366) dX7_init_8 ?_
  show az_W _ _ _ _ 10 [(0, .ref t)] [.ref (t + 1), .ref t] _ _
  refine az_putF (fs' := [.ref (t + 1), .null, .long 0, .long 0]) dX7_init_10 fl_X7_9 (az_nw_neN (N := t + 1) h0) ?_
  refine az_aload_n dX7_init_13 ?_
  refine az_sipush (v := nI 366) dX7_init_14 ?_
  refine az_newJ (n := 366) dX7_init_17 ?_
  show az_W _ _ _ _ 19 [(0, .ref t)] [.ref (t + 2), .ref t] _ _
  refine az_putF (fs' := [.ref (t + 1), .ref (t + 2), .long 0, .long 0]) dX7_init_19 fl_X7_15 (az_nw_neN (N := t + 2) az_up_eq) ?_
  exact az_vret dX7_init_22 (hQ (az_up (az_nw (az_up (az_nw ((t + 1, f9) : az_Hp) (az_J 366 (fun _ => lN 0))) t (az_O 6 [.ref (t + 1), .null, .long 0, .long 0])) (az_J 366 (fun _ => lN 0))) t (az_O 6 [.ref (t + 1), .ref (t + 2), .long 0, .long 0])) rfl (fun z hz => (by rw [az_up_ne rfl, az_nw_neN (N := t + 2) rfl, az_up_ne rfl, az_nw_neN (N := t + 1) rfl])) az_up_eq (az_up_ne (az_nw_neN (N := t + 2) (az_up_ne az_nw_eqN))) (az_up_ne az_nw_eqN))
set_option maxRecDepth 100000 in
theorem s_initFinder {d t : Nat} {f9 : Nat → Option az_C} {Q : Option Value → az_Hp → Prop} (hd : 1 ≤ d) (h0 : ((t + 1, f9) : az_Hp).2 t = some (az_O 0 [.null, .int 0, .null, .null, .null, .int 0, .long 0, .null])) (hQ : ∀ h' : az_Hp, h'.1 = t + 6 → (∀ z, z < t → h'.2 z = f9 z) → h'.2 t = some (az_O 0 [.ref (t + 1), .int 0, .ref (t + 2), .ref (t + 3), .ref (t + 4), .int 0, .long 0, .ref (t + 5)]) → h'.2 (t + 1) = some (az_I 6 (fun _ => nI 0)) → h'.2 (t + 2) = some (az_I 7 (fun _ => nI 0)) → h'.2 (t + 3) = some (az_Y 2196 (fun _ => nI 0)) → h'.2 (t + 4) = some (az_J 2196 (fun _ => lN 0)) → h'.2 (t + 5) = some (az_I 7 (fun _ => nI 0)) → Q none h') : az_M mX0_init d 5 4412 [.ref t] ((t + 1, f9) : az_Hp) Q := by
  refine az_M.of rfl (Nat.le_of_ble_eq_true rfl) ?_
  show az_W _ _ _ _ 0 [(0, .ref t)] [] _ _
  refine az_aload_n dX0_init_0 ?_
  refine az_oinit dX0_init_1 ol_X0_3 ?_
  refine az_aload_n dX0_init_4 ?_
  refine az_bipush (v := nI 6) dX0_init_5 ?_
  refine az_newI (n := 6) dX0_init_7 ?_
  show az_W _ _ _ _ 9 [(0, .ref t)] [.ref (t + 1), .ref t] _ _
  refine az_putF (fs' := [.ref (t + 1), .int 0, .null, .null, .null, .int 0, .long 0, .null]) dX0_init_9 fl_X0_9 (az_nw_neN (N := t + 1) h0) ?_
  refine az_aload_n dX0_init_12 ?_
  refine az_bipush (v := nI 7) dX0_init_13 ?_
  refine az_newI (n := 7) dX0_init_15 ?_
  show az_W _ _ _ _ 17 [(0, .ref t)] [.ref (t + 2), .ref t] _ _
  refine az_putF (fs' := [.ref (t + 1), .int 0, .ref (t + 2), .null, .null, .int 0, .long 0, .null]) dX0_init_17 fl_X0_15 (az_nw_neN (N := t + 2) az_up_eq) ?_
  refine az_aload_n dX0_init_20 ?_
  refine az_sipush (v := nI 2196) dX0_init_21 ?_
  refine az_newY (n := 2196) dX0_init_24 ?_
  show az_W _ _ _ _ 26 [(0, .ref t)] [.ref (t + 3), .ref t] _ _
  refine az_putF (fs' := [.ref (t + 1), .int 0, .ref (t + 2), .ref (t + 3), .null, .int 0, .long 0, .null]) dX0_init_26 fl_X0_18 (az_nw_neN (N := t + 3) az_up_eq) ?_
  refine az_aload_n dX0_init_29 ?_
  refine az_sipush (v := nI 2196) dX0_init_30 ?_
  refine az_newJ (n := 2196) dX0_init_33 ?_
  show az_W _ _ _ _ 35 [(0, .ref t)] [.ref (t + 4), .ref t] _ _
  refine az_putF (fs' := [.ref (t + 1), .int 0, .ref (t + 2), .ref (t + 3), .ref (t + 4), .int 0, .long 0, .null]) dX0_init_35 fl_X0_22 (az_nw_neN (N := t + 4) az_up_eq) ?_
  refine az_aload_n dX0_init_38 ?_
  refine az_bipush (v := nI 7) dX0_init_39 ?_
  refine az_newI (n := 7) dX0_init_41 ?_
  show az_W _ _ _ _ 43 [(0, .ref t)] [.ref (t + 5), .ref t] _ _
  refine az_putF (fs' := [.ref (t + 1), .int 0, .ref (t + 2), .ref (t + 3), .ref (t + 4), .int 0, .long 0, .ref (t + 5)]) dX0_init_43 fl_X0_26 (az_nw_neN (N := t + 5) az_up_eq) ?_
  exact az_vret dX0_init_46 (hQ (az_up (az_nw (az_up (az_nw (az_up (az_nw (az_up (az_nw (az_up (az_nw ((t + 1, f9) : az_Hp) (az_I 6 (fun _ => nI 0))) t (az_O 0 [.ref (t + 1), .int 0, .null, .null, .null, .int 0, .long 0, .null])) (az_I 7 (fun _ => nI 0))) t (az_O 0 [.ref (t + 1), .int 0, .ref (t + 2), .null, .null, .int 0, .long 0, .null])) (az_Y 2196 (fun _ => nI 0))) t (az_O 0 [.ref (t + 1), .int 0, .ref (t + 2), .ref (t + 3), .null, .int 0, .long 0, .null])) (az_J 2196 (fun _ => lN 0))) t (az_O 0 [.ref (t + 1), .int 0, .ref (t + 2), .ref (t + 3), .ref (t + 4), .int 0, .long 0, .null])) (az_I 7 (fun _ => nI 0))) t (az_O 0 [.ref (t + 1), .int 0, .ref (t + 2), .ref (t + 3), .ref (t + 4), .int 0, .long 0, .ref (t + 5)])) rfl (fun z hz => (by rw [az_up_ne rfl, az_nw_neN (N := t + 5) rfl, az_up_ne rfl, az_nw_neN (N := t + 4) rfl, az_up_ne rfl, az_nw_neN (N := t + 3) rfl, az_up_ne rfl, az_nw_neN (N := t + 2) rfl, az_up_ne rfl, az_nw_neN (N := t + 1) rfl])) az_up_eq (az_up_ne (az_nw_neN (N := t + 5) (az_up_ne (az_nw_neN (N := t + 4) (az_up_ne (az_nw_neN (N := t + 3) (az_up_ne (az_nw_neN (N := t + 2) (az_up_ne az_nw_eqN))))))))) (az_up_ne (az_nw_neN (N := t + 5) (az_up_ne (az_nw_neN (N := t + 4) (az_up_ne (az_nw_neN (N := t + 3) (az_up_ne az_nw_eqN))))))) (az_up_ne (az_nw_neN (N := t + 5) (az_up_ne (az_nw_neN (N := t + 4) (az_up_ne az_nw_eqN))))) (az_up_ne (az_nw_neN (N := t + 5) (az_up_ne az_nw_eqN))) (az_up_ne az_nw_eqN))
set_option maxRecDepth 100000 in
theorem s_initKin {d t : Nat} {f9 : Nat → Option az_C} {Q : Option Value → az_Hp → Prop} (hd : 1 ≤ d) (h0 : ((t + 1, f9) : az_Hp).2 t = some (az_O 2 [.null, .null])) (hQ : ∀ h' : az_Hp, h'.1 = t + 3 → (∀ z, z < t → h'.2 z = f9 z) → h'.2 t = some (az_O 2 [.ref (t + 1), .ref (t + 2)]) → h'.2 (t + 1) = some (az_I 6 (fun _ => nI 0)) → h'.2 (t + 2) = some (az_I 6 (fun _ => nI 0)) → Q none h') : az_M mX2_init d 2 12 [.ref t] ((t + 1, f9) : az_Hp) Q := by
  refine az_M.of rfl (Nat.le_of_ble_eq_true rfl) ?_
  show az_W _ _ _ _ 0 [(0, .ref t)] [] _ _
  refine az_aload_n dX2_init_0 ?_
  refine az_oinit dX2_init_1 ol_X2_3 ?_
  refine az_aload_n dX2_init_4 ?_
  refine az_bipush (v := nI 6) dX2_init_5 ?_
  refine az_newI (n := 6) dX2_init_7 ?_
  show az_W _ _ _ _ 9 [(0, .ref t)] [.ref (t + 1), .ref t] _ _
  refine az_putF (fs' := [.ref (t + 1), .null]) dX2_init_9 fl_X2_9 (az_nw_neN (N := t + 1) h0) ?_
  refine az_aload_n dX2_init_12 ?_
  refine az_bipush (v := nI 6) dX2_init_13 ?_
  refine az_newI (n := 6) dX2_init_15 ?_
  show az_W _ _ _ _ 17 [(0, .ref t)] [.ref (t + 2), .ref t] _ _
  refine az_putF (fs' := [.ref (t + 1), .ref (t + 2)]) dX2_init_17 fl_X2_15 (az_nw_neN (N := t + 2) az_up_eq) ?_
  exact az_vret dX2_init_20 (hQ (az_up (az_nw (az_up (az_nw ((t + 1, f9) : az_Hp) (az_I 6 (fun _ => nI 0))) t (az_O 2 [.ref (t + 1), .null])) (az_I 6 (fun _ => nI 0))) t (az_O 2 [.ref (t + 1), .ref (t + 2)])) rfl (fun z hz => (by rw [az_up_ne rfl, az_nw_neN (N := t + 2) rfl, az_up_ne rfl, az_nw_neN (N := t + 1) rfl])) az_up_eq (az_up_ne (az_nw_neN (N := t + 2) (az_up_ne az_nw_eqN))) (az_up_ne az_nw_eqN))
set_option maxRecDepth 100000 in
theorem s_initTally {d t : Nat} {f9 : Nat → Option az_C} {Q : Option Value → az_Hp → Prop} (hd : 1 ≤ d) (h0 : ((t + 1, f9) : az_Hp).2 t = some (az_O 7 [.null, .null, .int 0, .null])) (hQ : ∀ h' : az_Hp, h'.1 = t + 4 → (∀ z, z < t → h'.2 z = f9 z) → h'.2 t = some (az_O 7 [.ref (t + 1), .ref (t + 2), .int (nI 64), .ref (t + 3)]) → h'.2 (t + 1) = some (az_J 64 (fun _ => lN 0)) → h'.2 (t + 2) = some (az_I 64 (fun _ => nI 0)) → h'.2 (t + 3) = some (az_I 3 (fun _ => nI 0)) → Q none h') : az_M mX8_init d 3 131 [.ref t] ((t + 1, f9) : az_Hp) Q := by
  refine az_M.of rfl (Nat.le_of_ble_eq_true rfl) ?_
  show az_W _ _ _ _ 0 [(0, .ref t)] [] _ _
  refine az_aload_n dX8_init_0 ?_
  refine az_oinit dX8_init_1 ol_X8_3 ?_
  refine az_aload_n dX8_init_4 ?_
  refine az_bipush (v := nI 64) dX8_init_5 ?_
  refine az_newJ (n := 64) dX8_init_7 ?_
  show az_W _ _ _ _ 9 [(0, .ref t)] [.ref (t + 1), .ref t] _ _
  refine az_putf (fs' := [.ref (t + 1), .null, .int 0, .null]) dX8_init_9 fl_X8_9 (az_nw_neN (N := t + 1) h0) ?_
  refine az_aload_n dX8_init_12 ?_
  refine az_bipush (v := nI 64) dX8_init_13 ?_
  refine az_newI (n := 64) dX8_init_15 ?_
  show az_W _ _ _ _ 17 [(0, .ref t)] [.ref (t + 2), .ref t] _ _
  refine az_putf (fs' := [.ref (t + 1), .ref (t + 2), .int 0, .null]) dX8_init_17 fl_X8_15 (az_nw_neN (N := t + 2) az_up_eq) ?_
  refine az_aload_n dX8_init_20 ?_
  refine az_bipush (v := nI 64) dX8_init_21 ?_
  refine az_putf (fs' := [.ref (t + 1), .ref (t + 2), .int (nI 64), .null]) dX8_init_23 fl_X8_19 az_up_eq ?_
  rw [az_up_up]
  refine az_aload_n dX8_init_26 ?_
  refine az_iconst (v := nI 3) dX8_init_27 ?_
  refine az_newI (n := 3) dX8_init_28 ?_
  show az_W _ _ _ _ 30 [(0, .ref t)] [.ref (t + 3), .ref t] _ _
  refine az_putF (fs' := [.ref (t + 1), .ref (t + 2), .int (nI 64), .ref (t + 3)]) dX8_init_30 fl_X8_23 (az_nw_neN (N := t + 3) az_up_eq) ?_
  exact az_vret dX8_init_33 (hQ (az_up (az_nw (az_up (az_nw (az_up (az_nw ((t + 1, f9) : az_Hp) (az_J 64 (fun _ => lN 0))) t (az_O 7 [.ref (t + 1), .null, .int 0, .null])) (az_I 64 (fun _ => nI 0))) t (az_O 7 [.ref (t + 1), .ref (t + 2), .int (nI 64), .null])) (az_I 3 (fun _ => nI 0))) t (az_O 7 [.ref (t + 1), .ref (t + 2), .int (nI 64), .ref (t + 3)])) rfl (fun z hz => (by rw [az_up_ne rfl, az_nw_neN (N := t + 3) rfl, az_up_ne rfl, az_nw_neN (N := t + 2) rfl, az_up_ne rfl, az_nw_neN (N := t + 1) rfl])) az_up_eq (az_up_ne (az_nw_neN (N := t + 3) (az_up_ne (az_nw_neN (N := t + 2) (az_up_ne az_nw_eqN))))) (az_up_ne (az_nw_neN (N := t + 3) (az_up_ne az_nw_eqN))) (az_up_ne az_nw_eqN))
set_option maxRecDepth 100000 in
theorem s_initTray {d t : Nat} {f9 : Nat → Option az_C} {Q : Option Value → az_Hp → Prop} (hd : 1 ≤ d) (h0 : ((t + 1, f9) : az_Hp).2 t = some (az_O 9 [.int 0, .int 0, .null])) (hQ : ∀ h' : az_Hp, h'.1 = t + 2 → (∀ z, z < t → h'.2 z = f9 z) → h'.2 t = some (az_O 9 [.int (-1), .int 0, .ref (t + 1)]) → h'.2 (t + 1) = some (az_J 40 (fun _ => lN 0)) → Q none h') : az_M mX10_init d 1 40 [.ref t] ((t + 1, f9) : az_Hp) Q := by
  refine az_M.of rfl (Nat.le_of_ble_eq_true rfl) ?_
  show az_W _ _ _ _ 0 [(0, .ref t)] [] _ _
  refine az_aload_n dX10_init_0 ?_
  refine az_oinit dX10_init_1 ol_X10_3 ?_
  refine az_aload_n dX10_init_4 ?_
  refine az_iconst (v := (-1)) dX10_init_5 ?_
  refine az_putf (fs' := [.int ((-1)), .int 0, .null]) dX10_init_6 fl_X10_9 h0 ?_
  refine az_aload_n dX10_init_9 ?_
  refine az_bipush (v := nI 40) dX10_init_10 ?_
  refine az_newJ (n := 40) dX10_init_12 ?_
  show az_W _ _ _ _ 14 [(0, .ref t)] [.ref (t + 1), .ref t] _ _
  refine az_putF (fs' := [.int ((-1)), .int 0, .ref (t + 1)]) dX10_init_14 fl_X10_15 (az_nw_neN (N := t + 1) az_up_eq) ?_
  exact az_vret dX10_init_17 (hQ (az_up (az_nw (az_up ((t + 1, f9) : az_Hp) t (az_O 9 [.int ((-1)), .int 0, .null])) (az_J 40 (fun _ => lN 0))) t (az_O 9 [.int ((-1)), .int 0, .ref (t + 1)])) rfl (fun z hz => (by rw [az_up_ne rfl, az_nw_neN (N := t + 1) rfl, az_up_ne rfl])) az_up_eq (az_up_ne az_nw_eqN))
set_option maxRecDepth 100000 in
theorem s_initReader {d t : Nat} {f9 : Nat → Option az_C} {Q : Option Value → az_Hp → Prop} (hd : 1 ≤ d) (h0 : ((t + 1, f9) : az_Hp).2 t = some (az_O 4 [.int 0, .int 0, .null, .int 0, .int 0, .int 0, .int 0, .int 0, .null, .null, .int 0])) (hQ : ∀ h' : az_Hp, h'.1 = t + 4 → (∀ z, z < t → h'.2 z = f9 z) → h'.2 t = some (az_O 4 [.int (nI 0), .int (-1), .ref (t + 1), .int 0, .int 0, .int 0, .int 0, .int 0, .ref (t + 2), .ref (t + 3), .int 0]) → h'.2 (t + 1) = some (az_Y 0 (fun _ => nI 0)) → h'.2 (t + 2) = some (az_I 1 (fun _ => nI 0)) → h'.2 (t + 3) = some (az_I 900 (fun _ => nI 0)) → Q none h') : az_M mX5_init d 3 901 [.ref t] ((t + 1, f9) : az_Hp) Q := by
  refine az_M.of rfl (Nat.le_of_ble_eq_true rfl) ?_
  show az_W _ _ _ _ 0 [(0, .ref t)] [] _ _
  refine az_aload_n dX5_init_0 ?_
  refine az_oinit dX5_init_1 ol_X5_3 ?_
  refine az_aload_n dX5_init_4 ?_
  refine az_iconst (v := nI 0) dX5_init_5 ?_
  refine az_putf (fs' := [.int (nI 0), .int 0, .null, .int 0, .int 0, .int 0, .int 0, .int 0, .null, .null, .int 0]) dX5_init_6 fl_X5_9 h0 ?_
  refine az_aload_n dX5_init_9 ?_
  refine az_iconst (v := (-1)) dX5_init_10 ?_
  refine az_putf (fs' := [.int (nI 0), .int ((-1)), .null, .int 0, .int 0, .int 0, .int 0, .int 0, .null, .null, .int 0]) dX5_init_11 fl_X5_15 az_up_eq ?_
  rw [az_up_up]
  refine az_aload_n dX5_init_14 ?_
  refine az_iconst (v := nI 0) dX5_init_15 ?_
  refine az_newY (n := 0) dX5_init_16 ?_
  show az_W _ _ _ _ 18 [(0, .ref t)] [.ref (t + 1), .ref t] _ _
  refine az_putf (fs' := [.int (nI 0), .int ((-1)), .ref (t + 1), .int 0, .int 0, .int 0, .int 0, .int 0, .null, .null, .int 0]) dX5_init_18 fl_X5_18 (az_nw_neN (N := t + 1) az_up_eq) ?_
  refine az_aload_n dX5_init_21 ?_
  refine az_iconst (v := nI 1) dX5_init_22 ?_
  refine az_newI (n := 1) dX5_init_23 ?_
  show az_W _ _ _ _ 25 [(0, .ref t)] [.ref (t + 2), .ref t] _ _
  refine az_putF (fs' := [.int (nI 0), .int ((-1)), .ref (t + 1), .int 0, .int 0, .int 0, .int 0, .int 0, .ref (t + 2), .null, .int 0]) dX5_init_25 fl_X5_22 (az_nw_neN (N := t + 2) az_up_eq) ?_
  refine az_aload_n dX5_init_28 ?_
  refine az_sipush (v := nI 900) dX5_init_29 ?_
  refine az_newI (n := 900) dX5_init_32 ?_
  show az_W _ _ _ _ 34 [(0, .ref t)] [.ref (t + 3), .ref t] _ _
  refine az_putF (fs' := [.int (nI 0), .int ((-1)), .ref (t + 1), .int 0, .int 0, .int 0, .int 0, .int 0, .ref (t + 2), .ref (t + 3), .int 0]) dX5_init_34 fl_X5_26 (az_nw_neN (N := t + 3) az_up_eq) ?_
  exact az_vret dX5_init_37 (hQ (az_up (az_nw (az_up (az_nw (az_up (az_nw (az_up ((t + 1, f9) : az_Hp) t (az_O 4 [.int (nI 0), .int ((-1)), .null, .int 0, .int 0, .int 0, .int 0, .int 0, .null, .null, .int 0])) (az_Y 0 (fun _ => nI 0))) t (az_O 4 [.int (nI 0), .int ((-1)), .ref (t + 1), .int 0, .int 0, .int 0, .int 0, .int 0, .null, .null, .int 0])) (az_I 1 (fun _ => nI 0))) t (az_O 4 [.int (nI 0), .int ((-1)), .ref (t + 1), .int 0, .int 0, .int 0, .int 0, .int 0, .ref (t + 2), .null, .int 0])) (az_I 900 (fun _ => nI 0))) t (az_O 4 [.int (nI 0), .int ((-1)), .ref (t + 1), .int 0, .int 0, .int 0, .int 0, .int 0, .ref (t + 2), .ref (t + 3), .int 0])) rfl (fun z hz => (by rw [az_up_ne rfl, az_nw_neN (N := t + 3) rfl, az_up_ne rfl, az_nw_neN (N := t + 2) rfl, az_up_ne rfl, az_nw_neN (N := t + 1) rfl, az_up_ne rfl])) az_up_eq (az_up_ne (az_nw_neN (N := t + 3) (az_up_ne (az_nw_neN (N := t + 2) (az_up_ne az_nw_eqN))))) (az_up_ne (az_nw_neN (N := t + 3) (az_up_ne az_nw_eqN))) (az_up_ne az_nw_eqN))
