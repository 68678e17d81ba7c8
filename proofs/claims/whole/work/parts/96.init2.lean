/-! Scene's constructor, Futures' constructor -/
def sc_N (h : az_Hp) (a : Nat) (v1 v2 v3 v4 v5 : Value) (c : Nat → Int64) (hi fr la : Nat → Int32) : Prop := ∃ (no wa : Nat → Int32) (nc : Nat → Int64),
  h.2 a = some (az_O 5 [.null, v1, v2, v3, v4, v5, .ref (a + 1), .ref (a + 2), .ref (a + 3), .ref (a + 4), .ref (a + 5), .ref (a + 6), .ref (a + 7)]) ∧ h.2 (a + 1) = some (az_J 6 c) ∧ h.2 (a + 2) = some (az_I 60 hi) ∧ h.2 (a + 3) = some (az_I 6 fr) ∧ h.2 (a + 4) = some (az_I 6 la) ∧ h.2 (a + 5) = some (az_I 6 no) ∧ h.2 (a + 6) = some (az_J 6 nc) ∧ h.2 (a + 7) = some (az_I 64 wa)
set_option maxRecDepth 100000 in
theorem s_beginN {d a t : Nat} {w : ln_W} {v1 v2 v3 v4 v5 : Value} {c : Nat → Int64} {hi fr la : Nat → Int32} {hp : az_Hp} {Q : Option Value → az_Hp → Prop} (hd : 2 ≤ d) (hw : ln_ok w) (hT : ln_To hp t w a (a + 8)) (hS : sc_N hp a v1 v2 v3 v4 v5 c hi fr la) (hQ : ∀ h', sc_R h' a t (.int (nI (ln_mo w))) (.int (nI 0)) (.int (nI 0)) (ln_word w) hi → az_fr hp h' a (a + 8) → Q none h') : az_M mX6_begin d 0 0 [.ref a, .ref t] hp Q := by
  obtain ⟨no0, wa0, nc0, e0, e1, e2, e3, e4, e5, e6, e7⟩ := hS
  obtain ⟨a4, a5, hT0, -, -, -, -, -, ot, -, -⟩ := id hT
  refine az_M.of rfl (Nat.le_of_ble_eq_true rfl) ?_
  show az_W _ _ _ _ 0 [(0, .ref a), (1, .ref t)] [] _ _
  refine az_aload_n dX6_begin_0 ?_
  refine az_aload_n dX6_begin_1 ?_
  refine az_putf (fs' := [.ref t, v1, v2, v3, v4, v5, .ref (a + 1), .ref (a + 2), .ref (a + 3), .ref (a + 4), .ref (a + 5), .ref (a + 6), .ref (a + 7)]) dX6_begin_2 fl_X6_40 e0 ?_
  refine az_aload_n dX6_begin_5 ?_
  refine az_aload_n dX6_begin_6 ?_
  refine az_getf (v := .int (nI (ln_mo w))) dX6_begin_7 fl_X6_44 (az_up_ne hT0) ?_
  refine az_putf (fs' := [.ref t, .int (nI (ln_mo w)), v2, v3, v4, v5, .ref (a + 1), .ref (a + 2), .ref (a + 3), .ref (a + 4), .ref (a + 5), .ref (a + 6), .ref (a + 7)]) dX6_begin_10 fl_X6_50 az_up_eq ?_
  refine az_aload_n dX6_begin_13 ?_
  refine az_iconst (v := nI 0) dX6_begin_14 ?_
  refine az_putf (fs' := [.ref t, .int (nI (ln_mo w)), .int (nI 0), v3, v4, v5, .ref (a + 1), .ref (a + 2), .ref (a + 3), .ref (a + 4), .ref (a + 5), .ref (a + 6), .ref (a + 7)]) dX6_begin_15 fl_X6_51 az_up_eq ?_
  refine az_aload_n dX6_begin_18 ?_
  refine az_iconst (v := nI 0) dX6_begin_19 ?_
  refine az_putf (fs' := [.ref t, .int (nI (ln_mo w)), .int (nI 0), .int (nI 0), v4, v5, .ref (a + 1), .ref (a + 2), .ref (a + 3), .ref (a + 4), .ref (a + 5), .ref (a + 6), .ref (a + 7)]) dX6_begin_20 fl_X6_54 az_up_eq ?_
  refine az_aload_n dX6_begin_23 ?_
  refine az_cV0 (st := []) dX6_begin_24 ml_X6_57 az_up_eq (s_layStart (d := d - 1) (by omega) hw (hT.fr az_fr.rf.up.up.up.up) ⟨no0, wa0, nc0, az_up_eq, az_up_ne (az_up_ne (az_up_ne (az_up_ne e1))), az_up_ne (az_up_ne (az_up_ne (az_up_ne e2))), az_up_ne (az_up_ne (az_up_ne (az_up_ne e3))), az_up_ne (az_up_ne (az_up_ne (az_up_ne e4))), az_up_ne (az_up_ne (az_up_ne (az_up_ne e5))), az_up_ne (az_up_ne (az_up_ne (az_up_ne e6))), az_up_ne (az_up_ne (az_up_ne (az_up_ne e7)))⟩ (fun h' hr hf => ?_))
  exact az_vret dX6_begin_27 (hQ _ hr (az_fr.rf.up.up.up.up.tr hf))
theorem sc_R.new {h : az_Hp} {a t mo : Nat} {w : ln_W} {hi : Nat → Int32} (H : sc_R h a t (.int (nI mo)) (.int (nI 0)) (.int (nI 0)) (ln_word w) hi) : ln_Scene h a t w mo 0 [] := by
  obtain ⟨fr, la, no, wa, nc, g0, g1, g2, g3, t3, g4, t4, g5, g6, g7⟩ := H
  exact ⟨hi, fr, la, no, wa, nc, g0, g1, g2, (fun i hi => absurd hi (Nat.not_lt_zero _)), g3, t3, g4, t4, g5, g6, g7⟩
theorem ln_To.eqz {h h' : az_Hp} {t : Nat} {w : ln_W} {lo hi : Nat} (H : ln_To h t w lo hi) (hf : ∀ z, (z < lo ∨ hi ≤ z) → h'.2 z = h.2 z) : ln_To h' t w lo hi := by
  obtain ⟨a4, a5, h0, h1, h2, h3, h4, h5, o, o4, o5⟩ := H
  exact ⟨a4, a5, (hf _ (by omega)).trans h0, (hf _ (by omega)).trans h1, (hf _ (by omega)).trans h2, (hf _ (by omega)).trans h3, (hf _ o4).trans h4, (hf _ o5).trans h5, o, o4, o5⟩
set_option maxHeartbeats 4000000 in
set_option maxRecDepth 100000 in
theorem s_initScene {d a t : Nat} {w : ln_W} {f9 : Nat → Option az_C} {Q : Option Value → az_Hp → Prop} (hd : 3 ≤ d) (hw : ln_ok w) (hT : ln_To ((a + 1, f9) : az_Hp) t w a (a + 8)) (h0 : ((a + 1, f9) : az_Hp).2 a = some (az_O 5 [.null, .int 0, .int 0, .int 0, .long 0, .int 0, .null, .null, .null, .null, .null, .null, .null])) (hQ : ∀ h' : az_Hp, h'.1 = a + 8 → (∀ z, z < a → h'.2 z = f9 z) → ln_Scene h' a t w (ln_mo w) 0 [] → Q none h') : az_M mX6_init d 7 154 [.ref a, .ref t] ((a + 1, f9) : az_Hp) Q := by
  refine az_M.of rfl (Nat.le_of_ble_eq_true rfl) ?_
  show az_W _ _ _ _ 0 [(0, .ref a), (1, .ref t)] [] _ _
  refine az_aload_n dX6_init_0 ?_
  refine az_oinit dX6_init_1 ol_X6_3 ?_
  refine az_aload_n dX6_init_4 ?_
  refine az_bipush (v := nI 6) dX6_init_5 ?_
  refine az_newJ (n := 6) dX6_init_7 ?_
  show az_W _ _ _ _ 9 [(0, .ref a), (1, .ref t)] [.ref (a + 1), .ref a] _ _
  refine az_putF (fs' := [.null, .int 0, .int 0, .int 0, .long 0, .int 0, .ref (a + 1), .null, .null, .null, .null, .null, .null]) dX6_init_9 fl_X6_9 (az_nw_neN (N := a + 1) h0) ?_
  refine az_aload_n dX6_init_12 ?_
  refine az_bipush (v := nI 60) dX6_init_13 ?_
  refine az_newI (n := 60) dX6_init_15 ?_
  show az_W _ _ _ _ 17 [(0, .ref a), (1, .ref t)] [.ref (a + 2), .ref a] _ _
  refine az_putF (fs' := [.null, .int 0, .int 0, .int 0, .long 0, .int 0, .ref (a + 1), .ref (a + 2), .null, .null, .null, .null, .null]) dX6_init_17 fl_X6_15 (az_nw_neN (N := a + 2) az_up_eq) ?_
  refine az_aload_n dX6_init_20 ?_
  refine az_bipush (v := nI 6) dX6_init_21 ?_
  refine az_newI (n := 6) dX6_init_23 ?_
  show az_W _ _ _ _ 25 [(0, .ref a), (1, .ref t)] [.ref (a + 3), .ref a] _ _
  refine az_putF (fs' := [.null, .int 0, .int 0, .int 0, .long 0, .int 0, .ref (a + 1), .ref (a + 2), .ref (a + 3), .null, .null, .null, .null]) dX6_init_25 fl_X6_19 (az_nw_neN (N := a + 3) az_up_eq) ?_
  refine az_aload_n dX6_init_28 ?_
  refine az_bipush (v := nI 6) dX6_init_29 ?_
  refine az_newI (n := 6) dX6_init_31 ?_
  show az_W _ _ _ _ 33 [(0, .ref a), (1, .ref t)] [.ref (a + 4), .ref a] _ _
  refine az_putF (fs' := [.null, .int 0, .int 0, .int 0, .long 0, .int 0, .ref (a + 1), .ref (a + 2), .ref (a + 3), .ref (a + 4), .null, .null, .null]) dX6_init_33 fl_X6_22 (az_nw_neN (N := a + 4) az_up_eq) ?_
  refine az_aload_n dX6_init_36 ?_
  refine az_bipush (v := nI 6) dX6_init_37 ?_
  refine az_newI (n := 6) dX6_init_39 ?_
  show az_W _ _ _ _ 41 [(0, .ref a), (1, .ref t)] [.ref (a + 5), .ref a] _ _
  refine az_putF (fs' := [.null, .int 0, .int 0, .int 0, .long 0, .int 0, .ref (a + 1), .ref (a + 2), .ref (a + 3), .ref (a + 4), .ref (a + 5), .null, .null]) dX6_init_41 fl_X6_25 (az_nw_neN (N := a + 5) az_up_eq) ?_
  refine az_aload_n dX6_init_44 ?_
  refine az_bipush (v := nI 6) dX6_init_45 ?_
  refine az_newJ (n := 6) dX6_init_47 ?_
  show az_W _ _ _ _ 49 [(0, .ref a), (1, .ref t)] [.ref (a + 6), .ref a] _ _
  refine az_putF (fs' := [.null, .int 0, .int 0, .int 0, .long 0, .int 0, .ref (a + 1), .ref (a + 2), .ref (a + 3), .ref (a + 4), .ref (a + 5), .ref (a + 6), .null]) dX6_init_49 fl_X6_28 (az_nw_neN (N := a + 6) az_up_eq) ?_
  refine az_aload_n dX6_init_52 ?_
  refine az_bipush (v := nI 64) dX6_init_53 ?_
  refine az_newI (n := 64) dX6_init_55 ?_
  show az_W _ _ _ _ 57 [(0, .ref a), (1, .ref t)] [.ref (a + 7), .ref a] _ _
  refine az_putF (fs' := [.null, .int 0, .int 0, .int 0, .long 0, .int 0, .ref (a + 1), .ref (a + 2), .ref (a + 3), .ref (a + 4), .ref (a + 5), .ref (a + 6), .ref (a + 7)]) dX6_init_57 fl_X6_33 (az_nw_neN (N := a + 7) az_up_eq) ?_
  refine az_aload_n dX6_init_60 ?_
  refine az_aload_n dX6_init_61 ?_
  have hk1 : ∀ z, (z < a ∨ a + 8 ≤ z) → (az_up (az_nw (az_up (az_nw (az_up (az_nw (az_up (az_nw (az_up (az_nw (az_up (az_nw (az_up (az_nw ((a + 1, f9) : az_Hp) (az_J 6 (fun _ => lN 0))) a (az_O 5 [.null, .int 0, .int 0, .int 0, .long 0, .int 0, .ref (a + 1), .null, .null, .null, .null, .null, .null])) (az_I 60 (fun _ => nI 0))) a (az_O 5 [.null, .int 0, .int 0, .int 0, .long 0, .int 0, .ref (a + 1), .ref (a + 2), .null, .null, .null, .null, .null])) (az_I 6 (fun _ => nI 0))) a (az_O 5 [.null, .int 0, .int 0, .int 0, .long 0, .int 0, .ref (a + 1), .ref (a + 2), .ref (a + 3), .null, .null, .null, .null])) (az_I 6 (fun _ => nI 0))) a (az_O 5 [.null, .int 0, .int 0, .int 0, .long 0, .int 0, .ref (a + 1), .ref (a + 2), .ref (a + 3), .ref (a + 4), .null, .null, .null])) (az_I 6 (fun _ => nI 0))) a (az_O 5 [.null, .int 0, .int 0, .int 0, .long 0, .int 0, .ref (a + 1), .ref (a + 2), .ref (a + 3), .ref (a + 4), .ref (a + 5), .null, .null])) (az_J 6 (fun _ => lN 0))) a (az_O 5 [.null, .int 0, .int 0, .int 0, .long 0, .int 0, .ref (a + 1), .ref (a + 2), .ref (a + 3), .ref (a + 4), .ref (a + 5), .ref (a + 6), .null])) (az_I 64 (fun _ => nI 0))) a (az_O 5 [.null, .int 0, .int 0, .int 0, .long 0, .int 0, .ref (a + 1), .ref (a + 2), .ref (a + 3), .ref (a + 4), .ref (a + 5), .ref (a + 6), .ref (a + 7)])).2 z = f9 z := (fun z hz => (by rw [az_up_ne rfl, az_nw_neN (N := a + 7) rfl, az_up_ne rfl, az_nw_neN (N := a + 6) rfl, az_up_ne rfl, az_nw_neN (N := a + 5) rfl, az_up_ne rfl, az_nw_neN (N := a + 4) rfl, az_up_ne rfl, az_nw_neN (N := a + 3) rfl, az_up_ne rfl, az_nw_neN (N := a + 2) rfl, az_up_ne rfl, az_nw_neN (N := a + 1) rfl]))
  refine az_cV0 (st := []) dX6_init_62 ml_X6_36 az_up_eq (s_beginN (d := d - 1) (by omega) hw (ln_To.eqz hT hk1) ⟨_, _, _, az_up_eq, (az_up_ne (az_nw_neN (N := a + 7) (az_up_ne (az_nw_neN (N := a + 6) (az_up_ne (az_nw_neN (N := a + 5) (az_up_ne (az_nw_neN (N := a + 4) (az_up_ne (az_nw_neN (N := a + 3) (az_up_ne (az_nw_neN (N := a + 2) (az_up_ne az_nw_eqN))))))))))))), (az_up_ne (az_nw_neN (N := a + 7) (az_up_ne (az_nw_neN (N := a + 6) (az_up_ne (az_nw_neN (N := a + 5) (az_up_ne (az_nw_neN (N := a + 4) (az_up_ne (az_nw_neN (N := a + 3) (az_up_ne az_nw_eqN))))))))))), (az_up_ne (az_nw_neN (N := a + 7) (az_up_ne (az_nw_neN (N := a + 6) (az_up_ne (az_nw_neN (N := a + 5) (az_up_ne (az_nw_neN (N := a + 4) (az_up_ne az_nw_eqN))))))))), (az_up_ne (az_nw_neN (N := a + 7) (az_up_ne (az_nw_neN (N := a + 6) (az_up_ne (az_nw_neN (N := a + 5) (az_up_ne az_nw_eqN))))))), (az_up_ne (az_nw_neN (N := a + 7) (az_up_ne (az_nw_neN (N := a + 6) (az_up_ne az_nw_eqN))))), (az_up_ne (az_nw_neN (N := a + 7) (az_up_ne az_nw_eqN))), (az_up_ne az_nw_eqN)⟩ (fun h' hr hf => ?_))
  exact az_vret dX6_init_65 (hQ h' (hf.1.trans rfl) (fun z hz => (hf.2 z (by omega)).trans (hk1 z (by omega))) hr.new)
set_option maxHeartbeats 4000000 in
set_option maxRecDepth 100000 in
theorem s_initFutures {d u t : Nat} {f9 : Nat → Option az_C} {Q : Option Value → az_Hp → Prop} (hd : 3 ≤ d) (h0 : ((u + 1, f9) : az_Hp).2 u = some (az_O 1 [.null, .null, .null, .null, .null, .int 0, .null, .null])) (hQ : ∀ h' : az_Hp, h'.1 = u + 10 → (∀ z, z < u → h'.2 z = f9 z) → fu_U h' u (u + 5) (u + 6) 64 → Q none h') : az_M mX1_init d 9 333 [.ref u, .ref t] ((u + 1, f9) : az_Hp) Q := by
  refine az_M.of rfl (Nat.le_of_ble_eq_true rfl) ?_
  show az_W _ _ _ _ 0 [(0, .ref u), (1, .ref t)] [] _ _
  refine az_aload_n dX1_init_0 ?_
  refine az_oinit dX1_init_1 ol_X1_3 ?_
  refine az_aload_n dX1_init_4 ?_
  refine az_bipush (v := nI 54) dX1_init_5 ?_
  refine az_newJ (n := 54) dX1_init_7 ?_
  show az_W _ _ _ _ 9 [(0, .ref u), (1, .ref t)] [.ref (u + 1), .ref u] _ _
  refine az_putF (fs' := [.null, .ref (u + 1), .null, .null, .null, .int 0, .null, .null]) dX1_init_9 fl_X1_11 (az_nw_neN (N := u + 1) h0) ?_
  refine az_aload_n dX1_init_12 ?_
  refine az_bipush (v := nI 8) dX1_init_13 ?_
  refine az_newI (n := 8) dX1_init_15 ?_
  show az_W _ _ _ _ 17 [(0, .ref u), (1, .ref t)] [.ref (u + 2), .ref u] _ _
  refine az_putF (fs' := [.null, .ref (u + 1), .ref (u + 2), .null, .null, .int 0, .null, .null]) dX1_init_17 fl_X1_15 (az_nw_neN (N := u + 2) az_up_eq) ?_
  refine az_aload_n dX1_init_20 ?_
  refine az_bipush (v := nI 8) dX1_init_21 ?_
  refine az_newI (n := 8) dX1_init_23 ?_
  show az_W _ _ _ _ 25 [(0, .ref u), (1, .ref t)] [.ref (u + 3), .ref u] _ _
  refine az_putF (fs' := [.null, .ref (u + 1), .ref (u + 2), .ref (u + 3), .null, .int 0, .null, .null]) dX1_init_25 fl_X1_19 (az_nw_neN (N := u + 3) az_up_eq) ?_
  refine az_aload_n dX1_init_28 ?_
  refine az_newK (k := 4) dX1_init_29 nw_X1_22 ?_
  show az_W _ _ _ _ 32 [(0, .ref u), (1, .ref t)] [.ref (u + 4), .ref u] _ _
  refine az_dup dX1_init_32 ?_
  have hk1 : ∀ z, z < u → (az_nw (az_up (az_nw (az_up (az_nw (az_up (az_nw ((u + 1, f9) : az_Hp) (az_J 54 (fun _ => lN 0))) u (az_O 1 [.null, .ref (u + 1), .null, .null, .null, .int 0, .null, .null])) (az_I 8 (fun _ => nI 0))) u (az_O 1 [.null, .ref (u + 1), .ref (u + 2), .null, .null, .int 0, .null, .null])) (az_I 8 (fun _ => nI 0))) u (az_O 1 [.null, .ref (u + 1), .ref (u + 2), .ref (u + 3), .null, .int 0, .null, .null])) (az_O 7 [.null, .null, .int 0, .null])).2 z = f9 z := (fun z hz => (by rw [az_nw_neN (N := u + 4) rfl, az_up_ne rfl, az_nw_neN (N := u + 3) rfl, az_up_ne rfl, az_nw_neN (N := u + 2) rfl, az_up_ne rfl, az_nw_neN (N := u + 1) rfl]))
  refine az_cN (st := [.ref (u + 4), .ref u]) dX1_init_33 ml_X1_24 rfl (s_initTally (d := d - 1) (t := u + 4) (by omega) az_nw_eqN ?_)
  intro h2 v1 v2 v3 v4 v5 v6
  obtain ⟨n2, f2⟩ := h2
  obtain rfl : n2 = u + 8 := v1
  have hk2 : ∀ z, z < u → f2 z = f9 z := (fun z hz => (v2 z (by omega)).trans (hk1 z hz))
  refine az_putF (fs' := [.null, .ref (u + 1), .ref (u + 2), .ref (u + 3), .ref (u + 4), .int 0, .null, .null]) dX1_init_36 fl_X1_25 ((v2 u (by omega)).trans (az_nw_neN (N := u + 4) az_up_eq)) ?_
  refine az_aload_n dX1_init_39 ?_
  refine az_bipush (v := nI 64) dX1_init_40 ?_
  refine az_newI (n := 64) dX1_init_42 ?_
  show az_W _ _ _ _ 44 [(0, .ref u), (1, .ref t)] [.ref (u + 8), .ref u] _ _
  refine az_putf (fs' := [.null, .ref (u + 1), .ref (u + 2), .ref (u + 3), .ref (u + 4), .int 0, .ref (u + 8), .null]) dX1_init_44 fl_X1_29 (az_nw_neN (N := u + 8) az_up_eq) ?_
  refine az_aload_n dX1_init_47 ?_
  refine az_bipush (v := nI 64) dX1_init_48 ?_
  refine az_newI (n := 64) dX1_init_50 ?_
  show az_W _ _ _ _ 52 [(0, .ref u), (1, .ref t)] [.ref (u + 9), .ref u] _ _
  refine az_putf (fs' := [.null, .ref (u + 1), .ref (u + 2), .ref (u + 3), .ref (u + 4), .int 0, .ref (u + 8), .ref (u + 9)]) dX1_init_52 fl_X1_32 (az_nw_neN (N := u + 9) az_up_eq) ?_
  refine az_aload_n dX1_init_55 ?_
  refine az_aload_n dX1_init_56 ?_
  refine az_putf (fs' := [.ref t, .ref (u + 1), .ref (u + 2), .ref (u + 3), .ref (u + 4), .int 0, .ref (u + 8), .ref (u + 9)]) dX1_init_57 fl_X1_35 az_up_eq ?_
  rw [az_up_up]
  exact az_vret dX1_init_60 (hQ (az_up (az_nw (az_up (az_nw (az_up ((u + 8, f2) : az_Hp) u (az_O 1 [.null, .ref (u + 1), .ref (u + 2), .ref (u + 3), .ref (u + 4), .int 0, .null, .null])) (az_I 64 (fun _ => nI 0))) u (az_O 1 [.null, .ref (u + 1), .ref (u + 2), .ref (u + 3), .ref (u + 4), .int 0, .ref (u + 8), .null])) (az_I 64 (fun _ => nI 0))) u (az_O 1 [.ref t, .ref (u + 1), .ref (u + 2), .ref (u + 3), .ref (u + 4), .int 0, .ref (u + 8), .ref (u + 9)])) rfl (fun z hz => (by rw [az_up_ne rfl, az_nw_neN (N := u + 9) rfl, az_up_ne rfl, az_nw_neN (N := u + 8) rfl, az_up_ne rfl]; exact hk2 z hz)) ⟨.ref t, .int 0, u + 8, u + 9, 64, (fun _ => lN 0), (fun _ => nI 0), (fun _ => nI 0), (fun _ => nI 0), (fun _ => nI 0), [], az_up_eq, (az_up_ne (az_nw_neN (N := u + 9) (az_up_ne (az_nw_neN (N := u + 8) (az_up_ne ((v2 (u + 1) (by omega)).trans (az_nw_neN (N := u + 4) (az_up_ne (az_nw_neN (N := u + 3) (az_up_ne (az_nw_neN (N := u + 2) (az_up_ne az_nw_eqN)))))))))))), (az_up_ne (az_nw_neN (N := u + 9) (az_up_ne (az_nw_neN (N := u + 8) (az_up_ne ((v2 (u + 2) (by omega)).trans (az_nw_neN (N := u + 4) (az_up_ne (az_nw_neN (N := u + 3) (az_up_ne az_nw_eqN)))))))))), (az_up_ne (az_nw_neN (N := u + 9) (az_up_ne (az_nw_neN (N := u + 8) (az_up_ne ((v2 (u + 3) (by omega)).trans (az_nw_neN (N := u + 4) (az_up_ne az_nw_eqN)))))))), ⟨⟨by omega, by omega, by omega, by omega, by omega⟩, ⟨by omega, by omega, by omega, 6, rfl⟩, (fun _ => lN 0), (fun _ => nI 0), (az_up_ne (az_nw_neN (N := u + 9) (az_up_ne (az_nw_neN (N := u + 8) (az_up_ne v3))))), (az_up_ne (az_nw_neN (N := u + 9) (az_up_ne (az_nw_neN (N := u + 8) (az_up_ne v4))))), (az_up_ne (az_nw_neN (N := u + 9) (az_up_ne (az_nw_neN (N := u + 8) (az_up_ne v5))))), (az_up_ne (az_nw_neN (N := u + 9) (az_up_ne (az_nw_neN (N := u + 8) (az_up_ne v6))))), ta_C_nil (fun _ _ => rfl)⟩, Or.inl ⟨rfl, rfl⟩, (az_up_ne (az_nw_neN (N := u + 9) (az_up_ne az_nw_eqN))), (az_up_ne az_nw_eqN), ⟨Or.inl rfl, Or.inl rfl⟩⟩)
