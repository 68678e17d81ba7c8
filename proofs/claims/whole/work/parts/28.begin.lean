/-! Scene: begin, copyFrom, rewind -/
set_option maxRecDepth 100000 in
theorem s_begin {d a t t0 : Nat} {w : ln_W} {v1 v2 v3 v4 v5 : Value} {c : Nat → Int64} {hi fr la : Nat → Int32} {hp : az_Hp} {Q : Option Value → az_Hp → Prop} (hd : 2 ≤ d) (hw : ln_ok w) (hT : ln_To hp t w a (a + 8)) (hS : sc_Q hp a t0 v1 v2 v3 v4 v5 c hi fr la) (hQ : ∀ h', sc_R h' a t (.int (nI (ln_mo w))) (.int (nI 0)) (.int (nI 0)) (ln_word w) hi → az_fr hp h' a (a + 8) → Q none h') : az_M mX6_begin d 0 0 [.ref a, .ref t] hp Q := by
  obtain ⟨no0, wa0, nc0, e0, e1, e2, e3, e4, e5, e6, e7⟩ := hS
  obtain ⟨a4, a5, hT0, -, -, -, -, -, ot, -, -⟩ := id hT
  refine az_M.of rfl (Nat.le_of_ble_eq_true rfl) ?_
  show az_W _ _ _ _ 0 [(0, .ref a), (1, .ref t)] [] _ _
  refine az_aload_n dX6_begin_0 ?_
  refine az_aload_n dX6_begin_1 ?_
  refine az_putf (fs' := [.ref t, v1, v2, v3, v4, v5, .ref (a + 1), .ref (a + 2), .ref (a + 3), .ref (a + 4), .ref (a + 5), .ref (a + 6), .ref (a + 7)]) dX6_begin_2 fl_X6_40 e0 ?_
  refine az_aload_n dX6_begin_5 ?_
  refine az_aload_n dX6_begin_6 ?_
  refine az_getf (v := .int (nI (ln_mo w))) dX6_begin_7 fl_X6_44 (az_up_ne hT0) ?_
  refine az_putf (fs' := [.ref t, .int (nI (ln_mo w)), v2, v3, v4, v5, .ref (a + 1), .ref (a + 2), .ref (a + 3), .ref (a + 4), .ref (a + 5), .ref (a + 6), .ref (a + 7)]) dX6_begin_10 fl_X6_50 az_up_eq ?_
  refine az_aload_n dX6_begin_13 ?_
  refine az_iconst (v := nI 0) dX6_begin_14 ?_
  refine az_putf (fs' := [.ref t, .int (nI (ln_mo w)), .int (nI 0), v3, v4, v5, .ref (a + 1), .ref (a + 2), .ref (a + 3), .ref (a + 4), .ref (a + 5), .ref (a + 6), .ref (a + 7)]) dX6_begin_15 fl_X6_51 az_up_eq ?_
  refine az_aload_n dX6_begin_18 ?_
  refine az_iconst (v := nI 0) dX6_begin_19 ?_
  refine az_putf (fs' := [.ref t, .int (nI (ln_mo w)), .int (nI 0), .int (nI 0), v4, v5, .ref (a + 1), .ref (a + 2), .ref (a + 3), .ref (a + 4), .ref (a + 5), .ref (a + 6), .ref (a + 7)]) dX6_begin_20 fl_X6_54 az_up_eq ?_
  refine az_aload_n dX6_begin_23 ?_
  refine az_cV0 (st := []) dX6_begin_24 ml_X6_57 az_up_eq (s_layStart (d := d - 1) (by omega) hw (hT.fr az_fr.rf.up.up.up.up) ⟨no0, wa0, nc0, az_up_eq, az_up_ne (az_up_ne (az_up_ne (az_up_ne e1))), az_up_ne (az_up_ne (az_up_ne (az_up_ne e2))), az_up_ne (az_up_ne (az_up_ne (az_up_ne e3))), az_up_ne (az_up_ne (az_up_ne (az_up_ne e4))), az_up_ne (az_up_ne (az_up_ne (az_up_ne e5))), az_up_ne (az_up_ne (az_up_ne (az_up_ne e6))), az_up_ne (az_up_ne (az_up_ne (az_up_ne e7)))⟩ (fun h' hr hf => ?_))
  exact az_vret dX6_begin_27 (hQ _ hr (az_fr.rf.up.up.up.up.tr hf))
theorem cpy6 {α : Type} {f g : Nat → α} {n j : Nat} (h : j < n) : va_cpy f g 0 0 n j = f j := by
  show (if 0 ≤ j ∧ j < 0 + n then f (0 + (j - 0)) else _) = _
  rw [if_pos ⟨Nat.zero_le _, by omega⟩, show 0 + (j - 0) = j by omega]
theorem ix0 : az_ix (nI 0) 0 := az_ix_nI (by decide)
theorem ix6 : az_ix (nI 6) 6 := az_ix_nI (by decide)
theorem ix60 : az_ix (nI 60) 60 := az_ix_nI (by decide)
set_option maxRecDepth 100000 in
theorem s_copyFrom {d a b t t0 : Nat} {u1 u2 u3 : Int32} {v1 v2 v3 v4 v5 : Value} {l : List Nat} {hi c2 c3 c4 : Nat → Int32} {c : Nat → Int64} {hp : az_Hp} {Q : Option Value → az_Hp → Prop} (hd : 1 ≤ d) (hl : ∀ y ∈ l, y < 6) (hab : a + 8 ≤ b ∨ b + 8 ≤ a) (hB : sc_R hp b t (.int u1) (.int u2) (.int u3) l hi) (hS : sc_Q hp a t0 v1 v2 v3 v4 v5 c c2 c3 c4) (hQ : ∀ h' hi', (∀ j, j < 60 → hi' j = hi j) → sc_R h' a t (.int u1) (.int u2) (.int u3) l hi' → az_fr hp h' a (a + 8) → Q none h') : az_M mX6_copyFrom d 0 0 [.ref a, .ref b] hp Q := by
  obtain ⟨no0, wa0, nc0, e0, e1, e2, e3, e4, e5, e6, e7⟩ := hS
  obtain ⟨fr, la, no, wa, nc, b0, b1, b2, b3, t3, b4, t4, b5, b6, b7⟩ := hB
  have hk6 := dd_len hl
  have hk7 := dd_len (l := l.reverse) (fun y hy => hl y (List.mem_reverse.mp hy))
  refine az_M.of rfl (Nat.le_of_ble_eq_true rfl) ?_
  show az_W _ _ _ _ 0 [(0, .ref a), (1, .ref b)] [] _ _
  refine az_aload_n dX6_copyFrom_0 ?_
  refine az_aload_n dX6_copyFrom_1 ?_
  refine az_getf (v := .ref t) dX6_copyFrom_2 fl_X6_40 b0 ?_
  refine az_putf (fs' := [.ref t, v1, v2, v3, v4, v5, .ref (a + 1), .ref (a + 2), .ref (a + 3), .ref (a + 4), .ref (a + 5), .ref (a + 6), .ref (a + 7)]) dX6_copyFrom_5 fl_X6_40 e0 ?_
  refine az_aload_n dX6_copyFrom_8 ?_
  refine az_aload_n dX6_copyFrom_9 ?_
  refine az_getf (v := .int u1) dX6_copyFrom_10 fl_X6_50 (az_up_ne b0) ?_
  refine az_putf (fs' := [.ref t, .int u1, v2, v3, v4, v5, .ref (a + 1), .ref (a + 2), .ref (a + 3), .ref (a + 4), .ref (a + 5), .ref (a + 6), .ref (a + 7)]) dX6_copyFrom_13 fl_X6_50 az_up_eq ?_
  rw [az_up_up]
  refine az_aload_n dX6_copyFrom_16 ?_
  refine az_aload_n dX6_copyFrom_17 ?_
  refine az_getf (v := .int u2) dX6_copyFrom_18 fl_X6_51 (az_up_ne b0) ?_
  refine az_putf (fs' := [.ref t, .int u1, .int u2, v3, v4, v5, .ref (a + 1), .ref (a + 2), .ref (a + 3), .ref (a + 4), .ref (a + 5), .ref (a + 6), .ref (a + 7)]) dX6_copyFrom_21 fl_X6_51 az_up_eq ?_
  rw [az_up_up]
  refine az_aload_n dX6_copyFrom_24 ?_
  refine az_aload_n dX6_copyFrom_25 ?_
  refine az_getf (v := .int u3) dX6_copyFrom_26 fl_X6_54 (az_up_ne b0) ?_
  refine az_putf (fs' := [.ref t, .int u1, .int u2, .int u3, v4, v5, .ref (a + 1), .ref (a + 2), .ref (a + 3), .ref (a + 4), .ref (a + 5), .ref (a + 6), .ref (a + 7)]) dX6_copyFrom_29 fl_X6_54 az_up_eq ?_
  rw [az_up_up]
  refine az_aload_n dX6_copyFrom_32 ?_
  refine az_aload_n dX6_copyFrom_33 ?_
  refine az_getf (v := .long (lN l.length)) dX6_copyFrom_34 fl_X6_60 (az_up_ne b0) ?_
  refine az_putf (fs' := [.ref t, .int u1, .int u2, .int u3, .long (lN l.length), v5, .ref (a + 1), .ref (a + 2), .ref (a + 3), .ref (a + 4), .ref (a + 5), .ref (a + 6), .ref (a + 7)]) dX6_copyFrom_37 fl_X6_60 az_up_eq ?_
  rw [az_up_up]
  refine az_aload_n dX6_copyFrom_40 ?_
  refine az_aload_n dX6_copyFrom_41 ?_
  refine az_getf (v := .int (nI ((ln_dd l).length))) dX6_copyFrom_42 fl_X6_64 (az_up_ne b0) ?_
  refine az_putf (fs' := [.ref t, .int u1, .int u2, .int u3, .long (lN l.length), .int (nI ((ln_dd l).length)), .ref (a + 1), .ref (a + 2), .ref (a + 3), .ref (a + 4), .ref (a + 5), .ref (a + 6), .ref (a + 7)]) dX6_copyFrom_45 fl_X6_64 az_up_eq ?_
  rw [az_up_up]
  refine az_aload_n dX6_copyFrom_48 ?_
  refine az_getf (v := .ref (b + 1)) dX6_copyFrom_49 fl_X6_9 (az_up_ne b0) ?_
  refine az_iconst (v := nI 0) dX6_copyFrom_52 ?_
  refine az_aload_n dX6_copyFrom_53 ?_
  refine az_getf (v := .ref (a + 1)) dX6_copyFrom_54 fl_X6_9 az_up_eq ?_
  refine az_iconst (v := nI 0) dX6_copyFrom_57 ?_
  refine az_bipush (v := nI 6) dX6_copyFrom_58 ?_
  refine az_copyl dX6_copyFrom_60 al_X6_67 (az_up_ne b1) (az_up_ne e1) ix0 ix0 ix6 (by decide) (by decide) ?_
  refine az_W.reJ (g := fun x => lN (l.count x)) az_up_eq (fun j hj => cpy6 (f := fun x => lN (l.count x)) hj) ?_
  rw [az_up_up]
  refine az_aload_n dX6_copyFrom_63 ?_
  refine az_getf (v := .ref (b + 3)) dX6_copyFrom_64 fl_X6_19 (az_up_ne (az_up_ne b0)) ?_
  refine az_iconst (v := nI 0) dX6_copyFrom_67 ?_
  refine az_aload_n dX6_copyFrom_68 ?_
  refine az_getf (v := .ref (a + 3)) dX6_copyFrom_69 fl_X6_19 (az_up_ne az_up_eq) ?_
  refine az_iconst (v := nI 0) dX6_copyFrom_72 ?_
  refine az_bipush (v := nI 6) dX6_copyFrom_73 ?_
  refine az_copyi dX6_copyFrom_75 al_X6_67 (az_up_ne (az_up_ne b3)) (az_up_ne (az_up_ne e3)) ix0 ix0 ix6 (by decide) (by decide) ?_
  refine az_aload_n dX6_copyFrom_78 ?_
  refine az_getf (v := .ref (b + 4)) dX6_copyFrom_79 fl_X6_22 (az_up_ne (az_up_ne (az_up_ne b0))) ?_
  refine az_iconst (v := nI 0) dX6_copyFrom_82 ?_
  refine az_aload_n dX6_copyFrom_83 ?_
  refine az_getf (v := .ref (a + 4)) dX6_copyFrom_84 fl_X6_22 (az_up_ne (az_up_ne az_up_eq)) ?_
  refine az_iconst (v := nI 0) dX6_copyFrom_87 ?_
  refine az_bipush (v := nI 6) dX6_copyFrom_88 ?_
  refine az_copyi dX6_copyFrom_90 al_X6_67 (az_up_ne (az_up_ne (az_up_ne b4))) (az_up_ne (az_up_ne (az_up_ne e4))) ix0 ix0 ix6 (by decide) (by decide) ?_
  refine az_aload_n dX6_copyFrom_93 ?_
  refine az_getf (v := .ref (b + 2)) dX6_copyFrom_94 fl_X6_15 (az_up_ne (az_up_ne (az_up_ne (az_up_ne b0)))) ?_
  refine az_iconst (v := nI 0) dX6_copyFrom_97 ?_
  refine az_aload_n dX6_copyFrom_98 ?_
  refine az_getf (v := .ref (a + 2)) dX6_copyFrom_99 fl_X6_15 (az_up_ne (az_up_ne (az_up_ne az_up_eq))) ?_
  refine az_iconst (v := nI 0) dX6_copyFrom_102 ?_
  refine az_bipush (v := nI 60) dX6_copyFrom_103 ?_
  refine az_copyi dX6_copyFrom_105 al_X6_67 (az_up_ne (az_up_ne (az_up_ne (az_up_ne b2)))) (az_up_ne (az_up_ne (az_up_ne (az_up_ne e2)))) ix0 ix0 ix60 (by decide) (by decide) ?_
  exact az_vret dX6_copyFrom_108 (hQ _ _ (fun j hj => cpy6 hj) ⟨_, _, no0, wa0, nc0, (az_up_ne (az_up_ne (az_up_ne (az_up_ne az_up_eq)))), (az_up_ne (az_up_ne (az_up_ne az_up_eq))), az_up_eq, (az_up_ne (az_up_ne az_up_eq)), fun j hj => (cpy6 (by omega)).trans (t3 j hj), (az_up_ne az_up_eq), fun j hj => (cpy6 (by omega)).trans (t4 j hj), az_up_ne (az_up_ne (az_up_ne (az_up_ne (az_up_ne e5)))), az_up_ne (az_up_ne (az_up_ne (az_up_ne (az_up_ne e6)))), az_up_ne (az_up_ne (az_up_ne (az_up_ne (az_up_ne e7))))⟩ az_fr.rf.up.up.up.up.up)
