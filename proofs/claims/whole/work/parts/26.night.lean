/-! Scene: a night whole -/
theorem az_gen {h h1 : az_Hp} (e : h = h1) {q : Nat} {x : Option az_C} (H : h.2 q = x) : h1.2 q = x := e ▸ H
theorem fx0 (w : ln_W) (tb : Nat) : ln_fx w tb 0 = ln_sub w tb := by funext x; rw [ln_fx, if_pos rfl]
theorem fx1 (w : ln_W) (tb : Nat) : ln_fx w tb 1 = fun x => (ln_sub w tb x).reverse := by funext x; rw [ln_fx, if_neg (by decide)]
theorem dd_fx0 (w : ln_W) (tb : Nat) (l : List Nat) : ln_dd ((ln_dd l).flatMap (ln_fx w tb 0)) = ln_dd (l.flatMap (ln_sub w tb)) := by
  rw [fx0]; exact (dd_flat _ _ l rfl).symm
theorem dd_fx1 (w : ln_W) (tb : Nat) (l : List Nat) : ln_dd ((ln_dd l.reverse).flatMap (ln_fx w tb 1)) = ln_dd (l.flatMap (ln_sub w tb)).reverse := by
  rw [fx1, List.reverse_flatMap]; exact (dd_flat _ _ l.reverse rfl).symm
/-- a scene's cells, its letters a list; what it holds of moon, nights, awake; the tables' row -/
def sc_R (h : az_Hp) (a t : Nat) (v1 v2 v3 : Value) (l : List Nat) (hi : Nat → Int32) : Prop := ∃ (fr la no wa : Nat → Int32) (nc : Nat → Int64),
  h.2 a = some (az_O 5 [.ref t, v1, v2, v3, .long (lN l.length), .int (nI (ln_dd l).length), .ref (a + 1), .ref (a + 2), .ref (a + 3), .ref (a + 4), .ref (a + 5), .ref (a + 6), .ref (a + 7)]) ∧ h.2 (a + 1) = some (az_J 6 (fun x => lN (l.count x))) ∧ h.2 (a + 2) = some (az_I 60 hi) ∧ h.2 (a + 3) = some (az_I 6 fr) ∧ tells fr (ln_dd l) ∧ h.2 (a + 4) = some (az_I 6 la) ∧ tells la (ln_dd l.reverse) ∧ h.2 (a + 5) = some (az_I 6 no) ∧ h.2 (a + 6) = some (az_J 6 nc) ∧ h.2 (a + 7) = some (az_I 64 wa)
theorem sc_of {h : az_Hp} {a t mo ni : Nat} {w : ln_W} {bs : List Nat} (H : ln_Scene h a t w mo ni bs) : ∃ hi, sc_R h a t (.int (nI mo)) (.int (nI ni)) (.int (nI bs.length)) (ln_str w bs) hi ∧ tells hi bs := by
  obtain ⟨hi, fr, la, no, wa, nc, h0, h1, h2, t2, h3, t3, h4, t4, h5, h6, h7⟩ := H
  exact ⟨hi, ⟨fr, la, no, wa, nc, h0, h1, h2, h3, t3, h4, t4, h5, h6, h7⟩, t2⟩
theorem sc_to {h : az_Hp} {a t mo ni : Nat} {w : ln_W} {bs : List Nat} {hi : Nat → Int32} (H : sc_R h a t (.int (nI mo)) (.int (nI ni)) (.int (nI bs.length)) (ln_str w bs) hi) (ht : tells hi bs) : ln_Scene h a t w mo ni bs := by
  obtain ⟨fr, la, no, wa, nc, h0, h1, h2, h3, t3, h4, t4, h5, h6, h7⟩ := H
  exact ⟨hi, fr, la, no, wa, nc, h0, h1, h2, ht, h3, t3, h4, t4, h5, h6, h7⟩
set_option maxRecDepth 100000 in
theorem s_spanBy2 {d a t tb : Nat} {w : ln_W} {l : List Nat} {v1 v2 v3 v4 v5 : Value} {hp : az_Hp} {Q : Option Value → az_Hp → Prop} (hd : 1 ≤ d) (hw : ln_ok w) (hl : ∀ y ∈ l, y < 6) (hT : ln_Town hp t w) (hS0 : hp.2 a = some (az_O 5 [.ref t, v1, v2, v3, v4, v5, .ref (a + 1), .ref (a + 2), .ref (a + 3), .ref (a + 4), .ref (a + 5), .ref (a + 6), .ref (a + 7)])) (hS1 : hp.2 (a + 1) = some (az_J 6 (fun x => lN (l.count x)))) (h3 : tb < 3) (hQ : Q (some (.long (lN (l.flatMap (ln_sub w tb)).length))) hp) : az_M mX6_spanBy d 0 0 [.ref a, .int (nI tb)] hp Q := by
  obtain ⟨a4, a5, hT0, -⟩ := id hT
  rw [len_flat _ _ hl] at hQ
  simp only [ln_sub_len] at hQ
  have loop : ∀ (k : Nat) (i : Nat), 6 - i = k → (i ≤ 6) → az_W mX6_spanBy d 0 0 5 [(0, .ref a), (1, .int (nI tb)), (2, .long (lN (sm (fun z => l.count z * ln_sz w (tb * 6 + z)) i))), (4, .int (nI i))] [] hp Q := by
    intro k
    induction k using Nat.strongRecOn with
    | _ k ih =>
    intro i hk h6
    refine az_iload dX6_spanBy_5 ?_
    refine az_bipush (v := nI 6) dX6_spanBy_7 ?_
    refine az_icmp_geN (tgt := 40) dX6_spanBy_9 (fun c9 => ?_) (fun c9 => ?_)
    · refine az_lload_n dX6_spanBy_40 ?_
      exact az_lret dX6_spanBy_41 (by rw [show i = 6 by omega]; exact hQ)
    · refine az_lload_n dX6_spanBy_12 ?_
      refine az_aload_n dX6_spanBy_13 ?_
      refine az_getf (v := .ref (a + 1)) dX6_spanBy_14 fl_X6_9 hS0 ?_
      refine az_iload dX6_spanBy_17 ?_
      refine az_laldN (j := i) dX6_spanBy_19 hS1 ?_
      refine az_aload_n dX6_spanBy_20 ?_
      refine az_getf (v := .ref t) dX6_spanBy_21 fl_X6_40 hS0 ?_
      refine az_iload_n dX6_spanBy_24 ?_
      refine az_iload dX6_spanBy_25 ?_
      refine az_cV0 (st := [.long (lN (l.count i)), .long (lN (sm (fun z => l.count z * ln_sz w (tb * 6 + z)) i))]) dX6_spanBy_27 ml_X6_137 hT0 (s_sizeOf (d := d - 1) hT h3 (lt := i) (by omega) ?_)
      have hz := hw.2.2.2.2.2.2.1 (tb * 6 + i)
      refine az_i2lN dX6_spanBy_30 ?_
      refine az_lmulN dX6_spanBy_31 ?_
      refine az_laddN dX6_spanBy_32 ?_
      refine az_lstore_n (ls' := [(0, .ref a), (1, .int (nI tb)), (2, .long (lN (sm (fun z => l.count z * ln_sz w (tb * 6 + z)) (i + 1)))), (4, .int (nI i))]) dX6_spanBy_33 ?_
      refine az_iincN (n := 1) (ls' := [(0, .ref a), (1, .int (nI tb)), (2, .long (lN (sm (fun z => l.count z * ln_sz w (tb * 6 + z)) (i + 1)))), (4, .int (nI (i + 1)))]) dX6_spanBy_34 ?_
      refine az_goto (tgt := 5) dX6_spanBy_37 ?_
      exact ih _ (by omega) (i + 1) rfl (by omega)
  refine az_M.of rfl (Nat.le_of_ble_eq_true rfl) ?_
  show az_W _ _ _ _ 0 [(0, .ref a), (1, .int (nI tb))] [] _ _
  refine az_lconst (v := lN 0) dX6_spanBy_0 ?_
  refine az_lstore_n (ls' := [(0, .ref a), (1, .int (nI tb)), (2, .long (lN 0))]) dX6_spanBy_1 ?_
  refine az_iconst (v := nI 0) dX6_spanBy_2 ?_
  refine az_istore (ls' := [(0, .ref a), (1, .int (nI tb)), (2, .long (lN 0)), (4, .int (nI 0))]) dX6_spanBy_3 ?_
  exact loop _ 0 rfl (Nat.zero_le _)
set_option maxRecDepth 100000 in
theorem s_grow {d a t tb : Nat} {w : ln_W} {l : List Nat} {v1 v2 v3 : Value} {hi : Nat → Int32} {hp : az_Hp} {Q : Option Value → az_Hp → Prop} (hd : 2 ≤ d) (hw : ln_ok w) (hl : ∀ y ∈ l, y < 6) (hT : ln_To hp t w a (a + 8)) (hS : sc_R hp a t v1 v2 v3 l hi) (h3 : tb < 3) (hQ : ∀ h', sc_R h' a t v1 v2 v3 (l.flatMap (ln_sub w tb)) hi → az_fr hp h' a (a + 8) → Q none h') : az_M mX6_grow d 0 0 [.ref a, .int (nI tb)] hp Q := by
  obtain ⟨fr, la, no, wa, nc, hS0, hS1, hS2, hS3, t3, hS4, t4, hS5, hS6, hS7⟩ := hS
  refine az_M.of rfl (Nat.le_of_ble_eq_true rfl) ?_
  show az_W _ _ _ _ 0 [(0, .ref a), (1, .int (nI tb))] [] _ _
  refine az_aload_n dX6_grow_0 ?_
  refine az_aload_n dX6_grow_1 ?_
  refine az_iload_n dX6_grow_2 ?_
  refine az_cV0 (st := [.ref a]) dX6_grow_3 ml_X6_118 hS0 (s_spanBy2 (d := d - 1) (by omega) hw hl hT.town hS0 hS1 h3 ?_)
  refine az_putf (fs' := [.ref t, v1, v2, v3, .long (lN ((l.flatMap (ln_sub w tb)).length)), .int (nI ((ln_dd l).length)), .ref (a + 1), .ref (a + 2), .ref (a + 3), .ref (a + 4), .ref (a + 5), .ref (a + 6), .ref (a + 7)]) dX6_grow_6 fl_X6_60 hS0 ?_
  generalize hg1 : (az_up hp a (az_O 5 [.ref t, v1, v2, v3, .long (lN ((l.flatMap (ln_sub w tb)).length)), .int (nI ((ln_dd l).length)), .ref (a + 1), .ref (a + 2), .ref (a + 3), .ref (a + 4), .ref (a + 5), .ref (a + 6), .ref (a + 7)])) = h1
  have f1 : az_fr hp h1 a (a + 8) := by rw [← hg1]; exact az_fr.rf.up
  have g0 := az_gen hg1 az_up_eq
  have g1 := az_gen hg1 (az_up_ne hS1)
  have g2 := az_gen hg1 (az_up_ne hS2)
  have g3 := az_gen hg1 (az_up_ne hS3)
  have g4 := az_gen hg1 (az_up_ne hS4)
  have g5 := az_gen hg1 (az_up_ne hS5)
  have g6 := az_gen hg1 (az_up_ne hS6)
  have g7 := az_gen hg1 (az_up_ne hS7)
  clear hg1
  refine az_aload_n dX6_grow_9 ?_
  refine az_iload_n dX6_grow_10 ?_
  refine az_cV0 (st := []) dX6_grow_11 ml_X6_140 g0 (s_growCounts (d := d - 1) (by omega) hw hl (hT.fr f1) g0 g1 g6 h3 (fun nc' => ?_))
  refine az_aload_n dX6_grow_14 ?_
  refine az_aload_n dX6_grow_15 ?_
  refine az_getf (v := .ref (a + 3)) dX6_grow_16 fl_X6_19 (az_up_ne (az_up_ne g0)) ?_
  refine az_iload_n dX6_grow_19 ?_
  refine az_iconst (v := nI 0) dX6_grow_20 ?_
  refine az_cV0 (st := []) dX6_grow_21 ml_X6_143 (az_up_ne (az_up_ne g0)) (s_growOrder (fb := 0) (d := d - 1) (by omega) hw (L := ln_dd l) (fun y hy => hl y ((dd_mem _ _).mp hy)) (dd_len hl) (hT.fr (f1.up.up)) (az_up_ne (az_up_ne g0)) (Or.inl rfl) (az_up_ne (az_up_ne g3)) t3 (az_up_ne (az_up_ne g5)) h3 (by decide) (fun no1 fr1 tf1 => ?_))
  refine az_istore_n (ls' := [(0, .ref a), (1, .int (nI tb)), (2, .int (nI ((ln_dd ((ln_dd l).flatMap (ln_fx w tb 0))).length)))]) dX6_grow_24 ?_
  refine az_aload_n dX6_grow_25 ?_
  refine az_aload_n dX6_grow_26 ?_
  refine az_getf (v := .ref (a + 4)) dX6_grow_27 fl_X6_22 (az_up_ne (az_up_ne (az_up_ne (az_up_ne g0)))) ?_
  refine az_iload_n dX6_grow_30 ?_
  refine az_iconst (v := nI 1) dX6_grow_31 ?_
  refine az_cV0 (st := []) dX6_grow_32 ml_X6_143 (az_up_ne (az_up_ne (az_up_ne (az_up_ne g0)))) (s_growOrder (fb := 1) (d := d - 1) (by omega) hw (L := ln_dd l.reverse) (fun y hy => hl y (List.mem_reverse.mp ((dd_mem _ _).mp hy))) (dd_len (fun y hy => hl y (List.mem_reverse.mp hy))) (hT.fr (f1.up.up.up.up)) (by rw [dd_rev_len]; exact az_up_ne (az_up_ne (az_up_ne (az_up_ne g0)))) (Or.inr rfl) (az_up_ne (az_up_ne (az_up_ne (az_up_ne g4)))) t4 (az_up_ne az_up_eq) h3 (by decide) (fun no2 la1 tl1 => ?_))
  refine az_pop dX6_grow_35 ?_
  refine az_aload_n dX6_grow_36 ?_
  refine az_iload_n dX6_grow_37 ?_
  refine az_putf (fs' := [.ref t, v1, v2, v3, .long (lN ((l.flatMap (ln_sub w tb)).length)), .int (nI ((ln_dd ((ln_dd l).flatMap (ln_fx w tb 0))).length)), .ref (a + 1), .ref (a + 2), .ref (a + 3), .ref (a + 4), .ref (a + 5), .ref (a + 6), .ref (a + 7)]) dX6_grow_38 fl_X6_64 (az_up_ne (az_up_ne (az_up_ne (az_up_ne (az_up_ne (az_up_ne g0)))))) ?_
  rw [dd_fx0] at tf1
  rw [dd_fx1] at tl1
  rw [dd_fx0]
  exact az_vret dX6_grow_41 (hQ _ ⟨fr1, la1, no2, wa, nc', az_up_eq, az_up_ne (az_up_ne (az_up_ne (az_up_ne (az_up_ne az_up_eq)))), az_up_ne (az_up_ne (az_up_ne (az_up_ne (az_up_ne (az_up_ne (az_up_ne g2)))))), az_up_ne (az_up_ne (az_up_ne az_up_eq)), tf1, az_up_ne az_up_eq, tl1, az_up_ne (az_up_ne az_up_eq), az_up_ne (az_up_ne (az_up_ne (az_up_ne (az_up_ne (az_up_ne az_up_eq))))), az_up_ne (az_up_ne (az_up_ne (az_up_ne (az_up_ne (az_up_ne (az_up_ne g7))))))⟩ f1.up.up.up.up.up.up.up)
