/-! Past: what can be undone -/
abbrev ln_U : Type := List (Nat × Nat × Nat)
/-- kept calls k, rows telling the list V of (awake, nights, moon) -/
def ln_PastX (h : az_Hp) (p k : Nat) (V : ln_U) : Prop := ∃ fa fn fm : Nat → Int32,
  h.2 p = some (az_O 3 [.int (nI k), .ref (p + 1), .ref (p + 2), .ref (p + 3)]) ∧ h.2 (p + 1) = some (az_I 11 fa) ∧ h.2 (p + 2) = some (az_I 11 fn) ∧ h.2 (p + 3) = some (az_I 11 fm) ∧ tells fa (V.map (fun u => u.1)) ∧ tells fn (V.map (fun u => u.2.1)) ∧ tells fm (V.map (fun u => u.2.2))
def ln_Past (h : az_Hp) (p : Nat) (U : ln_U) : Prop := ln_PastX h p U.length U
theorem ln_PastX.cut {h : az_Hp} {p k : Nat} {V : ln_U} (H : ln_PastX h p k V) (n : Nat) : ln_PastX h p k (V.take n) := by
  obtain ⟨fa, fn, fm, h0, h1, h2, h3, t1, t2, t3⟩ := H
  refine ⟨fa, fn, fm, h0, h1, h2, h3, ?_, ?_, ?_⟩
  · rw [List.map_take]; exact tells_take n t1
  · rw [List.map_take]; exact tells_take n t2
  · rw [List.map_take]; exact tells_take n t3
theorem ln_PastX.fr {h h' : az_Hp} {p k : Nat} {V : ln_U} {lo hi : Nat} (H : ln_PastX h p k V) (hf : az_fr h h' lo hi) (ho : p + 4 ≤ lo ∨ hi ≤ p) : ln_PastX h' p k V := by
  obtain ⟨fa, fn, fm, h0, h1, h2, h3, t⟩ := H
  exact ⟨fa, fn, fm, hf.at h0, hf.at h1, hf.at h2, hf.at h3, t⟩
/-- what is kept behind one call more -/
def ln_push (U : ln_U) (m : Nat × Nat × Nat) : ln_U := if U.length < 10 then U ++ [m] else (U ++ [m]).tail
theorem ln_push_len {U : ln_U} {m : Nat × Nat × Nat} (h : U.length ≤ 10) : (ln_push U m).length ≤ 10 := by
  unfold ln_push
  split
  · simp; omega
  · simp; omega
set_option maxRecDepth 100000 in
theorem s_forget {d p k : Nat} {V : ln_U} {hp : az_Hp} {Q : Option Value → az_Hp → Prop} (hP : ln_PastX hp p k V) (hQ : ∀ h', ln_Past h' p [] → az_fr hp h' p (p + 4) → Q none h') : az_M mX4_forget d 0 0 [.ref p] hp Q := by
  obtain ⟨fa, fn, fm, h0, h1, h2, h3, -⟩ := hP
  refine az_M.of rfl (Nat.le_of_ble_eq_true rfl) ?_
  show az_W _ _ _ _ 0 [(0, .ref p)] [] _ _
  refine az_aload_n dX4_forget_0 ?_
  refine az_iconst (v := nI 0) dX4_forget_1 ?_
  refine az_putf (fs' := [.int (nI 0), .ref (p + 1), .ref (p + 2), .ref (p + 3)]) dX4_forget_2 fl_X4_7 h0 ?_
  exact az_vret dX4_forget_5 (hQ _ ⟨fa, fn, fm, az_up_eq, az_up_ne h1, az_up_ne h2, az_up_ne h3, fun i hi => absurd hi (Nat.not_lt_zero i), fun i hi => absurd hi (Nat.not_lt_zero i), fun i hi => absurd hi (Nat.not_lt_zero i)⟩ az_fr.rf.up)
theorem map_snoc {α : Type} (f : α → Nat) (U : List α) (m : α) : (U ++ [m]).map f = U.map f ++ [f m] := by simp
theorem tells_mark {α : Type} {f : Nat → Int32} {U : List α} {g : α → Nat} {m : α} (h : tells f (U.map g)) : tells (az_s f U.length (nI (g m))) ((U ++ [m]).map g) := by
  rw [map_snoc]
  have := tells_snoc (x := g m) h
  rw [List.length_map] at this
  exact this
set_option maxRecDepth 100000 in
theorem s_mark {d p a t : Nat} {U : ln_U} {w : ln_W} {z : ln_Z} {hp : az_Hp} {Q : Option Value → az_Hp → Prop} (hU : U.length ≤ 10) (hpa : p + 4 ≤ a ∨ a + 8 ≤ p) (hP : ln_Past hp p U) (hS : ln_SZ hp a t w z) (hQ : ∀ h', ln_PastX h' p U.length (U ++ [(z.2.2.length, z.2.1, z.1)]) → az_fr hp h' p (p + 4) → Q none h') : az_M mX4_mark d 0 0 [.ref p, .ref a] hp Q := by
  obtain ⟨fa, fn, fm, h0, h1, h2, h3, t1, t2, t3⟩ := hP
  obtain ⟨hi, fr, la, no, wa, nc, g0, -⟩ := id hS
  refine az_M.of rfl (Nat.le_of_ble_eq_true rfl) ?_
  show az_W _ _ _ _ 0 [(0, .ref p), (1, .ref a)] [] _ _
  refine az_aload_n dX4_mark_0 ?_
  refine az_getf (v := .ref (p + 1)) dX4_mark_1 fl_X4_13 h0 ?_
  refine az_aload_n dX4_mark_4 ?_
  refine az_getf (v := .int (nI U.length)) dX4_mark_5 fl_X4_7 h0 ?_
  refine az_aload_n dX4_mark_8 ?_
  refine az_getf (v := .int (nI z.2.2.length)) dX4_mark_9 fl_X4_23 g0 ?_
  refine az_iastN (j := U.length) dX4_mark_12 h1 ?_
  refine az_aload_n dX4_mark_13 ?_
  refine az_getf (v := .ref (p + 2)) dX4_mark_14 fl_X4_17 (az_up_ne h0) ?_
  refine az_aload_n dX4_mark_17 ?_
  refine az_getf (v := .int (nI U.length)) dX4_mark_18 fl_X4_7 (az_up_ne h0) ?_
  refine az_aload_n dX4_mark_21 ?_
  refine az_getf (v := .int (nI z.2.1)) dX4_mark_22 fl_X4_28 (az_up_ne g0) ?_
  refine az_iastN (j := U.length) dX4_mark_25 (az_up_ne h2) ?_
  refine az_aload_n dX4_mark_26 ?_
  refine az_getf (v := .ref (p + 3)) dX4_mark_27 fl_X4_20 (az_up_ne (az_up_ne h0)) ?_
  refine az_aload_n dX4_mark_30 ?_
  refine az_getf (v := .int (nI U.length)) dX4_mark_31 fl_X4_7 (az_up_ne (az_up_ne h0)) ?_
  refine az_aload_n dX4_mark_34 ?_
  refine az_getf (v := .int (nI z.1)) dX4_mark_35 fl_X4_31 (az_up_ne (az_up_ne g0)) ?_
  refine az_iastN (j := U.length) dX4_mark_38 (az_up_ne (az_up_ne h3)) ?_
  exact az_vret dX4_mark_39 (hQ _ ⟨_, _, _, (az_up_ne (az_up_ne (az_up_ne h0))), (az_up_ne (az_up_ne az_up_eq)), (az_up_ne az_up_eq), az_up_eq, tells_mark (g := fun (u : Nat × Nat × Nat) => u.1) t1, tells_mark (g := fun (u : Nat × Nat × Nat) => u.2.1) t2, tells_mark (g := fun (u : Nat × Nat × Nat) => u.2.2) t3⟩ az_fr.rf.up.up.up)
theorem tells_shift {f : Nat → Int32} {V : List Nat} (h : tells f V) (hV : V.length = 11) : tells (va_cpy f f 1 0 10) V.tail := by
  intro i hi
  rw [List.length_tail] at hi
  show (if 0 ≤ i ∧ i < 0 + 10 then f (1 + (i - 0)) else _) = _
  rw [if_pos ⟨Nat.zero_le _, by omega⟩, show 1 + (i - 0) = i + 1 by omega, h (i + 1) (by omega)]
  congr 1
  cases V with
  | nil => simp at hV
  | cons x r => simp
theorem map_tail' {α : Type} (g : α → Nat) (V : List α) : V.tail.map g = (V.map g).tail := by cases V <;> rfl
set_option maxRecDepth 100000 in
theorem s_keepMark {d p : Nat} {U : ln_U} {m : Nat × Nat × Nat} {hp : az_Hp} {Q : Option Value → az_Hp → Prop} (hd : 1 ≤ d) (hU : U.length ≤ 10) (hP : ln_PastX hp p U.length (U ++ [m])) (hQ : ∀ h', ln_Past h' p (ln_push U m) → az_fr hp h' p (p + 4) → Q none h') : az_M mX4_keepMark d 0 0 [.ref p] hp Q := by
  obtain ⟨fa, fn, fm, h0, h1, h2, h3, t1, t2, t3⟩ := hP
  refine az_M.of rfl (Nat.le_of_ble_eq_true rfl) ?_
  show az_W _ _ _ _ 0 [(0, .ref p)] [] _ _
  refine az_aload_n dX4_keepMark_0 ?_
  refine az_getf (v := .int (nI U.length)) dX4_keepMark_1 fl_X4_7 h0 ?_
  refine az_bipush (v := nI 10) dX4_keepMark_4 ?_
  refine az_icmp_geN (tgt := 20) dX4_keepMark_6 (fun c6 => ?_) (fun c6 => ?_)
  · refine az_aload_n dX4_keepMark_20 ?_
    refine az_getf (v := .ref (p + 1)) dX4_keepMark_21 fl_X4_13 h0 ?_
    refine az_iconst (v := nI 1) dX4_keepMark_24 ?_
    refine az_aload_n dX4_keepMark_25 ?_
    refine az_getf (v := .ref (p + 1)) dX4_keepMark_26 fl_X4_13 h0 ?_
    refine az_iconst (v := nI 0) dX4_keepMark_29 ?_
    refine az_bipush (v := nI 10) dX4_keepMark_30 ?_
    refine az_copyi dX4_keepMark_32 al_X4_34 h1 h1 (az_ix_nI (j := 1) (by decide)) ix0 (az_ix_nI (j := 10) (by decide)) (by decide) (by decide) ?_
    refine az_aload_n dX4_keepMark_35 ?_
    refine az_getf (v := .ref (p + 2)) dX4_keepMark_36 fl_X4_17 (az_up_ne h0) ?_
    refine az_iconst (v := nI 1) dX4_keepMark_39 ?_
    refine az_aload_n dX4_keepMark_40 ?_
    refine az_getf (v := .ref (p + 2)) dX4_keepMark_41 fl_X4_17 (az_up_ne h0) ?_
    refine az_iconst (v := nI 0) dX4_keepMark_44 ?_
    refine az_bipush (v := nI 10) dX4_keepMark_45 ?_
    refine az_copyi dX4_keepMark_47 al_X4_34 (az_up_ne h2) (az_up_ne h2) (az_ix_nI (j := 1) (by decide)) ix0 (az_ix_nI (j := 10) (by decide)) (by decide) (by decide) ?_
    refine az_aload_n dX4_keepMark_50 ?_
    refine az_getf (v := .ref (p + 3)) dX4_keepMark_51 fl_X4_20 (az_up_ne (az_up_ne h0)) ?_
    refine az_iconst (v := nI 1) dX4_keepMark_54 ?_
    refine az_aload_n dX4_keepMark_55 ?_
    refine az_getf (v := .ref (p + 3)) dX4_keepMark_56 fl_X4_20 (az_up_ne (az_up_ne h0)) ?_
    refine az_iconst (v := nI 0) dX4_keepMark_59 ?_
    refine az_bipush (v := nI 10) dX4_keepMark_60 ?_
    refine az_copyi dX4_keepMark_62 al_X4_34 (az_up_ne (az_up_ne h3)) (az_up_ne (az_up_ne h3)) (az_ix_nI (j := 1) (by decide)) ix0 (az_ix_nI (j := 10) (by decide)) (by decide) (by decide) ?_
    have hU10 : U.length = 10 := by omega
    rw [ln_push, if_neg (by omega)] at hQ
    exact az_vret dX4_keepMark_65 (hQ _ ⟨_, _, _, by rw [show (U ++ [m]).tail.length = U.length by simp]; exact (az_up_ne (az_up_ne (az_up_ne h0))), (az_up_ne (az_up_ne az_up_eq)), (az_up_ne az_up_eq), az_up_eq, by rw [map_tail']; exact tells_shift t1 (by simp [hU10]), by rw [map_tail']; exact tells_shift t2 (by simp [hU10]), by rw [map_tail']; exact tells_shift t3 (by simp [hU10])⟩ az_fr.rf.up.up.up)
  · refine az_aload_n dX4_keepMark_9 ?_
    refine az_dup dX4_keepMark_10 ?_
    refine az_getf (v := .int (nI U.length)) dX4_keepMark_11 fl_X4_7 h0 ?_
    refine az_iconst (v := nI 1) dX4_keepMark_14 ?_
    refine az_iaddN dX4_keepMark_15 ?_
    refine az_putf (fs' := [.int (nI (U.length + 1)), .ref (p + 1), .ref (p + 2), .ref (p + 3)]) dX4_keepMark_16 fl_X4_7 h0 ?_
    rw [ln_push, if_pos (by omega)] at hQ
    exact az_vret dX4_keepMark_19 (hQ _ ⟨fa, fn, fm, by rw [List.length_append]; exact az_up_eq, az_up_ne h1, az_up_ne h2, az_up_ne h3, t1, t2, t3⟩ az_fr.rf.up)
theorem getD_map {α : Type} (g : α → Nat) (U : List α) (x : α) {i : Nat} (h : U[i]? = some x) : (U.map g).getD i 0 = g x := by
  rw [List.getD_eq_getElem?_getD, List.getElem?_map, h]; rfl
set_option maxRecDepth 100000 in
theorem s_goBack {d p a t n : Nat} {U : ln_U} {u : Nat × Nat × Nat} {w : ln_W} {z : ln_Z} {hp : az_Hp} {Q : Option Value → az_Hp → Prop} (hd : 4 ≤ d) (hw : ln_ok w) (hb : ln_by w z.2.2) (hU : U.length ≤ 10) (hpa : p + 4 ≤ a ∨ a + 8 ≤ p) (hP : ln_Past hp p U) (hT : ln_To hp t w a (a + 8)) (hS : ln_SZ hp a t w z) (hn : n ≤ U.length) (hu : U[U.length - n]? = some u) (hu1 : u.1 ≤ z.2.2.length) (hQ : ∀ h1 h', ln_SZ h' a t w (u.2.2, u.2.1, z.2.2.take u.1) → ln_Past h' p (U.take (U.length - n)) → az_fr hp h1 a (a + 8) → az_fr h1 h' p (p + 4) → Q none h') : az_M mX4_goBack d 0 0 [.ref p, .ref a, .int (nI n)] hp Q := by
  obtain ⟨fa, fn, fm, h0, h1, h2, h3, t1, t2, t3⟩ := hP
  obtain ⟨hi, fr, la, no, wa, nc, g0, -⟩ := id hS
  have hlt : U.length - n < U.length := (List.getElem?_eq_some_iff.mp hu).1
  refine az_M.of rfl (Nat.le_of_ble_eq_true rfl) ?_
  show az_W _ _ _ _ 0 [(0, .ref p), (1, .ref a), (2, .int (nI n))] [] _ _
  refine az_aload_n dX4_goBack_0 ?_
  refine az_getf (v := .int (nI U.length)) dX4_goBack_1 fl_X4_7 h0 ?_
  refine az_iload_n dX4_goBack_4 ?_
  refine az_isubN dX4_goBack_5 (by omega) ?_
  refine az_istore_n (ls' := [(0, .ref p), (1, .ref a), (2, .int (nI n)), (3, .int (nI (U.length - n)))]) dX4_goBack_6 ?_
  refine az_iload_n dX4_goBack_7 ?_
  refine az_if_geN (tgt := 12) dX4_goBack_8 (fun c8 => ?_) (fun c8 => ?_)
  · refine az_aload_n dX4_goBack_12 ?_
    refine az_aload_n dX4_goBack_13 ?_
    refine az_getf (v := .ref (p + 1)) dX4_goBack_14 fl_X4_13 h0 ?_
    refine az_iload_n dX4_goBack_17 ?_
    refine az_ialdN (j := U.length - n) dX4_goBack_18 h1 ?_
    rw [t1 (U.length - n) (by rw [List.length_map]; exact hlt), getD_map _ U u hu]
    refine az_aload_n dX4_goBack_19 ?_
    refine az_getf (v := .ref (p + 2)) dX4_goBack_20 fl_X4_17 h0 ?_
    refine az_iload_n dX4_goBack_23 ?_
    refine az_ialdN (j := U.length - n) dX4_goBack_24 h2 ?_
    rw [t2 (U.length - n) (by rw [List.length_map]; exact hlt), getD_map _ U u hu]
    refine az_aload_n dX4_goBack_25 ?_
    refine az_getf (v := .ref (p + 3)) dX4_goBack_26 fl_X4_20 h0 ?_
    refine az_iload_n dX4_goBack_29 ?_
    refine az_ialdN (j := U.length - n) dX4_goBack_30 h3 ?_
    rw [t3 (U.length - n) (by rw [List.length_map]; exact hlt), getD_map _ U u hu]
    refine az_cV0 (st := []) dX4_goBack_31 ml_X4_40 g0 (s_rewind (d := d - 1) (by omega) hw hb hT hS hu1 (fun h' hS' hf => ?_))
    refine az_aload_n dX4_goBack_34 ?_
    refine az_iload_n dX4_goBack_35 ?_
    refine az_putf (fs' := [.int (nI (U.length - n)), .ref (p + 1), .ref (p + 2), .ref (p + 3)]) dX4_goBack_36 fl_X4_7 (hf.at h0) ?_
    exact az_vret dX4_goBack_39 (hQ h' _ (by obtain ⟨hi', fr', la', no', wa', nc', k0, k1, k2, kt2, k3, kt3, k4, kt4, k5, k6, k7⟩ := hS'; exact ⟨hi', fr', la', no', wa', nc', az_up_ne k0, az_up_ne k1, az_up_ne k2, kt2, az_up_ne k3, kt3, az_up_ne k4, kt4, az_up_ne k5, az_up_ne k6, az_up_ne k7⟩) (by rw [ln_Past, List.length_take, show min (U.length - n) U.length = U.length - n by omega]; exact ln_PastX.cut (V := U) ⟨fa, fn, fm, az_up_eq, az_up_ne (hf.at h1), az_up_ne (hf.at h2), az_up_ne (hf.at h3), t1, t2, t3⟩ _) hf az_fr.rf.up)
  · exact absurd c8 (by omega)
