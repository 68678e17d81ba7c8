/-! Futures: the table to try -/
/-- a town all of whose cells are frozen -/
def ln_Tf (h : az_Hp) (t : Nat) (w : ln_W) (F : Nat → Prop) : Prop := ∃ a4 a5 : Nat,
  h.2 t = some (az_O 8 [.int (nI (ln_tb w)), .int (nI (ln_mo w)), .int (nI (ln_li w)), .int (nI (ln_sd w)), .ref (t + 1), .ref (t + 2), .ref (t + 3), .ref a4, .ref a5]) ∧ h.2 (t + 1) = some (az_I 12 (fun j => nI (ln_st w j))) ∧ h.2 (t + 2) = some (az_I 18 (fun j => nI (ln_sz w j))) ∧ h.2 (t + 3) = some (az_I 72 (fun j => nI (ln_ch w j))) ∧ h.2 a4 = some (az_I (ln_pk w).1 (ln_pk w).2) ∧ h.2 a5 = some (az_I (ln_sl w).1 (ln_sl w).2) ∧ F t ∧ F (t + 1) ∧ F (t + 2) ∧ F (t + 3) ∧ F a4 ∧ F a5
theorem ln_Tf.to {h : az_Hp} {t lo hi : Nat} {w : ln_W} {F : Nat → Prop} (H : ln_Tf h t w F) (hF : ∀ q, F q → q < lo ∨ hi ≤ q) (hl : lo < hi := by omega) : ln_To h t w lo hi := by
  obtain ⟨a4, a5, h0, h1, h2, h3, h4, h5, f0, f1, f2, f3, f4, f5⟩ := H
  have := hF _ f0
  have := hF _ f1
  have := hF _ f2
  have := hF _ f3
  exact ⟨a4, a5, h0, h1, h2, h3, h4, h5, by omega, hF _ f4, hF _ f5⟩
theorem ln_Tf.town {h : az_Hp} {t : Nat} {w : ln_W} {F : Nat → Prop} (H : ln_Tf h t w F) : ln_Town h t w := by
  obtain ⟨a4, a5, h0, h1, h2, h3, h4, h5, -⟩ := H
  exact ⟨a4, a5, h0, h1, h2, h3, h4, h5⟩
theorem ln_Tf.eqv {h h' : az_Hp} {t : Nat} {w : ln_W} {F F' : Nat → Prop} (H : ln_Tf h t w F) (hf : ∀ q, F q → h'.2 q = h.2 q) (hF : ∀ q, F q → F' q) : ln_Tf h' t w F' := by
  obtain ⟨a4, a5, h0, h1, h2, h3, h4, h5, f0, f1, f2, f3, f4, f5⟩ := H
  exact ⟨a4, a5, (hf _ f0).trans h0, (hf _ f1).trans h1, (hf _ f2).trans h2, (hf _ f3).trans h3, (hf _ f4).trans h4, (hf _ f5).trans h5, hF _ f0, hF _ f1, hF _ f2, hF _ f3, hF _ f4, hF _ f5⟩
theorem ln_Tf.fu {h : az_Hp} {t u kk kt : Nat} {w : ln_W} {F : Nat → Prop} (H : ln_Tf h t w F) (hF : ∀ q, F q → (q < u ∨ u + 10 ≤ q) ∧ q ≠ kk ∧ q ≠ kt) : fu_To h t w u kk kt := by
  obtain ⟨a4, a5, h0, h1, h2, h3, h4, h5, f0, f1, f2, f3, f4, f5⟩ := H
  have := hF _ f0
  have := hF _ f1
  have := hF _ f2
  have := hF _ f3
  have := hF _ f4
  have := hF _ f5
  exact ⟨a4, a5, h0, h1, h2, h3, h4, h5, by omega, by omega, by omega, by omega, by omega, by omega⟩
/-- the object that looks ahead -/
def fu_U (h : az_Hp) (u kk kt n : Nat) : Prop := ∃ (t0 tl : Value) (wn wx S : Nat) (f : Nat → Int64) (r s a b : Nat → Int32) (L : List Nat), h.2 u = some (az_O 1 [t0, .ref (u + 1), .ref (u + 2), .ref (u + 3), .ref (u + 4), tl, .ref wn, .ref wx]) ∧ h.2 (u + 1) = some (az_J 54 f) ∧ h.2 (u + 2) = some (az_I 8 r) ∧ h.2 (u + 3) = some (az_I 8 s) ∧ ta_In h (u + 4) S n kk kt L ∧ fu_pr u wn wx ∧ h.2 wn = some (az_I 64 a) ∧ h.2 wx = some (az_I 64 b) ∧ fu_k u kk kt
/-- outside the object nothing changes -/
def fu_o (u kk kt : Nat) (h h' : az_Hp) : Prop := h'.1 = h.1 ∧ ∀ q, (q < u ∨ u + 10 ≤ q) → q ≠ kk → q ≠ kt → h'.2 q = h.2 q
theorem fu_To.eqv {h h' : az_Hp} {t u kk kt : Nat} {w : ln_W} (H : fu_To h t w u kk kt) (hf : ∀ q, (q < u ∨ u + 10 ≤ q) → q ≠ kk → q ≠ kt → h'.2 q = h.2 q) : fu_To h' t w u kk kt := by
  obtain ⟨a4, a5, h0, h1, h2, h3, h4, h5, o, o4, o5, p1, p2, p3, p4, p5, p6⟩ := H
  exact ⟨a4, a5, (hf _ (by omega) (by omega) (by omega)).trans h0, (hf _ (by omega) (by omega) (by omega)).trans h1, (hf _ (by omega) (by omega) (by omega)).trans h2, (hf _ (by omega) (by omega) (by omega)).trans h3, (hf _ (by omega) (by omega) (by omega)).trans h4, (hf _ (by omega) (by omega) (by omega)).trans h5, o, o4, o5, p1, p2, p3, p4, p5, p6⟩
theorem str_cap10 {w : ln_W} {bs : List Nat} (hw : ln_ok w) (hb : ln_by w bs) {k : Nat} (hk : k ≤ 10) : fu_l (fun x => (ln_str w bs).count x) * 4 ^ k < 2 ^ 62 := by
  rw [fu_str hw]
  have h2 : 4 ^ k ≤ 4 ^ 10 := Nat.pow_le_pow_right (by decide) hk
  exact Nat.lt_of_le_of_lt (Nat.mul_le_mul hb.2.2 h2) (by decide)
set_option maxHeartbeats 4000000 in
set_option maxRecDepth 100000 in
theorem s_rowsOfLong {d u a t wn wx kk kt r S n mo ni : Nat} {x : Nat × List Int64} {w : ln_W} {bs : List Nat} {t0 tl : Value} {f : Nat → Int64} {s : Nat → Int32} {L : List Nat} {hp : az_Hp} {Q : Option Value → az_Hp → Prop} (hd : 16 ≤ d) (hw : ln_ok w) (hb : ln_by w bs) (hk9 : fu_k u kk kt) (hrd : fu_rd u kk kt r) (hT : fu_To hp t w u kk kt) (hS : ln_Scene hp a t w mo ni bs) (hua : u + 4 ≤ a ∨ a + 8 ≤ u) (hx1 : 1 ≤ x.2.length) (hx8 : x.2.length ≤ 8) (hR : ln_Tray hp r (some x)) (h0 : hp.2 u = some (az_O 1 [t0, .ref (u + 1), .ref (u + 2), .ref (u + 3), .ref (u + 4), tl, .ref wn, .ref wx])) (h1 : hp.2 (u + 1) = some (az_J 54 f)) (h3 : hp.2 (u + 3) = some (az_I 8 s)) (hta : ta_In hp (u + 4) S n kk kt L) (hQ : ∀ (h' : az_Hp) (f' : Nat → Int64) (s' : Nat → Int32), h'.2 u = some (az_O 1 [.ref t, .ref (u + 1), .ref (u + 2), .ref (u + 3), .ref (u + 4), .int (nI 0), .ref wn, .ref wx]) → h'.2 (u + 1) = some (az_J 54 f') → (∀ x, x < 6 → f' (0 * 6 + x) = lN ((fun x => (ln_str w bs).count x) x)) → h'.2 (u + 3) = some (az_I 8 s') → (∀ j, j < 8 → s' j = nI (fu_or j (fu_lg w (fun j => x.2.getD j 0) x.2.length 0 (fun x => (ln_str w bs).count x)))) → ta_In h' (u + 4) S n kk kt L → fu_fr u kk kt (az_up hp u (az_O 1 [.ref t, .ref (u + 1), .ref (u + 2), .ref (u + 3), .ref (u + 4), .int (nI 0), .ref wn, .ref wx])) h' → Q (some (.int (nI (fu_lg w (fun j => x.2.getD j 0) x.2.length 0 (fun x => (ln_str w bs).count x)).length))) h') : az_M mX1_rowsOfLong d 0 0 [.ref u, .ref a, .ref r] hp Q := by
  obtain ⟨hk1, hk2⟩ := id hk9
  obtain ⟨hr1, hr2, hr3⟩ := id hrd
  refine az_M.of rfl (Nat.le_of_ble_eq_true rfl) ?_
  show az_W _ _ _ _ 0 [(0, .ref u), (1, .ref a), (2, .ref r)] [] _ _
  refine az_aload_n dX1_rowsOfLong_0 ?_
  refine az_aload_n dX1_rowsOfLong_1 ?_
  refine az_cV0 (st := []) dX1_rowsOfLong_2 ml_X1_71 h0 (s_beginF (d := d - 1) (by omega) hS hua h0 h1 ?_)
  intro g hg
  refine az_aload_n dX1_rowsOfLong_5 ?_
  refine az_iconst (v := nI 0) dX1_rowsOfLong_6 ?_
  refine az_putf (fs' := [.ref t, .ref (u + 1), .ref (u + 2), .ref (u + 3), .ref (u + 4), .int (nI 0), .ref wn, .ref wx]) dX1_rowsOfLong_7 fl_X1_98 (az_up_ne az_up_eq) ?_
  refine az_aload_n dX1_rowsOfLong_10 ?_
  refine az_getf (v := .ref (u + 3)) dX1_rowsOfLong_11 fl_X1_19 az_up_eq ?_
  refine az_iconst (v := nI 0) dX1_rowsOfLong_14 ?_
  refine az_cS0 (st := []) dX1_rowsOfLong_15 ml_X1_102 (s_fillI (d := d - 1) (by decide) (az_up_ne (az_up_ne (az_up_ne h3))) ?_)
  refine az_aload_n dX1_rowsOfLong_18 ?_
  refine az_aload_n dX1_rowsOfLong_19 ?_
  refine az_iconst (v := nI 0) dX1_rowsOfLong_20 ?_
  have fr9 : fu_fr u kk kt (az_up hp u (az_O 1 [.ref t, .ref (u + 1), .ref (u + 2), .ref (u + 3), .ref (u + 4), .int (nI 0), .ref wn, .ref wx])) (az_up (az_up (az_up (az_up hp u (az_O 1 [.ref t, .ref (u + 1), .ref (u + 2), .ref (u + 3), .ref (u + 4), tl, .ref wn, .ref wx])) (u + 1) (az_J 54 g)) u (az_O 1 [.ref t, .ref (u + 1), .ref (u + 2), .ref (u + 3), .ref (u + 4), .int (nI 0), .ref wn, .ref wx])) (u + 3) (az_I 8 (fun _ => nI 0))) := ⟨rfl, fun q a b c e f => if eq : q = u then (by subst eq; exact (az_up_ne az_up_eq).trans az_up_eq.symm) else (by rw [az_up_ne rfl, az_up_ne rfl, az_up_ne rfl, az_up_ne rfl, az_up_ne rfl])⟩
  have ho9 : ∀ q, (q < u ∨ u + 10 ≤ q) → q ≠ kk → q ≠ kt → (az_up (az_up (az_up (az_up hp u (az_O 1 [.ref t, .ref (u + 1), .ref (u + 2), .ref (u + 3), .ref (u + 4), tl, .ref wn, .ref wx])) (u + 1) (az_J 54 g)) u (az_O 1 [.ref t, .ref (u + 1), .ref (u + 2), .ref (u + 3), .ref (u + 4), .int (nI 0), .ref wn, .ref wx])) (u + 3) (az_I 8 (fun _ => nI 0))).2 q = hp.2 q := (fun q a b c => (by rw [az_up_ne rfl, az_up_ne rfl, az_up_ne rfl, az_up_ne rfl]))
  have hT9 : fu_To (az_up (az_up (az_up (az_up hp u (az_O 1 [.ref t, .ref (u + 1), .ref (u + 2), .ref (u + 3), .ref (u + 4), tl, .ref wn, .ref wx])) (u + 1) (az_J 54 g)) u (az_O 1 [.ref t, .ref (u + 1), .ref (u + 2), .ref (u + 3), .ref (u + 4), .int (nI 0), .ref wn, .ref wx])) (u + 3) (az_I 8 (fun _ => nI 0))) t w u kk kt := hT.eqv ho9
  have hR9 : ln_Tray (az_up (az_up (az_up (az_up hp u (az_O 1 [.ref t, .ref (u + 1), .ref (u + 2), .ref (u + 3), .ref (u + 4), tl, .ref wn, .ref wx])) (u + 1) (az_J 54 g)) u (az_O 1 [.ref t, .ref (u + 1), .ref (u + 2), .ref (u + 3), .ref (u + 4), .int (nI 0), .ref wn, .ref wx])) (u + 3) (az_I 8 (fun _ => nI 0))) r (some x) := hR.eqv (ho9 _ (by omega) (by omega) (by omega)) (ho9 _ (by omega) (by omega) (by omega))
  have hta9 : ta_In (az_up (az_up (az_up (az_up hp u (az_O 1 [.ref t, .ref (u + 1), .ref (u + 2), .ref (u + 3), .ref (u + 4), tl, .ref wn, .ref wx])) (u + 1) (az_J 54 g)) u (az_O 1 [.ref t, .ref (u + 1), .ref (u + 2), .ref (u + 3), .ref (u + 4), .int (nI 0), .ref wn, .ref wx])) (u + 3) (az_I 8 (fun _ => nI 0))) (u + 4) S n kk kt L := hta.eqv (by rw [az_up_ne rfl, az_up_ne rfl, az_up_ne rfl, az_up_ne rfl]) (by rw [az_up_ne rfl, az_up_ne rfl, az_up_ne rfl, az_up_ne rfl]) (by rw [az_up_ne rfl, az_up_ne rfl, az_up_ne rfl, az_up_ne rfl]) (by rw [az_up_ne rfl, az_up_ne rfl, az_up_ne rfl, az_up_ne rfl])
  refine az_cV0 (st := []) dX1_rowsOfLong_21 ml_X1_105 (az_up_ne az_up_eq) (s_longFrom hw (tv := 0) (wa := fun j => x.2.getD j 0) (fun _ => rfl) (by omega) hk9 hrd hx8 x.2.length (d := d - 1) (by omega) hx1 (dp := 0) (by omega) hT9 hR9 (az_up_ne az_up_eq) (az_up_ne (az_up_ne az_up_eq)) az_up_eq (sb := fun _ => 0) (fun _ _ => rfl) hta9 (fun q => absurd q (by omega)) (c := (fun x => (ln_str w bs).count x)) hg (str_cap10 hw hb (by omega)) ?_)
  intro h2 f2 s2 e12 ho2 es2 hs2 hta2 fr2
  exact az_iret dX1_rowsOfLong_24 (hQ h2 f2 s2 (fr2.at (az_up_ne az_up_eq)) e12 (fun x q => (by rw [ho2 _ (by omega)]; exact hg x q)) es2 (fun j q => (by rw [hs2 j q, if_neg (by omega), Nat.zero_or, Nat.sub_zero])) hta2 (fr9.tr fr2))
