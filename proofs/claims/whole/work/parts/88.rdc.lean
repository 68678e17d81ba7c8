/-! Reader: the lines of a town -/
abbrev rd_V : Type := Nat × Nat × Nat × Nat × (Nat → Nat) × (Nat → Nat) × (Nat → Nat) × List Nat × List Nat
def rd_w (v : rd_V) : ln_W := (v.1, v.2.1, v.2.2.1, v.2.2.2.1, v.2.2.2.2.1, v.2.2.2.2.2.1, v.2.2.2.2.2.2.1, (v.2.2.2.2.2.2.2.1.length, fun i => lw_phi (v.2.2.2.2.2.2.2.1.getD i 0)), (v.2.2.2.2.2.2.2.2.length, fun i => lw_phi (v.2.2.2.2.2.2.2.2.getD i 0)))
abbrev rd_T : Type := (Nat × rd_V) ⊕ (Nat × Nat)
/-- the letters of a token, laid from at on -/
def rd_ls (b : Nat → Nat) (n e at9 : Nat) (st : Nat → Nat) : Nat → Nat := fun j => if at9 ≤ j ∧ j < at9 + (rd_en b n e - rd_fr b n e) then b (rd_fr b n e + (j - at9)) - 97 else st j
def rd_stands (b : Nat → Nat) (n e : Nat) (v : rd_V) : rd_T := match rd_tl b n 12 (rd_en b n e) [] with
  | .inr x => .inr x
  | .inl x => .inl (x.1, (v.1, v.2.1, v.2.2.1, rd_en b n (rd_en b n e) - rd_fr b n (rd_en b n e), rd_ls b n (rd_en b n e) 0 v.2.2.2.2.1, v.2.2.2.2.2))
def rd_upd (f : Nat → Nat) (i x : Nat) : Nat → Nat := fun j => if j = i then x else f j
def rd_rule (b : Nat → Nat) (n e : Nat) (v : rd_V) : rd_T := match rd_tn b n 0 (v.1 - 1) (rd_en b n e) [] with
  | .inr x => .inr x
  | .inl x1 => match rd_tl b n 1 x1.1 [] with
    | .inr x => .inr x
    | .inl x2 => match rd_ts b n 58 x2.1 [] with
      | .inr x => .inr x
      | .inl x3 => if rd_isW b n x3.1 "nothing" then .inl (rd_en b n x3.1, (v.1, v.2.1, v.2.2.1, v.2.2.2.1, v.2.2.2.2.1, rd_upd v.2.2.2.2.2.1 (rd_va b n (rd_en b n e) * 6 + (b (rd_fr b n x1.1) - 97)) 0, v.2.2.2.2.2.2))
        else match rd_tl b n 4 x3.1 [] with
          | .inr x => .inr x
          | .inl x4 => .inl (x4.1, (v.1, v.2.1, v.2.2.1, v.2.2.2.1, v.2.2.2.2.1, rd_upd v.2.2.2.2.2.1 (rd_va b n (rd_en b n e) * 6 + (b (rd_fr b n x1.1) - 97)) (rd_en b n x3.1 - rd_fr b n x3.1), rd_ls b n x3.1 ((rd_va b n (rd_en b n e) * 6 + (b (rd_fr b n x1.1) - 97)) * 4) v.2.2.2.2.2.2.1, v.2.2.2.2.2.2.2))
def rd_To (h : az_Hp) (t : Nat) (w : ln_W) (q tx : Nat) : Prop := ∃ a4 a5 : Nat,
  h.2 t = some (az_O 8 [.int (nI (ln_tb w)), .int (nI (ln_mo w)), .int (nI (ln_li w)), .int (nI (ln_sd w)), .ref (t + 1), .ref (t + 2), .ref (t + 3), .ref a4, .ref a5]) ∧ h.2 (t + 1) = some (az_I 12 (fun j => nI (ln_st w j))) ∧ h.2 (t + 2) = some (az_I 18 (fun j => nI (ln_sz w j))) ∧ h.2 (t + 3) = some (az_I 72 (fun j => nI (ln_ch w j))) ∧ h.2 a4 = some (az_I (ln_pk w).1 (ln_pk w).2) ∧ h.2 a5 = some (az_I (ln_sl w).1 (ln_sl w).2) ∧ q + 4 ≤ t ∧ tx < t ∧ t + 4 ≤ a4 ∧ a4 < h.1 ∧ t + 4 ≤ a5 ∧ a5 < h.1
theorem rd_To.eqv {h h' : az_Hp} {t q tx : Nat} {w : ln_W} (H : rd_To h t w q tx) (hn : h.1 ≤ h'.1) (hf : ∀ z, t ≤ z → z < h.1 → h'.2 z = h.2 z) : rd_To h' t w q tx := by
  obtain ⟨a4, a5, h0, h1, h2, h3, h4, h5, o1, o2, o3, o4, o5, o6⟩ := H
  exact ⟨a4, a5, (hf _ (by omega) (by omega)).trans h0, (hf _ (by omega) (by omega)).trans h1, (hf _ (by omega) (by omega)).trans h2, (hf _ (by omega) (by omega)).trans h3, (hf _ (by omega) (by omega)).trans h4, (hf _ (by omega) (by omega)).trans h5, o1, o2, o3, by omega, o5, by omega⟩
theorem rd_To.f {h h' : az_Hp} {t q tx : Nat} {w : ln_W} (H : rd_To h t w q tx) (hf : rd_f h h' q) : rd_To h' t w q tx := by
  obtain ⟨a4, a5, h0, h1, h2, h3, h4, h5, o1, o2, o3, o4, o5, o6⟩ := id H
  exact H.eqv (Nat.le_of_eq hf.1.symm) (fun z u1 _ => hf.2 z (by omega) (by omega))
/-- below the town only the reader changes -/
def rd_h (h h' : az_Hp) (q t : Nat) : Prop := h.1 ≤ h'.1 ∧ ∀ z, z < t → z ≠ q → z ≠ q + 2 → z ≠ q + 3 → h'.2 z = h.2 z
theorem rd_h.rf {h : az_Hp} {q t : Nat} : rd_h h h q t := ⟨Nat.le_refl _, fun _ _ _ _ _ => rfl⟩
theorem rd_h.tr {h h' h'' : az_Hp} {q t : Nat} (h1 : rd_h h h' q t) (h2 : rd_h h' h'' q t) : rd_h h h'' q t := ⟨Nat.le_trans h1.1 h2.1, fun z a b c d => (h2.2 z a b c d).trans (h1.2 z a b c d)⟩
theorem rd_f.h {h h' : az_Hp} {q t : Nat} (H : rd_f h h' q) : rd_h h h' q t := ⟨Nat.le_of_eq H.1.symm, fun z _ b _ d => H.2 z b d⟩
theorem rd_fA.h {h h' : az_Hp} {q t iA : Nat} (H : rd_fA h h' q iA) (hi : iA = q + 2 ∨ t ≤ iA) : rd_h h h' q t := ⟨Nat.le_of_eq H.1.symm, fun z a b c d => H.2 z b d (by omega)⟩
theorem rd_h.up {h h' : az_Hp} {q t a : Nat} {c : az_C} (H : rd_h h h' q t) (ha : t ≤ a ∨ a = q ∨ a = q + 2 ∨ a = q + 3 := by omega) : rd_h h (az_up h' a c) q t := ⟨H.1, fun z p r s u => (if_neg (by omega)).trans (H.2 z p r s u)⟩
def rd_Sv (h : az_Hp) (q tx n : Nat) (b : Nat → Nat) (e : Nat) : Prop := ∃ k5 va, rd_Sg h q tx n b e k5 va
def rd_Ev (h : az_Hp) (q tx n : Nat) (b : Nat → Nat) (f p t : Nat) : Prop := rd_Er h q tx n b f p 0 900 ∧ ∃ w, rd_To h t w q tx
def rd_TQ (r : rd_T) (hp : az_Hp) (q tx n : Nat) (b : Nat → Nat) (t : Nat) (Q : Option Value → az_Hp → Prop) : Prop := match r with
  | .inl x => ∀ h', rd_Sv h' q tx n b x.1 → rd_To h' t (rd_w x.2) q tx → rd_h hp h' q t → Q (some (.int (nI 1))) h'
  | .inr x => ∀ h', rd_Ev h' q tx n b x.1 x.2 t → rd_h hp h' q t → Q (some (.int (nI 0))) h'
theorem rd_Er.z {h : az_Hp} {q tx n : Nat} {b : Nat → Nat} {f p k1 k2 : Nat} (H : rd_Er h q tx n b f p k1 k2) : rd_Er h q tx n b f p 0 900 := by
  obtain ⟨hX, ki, aa, zz, va, m, cf, ol, h0, hm, h3, h2, h4, h5⟩ := H
  exact ⟨hX, ki, aa, zz, va, m, cf, ol, h0, hm, h3, h2, by omega, h5⟩
theorem rd_en_le2 {b : Nat → Nat} {n e : Nat} (he : e ≤ n) : e ≤ rd_en b n e := Nat.le_trans (rd_fr_le he).1 (rd_en_le he).1
theorem rd_tl_c {b : Nat → Nat} {n m e e' : Nat} {c c' : List Nat} (h : rd_tl b n m e c = .inl (e', c')) (d : List Nat) : rd_tl b n m e d = .inl (e', d) ∧ e' = rd_en b n e := by
  unfold rd_tl at *
  split at h
  · cases h
  · rename_i h1
    split at h
    · cases h
    · rename_i h2
      split at h
      · cases h
      · rename_i h3
        cases h
        rw [if_neg h1, if_neg h2, if_neg h3]
        exact ⟨rfl, rfl⟩
theorem rd_tl_e {b : Nat → Nat} {n m e : Nat} {c : List Nat} {x : Nat × Nat} (h : rd_tl b n m e c = .inr x) (d : List Nat) : rd_tl b n m e d = .inr x := by
  unfold rd_tl at *
  split at h
  · rename_i h1; rw [if_pos h1]; exact h
  · rename_i h1
    split at h
    · rename_i h2; rw [if_neg h1, if_pos h2]; exact h
    · rename_i h2
      split at h
      · rename_i h3; rw [if_neg h1, if_neg h2, if_pos h3]; exact h
      · cases h
theorem rd_ls_is {b : Nat → Nat} {n e at9 : Nat} {st : Nat → Nat} {g' : Nat → Int32} (hg : ∀ j, j < rd_en b n e - rd_fr b n e → g' (at9 + j) = nI (b (rd_fr b n e + j) - 97)) (hgo : ∀ j, (j < at9 ∨ at9 + (rd_en b n e - rd_fr b n e) ≤ j) → g' j = nI (st j)) : g' = fun j => nI (rd_ls b n e at9 st j) := by
  funext j
  unfold rd_ls
  by_cases h : at9 ≤ j ∧ j < at9 + (rd_en b n e - rd_fr b n e)
  · rw [if_pos h]
    have := hg (j - at9) (by omega)
    rw [show at9 + (j - at9) = j by omega] at this
    exact this
  · rw [if_neg h]
    exact hgo j (by omega)
theorem rd_Sw.upz {hp : az_Hp} {q tx n e a : Nat} {b : Nat → Nat} {c : List Nat} {va : Int32} {x : az_C} (hS : rd_Sw hp q tx n b e c va) (h1 : q + 4 ≤ a) (h2 : tx < a) : rd_Sw (az_up hp a x) q tx n b e c va := by
  obtain ⟨⟨x1, x2, x3, tf, x4, x5⟩, he, hc, cf, ol, g0, g3, hcf, g2⟩ := hS
  exact ⟨⟨x1, x2, x3, tf, az_up_ne x4, x5⟩, he, hc, cf, ol, az_up_ne g0, az_up_ne g3, hcf, az_up_ne g2⟩
theorem rd_Sg.upz {hp : az_Hp} {q tx n e a k5 : Nat} {b : Nat → Nat} {va : Int32} {x : az_C} (hS : rd_Sg hp q tx n b e k5 va) (h1 : q + 4 ≤ a) (h2 : tx < a) : rd_Sg (az_up hp a x) q tx n b e k5 va := by
  obtain ⟨⟨x1, x2, x3, tf, x4, x5⟩, he, hc, cf, ol, g0, g3, hcf, g2⟩ := hS
  exact ⟨⟨x1, x2, x3, tf, az_up_ne x4, x5⟩, he, hc, cf, ol, az_up_ne g0, az_up_ne g3, hcf, az_up_ne g2⟩
theorem rd_Er.upz {hp : az_Hp} {q tx n a : Nat} {b : Nat → Nat} {f p k1 k2 : Nat} {x : az_C} (hS : rd_Er hp q tx n b f p k1 k2) (h1 : q + 4 ≤ a) (h2 : tx < a) : rd_Er (az_up hp a x) q tx n b f p k1 k2 := by
  obtain ⟨⟨x1, x2, x3, tf, x4, x5⟩, ki, aa, zz, va, m, cf, ol, g0, hm, g3, g2, g4, g5⟩ := hS
  exact ⟨⟨x1, x2, x3, tf, az_up_ne x4, x5⟩, ki, aa, zz, va, m, cf, ol, az_up_ne g0, hm, az_up_ne g3, az_up_ne g2, g4, g5⟩
set_option maxHeartbeats 4000000 in
set_option maxRecDepth 100000 in
theorem s_readStands {d q tx n e t : Nat} {b : Nat → Nat} {k5 : Nat} {va : Int32} {v : rd_V} {hp : az_Hp} {Q : Option Value → az_Hp → Prop} (hd : 7 ≤ d) (hW : rd_Sg hp q tx n b e k5 va) (hT : rd_To hp t (rd_w v) q tx) (hQ : rd_TQ (rd_stands b n e v) hp q tx n b t Q) : az_M mX5_readStands d 0 0 [.ref q, .ref t] hp Q := by
  obtain ⟨hX, he, hc, cf, ol, h0, h3, hcf, h2⟩ := id hW
  obtain ⟨w, hw9⟩ : ∃ w, w = rd_w v := ⟨_, rfl⟩
  rw [← hw9] at hT
  refine az_M.of rfl (Nat.le_of_ble_eq_true rfl) ?_
  show az_W _ _ _ _ 0 [(0, .ref q), (1, .ref t)] [] _ _
  refine az_aload_n dX5_readStands_0 ?_
  refine az_cV0 (st := []) dX5_readStands_1 ml_X5_41 h0 (g_adv (d := d - 1) (by omega) hW ?_)
  intro h1 hS1 hf1
  obtain ⟨va1, hW1, hce1, hv1⟩ := id hS1
  obtain ⟨hX1, he1, hc1, cf1, ol1, g1, g3, hcf1, g2⟩ := id hW1
  have hT1 := hT.f hf1
  obtain ⟨a4, a5, t0, t1, t2, t3, t4, t5, o1, o2, o3, o4, o5, o6⟩ := id hT1
  refine az_aload_n dX5_readStands_4 ?_
  refine az_bipush (v := nI 12) dX5_readStands_5 ?_
  refine az_aload_n dX5_readStands_7 ?_
  refine az_getf (v := .ref (t + 1)) dX5_readStands_8 fl_X5_131 t0 ?_
  refine az_iconst (v := nI 0) dX5_readStands_11 ?_
  refine az_cV0 (st := []) dX5_readStands_12 ml_X5_133 g1 (g_takeLetters (d := d - 1) (most := 12) (at9 := 0) (by omega) hW1 t1 (by omega) (by omega) (by omega) ?_ ?_)
  · intro hq m1 m2 h2' g' hg hg6 hgo hA' hW2 fA
    obtain ⟨hX2, he2, hc2, cf2, ol2, u0, -⟩ := id hW2
    refine az_if_neN (tgt := 20) dX5_readStands_15 (fun c15 => ?_) (fun c15 => ?_)
    · refine az_aload_n dX5_readStands_20 ?_
      refine az_aload_n dX5_readStands_21 ?_
      refine az_getf (v := .int (nI (rd_en b n (rd_en b n e) - rd_fr b n (rd_en b n e)))) dX5_readStands_22 fl_X5_69 u0 ?_
      refine az_putf (fs' := [.int (nI (ln_tb w)), .int (nI (ln_mo w)), .int (nI (ln_li w)), .int (nI (rd_en b n (rd_en b n e) - rd_fr b n (rd_en b n e))), .ref (t + 1), .ref (t + 2), .ref (t + 3), .ref a4, .ref a5]) dX5_readStands_25 fl_X5_137 (fA.2 t (by omega) (by omega) (by omega) |>.trans t0) ?_
      refine az_iconst (v := nI 1) dX5_readStands_28 ?_
      exact az_iret dX5_readStands_29 (by have hk := (rd_tl_c hq []); rw [rd_stands, hk.1] at hQ; exact hQ _ ⟨k5, _, hW2.upz o1 o2⟩ ⟨a4, a5, (by rw [hw9]; exact az_up_eq), (by rw [az_up_ne hA', rd_ls_is hg (fun j hj => (by rw [hgo j hj]))]; rw [hw9]; rfl), (az_up_ne ((fA.2 (t + 2) (by omega) (by omega) (by omega)).trans (by rw [hw9] at t2; exact t2))), (az_up_ne ((fA.2 (t + 3) (by omega) (by omega) (by omega)).trans (by rw [hw9] at t3; exact t3))), (az_up_ne ((fA.2 a4 (by omega) (by omega) (by omega)).trans (by rw [hw9] at t4; exact t4))), (az_up_ne ((fA.2 a5 (by omega) (by omega) (by omega)).trans (by rw [hw9] at t5; exact t5))), o1, o2, o3, (by show a4 < h2'.1; rw [fA.1]; exact o4), o5, (by show a5 < h2'.1; rw [fA.1]; exact o6)⟩ ((hf1.h.tr (fA.h (by omega))).up))
    · exact absurd c15 (by omega)
  · intro f p hq h2' hE2 hf2
    refine az_if_neN (tgt := 20) dX5_readStands_15 (fun c15 => ?_) (fun c15 => ?_)
    · exact absurd c15 (by omega)
    · refine az_iconst (v := nI 0) dX5_readStands_18 ?_
      exact az_iret dX5_readStands_19 (by rw [rd_stands, rd_tl_e hq] at hQ; exact hQ h2' ⟨hE2.z, w, hT1.f hf2⟩ ((hf1.tr hf2).h))
