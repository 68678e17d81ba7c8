/-! Futures: by lengths -/
def fu_k (u kk kt : Nat) : Prop := (kk = u + 5 ∨ u + 10 ≤ kk) ∧ (kt = u + 6 ∨ u + 10 ≤ kt)
/-- only the counts, what is seen, and the tally change -/
def fu_fr (u kk kt : Nat) (h h' : az_Hp) : Prop := h'.1 = h.1 ∧ ∀ q, q ≠ u + 1 → q ≠ u + 3 → q ≠ u + 4 + 3 → q ≠ kk → q ≠ kt → h'.2 q = h.2 q
theorem fu_fr.rf {u kk kt : Nat} {h : az_Hp} : fu_fr u kk kt h h := ⟨rfl, fun _ _ _ _ _ _ => rfl⟩
theorem fu_fr.tr {u kk kt : Nat} {h h' h'' : az_Hp} (h1 : fu_fr u kk kt h h') (h2 : fu_fr u kk kt h' h'') : fu_fr u kk kt h h'' := ⟨h2.1.trans h1.1, fun q a b c d e => (h2.2 q a b c d e).trans (h1.2 q a b c d e)⟩
theorem fu_fr.up1 {u kk kt : Nat} {h h' : az_Hp} {c : az_C} (h1 : fu_fr u kk kt h h') : fu_fr u kk kt h (az_up h' (u + 1) c) := ⟨h1.1, fun q a b c d e => (if_neg a).trans (h1.2 q a b c d e)⟩
theorem fu_fr.up3 {u kk kt : Nat} {h h' : az_Hp} {c : az_C} (h1 : fu_fr u kk kt h h') : fu_fr u kk kt h (az_up h' (u + 3) c) := ⟨h1.1, fun q a b c d e => (if_neg b).trans (h1.2 q a b c d e)⟩
theorem fu_fr.f3 {u kk kt : Nat} {h h' h'' : az_Hp} (h1 : fu_fr u kk kt h h') (h2 : az_f3 h' h'' kk kt (u + 4 + 3)) : fu_fr u kk kt h h'' := ⟨h2.1.trans h1.1, fun q a b c d e => (h2.2 q d e c).trans (h1.2 q a b c d e)⟩
theorem fu_fr.at {u kk kt q : Nat} {h h' : az_Hp} {x : Option az_C} (hf : fu_fr u kk kt h h') (hx : h.2 q = x) (h1 : q ≠ u + 1 := by omega) (h2 : q ≠ u + 3 := by omega) (h3 : q ≠ u + 4 + 3 := by omega) (h4 : q ≠ kk := by omega) (h5 : q ≠ kt := by omega) : h'.2 q = x := (hf.2 q h1 h2 h3 h4 h5).trans hx
def fu_To (h : az_Hp) (t : Nat) (w : ln_W) (u kk kt : Nat) : Prop := ∃ a4 a5 : Nat,
  h.2 t = some (az_O 8 [.int (nI (ln_tb w)), .int (nI (ln_mo w)), .int (nI (ln_li w)), .int (nI (ln_sd w)), .ref (t + 1), .ref (t + 2), .ref (t + 3), .ref a4, .ref a5]) ∧ h.2 (t + 1) = some (az_I 12 (fun j => nI (ln_st w j))) ∧ h.2 (t + 2) = some (az_I 18 (fun j => nI (ln_sz w j))) ∧ h.2 (t + 3) = some (az_I 72 (fun j => nI (ln_ch w j))) ∧ h.2 a4 = some (az_I (ln_pk w).1 (ln_pk w).2) ∧ h.2 a5 = some (az_I (ln_sl w).1 (ln_sl w).2) ∧ (t + 4 ≤ u ∨ u + 10 ≤ t) ∧ (a4 < u ∨ u + 10 ≤ a4) ∧ (a5 < u ∨ u + 10 ≤ a5) ∧ (t + 4 ≤ kk ∨ kk < t) ∧ (t + 4 ≤ kt ∨ kt < t) ∧ (a4 ≠ kk ∧ a4 ≠ kt ∧ a5 ≠ kk ∧ a5 ≠ kt)
theorem fu_To.to {h : az_Hp} {t u kk kt : Nat} {w : ln_W} (H : fu_To h t w u kk kt) : ln_To h t w u (u + 10) := by
  obtain ⟨a4, a5, h0, h1, h2, h3, h4, h5, o, o4, o5, -⟩ := H
  exact ⟨a4, a5, h0, h1, h2, h3, h4, h5, o, o4, o5⟩
theorem fu_To.fr {h h' : az_Hp} {t u kk kt : Nat} {w : ln_W} (H : fu_To h t w u kk kt) (hf : fu_fr u kk kt h h') : fu_To h' t w u kk kt := by
  obtain ⟨a4, a5, h0, h1, h2, h3, h4, h5, o, o4, o5, p1, p2, p3, p4, p5, p6⟩ := H
  exact ⟨a4, a5, hf.at h0, hf.at h1, hf.at h2, hf.at h3, hf.at h4, hf.at h5, o, o4, o5, p1, p2, p3, p4, p5, p6⟩
/-- the keys of a row's end come to the tally -/
def fu_add (w : ln_W) (c : Nat → Nat) (L : List Nat) : Nat → List Nat
  | 0 => L
  | tb + 1 => (fu_b w tb c * 3 + tb) :: fu_add w c L tb
theorem fu_add_len (w : ln_W) (c : Nat → Nat) (L : List Nat) (k : Nat) : (fu_add w c L k).length = L.length + k := by
  induction k with
  | zero => rfl
  | succ k ih => rw [fu_add, List.length_cons, ih]; omega
set_option maxHeartbeats 4000000 in
set_option maxRecDepth 100000 in
theorem s_tallyNext {d u t wn wx kk kt dp S n : Nat} {w : ln_W} {tl : Value} {c : Nat → Nat} {f : Nat → Int64} {L : List Nat} {hp : az_Hp} {Q : Option Value → az_Hp → Prop} (hd : 4 ≤ d) (hw : ln_ok w) (hk9 : fu_k u kk kt) (hT : fu_To hp t w u kk kt) (h0 : hp.2 u = some (az_O 1 [.ref t, .ref (u + 1), .ref (u + 2), .ref (u + 3), .ref (u + 4), tl, .ref wn, .ref wx])) (h1 : hp.2 (u + 1) = some (az_J 54 f)) (hta : ta_In hp (u + 4) S n kk kt L) (hcap : L.length + ln_tb w ≤ S) (hdp : dp ≤ 8) (hc : ∀ x, x < 6 → f (dp * 6 + x) = lN (c x)) (hb : fu_l c * 4 ^ 2 < 2 ^ 62) (hQ : ∀ h', ta_In h' (u + 4) S n kk kt (fu_add w c L (ln_tb w)) → az_f3 hp h' kk kt (u + 4 + 3) → Q none h') : az_M mX1_tallyNext d 0 0 [.ref u, .int (nI dp)] hp Q := by
  have htb := hw.2.1
  obtain ⟨hk1, hk2⟩ := id hk9
  have loop : ∀ (k : Nat) (tb : Nat) (h' : az_Hp), ln_tb w - tb = k → (tb ≤ ln_tb w) → (ta_In h' (u + 4) S n kk kt (fu_add w c L tb)) → (az_f3 hp h' kk kt (u + 4 + 3)) → az_W mX1_tallyNext d 0 0 2 [(0, .ref u), (1, .int (nI dp)), (2, .int (nI tb))] [] h' Q := by
    intro k
    induction k using Nat.strongRecOn with
    | _ k ih =>
    intro tb h' hk htl hta' hfr
    have hT' : fu_To h' t w u kk kt := hT.fr (fu_fr.rf.f3 hfr)
    obtain ⟨a4', a5', hT0', -⟩ := id hT'
    have e0 := (fu_fr.rf.f3 hfr : fu_fr u kk kt hp h').at h0
    have e1 := hfr.2 (u + 1) (by omega) (by omega) (by omega) |>.trans h1
    obtain ⟨-, -, kss, tis, y0, -⟩ := id hta'
    refine az_iload_n dX1_tallyNext_2 ?_
    refine az_aload_n dX1_tallyNext_3 ?_
    refine az_getf (v := .ref t) dX1_tallyNext_4 fl_X1_35 e0 ?_
    refine az_getf (v := .int (nI (ln_tb w))) dX1_tallyNext_7 fl_X1_83 hT0' ?_
    refine az_icmp_geN (tgt := 33) dX1_tallyNext_10 (fun c10 => ?_) (fun c10 => ?_)
    · exact az_vret dX1_tallyNext_33 (by have h9 := hta'; rw [show tb = ln_tb w by omega] at h9; exact hQ h' h9 hfr)
    · refine az_aload_n dX1_tallyNext_13 ?_
      refine az_getf (v := .ref (u + 4)) dX1_tallyNext_14 fl_X1_25 e0 ?_
      refine az_aload_n dX1_tallyNext_17 ?_
      refine az_iload_n dX1_tallyNext_18 ?_
      refine az_iload_n dX1_tallyNext_19 ?_
      refine az_cV0 (st := [.ref (u + 4)]) dX1_tallyNext_20 ml_X1_87 e0 (s_spanByF (d := d - 1) hw hT'.to.town e0 e1 (dp := dp) (by omega) (tb := tb) (by omega) (c := c) hc ?_)
      have hbl := fu_b_le hw tb c
      refine az_iload_n dX1_tallyNext_23 ?_
      refine az_cV0 (st := []) dX1_tallyNext_24 ml_X1_122 y0 (s_add (d := d - 1) (sp := fu_b w tb c) (tb := tb) (by omega) hta' (by omega) (by omega) (by rw [fu_add_len]; omega) ?_)
      intro h2 hta2 fr2
      refine az_iincN (n := 1) (ls' := [(0, .ref u), (1, .int (nI dp)), (2, .int (nI (tb + 1)))]) dX1_tallyNext_27 ?_
      refine az_goto (tgt := 2) dX1_tallyNext_30 ?_
      exact ih _ (by omega) (tb + 1) h2 rfl (by omega) hta2 (hfr.tr fr2)
  refine az_M.of rfl (Nat.le_of_ble_eq_true rfl) ?_
  show az_W _ _ _ _ 0 [(0, .ref u), (1, .int (nI dp))] [] _ _
  refine az_iconst (v := nI 0) dX1_tallyNext_0 ?_
  refine az_istore_n (ls' := [(0, .ref u), (1, .int (nI dp)), (2, .int (nI 0))]) dX1_tallyNext_1 ?_
  exact loop _ 0 hp rfl (Nat.zero_le _) hta az_f3.rf
