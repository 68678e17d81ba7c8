/-! Futures: rows by lengths -/
def fu_cat {α : Type} (F : Nat → List α) : Nat → List α
  | 0 => []
  | k + 1 => fu_cat F k ++ F k
/-- the rows of tables that make it as long as told -/
def fu_lg (w : ln_W) (wa : Nat → Int64) : Nat → Nat → (Nat → Nat) → List (List Nat)
  | 0, _, _ => [[]]
  | k + 1, dp, c => fu_cat (fun tb => if wa dp = -1 ∨ wa dp = lN (fu_b w tb c) then (fu_lg w wa k (dp + 1) (fu_n w tb c)).map (List.cons tb) else []) (ln_tb w)
def fu_to (w : ln_W) (r : List Nat) (c : Nat → Nat) : Nat → Nat := r.foldl (fun c tb => fu_n w tb c) c
def fu_ads (w : ln_W) (cs : List (Nat → Nat)) (L : List Nat) : List Nat := cs.foldl (fun L c => fu_add w c L (ln_tb w)) L
def fu_or (i : Nat) : List (List Nat) → Nat
  | [] => 0
  | r :: R => (match r[i]? with | some t => 2 ^ t | none => 0) ||| fu_or i R
theorem fu_or_app (i : Nat) (A B : List (List Nat)) : fu_or i (A ++ B) = fu_or i A ||| fu_or i B := by
  induction A with
  | nil => rw [List.nil_append, fu_or, Nat.zero_or]
  | cons r A ih => rw [List.cons_append, fu_or, fu_or, ih, Nat.or_assoc]
theorem fu_or_mapS (i tb : Nat) (R : List (List Nat)) : fu_or (i + 1) (R.map (List.cons tb)) = fu_or i R := by
  induction R with
  | nil => rfl
  | cons r R ih => rw [List.map_cons, fu_or, fu_or, ih, List.getElem?_cons_succ]
theorem fu_or_map0 (tb : Nat) (R : List (List Nat)) : fu_or 0 (R.map (List.cons tb)) = if R.length = 0 then 0 else 2 ^ tb := by
  induction R with
  | nil => rfl
  | cons r R ih =>
    have h1 : fu_or 0 ((r :: R).map (List.cons tb)) = 2 ^ tb ||| fu_or 0 (R.map (List.cons tb)) := rfl
    rw [h1, ih, if_neg (show ¬ (r :: R).length = 0 by rw [List.length_cons]; omega)]
    split
    · exact Nat.or_zero _
    · exact Nat.or_self _
theorem fu_ads_app (w : ln_W) (A B : List (Nat → Nat)) (L : List Nat) : fu_ads w (A ++ B) L = fu_ads w B (fu_ads w A L) := List.foldl_append
theorem fu_ads_len (w : ln_W) (A : List (Nat → Nat)) : ∀ L : List Nat, (fu_ads w A L).length = L.length + ln_tb w * A.length := by
  induction A with
  | nil => intro L; rfl
  | cons c A ih =>
    intro L
    have h := ih (fu_add w c L (ln_tb w))
    rw [fu_add_len] at h
    rw [List.length_cons, Nat.mul_add]
    exact h.trans (by omega)
theorem fu_to_map (w : ln_W) (tb : Nat) (R : List (List Nat)) (c : Nat → Nat) : (R.map (List.cons tb)).map (fun r => fu_to w r c) = R.map (fun r => fu_to w r (fu_n w tb c)) := by
  rw [List.map_map]; rfl
theorem fu_cat_le {α : Type} (F : Nat → List α) {k m : Nat} (h : k ≤ m) : (fu_cat F k).length ≤ (fu_cat F m).length := by
  induction h with
  | refl => exact Nat.le_refl _
  | step h ih => rw [fu_cat, List.length_append]; omega
theorem fu_cat_len {α : Type} {F : Nat → List α} {B : Nat} (h : ∀ j, (F j).length ≤ B) (k : Nat) : (fu_cat F k).length ≤ k * B := by
  induction k with
  | zero => exact Nat.zero_le _
  | succ k ih => rw [fu_cat, List.length_append, Nat.succ_mul]; exact Nat.add_le_add ih (h k)
theorem fu_lg_len {w : ln_W} (hw : ln_ok w) (wa : Nat → Int64) (k : Nat) : ∀ (dp : Nat) (c : Nat → Nat), (fu_lg w wa k dp c).length ≤ 3 ^ k := by
  induction k with
  | zero => intro dp c; exact Nat.le_refl _
  | succ k ih =>
    intro dp c
    rw [fu_lg]
    refine Nat.le_trans (fu_cat_len (B := 3 ^ k) (fun tb => ?_) _) ?_
    · split
      · rw [List.length_map]; exact ih _ _
      · exact Nat.zero_le _
    · rw [Nat.pow_succ, Nat.mul_comm]
      exact Nat.mul_le_mul_left _ hw.2.1
theorem fu_n_l2 {w : ln_W} (hw : ln_ok w) {tb k : Nat} {c : Nat → Nat} (h : fu_l c * 4 ^ (k + 1 + 2) < 2 ^ 62) : fu_l (fu_n w tb c) * 4 ^ (k + 2) < 2 ^ 62 := fu_n_l hw (k := k + 2) h
def fu_rd (u kk kt r : Nat) : Prop := (r + 2 ≤ u ∨ u + 10 ≤ r) ∧ (r + 2 ≤ kk ∨ kk < r) ∧ (r + 2 ≤ kt ∨ kt < r)
theorem ln_Tray.eqv {h h' : az_Hp} {r : Nat} {tr : Option (Nat × List Int64)} (H : ln_Tray h r tr) (h1 : h'.2 r = h.2 r) (h2 : h'.2 (r + 1) = h.2 (r + 1)) : ln_Tray h' r tr := by
  unfold ln_Tray at *
  rw [h1, h2]
  exact H
theorem ln_Tray.fu {h h' : az_Hp} {r u kk kt : Nat} {tr : Option (Nat × List Int64)} (H : ln_Tray h r tr) (hf : fu_fr u kk kt h h') (hr : fu_rd u kk kt r) : ln_Tray h' r tr := by
  obtain ⟨h1, h2, h3⟩ := hr
  exact H.eqv (hf.at rfl) (hf.at rfl)
theorem fu_se0 {sb dp j : Nat} (R : List (List Nat)) (h : j < dp) : sb ||| (if j < dp then 0 else fu_or (j - dp) R) = sb := by rw [if_pos h, Nat.or_zero]
