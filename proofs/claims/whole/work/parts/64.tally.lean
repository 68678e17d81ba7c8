/-! Tally -/
def ta_h (S : Nat) (x : Int64) : Nat := (((x * (-7046029254386353131)).toUInt64 >>> ((nI 40).toInt64.toUInt64 &&& Int64.toUInt64 63)).toInt64.toInt32).toBitVec.toNat &&& (S - 1)
theorem nI_back (v : Int32) : nI v.toBitVec.toNat = v := by
  apply Int32.toBitVec_inj.mp
  rw [nI_bv]
  simp
theorem ta_h_lt {S : Nat} {x : Int64} (h : 0 < S) : ta_h S x < S := Nat.lt_of_le_of_lt Nat.and_le_right (by omega)
set_option maxRecDepth 100000 in
theorem s_slotOf {d y kk kt S : Nat} {x : Int64} {hp : az_Hp} {Q : Option Value → az_Hp → Prop} (hS : 0 < S) (h0 : hp.2 y = some (az_O 7 [.ref kk, .ref kt, .int (nI S), .ref (y + 3)])) (hQ : Q (some (.int (nI (ta_h S x)))) hp) : az_M mX8_slotOf d 0 0 [.ref y, .long x] hp Q := by
  refine az_M.of rfl (Nat.le_of_ble_eq_true rfl) ?_
  show az_W _ _ _ _ 0 [(0, .ref y), (1, .long x)] [] _ _
  refine az_lload_n dX8_slotOf_0 ?_
  refine az_ldc2 (v := (-7046029254386353131)) dX8_slotOf_1 cn_X8_47 ?_
  refine az_lmul dX8_slotOf_4 ?_
  refine az_bipush (v := nI 40) dX8_slotOf_5 ?_
  refine az_lushr dX8_slotOf_7 ?_
  refine az_l2i dX8_slotOf_8 ?_
  rw [← nI_back (Int64.toInt32 _)]
  refine az_aload_n dX8_slotOf_9 ?_
  refine az_getf (v := .int (nI S)) dX8_slotOf_10 fl_X8_19 h0 ?_
  refine az_iconst (v := nI 1) dX8_slotOf_13 ?_
  refine az_isubN dX8_slotOf_14 hS ?_
  refine az_iandN dX8_slotOf_15 ?_
  exact az_iret dX8_slotOf_16 (hQ)
/-- the greatest count of one key of this table -/
def ta_mx (tb : Nat) : List Nat → Nat
  | [] => 0
  | x :: L => if x % 3 = tb then max (ta_mx tb L) ((x :: L).count x) else ta_mx tb L
theorem ta_mx_le (tb : Nat) (L : List Nat) : ta_mx tb L ≤ L.length := by
  induction L with
  | nil => exact Nat.le_refl _
  | cons x L ih =>
    rw [ta_mx, List.length_cons]
    have := List.count_le_length (a := x) (l := x :: L)
    rw [List.length_cons] at this
    split <;> omega
/-- slots tell the keys of a list -/
def ta_C (S : Nat) (ks : Nat → Int64) (ti : Nat → Int32) (L : List Nat) : Prop := ∃ ko : Nat → Option Nat,
  (∀ s, s < S → ko s = none → ti s = nI 0) ∧ (∀ s x, s < S → ko s = some x → ti s = nI (L.count x) ∧ ks s = lN x ∧ x ∈ L) ∧ (∀ x, x ∈ L → x < 2 ^ 63 ∧ ∃ p, p < S ∧ ko ((ta_h S (lN x) + p) % S) = some x ∧ ∀ q, q < p → ∃ z, ko ((ta_h S (lN x) + q) % S) = some z) ∧ (∀ s s' x, s < S → s' < S → ko s = some x → ko s' = some x → s = s') ∧ sm (fun s => if ko s = none then 0 else 1) S ≤ L.length
theorem sm_at {f g : Nat → Nat} {s k : Nat} (hs : s < k) (h : ∀ j, j ≠ s → g j = f j) : sm g k + f s = sm f k + g s := by
  induction k with
  | zero => omega
  | succ k ih =>
    rw [sm, sm]
    by_cases e : s = k
    · subst e
      rw [sm_congr (f := g) (g := f) (fun j hj => h j (by omega))]
      omega
    · have := ih (by omega)
      have := h k (fun q => e q.symm)
      omega
theorem ta_full {S h : Nat} {ko : Nat → Option Nat} (hS : 0 < S) (H : ∀ q, q < S → ∃ z, ko ((h + q) % S) = some z) : sm (fun s => if ko s = none then 0 else 1) S = S := by
  have h1 : sm (fun s => if ko s = none then 0 else 1) S = sm (fun _ => 1) S := by
    refine sm_congr (fun s hs => ?_)
    have hm : h % S < S := Nat.mod_lt _ hS
    have hx : ∃ q, q < S ∧ (h + q) % S = s := by
      by_cases e : h % S ≤ s
      · refine ⟨s - h % S, by omega, ?_⟩
        rw [Nat.add_mod, Nat.mod_eq_of_lt (show s - h % S < S by omega), show h % S + (s - h % S) = s by omega, Nat.mod_eq_of_lt hs]
      · refine ⟨s + S - h % S, by omega, ?_⟩
        rw [Nat.add_mod, Nat.mod_eq_of_lt (show s + S - h % S < S by omega), show h % S + (s + S - h % S) = s + S by omega, Nat.add_mod_right, Nat.mod_eq_of_lt hs]
    obtain ⟨q, hq, e⟩ := hx
    obtain ⟨z, hz⟩ := H q hq
    rw [e] at hz
    rw [hz]
    rfl
  rw [h1, sm_const, Nat.mul_one]
theorem ta_step {S x p : Nat} {ks : Nat → Int64} {ti : Nat → Int32} {L : List Nat} {ko : Nat → Option Nat} (hS : 0 < S)
    (h1 : ∀ s, s < S → ko s = none → ti s = nI 0) (h2 : ∀ s x, s < S → ko s = some x → ti s = nI (L.count x) ∧ ks s = lN x ∧ x ∈ L) (h3 : ∀ x, x ∈ L → x < 2 ^ 63 ∧ ∃ p, p < S ∧ ko ((ta_h S (lN x) + p) % S) = some x ∧ ∀ q, q < p → ∃ z, ko ((ta_h S (lN x) + q) % S) = some z) (h4 : ∀ s s' x, s < S → s' < S → ko s = some x → ko s' = some x → s = s') (h5 : sm (fun s => if ko s = none then 0 else 1) S ≤ L.length)
    (hx : x < 2 ^ 63) (hp : p < S) (hpq : ∀ q, q < p → ∃ z, z ≠ x ∧ ko ((ta_h S (lN x) + q) % S) = some z) (hend : ko ((ta_h S (lN x) + p) % S) = none ∨ ko ((ta_h S (lN x) + p) % S) = some x) :
    ti ((ta_h S (lN x) + p) % S) = nI (L.count x) ∧ ta_C S (az_s ks ((ta_h S (lN x) + p) % S) (lN x)) (az_s ti ((ta_h S (lN x) + p) % S) (nI ((x :: L).count x))) (x :: L) := by
  have hsl : (ta_h S (lN x) + p) % S < S := Nat.mod_lt _ hS
  have hno : ko ((ta_h S (lN x) + p) % S) = none → x ∉ L := by
    intro hn hm
    obtain ⟨-, p', hp', e', hq'⟩ := h3 x hm
    rcases Nat.lt_trichotomy p p' with q | q | q
    · obtain ⟨z, hz⟩ := hq' p q
      rw [hn] at hz
      cases hz
    · rw [q, e'] at hn
      cases hn
    · obtain ⟨z, hzx, hz⟩ := hpq p' q
      rw [e'] at hz
      cases hz
      exact hzx rfl
  have hti : ti ((ta_h S (lN x) + p) % S) = nI (L.count x) := by
    rcases hend with q | q
    · rw [h1 _ hsl q, List.count_eq_zero.mpr (hno q)]
    · exact (h2 _ x hsl q).1
  refine ⟨hti, fun s => if s = (ta_h S (lN x) + p) % S then some x else ko s, ?_, ?_, ?_, ?_, ?_⟩
  · intro s hs hk
    dsimp only at hk
    split at hk
    · cases hk
    · rename_i e
      rw [az_s_ne e]
      exact h1 s hs hk
  · intro s z hs hk
    dsimp only at hk
    split at hk
    · rename_i e
      cases hk
      rw [e, az_s_eq, az_s_eq]
      exact ⟨rfl, rfl, List.mem_cons_self⟩
    · rename_i e
      rw [az_s_ne e, az_s_ne e]
      obtain ⟨q1, q2, q3⟩ := h2 s z hs hk
      refine ⟨?_, q2, List.mem_cons_of_mem _ q3⟩
      rw [q1, List.count_cons]
      have hzx : ¬ x = z := by
        intro exz
        subst exz
        rcases hend with q | q
        · exact hno q q3
        · exact e (h4 s _ x hs hsl hk q)
      rw [if_neg (by simp [hzx])]
      rfl
  · intro z hz
    by_cases e : z = x
    · subst e
      refine ⟨hx, p, hp, if_pos rfl, ?_⟩
      intro q hq
      obtain ⟨z', -, hz'⟩ := hpq q hq
      dsimp only
      split
      · exact ⟨_, rfl⟩
      · exact ⟨z', hz'⟩
    · have hm : z ∈ L := by
        rcases List.mem_cons.mp hz with q | q
        · exact absurd q e
        · exact q
      obtain ⟨q1, p', hp', e', hq'⟩ := h3 z hm
      refine ⟨q1, p', hp', ?_, ?_⟩
      · dsimp only
        rw [if_neg, e']
        intro e9
        rw [e9] at e'
        rcases hend with q | q
        · rw [q] at e'; cases e'
        · rw [q] at e'; cases e'; exact e rfl
      · intro q hq
        obtain ⟨z', hz'⟩ := hq' q hq
        dsimp only
        split
        · exact ⟨_, rfl⟩
        · exact ⟨z', hz'⟩
  · intro s s' z hs hs' hk hk'
    dsimp only at hk hk'
    have hkx : ∀ s, s < S → ¬ s = (ta_h S (lN x) + p) % S → ko s = some x → False := by
      intro s hs e hk
      rcases hend with q | q
      · exact hno q (h2 s x hs hk).2.2
      · exact e (h4 s _ x hs hsl hk q)
    split at hk <;> split at hk'
    · rename_i e1 e2; rw [e1, e2]
    · rename_i e1 e2; cases hk; exact absurd hk' (hkx s' hs' e2)
    · rename_i e1 e2; cases hk'; exact absurd hk (hkx s hs e1)
    · exact h4 s s' z hs hs' hk hk'
  · have h6 := sm_at (f := fun s => if ko s = none then 0 else 1) (g := fun s => if (if s = (ta_h S (lN x) + p) % S then some x else ko s) = none then 0 else 1) hsl (fun j hj => by rw [if_neg hj])
    rw [List.length_cons]
    have h7 : (if (if (ta_h S (lN x) + p) % S = (ta_h S (lN x) + p) % S then some x else ko ((ta_h S (lN x) + p) % S)) = none then 0 else 1) = 1 := by rw [if_pos rfl]; rfl
    rw [h7] at h6
    exact Nat.le_trans (Nat.le_add_right _ _) (Nat.le_trans (Nat.le_of_eq h6) (Nat.add_le_add_right h5 1))
