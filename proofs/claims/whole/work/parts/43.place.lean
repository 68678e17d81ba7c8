/-! the way down is the way along the street -/
theorem scan_skip {g g2 : Nat → Nat} {B : List Nat} : ∀ (A : List Nat) {k p : Nat}, ln_wl g A ≤ k → ln_scan g g2 (A ++ B) k p = ln_scan g g2 B (k - ln_wl g A) (p + ln_wl g2 A) := by
  intro A
  induction A with
  | nil => intro k p h; simp [ln_wl]
  | cons x A ih =>
    intro k p h
    have e1 : ln_wl g (x :: A) = g x + ln_wl g A := by simp [ln_wl]
    have e2 : ln_wl g2 (x :: A) = g2 x + ln_wl g2 A := by simp [ln_wl]
    rw [e1] at h
    rw [List.cons_append, ln_scan, if_neg (by omega), ih (by omega), e1, e2]
    congr 1 <;> omega
theorem scan_in {g g2 : Nat → Nat} {B : List Nat} : ∀ (A : List Nat) {k p : Nat}, k < ln_wl g A → ln_scan g g2 (A ++ B) k p = ln_scan g g2 A k p := by
  intro A
  induction A with
  | nil => intro k p h; simp [ln_wl] at h
  | cons x A ih =>
    intro k p h
    have e1 : ln_wl g (x :: A) = g x + ln_wl g A := by simp [ln_wl]
    rw [e1] at h
    rw [List.cons_append, ln_scan, ln_scan]
    split
    · rfl
    · exact ih (by omega)
theorem scan_congr {F G F2 G2 : Nat → Nat} : ∀ (l : List Nat) {k p : Nat}, (∀ x ∈ l, F x = G x ∧ F2 x = G2 x) → ln_scan F F2 l k p = ln_scan G G2 l k p := by
  intro l
  induction l with
  | nil => intro k p h; rfl
  | cons x l ih =>
    intro k p h
    have hx := h x List.mem_cons_self
    rw [ln_scan, ln_scan, hx.1, hx.2, ih (fun y hy => h y (List.mem_cons_of_mem _ hy))]
theorem run_cons (w : ln_W) (bs : List Nat) (x : Nat) (l : List Nat) : ln_run w bs (x :: l) = ln_run w bs [x] ++ ln_run w bs l := ln_run_app w bs [x] l
theorem go_eq {w : ln_W} {bs : List Nat} {g g2 : Nat → Nat} {F F2 : Nat → Nat → Nat} {C : Nat} (hF : ∀ k x, k ≤ bs.length → x < 6 → F k x = min (ln_wT w bs g k x) C) (hF2 : ∀ k x, k ≤ bs.length → x < 6 → F2 k x = min (ln_wT w bs g2 k x) C) (hw : ln_ok w) :
    ∀ (n j : Nat), n + j = bs.length → ∀ (l : List Nat) (k p : Nat), (∀ x ∈ l, x < 6) → ln_wl g (ln_run w (bs.drop j) l) ≤ C → ln_wl g2 (ln_run w (bs.drop j) l) ≤ C → k < ln_wl g (ln_run w (bs.drop j) l) →
      ln_go w bs F F2 n j (ln_scan (F j) (F2 j) l k p).1 (ln_scan (F j) (F2 j) l k p).2.1 (ln_scan (F j) (F2 j) l k p).2.2 = ln_scan g g2 (ln_run w (bs.drop j) l) k p := by
  intro n
  induction n with
  | zero =>
    intro j hj l k p hl h1 h2 hk
    obtain rfl : j = bs.length := by omega
    rw [List.drop_length] at h1 h2 hk ⊢
    rw [ln_run_nil] at h1 h2 hk ⊢
    rw [ln_go]
    refine scan_congr l (fun x hx => ?_)
    have hm : ∀ (q : Nat → Nat), ln_wl q l ≤ C → q x ≤ C := by
      intro q hq
      have : ∀ m : List Nat, x ∈ m → q x ≤ ln_wl q m := by
        intro m
        induction m with
        | nil => intro h; cases h
        | cons y m ih =>
          intro h
          have e : ln_wl q (y :: m) = q y + ln_wl q m := by simp [ln_wl]
          rcases List.mem_cons.mp h with rfl | h
          · omega
          · have := ih h; omega
      exact Nat.le_trans (this l hx) hq
    rw [hF _ x (Nat.le_refl _) (hl x hx), hF2 _ x (Nat.le_refl _) (hl x hx), wT_end, wT_end, Nat.min_eq_left (hm g h1), Nat.min_eq_left (hm g2 h2)]
    exact ⟨rfl, rfl⟩
  | succ n ih =>
    intro j hj l
    induction l with
    | nil =>
      intro k p hl h1 h2 hk
      rw [ln_run_empty] at hk
      simp [ln_wl] at hk
    | cons x l ihl =>
      intro k p hl h1 h2 hk
      rw [run_cons, wl_app] at h1 h2 hk
      have hx := hl x List.mem_cons_self
      have eF : F j x = ln_wl g (ln_run w (bs.drop j) [x]) := by rw [hF j x (by omega) hx, ln_wT, Nat.min_eq_left (by omega)]
      have eF2 : F2 j x = ln_wl g2 (ln_run w (bs.drop j) [x]) := by rw [hF2 j x (by omega) hx, ln_wT, Nat.min_eq_left (by omega)]
      rw [run_cons]
      by_cases hc : k < F j x
      · rw [show ln_scan (F j) (F2 j) (x :: l) k p = (some x, k, p) by rw [ln_scan, if_pos hc]]
        show ln_go w bs F F2 (n + 1) j (some x) k p = _
        have er : ln_run w (bs.drop j) [x] = ln_run w (bs.drop (j + 1)) (ln_sub w (bs.getD j 0) x) := by
          rw [drop_getD (by omega), ln_run_cons]; simp
        rw [ln_go, scan_in _ (by rw [← eF]; exact hc), er]
        refine ih (j + 1) (by omega) _ k p (fun y hy => ln_sub_lt hw hy) ?_ ?_ ?_
        · rw [← er]; omega
        · rw [← er]; omega
        · rw [← er, ← eF]; exact hc
      · rw [show ln_scan (F j) (F2 j) (x :: l) k p = ln_scan (F j) (F2 j) l (k - F j x) (p + F2 j x) by rw [ln_scan, if_neg hc]]
        rw [scan_skip _ (by rw [← eF]; omega), ← eF, ← eF2]
        exact ihl _ _ (fun y hy => hl y (List.mem_cons_of_mem _ hy)) (by omega) (by omega) (by omega)
/-- along letters that each weigh one -/
theorem scan_one {g2 : Nat → Nat} : ∀ (l : List Nat) {k p : Nat}, k < l.length → ln_scan (fun _ => 1) g2 l k p = (some (l.getD k 0), 0, p + ln_wl g2 (l.take k)) := by
  intro l
  induction l with
  | nil => intro k p h; simp at h
  | cons x l ih =>
    intro k p h
    rw [ln_scan]
    cases k with
    | zero => simp [ln_wl]
    | succ k =>
      rw [if_neg (by omega), show k + 1 - 1 = k by omega, ih (by simpa using h)]
      simp [ln_wl]
      omega
