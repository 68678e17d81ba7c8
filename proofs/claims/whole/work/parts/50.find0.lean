/-! Finder: how much of a word is read -/
abbrev fb_P (g : Nat → Nat) (k m : Nat) : Prop := k ≤ m ∧ ∀ i, i < k → g i = g (m - k + i)
/-- the greatest j ≤ b that is such -/
def fb_g (g : Nat → Nat) (m : Nat) : Nat → Nat
  | 0 => 0
  | b + 1 => if fb_P g (b + 1) m then b + 1 else fb_g g m b
def fbk (g : Nat → Nat) (m : Nat) : Nat := fb_g g m (m - 1)
/-- behind s letters read and x: the greatest j ≤ b so that j letters are read -/
def kp (g : Nat → Nat) (s x : Nat) : Nat → Nat
  | 0 => 0
  | b + 1 => if fb_P g b s ∧ g b = x then b + 1 else kp g s x b
theorem fb_P_zero (g : Nat → Nat) (m : Nat) : fb_P g 0 m := ⟨Nat.zero_le _, fun i hi => absurd hi (by omega)⟩
theorem fb_P_self (g : Nat → Nat) (m : Nat) : fb_P g m m := ⟨Nat.le_refl _, fun i _ => by rw [Nat.sub_self, Nat.zero_add]⟩
theorem fb_P_trans {g : Nat → Nat} {j k m : Nat} (h1 : fb_P g j k) (h2 : fb_P g k m) : fb_P g j m := by
  obtain ⟨a1, b1⟩ := h1
  obtain ⟨a2, b2⟩ := h2
  refine ⟨by omega, fun i hi => ?_⟩
  rw [b1 i hi, b2 (k - j + i) (by omega)]
  congr 1
  omega
theorem fb_P_down {g : Nat → Nat} {j k m : Nat} (h1 : fb_P g j m) (h2 : fb_P g k m) (h : j ≤ k) : fb_P g j k := by
  obtain ⟨a1, b1⟩ := h1
  obtain ⟨a2, b2⟩ := h2
  refine ⟨h, fun i hi => ?_⟩
  rw [b1 i hi, b2 (k - j + i) (by omega)]
  congr 1
  omega
theorem fb_P_succ {g : Nat → Nat} {j s : Nat} : fb_P g (j + 1) (s + 1) ↔ fb_P g j s ∧ g j = g s := by
  constructor
  · intro ⟨a, b⟩
    refine ⟨⟨by omega, fun i hi => ?_⟩, ?_⟩
    · rw [b i (by omega)]; congr 1; omega
    · rw [b j (by omega)]; congr 1; omega
  · intro ⟨⟨a, b⟩, c⟩
    refine ⟨by omega, fun i hi => ?_⟩
    by_cases e : i = j
    · rw [e, c]; congr 1; omega
    · rw [b i (by omega)]; congr 1; omega
theorem fb_g_le (g : Nat → Nat) (m b : Nat) : fb_g g m b ≤ b := by
  induction b with
  | zero => exact Nat.le_refl _
  | succ b ih => rw [fb_g]; split <;> omega
theorem fb_g_P (g : Nat → Nat) (m b : Nat) : fb_P g (fb_g g m b) m := by
  induction b with
  | zero => exact fb_P_zero g m
  | succ b ih => rw [fb_g]; split; assumption; exact ih
theorem fb_g_max {g : Nat → Nat} {m b j : Nat} (h : j ≤ b) (hP : fb_P g j m) : j ≤ fb_g g m b := by
  induction b with
  | zero => omega
  | succ b ih =>
    rw [fb_g]
    split
    · exact h
    · rename_i hn
      by_cases e : j = b + 1
      · rw [e] at hP; exact absurd hP hn
      · exact ih (by omega)
theorem fb_g_lt {g : Nat → Nat} {m : Nat} (h : 0 < m) : fbk g m < m := by have := fb_g_le g m (m - 1); unfold fbk; omega
theorem kp_le (g : Nat → Nat) (s x b : Nat) : kp g s x b ≤ b := by
  induction b with
  | zero => exact Nat.le_refl _
  | succ b ih => rw [kp]; split <;> omega
theorem kp_zero {g : Nat → Nat} {s x b : Nat} (h : ∀ j, j < b → fb_P g j s → ¬ g j = x) : kp g s x b = 0 := by
  induction b with
  | zero => rfl
  | succ b ih =>
    rw [kp, if_neg (fun q => h b (by omega) q.1 q.2)]
    exact ih (fun j hj => h j (by omega))
theorem kp_is {g : Nat → Nat} {s x b r : Nat} (hr : r < b) (hP : fb_P g r s) (hx : g r = x) (h : ∀ j, r < j → j < b → fb_P g j s → ¬ g j = x) : kp g s x b = r + 1 := by
  induction b with
  | zero => omega
  | succ b ih =>
    rw [kp]
    by_cases e : r = b
    · rw [← e, if_pos ⟨hP, hx⟩]
    · rw [if_neg (fun q => h b (by omega) (by omega) q.1 q.2)]
      exact ih (by omega) (fun j h1 h2 => h j h1 (by omega))
/-- what is fallen back to behind one letter more -/
theorem kp_fb {g : Nat → Nat} {s b : Nat} : kp g s (g s) b = fb_g g (s + 1) b := by
  induction b with
  | zero => rfl
  | succ b ih =>
    rw [kp, fb_g, ih]
    by_cases h : fb_P g b s ∧ g b = g s
    · rw [if_pos h, if_pos (fb_P_succ.2 h)]
    · rw [if_neg h, if_neg (fun q => h (fb_P_succ.1 q))]
theorem kp_fbk {g : Nat → Nat} {m : Nat} (h : 0 < m) : kp g (fbk g m) (g m) (fbk g m + 1) = fbk g (m + 1) := by
  have hb := fb_g_lt (g := g) h
  have hP : fb_P g (fbk g m) m := fb_g_P g m (m - 1)
  rw [show fbk g (m + 1) = kp g m (g m) m from kp_fb.symm]
  by_cases ex : ∃ r, r < m ∧ fb_P g r m ∧ g r = g m ∧ ∀ j, r < j → j < m → fb_P g j m → ¬ g j = g m
  · obtain ⟨r, h1, h2, h3, h4⟩ := ex
    have hle : r ≤ fbk g m := fb_g_max (by omega) h2
    rw [kp_is h1 h2 h3 h4, kp_is (r := r) (by omega) (fb_P_down h2 hP hle) h3 (fun j q1 q2 q3 => h4 j q1 (by omega) (fb_P_trans q3 hP))]
  · have hno : ∀ n j, m - j = n → j < m → fb_P g j m → ¬ g j = g m := by
      intro n
      induction n using Nat.strongRecOn with
      | _ n ih =>
        intro j e1 e2 e3 e4
        exact ex ⟨j, e2, e3, e4, fun i q1 q2 q3 => ih (m - i) (by omega) i rfl q2 q3⟩
    rw [kp_zero (fun j q1 q2 => hno _ j rfl q1 q2), kp_zero (fun j q1 q2 => hno _ j rfl (by omega) (fb_P_trans q2 hP))]
/-- the state behind a letter more; whether the word ends there -/
def fd_d (g : Nat → Nat) (n s x : Nat) : Nat := if s + 1 = n ∧ g s = x then kp g s x s else kp g s x (s + 1)
def fd_h (g : Nat → Nat) (n s x : Nat) : Nat := if s + 1 = n ∧ g s = x then 1 else 0
theorem fd_d_lt {g : Nat → Nat} {n s : Nat} (x : Nat) (h : s < n) : fd_d g n s x < n := by
  unfold fd_d
  split
  · have := kp_le g s x s; omega
  · rename_i hn
    have h1 := kp_le g s x (s + 1)
    by_cases e : s + 1 = n
    · rw [kp, if_neg (fun q => hn ⟨e, q.2⟩)]
      have := kp_le g s x s; omega
    · omega
theorem kp_full {g : Nat → Nat} {n s x : Nat} (h : s < n) : kp g s x (s + 1) = n ↔ s + 1 = n ∧ g s = x := by
  constructor
  · intro e
    have h1 := kp_le g s x (s + 1)
    have e1 : s + 1 = n := by omega
    refine ⟨e1, ?_⟩
    by_cases q : g s = x
    · exact q
    · rw [kp, if_neg (fun z => q z.2)] at e
      have := kp_le g s x s; omega
  · intro ⟨e1, e2⟩
    rw [kp, if_pos ⟨fb_P_self g s, e2⟩, e1]
theorem fd_d_is {g : Nat → Nat} {n s x : Nat} (h : s < n) : (if kp g s x (s + 1) = n then fbk g n else kp g s x (s + 1)) = fd_d g n s x := by
  unfold fd_d
  by_cases e : s + 1 = n ∧ g s = x
  · rw [if_pos ((kp_full h).2 e), if_pos e, ← e.2, kp_fb, fbk, ← e.1, Nat.add_sub_cancel]
  · rw [if_neg (fun q => e ((kp_full h).1 q)), if_neg e]
theorem fd_h_is {g : Nat → Nat} {n s x : Nat} (h : s < n) : (if kp g s x (s + 1) = n then 1 else 0) = fd_h g n s x := by
  unfold fd_h
  by_cases e : s + 1 = n ∧ g s = x
  · rw [if_pos ((kp_full h).2 e), if_pos e]
  · rw [if_neg (fun q => e ((kp_full h).1 q)), if_neg e]
/-- along a text: the state behind it, the hits in it, the place of the first -/
def fa_s (g : Nat → Nat) (n : Nat) (s : Nat) (l : List Nat) : Nat := l.foldl (fd_d g n) s
def fa_h (g : Nat → Nat) (n : Nat) : Nat → List Nat → Nat
  | _, [] => 0
  | s, x :: l => fd_h g n s x + fa_h g n (fd_d g n s x) l
def fa_f (g : Nat → Nat) (n : Nat) : Nat → Nat → List Nat → Option Nat
  | _, _, [] => none
  | s, p, x :: l => if fd_h g n s x = 1 then some p else fa_f g n (fd_d g n s x) (p + 1) l
theorem fa_s_app (g : Nat → Nat) (n s : Nat) (l m : List Nat) : fa_s g n s (l ++ m) = fa_s g n (fa_s g n s l) m := by simp [fa_s]
theorem fa_h_app (g : Nat → Nat) (n s : Nat) (l m : List Nat) : fa_h g n s (l ++ m) = fa_h g n s l + fa_h g n (fa_s g n s l) m := by
  induction l generalizing s with
  | nil => simp [fa_h, fa_s]
  | cons x l ih =>
    rw [List.cons_append, fa_h, fa_h, ih]
    show _ = _ + fa_h g n (fa_s g n (fd_d g n s x) l) m
    omega
theorem fa_s_lt {g : Nat → Nat} {n s : Nat} (l : List Nat) (h : s < n) : fa_s g n s l < n := by
  induction l generalizing s with
  | nil => exact h
  | cons x l ih => exact ih (fd_d_lt x h)
theorem fd_h_le (g : Nat → Nat) (n s x : Nat) : fd_h g n s x ≤ 1 := by unfold fd_h; split <;> omega
theorem fa_h_le (g : Nat → Nat) (n s : Nat) (l : List Nat) : fa_h g n s l ≤ l.length := by
  induction l generalizing s with
  | nil => exact Nat.le_refl _
  | cons x l ih =>
    rw [fa_h, List.length_cons]
    have := ih (fd_d g n s x)
    have := fd_h_le g n s x
    omega
theorem fa_f_none {g : Nat → Nat} {n s p : Nat} {l : List Nat} (h : fa_h g n s l = 0) : fa_f g n s p l = none := by
  induction l generalizing s p with
  | nil => rfl
  | cons x l ih =>
    rw [fa_h] at h
    rw [fa_f, if_neg (by omega)]
    exact ih (by omega)
theorem fa_f_app0 {g : Nat → Nat} {n s p : Nat} {l m : List Nat} (h : fa_h g n s l = 0) : fa_f g n s p (l ++ m) = fa_f g n (fa_s g n s l) (p + l.length) m := by
  induction l generalizing s p with
  | nil => rfl
  | cons x l ih =>
    rw [fa_h] at h
    rw [List.cons_append, fa_f, if_neg (by omega), ih (by omega), List.length_cons]
    congr 1
    omega
theorem fa_f_app1 {g : Nat → Nat} {n s p : Nat} {l m : List Nat} (h : 0 < fa_h g n s l) : fa_f g n s p (l ++ m) = fa_f g n s p l := by
  induction l generalizing s p with
  | nil => exact absurd h (Nat.lt_irrefl 0)
  | cons x l ih =>
    rw [fa_h] at h
    rw [List.cons_append, fa_f, fa_f]
    by_cases e : fd_h g n s x = 1
    · rw [if_pos e, if_pos e]
    · have := fd_h_le g n s x
      rw [if_neg e, if_neg e, ih (by omega)]
