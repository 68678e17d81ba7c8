/-! THE STREET: letters, nights, counts, orders -/
section LNM
/-- what a letter becomes by a table -/
def ln_sub (w : ln_W) (tb x : Nat) : List Nat := (List.range (ln_sz w (tb * 6 + x))).map (fun i => ln_ch w ((tb * 6 + x) * 4 + i))
def ln_word (w : ln_W) : List Nat := (List.range (ln_sd w)).map (ln_st w)
def ln_run (w : ln_W) (bs : List Nat) (l : List Nat) : List Nat := bs.foldl (fun l tb => l.flatMap (ln_sub w tb)) l
def ln_str (w : ln_W) (bs : List Nat) : List Nat := ln_run w bs (ln_word w)
theorem ln_run_nil (w : ln_W) (l : List Nat) : ln_run w [] l = l := rfl
theorem ln_run_cons (w : ln_W) (b : Nat) (bs l : List Nat) : ln_run w (b :: bs) l = ln_run w bs (l.flatMap (ln_sub w b)) := rfl
theorem ln_run_snoc (w : ln_W) (b : Nat) (bs l : List Nat) : ln_run w (bs ++ [b]) l = (ln_run w bs l).flatMap (ln_sub w b) := by simp [ln_run]
theorem ln_run_app (w : ln_W) (bs : List Nat) : ∀ l m : List Nat, ln_run w bs (l ++ m) = ln_run w bs l ++ ln_run w bs m := by
  induction bs with
  | nil => intro l m; rfl
  | cons b bs ih =>
    intro l m
    rw [ln_run_cons, ln_run_cons, ln_run_cons, List.flatMap_append, ih]
theorem ln_run_empty (w : ln_W) (bs : List Nat) : ln_run w bs [] = [] := by
  induction bs with
  | nil => rfl
  | cons b bs ih => exact ih
theorem ln_run_flat (w : ln_W) (bs : List Nat) (l : List Nat) : ln_run w bs l = l.flatMap (fun c => ln_run w bs [c]) := by
  induction l with
  | nil => exact ln_run_empty w bs
  | cons x l ih =>
    rw [show x :: l = [x] ++ l from rfl, ln_run_app, ih]
    simp
theorem ln_str_snoc (w : ln_W) (b : Nat) (bs : List Nat) : ln_str w (bs ++ [b]) = (ln_str w bs).flatMap (ln_sub w b) := ln_run_snoc w b bs _
theorem ln_sub_lt {w : ln_W} (hw : ln_ok w) {tb x y : Nat} (h : y ∈ ln_sub w tb x) : y < 6 := by
  obtain ⟨i, -, rfl⟩ := List.mem_map.mp h
  exact hw.2.2.2.2.2.2.2.1 _
theorem ln_word_lt {w : ln_W} (hw : ln_ok w) {y : Nat} (h : y ∈ ln_word w) : y < 6 := by
  obtain ⟨i, -, rfl⟩ := List.mem_map.mp h
  exact hw.2.2.2.2.2.1 _
theorem ln_run_lt {w : ln_W} (hw : ln_ok w) (bs : List Nat) : ∀ l : List Nat, (∀ y ∈ l, y < 6) → ∀ y ∈ ln_run w bs l, y < 6 := by
  induction bs with
  | nil => intro l h; exact h
  | cons b bs ih =>
    intro l h
    refine ih _ (fun y hy => ?_)
    obtain ⟨x, -, hx⟩ := List.mem_flatMap.mp hy
    exact ln_sub_lt hw hx
theorem ln_str_lt {w : ln_W} (hw : ln_ok w) (bs : List Nat) : ∀ y ∈ ln_str w bs, y < 6 := ln_run_lt hw bs _ (fun _ h => ln_word_lt hw h)
theorem ln_sub_len (w : ln_W) (tb x : Nat) : (ln_sub w tb x).length = ln_sz w (tb * 6 + x) := by simp [ln_sub]
theorem ln_sub_get (w : ln_W) (tb x i : Nat) (h : i < ln_sz w (tb * 6 + x)) : (ln_sub w tb x)[i]? = some (ln_ch w ((tb * 6 + x) * 4 + i)) := by simp [ln_sub, h]
/-- a sum over the letters below k -/
def sm (g : Nat → Nat) : Nat → Nat
  | 0 => 0
  | k + 1 => sm g k + g k
theorem sm_congr {f g : Nat → Nat} {k : Nat} (h : ∀ j, j < k → f j = g j) : sm f k = sm g k := by
  induction k with
  | zero => rfl
  | succ k ih => rw [sm, sm, ih (fun j hj => h j (by omega)), h k (by omega)]
theorem sm_add (f g : Nat → Nat) (k : Nat) : sm (fun j => f j + g j) k = sm f k + sm g k := by
  induction k with
  | zero => rfl
  | succ k ih => rw [sm, sm, sm, ih]; omega
theorem sm_zero (k : Nat) : sm (fun _ => 0) k = 0 := by
  induction k with
  | zero => rfl
  | succ k ih => rw [sm, ih]
theorem sm_one (g : Nat → Nat) (x k : Nat) (h : x < k) : sm (fun j => (if j = x then 1 else 0) * g j) k = g x := by
  induction k with
  | zero => omega
  | succ k ih =>
    rw [sm]
    by_cases hx : x = k
    · subst hx
      have : sm (fun j => (if j = x then 1 else 0) * g j) x = 0 := (sm_congr (g := fun _ => 0) (fun j hj => by rw [if_neg (by omega), Nat.zero_mul])).trans (sm_zero x)
      rw [this]; simp
    · rw [ih (by omega), if_neg (by omega)]; omega
theorem cnt_cons (x y : Nat) (l : List Nat) : (x :: l).count y = l.count y + (if y = x then 1 else 0) := by
  rw [List.count_cons]
  by_cases h : x = y
  · subst h; simp
  · simp [h, Ne.symm h]
theorem cnt_flat (f : Nat → List Nat) (y : Nat) (l : List Nat) (hl : ∀ x ∈ l, x < 6) : (l.flatMap f).count y = sm (fun z => l.count z * (f z).count y) 6 := by
  induction l with
  | nil => rw [show (fun z => List.count z [] * (f z).count y) = (fun _ => 0) by funext z; simp]; rw [sm_zero]; rfl
  | cons x l ih =>
    rw [List.flatMap_cons, List.count_append, ih (fun z hz => hl z (List.mem_cons_of_mem _ hz))]
    have e : (fun z => List.count z (x :: l) * (f z).count y) = (fun z => List.count z l * (f z).count y + (if z = x then 1 else 0) * (f z).count y) := by
      funext z
      rw [cnt_cons, Nat.add_mul]
    rw [e, sm_add, sm_one (fun z => (f z).count y) x 6 (hl x List.mem_cons_self)]
    omega
theorem len_flat (f : Nat → List Nat) (l : List Nat) (hl : ∀ x ∈ l, x < 6) : (l.flatMap f).length = sm (fun z => l.count z * (f z).length) 6 := by
  induction l with
  | nil => rw [show (fun z => List.count z [] * (f z).length) = (fun _ => 0) by funext z; simp]; rw [sm_zero]; rfl
  | cons x l ih =>
    rw [List.flatMap_cons, List.length_append, ih (fun z hz => hl z (List.mem_cons_of_mem _ hz))]
    have e : (fun z => List.count z (x :: l) * (f z).length) = (fun z => List.count z l * (f z).length + (if z = x then 1 else 0) * (f z).length) := by
      funext z
      rw [cnt_cons, Nat.add_mul]
    rw [e, sm_add, sm_one (fun z => (f z).length) x 6 (hl x List.mem_cons_self)]
    omega
/-- letters by where each stands first -/
def ln_en (acc : List Nat) (x : Nat) : List Nat := if x ∈ acc then acc else acc ++ [x]
def ln_dd (l : List Nat) : List Nat := l.foldl ln_en []
theorem en_mem {acc : List Nat} {x y : Nat} : y ∈ ln_en acc x ↔ y ∈ acc ∨ y = x := by
  unfold ln_en
  split
  · constructor
    · exact Or.inl
    · rintro (h | rfl)
      · exact h
      · assumption
  · simp
theorem ens_mem (l : List Nat) : ∀ (acc : List Nat) (y : Nat), y ∈ l.foldl ln_en acc ↔ y ∈ acc ∨ y ∈ l := by
  induction l with
  | nil => intro acc y; simp
  | cons x l ih => intro acc y; rw [List.foldl_cons, ih, en_mem, List.mem_cons]; exact or_assoc
theorem dd_mem (l : List Nat) (y : Nat) : y ∈ ln_dd l ↔ y ∈ l := by rw [ln_dd, ens_mem]; simp
theorem ens_in (m : List Nat) : ∀ (acc : List Nat), (∀ y ∈ m, y ∈ acc) → m.foldl ln_en acc = acc := by
  induction m with
  | nil => intro acc _; rfl
  | cons x m ih =>
    intro acc h
    have hx : ln_en acc x = acc := by rw [ln_en, if_pos (h x List.mem_cons_self)]
    rw [List.foldl_cons, hx]
    exact ih acc (fun y hy => h y (List.mem_cons_of_mem _ hy))
theorem dd_snoc (l : List Nat) (x : Nat) : ln_dd (l ++ [x]) = ln_en (ln_dd l) x := by simp [ln_dd]
theorem dd_app (l m : List Nat) : ln_dd (l ++ m) = m.foldl ln_en (ln_dd l) := by simp [ln_dd]
/-- a night's first places come out of the kinds' first places -/
theorem dd_flat (f : Nat → List Nat) : ∀ (n : Nat) (l : List Nat), l.length = n → ln_dd (l.flatMap f) = ln_dd ((ln_dd l).flatMap f) := by
  intro n
  induction n with
  | zero =>
    intro l h
    rw [List.length_eq_zero_iff.mp h]; rfl
  | succ n ih =>
    intro l h
    obtain ⟨m, x, rfl⟩ : ∃ m x, l = m ++ [x] := ⟨l.dropLast, l.getLast (by intro q; rw [q] at h; simp at h), (List.dropLast_concat_getLast _).symm⟩
    have hm : m.length = n := by simpa using h
    rw [List.flatMap_append, dd_app, ih m hm, dd_snoc]
    by_cases hx : x ∈ ln_dd m
    · rw [show ln_en (ln_dd m) x = ln_dd m by rw [ln_en, if_pos hx]]
      refine ens_in _ _ (fun y hy => ?_)
      rw [dd_mem]
      exact List.mem_flatMap.mpr ⟨x, hx, by simpa using hy⟩
    · rw [show ln_en (ln_dd m) x = ln_dd m ++ [x] by rw [ln_en, if_neg hx], List.flatMap_append, dd_app]
theorem en_nodup {acc : List Nat} {x : Nat} (h : acc.Nodup) : (ln_en acc x).Nodup := by
  unfold ln_en
  split
  · exact h
  · rename_i hx
    rw [List.nodup_append]
    exact ⟨h, by simp, fun a ha b hb => by
      rw [List.mem_singleton] at hb
      subst hb
      exact fun e => hx (e ▸ ha)⟩
theorem ens_nodup (l : List Nat) : ∀ acc : List Nat, acc.Nodup → (l.foldl ln_en acc).Nodup := by
  induction l with
  | nil => intro acc h; exact h
  | cons x l ih => intro acc h; exact ih _ (en_nodup h)
theorem dd_nodup (l : List Nat) : (ln_dd l).Nodup := ens_nodup l [] List.nodup_nil
theorem nodup_lt : ∀ (n : Nat) (l : List Nat), l.Nodup → (∀ x ∈ l, x < n) → l.length ≤ n := by
  intro n
  induction n with
  | zero =>
    intro l _ h
    cases l with
    | nil => simp
    | cons x l => exact absurd (h x List.mem_cons_self) (by omega)
  | succ n ih =>
    intro l hn h
    have h1 : (l.erase n).length ≤ n := by
      refine ih _ (hn.erase _) (fun x hx => ?_)
      have := h x (List.mem_of_mem_erase hx)
      have hne : x ≠ n := fun e => by
        subst e
        exact (List.Nodup.not_mem_erase hn) hx
      omega
    have h2 := List.length_erase (a := n) (l := l)
    by_cases hm : n ∈ l
    · rw [if_pos hm] at h2; omega
    · rw [if_neg hm] at h2; omega
theorem dd_len {l : List Nat} (h : ∀ x ∈ l, x < 6) : (ln_dd l).length ≤ 6 := nodup_lt 6 _ (dd_nodup l) (fun x hx => h x ((dd_mem l x).mp hx))
theorem ens_pre (l : List Nat) : ∀ acc : List Nat, ∃ t, l.foldl ln_en acc = acc ++ t := by
  induction l with
  | nil => intro acc; exact ⟨[], by simp⟩
  | cons x l ih =>
    intro acc
    obtain ⟨t, ht⟩ := ih (ln_en acc x)
    rw [List.foldl_cons, ht]
    unfold ln_en
    split
    · exact ⟨t, rfl⟩
    · exact ⟨[x] ++ t, by simp⟩
theorem dd_head (l : List Nat) : (ln_dd l).head? = l.head? := by
  cases l with
  | nil => rfl
  | cons x l =>
    obtain ⟨t, ht⟩ := ens_pre l [x]
    show (l.foldl ln_en (ln_en [] x)).head? = _
    rw [show ln_en [] x = [x] from rfl, ht]
    rfl
end LNM
