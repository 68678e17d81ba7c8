/-! Chains of letters: what comes to what is a chain's order; the rows' last round changes nothing -/
theorem tb_0 (n y : Nat) : n >>> y &&& 1 = 0 ↔ n.testBit y = false := by
  rw [Nat.testBit, Nat.and_comm]
  simp
theorem kb_0 (f : Nat → Nat) (x y : Nat) : kb f x y = 0 ↔ (f x).testBit y = false := by
  unfold kb
  split
  · rename_i h
    exact ⟨fun _ => (tb_0 _ _).mp h, fun _ => rfl⟩
  · rename_i h
    exact ⟨fun q => by omega, fun q => absurd ((tb_0 _ _).mpr q) h⟩
theorem kb_1 (f : Nat → Nat) (x y : Nat) : kb f x y = 1 ↔ (f x).testBit y = true := by
  have h0 := kb_0 f x y
  have hl := kb_le f x y
  cases hq : (f x).testBit y with
  | false => rw [hq] at h0; simp at h0; simp [h0]
  | true => rw [hq] at h0; simp at h0; simp; omega
theorem kn_rw_is (f : Nat → Nat) (ov : Nat) : ∀ k y, kn_rw f ov k y = if y < k ∧ (f y).testBit ov = true then f y ||| f ov else f y := by
  intro k
  induction k with
  | zero => intro y; rw [if_neg (by omega)]; rfl
  | succ k ih =>
    intro y
    have hk : kn_rw f ov k k = f k := by rw [ih, if_neg (by omega)]
    have ho : kn_rw f ov k ov = f ov := by
      rw [ih]
      split
      · exact Nat.or_self _
      · rfl
    show kn_st (kn_rw f ov k) ov k y = _
    unfold kn_st
    by_cases hb : kb (kn_rw f ov k) k ov = 0
    · rw [if_pos hb, ih]
      rw [kb_0, hk] at hb
      by_cases e : y = k
      · subst e
        rw [if_neg (by omega), if_neg (by rw [hb]; simp)]
      · by_cases q : y < k ∧ (f y).testBit ov = true
        · rw [if_pos q, if_pos ⟨by omega, q.2⟩]
        · rw [if_neg q, if_neg (fun c => q ⟨by omega, c.2⟩)]
    · rw [if_neg hb]
      rw [kb_0, hk] at hb
      by_cases e : y = k
      · subst e
        rw [az_s_eq, hk, ho, if_pos ⟨by omega, by simpa using hb⟩]
      · rw [az_s_ne e, ih]
        by_cases q : y < k ∧ (f y).testBit ov = true
        · rw [if_pos q, if_pos ⟨by omega, q.2⟩]
        · rw [if_neg q, if_neg (fun c => q ⟨by omega, c.2⟩)]
abbrev kR (f : Nat → Nat) (x y : Nat) : Prop := (f x).testBit y = true
theorem kn_al_s {f : Nat → Nat} {n x y : Nat} (hx : x < 6) : kR (kn_al f (n + 1)) x y ↔ kR (kn_al f n) x y ∨ (kR (kn_al f n) x n ∧ kR (kn_al f n) n y) := by
  show (kn_rw (kn_al f n) n 6 x).testBit y = true ↔ _
  rw [kn_rw_is]
  by_cases q : (kn_al f n x).testBit n = true
  · rw [if_pos ⟨hx, q⟩, Nat.testBit_or, Bool.or_eq_true]
    exact ⟨fun h => h.elim Or.inl (fun h => Or.inr ⟨q, h⟩), fun h => h.elim Or.inl (fun h => Or.inr h.2)⟩
  · rw [if_neg (fun c => q c.2)]
    exact ⟨Or.inl, fun h => h.elim id (fun h => absurd h.1 q)⟩
theorem kn_al_P (f : Nat → Nat) : ∀ n, n ≤ 6 → ∀ m, m < n → ∀ x y, x < 6 → kR (kn_al f n) x m → kR (kn_al f n) m y → kR (kn_al f n) x y := by
  intro n
  induction n with
  | zero => intro _ m hm; omega
  | succ n ih =>
    intro hn m hm x y hx h1 h2
    have I := ih (by omega)
    rw [kn_al_s hx] at h1 ⊢
    rw [kn_al_s (show m < 6 by omega)] at h2
    by_cases e : m = n
    · subst e
      have h1' : kR (kn_al f m) x m := h1.elim id (fun h => h.1)
      have h2' : kR (kn_al f m) m y := h2.elim id (fun h => h.2)
      exact Or.inr ⟨h1', h2'⟩
    · have hm' : m < n := by omega
      rcases h1 with a | ⟨a, b⟩
      · rcases h2 with c | ⟨c, d⟩
        · exact Or.inl (I m hm' x y hx a c)
        · exact Or.inr ⟨I m hm' x n hx a c, d⟩
      · rcases h2 with c | ⟨c, d⟩
        · exact Or.inr ⟨a, I m hm' n y (by omega) b c⟩
        · exact Or.inr ⟨a, d⟩
theorem kn_al_T (f : Nat → Nat) {x m y : Nat} (hx : x < 6) (hm : m < 6) (h1 : kR (kn_al f 6) x m) (h2 : kR (kn_al f 6) m y) : kR (kn_al f 6) x y := kn_al_P f 6 (Nat.le_refl _) m hm x y hx h1 h2
theorem kn_al_M (f : Nat → Nat) {x y : Nat} (hx : x < 6) : ∀ n, kR f x y → kR (kn_al f n) x y := by
  intro n h
  induction n with
  | zero => exact h
  | succ n ih => exact (kn_al_s hx).mpr (Or.inl ih)
/-- transitive -/
def kT (f : Nat → Nat) : Prop := ∀ x m y, x < 6 → m < 6 → y < 6 → kb f x m = 1 → kb f m y = 1 → kb f x y = 1
theorem kT_al (f : Nat → Nat) : kT (kn_al f 6) := by
  intro x m y hx hm hy h1 h2
  rw [kb_1] at h1 h2 ⊢
  exact kn_al_T f hx hm h1 h2
def kmu (f : Nat → Nat) (x : Nat) : Nat := sm (fun y => kb f x y) 6
theorem sm_mono {F G : Nat → Nat} {k : Nat} (h : ∀ j, j < k → F j ≤ G j) : sm F k ≤ sm G k := by
  induction k with
  | zero => exact Nat.le_refl _
  | succ k ih =>
    rw [sm, sm]
    have := h k (by omega)
    have := ih (fun j hj => h j (by omega))
    omega
theorem sm_lt {F G : Nat → Nat} {k s : Nat} (hs : s < k) (h : ∀ j, j < k → F j ≤ G j) (hl : F s < G s) : sm F k < sm G k := by
  have h1 := sm_at (f := F) (g := fun j => if j = s then G j else F j) (s := s) (k := k) hs (fun j hj => if_neg hj)
  have h2 := sm_mono (F := fun j => if j = s then G j else F j) (G := G) (k := k) (fun j hj => by
    show (if j = s then G j else F j) ≤ G j
    split
    · exact Nat.le_refl _
    · exact h j hj)
  simp only [if_true] at h1
  omega
theorem kmu_le (f : Nat → Nat) (x : Nat) : kmu f x ≤ 6 := by
  have := sm_mono (F := fun y => kb f x y) (G := fun _ => 1) (k := 6) (fun j _ => kb_le f x j)
  rw [sm_const] at this
  exact this
theorem kmu_lt {f : Nat → Nat} (hT : kT f) {x y : Nat} (hx : x < 6) (hy : y < 6) (h1 : kb f x y = 1) (h2 : kb f y x = 0) (h3 : kb f x x = 1) : kmu f y < kmu f x := by
  refine sm_lt hx (fun z hz => ?_) (by show kb f y x < kb f x x; omega)
  show kb f y z ≤ kb f x z
  have hl := kb_le f y z
  by_cases q : kb f y z = 1
  · rw [hT x y z hx hy hz h1 q]; exact hl
  · omega
theorem kmu_pos {f : Nat → Nat} {x : Nat} (hx : x < 6) (h : kb f x x = 1) : 1 ≤ kmu f x := by
  have := sm_ge (c := fun y => kb f x y) (x := x) (k := 6) hx
  have e : (fun y => kb f x y) x = 1 := h
  unfold kmu
  omega
theorem kn_lb_c {f c c' : Nat → Nat} {x : Nat} : ∀ k, (∀ y, y < k → kb f x y = 1 → kb f y x = 0 → c y = c' y) → kn_lb f c x k = kn_lb f c' x k := by
  intro k
  induction k with
  | zero => intro _; rfl
  | succ k ih =>
    intro h
    have hl := kb_le f x k
    have i := ih (fun y hy => h y (by omega))
    rw [kn_lb, kn_lb, i]
    by_cases q : kb f x k = 0
    · rw [if_pos q, if_pos q]
    · rw [if_neg q, if_neg q]
      by_cases q2 : kb f k x = 0
      · rw [if_pos q2, if_pos q2, h k (by omega) (by omega) q2]
      · rw [if_neg q2, if_neg q2]
def kSt (f c : Nat → Nat) (n : Nat) : Prop := (∀ x, x < 6 → kb f x x = 0 → c x = 0) ∧ (∀ x, x < 6 → kb f x x = 1 → kmu f x ≤ n → c x = 1 + kn_lb f c x 6)
theorem kSt_same {f c : Nat → Nat} {n x0 x : Nat} (H : kSt f c n) (hx : x < 6) (h : kb f x x = 0 ∨ kmu f x ≤ n) : kc_st f c x0 x = c x := by
  unfold kc_st
  split
  · rfl
  · rename_i q
    by_cases e : x = x0
    · subst e
      have hl := kb_le f x x
      rw [az_s_eq, H.2 x hx (by omega) (by omega)]
    · rw [az_s_ne e]
theorem kSt_rel {f : Nat → Nat} (hT : kT f) {n x y : Nat} (hx : x < 6) (hy : y < 6) (hc : kb f x x = 1) (hm : kmu f x ≤ n + 1) (h1 : kb f x y = 1) (h2 : kb f y x = 0) : kb f y y = 0 ∨ kmu f y ≤ n := by
  right
  have := kmu_lt hT hx hy h1 h2 hc
  omega
theorem kSt_st {f c : Nat → Nat} (hT : kT f) {n x0 : Nat} (H : kSt f c n) : kSt f (kc_st f c x0) n := by
  refine ⟨fun x hx h0 => ?_, fun x hx h1 hm => ?_⟩
  · rw [kSt_same H hx (Or.inl h0)]
    exact H.1 x hx h0
  · rw [kSt_same H hx (Or.inr hm), H.2 x hx h1 hm]
    congr 1
    exact (kn_lb_c 6 (fun y hy q1 q2 => kSt_same H hy (kSt_rel hT hx hy h1 (by omega) q1 q2))).symm
theorem kSt_rw {f c : Nat → Nat} (hT : kT f) {n : Nat} (H : kSt f c n) : ∀ k, k ≤ 6 → kSt f (kc_rw f c k) n ∧ ∀ x, x < k → kb f x x = 1 → kmu f x ≤ n + 1 → kc_rw f c k x = 1 + kn_lb f (kc_rw f c k) x 6 := by
  intro k
  induction k with
  | zero => intro _; exact ⟨H, fun x hx => absurd hx (by omega)⟩
  | succ k ih =>
    intro hk
    obtain ⟨I1, I2⟩ := ih (by omega)
    have e9 : kc_rw f c (k + 1) = kc_st f (kc_rw f c k) k := rfl
    have key : ∀ x, x < 6 → kb f x x = 1 → kmu f x ≤ n + 1 → kn_lb f (kc_st f (kc_rw f c k) k) x 6 = kn_lb f (kc_rw f c k) x 6 := fun x hx h1 hm => kn_lb_c 6 (fun y hy q1 q2 => kSt_same I1 hy (kSt_rel hT hx hy h1 hm q1 q2))
    rw [e9]
    refine ⟨kSt_st hT I1, fun x hx h1 hm => ?_⟩
    rw [key x (by omega) h1 hm]
    by_cases e : x = k
    · subst e
      unfold kc_st
      rw [if_neg (by omega), az_s_eq]
    · rw [← I2 x (by omega) h1 hm]
      unfold kc_st
      split
      · rfl
      · rw [az_s_ne e]
theorem kSt_al {f : Nat → Nat} (hT : kT f) : ∀ n, kSt f (kc_al f n) n := by
  intro n
  induction n with
  | zero => exact ⟨fun _ _ _ => rfl, fun x hx h1 hm => absurd (kmu_pos hx h1) (by omega)⟩
  | succ n ih =>
    have h := kSt_rw hT ih 6 (Nat.le_refl _)
    exact ⟨h.1.1, fun x hx h1 hm => h.2 x hx h1 hm⟩
theorem kc_fix {f : Nat → Nat} (hT : kT f) {x : Nat} (hx : x < 6) (h : kb f x x = 1) : kc_al f 6 x = 1 + kn_lb f (kc_al f 6) x 6 := (kSt_al hT 6).2 x hx h (kmu_le f x)
theorem kc_non {f : Nat → Nat} (hT : kT f) {x : Nat} (hx : x < 6) (h : kb f x x = 0) : kc_al f 6 x = 0 := (kSt_al hT 6).1 x hx h

