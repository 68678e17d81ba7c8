/-! The model: comes -/
theorem ca_bit {w : ln_W} {tb s c : Nat} : ∀ k, (ln_ca w tb s k).testBit c = true ↔ ∃ x, x < k ∧ s.testBit x = true ∧ (ln_cb w (tb * 6 + x) (ln_sz w (tb * 6 + x))).testBit c = true := by
  intro k
  induction k with
  | zero => simp [ln_ca]
  | succ k ih =>
    rw [ca_s]
    by_cases q : s >>> k &&& 1 = 0
    · rw [if_pos q, ih]
      rw [tb_0] at q
      exact ⟨fun ⟨x, h1, h2⟩ => ⟨x, by omega, h2⟩, fun ⟨x, h1, h2, h3⟩ => ⟨x, by (have : x ≠ k := fun e => by rw [e, q] at h2; cases h2); omega, h2, h3⟩⟩
    · rw [if_neg q, Nat.testBit_or, Bool.or_eq_true, ih]
      have q2 : s.testBit k = true := by
        cases hq : s.testBit k with
        | true => rfl
        | false => exact absurd ((tb_0 _ _).mpr hq) q
      constructor
      · rintro (⟨x, h1, h2⟩ | h)
        · exact ⟨x, by omega, h2⟩
        · exact ⟨k, by omega, q2, h⟩
      · rintro ⟨x, h1, h2, h3⟩
        by_cases e : x = k
        · exact Or.inr (e ▸ h3)
        · exact Or.inl ⟨x, by omega, h2, h3⟩
theorem cmst_bit {w : ln_W} {s c : Nat} : ∀ k, (cm_st w s k).testBit c = true ↔ s.testBit c = true ∨ ∃ t, t < k ∧ (ln_ca w t s 6).testBit c = true := by
  intro k
  induction k with
  | zero => exact ⟨Or.inl, fun h => h.elim id (fun ⟨t, h, _⟩ => absurd h (by omega))⟩
  | succ k ih =>
    rw [cm_st, Nat.testBit_or, Bool.or_eq_true, ih]
    constructor
    · rintro ((h | ⟨t, h1, h2⟩) | h)
      · exact Or.inl h
      · exact Or.inr ⟨t, by omega, h2⟩
      · exact Or.inr ⟨k, by omega, h⟩
    · rintro (h | ⟨t, h1, h2⟩)
      · exact Or.inl (Or.inl h)
      · by_cases e : t = k
        · exact Or.inr (e ▸ h2)
        · exact Or.inl (Or.inr ⟨t, by omega, h2⟩)
/-- what stands within so many nights -/
def cU (w : ln_W) (s0 : Nat) : Nat → Nat
  | 0 => s0
  | i + 1 => cm_st w (cU w s0 i) (ln_tb w)
theorem cU_lt {w : ln_W} (hw : ln_ok w) {s0 : Nat} (h : s0 < 64) (i : Nat) : cU w s0 i < 64 := by
  induction i with
  | zero => exact h
  | succ i ih => exact cm_st_lt hw ih _
theorem cU_mono {w : ln_W} {s0 c i : Nat} (h : (cU w s0 i).testBit c = true) : ∀ j, i ≤ j → (cU w s0 j).testBit c = true := by
  intro j
  induction j with
  | zero => intro q; rw [show i = 0 by omega] at h; exact h
  | succ j ih =>
    intro q
    by_cases e : i = j + 1
    · rw [← e]; exact h
    · exact (cmst_bit _).mpr (Or.inl (ih (by omega)))
theorem cm_someU {w : ln_W} {lt s0 : Nat} : ∀ (k i n : Nat), (∀ j, i ≤ j → j < n → (cU w s0 j).testBit lt = false) → (cU w s0 n).testBit lt = true → i ≤ n → n < i + k → cm w lt k i (cU w s0 i) = some n := by
  intro k
  induction k with
  | zero => intro i n _ _ h1 h2; omega
  | succ k ih =>
    intro i n h hn h1 h2
    rw [cm]
    by_cases e : i = n
    · rw [if_neg (by rw [tb_0, e, hn]; simp), e]
    · rw [if_pos ((tb_0 _ _).mpr (h i (Nat.le_refl _) (by omega)))]
      exact ih (i + 1) n (fun j q1 q2 => h j (by omega) q2) hn (by omega) (by omega)
theorem cm_noneU {w : ln_W} {lt s0 : Nat} : ∀ (k i : Nat), (∀ j, i ≤ j → j < i + k → (cU w s0 j).testBit lt = false) → cm w lt k i (cU w s0 i) = none := by
  intro k
  induction k with
  | zero => intro i _; rfl
  | succ k ih =>
    intro i h
    rw [cm, if_pos ((tb_0 _ _).mpr (h i (Nat.le_refl _) (by omega)))]
    exact ih (i + 1) (fun j q1 q2 => h j (by omega) (by omega))
/-- of how many kinds -/
def cn (s : Nat) : Nat := sm (fun y => if s.testBit y = true then 1 else 0) 6
theorem cn_le {s t : Nat} (h : ∀ c, c < 6 → s.testBit c = true → t.testBit c = true) : cn s ≤ cn t := by
  refine sm_mono (fun j hj => ?_)
  show (if _ then _ else _) ≤ (if _ then _ else _)
  by_cases q : s.testBit j = true
  · rw [if_pos q, if_pos (h j hj q)]; exact Nat.le_refl _
  · rw [if_neg q]; exact Nat.zero_le _
theorem cn_lt {s t c : Nat} (h : ∀ c, c < 6 → s.testBit c = true → t.testBit c = true) (hc : c < 6) (h1 : s.testBit c = false) (h2 : t.testBit c = true) : cn s < cn t := by
  refine sm_lt hc (fun j hj => ?_) ?_
  · show (if _ then _ else _) ≤ (if _ then _ else _)
    by_cases q : s.testBit j = true
    · rw [if_pos q, if_pos (h j hj q)]; exact Nat.le_refl _
    · rw [if_neg q]; exact Nat.zero_le _
  · show (if _ then _ else _) < (if _ then _ else _)
    rw [if_neg (by rw [h1]; simp), if_pos h2]; exact Nat.zero_lt_one
theorem cn_6 (s : Nat) : cn s ≤ 6 := by
  have := sm_mono (F := fun y => if s.testBit y = true then 1 else 0) (G := fun _ => 1) (k := 6) (fun j _ => by
    show (if _ then _ else _) ≤ 1
    split <;> omega)
  rw [sm_const] at this
  exact this
theorem bit_lt {s c : Nat} (hs : s < 64) (h : s.testBit c = true) : c < 6 := by
  apply Classical.byContradiction
  intro q
  have := Nat.testBit_lt_two_pow (x := s) (i := c) (Nat.lt_of_lt_of_le hs (Nat.pow_le_pow_right (show 0 < 2 by decide) (show 6 ≤ c by omega)))
  rw [this] at h
  cases h
/-- nothing comes later than the sixth night but what stands by then -/
theorem cU_stable {w : ln_W} (hw : ln_ok w) {s0 i : Nat} (h0 : s0 < 64) (h : cU w s0 (i + 1) = cU w s0 i) : ∀ j, i ≤ j → cU w s0 j = cU w s0 i := by
  intro j
  induction j with
  | zero => intro q; rw [show i = 0 by omega]
  | succ j ih =>
    intro q
    by_cases e : i = j + 1
    · rw [← e]
    · rw [cU, ih (by omega)]
      exact h
theorem cU_grow {w : ln_W} (hw : ln_ok w) {s0 : Nat} (h0 : s0 < 64) : ∀ i, (∃ j, j < i ∧ cU w s0 (j + 1) = cU w s0 j) ∨ cn s0 + i ≤ cn (cU w s0 i) := by
  intro i
  induction i with
  | zero => exact Or.inr (Nat.le_refl _)
  | succ i ih =>
    rcases ih with ⟨j, hj, he⟩ | h
    · exact Or.inl ⟨j, by omega, he⟩
    · by_cases e : cU w s0 (i + 1) = cU w s0 i
      · exact Or.inl ⟨i, by omega, e⟩
      · right
        have hm : ∀ c, c < 6 → (cU w s0 i).testBit c = true → (cU w s0 (i + 1)).testBit c = true := fun c _ q => cU_mono q (i + 1) (by omega)
        have hex : ∃ c, c < 6 ∧ (cU w s0 i).testBit c = false ∧ (cU w s0 (i + 1)).testBit c = true := by
          apply Classical.byContradiction
          intro q
          apply e
          apply Nat.eq_of_testBit_eq
          intro c
          cases h1 : (cU w s0 (i + 1)).testBit c with
          | true =>
            cases h2 : (cU w s0 i).testBit c with
            | true => rfl
            | false => exact absurd ⟨c, bit_lt (cU_lt hw h0 _) h1, h2, h1⟩ q
          | false =>
            cases h2 : (cU w s0 i).testBit c with
            | true => rw [hm c (bit_lt (cU_lt hw h0 _) h2) h2] at h1; cases h1
            | false => rfl
        obtain ⟨c, h1, h2, h3⟩ := hex
        have := cn_lt hm h1 h2 h3
        omega
theorem cU_empty {w : ln_W} : ∀ i, cU w 0 i = 0 := by
  have key : ∀ t, ln_ca w t 0 6 = 0 := by
    intro t
    apply Nat.eq_of_testBit_eq
    intro c
    rw [Nat.zero_testBit]
    cases h : (ln_ca w t 0 6).testBit c with
    | false => rfl
    | true =>
      obtain ⟨x, _, h2, _⟩ := (ca_bit 6).mp h
      rw [Nat.zero_testBit] at h2
      cases h2
  intro i
  induction i with
  | zero => rfl
  | succ i ih =>
    rw [cU, ih]
    have : ∀ k, cm_st w 0 k = 0 := by
      intro k
      induction k with
      | zero => rfl
      | succ k ih2 => rw [cm_st, ih2, key]; rfl
    exact this _
theorem cU_late {w : ln_W} (hw : ln_ok w) {s0 c n : Nat} (h0 : s0 < 64) (hc : c < 6) (h : (cU w s0 n).testBit c = true) : ∃ m, m < 6 ∧ (cU w s0 m).testBit c = true := by
  by_cases hn : n < 6
  · exact ⟨n, hn, h⟩
  · rcases cU_grow hw h0 5 with ⟨j, hj, he⟩ | hg
    · refine ⟨j, by omega, ?_⟩
      rw [cU_stable hw h0 he n (by omega)] at h
      exact h
    · by_cases e0 : cn s0 = 0
      · have hz : s0 = 0 := by
          apply Nat.eq_of_testBit_eq
          intro y
          rw [Nat.zero_testBit]
          cases hy : s0.testBit y with
          | false => rfl
          | true =>
            have hy6 := bit_lt h0 hy
            have := sm_ge (c := fun y => if s0.testBit y = true then 1 else 0) (x := y) (k := 6) hy6
            simp only [hy, if_true] at this
            unfold cn at e0
            omega
        rw [hz, cU_empty, Nat.zero_testBit] at h
        cases h
      · refine ⟨5, by decide, ?_⟩
        cases hq : (cU w s0 5).testBit c with
        | true => rfl
        | false =>
          have h6 := cn_6 (cU w s0 5)
          have := cn_lt (s := cU w s0 5) (t := 63) (c := c) (fun y hy _ => by
            have : ∀ y : Fin 6, (63 : Nat).testBit y.val = true := by decide
            exact this ⟨y, hy⟩) hc hq (by
            have : ∀ y : Fin 6, (63 : Nat).testBit y.val = true := by decide
            exact this ⟨c, hc⟩)
          have := cn_6 63
          omega
/-- what the model knows of sets of kinds, on its way -/
def cI (w : ln_W) (s0 lt : Nat) (F : Nat → Nat) (n st : Nat) : Prop := (∀ s, s < 64 → F s ≤ n + 1 → ∀ c, s.testBit c = true → (cU w s0 (F s)).testBit c = true) ∧ (∀ m c, m ≤ n → (cU w s0 m).testBit c = true → ∃ s, s < 64 ∧ F s ≤ m ∧ s.testBit c = true) ∧ (∀ s, s < 64 → (F s < n ∨ (F s = n ∧ s < st)) → s.testBit lt = false ∧ ∀ t, t < ln_tb w → F (ln_ca w t s 6) ≤ F s + 1) ∧ (∀ s, s < 64 → F s ≤ n + 1 ∨ F s = 268435456)
theorem cI_next {w : ln_W} (hw : ln_ok w) {s0 lt : Nat} {F : Nat → Nat} {n : Nat} (hn : n < 64) (H : cI w s0 lt F n 64) : cI w s0 lt F (n + 1) 0 := by
  obtain ⟨h1, h2, h3, h4⟩ := H
  have hF : ∀ s, s < 64 → F s ≤ n + 2 → F s ≤ n + 1 := fun s hs q => by have := h4 s hs; omega
  refine ⟨fun s hs q => h1 s hs (hF s hs q), fun m c hm hc => ?_, fun s hs q => h3 s hs (by omega), fun s hs => by have := h4 s hs; omega⟩
  by_cases e : m ≤ n
  · exact h2 m c e hc
  · obtain rfl : m = n + 1 := by omega
    rcases (cmst_bit _).mp hc with q | ⟨t, ht, q⟩
    · obtain ⟨s, hs, q1, q2⟩ := h2 n c (Nat.le_refl _) q
      exact ⟨s, hs, by omega, q2⟩
    · obtain ⟨x, hx6, hx, hb⟩ := (ca_bit 6).mp q
      obtain ⟨s, hs, q1, q2⟩ := h2 n x (Nat.le_refl _) hx
      have := (h3 s hs (by omega)).2 t ht
      exact ⟨ln_ca w t s 6, ln_ca_lt hw t s 6, by omega, (ca_bit 6).mpr ⟨x, hx6, q2, hb⟩⟩
theorem cI_skip {w : ln_W} {s0 lt : Nat} {F : Nat → Nat} {n st : Nat} (H : cI w s0 lt F n st) (h : ¬ F st = n) : cI w s0 lt F n (st + 1) := by
  obtain ⟨h1, h2, h3, h4⟩ := H
  exact ⟨h1, h2, fun s hs q => h3 s hs (by by_cases e : s = st; rw [e] at q ⊢; omega; omega), h4⟩
/-- on the way through the tables -/
def cJ (w : ln_W) (s0 lt : Nat) (F : Nat → Nat) (n st tb : Nat) : Prop := cI w s0 lt F n st ∧ F st = n ∧ st.testBit lt = false ∧ ∀ t, t < tb → F (ln_ca w t st 6) ≤ n + 1
theorem cJ_end {w : ln_W} {s0 lt : Nat} {F : Nat → Nat} {n st : Nat} (H : cJ w s0 lt F n st (ln_tb w)) : cI w s0 lt F n (st + 1) := by
  obtain ⟨⟨h1, h2, h3, h4⟩, g1, g2, g3⟩ := H
  refine ⟨h1, h2, fun s hs q => ?_, h4⟩
  by_cases e : s = st
  · rw [e, g1]; exact ⟨g2, g3⟩
  · exact h3 s hs (by omega)
theorem cJ_old {w : ln_W} {s0 lt : Nat} {F : Nat → Nat} {n st tb : Nat} (hw : ln_ok w) (H : cJ w s0 lt F n st tb) (h : ¬ F (ln_ca w tb st 6) = 268435456) : cJ w s0 lt F n st (tb + 1) := by
  obtain ⟨⟨h1, h2, h3, h4⟩, g1, g2, g3⟩ := H
  refine ⟨⟨h1, h2, h3, h4⟩, g1, g2, fun t ht => ?_⟩
  by_cases e : t = tb
  · rw [e]; have := h4 _ (ln_ca_lt hw tb st 6); omega
  · exact g3 t (by omega)
theorem cJ_new {w : ln_W} {s0 lt : Nat} {F : Nat → Nat} {n st tb : Nat} (hw : ln_ok w) (hn : n < 64) (hst : st < 64) (ht : tb < ln_tb w) (H : cJ w s0 lt F n st tb) (h : F (ln_ca w tb st 6) = 268435456) : cJ w s0 lt (az_s F (ln_ca w tb st 6) (n + 1)) n st (tb + 1) := by
  obtain ⟨⟨h1, h2, h3, h4⟩, g1, g2, g3⟩ := H
  have key : ∀ s, F s ≤ n + 1 → az_s F (ln_ca w tb st 6) (n + 1) s = F s := fun s q => az_s_ne (fun e => by rw [e, h] at q; omega)
  refine ⟨⟨fun s hs q c hc => ?_, fun m c hm hc => ?_, fun s hs q => ?_, fun s hs => ?_⟩, ?_, g2, fun t q => ?_⟩
  · by_cases e : s = ln_ca w tb st 6
    · rw [e, az_s_eq]
      rw [e] at hc
      obtain ⟨x, hx6, hx, hb⟩ := (ca_bit 6).mp hc
      have := h1 st hst (by omega) x hx
      rw [g1] at this
      exact (cmst_bit _).mpr (Or.inr ⟨tb, ht, (ca_bit 6).mpr ⟨x, hx6, this, hb⟩⟩)
    · rw [az_s_ne e] at q ⊢
      exact h1 s hs q c hc
  · obtain ⟨s, hs, q1, q2⟩ := h2 m c hm hc
    exact ⟨s, hs, by rw [key s (by omega)]; exact q1, q2⟩
  · by_cases e : s = ln_ca w tb st 6
    · rw [e, az_s_eq] at q
      omega
    · rw [az_s_ne e] at q ⊢
      have := h3 s hs q
      refine ⟨this.1, fun t ht => ?_⟩
      have := this.2 t ht
      rw [key _ (by omega)]
      exact this
  · by_cases e : s = ln_ca w tb st 6
    · rw [e, az_s_eq]; omega
    · rw [az_s_ne e]; exact h4 s hs
  · rw [key st (by omega)]; exact g1
  · by_cases e : t = tb
    · rw [e, az_s_eq]; exact Nat.le_refl _
    · rw [key _ (g3 t (by omega))]; exact g3 t (by omega)
theorem cI_hit {w : ln_W} (hw : ln_ok w) {s0 lt : Nat} {F : Nat → Nat} {n st : Nat} (h0 : s0 < 64) (hl : lt < 6) (hst : st < 64) (H : cI w s0 lt F n st) (h1 : F st = n) (h2 : st.testBit lt = true) : cm w lt 6 0 s0 = some n := by
  obtain ⟨g1, g2, g3, g4⟩ := H
  have hin := g1 st hst (by omega) lt h2
  rw [h1] at hin
  have hno : ∀ j, j < n → (cU w s0 j).testBit lt = false := by
    intro j hj
    cases hq : (cU w s0 j).testBit lt with
    | false => rfl
    | true =>
      obtain ⟨s, hs, q1, q2⟩ := g2 j lt (by omega) hq
      have := (g3 s hs (by omega)).1
      rw [this] at q2
      cases q2
  obtain ⟨m, hm, hm2⟩ := cU_late hw h0 hl hin
  have hn6 : n < 6 := by
    apply Classical.byContradiction
    intro q
    rw [hno m (by omega)] at hm2
    cases hm2
  exact cm_someU 6 0 n (fun j _ q => hno j q) hin (Nat.zero_le _) (by omega)
theorem cI_miss {w : ln_W} {s0 lt : Nat} {F : Nat → Nat} (H : cI w s0 lt F 64 0) : cm w lt 6 0 s0 = none := by
  obtain ⟨g1, g2, g3, g4⟩ := H
  refine cm_noneU 6 0 (fun j _ hj => ?_)
  cases hq : (cU w s0 j).testBit lt with
  | false => rfl
  | true =>
    obtain ⟨s, hs, q1, q2⟩ := g2 j lt (by omega) hq
    have := (g3 s hs (by omega)).1
    rw [this] at q2
    cases q2
theorem cI_0 {w : ln_W} {s0 lt : Nat} {F : Nat → Nat} (h0 : s0 < 64) (h1 : F s0 = 0) (h2 : ∀ s, s < 64 → s ≠ s0 → F s = 268435456) : cI w s0 lt F 0 0 := by
  refine ⟨fun s hs q c hc => ?_, fun m c hm hc => ?_, fun s hs q => ?_, fun s hs => ?_⟩
  · by_cases e : s = s0
    · rw [e, h1]; rw [e] at hc; exact hc
    · rw [h2 s hs e] at q; omega
  · obtain rfl : m = 0 := by omega
    exact ⟨s0, h0, by omega, hc⟩
  · omega
  · by_cases e : s = s0
    · rw [e, h1]; omega
    · exact Or.inr (h2 s hs e)

