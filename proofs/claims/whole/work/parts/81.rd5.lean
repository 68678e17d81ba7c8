/-! Reader: what a law's text says -/
def rd_b (r : rd_R) (f : rd_P) : rd_R := match r with
  | .inl x => f x.1 x.2
  | .inr x => .inr x
theorem rd_b_l (e : Nat) (c : List Nat) (f : rd_P) : rd_b (.inl (e, c)) f = f e c := rfl
theorem rd_b_r (x : Nat × Nat) (f : rd_P) : rd_b (.inr x) f = .inr x := rfl
def rd_lp (b : Nat → Nat) (n : Nat) (f : rd_P) (cd : Nat → Nat) : Nat → rd_P
  | 0 => fun e c => .inl (e, c)
  | k + 1 => fun e c => if cd e = 0 then .inl (e, c) else rd_b (f (rd_en b n e) c) (fun e2 c2 => rd_lp b n f cd k e2 (c2 ++ [cd e]))
def rd_ct (b : Nat → Nat) (n e : Nat) : Nat := if rd_isS b n e 42 then 3002 else 0
def rd_ca (b : Nat → Nat) (n e : Nat) : Nat := if rd_isS b n e 43 then 3000 else if rd_isS b n e 45 then 3001 else 0
def rd_cn (b : Nat → Nat) (n e : Nat) : Nat := if rd_isW b n e "and" then 3007 else 0
def rd_co (b : Nat → Nat) (n e : Nat) : Nat := if rd_isW b n e "or" then 3008 else 0
def rd_enc (x : Nat) : rd_P := fun e c => .inl (e, c ++ [x])
def rd_ch (b : Nat → Nat) (n : Nat) (L : rd_P × rd_P × rd_P) : rd_P := fun e c => rd_b (rd_b (rd_b (rd_b (rd_b (rd_b (L.2.2 e c) (rd_tw b n "then")) L.1) (rd_tw b n "else")) L.1) (rd_tw b n "end")) (rd_enc 3009)
def rd_at (b : Nat → Nat) (n r : Nat) (L : rd_P × rd_P × rd_P) : rd_P := fun e c =>
  if rd_isS b n e 40 then rd_b (rd_b (rd_gd b n r e c) L.1) (rd_ts b n 41)
  else if rd_isW b n e "if" then rd_b (rd_gd b n r e c) (rd_ch b n L)
  else if rd_kd b n e = 2 then .inl (rd_en b n e, c ++ [rd_va b n e])
  else if rd_nm b n e = 0 then rd_fail b n 2 e else .inl (rd_en b n e, c ++ [rd_nm b n e])
def rd_tm (b : Nat → Nat) (n r : Nat) (L : rd_P × rd_P × rd_P) : rd_P := fun e c => rd_b (rd_at b n r L e c) (rd_lp b n (rd_at b n r L) (rd_ct b n) n)
def rd_sm (b : Nat → Nat) (n r : Nat) (L : rd_P × rd_P × rd_P) : rd_P := fun e c => rd_b (rd_tm b n r L e c) (rd_lp b n (rd_tm b n r L) (rd_ca b n) n)
def rd_un (b : Nat → Nat) (n r : Nat) (L : rd_P × rd_P × rd_P) : rd_P := fun e c =>
  if rd_isW b n e "not" then rd_b (rd_b (rd_gd b n r e c) L.2.1) (rd_enc 3006)
  else if rd_isS b n e 91 then rd_b (rd_b (rd_gd b n r e c) L.2.2) (rd_ts b n 93)
  else rd_b (rd_sm b n r L e c) (fun e1 c1 => if rd_cp b n e1 = 0 then rd_fail b n 2 e1 else rd_b (rd_sm b n r L (rd_en b n e1) c1) (rd_enc (rd_cp b n e1)))
def rd_bo (b : Nat → Nat) (n r : Nat) (L : rd_P × rd_P × rd_P) : rd_P := fun e c => rd_b (rd_un b n r L e c) (rd_lp b n (rd_un b n r L) (rd_cn b n) n)
def rd_tr (b : Nat → Nat) (n r : Nat) (L : rd_P × rd_P × rd_P) : rd_P := fun e c => rd_b (rd_bo b n r L e c) (rd_lp b n (rd_bo b n r L) (rd_co b n) n)
def rd_mk (b : Nat → Nat) (n r : Nat) (L : rd_P × rd_P × rd_P) : rd_P × rd_P × rd_P := (rd_sm b n r L, rd_un b n r L, rd_tr b n r L)
/-- sums, units, truths, with r levels left -/
def rd_lv (b : Nat → Nat) (n : Nat) : Nat → rd_P × rd_P × rd_P
  | 0 => rd_mk b n 0 (fun e c => .inl (e, c), fun e c => .inl (e, c), fun e c => .inl (e, c))
  | r + 1 => rd_mk b n (r + 1) (rd_lv b n r)
/-- it goes on in the text, and no word more than a token -/
def rd_G (n : Nat) (f : rd_P) : Prop := ∀ (e : Nat) (c : List Nat) (e' : Nat) (c' : List Nat), e ≤ n → f e c = .inl (e', c') → e ≤ e' ∧ e' ≤ n ∧ c'.length + e ≤ c.length + e'
theorem rd_G.b {n : Nat} {f g : rd_P} (hf : rd_G n f) (hg : rd_G n g) : rd_G n (fun e c => rd_b (f e c) g) := by
  intro e c e' c' he h
  cases hr : f e c with
  | inl x =>
    obtain ⟨e1, c1⟩ := x
    dsimp only at h
    rw [hr, rd_b_l] at h
    have h1 := hf e c e1 c1 he hr
    have h2 := hg e1 c1 e' c' h1.2.1 h
    omega
  | inr x =>
    dsimp only at h
    rw [hr, rd_b_r] at h
    cases h
theorem rd_isW_k {b : Nat → Nat} {n e : Nat} {t : String} (h : rd_isW b n e t) : rd_kd b n e ≠ 0 := by have := h.1; omega
theorem rd_isS_k {b : Nat → Nat} {n e x : Nat} (h : rd_isS b n e x) : rd_kd b n e ≠ 0 := by have := h.1; omega
theorem rd_G_tw (b : Nat → Nat) (n : Nat) (t : String) : rd_G n (rd_tw b n t) := by
  intro e c e' c' he h
  unfold rd_tw at h
  split at h
  · rename_i hw
    have := rd_en_lt (b := b) he (rd_isW_k hw)
    cases h
    omega
  · cases h
theorem rd_tw_lt {b : Nat → Nat} {n : Nat} {t : String} {e e' : Nat} {c c' : List Nat} (he : e ≤ n) (h : rd_tw b n t e c = .inl (e', c')) : e < e' ∧ e' ≤ n ∧ c' = c := by
  unfold rd_tw at h
  split at h
  · rename_i hw
    have := rd_en_lt (b := b) he (rd_isW_k hw)
    cases h
    exact ⟨by omega, by omega, rfl⟩
  · cases h
theorem rd_G_ts (b : Nat → Nat) (n x : Nat) : rd_G n (rd_ts b n x) := by
  intro e c e' c' he h
  unfold rd_ts at h
  split at h
  · rename_i hw
    have := rd_en_lt (b := b) he (rd_isS_k hw)
    cases h
    omega
  · cases h
theorem rd_gd_lt {b : Nat → Nat} {n r e e' : Nat} {c c' : List Nat} (h : rd_gd b n r e c = .inl (e', c')) : r ≠ 0 ∧ e' = rd_en b n e ∧ c' = c := by
  unfold rd_gd at h
  split at h
  · cases h
  · rename_i hr
    cases h
    exact ⟨hr, rfl, rfl⟩
theorem rd_G_gd (b : Nat → Nat) (n r : Nat) : rd_G n (rd_gd b n r) := by
  intro e c e' c' he h
  obtain ⟨-, rfl, rfl⟩ := rd_gd_lt h
  have h1 := rd_en_le (b := b) he
  have h2 := rd_fr_le (b := b) he
  omega
theorem rd_G_lp {b : Nat → Nat} {n : Nat} {f : rd_P} {cd : Nat → Nat} (hf : rd_G n f) (hcd : ∀ e, cd e ≠ 0 → rd_kd b n e ≠ 0) (k : Nat) : rd_G n (rd_lp b n f cd k) := by
  induction k with
  | zero =>
    intro e c e' c' he h
    cases h
    omega
  | succ k ih =>
    intro e c e' c' he h
    rw [rd_lp] at h
    dsimp only at h
    split at h
    · cases h; omega
    · rename_i hc
      have hl := rd_en_lt (b := b) he (hcd e hc)
      cases hr : f (rd_en b n e) c with
      | inl x =>
        obtain ⟨e1, c1⟩ := x
        rw [hr, rd_b_l] at h
        have h1 := hf _ _ _ _ hl.2.2 hr
        have h2 := ih _ _ _ _ h1.2.1 h
        rw [List.length_append, List.length_singleton] at h2
        omega
      | inr x => rw [hr, rd_b_r] at h; cases h
theorem rd_ct_k {b : Nat → Nat} {n : Nat} (e : Nat) (h : rd_ct b n e ≠ 0) : rd_kd b n e ≠ 0 := by
  unfold rd_ct at h
  split at h
  · rename_i q; exact rd_isS_k q
  · exact absurd rfl h
theorem rd_ca_k {b : Nat → Nat} {n : Nat} (e : Nat) (h : rd_ca b n e ≠ 0) : rd_kd b n e ≠ 0 := by
  unfold rd_ca at h
  split at h
  · rename_i q; exact rd_isS_k q
  · split at h
    · rename_i q; exact rd_isS_k q
    · exact absurd rfl h
theorem rd_cn_k {b : Nat → Nat} {n : Nat} (e : Nat) (h : rd_cn b n e ≠ 0) : rd_kd b n e ≠ 0 := by
  unfold rd_cn at h
  split at h
  · rename_i q; exact rd_isW_k q
  · exact absurd rfl h
theorem rd_co_k {b : Nat → Nat} {n : Nat} (e : Nat) (h : rd_co b n e ≠ 0) : rd_kd b n e ≠ 0 := by
  unfold rd_co at h
  split at h
  · rename_i q; exact rd_isW_k q
  · exact absurd rfl h
theorem rd_cp_k {b : Nat → Nat} {n : Nat} (e : Nat) (h : rd_cp b n e ≠ 0) : rd_kd b n e ≠ 0 := by
  unfold rd_cp at h
  split at h
  · rename_i q; exact rd_isS_k q
  · split at h
    · rename_i q; exact rd_isS_k q
    · split at h
      · rename_i q; exact rd_isS_k q
      · exact absurd rfl h
theorem rd_nm_k {b : Nat → Nat} {n : Nat} (e : Nat) (h : rd_nm b n e ≠ 0) : rd_kd b n e = 1 := by
  unfold rd_nm at h
  split at h
  · rename_i q; exact q.1
  · split at h
    · rename_i q; exact q.1
    · split at h
      · rename_i q; exact q.1
      · split at h
        · rename_i q; exact q.1
        · split at h
          · rename_i q; exact q.1
          · exact absurd rfl h
def rd_GL (n : Nat) (L : rd_P × rd_P × rd_P) : Prop := rd_G n L.1 ∧ rd_G n L.2.1 ∧ rd_G n L.2.2
/-- one token more is taken than words come -/
def rd_H (n : Nat) (f : rd_P) : Prop := ∀ (e : Nat) (c : List Nat) (e' : Nat) (c' : List Nat), e ≤ n → f e c = .inl (e', c') → e ≤ e' ∧ e' ≤ n ∧ c'.length + e + 1 ≤ c.length + e'
theorem rd_H.g {n : Nat} {f : rd_P} (h : rd_H n f) : rd_G n f := fun e c e' c' he hf => (by have := h e c e' c' he hf; omega)
theorem rd_H.b {n : Nat} {f g : rd_P} (hf : rd_G n f) (hg : rd_H n g) : rd_H n (fun e c => rd_b (f e c) g) := by
  intro e c e' c' he h
  cases hr : f e c with
  | inl x =>
    obtain ⟨e1, c1⟩ := x
    dsimp only at h
    rw [hr, rd_b_l] at h
    have h1 := hf e c e1 c1 he hr
    have h2 := hg e1 c1 e' c' h1.2.1 h
    omega
  | inr x =>
    dsimp only at h
    rw [hr, rd_b_r] at h
    cases h
theorem rd_H_tw (b : Nat → Nat) (n : Nat) (t : String) : rd_H n (rd_tw b n t) := by
  intro e c e' c' he h
  obtain ⟨h1, h2, rfl⟩ := rd_tw_lt he h
  omega
theorem rd_H.enc {n : Nat} {f : rd_P} (hf : rd_H n f) (x : Nat) : rd_G n (fun e c => rd_b (f e c) (rd_enc x)) := by
  intro e c e' c' he h
  cases hr : f e c with
  | inl q =>
    obtain ⟨e1, c1⟩ := q
    dsimp only at h
    rw [hr, rd_b_l, rd_enc] at h
    have h1 := hf e c e1 c1 he hr
    cases h
    rw [List.length_append, List.length_singleton]
    omega
  | inr q =>
    dsimp only at h
    rw [hr, rd_b_r] at h
    cases h
theorem rd_G_ch {b : Nat → Nat} {n : Nat} {L : rd_P × rd_P × rd_P} (hL : rd_GL n L) : rd_G n (rd_ch b n L) :=
  rd_H.enc (rd_H.b ((((hL.2.2.b (rd_G_tw b n "then")).b hL.1).b (rd_G_tw b n "else")).b hL.1) (rd_H_tw b n "end")) 3009
theorem rd_G_at {b : Nat → Nat} {n r : Nat} {L : rd_P × rd_P × rd_P} (hL : rd_GL n L) : rd_G n (rd_at b n r L) := by
  intro e c e' c' he h
  unfold rd_at at h
  split at h
  · exact (((rd_G_gd b n r).b hL.1).b (rd_G_ts b n 41)) e c e' c' he h
  · split at h
    · exact ((rd_G_gd b n r).b (rd_G_ch hL)) e c e' c' he h
    · split at h
      · rename_i hk
        have := rd_en_lt (b := b) he (by omega)
        cases h
        rw [List.length_append, List.length_singleton]
        omega
      · split at h
        · cases h
        · rename_i hk
          have hk1 := rd_nm_k e hk
          have := rd_en_lt (b := b) he (by omega)
          cases h
          rw [List.length_append, List.length_singleton]
          omega
theorem rd_G_tm {b : Nat → Nat} {n r : Nat} {L : rd_P × rd_P × rd_P} (hL : rd_GL n L) : rd_G n (rd_tm b n r L) := (rd_G_at hL).b (rd_G_lp (rd_G_at hL) rd_ct_k n)
theorem rd_G_sm {b : Nat → Nat} {n r : Nat} {L : rd_P × rd_P × rd_P} (hL : rd_GL n L) : rd_G n (rd_sm b n r L) := (rd_G_tm hL).b (rd_G_lp (rd_G_tm hL) rd_ca_k n)
theorem rd_H_gd {b : Nat → Nat} {n r e e' : Nat} {c c' : List Nat} (he : e ≤ n) (hk : rd_kd b n e ≠ 0) (h : rd_gd b n r e c = .inl (e', c')) : e < e' ∧ e' ≤ n ∧ c' = c := by
  obtain ⟨-, rfl, rfl⟩ := rd_gd_lt h
  have := rd_en_lt (b := b) he hk
  exact ⟨by omega, by omega, rfl⟩
theorem rd_G_un {b : Nat → Nat} {n r : Nat} {L : rd_P × rd_P × rd_P} (hL : rd_GL n L) : rd_G n (rd_un b n r L) := by
  intro e c e' c' he h
  unfold rd_un at h
  split at h
  · rename_i hw
    cases hr : rd_gd b n r e c with
    | inl x =>
      obtain ⟨e1, c1⟩ := x
      rw [hr, rd_b_l] at h
      obtain ⟨h1, h2, rfl⟩ := rd_H_gd he (rd_isW_k hw) hr
      cases hr2 : L.2.1 e1 c1 with
      | inl x =>
        obtain ⟨e2, c2⟩ := x
        rw [hr2, rd_b_l, rd_enc] at h
        have h3 := hL.2.1 _ _ _ _ h2 hr2
        cases h
        rw [List.length_append, List.length_singleton]
        omega
      | inr x => rw [hr2, rd_b_r] at h; cases h
    | inr x => rw [hr, rd_b_r, rd_b_r] at h; cases h
  · split at h
    · exact (((rd_G_gd b n r).b hL.2.2).b (rd_G_ts b n 93)) e c e' c' he h
    · cases hr : rd_sm b n r L e c with
      | inl x =>
        obtain ⟨e1, c1⟩ := x
        rw [hr, rd_b_l] at h
        have h1 := rd_G_sm hL _ _ _ _ he hr
        split at h
        · cases h
        · rename_i hc
          have h2 := rd_en_lt (b := b) h1.2.1 (rd_cp_k e1 hc)
          cases hr2 : rd_sm b n r L (rd_en b n e1) c1 with
          | inl x =>
            obtain ⟨e2, c2⟩ := x
            rw [hr2, rd_b_l, rd_enc] at h
            have h3 := rd_G_sm hL _ _ _ _ h2.2.2 hr2
            cases h
            rw [List.length_append, List.length_singleton]
            omega
          | inr x => rw [hr2, rd_b_r] at h; cases h
      | inr x => rw [hr, rd_b_r] at h; cases h
theorem rd_G_bo {b : Nat → Nat} {n r : Nat} {L : rd_P × rd_P × rd_P} (hL : rd_GL n L) : rd_G n (rd_bo b n r L) := (rd_G_un hL).b (rd_G_lp (rd_G_un hL) rd_cn_k n)
theorem rd_G_tr {b : Nat → Nat} {n r : Nat} {L : rd_P × rd_P × rd_P} (hL : rd_GL n L) : rd_G n (rd_tr b n r L) := (rd_G_bo hL).b (rd_G_lp (rd_G_bo hL) rd_co_k n)
theorem rd_G_mk {b : Nat → Nat} {n r : Nat} {L : rd_P × rd_P × rd_P} (hL : rd_GL n L) : rd_GL n (rd_mk b n r L) := ⟨rd_G_sm hL, rd_G_un hL, rd_G_tr hL⟩
theorem rd_G_id (n : Nat) : rd_G n (fun e c => .inl (e, c)) := by
  intro e c e' c' he h
  cases h
  omega
theorem rd_G_lv (b : Nat → Nat) (n r : Nat) : rd_GL n (rd_lv b n r) := by
  induction r with
  | zero => exact rd_G_mk ⟨rd_G_id n, rd_G_id n, rd_G_id n⟩
  | succ r ih => exact rd_G_mk ih
theorem rd_nu_lt {b : Nat → Nat} {a : Nat} : ∀ {k : Nat}, k ≤ 3 → (∀ j, j < k → 48 ≤ b (a + j) ∧ b (a + j) ≤ 57) → rd_nu b a k < 10 ^ k := by
  intro k
  induction k with
  | zero => intro _ _; exact (by decide : (0 : Nat) < 1)
  | succ k ih =>
    intro h1 h2
    have h3 := ih (by omega) (fun j q => h2 j (by omega))
    have h4 := h2 k (by omega)
    rw [rd_nu, Nat.pow_succ]
    omega
theorem rd_va_lt {b : Nat → Nat} {n e : Nat} (he : e ≤ n) (hk : rd_kd b n e = 2) : rd_va b n e < 1000 := by
  have h1 := rd_fr_le (b := b) he
  have ha : rd_fr b n e < n := by
    rcases Nat.lt_or_ge (rd_fr b n e) n with q | q
    · exact q
    · exfalso
      rw [rd_kd, rd_kA_0 q] at hk
      omega
  have hL : ¬ (97 ≤ b (rd_fr b n e) ∧ b (rd_fr b n e) ≤ 122) := by
    intro q
    rw [rd_kd, (rd_kA_1 ha q).1] at hk
    omega
  have hD : 48 ≤ b (rd_fr b n e) ∧ b (rd_fr b n e) ≤ 57 := by
    refine Classical.byContradiction (fun q => ?_)
    rw [rd_kd, (rd_kA_3 ha hL q).1] at hk
    split at hk <;> omega
  obtain ⟨h2, h3⟩ := rd_kA_2 ha hD
  rw [rd_kd, h2] at hk
  have h4 : rd_eA b n (rd_fr b n e) - rd_fr b n e ≤ 3 := by
    split at hk
    · omega
    · omega
  have h5 : rd_va b n e < 10 ^ (rd_en b n e - rd_fr b n e) := by
    refine rd_nu_lt h4 (fun j q => ?_)
    by_cases e0 : j = 0
    · rw [e0, Nat.add_zero]; exact hD
    · refine rd_ro_in b 48 57 (n - (rd_fr b n e + 1)) (rd_fr b n e + 1) _ (by omega) ?_
      rw [← h3]
      show _ < rd_en b n e
      omega
  have h6 : 10 ^ (rd_en b n e - rd_fr b n e) ≤ 10 ^ 3 := Nat.pow_le_pow_right (by decide) h4
  omega
theorem lw_phi_n {x : Nat} (h : x < 1000) : lw_phi x = nI x := if_pos h
