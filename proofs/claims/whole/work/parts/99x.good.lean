/-! A read town is a good one -/
def rd_gd9 (v : rd_V) : Prop := 1 ≤ v.1 ∧ v.1 ≤ 3 ∧ v.2.1 ≤ 9 ∧ 1 ≤ v.2.2.2.1 ∧ v.2.2.2.1 ≤ 12 ∧ (∀ j, v.2.2.2.2.1 j < 6) ∧ (∀ j, v.2.2.2.2.2.1 j ≤ 4) ∧ (∀ j, v.2.2.2.2.2.2.1 j < 6) ∧ (v.2.2.2.2.2.2.2.1.length ≤ 900 ∧ (v.2.2.2.2.2.2.2.1 = [] ∨ lw_wf v.2.2.2.2.2.2.2.1 = some [false])) ∧ (v.2.2.2.2.2.2.2.2.length ≤ 900 ∧ (v.2.2.2.2.2.2.2.2 = [] ∨ lw_wf v.2.2.2.2.2.2.2.2 = some [true]))
theorem rd_gd9.good {v : rd_V} (h : rd_gd9 v) : rd_good v := by
  obtain ⟨h1, h2, h3, h4, h5, h6, h7, h8, h9, h10⟩ := h
  exact ⟨⟨h1, h2, h3, h4, h5, h6, h7, h8, h9.1, h10.1⟩, ⟨rfl, fun _ _ => rfl, h9.2⟩, ⟨rfl, fun _ _ => rfl, h10.2⟩⟩
theorem rd_gd9_0 : rd_gd9 rd_v0 := by
  refine ⟨by decide, by decide, by decide, by decide, by decide, fun j => (by decide : (0 : Nat) < 6), fun j => ?_, fun j => ?_, ⟨by decide, Or.inl rfl⟩, ⟨by decide, Or.inl rfl⟩⟩
  · show (if j < 18 then 1 else 0) ≤ 4
    split <;> omega
  · show (if j % 4 = 0 ∧ j / 4 < 18 then j / 4 % 6 else 0) < 6
    split <;> omega
theorem rd_tl_in {b : Nat → Nat} {n m e : Nat} {c : List Nat} {x : Nat × List Nat} (h : rd_tl b n m e c = .inl x) : rd_kd b n e = 1 ∧ rd_af b n e ∧ rd_en b n e - rd_fr b n e ≤ m := by
  unfold rd_tl at h
  split at h
  · cases h
  · rename_i h1
    split at h
    · cases h
    · rename_i h2
      split at h
      · cases h
      · rename_i h3
        exact ⟨Decidable.byContradiction h1, Decidable.byContradiction h2, by omega⟩
theorem rd_ls_lt {b : Nat → Nat} {n e at9 : Nat} {st : Nat → Nat} (h : rd_af b n e) (hs : ∀ j, st j < 6) : ∀ j, rd_ls b n e at9 st j < 6 := by
  intro j
  unfold rd_ls
  split
  · rename_i h1
    have := h (j - at9) (by omega)
    omega
  · exact hs j
theorem rd_kd_n {b : Nat → Nat} {n e : Nat} (h : n < e) : rd_kd b n e = 0 := by
  have h1 : rd_fr b n e = e := by
    show rd_sk b (n - e) e = e
    rw [show n - e = 0 by omega]
    rfl
  show rd_kA b n (rd_fr b n e) = 0
  rw [h1]
  exact if_pos (by omega)
theorem rd_va_all {b : Nat → Nat} {n : Nat} : ∀ e, rd_kd b n e = 2 → rd_va b n e < 1005 := by
  intro e hk
  by_cases he : e ≤ n
  · have := rd_va_lt he hk
    omega
  · rw [rd_kd_n (by omega)] at hk
    omega
theorem rd_body_gd {b : Nat → Nat} {n e : Nat} {v : rd_V} {x : Nat × rd_V} (hn : n ≤ 900) (he : e ≤ n) (hv : rd_gd9 v) (h : rd_body b n e v = .inl x) : rd_gd9 x.2 := by
  have he1 := rd_en_le3 (b := b) he
  obtain ⟨v1, v2, v3, v4, v5, v6, v7, v8, v9, v10⟩ := hv
  unfold rd_body at h
  split at h
  · unfold rd_stands at h
    split at h
    · cases h
    · rename_i y hy
      have q := rd_tl_in hy
      have q2 := rd_en_lt he1.2 (by omega : rd_kd b n (rd_en b n e) ≠ 0)
      cases h
      exact ⟨v1, v2, v3, by dsimp only; omega, q.2.2, rd_ls_lt q.2.1 v6, v7, v8, v9, v10⟩
  · split at h
    · unfold rd_rule at h
      split at h
      · cases h
      · rename_i y1 hy1
        split at h
        · cases h
        · rename_i y2 hy2
          split at h
          · cases h
          · rename_i y3 hy3
            split at h
            · cases h
              refine ⟨v1, v2, v3, v4, v5, v6, fun j => ?_, v8, v9, v10⟩
              show rd_upd _ _ _ j ≤ 4
              unfold rd_upd
              split
              · omega
              · exact v7 j
            · split at h
              · cases h
              · rename_i y4 hy4
                have q := rd_tl_in hy4
                cases h
                refine ⟨v1, v2, v3, v4, v5, v6, fun j => ?_, rd_ls_lt q.2.1 v8, v9, v10⟩
                show rd_upd _ _ _ j ≤ 4
                unfold rd_upd
                split
                · exact q.2.2
                · exact v7 j
    · split at h
      · unfold rd_pick at h
        split at h
        · cases h
        · rename_i y1 hy1
          have q1 := rd_G_ts b n 58 _ _ y1.1 y1.2 he1.2 hy1
          split at h
          · cases h
          · rename_i y2 hy2
            have q2 := (rd_G_lv b n 6).1 _ _ y2.1 y2.2 q1.2.1 hy2
            have q3 := (rd_Y_lv (b := b) (n := n) rd_va_all 6).1 _ _ y2.1 y2.2 [] hy2 rfl (by decide)
            cases h
            exact ⟨v1, v2, v3, v4, v5, v6, v7, v8, ⟨by have := q2.2.2; dsimp only; simp only [List.length_nil] at this; omega, Or.inr q3⟩, v10⟩
      · split at h
        · unfold rd_sleep at h
          split at h
          · cases h
          · rename_i y1 hy1
            have q1 := rd_G_ts b n 58 _ _ y1.1 y1.2 he1.2 hy1
            split at h
            · cases h
            · rename_i y2 hy2
              have q2 := (rd_G_lv b n 6).2.2 _ _ y2.1 y2.2 q1.2.1 hy2
              have q3 := (rd_Y_lv (b := b) (n := n) rd_va_all 6).2.2 _ _ y2.1 y2.2 [] hy2 rfl (by decide)
              cases h
              exact ⟨v1, v2, v3, v4, v5, v6, v7, v8, v9, ⟨by have := q2.2.2; dsimp only; simp only [List.length_nil] at this; omega, Or.inr q3⟩⟩
        · cases h
theorem rd_line_gd {b : Nat → Nat} {n e : Nat} {v : rd_V} {x : Nat × rd_V} (hn : n ≤ 900) (he : e ≤ n) (hv : rd_gd9 v) (h : rd_line b n e v = .inl x) : rd_gd9 x.2 := by
  unfold rd_line at h
  split at h
  · cases h
  · rename_i y hy
    have q := rd_body_gd hn he hv hy
    split at h
    · cases h
    · cases h
      exact q
theorem rd_head_gd {b : Nat → Nat} {n e : Nat} {v : rd_V} {x : Nat × rd_V} (hv : rd_gd9 v) (h : rd_head b n e v = .inl x) : rd_gd9 x.2 := by
  obtain ⟨v1, v2, v3, v4, v5, v6, v7, v8, v9, v10⟩ := hv
  unfold rd_head at h
  split at h
  · cases h
  · rename_i y1 hy1
    split at h
    · cases h
    · rename_i y2 hy2
      split at h
      · cases h
      · rename_i y3 hy3
        have r3 := rd_tn_in hy3
        split at h
        · cases h
        · rename_i y4 hy4
          split at h
          · cases h
          · rename_i y5 hy5
            have r5 := rd_tn_in hy5
            split at h
            · cases h
            · rename_i y6 hy6
              cases h
              exact ⟨r3.1, r3.2, r5.2, v4, v5, v6, v7, v8, v9, v10⟩
theorem rd_ll_gd {b : Nat → Nat} {n : Nat} (hn : n ≤ 900) : ∀ (k e : Nat) (v : rd_V) {x : Nat × rd_V}, e ≤ n → rd_gd9 v → rd_ll b n k e v = .inl x → rd_gd9 x.2 := by
  intro k
  induction k with
  | zero => intro e v x _ hv h; cases h; exact hv
  | succ k ih =>
    intro e v x he hv h
    unfold rd_ll at h
    split at h
    · cases h; exact hv
    · split at h
      · cases h
      · rename_i y hy
        exact ih _ _ (rd_line_le he hy).2.1 (rd_line_gd hn he hv hy) h
theorem rd_town_gd {b : Nat → Nat} {n : Nat} (hn : n ≤ 900) {e : Nat} {v : rd_V} (h : rd_town b n = .inl (e, v)) : rd_good v := by
  unfold rd_town at h
  split at h
  · cases h
  · rename_i y hy
    have q1 := rd_head_gd rd_gd9_0 hy
    have q2 := rd_head_le (Nat.zero_le n) hy
    exact (rd_ll_gd hn _ _ _ q2.2.1 q1 h).good
