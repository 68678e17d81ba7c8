/-! Reader: a town read -/
theorem rd_tl_le {b : Nat → Nat} {n m e : Nat} {c : List Nat} {x : Nat × List Nat} (he : e ≤ n) (h : rd_tl b n m e c = .inl x) : e ≤ x.1 ∧ x.1 ≤ n := by
  have h1 := (rd_tl_c (e' := x.1) (c' := x.2) h []).2
  have := rd_en_le (b := b) he
  have := rd_fr_le (b := b) he
  omega
theorem rd_tn_le {b : Nat → Nat} {n lo hi e : Nat} {c : List Nat} {x : Nat × List Nat} (he : e ≤ n) (h : rd_tn b n lo hi e c = .inl x) : e ≤ x.1 ∧ x.1 ≤ n := by
  unfold rd_tn at h
  split at h
  · cases h
  · split at h
    · cases h
    · have := rd_en_le (b := b) he
      have := rd_fr_le (b := b) he
      cases h
      dsimp only
      omega
theorem rd_en_le3 {b : Nat → Nat} {n e : Nat} (he : e ≤ n) : e ≤ rd_en b n e ∧ rd_en b n e ≤ n := ⟨rd_en_le2 he, (rd_en_le he).2⟩
theorem rd_body_le {b : Nat → Nat} {n e : Nat} {v : rd_V} {x : Nat × rd_V} (he : e ≤ n) (h : rd_body b n e v = .inl x) : e ≤ x.1 ∧ x.1 ≤ n ∧ x.2.1 = v.1 := by
  have he1 := rd_en_le3 (b := b) he
  unfold rd_body at h
  split at h
  · unfold rd_stands at h
    split at h
    · cases h
    · rename_i y hy
      have := rd_tl_le he1.2 hy
      cases h
      exact ⟨by dsimp only; omega, this.2, rfl⟩
  · split at h
    · unfold rd_rule at h
      split at h
      · cases h
      · rename_i y1 hy1
        have q1 := rd_tn_le he1.2 hy1
        split at h
        · cases h
        · rename_i y2 hy2
          have q2 := rd_tl_le q1.2 hy2
          split at h
          · cases h
          · rename_i y3 hy3
            have q3 := rd_G_ts b n 58 _ _ y3.1 y3.2 q2.2 hy3
            split at h
            · have q4 := rd_en_le3 (b := b) q3.2.1
              cases h
              exact ⟨by dsimp only; omega, q4.2, rfl⟩
            · split at h
              · cases h
              · rename_i y4 hy4
                have q4 := rd_tl_le q3.2.1 hy4
                cases h
                exact ⟨by dsimp only; omega, q4.2, rfl⟩
    · split at h
      · unfold rd_pick at h
        split at h
        · cases h
        · rename_i y1 hy1
          have q1 := rd_G_ts b n 58 _ _ y1.1 y1.2 he1.2 hy1
          split at h
          · cases h
          · rename_i y2 hy2
            have q2 := (rd_G_lv b n 6).1 _ _ y2.1 y2.2 q1.2.1 hy2
            cases h
            exact ⟨by dsimp only; omega, q2.2.1, rfl⟩
      · split at h
        · unfold rd_sleep at h
          split at h
          · cases h
          · rename_i y1 hy1
            have q1 := rd_G_ts b n 58 _ _ y1.1 y1.2 he1.2 hy1
            split at h
            · cases h
            · rename_i y2 hy2
              have q2 := (rd_G_lv b n 6).2.2 _ _ y2.1 y2.2 q1.2.1 hy2
              cases h
              exact ⟨by dsimp only; omega, q2.2.1, rfl⟩
        · cases h
theorem rd_line_le {b : Nat → Nat} {n e : Nat} {v : rd_V} {x : Nat × rd_V} (he : e ≤ n) (h : rd_line b n e v = .inl x) : e ≤ x.1 ∧ x.1 ≤ n ∧ x.2.1 = v.1 := by
  unfold rd_line at h
  split at h
  · cases h
  · rename_i y hy
    have q1 := rd_body_le he hy
    split at h
    · cases h
    · rename_i z hz
      have q2 := rd_G_ts b n 59 _ _ z.1 z.2 q1.2.1 hz
      cases h
      exact ⟨by dsimp only; omega, q2.2.1, q1.2.2⟩
theorem rd_tn_in {b : Nat → Nat} {n lo hi e : Nat} {c : List Nat} {x : Nat × List Nat} (h : rd_tn b n lo hi e c = .inl x) : lo ≤ rd_va b n e ∧ rd_va b n e ≤ hi := by
  unfold rd_tn at h
  split at h
  · cases h
  · split at h
    · cases h
    · omega
theorem rd_head_le {b : Nat → Nat} {n e : Nat} {v : rd_V} {x : Nat × rd_V} (he : e ≤ n) (h : rd_head b n e v = .inl x) : e + 1 ≤ x.1 ∧ x.1 ≤ n ∧ 1 ≤ x.2.1 ∧ x.2.1 ≤ 3 := by
  unfold rd_head at h
  split at h
  · cases h
  · rename_i y1 hy1
    have q1 := rd_tw_lt (e' := y1.1) (c' := y1.2) he hy1
    split at h
    · cases h
    · rename_i y2 hy2
      have q2 := rd_tw_lt (e' := y2.1) (c' := y2.2) q1.2.1 hy2
      split at h
      · cases h
      · rename_i y3 hy3
        have q3 := rd_tn_le q2.2.1 hy3
        have r3 := rd_tn_in hy3
        split at h
        · cases h
        · rename_i y4 hy4
          have q4 := rd_tw_lt (e' := y4.1) (c' := y4.2) q3.2 hy4
          split at h
          · cases h
          · rename_i y5 hy5
            have q5 := rd_tn_le q4.2.1 hy5
            split at h
            · cases h
            · rename_i y6 hy6
              have q6 := rd_G_ts b n 59 _ _ y6.1 y6.2 q5.2 hy6
              cases h
              exact ⟨by dsimp only; omega, q6.2.1, r3.1, r3.2⟩
def rd_ll (b : Nat → Nat) (n : Nat) : Nat → Nat → rd_V → rd_T
  | 0, e, v => .inl (e, v)
  | k + 1, e, v => if rd_kd b n e = 0 then .inl (e, v) else match rd_line b n e v with
    | .inr x => .inr x
    | .inl x => rd_ll b n k x.1 x.2
/-- what a text tells: a town, or a fault and its place -/
def rd_town (b : Nat → Nat) (n : Nat) : rd_T := match rd_head b n 0 rd_v0 with
  | .inr x => .inr x
  | .inl x => rd_ll b n (n + 1) x.1 x.2
