/-! The model's reader: a law's text -/
def mr_w (r : rd_R) : Nat := match r with
  | .inl _ => 0
  | .inr x => x.1
def mr_m (n : Nat) (r : rd_R) : Nat := match r with
  | .inl x => n + 1 - x.1
  | .inr _ => 0
theorem mr_w0 {r : rd_R} {h : az_Hp} {sc : Nat → Value} {b : Nat → Nat} {n : Nat} {fr : Nat → Nat} {k0 : Nat} (H : mr_R h sc b n fr k0 (r)) (h0 : mr_w r = 0) : ∃ e c, r = .inl (e, c) := by
  match r, H with
  | .inl (e, c), _ => exact ⟨e, c, rfl⟩
  | .inr (f, p), H => have h1 : 1 ≤ f := H.2.1; have h0 : f = 0 := h0; omega
theorem mr_w1 {r : rd_R} (h0 : ¬ mr_w r = 0) : ∃ x, r = .inr x := by
  match r with
  | .inl (e, c) => exact absurd rfl h0
  | .inr x => exact ⟨x, rfl⟩
theorem mr_R.o {r : rd_R} {h : az_Hp} {sc : Nat → Value} {b : Nat → Nat} {n : Nat} {fr : Nat → Nat} {k0 : Nat} (H : mr_R h sc b n fr k0 (r)) : ∃ (a z : Nat) (ki nu wa : Int32), h.2 64 = some (mr_o sc a z n ki nu (nI (mr_w r)) wa) ∧ mr_w r < 100 ∧ (∀ e c k, r = .inl (e, c) → mrK b n e k → ki = nI k) ∧ (∀ e c, r = .inl (e, c) → rd_kd b n e = 2 → nu = nI (rd_va b n e)) := by
  match r, H with
  | .inl (e, c), H =>
    obtain ⟨-, -, -, ⟨k, nu, wa, hk, hnu, h64⟩, -⟩ := H
    exact ⟨_, _, _, _, _, h64, (by decide : (0 : Nat) < 100), fun e2 c2 k2 q hk2 => by cases q; rw [mrK_1 hk hk2], fun e2 c2 q h2 => by cases q; exact hnu h2⟩
  | .inr (f, p), H =>
    obtain ⟨-, h1, h2, h3, ⟨a, z, ki, nu, h64⟩, -⟩ := H
    exact ⟨_, _, _, _, _, h64, h2, (fun _ _ _ q => nomatch q), (fun _ _ q => nomatch q)⟩
theorem mr_R.le {r : rd_R} {h : az_Hp} {sc : Nat → Value} {b : Nat → Nat} {n : Nat} {fr : Nat → Nat} {k0 : Nat} (H : mr_R h sc b n fr k0 (r)) : ∀ e c, r = .inl (e, c) → e ≤ n ∧ k0 + c.length ≤ e := by
  intro e c q
  subst q
  exact ⟨H.2.1, H.2.2.1⟩
theorem rb_as (r : rd_R) (f g : rd_P) : rd_b (rd_b r f) g = rd_b r (fun e c => rd_b (f e c) g) := by
  match r with
  | .inl (e, c) => rfl
  | .inr x => rfl
def tokP (b : Nat → Nat) (n k : Nat) (P : rd_P) : Prop := ∀ e c, e ≤ n → (mrK b n e k → P e c = .inl (rd_en b n e, c)) ∧ (¬ mrK b n e k → P e c = rd_fail b n 2 e)
theorem tok_1 {b : Nat → Nat} {n k e : Nat} {P : rd_P} {r : rd_R} {c : List Nat} (hP : tokP b n k P) (hle : ∀ e c, r = .inl (e, c) → e ≤ n) (hr : r = .inl (e, c)) (hm : mrK b n e k) : rd_b r P = .inl (rd_en b n e, c) := by
  have := hle e c hr
  subst hr
  exact (hP e c this).1 hm
theorem tok_0 {b : Nat → Nat} {n k : Nat} {P : rd_P} {r : rd_R} (hP : tokP b n k P) (hle : ∀ e c, r = .inl (e, c) → e ≤ n) (hno : mr_no b n r k) : rd_b r P = rd_b r (fun e _ => rd_fail b n 2 e) := by
  match r, hle, hno with
  | .inl (e, c), hle, hno => exact (hP e c (hle e c rfl)).2 (hno e c rfl)
  | .inr x, _, _ => rfl
theorem tkW {b : Nat → Nat} {n k : Nat} {t : String} (h : ∀ e, e ≤ n → (mrK b n e k ↔ rd_isW b n e t)) : tokP b n k (rd_tw b n t) := fun e c he => ⟨fun hm => if_pos ((h e he).mp hm), fun hm => if_neg (fun q => hm ((h e he).mpr q))⟩
theorem tkS {b : Nat → Nat} {n k x : Nat} (h : ∀ e, (mrK b n e k ↔ rd_isS b n e x)) : tokP b n k (rd_ts b n x) := fun e c he => ⟨fun hm => if_pos ((h e).mp hm), fun hm => if_neg (fun q => hm ((h e).mpr q))⟩
theorem mrK_kd {b : Nat → Nat} {n e k : Nat} (h : mrK b n e k) (hk : k ≠ 24) : rd_kd b n e ≠ 0 := fun q => hk (mrK_1 h (mrK_Z.mpr q))
def mr_CM (m : az_Me) (P : rd_P) (D dp : Nat) (sc : Nat → Value) (b : Nat → Nat) (n : Nat) : Prop := ∀ ⦃d : Nat⦄ ⦃fr : Nat → Nat⦄ ⦃k0 : Nat⦄ ⦃r : rd_R⦄ ⦃hp : az_Hp⦄ ⦃Q : Option Value → az_Hp → Prop⦄, D ≤ d → mr_R hp sc b n fr k0 (r) → (∀ h', mr_R h' sc b n fr k0 (rd_b r P) → mf hp h' [64, 68] → Q none h') → az_M m d 0 0 [.ref 64, .int (nI dp)] hp Q
/-- words of the house -/
def mwd (k : Nat) : Int32 := if k = 12 then nI 0 else if k = 2 then nI 1 else if k = 13 then nI 2 else if k = 14 then nI 3 else if k = 15 then nI 4 else (-1)
theorem m_wordOf {d k : Nat} {hp : az_Hp} {Q : Option Value → az_Hp → Prop} (hk : k < 100) (hQ : Q (some (.int (mwd k))) hp) : az_M mX12_wordOf d 0 0 [.ref 64, .int (nI k)] hp Q := by
  refine az_M.of rfl (Nat.le_of_ble_eq_true rfl) ?_
  show az_W _ _ _ _ 0 [(0, .ref 64), (1, .int (nI k))] [] _ _
  refine az_iload_n dX12_wordOf_0 ?_
  by_cases hlo : k < 2 ∨ 15 < k
  · refine az_tswOut (tgt := 82) dX12_wordOf_1 (by rw [nI_toI (by omega)]; omega) (by decide) ?_
    refine az_iconst (v := -1) dX12_wordOf_82 ?_
    exact az_iret dX12_wordOf_83 (by unfold mwd at hQ; rw [if_neg (by omega), if_neg (by omega), if_neg (by omega), if_neg (by omega), if_neg (by omega)] at hQ; exact hQ)
  · have h : k = 2 ∨ k = 3 ∨ k = 4 ∨ k = 5 ∨ k = 6 ∨ k = 7 ∨ k = 8 ∨ k = 9 ∨ k = 10 ∨ k = 11 ∨ k = 12 ∨ k = 13 ∨ k = 14 ∨ k = 15 := by omega
    rcases h with rfl | rfl | rfl | rfl | rfl | rfl | rfl | rfl | rfl | rfl | rfl | rfl | rfl | rfl
    · refine az_tswIn (off := 73) (tgt := 74) dX12_wordOf_1 (by decide) (by decide) (by rfl) (by decide) ?_
      refine az_iconst (v := nI 1) dX12_wordOf_74 ?_
      exact az_iret dX12_wordOf_75 hQ
    · refine az_tswIn (off := 81) (tgt := 82) dX12_wordOf_1 (by decide) (by decide) (by rfl) (by decide) ?_
      refine az_iconst (v := -1) dX12_wordOf_82 ?_
      exact az_iret dX12_wordOf_83 hQ
    · refine az_tswIn (off := 81) (tgt := 82) dX12_wordOf_1 (by decide) (by decide) (by rfl) (by decide) ?_
      refine az_iconst (v := -1) dX12_wordOf_82 ?_
      exact az_iret dX12_wordOf_83 hQ
    · refine az_tswIn (off := 81) (tgt := 82) dX12_wordOf_1 (by decide) (by decide) (by rfl) (by decide) ?_
      refine az_iconst (v := -1) dX12_wordOf_82 ?_
      exact az_iret dX12_wordOf_83 hQ
    · refine az_tswIn (off := 81) (tgt := 82) dX12_wordOf_1 (by decide) (by decide) (by rfl) (by decide) ?_
      refine az_iconst (v := -1) dX12_wordOf_82 ?_
      exact az_iret dX12_wordOf_83 hQ
    · refine az_tswIn (off := 81) (tgt := 82) dX12_wordOf_1 (by decide) (by decide) (by rfl) (by decide) ?_
      refine az_iconst (v := -1) dX12_wordOf_82 ?_
      exact az_iret dX12_wordOf_83 hQ
    · refine az_tswIn (off := 81) (tgt := 82) dX12_wordOf_1 (by decide) (by decide) (by rfl) (by decide) ?_
      refine az_iconst (v := -1) dX12_wordOf_82 ?_
      exact az_iret dX12_wordOf_83 hQ
    · refine az_tswIn (off := 81) (tgt := 82) dX12_wordOf_1 (by decide) (by decide) (by rfl) (by decide) ?_
      refine az_iconst (v := -1) dX12_wordOf_82 ?_
      exact az_iret dX12_wordOf_83 hQ
    · refine az_tswIn (off := 81) (tgt := 82) dX12_wordOf_1 (by decide) (by decide) (by rfl) (by decide) ?_
      refine az_iconst (v := -1) dX12_wordOf_82 ?_
      exact az_iret dX12_wordOf_83 hQ
    · refine az_tswIn (off := 81) (tgt := 82) dX12_wordOf_1 (by decide) (by decide) (by rfl) (by decide) ?_
      refine az_iconst (v := -1) dX12_wordOf_82 ?_
      exact az_iret dX12_wordOf_83 hQ
    · refine az_tswIn (off := 71) (tgt := 72) dX12_wordOf_1 (by decide) (by decide) (by rfl) (by decide) ?_
      refine az_iconst (v := nI 0) dX12_wordOf_72 ?_
      exact az_iret dX12_wordOf_73 hQ
    · refine az_tswIn (off := 75) (tgt := 76) dX12_wordOf_1 (by decide) (by decide) (by rfl) (by decide) ?_
      refine az_iconst (v := nI 2) dX12_wordOf_76 ?_
      exact az_iret dX12_wordOf_77 hQ
    · refine az_tswIn (off := 77) (tgt := 78) dX12_wordOf_1 (by decide) (by decide) (by rfl) (by decide) ?_
      refine az_iconst (v := nI 3) dX12_wordOf_78 ?_
      exact az_iret dX12_wordOf_79 hQ
    · refine az_tswIn (off := 79) (tgt := 80) dX12_wordOf_1 (by decide) (by decide) (by rfl) (by decide) ?_
      refine az_iconst (v := nI 4) dX12_wordOf_80 ?_
      exact az_iret dX12_wordOf_81 hQ
theorem nm_no {b : Nat → Nat} {n e k : Nat} (he : e ≤ n) (hk : mrK b n e k) (h : mwd k = (-1)) : rd_nm b n e = 0 := by
  unfold mwd at h
  have h12 : k ≠ 12 := fun q => by rw [if_pos q] at h; exact absurd h (by decide)
  have h2 : k ≠ 2 := fun q => by rw [if_neg h12, if_pos q] at h; exact absurd h (by decide)
  have h13 : k ≠ 13 := fun q => by rw [if_neg h12, if_neg h2, if_pos q] at h; exact absurd h (by decide)
  have h14 : k ≠ 14 := fun q => by rw [if_neg h12, if_neg h2, if_neg h13, if_pos q] at h; exact absurd h (by decide)
  have h15 : k ≠ 15 := fun q => by rw [if_neg h12, if_neg h2, if_neg h13, if_neg h14, if_pos q] at h; exact absurd h (by decide)
  unfold rd_nm
  rw [if_neg (fun q => h12 (mrK_1 hk ((kw_night he).mpr q))), if_neg (fun q => h2 (mrK_1 hk ((kw_moon he).mpr q))), if_neg (fun q => h13 (mrK_1 hk ((kw_front he).mpr q))), if_neg (fun q => h14 (mrK_1 hk ((kw_back he).mpr q))), if_neg (fun q => h15 (mrK_1 hk ((kw_rest he).mpr q)))]
theorem nm_yes {b : Nat → Nat} {n e k : Nat} (he : e ≤ n) (hk : mrK b n e k) (h : mwd k ≠ (-1)) : nI 1000 + mwd k = nI (rd_nm b n e) ∧ rd_nm b n e ≠ 0 ∧ k < 19 ∧ k ≠ 8 := by
  unfold mwd at h ⊢
  unfold rd_nm
  by_cases h12 : k = 12
  · subst h12; rw [if_pos rfl, if_pos ((kw_night he).mp hk)]; exact ⟨by decide, by decide, by decide, by decide⟩
  · rw [if_neg h12] at h ⊢
    rw [if_neg (fun q => h12 (mrK_1 hk ((kw_night he).mpr q)))]
    by_cases h2 : k = 2
    · subst h2; rw [if_pos rfl, if_pos ((kw_moon he).mp hk)]; exact ⟨by decide, by decide, by decide, by decide⟩
    · rw [if_neg h2] at h ⊢
      rw [if_neg (fun q => h2 (mrK_1 hk ((kw_moon he).mpr q)))]
      by_cases h13 : k = 13
      · subst h13; rw [if_pos rfl, if_pos ((kw_front he).mp hk)]; exact ⟨by decide, by decide, by decide, by decide⟩
      · rw [if_neg h13] at h ⊢
        rw [if_neg (fun q => h13 (mrK_1 hk ((kw_front he).mpr q)))]
        by_cases h14 : k = 14
        · subst h14; rw [if_pos rfl, if_pos ((kw_back he).mp hk)]; exact ⟨by decide, by decide, by decide, by decide⟩
        · rw [if_neg h14] at h ⊢
          rw [if_neg (fun q => h14 (mrK_1 hk ((kw_back he).mpr q)))]
          by_cases h15 : k = 15
          · subst h15; rw [if_pos rfl, if_pos ((kw_rest he).mp hk)]; exact ⟨by decide, by decide, by decide, by decide⟩
          · rw [if_neg h15] at h; exact absurd rfl h
theorem mrK_1w {b : Nat → Nat} {n e k : Nat} (h : mrK b n e k) (hk : k < 19) : rd_kd b n e = 1 := by
  rcases h with ⟨p, h1⟩ | ⟨p, h1⟩ | ⟨p, h1⟩ | ⟨p, j, j1, j2, j3⟩ | ⟨p, h1⟩ <;> first | exact p | omega
section
variable {b : Nat → Nat} {n r e : Nat} {L : rd_P × rd_P × rd_P} {c : List Nat}
theorem at_n (h : rd_kd b n e = 2) : rd_at b n r L e c = .inl (rd_en b n e, c ++ [rd_va b n e]) := by
  unfold rd_at
  rw [if_neg (fun q => by have := q.1; omega), if_neg (fun q => by have := q.1; omega), if_pos h]
theorem at_w {k : Nat} (he : e ≤ n) (hk : mrK b n e k) (h1 : k < 19) (h8 : k ≠ 8) (hm : rd_nm b n e ≠ 0) : rd_at b n r L e c = .inl (rd_en b n e, c ++ [rd_nm b n e]) := by
  have hd := mrK_1w hk h1
  unfold rd_at
  rw [if_neg (fun q => by have := q.1; omega), if_neg (fun q => h8 (mrK_1 hk ((kw_if he).mpr q))), if_neg (by omega), if_neg hm]
theorem at_p (h : mrK b n e 35) : rd_at b n r L e c = rd_b (rd_b (rd_gd b n r e c) L.1) (rd_ts b n 41) := if_pos (ks_40.mp h)
theorem at_i (he : e ≤ n) (h : mrK b n e 8) : rd_at b n r L e c = rd_b (rd_gd b n r e c) (rd_ch b n L) := by
  have hd := mrK_1w h (by decide)
  unfold rd_at
  rw [if_neg (fun q => by have := q.1; omega), if_pos ((kw_if he).mp h)]
theorem at_0 (he : e ≤ n) (h1 : ¬ mrK b n e 23) (h2 : rd_nm b n e = 0) (h3 : ¬ mrK b n e 35) (h4 : ¬ mrK b n e 8) : rd_at b n r L e c = rd_fail b n 2 e := by
  unfold rd_at
  rw [if_neg (fun q => h3 (ks_40.mpr q)), if_neg (fun q => h4 ((kw_if he).mpr q)), if_neg (fun q => h1 (mrK_N.mpr q)), if_pos h2]
end
theorem gd_0 {b : Nat → Nat} {n r e : Nat} {c : List Nat} (h : r = 0) : rd_gd b n r e c = rd_fail b n 4 e := if_pos h
theorem gd_1 {b : Nat → Nat} {n r e : Nat} {c : List Nat} (h : ¬ r = 0) : rd_gd b n r e c = .inl (rd_en b n e, c) := if_neg h
theorem rf_b (b : Nat → Nat) (n f e : Nat) (P : rd_P) : rd_b (rd_fail b n f e) P = rd_fail b n f e := rfl

set_option maxHeartbeats 4000000 in
set_option maxRecDepth 100000 in
theorem m_goesIn {d dp lvl e : Nat} {c : List Nat} {sc : Nat → Value} {b : Nat → Nat} {n : Nat} {fr : Nat → Nat} {k0 : Nat} {hp : az_Hp} {Q : Option Value → az_Hp → Prop} (hd : 8 ≤ d) (hdp : dp + lvl = 6) (H : mr_R hp sc b n fr k0 (.inl (e, c))) (hQ1 : lvl ≠ 0 → ∀ h', mr_R h' sc b n fr k0 (.inl (rd_en b n e, c)) → mf hp h' [64] → Q (some (.int (nI 1))) h') (hQ0 : lvl = 0 → ∀ h', mr_R h' sc b n fr k0 (rd_fail b n 4 e) → mf hp h' [64] → Q (some (.int (nI 0))) h') : az_M mX12_goesIn d 0 0 [.ref 64, .int (nI dp)] hp Q := by
  obtain ⟨a0, z0, ki0, nu0, wa0, e0, w0, hki0, hnu0⟩ := H.o
  by_cases hl : lvl = 0
  · skip
    refine az_M.of rfl (Nat.le_of_ble_eq_true rfl) ?_
    show az_W _ _ _ _ 0 [(0, .ref 64), (1, .int (nI dp))] [] _ _
    refine az_iload_n dX12_goesIn_0 ?_
    refine az_bipush (v := nI 6) dX12_goesIn_1 ?_
    refine az_icmp_neN (tgt := 11) dX12_goesIn_3 (fun c3 => ?_) (fun c3 => ?_)
    · exact absurd c3 (by omega)
    · refine az_aload_n dX12_goesIn_6 ?_
      refine az_iconst (v := nI 4) dX12_goesIn_7 ?_
      refine az_cV0 (st := []) dX12_goesIn_8 ml_X12_165 e0 (m_fails (d := d - 1) (f9 := 4) (by decide) (by decide) H ?_)
      intro h2 H2 mf2
      have H2 : mr_R h2 sc b n fr k0 (rd_fail b n 4 e) := H2
      obtain ⟨a2, z2, ki2, nu2, wa2, e2, w2, hki2, hnu2⟩ := H2.o
      have hf2 : 1 ≤ mr_w (rd_fail b n 4 e) := (by show 1 ≤ (if rd_kd b n e = 4 then 1 else 4); split <;> decide)
      refine az_aload_n dX12_goesIn_11 ?_
      refine az_getf (v := .int (nI (mr_w (rd_fail b n 4 e)))) dX12_goesIn_12 fl_X12_153 e2 ?_
      refine az_if_neN (tgt := 22) dX12_goesIn_15 (fun c15 => ?_) (fun c15 => ?_)
      · refine az_aload_n dX12_goesIn_22 ?_
        refine az_getf (v := .int (nI (mr_w (rd_fail b n 4 e)))) dX12_goesIn_23 fl_X12_153 e2 ?_
        refine az_if_neN (tgt := 33) dX12_goesIn_26 (fun c26 => ?_) (fun c26 => ?_)
        · refine az_iconst (v := nI 0) dX12_goesIn_33 ?_
          exact az_iret dX12_goesIn_34 (hQ0 hl h2 H2 mf2)
        · exact absurd c26 (by omega)
      · exact absurd c15 (by omega)
  · skip
    refine az_M.of rfl (Nat.le_of_ble_eq_true rfl) ?_
    show az_W _ _ _ _ 0 [(0, .ref 64), (1, .int (nI dp))] [] _ _
    refine az_iload_n dX12_goesIn_0 ?_
    refine az_bipush (v := nI 6) dX12_goesIn_1 ?_
    refine az_icmp_neN (tgt := 11) dX12_goesIn_3 (fun c3 => ?_) (fun c3 => ?_)
    · refine az_aload_n dX12_goesIn_11 ?_
      refine az_getf (v := .int (nI 0)) dX12_goesIn_12 fl_X12_153 e0 ?_
      refine az_if_neN (tgt := 22) dX12_goesIn_15 (fun c15 => ?_) (fun c15 => ?_)
      · exact absurd c15 (by omega)
      · refine az_aload_n dX12_goesIn_18 ?_
        refine az_cV0 (st := []) dX12_goesIn_19 ml_X12_162 e0 (m_nextR (d := d - 1) (e := e) (c := c) (c' := c) (sc := sc) (b := b) (n := n) (fr := fr) (k0 := k0) (by omega) H.1 H.2.1 (Nat.le_trans H.2.2.1 (rd_en_le2 (b := b) H.2.1)) H.2.2.2.1 H.2.2.2.2 ?_)
        intro h3 H3 mf3
        obtain ⟨a3, z3, ki3, nu3, wa3, e3, w3, hki3, hnu3⟩ := H3.o
        refine az_aload_n dX12_goesIn_22 ?_
        refine az_getf (v := .int (nI 0)) dX12_goesIn_23 fl_X12_153 e3 ?_
        refine az_if_neN (tgt := 33) dX12_goesIn_26 (fun c26 => ?_) (fun c26 => ?_)
        · exact absurd c26 (by omega)
        · refine az_iconst (v := nI 1) dX12_goesIn_29 ?_
          refine az_goto (tgt := 34) dX12_goesIn_30 ?_
          exact az_iret dX12_goesIn_34 (hQ1 hl h3 H3 mf3)
    · exact absurd c3 (by omega)

