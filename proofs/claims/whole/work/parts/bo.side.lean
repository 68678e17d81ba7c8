/-! The class and the model side by side -/
theorem cs_H.fz {h h' : az_Hp} {s : cs_S} {t kk kt K : Nat} {F : Nat → Prop} {ia : Nat → Nat × Nat} (H : cs_H h s t F ia kk kt K) (h1 : h'.1 = h.1) (hf : ∀ q, q < h.1 → (q < 64 ∨ 93 ≤ q) → h'.2 q = h.2 q) : cs_H h' s t F ia kk kt K := by
  obtain ⟨x1, x2, x3, x4, x5, x6, x7, x8, x9, x10, x11, x12, x13, x14⟩ := H
  obtain ⟨a1, a2, a3, a4, a5, a6, a7, a8⟩ := x14
  have E : ∀ q, q < 64 → h'.2 q = h.2 q := fun q b => hf q (by omega) (Or.inl b)
  refine ⟨(E 0 (by omega)).trans x1, ?_, ?_, ?_, ?_, ?_, ?_, ?_, ?_, ln_Scene.eqv x10 (fun z _ b => E z (by omega)), ?_, ?_, x13.eqv (fun q hq => (by have := a6 q hq; exact hf q (by omega) (by omega))) (fun _ q => q), ?_⟩
  · obtain ⟨tf, q1, q2⟩ := x2
    exact ⟨tf, (E _ (by omega)).trans q1, q2⟩
  · obtain ⟨tx, sz, ki, aa, zz, va, k5, cf, ol, q1, q2, q3, q4⟩ := x3
    exact ⟨tx, sz, ki, aa, zz, va, k5, cf, ol, (E _ (by omega)).trans q1, q2, (E _ (by omega)).trans q3, (E _ (by omega)).trans q4⟩
  · obtain ⟨fa, fn, fm, q1, q2, q3, q4, q5⟩ := x4
    exact ⟨fa, fn, fm, (E _ (by omega)).trans q1, (E _ (by omega)).trans q2, (E _ (by omega)).trans q3, (E _ (by omega)).trans q4, q5⟩
  · obtain ⟨g, q1, q2⟩ := x5
    refine ⟨g, (E _ (by omega)).trans q1, fun i hi => ?_⟩
    have h3 := q2 i hi
    cases hm : s.2.2.2.2.2.1 i with
    | none => rw [hm] at h3; exact h3
    | some x =>
      rw [hm] at h3
      have h4 := a7 i hi (by rw [hm]; exact fun q => by cases q)
      exact ⟨h3.1, ln_Scene.eqv h3.2.1 (fun z b1 b2 => hf z (by omega) (by omega)), h3.2.2.eqv (fun q hq => (by have := a6 q hq; exact hf q (by omega) (by omega))) (fun _ q => q)⟩
  · obtain ⟨g, q1, q2⟩ := x6
    exact ⟨g, (E _ (by omega)).trans q1, fun i hi => ⟨(q2 i hi).1, (q2 i hi).2.eqv (E _ (by omega)) (E _ (by omega))⟩⟩
  · obtain ⟨v3, v4, f1, f2, q1, q2, q3⟩ := x7
    exact ⟨v3, v4, f1, f2, (E _ (by omega)).trans q1, (E _ (by omega)).trans q2, (E _ (by omega)).trans q3⟩
  · obtain ⟨v1, v5, v6, f, fb, wb, sG, hN, q1, q2, q3, q4, q5, q6⟩ := x8
    exact ⟨v1, v5, v6, f, fb, wb, sG, hN, (E _ (by omega)).trans q1, (E _ (by omega)).trans q2, (E _ (by omega)).trans q3, (E _ (by omega)).trans q4, (E _ (by omega)).trans q5, (E _ (by omega)).trans q6⟩
  · obtain ⟨f, c, q1, q2, q3⟩ := x9
    exact ⟨f, c, (E _ (by omega)).trans q1, (E _ (by omega)).trans q2, (E _ (by omega)).trans q3⟩
  · obtain ⟨t0, v1, v2, v3, v4, v5, c, c2, c3, c4, no, wa, nc, q1, q2, q3, q4, q5, q6, q7, q8⟩ := x11
    exact ⟨t0, v1, v2, v3, v4, v5, c, c2, c3, c4, no, wa, nc, (E _ (by omega)).trans q1, (E _ (by omega)).trans q2, (E _ (by omega)).trans q3, (E _ (by omega)).trans q4, (E _ (by omega)).trans q5, (E _ (by omega)).trans q6, (E _ (by omega)).trans q7, (E _ (by omega)).trans q8⟩
  · obtain ⟨t0, tl, wn, wx, S, f, r, s, a, b, L, g0, g1, g2, g3, ta, pr, g4, g5, k9⟩ := x12
    have hp := pr.b
    exact ⟨t0, tl, wn, wx, S, f, r, s, a, b, L, (E _ (by omega)).trans g0, (E _ (by omega)).trans g1, (E _ (by omega)).trans g2, (E _ (by omega)).trans g3, ta.eqv (E _ (by omega)) (hf _ a4 (by omega)) (hf _ a5 (by omega)) (E _ (by omega)), pr, (E _ (by omega)).trans g4, (E _ (by omega)).trans g5, k9⟩
  · unfold cs_ad
    rw [h1]
    exact ⟨a1, a2, a3, a4, a5, a6, a7, a8⟩
theorem cs.fz {h h' : az_Hp} {s : cs_S} {K : Nat} (H : cs h s K) (hf : az_fr h h' 64 93) : cs h' s K := by
  obtain ⟨hok, t, F, ia, kk, kt, H⟩ := H
  exact ⟨hok, t, F, ia, kk, kt, H.fz hf.1 (fun q _ hq => hf.2 q (by omega))⟩
theorem mm.fz {h h' : az_Hp} {s : cs_S} (H : mm h s) (hf : cs_f h h') : mm h' s := by
  obtain ⟨sc, A, tf, hI, rs, rm, nu, a1, a2, a3, a4, a5, a6, a7, a8, a9, a10, a11, a12, a13, a14⟩ := H
  have E : ∀ q, 64 ≤ q → q < 93 → h'.2 q = h.2 q := hf.2
  refine ⟨sc, A, tf, hI, rs, rm, nu, (E _ (by decide) (by decide)).trans a1, a2, (E _ (by decide) (by decide)).trans a3, a4, a5, (E _ (by decide) (by decide)).trans a6, a7, (E _ (by decide) (by decide)).trans a8, a9, (E _ (by decide) (by decide)).trans a10, (E _ (by decide) (by decide)).trans a11, (E _ (by decide) (by decide)).trans a12, a13, fun q q1 q2 => ?_⟩
  have g := a14 q q1 q2
  unfold mk1 at g ⊢
  rw [E q (by omega) (by omega)]
  exact g
theorem cs.o {h : az_Hp} {s : cs_S} {K : Nat} (H : cs h s K) : ∃ fs, h.2 0 = some (az_O 10 fs) := by
  obtain ⟨hok, t, F, ia, kk, kt, x1, -⟩ := H
  exact ⟨_, x1⟩
theorem mm.o {h : az_Hp} {s : cs_S} (H : mm h s) : ∃ fs, h.2 64 = some (az_O 11 fs) := by
  obtain ⟨sc, A, tf, hI, rs, rm, nu, a1, -⟩ := H
  exact ⟨_, a1⟩
theorem cs.ok {h : az_Hp} {s : cs_S} {K : Nat} (H : cs h s K) : cs_ok s := H.1
theorem P_attempt {d K : Nat} {x : Int32} {s : cs_S} {hp : az_Hp} (hd : 80 ≤ d) (hC : cs hp s K) : ∃ rs K' : Nat, ((K' = K ∧ rs = 0) ∨ (K < K' ∧ rs = 2 * K' ∧ K' ≤ 32768 ∧ ∃ j, K' = 2 ^ j)) ∧ az_M mX11_attempt d 2 rs [.ref 0, .int x] hp (fun o h' => ∃ s', J_attempt x s o s' ∧ cs h' s' K' ∧ cs_f hp h') := by
  obtain ⟨⟨tp, bt⟩, ⟨fk, fp⟩, v, ⟨mo, ni, bs⟩, U, im, tr⟩ := s
  have hw : ln_ok (rd_w v) := hC.1.2.2.1.1
  by_cases hg : ∃ n y, x = nI n ∧ n < 4 ∧ tr n = some y ∧ 1 ≤ y.2.length ∧ y.2.length ≤ 8 ∧ cs_ln y.2 (-1) ∧ (fu_lg (rd_w v) (fun j => y.2.getD j 0) y.2.length 0 (fun x => (ln_str (rd_w v) bs).count x)).length ≠ 0 ∧ K < ta_sl ((fu_lg (rd_w v) (fun j => y.2.getD j 0) y.2.length 0 (fun x => (ln_str (rd_w v) bs).count x)).length * ln_tb (rd_w v))
  · obtain ⟨n, y, g1, g2, g3, g4, g5, g6, g7, g8⟩ := hg
    have hE : (fu_lg (rd_w v) (fun j => y.2.getD j 0) y.2.length 0 (fun x => (ln_str (rd_w v) bs).count x)).length * ln_tb (rd_w v) ≤ 19683 := (by have hml := fu_lg_len hw (fun j => y.2.getD j 0) y.2.length 0 (fun x => (ln_str (rd_w v) bs).count x); have hp3 : 3 ^ y.2.length ≤ 3 ^ 8 := Nat.pow_le_pow_right (by decide) g5; have hp4 : 3 ^ 8 = 6561 := rfl; have := Nat.mul_le_mul (show (fu_lg (rd_w v) (fun j => y.2.getD j 0) y.2.length 0 (fun x => (ln_str (rd_w v) bs).count x)).length ≤ 6561 by omega) hw.2.1; omega)
    obtain ⟨z1, z2, z3, z4⟩ := ta_sl_ok hE
    have un : ∀ n' y', x = nI n' → n' < 4 → tr n' = some y' → y' = y := fun n' y' c0 c1 c2 => (by
      obtain rfl : n' = n := lN_2 (c0.symm.trans g1) (by omega) (by omega)
      exact Option.some.inj (c2.symm.trans g3))
    refine ⟨2 * ta_sl ((fu_lg (rd_w v) (fun j => y.2.getD j 0) y.2.length 0 (fun x => (ln_str (rd_w v) bs).count x)).length * ln_tb (rd_w v)), ta_sl ((fu_lg (rd_w v) (fun j => y.2.getD j 0) y.2.length 0 (fun x => (ln_str (rd_w v) bs).count x)).length * ln_tb (rd_w v)), Or.inr ⟨g8, rfl, z1, z4⟩, p_attempt2 (by omega) hC ?_ ?_ ?_ ?_ ?_ ?_ ?_⟩
    · intro n' y' c0 c1 c2 _ _ _ _ _
      obtain rfl := un n' y' c0 c1 c2
      exact Nat.le_refl _
    · intro c
      exact absurd g1 (c n g2)
    · intro n' c0 c1 c2
      obtain rfl : n' = n := lN_2 (c0.symm.trans g1) (by omega) (by omega)
      exact nomatch (c2.symm.trans g3)
    · intro n' y' c0 c1 c2 c3
      obtain rfl := un n' y' c0 c1 c2
      exact absurd ⟨g4, g5⟩ c3
    · intro n' y' c0 c1 c2 c3 c4 c5
      obtain rfl := un n' y' c0 c1 c2
      exact absurd g6 c5
    · intro n' y' c0 c1 c2 c3 c4 c5 c6
      obtain rfl := un n' y' c0 c1 c2
      exact absurd c6 g7
    · intro n' y' c0 c1 c2 c3 c4 c5 c6 h1 K' hK _ e1 e2
      obtain rfl := un n' y' c0 c1 c2
      obtain ⟨c7, -⟩ | ⟨-, rfl⟩ := hK
      · exact absurd g8 (Nat.not_lt.mpr c7)
      · exact ⟨_, Or.inr (Or.inr (Or.inr (Or.inr (Or.inr ⟨n', y', c0, c1, c2, c3, c4, c5, c6, rfl, rfl⟩)))), e1, e2⟩
  · refine ⟨0, K, Or.inl ⟨rfl, rfl⟩, p_attempt2 (by omega) hC ?_ ?_ ?_ ?_ ?_ ?_ ?_⟩
    · intro n y c0 c1 c2 c3 c4 c5 c6 c7
      exact absurd ⟨n, y, c0, c1, c2, c3, c4, c5, c6, c7⟩ hg
    · exact fun c0 => ⟨_, Or.inl ⟨c0, rfl, rfl⟩, hC, cs_f.rf⟩
    · exact fun n c0 c1 c2 => ⟨_, Or.inr (Or.inl ⟨n, c0, c1, c2, rfl, rfl⟩), hC, cs_f.rf⟩
    · exact fun n y c0 c1 c2 c3 => ⟨_, Or.inr (Or.inr (Or.inl ⟨n, y, c0, c1, c2, c3, rfl, rfl⟩)), hC, cs_f.rf⟩
    · exact fun n y c0 c1 c2 c3 c4 c5 => ⟨_, Or.inr (Or.inr (Or.inr (Or.inl ⟨n, y, c0, c1, c2, c3, c4, c5, rfl, rfl⟩))), hC, cs_f.rf⟩
    · exact fun n y c0 c1 c2 c3 c4 c5 c6 h1 e1 e2 => ⟨_, Or.inr (Or.inr (Or.inr (Or.inr (Or.inl ⟨n, y, c0, c1, c2, c3, c4, c5, c6, rfl, rfl⟩)))), e1, e2⟩
    · intro n y c0 c1 c2 c3 c4 c5 c6 h1 K' hK _ e1 e2
      obtain ⟨-, rfl⟩ | ⟨c7, rfl⟩ := hK
      · exact ⟨_, Or.inr (Or.inr (Or.inr (Or.inr (Or.inr ⟨n, y, c0, c1, c2, c3, c4, c5, c6, rfl, rfl⟩)))), e1, e2⟩
      · exact absurd ⟨n, y, c0, c1, c2, c3, c4, c5, c6, c7⟩ hg
