/-! LetterNights: images -/
theorem cs_H.mid {h h' : az_Hp} {s : cs_S} {t kk kt K : Nat} {F : Nat → Prop} {ia : Nat → Nat × Nat} (E : Nat → Prop) (H : cs_H h s t F ia kk kt K) (hf : ∀ q, q < h.1 → ¬ E q → h'.2 q = h.2 q) (hE : ∀ q, E q → (q < 11 ∨ 30 ≤ q) ∧ (q < 38 ∨ 93 ≤ q) ∧ ¬ F q ∧ q ≠ kk ∧ q ≠ kt) : cs_tr h' s.2.2.2.2.2.2 ∧ ln_Surv h' 12 ∧ cs_fi h' ∧ cs_ki h' ∧ cs_tl h' ∧ fu_U h' 46 kk kt K ∧ ln_Tf h' t (rd_w s.2.2.1) F ∧ ∀ i, i < 2 → ∀ x, s.2.2.2.2.2.1 i = some x → (∀ q, (ia i).1 ≤ q → q < (ia i).1 + 8 → ¬ E q) → ln_SZ h' (ia i).1 (ia i).2 (rd_w x.1) x.2 ∧ ln_Tf h' (ia i).2 (rd_w x.1) F := by
  obtain ⟨x1, x2, x3, x4, x5, x6, x7, x8, x9, x10, x11, x12, x13, x14⟩ := H
  obtain ⟨a1, a2, a3, a4, a5, a6, a7, a8⟩ := x14
  have e : ∀ q, ((11 ≤ q ∧ q < 30) ∨ (38 ≤ q ∧ q < 93)) → h'.2 q = h.2 q := fun q hq => hf q (by omega) (fun c => by have := hE q c; omega)
  have eF : ∀ q, F q → h'.2 q = h.2 q := fun q hq => hf q (a6 q hq).1 (fun c => (hE q c).2.2.1 hq)
  have ek : h'.2 kk = h.2 kk := hf kk a4 (fun c => (hE _ c).2.2.2.1 rfl)
  have et : h'.2 kt = h.2 kt := hf kt a5 (fun c => (hE _ c).2.2.2.2 rfl)
  refine ⟨?_, ?_, ?_, ?_, ?_, ?_, x13.eqv eF (fun _ q => q), ?_⟩
  · obtain ⟨g, q1, q2⟩ := x6
    exact ⟨g, (e _ (by omega)).trans q1, fun i hi => ⟨(q2 i hi).1, (q2 i hi).2.eqv (e _ (by omega)) (e _ (by omega))⟩⟩
  · obtain ⟨v3, v4, f1, f2, q1, q2, q3⟩ := x7
    exact ⟨v3, v4, f1, f2, (e _ (by omega)).trans q1, (e _ (by omega)).trans q2, (e _ (by omega)).trans q3⟩
  · obtain ⟨v1, v5, v6, f, fb, wb, sG, hN, q1, q2, q3, q4, q5, q6⟩ := x8
    exact ⟨v1, v5, v6, f, fb, wb, sG, hN, (e _ (by omega)).trans q1, (e _ (by omega)).trans q2, (e _ (by omega)).trans q3, (e _ (by omega)).trans q4, (e _ (by omega)).trans q5, (e _ (by omega)).trans q6⟩
  · obtain ⟨f, c, q1, q2, q3⟩ := x9
    exact ⟨f, c, (e _ (by omega)).trans q1, (e _ (by omega)).trans q2, (e _ (by omega)).trans q3⟩
  · obtain ⟨t0, v1, v2, v3, v4, v5, c, c2, c3, c4, no, wa, nc, q1, q2, q3, q4, q5, q6, q7, q8⟩ := x11
    exact ⟨t0, v1, v2, v3, v4, v5, c, c2, c3, c4, no, wa, nc, (e _ (by omega)).trans q1, (e _ (by omega)).trans q2, (e _ (by omega)).trans q3, (e _ (by omega)).trans q4, (e _ (by omega)).trans q5, (e _ (by omega)).trans q6, (e _ (by omega)).trans q7, (e _ (by omega)).trans q8⟩
  · obtain ⟨t0, tl, wn, wx, S, f, r, s, a, b, L, g0, g1, g2, g3, ta, pr, g4, g5, k9⟩ := x12
    have hp := pr.b
    exact ⟨t0, tl, wn, wx, S, f, r, s, a, b, L, (e _ (by omega)).trans g0, (e _ (by omega)).trans g1, (e _ (by omega)).trans g2, (e _ (by omega)).trans g3, ta.eqv (e _ (by omega)) ek et (e _ (by omega)), pr, (e _ (by omega)).trans g4, (e _ (by omega)).trans g5, k9⟩
  · intro i hi x hx hd
    obtain ⟨g, q1, q2⟩ := x5
    have h3 := q2 i hi
    rw [hx] at h3
    have h4 := a7 i hi (by rw [hx]; exact fun q => by cases q)
    exact ⟨ln_Scene.eqv h3.2.1 (fun z b1 b2 => hf z (by omega) (hd z b1 b2)), h3.2.2.eqv eF (fun _ q => q)⟩
theorem az_Q_inj {R : String} {n : Nat} {f g : Nat → Value} (h : az_Q R n f = az_Q R n g) : f = g := by
  injection h with h
  injection h with h1 h2
  injection h2 with h3 h4
theorem cs_H.imA {tp fk mo ni K n t kk kt : Nat} {bt : Nat → Nat} {fp : Int32} {v : rd_V} {bs : List Nat} {U : ln_U} {im : Nat → Option (rd_V × ln_Z)} {tr : Nat → Option (Nat × List Int64)} {h h' : az_Hp} {F : Nat → Prop} {ia : Nat → Nat × Nat} {g : Nat → Value} {z9 : ln_Z} (H : cs_H h ((tp, bt), (fk, fp), v, (mo, ni, bs), U, im, tr) t F ia kk kt K) (hn : n < 2) (h1 : h'.1 = h.1 + 8) (hk : ∀ z, z < h.1 → z ≠ 10 → h'.2 z = h.2 z) (hg : h.2 10 = some (az_Q RX6 2 g)) (hg' : h'.2 10 = some (az_Q RX6 2 (az_s g n (.ref h.1)))) (hS : ln_SZ h' h.1 t (rd_w v) z9) : cs_H h' ((tp, bt), (fk, fp), v, (mo, ni, bs), U, (fun j => if j = n then some (v, z9) else im j), tr) t F (fun j => if j = n then (h.1, t) else ia j) kk kt K := by
  have H0 := H
  obtain ⟨x1, x2, x3, x4, x5, x6, x7, x8, x9, x10, x11, x12, x13, x14⟩ := H
  have x5 : cs_im h im ia F := x5
  have x14 : cs_ad h im F ia kk kt := x14
  obtain ⟨a1, a2, a3, a4, a5, a6, a7, a8⟩ := id x14
  obtain ⟨m6, m7, m8, m9, m11, m12, m13, mi⟩ := H0.mid (h' := h') (fun q => q = 10) (fun q hq he => hk q hq he) (fun q hq => (by subst hq; exact ⟨by omega, by omega, fun c => (by have := a6 _ c; omega), by omega, by omega⟩))
  have e : ∀ q, q < 64 → q ≠ 10 → h'.2 q = h.2 q := fun q b c => hk q (by omega) c
  refine ⟨(e 0 (by omega) (by omega)).trans x1, ?_, ?_, ?_, ?_, m6, m7, m8, m9, ln_Scene.eqv x10 (fun z _ b => e z (by omega) (by omega)), m11, m12, m13, ?_⟩
  · obtain ⟨tf, q1, q2⟩ := x2
    exact ⟨tf, (e _ (by omega) (by omega)).trans q1, q2⟩
  · obtain ⟨tx, sz, ki, aa, zz, va, k5, cf, ol, q1, q2, q3, q4⟩ := x3
    exact ⟨tx, sz, ki, aa, zz, va, k5, cf, ol, (e _ (by omega) (by omega)).trans q1, q2, (e _ (by omega) (by omega)).trans q3, (e _ (by omega) (by omega)).trans q4⟩
  · obtain ⟨fa, fn, fm, q1, q2, q3, q4, q5⟩ := x4
    exact ⟨fa, fn, fm, (e _ (by omega) (by omega)).trans q1, (e _ (by omega) (by omega)).trans q2, (e _ (by omega) (by omega)).trans q3, (e _ (by omega) (by omega)).trans q4, q5⟩
  · refine ⟨_, hg', fun i hi => ?_⟩
    obtain ⟨g2, q1, q2⟩ := x5
    obtain rfl : g2 = g := by
      have q9 := q1.symm.trans hg
      injection q9 with q9
      exact az_Q_inj q9
    have h3 := q2 i hi
    by_cases ei : i = n
    · subst ei
      simp only [if_pos]
      exact ⟨az_s_eq, hS, m13⟩
    · simp only [if_neg ei]
      rw [az_s_ne ei]
      cases hm : im i with
      | none => rw [hm] at h3; exact h3
      | some x =>
        rw [hm] at h3
        have h4 := a7 i hi (by rw [hm]; exact fun q => by cases q)
        exact ⟨h3.1, mi i hi x hm (fun q b1 b2 b3 => by omega)⟩
  · refine ⟨by omega, a2, a3, by omega, by omega, fun q hq => ⟨by have := a6 q hq; omega, (a6 q hq).2⟩, fun i hi hne => ?_, fun h0 h9 => ?_⟩
    · by_cases ei : i = n
      · subst ei
        simp only [if_pos]
        exact ⟨by omega, by omega, by omega, by omega, fun q hq => by have := a6 q hq; omega⟩
      · simp only [if_neg ei] at hne ⊢
        have h4 := a7 i hi hne
        exact ⟨h4.1, by omega, h4.2.2⟩
    · rcases Nat.eq_zero_or_pos n with rfl | hn0
      · have h4 := a7 1 (by omega) (by simpa using h9)
        simp only [if_pos, if_neg (show ¬ (1 : Nat) = 0 by omega)]
        omega
      · obtain rfl : n = 1 := by omega
        have h4 := a7 0 (by omega) (by simpa using h0)
        simp only [if_pos, if_neg (show ¬ (0 : Nat) = 1 by omega)]
        omega
theorem cs_H.imB {tp fk mo ni K n t kk kt : Nat} {bt : Nat → Nat} {fp : Int32} {v : rd_V} {bs : List Nat} {U : ln_U} {im : Nat → Option (rd_V × ln_Z)} {tr : Nat → Option (Nat × List Int64)} {h h' : az_Hp} {F : Nat → Prop} {ia : Nat → Nat × Nat} {x9 : rd_V × ln_Z} {z9 : ln_Z} (H : cs_H h ((tp, bt), (fk, fp), v, (mo, ni, bs), U, im, tr) t F ia kk kt K) (hn : n < 2) (him : im n = some x9) (hf : az_fr h h' (ia n).1 ((ia n).1 + 8)) (hS : ln_SZ h' (ia n).1 t (rd_w v) z9) : cs_H h' ((tp, bt), (fk, fp), v, (mo, ni, bs), U, (fun j => if j = n then some (v, z9) else im j), tr) t F (fun j => if j = n then ((ia n).1, t) else ia j) kk kt K := by
  have H0 := H
  obtain ⟨x1, x2, x3, x4, x5, x6, x7, x8, x9, x10, x11, x12, x13, x14⟩ := H
  have x5 : cs_im h im ia F := x5
  have x14 : cs_ad h im F ia kk kt := x14
  obtain ⟨a1, a2, a3, a4, a5, a6, a7, a8⟩ := id x14
  have hnn := a7 n hn (by rw [him]; exact fun q => by cases q)
  obtain ⟨m6, m7, m8, m9, m11, m12, m13, mi⟩ := H0.mid (h' := h') (fun q => (ia n).1 ≤ q ∧ q < (ia n).1 + 8) (fun q hq he => hf.2 q (by omega)) (fun q hq => ⟨by omega, by omega, fun c => (by have := hnn.2.2.2.2 _ c; omega), by omega, by omega⟩)
  have e : ∀ q, q < 64 → h'.2 q = h.2 q := fun q b => hf.2 q (by omega)
  refine ⟨(e 0 (by omega)).trans x1, ?_, ?_, ?_, ?_, m6, m7, m8, m9, ln_Scene.eqv x10 (fun z _ b => e z (by omega)), m11, m12, m13, ?_⟩
  · obtain ⟨tf, q1, q2⟩ := x2
    exact ⟨tf, (e _ (by omega)).trans q1, q2⟩
  · obtain ⟨tx, sz, ki, aa, zz, va, k5, cf, ol, q1, q2, q3, q4⟩ := x3
    exact ⟨tx, sz, ki, aa, zz, va, k5, cf, ol, (e _ (by omega)).trans q1, q2, (e _ (by omega)).trans q3, (e _ (by omega)).trans q4⟩
  · obtain ⟨fa, fn, fm, q1, q2, q3, q4, q5⟩ := x4
    exact ⟨fa, fn, fm, (e _ (by omega)).trans q1, (e _ (by omega)).trans q2, (e _ (by omega)).trans q3, (e _ (by omega)).trans q4, q5⟩
  · obtain ⟨g2, q1, q2⟩ := x5
    refine ⟨g2, (e _ (by omega)).trans q1, fun i hi => ?_⟩
    have h3 := q2 i hi
    by_cases ei : i = n
    · subst ei
      rw [him] at h3
      simp only [if_pos]
      exact ⟨h3.1, hS, m13⟩
    · simp only [if_neg ei]
      cases hm : im i with
      | none => rw [hm] at h3; exact h3
      | some x =>
        rw [hm] at h3
        have h4 := a7 i hi (by rw [hm]; exact fun q => by cases q)
        refine ⟨h3.1, mi i hi x hm (fun q b1 b2 b3 => ?_)⟩
        rcases Nat.eq_zero_or_pos n with rfl | hn0
        · obtain rfl : i = 1 := by omega
          have := a8 (by rw [him]; exact fun q => by cases q) (by rw [hm]; exact fun q => by cases q)
          omega
        · obtain rfl : n = 1 := by omega
          obtain rfl : i = 0 := by omega
          have := a8 (by rw [hm]; exact fun q => by cases q) (by rw [him]; exact fun q => by cases q)
          omega
  · have h11 := hf.1
    refine ⟨by omega, a2, a3, by omega, by omega, fun q hq => ⟨by have := a6 q hq; omega, (a6 q hq).2⟩, fun i hi hne => ?_, fun h0 h9 => ?_⟩
    · by_cases ei : i = n
      · subst ei
        simp only [if_pos]
        exact ⟨hnn.1, by omega, hnn.2.2⟩
      · simp only [if_neg ei] at hne ⊢
        have h4 := a7 i hi hne
        exact ⟨h4.1, by omega, h4.2.2⟩
    · rcases Nat.eq_zero_or_pos n with rfl | hn0
      · have h4 := a8 (by rw [him]; exact fun q => by cases q) (by simpa using h9)
        simp only [if_pos, if_neg (show ¬ (1 : Nat) = 0 by omega)]
        exact h4
      · obtain rfl : n = 1 := by omega
        have h4 := a8 (by simpa using h0) (by rw [him]; exact fun q => by cases q)
        simp only [if_pos, if_neg (show ¬ (0 : Nat) = 1 by omega)]
        exact h4
theorem cs_ok.im {tp fk mo ni n : Nat} {bt : Nat → Nat} {fp : Int32} {v : rd_V} {bs : List Nat} {U : ln_U} {im : Nat → Option (rd_V × ln_Z)} {tr : Nat → Option (Nat × List Int64)} (H : cs_ok ((tp, bt), (fk, fp), v, (mo, ni, bs), U, im, tr)) : cs_ok ((tp, bt), (fk, fp), v, (mo, ni, bs), U, (fun j => if j = n then some (v, (mo, ni, bs)) else im j), tr) := by
  obtain ⟨k1, k2, k3, k4, k5, k6, k7⟩ := H
  refine ⟨k1, k2, k3, k4, k5, k6, fun i v2 z2 hi h => ?_⟩
  by_cases ei : i = n
  · simp only [if_pos ei] at h
    injection h with h
    injection h with h1 h2
    subst h1 h2
    exact ⟨k3, k4⟩
  · simp only [if_neg ei] at h
    exact k7 i v2 z2 hi h
theorem cs_ok.re {tp fk mo ni n : Nat} {bt : Nat → Nat} {fp : Int32} {v v2 : rd_V} {z2 : ln_Z} {bs : List Nat} {U : ln_U} {im : Nat → Option (rd_V × ln_Z)} {tr : Nat → Option (Nat × List Int64)} (H : cs_ok ((tp, bt), (fk, fp), v, (mo, ni, bs), U, im, tr)) (hn : n < 2) (him : im n = some (v2, z2)) : cs_ok ((tp, bt), (fk, fp), v2, z2, [], im, tr) := by
  obtain ⟨k1, k2, k3, k4, k5, k6, k7⟩ := H
  exact ⟨k1, k2, (k7 n v2 z2 hn him).1, (k7 n v2 z2 hn him).2, Nat.zero_le _, ⟨fun u hu => absurd hu (by simp), List.Pairwise.nil⟩, k7⟩
set_option maxHeartbeats 4000000 in
set_option maxRecDepth 100000 in
theorem p_restore {d : Nat} {x : Int32} {tp fk mo ni K : Nat} {bt : Nat → Nat} {fp : Int32} {v : rd_V} {bs : List Nat} {U : ln_U} {im : Nat → Option (rd_V × ln_Z)} {tr : Nat → Option (Nat × List Int64)} {hp : az_Hp} {Q : Option Value → az_Hp → Prop} (hd : 6 ≤ d) (hC : cs hp ((tp, bt), (fk, fp), v, (mo, ni, bs), U, im, tr) K) (hQ2 : (∀ n, n < 2 → x ≠ nI n) → Q (some (.int (-2))) hp) (hQ5 : ∀ n, x = nI n → n < 2 → im n = none → Q (some (.int (-5))) hp) (hQ : ∀ n v2 z2, x = nI n → n < 2 → im n = some (v2, z2) → ∀ h', cs h' ((tp, bt), (fk, fp), v2, z2, [], im, tr) K → cs_f hp h' → Q (some (.int (nI 0))) h') : az_M mX11_restore d 0 0 [.ref 0, .int x] hp Q := by
  obtain ⟨hok, t, F, ia, kk, kt, x1, x2, x3, x4, x5, x6, x7, x8, x9, x10, x11, x12, x13, x14⟩ := id hC
  have hw : ln_ok (rd_w v) := hok.2.2.1.1
  have hlaw : ln_law (rd_w v) v.2.2.2.2.2.2.2.1 v.2.2.2.2.2.2.2.2 := hok.2.2.1.2
  have hba : ln_ba (rd_w v) bs := hok.2.2.2.1
  have hb : ln_by (rd_w v) bs := hba.b
  have x4 : ln_Past hp 6 U := x4
  have x5 : cs_im hp im ia F := x5
  have x6 : cs_tr hp tr := x6
  have x10 : ln_Scene hp 30 t (rd_w v) mo ni bs := x10
  have x13 : ln_Tf hp t (rd_w v) F := x13
  have x14 : cs_ad hp im F ia kk kt := x14
  obtain ⟨hi, fr, la, no, wa, nc, g0, -⟩ := id x10
  obtain ⟨g, hg, himg⟩ := id x5
  obtain ⟨fa, fn, fm, p0, -⟩ := id x4
  refine az_M.of rfl (Nat.le_of_ble_eq_true rfl) ?_
  show az_W _ _ _ _ 0 [(0, .ref 0), (1, .int x)] [] _ _
  refine az_iload_n dX11_restore_0 ?_
  refine az_if_lt (tgt := 9) dX11_restore_1 (fun c1 => ?_) (fun c1 => ?_)
  · refine az_bipush (v := (-2)) dX11_restore_9 ?_
    exact az_iret dX11_restore_11 (hQ2 (fun n hn hx => (by first | (rw [hx, show (0 : Int32) = nI 0 from rfl] at c1; exact absurd ((nI_ltI (by omega) (by omega)).mp c1) (by omega)) | (rw [hx] at c6; exact c6 ((nI_ltI (by omega) (by omega)).mpr (by omega))))))
  · refine az_iload_n dX11_restore_4 ?_
    refine az_iconst (v := nI 2) dX11_restore_5 ?_
    refine az_icmp_lt (tgt := 12) dX11_restore_6 (fun c6 => ?_) (fun c6 => ?_)
    · obtain ⟨n, hn31, hx⟩ := I_of c1
      have hn : n < 2 := (by rw [hx] at c6; exact (nI_ltI (by omega) (by omega)).mp c6)
      have h3 := himg n hn
      rw [hx]
      refine az_aload_n dX11_restore_12 ?_
      refine az_getf (v := .ref 10) dX11_restore_13 fl_X11_29 x1 ?_
      refine az_iload_n dX11_restore_16 ?_
      refine az_aaldN (j := n) dX11_restore_17 hg ?_
      rcases him : im n with _ | ⟨v2, z2⟩
      · rw [him] at h3
        rw [h3]
        refine az_ifnonnullN dX11_restore_18 ?_
        refine az_bipush (v := (-5)) dX11_restore_21 ?_
        exact az_iret dX11_restore_23 (hQ5 n hx hn him)
      · rw [him] at h3
        obtain ⟨e1, e2, e3⟩ := h3
        rw [e1]
        have ha := x14.2.2.2.2.2.2.1 n hn (by rw [him]; exact fun q => by cases q)
        have hk2 := hok.re hn him
        refine az_ifnonnull (tgt := 24) dX11_restore_18 ?_
        refine az_aload_n dX11_restore_24 ?_
        refine az_getf (v := .ref 30) dX11_restore_25 fl_X11_66 x1 ?_
        refine az_aload_n dX11_restore_28 ?_
        refine az_getf (v := .ref 10) dX11_restore_29 fl_X11_29 x1 ?_
        refine az_iload_n dX11_restore_32 ?_
        refine az_aaldN (j := n) dX11_restore_33 hg ?_
        rw [e1]
        refine az_cV0 (st := []) dX11_restore_34 ml_X11_196 g0 (s_copyS (d := d - 1) (a := 30) (b := (ia n).1) (t := (ia n).2) (w := rd_w v2) (mo := z2.1) (ni := z2.2.1) (bs := z2.2.2) (by omega) hk2.2.2.1.1 hk2.2.2.2.1.b.1 (by omega) e2 x10.q ?_)
        intro h1 hS1 hf1
        have hH1 : cs_H h1 ((tp, bt), (fk, fp), v2, z2, U, im, tr) (ia n).2 F ia kk kt K := ⟨(hf1.at x1), (x2.fr hf1), (x3.fr hf1), (ln_PastX.fr x4 hf1 (by omega)), (x5.fr hf1 x14), (x6.fr hf1), (x7.fr hf1), (x8.fr hf1), (x9.fr hf1), hS1, (x11.fr hf1), (x12.fr hf1 (by omega) (by have := x14.2.1; omega) (by have := x14.2.2.1; omega)), (e3.fr hf1 (fun q hq => (by have := x14.2.2.2.2.2.1 q hq; omega))), (x14.fr hf1)⟩
        obtain ⟨y1, y2, y3, y4, y5, y6, y7, y8, y9, y10, y11, y12, y13, y14⟩ := hH1
        have y4 : ln_Past h1 6 U := y4
        have y5 : cs_im h1 im ia F := y5
        have y6 : cs_tr h1 tr := y6
        have y14 : cs_ad h1 im F ia kk kt := y14
        have y13 : ln_Tf h1 (ia n).2 (rd_w v2) F := y13
        refine az_aload_n dX11_restore_37 ?_
        refine az_getf (v := .ref 6) dX11_restore_38 fl_X11_23 (hf1.at x1) ?_
        refine az_cV0 (st := []) dX11_restore_41 ml_X11_99 (hf1.at p0) (s_forget y4 ?_)
        intro h2 hP2 hf2
        refine az_iconst (v := nI 0) dX11_restore_44 ?_
        exact az_iret dX11_restore_45 (hQ n v2 z2 hx hn him h2 ⟨hk2, (ia n).2, F, ia, kk, kt, (hf2.at y1), (y2.fr hf2), (y3.fr hf2), hP2, (y5.fr hf2 y14), (y6.fr hf2), (y7.fr hf2), (y8.fr hf2), (y9.fr hf2), (ln_Scene.fr y10 hf2 (by omega)), (y11.fr hf2), (y12.fr hf2 (by omega) (by have := y14.2.1; omega) (by have := y14.2.2.1; omega)), (y13.fr hf2 (fun q hq => (by have := y14.2.2.2.2.2.1 q hq; omega))), (y14.fr hf2)⟩ (hf1.cs.tr hf2.cs))
    · refine az_bipush (v := (-2)) dX11_restore_9 ?_
      exact az_iret dX11_restore_11 (hQ2 (fun n hn hx => (by first | (rw [hx, show (0 : Int32) = nI 0 from rfl] at c1; exact absurd ((nI_ltI (by omega) (by omega)).mp c1) (by omega)) | (rw [hx] at c6; exact c6 ((nI_ltI (by omega) (by omega)).mpr (by omega))))))
set_option maxHeartbeats 4000000 in
set_option maxRecDepth 100000 in
theorem p_image {d : Nat} {x : Int32} {tp fk mo ni K : Nat} {bt : Nat → Nat} {fp : Int32} {v : rd_V} {bs : List Nat} {U : ln_U} {im : Nat → Option (rd_V × ln_Z)} {tr : Nat → Option (Nat × List Int64)} {hp : az_Hp} {Q : Option Value → az_Hp → Prop} (hd : 8 ≤ d) (hC : cs hp ((tp, bt), (fk, fp), v, (mo, ni, bs), U, im, tr) K) (hQ2 : (∀ n, n < 2 → x ≠ nI n) → Q (some (.int (-2))) hp) (hQ : ∀ n, x = nI n → n < 2 → ∀ h', cs h' ((tp, bt), (fk, fp), v, (mo, ni, bs), U, (fun j => if j = n then some (v, (mo, ni, bs)) else im j), tr) K → cs_f hp h' → Q (some (.int (nI 0))) h') : az_M mX11_image d 8 167 [.ref 0, .int x] hp Q := by
  obtain ⟨hok, t, F, ia, kk, kt, x1, x2, x3, x4, x5, x6, x7, x8, x9, x10, x11, x12, x13, x14⟩ := id hC
  have hw : ln_ok (rd_w v) := hok.2.2.1.1
  have hlaw : ln_law (rd_w v) v.2.2.2.2.2.2.2.1 v.2.2.2.2.2.2.2.2 := hok.2.2.1.2
  have hba : ln_ba (rd_w v) bs := hok.2.2.2.1
  have hb : ln_by (rd_w v) bs := hba.b
  have x4 : ln_Past hp 6 U := x4
  have x5 : cs_im hp im ia F := x5
  have x6 : cs_tr hp tr := x6
  have x10 : ln_Scene hp 30 t (rd_w v) mo ni bs := x10
  have x13 : ln_Tf hp t (rd_w v) F := x13
  have x14 : cs_ad hp im F ia kk kt := x14
  obtain ⟨hi, fr, la, no, wa, nc, g0, -⟩ := id x10
  obtain ⟨g, hg, himg⟩ := id x5
  have h93 := x14.1
  have hH0 : cs_H hp ((tp, bt), (fk, fp), v, (mo, ni, bs), U, im, tr) t F ia kk kt K := ⟨x1, x2, x3, x4, x5, x6, x7, x8, x9, x10, x11, x12, x13, x14⟩
  have tail : ∀ (k : Nat) (rc9 rs9 n : Nat) (hx : x = nI n) (hn : n < 2) (h1 : az_Hp) (im1 : Nat → Option (rd_V × ln_Z)) (ia1 : Nat → Nat × Nat) (x9 : rd_V × ln_Z), 0 = k → (∀ j, j ≠ n → im1 j = im j) → (im1 n = some x9) → (cs_H h1 ((tp, bt), (fk, fp), v, (mo, ni, bs), U, im1, tr) t F ia1 kk kt K) → (cs_f hp h1) → az_W mX11_image d rc9 rs9 41 [(0, .ref 0), (1, .int (nI n))] [] h1 Q := by
    intro k
    induction k using Nat.strongRecOn with
    | _ k ih =>
    intro rc9 rs9 n hx hn h1 im1 ia1 x9 hk hIm him1 hH hf1
    obtain ⟨g1, hg1, hi1⟩ := hH.2.2.2.2.1
    have hz1 := hH.1
    have hz10 : ln_Scene h1 30 t (rd_w v) mo ni bs := hH.2.2.2.2.2.2.2.2.2.1
    obtain ⟨zi, zf, zl, zn, zw, zc, z0, -⟩ := id hz10
    have k0 := hi1 n hn
    rw [show (((tp, bt), (fk, fp), v, (mo, ni, bs), U, im1, tr) : cs_S).2.2.2.2.2.1 n = some x9 from him1] at k0
    obtain ⟨k1, k2, -⟩ := k0
    obtain ⟨ki, kf, kl, kn, kw, kc, kk0, -⟩ := id k2
    have hx14 : cs_ad h1 im1 F ia1 kk kt := hH.2.2.2.2.2.2.2.2.2.2.2.2.2
    have ha7 := hx14.2.2.2.2.2.2.1 n hn (by rw [him1]; exact fun q => by cases q)
    refine az_aload_n dX11_image_41 ?_
    refine az_getf (v := .ref 10) dX11_image_42 fl_X11_29 hz1 ?_
    refine az_iload_n dX11_image_45 ?_
    refine az_aaldN (j := n) dX11_image_46 hg1 ?_
    rw [k1]
    refine az_aload_n dX11_image_47 ?_
    refine az_getf (v := .ref 30) dX11_image_48 fl_X11_66 hz1 ?_
    refine az_cV0 (st := []) dX11_image_51 ml_X11_196 kk0 (s_copyS (d := d - 1) (a := (ia1 n).1) (b := 30) (t := t) (w := rd_w v) (mo := mo) (ni := ni) (bs := bs) (by omega) hw hb.1 (by omega) hz10 (ln_Scene.q k2) ?_)
    intro h2 hS2 hf2
    refine az_iconst (v := nI 0) dX11_image_54 ?_
    exact az_iret dX11_image_55 (by have hh := cs_H.imB (z9 := (mo, ni, bs)) hH hn him1 hf2 hS2; rw [show (fun j => if j = n then some (v, (mo, ni, bs)) else im1 j) = (fun j => if j = n then some (v, (mo, ni, bs)) else im j) from (funext fun j => if e9 : j = n then (by rw [if_pos e9, if_pos e9]) else (by rw [if_neg e9, if_neg e9]; exact hIm j e9))] at hh; exact hQ n hx hn h2 ⟨hok.im, _, _, _, _, _, hh⟩ (hf1.tr ⟨Nat.le_of_eq hf2.1.symm, fun z b1 b2 => hf2.2 z (by omega)⟩))
  refine az_M.of rfl (Nat.le_of_ble_eq_true rfl) ?_
  show az_W _ _ _ _ 0 [(0, .ref 0), (1, .int x)] [] _ _
  refine az_iload_n dX11_image_0 ?_
  refine az_if_lt (tgt := 9) dX11_image_1 (fun c1 => ?_) (fun c1 => ?_)
  · refine az_bipush (v := (-2)) dX11_image_9 ?_
    exact az_iret dX11_image_11 (hQ2 (fun n hn hx => (by first | (rw [hx, show (0 : Int32) = nI 0 from rfl] at c1; exact absurd ((nI_ltI (by omega) (by omega)).mp c1) (by omega)) | (rw [hx] at c6; exact c6 ((nI_ltI (by omega) (by omega)).mpr (by omega))))))
  · refine az_iload_n dX11_image_4 ?_
    refine az_iconst (v := nI 2) dX11_image_5 ?_
    refine az_icmp_lt (tgt := 12) dX11_image_6 (fun c6 => ?_) (fun c6 => ?_)
    · obtain ⟨n, hn31, hx⟩ := I_of c1
      have hn : n < 2 := (by rw [hx] at c6; exact (nI_ltI (by omega) (by omega)).mp c6)
      have h3 := himg n hn
      rw [hx]
      refine az_aload_n dX11_image_12 ?_
      refine az_getf (v := .ref 10) dX11_image_13 fl_X11_29 x1 ?_
      refine az_iload_n dX11_image_16 ?_
      refine az_aaldN (j := n) dX11_image_17 hg ?_
      rcases him : im n with _ | x9
      · rw [him] at h3
        rw [h3]
        refine az_ifnonnullN dX11_image_18 ?_
        refine az_aload_n dX11_image_21 ?_
        refine az_getf (v := .ref 10) dX11_image_22 fl_X11_29 x1 ?_
        refine az_iload_n dX11_image_25 ?_
        refine az_newK (k := 13) dX11_image_26 nw_X11_27 ?_
        show az_W _ _ _ _ 29 [(0, .ref 0), (1, .int (nI n))] [.ref hp.1, .int (nI n), .ref 10] _ _
        refine az_dup dX11_image_29 ?_
        refine az_aload_n dX11_image_30 ?_
        refine az_getf (v := .ref 30) dX11_image_31 fl_X11_66 (az_nw_neN (N := hp.1) x1) ?_
        refine az_getf (v := .ref t) dX11_image_34 fl_X11_116 (az_nw_neN (N := hp.1) g0) ?_
        refine az_cI (st := [.ref hp.1, .int (nI n), .ref 10]) dX11_image_37 ml_X11_63 rfl (s_initScene (d := d - 1) (a := hp.1) (t := t) (w := rd_w v) (f9 := (az_nw hp (az_O 5 [.null, .int 0, .int 0, .int 0, .long 0, .int 0, .null, .null, .null, .null, .null, .null, .null])).2) (by omega) hw ((x13.eqv (h' := (az_nw hp (az_O 5 [.null, .int 0, .int 0, .int 0, .long 0, .int 0, .null, .null, .null, .null, .null, .null, .null]))) (fun q hq => az_nw_ne rfl (by have := x14.2.2.2.2.2.1 q hq; omega)) (fun _ q => q)).to (lo := hp.1) (hi := hp.1 + 8) (fun q hq => (by have := x14.2.2.2.2.2.1 q hq; omega))) az_nw_eqN ?_)
        intro h1 hh1 hh2 hS
        obtain ⟨si, sf, sl, sn, sw, sc, s0, -⟩ := id hS
        refine az_aast (r := (RX6, TX6, 13)) (ci := 5) (j := n) dX11_image_40 ((hh2 10 (by omega)).trans (az_nw_ne hg)) s0 rfl (az_ix_nI (by omega)) (by omega) ?_
        first | exact tail _ _ _ n hx hn hp im ia x9 rfl (fun _ _ => rfl) him hH0 cs_f.rf | exact tail _ _ _ n hx hn (az_up h1 10 (az_Q RX6 2 (az_s g n (.ref hp.1)))) _ _ (v, (ln_mo (rd_w v), 0, [])) rfl (fun j hj => if_neg hj) (if_pos rfl) (cs_H.imA hH0 hn hh1 (fun z b c => az_up_ne ((hh2 z b).trans (az_nw_ne rfl))) hg az_up_eq (ln_Scene.eqv hS (fun z b1 b2 => az_up_ne rfl))) ⟨(by show hp.1 ≤ h1.1; omega), fun z b1 b2 => az_up_ne ((hh2 z (by omega)).trans (az_nw_ne rfl))⟩
      · rw [him] at h3
        rw [h3.1]
        refine az_ifnonnull (tgt := 41) dX11_image_18 ?_
        first | exact tail _ _ _ n hx hn hp im ia x9 rfl (fun _ _ => rfl) him hH0 cs_f.rf | exact tail _ _ _ n hx hn hp _ _ (v, (ln_mo (rd_w v), 0, [])) rfl (fun j hj => if_neg hj) (if_pos rfl) (cs_H.imA hH0 hn hh1 (fun z b c => az_up_ne ((hh2 z b).trans (az_nw_ne rfl))) hg az_up_eq (ln_Scene.eqv hS (fun z b1 b2 => az_up_ne rfl))) ⟨(by show hp.1 ≤ h1.1; omega), fun z b1 b2 => az_up_ne ((hh2 z (by omega)).trans (az_nw_ne rfl))⟩
    · refine az_bipush (v := (-2)) dX11_image_9 ?_
      exact az_iret dX11_image_11 (hQ2 (fun n hn hx => (by first | (rw [hx, show (0 : Int32) = nI 0 from rfl] at c1; exact absurd ((nI_ltI (by omega) (by omega)).mp c1) (by omega)) | (rw [hx] at c6; exact c6 ((nI_ltI (by omega) (by omega)).mpr (by omega))))))

