/-! The class's state: what lies in its heap (the object at 0, its parts below 64, the model's at 64 .. 92, what is made later from 93 on) -/
abbrev cs_S : Type := (Nat × (Nat → Nat)) × (Nat × Int32) × rd_V × ln_Z × ln_U × (Nat → Option (rd_V × ln_Z)) × (Nat → Option (Nat × List Int64))
def rd_good (v : rd_V) : Prop := ln_ok (rd_w v) ∧ ln_law (rd_w v) v.2.2.2.2.2.2.2.1 v.2.2.2.2.2.2.2.2
/-- so far and at every night before -/
def ln_ba (w : ln_W) (bs : List Nat) : Prop := ∀ k, ln_by w (bs.take k)
theorem ln_ba.b {w : ln_W} {bs : List Nat} (h : ln_ba w bs) : ln_by w bs := by
  have := h bs.length
  rw [List.take_length] at this
  exact this
def cs_ok (s : cs_S) : Prop := s.1.1 ≤ 900 ∧ (∀ j, s.1.2 j < 256) ∧ rd_good s.2.2.1 ∧ ln_ba (rd_w s.2.2.1) s.2.2.2.1.2.2 ∧ s.2.2.2.2.1.length ≤ 10 ∧ ((∀ u ∈ s.2.2.2.2.1, u.1 ≤ s.2.2.2.1.2.2.length) ∧ s.2.2.2.2.1.Pairwise (fun a b => a.1 ≤ b.1)) ∧ (∀ i v z, i < 2 → s.2.2.2.2.2.1 i = some (v, z) → rd_good v ∧ ln_ba (rd_w v) z.2.2)
def cs_tp (h : az_Hp) (tp : Nat) (bt : Nat → Nat) : Prop := ∃ tf, h.2 1 = some (az_Y 900 tf) ∧ ∀ j, j < tp → tf j = bI (bt j)
def cs_rd (h : az_Hp) (fk : Nat) (fp : Int32) : Prop := ∃ (tx sz ki aa zz : Value) (va : Int32) (k5 : Nat) (cf ol : Nat → Int32), h.2 2 = some (az_O 4 [.int (nI fk), .int fp, tx, sz, ki, aa, zz, .int va, .ref 4, .ref 5, .int (nI k5)]) ∧ k5 ≤ 900 ∧ h.2 5 = some (az_I 900 cf) ∧ h.2 4 = some (az_I 1 ol)
def cs_im (h : az_Hp) (im : Nat → Option (rd_V × ln_Z)) (ia : Nat → Nat × Nat) (F : Nat → Prop) : Prop := ∃ g, h.2 10 = some (az_Q RX6 2 g) ∧ ∀ i, i < 2 → match im i with
  | none => g i = .null
  | some x => g i = .ref (ia i).1 ∧ ln_SZ h (ia i).1 (ia i).2 (rd_w x.1) x.2 ∧ ln_Tf h (ia i).2 (rd_w x.1) F
def cs_tr (h : az_Hp) (tr : Nat → Option (Nat × List Int64)) : Prop := ∃ g, h.2 11 = some (az_Q RX10 4 g) ∧ ∀ i, i < 4 → g i = .ref (56 + 2 * i) ∧ ln_Tray h (56 + 2 * i) (tr i)
def cs_fi (h : az_Hp) : Prop := ∃ (v1 v5 v6 : Value) (f fb wb sG : Nat → Int32) (hN : Nat → Int64), h.2 15 = some (az_O 0 [.ref 16, v1, .ref 17, .ref 18, .ref 19, v5, v6, .ref 20]) ∧ h.2 16 = some (az_I 6 f) ∧ h.2 17 = some (az_I 7 fb) ∧ h.2 18 = some (az_Y 2196 sG) ∧ h.2 19 = some (az_J 2196 hN) ∧ h.2 20 = some (az_I 7 wb)
def cs_ki (h : az_Hp) : Prop := ∃ f c : Nat → Int32, h.2 21 = some (az_O 2 [.ref 22, .ref 23]) ∧ h.2 22 = some (az_I 6 f) ∧ h.2 23 = some (az_I 6 c)
def cs_tl (h : az_Hp) : Prop := ∃ (t0 : Nat) (v1 v2 v3 v4 v5 : Value) (c : Nat → Int64) (c2 c3 c4 : Nat → Int32), sc_Q h 38 t0 v1 v2 v3 v4 v5 c c2 c3 c4
/-- where later things lie, what is frozen -/
def cs_ad (h : az_Hp) (im : Nat → Option (rd_V × ln_Z)) (F : Nat → Prop) (ia : Nat → Nat × Nat) (kk kt : Nat) : Prop := 93 ≤ h.1 ∧ (kk = 51 ∨ 93 ≤ kk) ∧ (kt = 52 ∨ 93 ≤ kt) ∧ kk < h.1 ∧ kt < h.1 ∧ (∀ q, F q → q < h.1 ∧ ((24 ≤ q ∧ q < 30) ∨ 93 ≤ q) ∧ q ≠ kk ∧ q ≠ kt) ∧ (∀ i, i < 2 → im i ≠ none → 93 ≤ (ia i).1 ∧ (ia i).1 + 8 ≤ h.1 ∧ (kk < (ia i).1 ∨ (ia i).1 + 8 ≤ kk) ∧ (kt < (ia i).1 ∨ (ia i).1 + 8 ≤ kt) ∧ (∀ q, F q → q < (ia i).1 ∨ (ia i).1 + 8 ≤ q)) ∧ (im 0 ≠ none → im 1 ≠ none → (ia 0).1 + 8 ≤ (ia 1).1 ∨ (ia 1).1 + 8 ≤ (ia 0).1)
def cs_H (h : az_Hp) (s : cs_S) (t : Nat) (F : Nat → Prop) (ia : Nat → Nat × Nat) (kk kt K : Nat) : Prop :=
  h.2 0 = some (az_O 10 [.ref 1, .int (nI s.1.1), .ref 2, .ref 30, .ref 38, .ref 6, .ref 10, .ref 11, .ref 12, .ref 15, .ref 21, .ref 46]) ∧ cs_tp h s.1.1 s.1.2 ∧ cs_rd h s.2.1.1 s.2.1.2 ∧ ln_Past h 6 s.2.2.2.2.1 ∧ cs_im h s.2.2.2.2.2.1 ia F ∧ cs_tr h s.2.2.2.2.2.2 ∧ ln_Surv h 12 ∧ cs_fi h ∧ cs_ki h ∧ ln_SZ h 30 t (rd_w s.2.2.1) s.2.2.2.1 ∧ cs_tl h ∧ fu_U h 46 kk kt K ∧ ln_Tf h t (rd_w s.2.2.1) F ∧ cs_ad h s.2.2.2.2.2.1 F ia kk kt
def cs (h : az_Hp) (s : cs_S) (K : Nat) : Prop := cs_ok s ∧ ∃ t F ia kk kt, cs_H h s t F ia kk kt K
/-- nothing of the model's changes -/
def cs_f (h h' : az_Hp) : Prop := h.1 ≤ h'.1 ∧ ∀ z, 64 ≤ z → z < 93 → h'.2 z = h.2 z
theorem cs_f.rf {h : az_Hp} : cs_f h h := ⟨Nat.le_refl _, fun _ _ _ => rfl⟩
theorem cs_f.tr {h h' h'' : az_Hp} (h1 : cs_f h h') (h2 : cs_f h' h'') : cs_f h h'' := ⟨Nat.le_trans h1.1 h2.1, fun z a b => (h2.2 z a b).trans (h1.2 z a b)⟩
theorem az_fr.cs {h h' : az_Hp} {lo hi : Nat} (H : az_fr h h' lo hi) (hh : hi ≤ 64 := by omega) : cs_f h h' := ⟨Nat.le_of_eq H.1.symm, fun z _ _ => H.2 z (by omega)⟩
section CSF
variable {h h' : az_Hp} {lo hi : Nat}
theorem cs_tp.fr {tp : Nat} {bt : Nat → Nat} (H : cs_tp h tp bt) (hf : az_fr h h' lo hi) (ho : 2 ≤ lo ∨ hi ≤ 1 := by omega) : cs_tp h' tp bt := by
  obtain ⟨tf, h1, h2⟩ := H
  exact ⟨tf, hf.at h1, h2⟩
theorem cs_rd.fr {fk : Nat} {fp : Int32} (H : cs_rd h fk fp) (hf : az_fr h h' lo hi) (ho : 6 ≤ lo ∨ hi ≤ 2 := by omega) : cs_rd h' fk fp := by
  obtain ⟨tx, sz, ki, aa, zz, va, k5, cf, ol, h1, h2, h3, h4⟩ := H
  exact ⟨tx, sz, ki, aa, zz, va, k5, cf, ol, hf.at h1, h2, hf.at h3, hf.at h4⟩
theorem ln_Tf.fr {t : Nat} {w : ln_W} {F : Nat → Prop} (H : ln_Tf h t w F) (hf : az_fr h h' lo hi) (ho : ∀ q, F q → q < lo ∨ hi ≤ q) : ln_Tf h' t w F := H.eqv (fun q hq => hf.2 q (ho q hq)) (fun _ q => q)
theorem cs_im.fr {im : Nat → Option (rd_V × ln_Z)} {ia : Nat → Nat × Nat} {F : Nat → Prop} {kk kt : Nat} (H : cs_im h im ia F) (hf : az_fr h h' lo hi) (ha : cs_ad h im F ia kk kt) (hh : hi ≤ 64 := by omega) (hF : 30 ≤ lo ∨ hi ≤ 24 := by omega) (ho : 11 ≤ lo ∨ hi ≤ 10 := by omega) : cs_im h' im ia F := by
  obtain ⟨g, h1, h2⟩ := H
  obtain ⟨-, -, -, -, -, a1, a2, -⟩ := ha
  refine ⟨g, hf.at h1, fun i hi9 => ?_⟩
  have h3 := h2 i hi9
  cases hm : im i with
  | none => rw [hm] at h3; exact h3
  | some x =>
    rw [hm] at h3
    have h4 := a2 i hi9 (by rw [hm]; exact fun q => by cases q)
    exact ⟨h3.1, h3.2.1.fr hf (by omega), h3.2.2.fr hf (fun q hq => by have := a1 q hq; omega)⟩
theorem cs_tr.fr {tr : Nat → Option (Nat × List Int64)} (H : cs_tr h tr) (hf : az_fr h h' lo hi) (ho : hi ≤ 11 ∨ (12 ≤ lo ∧ hi ≤ 56) := by omega) : cs_tr h' tr := by
  obtain ⟨g, h1, h2⟩ := H
  exact ⟨g, hf.at h1, fun i hi9 => ⟨(h2 i hi9).1, (h2 i hi9).2.eqv (hf.2 _ (by omega)) (hf.2 _ (by omega))⟩⟩
theorem ln_Surv.fr {p : Nat} (H : ln_Surv h p) (hf : az_fr h h' lo hi) (ho : p + 3 ≤ lo ∨ hi ≤ p := by omega) : ln_Surv h' p := by
  obtain ⟨v3, v4, f1, f2, h1, h2, h3⟩ := H
  exact ⟨v3, v4, f1, f2, hf.at h1, hf.at h2, hf.at h3⟩
theorem cs_fi.fr (H : cs_fi h) (hf : az_fr h h' lo hi) (ho : 21 ≤ lo ∨ hi ≤ 15 := by omega) : cs_fi h' := by
  obtain ⟨v1, v5, v6, f, fb, wb, sG, hN, h1, h2, h3, h4, h5, h6⟩ := H
  exact ⟨v1, v5, v6, f, fb, wb, sG, hN, hf.at h1, hf.at h2, hf.at h3, hf.at h4, hf.at h5, hf.at h6⟩
theorem cs_ki.fr (H : cs_ki h) (hf : az_fr h h' lo hi) (ho : 24 ≤ lo ∨ hi ≤ 21 := by omega) : cs_ki h' := by
  obtain ⟨f, c, h1, h2, h3⟩ := H
  exact ⟨f, c, hf.at h1, hf.at h2, hf.at h3⟩
theorem cs_tl.fr (H : cs_tl h) (hf : az_fr h h' lo hi) (ho : 46 ≤ lo ∨ hi ≤ 38 := by omega) : cs_tl h' := by
  obtain ⟨t0, v1, v2, v3, v4, v5, c, c2, c3, c4, no, wa, nc, h1, h2, h3, h4, h5, h6, h7, h8⟩ := H
  exact ⟨t0, v1, v2, v3, v4, v5, c, c2, c3, c4, no, wa, nc, hf.at h1, hf.at h2, hf.at h3, hf.at h4, hf.at h5, hf.at h6, hf.at h7, hf.at h8⟩
theorem fu_U.fr {u kk kt K : Nat} (H : fu_U h u kk kt K) (hf : az_fr h h' lo hi) (ho : u + 10 ≤ lo ∨ hi ≤ u) (h1 : kk < lo ∨ hi ≤ kk) (h2 : kt < lo ∨ hi ≤ kt) : fu_U h' u kk kt K := by
  obtain ⟨t0, tl, wn, wx, S, f, r, s, a, b, L, g0, g1, g2, g3, ta, pr, g4, g5, k9⟩ := H
  have hp := pr.b
  exact ⟨t0, tl, wn, wx, S, f, r, s, a, b, L, hf.at g0, hf.at g1, hf.at g2, hf.at g3, ta.eqv (hf.2 _ (by omega)) (hf.2 _ (by omega)) (hf.2 _ (by omega)) (hf.2 _ (by omega)), pr, hf.at g4, hf.at g5, k9⟩
theorem cs_ad.fr {im : Nat → Option (rd_V × ln_Z)} {F : Nat → Prop} {ia : Nat → Nat × Nat} {kk kt : Nat} (H : cs_ad h im F ia kk kt) (hf : az_fr h h' lo hi) : cs_ad h' im F ia kk kt := by
  unfold cs_ad at *
  rw [hf.1]
  exact H
end CSF
