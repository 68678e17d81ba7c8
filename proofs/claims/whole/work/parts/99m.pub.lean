/-! LetterNights: deeds that are judged -/
theorem s_copyS {d a b t mo ni : Nat} {w : ln_W} {bs : List Nat} {hp : az_Hp} {Q : Option Value → az_Hp → Prop} (hd : 1 ≤ d) (hw : ln_ok w) (hb : bs.length ≤ 60) (hab : a + 8 ≤ b ∨ b + 8 ≤ a) (hB : ln_Scene hp b t w mo ni bs) (hS : ∃ (t0 : Nat) (v1 v2 v3 v4 v5 : Value) (c : Nat → Int64) (c2 c3 c4 : Nat → Int32), sc_Q hp a t0 v1 v2 v3 v4 v5 c c2 c3 c4) (hQ : ∀ h', ln_Scene h' a t w mo ni bs → az_fr hp h' a (a + 8) → Q none h') : az_M mX6_copyFrom d 0 0 [.ref a, .ref b] hp Q := by
  obtain ⟨t0, v1, v2, v3, v4, v5, c, c2, c3, c4, hq⟩ := hS
  obtain ⟨hi, h1, h2⟩ := sc_of hB
  refine s_copyFrom hd (ln_str_lt hw bs) hab h1 hq (fun h' hi' e hR hf => hQ h' ?_ hf)
  obtain ⟨fr, la, no, wa, nc, g0, g1, g2, g3, t3, g4, t4, g5, g6, g7⟩ := hR
  exact ⟨hi', fr, la, no, wa, nc, g0, g1, g2, (fun i hi => (e i (by omega)).trans (h2 i hi)), g3, t3, g4, t4, g5, g6, g7⟩
theorem lN_mod {a b : Nat} (ha : a < 2 ^ 63) (hb : b < 2 ^ 63) : lN a - lN a / lN b * lN b = lN (a % b) := by
  apply Int64.toInt_inj.mp
  have h0 : a / b ≤ a := Nat.div_le_self _ _
  have h1 : a / b * b ≤ a := Nat.div_mul_le_self _ _
  have h2 : a % b = a - a / b * b := by rw [Nat.mod_eq_sub_mul_div, Nat.mul_comm]
  have h4 : lN a / lN b = lN (a / b) := by
    apply Int64.toInt_inj.mp
    rw [Int64.toInt_div, lN_toI ha, lN_toI hb, lN_toI (by omega), Int.tdiv_eq_ediv_of_nonneg (by omega)]
    rw [← Int.natCast_ediv]
    generalize a / b = q at h0 ⊢
    rw [Int.bmod_eq_of_le (by omega) (by omega)]
  have h5 : lN (a / b) * lN b = lN (a / b * b) := by
    apply Int64.toInt_inj.mp
    rw [Int64.toInt_mul, lN_toI (by omega), lN_toI hb, lN_toI (by omega), ← Int.natCast_mul]
    rw [Int.bmod_eq_of_le (by omega) (by omega)]
  rw [h4, h5, Int64.toInt_sub, lN_toI ha, lN_toI (by omega), lN_toI (by omega), h2, ← Int.natCast_sub h1]
  rw [Int.bmod_eq_of_le (by omega) (by omega)]
def cs_judge (w : ln_W) (D : Nat × Nat × ln_Z) (k : Nat) : Int32 := match k with
  | 0 => if D.2.1 = 0 then (-1) else nI D.1
  | 1 => nI D.2.1
  | 2 => nI ((ln_str w D.2.2.2.2).length % 1000000)
  | _ => nI ((ln_str w D.2.2.2.2).head?.getD 6)
set_option maxHeartbeats 4000000 in
set_option maxRecDepth 100000 in
theorem p_judge {d : Nat} {x xw : Int32} {tp fk mo ni K : Nat} {bt : Nat → Nat} {fp : Int32} {v : rd_V} {bs : List Nat} {U : ln_U} {im : Nat → Option (rd_V × ln_Z)} {tr : Nat → Option (Nat × List Int64)} {hp : az_Hp} {Q : Option Value → az_Hp → Prop} (hd : 9 ≤ d) (hC : cs hp ((tp, bt), (fk, fp), v, (mo, ni, bs), U, im, tr) K) (hQ2 : ¬ (cs_in x 4 ∧ cs_in xw 4) → Q (some (.int (-2))) hp) (hQ6 : ∀ n, x = nI n → n < 4 → cs_in xw 4 → tr n = none → Q (some (.int (-6))) hp) (hQ : ∀ n y kw, x = nI n → n < 4 → tr n = some y → xw = nI kw → kw < 4 → ∀ h', cs h' ((tp, bt), (fk, fp), v, (mo, ni, bs), U, im, tr) K → cs_f hp h' → Q (some (.int (cs_judge (rd_w v) (dl (rd_w v) v.2.2.2.2.2.2.2.1 v.2.2.2.2.2.2.2.2 y.2 (mo, ni, bs)) kw))) h') : az_M mX11_judge d 0 0 [.ref 0, .int x, .int xw] hp Q := by
  obtain ⟨hok, t, F, ia, kk, kt, x1, x2, x3, x4, x5, x6, x7, x8, x9, x10, x11, x12, x13, x14⟩ := id hC
  have hw : ln_ok (rd_w v) := hok.2.2.1.1
  have hlaw : ln_law (rd_w v) v.2.2.2.2.2.2.2.1 v.2.2.2.2.2.2.2.2 := hok.2.2.1.2
  have hba : ln_ba (rd_w v) bs := hok.2.2.2.1
  have hb : ln_by (rd_w v) bs := hba.b
  have x4 : ln_Past hp 6 U := x4
  have x5 : cs_im hp im ia F := x5
  have x6 : cs_tr hp tr := x6
  have x10 : ln_Scene hp 30 t (rd_w v) mo ni bs := x10
  have x13 : ln_Tf hp t (rd_w v) F := x13
  have x14 : cs_ad hp im F ia kk kt := x14
  obtain ⟨hi, fr, la, no, wa, nc, g0, -⟩ := id x10
  obtain ⟨g, hg, hgt⟩ := id x6
  have x11 : cs_tl hp := x11
  have fin0 : ∀ (k : Nat) (n : Nat) (y : Nat × List Int64) (hx : x = nI n) (hn : n < 4) (hy : tr n = some y) (hl40 : y.2.length ≤ 40) (hgR : ln_Tray hp (56 + 2 * n) (some y)) (i w9 m9 n9 : Nat) (b9 l9 : List Nat) (h' : az_Hp), 0 = k → (xw = nI 0) → (i ≤ 41) → (w9 ≤ 3) → (b9 = bs ++ l9) → (ln_ba (rd_w v) (bs ++ l9)) → (ln_Scene h' 38 t (rd_w v) m9 n9 b9) → (az_fr hp h' 38 46) → ((dl (rd_w v) v.2.2.2.2.2.2.2.1 v.2.2.2.2.2.2.2.2 y.2 (mo, ni, bs)).2 = (w9, (m9, n9, b9)) ∧ i = (dl (rd_w v) v.2.2.2.2.2.2.2.1 v.2.2.2.2.2.2.2.2 y.2 (mo, ni, bs)).1 + (if w9 = 0 then 0 else 1)) → az_W mX11_judge d 0 0 88 [(0, .ref 0), (1, .int (nI n)), (2, .int (nI 0)), (3, .ref (56 + 2 * n)), (4, .int (nI w9)), (5, .int (nI i))] [] h' Q := by
    intro k
    induction k using Nat.strongRecOn with
    | _ k ih =>
    intro n y hx hn hy hl40 hgR i w9 m9 n9 b9 l9 h' hk hxw hi60 hw3 hz9 hba9 hS9 hf9 hR
    have e0 := hf9.at x1
    obtain ⟨hi9, fr9, la9, no9, wa9, nc9, g9, -⟩ := id hS9
    have hgR9 : ln_Tray h' (56 + 2 * n) (some y) := hgR.eqv (hf9.2 _ (by omega)) (hf9.2 _ (by omega))
    obtain ⟨-, hs3, f, q9, -⟩ := id hgR9
    have hH9 : cs h' ((tp, bt), (fk, fp), v, (mo, ni, bs), U, im, tr) K := ⟨hok, ⟨t, F, ia, kk, kt, (hf9.at x1), (x2.fr hf9), (x3.fr hf9), (ln_PastX.fr x4 hf9 (by omega)), (x5.fr hf9 x14), (x6.fr hf9), (x7.fr hf9), (x8.fr hf9), (x9.fr hf9), (ln_Scene.fr x10 hf9 (by omega)), hS9.q, (x12.fr hf9 (by omega) (by have := x14.2.1; omega) (by have := x14.2.2.1; omega)), (x13.fr hf9 (fun q hq => (by have := x14.2.2.2.2.2.1 q hq; omega))), (x14.fr hf9)⟩⟩
    have hl9 : (ln_str (rd_w v) b9).length < 2 ^ 63 := (by have h8 := hba9.b.2.2; rw [← hz9] at h8; omega)
    refine az_iload_n dX11_judge_88 ?_
    refine az_tswIn (off := 27) (tgt := 116) dX11_judge_89 (by decide) (by decide) (by rfl) (by decide) ?_
    refine az_iload dX11_judge_116 ?_
    refine az_if_neN (tgt := 125) dX11_judge_118 (fun c118 => ?_) (fun c118 => ?_)
    · refine az_iload dX11_judge_125 ?_
      refine az_iconst (v := nI 1) dX11_judge_127 ?_
      refine az_isubN dX11_judge_128 (by rw [if_neg c118] at hR; omega) ?_
      exact az_iret dX11_judge_129 (by have h8 := hQ n y 0 hx hn hy hxw (by omega) h' hH9 hf9.cs; rw [cs_judge, hR.1] at h8; first | (rw [if_pos (show w9 = 0 by omega)] at h8; exact h8) | (rw [if_neg (show ¬ w9 = 0 by omega)] at h8; rw [if_neg (show ¬ w9 = 0 by omega)] at hR; rw [show i - 1 = (dl (rd_w v) v.2.2.2.2.2.2.2.1 v.2.2.2.2.2.2.2.2 y.2 (mo, ni, bs)).1 by omega]; exact h8))
    · refine az_iconst (v := (-1)) dX11_judge_121 ?_
      refine az_goto (tgt := 129) dX11_judge_122 ?_
      exact az_iret dX11_judge_129 (by have h8 := hQ n y 0 hx hn hy hxw (by omega) h' hH9 hf9.cs; rw [cs_judge, hR.1] at h8; first | (rw [if_pos (show w9 = 0 by omega)] at h8; exact h8) | (rw [if_neg (show ¬ w9 = 0 by omega)] at h8; rw [if_neg (show ¬ w9 = 0 by omega)] at hR; rw [show i - 1 = (dl (rd_w v) v.2.2.2.2.2.2.2.1 v.2.2.2.2.2.2.2.2 y.2 (mo, ni, bs)).1 by omega]; exact h8))
  have fin1 : ∀ (k : Nat) (n : Nat) (y : Nat × List Int64) (hx : x = nI n) (hn : n < 4) (hy : tr n = some y) (hl40 : y.2.length ≤ 40) (hgR : ln_Tray hp (56 + 2 * n) (some y)) (i w9 m9 n9 : Nat) (b9 l9 : List Nat) (h' : az_Hp), 0 = k → (xw = nI 1) → (i ≤ 41) → (w9 ≤ 3) → (b9 = bs ++ l9) → (ln_ba (rd_w v) (bs ++ l9)) → (ln_Scene h' 38 t (rd_w v) m9 n9 b9) → (az_fr hp h' 38 46) → ((dl (rd_w v) v.2.2.2.2.2.2.2.1 v.2.2.2.2.2.2.2.2 y.2 (mo, ni, bs)).2 = (w9, (m9, n9, b9)) ∧ i = (dl (rd_w v) v.2.2.2.2.2.2.2.1 v.2.2.2.2.2.2.2.2 y.2 (mo, ni, bs)).1 + (if w9 = 0 then 0 else 1)) → az_W mX11_judge d 0 0 88 [(0, .ref 0), (1, .int (nI n)), (2, .int (nI 1)), (3, .ref (56 + 2 * n)), (4, .int (nI w9)), (5, .int (nI i))] [] h' Q := by
    intro k
    induction k using Nat.strongRecOn with
    | _ k ih =>
    intro n y hx hn hy hl40 hgR i w9 m9 n9 b9 l9 h' hk hxw hi60 hw3 hz9 hba9 hS9 hf9 hR
    have e0 := hf9.at x1
    obtain ⟨hi9, fr9, la9, no9, wa9, nc9, g9, -⟩ := id hS9
    have hgR9 : ln_Tray h' (56 + 2 * n) (some y) := hgR.eqv (hf9.2 _ (by omega)) (hf9.2 _ (by omega))
    obtain ⟨-, hs3, f, q9, -⟩ := id hgR9
    have hH9 : cs h' ((tp, bt), (fk, fp), v, (mo, ni, bs), U, im, tr) K := ⟨hok, ⟨t, F, ia, kk, kt, (hf9.at x1), (x2.fr hf9), (x3.fr hf9), (ln_PastX.fr x4 hf9 (by omega)), (x5.fr hf9 x14), (x6.fr hf9), (x7.fr hf9), (x8.fr hf9), (x9.fr hf9), (ln_Scene.fr x10 hf9 (by omega)), hS9.q, (x12.fr hf9 (by omega) (by have := x14.2.1; omega) (by have := x14.2.2.1; omega)), (x13.fr hf9 (fun q hq => (by have := x14.2.2.2.2.2.1 q hq; omega))), (x14.fr hf9)⟩⟩
    have hl9 : (ln_str (rd_w v) b9).length < 2 ^ 63 := (by have h8 := hba9.b.2.2; rw [← hz9] at h8; omega)
    refine az_iload_n dX11_judge_88 ?_
    refine az_tswIn (off := 41) (tgt := 130) dX11_judge_89 (by decide) (by decide) (by rfl) (by decide) ?_
    refine az_iload dX11_judge_130 ?_
    exact az_iret dX11_judge_132 (by have h8 := hQ n y 1 hx hn hy hxw (by omega) h' hH9 hf9.cs; rw [cs_judge, hR.1] at h8; exact h8)
  have fin2 : ∀ (k : Nat) (n : Nat) (y : Nat × List Int64) (hx : x = nI n) (hn : n < 4) (hy : tr n = some y) (hl40 : y.2.length ≤ 40) (hgR : ln_Tray hp (56 + 2 * n) (some y)) (i w9 m9 n9 : Nat) (b9 l9 : List Nat) (h' : az_Hp), 0 = k → (xw = nI 2) → (i ≤ 41) → (w9 ≤ 3) → (b9 = bs ++ l9) → (ln_ba (rd_w v) (bs ++ l9)) → (ln_Scene h' 38 t (rd_w v) m9 n9 b9) → (az_fr hp h' 38 46) → ((dl (rd_w v) v.2.2.2.2.2.2.2.1 v.2.2.2.2.2.2.2.2 y.2 (mo, ni, bs)).2 = (w9, (m9, n9, b9)) ∧ i = (dl (rd_w v) v.2.2.2.2.2.2.2.1 v.2.2.2.2.2.2.2.2 y.2 (mo, ni, bs)).1 + (if w9 = 0 then 0 else 1)) → az_W mX11_judge d 0 0 88 [(0, .ref 0), (1, .int (nI n)), (2, .int (nI 2)), (3, .ref (56 + 2 * n)), (4, .int (nI w9)), (5, .int (nI i))] [] h' Q := by
    intro k
    induction k using Nat.strongRecOn with
    | _ k ih =>
    intro n y hx hn hy hl40 hgR i w9 m9 n9 b9 l9 h' hk hxw hi60 hw3 hz9 hba9 hS9 hf9 hR
    have e0 := hf9.at x1
    obtain ⟨hi9, fr9, la9, no9, wa9, nc9, g9, -⟩ := id hS9
    have hgR9 : ln_Tray h' (56 + 2 * n) (some y) := hgR.eqv (hf9.2 _ (by omega)) (hf9.2 _ (by omega))
    obtain ⟨-, hs3, f, q9, -⟩ := id hgR9
    have hH9 : cs h' ((tp, bt), (fk, fp), v, (mo, ni, bs), U, im, tr) K := ⟨hok, ⟨t, F, ia, kk, kt, (hf9.at x1), (x2.fr hf9), (x3.fr hf9), (ln_PastX.fr x4 hf9 (by omega)), (x5.fr hf9 x14), (x6.fr hf9), (x7.fr hf9), (x8.fr hf9), (x9.fr hf9), (ln_Scene.fr x10 hf9 (by omega)), hS9.q, (x12.fr hf9 (by omega) (by have := x14.2.1; omega) (by have := x14.2.2.1; omega)), (x13.fr hf9 (fun q hq => (by have := x14.2.2.2.2.2.1 q hq; omega))), (x14.fr hf9)⟩⟩
    have hl9 : (ln_str (rd_w v) b9).length < 2 ^ 63 := (by have h8 := hba9.b.2.2; rw [← hz9] at h8; omega)
    refine az_iload_n dX11_judge_88 ?_
    refine az_tswIn (off := 44) (tgt := 133) dX11_judge_89 (by decide) (by decide) (by rfl) (by decide) ?_
    refine az_aload_n dX11_judge_133 ?_
    refine az_getf (v := .ref 38) dX11_judge_134 fl_X11_70 e0 ?_
    refine az_getf (v := .long (lN ((ln_str (rd_w v) b9).length))) dX11_judge_137 fl_X11_136 g9 ?_
    refine az_ldc2 (v := lN 1000000) dX11_judge_140 cn_X11_206 ?_
    refine az_lrem dX11_judge_143 (by decide) ?_
    rw [lN_mod hl9 (by decide)]
    refine az_l2iN dX11_judge_144 ?_
    exact az_iret dX11_judge_145 (by have h8 := hQ n y 2 hx hn hy hxw (by omega) h' hH9 hf9.cs; rw [cs_judge, hR.1] at h8; exact h8)
  have fin3 : ∀ (k : Nat) (n : Nat) (y : Nat × List Int64) (hx : x = nI n) (hn : n < 4) (hy : tr n = some y) (hl40 : y.2.length ≤ 40) (hgR : ln_Tray hp (56 + 2 * n) (some y)) (i w9 m9 n9 : Nat) (b9 l9 : List Nat) (h' : az_Hp), 0 = k → (xw = nI 3) → (i ≤ 41) → (w9 ≤ 3) → (b9 = bs ++ l9) → (ln_ba (rd_w v) (bs ++ l9)) → (ln_Scene h' 38 t (rd_w v) m9 n9 b9) → (az_fr hp h' 38 46) → ((dl (rd_w v) v.2.2.2.2.2.2.2.1 v.2.2.2.2.2.2.2.2 y.2 (mo, ni, bs)).2 = (w9, (m9, n9, b9)) ∧ i = (dl (rd_w v) v.2.2.2.2.2.2.2.1 v.2.2.2.2.2.2.2.2 y.2 (mo, ni, bs)).1 + (if w9 = 0 then 0 else 1)) → az_W mX11_judge d 0 0 88 [(0, .ref 0), (1, .int (nI n)), (2, .int (nI 3)), (3, .ref (56 + 2 * n)), (4, .int (nI w9)), (5, .int (nI i))] [] h' Q := by
    intro k
    induction k using Nat.strongRecOn with
    | _ k ih =>
    intro n y hx hn hy hl40 hgR i w9 m9 n9 b9 l9 h' hk hxw hi60 hw3 hz9 hba9 hS9 hf9 hR
    have e0 := hf9.at x1
    obtain ⟨hi9, fr9, la9, no9, wa9, nc9, g9, -⟩ := id hS9
    have hgR9 : ln_Tray h' (56 + 2 * n) (some y) := hgR.eqv (hf9.2 _ (by omega)) (hf9.2 _ (by omega))
    obtain ⟨-, hs3, f, q9, -⟩ := id hgR9
    have hH9 : cs h' ((tp, bt), (fk, fp), v, (mo, ni, bs), U, im, tr) K := ⟨hok, ⟨t, F, ia, kk, kt, (hf9.at x1), (x2.fr hf9), (x3.fr hf9), (ln_PastX.fr x4 hf9 (by omega)), (x5.fr hf9 x14), (x6.fr hf9), (x7.fr hf9), (x8.fr hf9), (x9.fr hf9), (ln_Scene.fr x10 hf9 (by omega)), hS9.q, (x12.fr hf9 (by omega) (by have := x14.2.1; omega) (by have := x14.2.2.1; omega)), (x13.fr hf9 (fun q hq => (by have := x14.2.2.2.2.2.1 q hq; omega))), (x14.fr hf9)⟩⟩
    have hl9 : (ln_str (rd_w v) b9).length < 2 ^ 63 := (by have h8 := hba9.b.2.2; rw [← hz9] at h8; omega)
    refine az_iload_n dX11_judge_88 ?_
    refine az_tswOut (tgt := 146) dX11_judge_89 (by decide) (by decide) ?_
    refine az_aload_n dX11_judge_146 ?_
    refine az_getf (v := .ref 38) dX11_judge_147 fl_X11_70 e0 ?_
    refine az_cV0 (st := []) dX11_judge_150 ml_X11_208 g9 (s_frontLetter (d := d - 1) (a := 38) (t := t) (w := rd_w v) hw hS9 ?_)
    exact az_iret dX11_judge_153 (by have h8 : Q (some (.int (nI ((ln_str (rd_w v) (dl (rd_w v) v.2.2.2.2.2.2.2.1 v.2.2.2.2.2.2.2.2 y.2 (mo, ni, bs)).2.2.2.2).head?.getD 6)))) h' := hQ n y 3 hx hn hy hxw (by omega) h' hH9 hf9.cs; rw [hR.1] at h8; exact h8)
  have loop : ∀ (k : Nat) (n : Nat) (y : Nat × List Int64) (hx : x = nI n) (hn : n < 4) (hy : tr n = some y) (hl40 : y.2.length ≤ 40) (hgR : ln_Tray hp (56 + 2 * n) (some y)) (kw i w9 m9 n9 : Nat) (b9 l9 : List Nat) (h' : az_Hp), y.2.length - i = k → (xw = nI kw) → (kw < 4) → (i ≤ y.2.length) → (w9 ≤ 3) → (b9 = bs ++ l9) → (ln_ba (rd_w v) (bs ++ l9)) → (ln_Scene h' 38 t (rd_w v) m9 n9 b9) → (az_fr hp h' 38 46) → ((w9 = 0 ∧ i + (dl (rd_w v) v.2.2.2.2.2.2.2.1 v.2.2.2.2.2.2.2.2 (y.2.drop i) (m9, n9, b9)).1 = (dl (rd_w v) v.2.2.2.2.2.2.2.1 v.2.2.2.2.2.2.2.2 y.2 (mo, ni, bs)).1 ∧ (dl (rd_w v) v.2.2.2.2.2.2.2.1 v.2.2.2.2.2.2.2.2 (y.2.drop i) (m9, n9, b9)).2 = (dl (rd_w v) v.2.2.2.2.2.2.2.1 v.2.2.2.2.2.2.2.2 y.2 (mo, ni, bs)).2) ∨ (w9 ≠ 0 ∧ i = (dl (rd_w v) v.2.2.2.2.2.2.2.1 v.2.2.2.2.2.2.2.2 y.2 (mo, ni, bs)).1 + 1 ∧ (w9, (m9, n9, b9)) = (dl (rd_w v) v.2.2.2.2.2.2.2.1 v.2.2.2.2.2.2.2.2 y.2 (mo, ni, bs)).2)) → az_W mX11_judge d 0 0 53 [(0, .ref 0), (1, .int (nI n)), (2, .int (nI kw)), (3, .ref (56 + 2 * n)), (4, .int (nI w9)), (5, .int (nI i))] [] h' Q := by
    intro k
    induction k using Nat.strongRecOn with
    | _ k ih =>
    intro n y hx hn hy hl40 hgR kw i w9 m9 n9 b9 l9 h' hk hxw hkw hi60 hw3 hz9 hba9 hS9 hf9 hR
    have e0 := hf9.at x1
    obtain ⟨hi9, fr9, la9, no9, wa9, nc9, g9, -⟩ := id hS9
    have hgR9 : ln_Tray h' (56 + 2 * n) (some y) := hgR.eqv (hf9.2 _ (by omega)) (hf9.2 _ (by omega))
    obtain ⟨-, hs3, f, q9, -⟩ := id hgR9
    have hH9 : cs h' ((tp, bt), (fk, fp), v, (mo, ni, bs), U, im, tr) K := ⟨hok, ⟨t, F, ia, kk, kt, (hf9.at x1), (x2.fr hf9), (x3.fr hf9), (ln_PastX.fr x4 hf9 (by omega)), (x5.fr hf9 x14), (x6.fr hf9), (x7.fr hf9), (x8.fr hf9), (x9.fr hf9), (ln_Scene.fr x10 hf9 (by omega)), hS9.q, (x12.fr hf9 (by omega) (by have := x14.2.1; omega) (by have := x14.2.2.1; omega)), (x13.fr hf9 (fun q hq => (by have := x14.2.2.2.2.2.1 q hq; omega))), (x14.fr hf9)⟩⟩
    have hl9 : (ln_str (rd_w v) b9).length < 2 ^ 63 := (by have h8 := hba9.b.2.2; rw [← hz9] at h8; omega)
    refine az_iload dX11_judge_53 ?_
    refine az_aload_n dX11_judge_55 ?_
    refine az_getf (v := .int (nI y.2.length)) dX11_judge_56 fl_X11_199 q9 ?_
    refine az_icmp_geN (tgt := 88) dX11_judge_59 (fun c59 => ?_) (fun c59 => ?_)
    · have hF : (dl (rd_w v) v.2.2.2.2.2.2.2.1 v.2.2.2.2.2.2.2.2 y.2 (mo, ni, bs)).2 = (w9, (m9, n9, b9)) ∧ i = (dl (rd_w v) v.2.2.2.2.2.2.2.1 v.2.2.2.2.2.2.2.2 y.2 (mo, ni, bs)).1 + (if w9 = 0 then 0 else 1) := Or.elim hR (fun ⟨a1, a2, a3⟩ => (by have a4 : y.2.length ≤ i := (by omega); rw [List.drop_of_length_le (i := i) (l := y.2) a4, dl] at a2 a3; rw [a1]; exact ⟨a3.symm, a2⟩)) (fun ⟨a1, a2, a3⟩ => ⟨a3.symm, (by rw [if_neg a1]; exact a2)⟩)
      rcases (show kw = 0 ∨ kw = 1 ∨ kw = 2 ∨ kw = 3 by omega) with e | e | e | e <;> subst e
      · exact fin0 _ n y hx hn hy hl40 hgR i w9 m9 n9 b9 l9 h' rfl hxw (by omega) hw3 hz9 hba9 hS9 hf9 hF
      · exact fin1 _ n y hx hn hy hl40 hgR i w9 m9 n9 b9 l9 h' rfl hxw (by omega) hw3 hz9 hba9 hS9 hf9 hF
      · exact fin2 _ n y hx hn hy hl40 hgR i w9 m9 n9 b9 l9 h' rfl hxw (by omega) hw3 hz9 hba9 hS9 hf9 hF
      · exact fin3 _ n y hx hn hy hl40 hgR i w9 m9 n9 b9 l9 h' rfl hxw (by omega) hw3 hz9 hba9 hS9 hf9 hF
    · refine az_iload dX11_judge_62 ?_
      refine az_if_neN (tgt := 88) dX11_judge_64 (fun c64 => ?_) (fun c64 => ?_)
      · have hF : (dl (rd_w v) v.2.2.2.2.2.2.2.1 v.2.2.2.2.2.2.2.2 y.2 (mo, ni, bs)).2 = (w9, (m9, n9, b9)) ∧ i = (dl (rd_w v) v.2.2.2.2.2.2.2.1 v.2.2.2.2.2.2.2.2 y.2 (mo, ni, bs)).1 + (if w9 = 0 then 0 else 1) := Or.elim hR (fun ⟨a1, a2, a3⟩ => (by have a4 : y.2.length ≤ i := (by omega); rw [List.drop_of_length_le (i := i) (l := y.2) a4, dl] at a2 a3; rw [a1]; exact ⟨a3.symm, a2⟩)) (fun ⟨a1, a2, a3⟩ => ⟨a3.symm, (by rw [if_neg a1]; exact a2)⟩)
        rcases (show kw = 0 ∨ kw = 1 ∨ kw = 2 ∨ kw = 3 by omega) with e | e | e | e <;> subst e
        · exact fin0 _ n y hx hn hy hl40 hgR i w9 m9 n9 b9 l9 h' rfl hxw (by omega) hw3 hz9 hba9 hS9 hf9 hF
        · exact fin1 _ n y hx hn hy hl40 hgR i w9 m9 n9 b9 l9 h' rfl hxw (by omega) hw3 hz9 hba9 hS9 hf9 hF
        · exact fin2 _ n y hx hn hy hl40 hgR i w9 m9 n9 b9 l9 h' rfl hxw (by omega) hw3 hz9 hba9 hS9 hf9 hF
        · exact fin3 _ n y hx hn hy hl40 hgR i w9 m9 n9 b9 l9 h' rfl hxw (by omega) hw3 hz9 hba9 hS9 hf9 hF
      · refine az_aload_n dX11_judge_67 ?_
        refine az_getf (v := .ref 38) dX11_judge_68 fl_X11_70 e0 ?_
        refine az_aload_n dX11_judge_71 ?_
        refine az_iload dX11_judge_72 ?_
        refine az_cV0 (st := [.ref 38]) dX11_judge_74 ml_X11_202 q9 (s_get (d := d - 1) (i := i) hgR9 (by omega) ?_)
        obtain ⟨l2, r1, r2, r3, r4⟩ := dz_ba (pk := v.2.2.2.2.2.2.2.1) (sl := v.2.2.2.2.2.2.2.2) (mo := m9) (ni := n9) (x := y.2.getD i 0) hw (by rw [← hz9] at hba9; exact hba9)
        have hT9 := (x13.fr hf9 (fun q hq => (by have := x14.2.2.2.2.2.1 q hq; omega))).to (lo := 38) (hi := 46) (fun q hq => (by have := x14.2.2.2.2.2.1 q hq; omega))
        obtain ⟨D, hD⟩ : ∃ D, D = dz (rd_w v) v.2.2.2.2.2.2.2.1 v.2.2.2.2.2.2.2.2 (m9, n9, b9) (y.2.getD i 0) := ⟨_, rfl⟩
        rw [← hD] at r1 r3 r4
        refine az_cV0 (st := []) dX11_judge_77 ml_X11_170 g9 (s_tryDeed (d := d - 1) (a := 38) (t := t) (w := rd_w v) (z := (m9, n9, b9)) (v := y.2.getD i 0) (by omega) hw hlaw (by rw [← hz9] at hba9; exact hba9.b) hT9 hS9 ?_)
        intro h2 hS2 hf2
        rw [← hD] at hS2
        rw [← hD]
        refine az_istore (ls' := [(0, .ref 0), (1, .int (nI n)), (2, .int (nI kw)), (3, .ref (56 + 2 * n)), (4, .int (nI D.1)), (5, .int (nI i))]) dX11_judge_80 ?_
        refine az_iincN (n := 1) (ls' := [(0, .ref 0), (1, .int (nI n)), (2, .int (nI kw)), (3, .ref (56 + 2 * n)), (4, .int (nI D.1)), (5, .int (nI (i + 1)))]) dX11_judge_82 ?_
        refine az_goto (tgt := 53) dX11_judge_85 ?_
        have h0 : w9 = 0 := (by omega)
        rw [h0] at hR
        rcases hR with ⟨a1, a2, a3⟩ | ⟨a1, a2, a3⟩
        · rw [dropJ (i := i) (l := y.2) (by omega), dl, ← hD] at a2 a3
          by_cases e9 : D.1 = 0
          · rw [if_pos e9] at a2 a3
            exact ih _ (by omega) n y hx hn hy hl40 hgR kw (i + 1) D.1 D.2.1 D.2.2.1 D.2.2.2 (l9 ++ l2) h2 rfl hxw hkw (by omega) (by omega) (by rw [r1, hz9, List.append_assoc]) (by rw [← List.append_assoc, ← hz9]; exact r2) hS2 (hf9.tr hf2) (Or.inl ⟨e9, (by rw [← a2, show i + 1 + (dl (rd_w v) v.2.2.2.2.2.2.2.1 v.2.2.2.2.2.2.2.2 (y.2.drop (i + 1)) (D.2.1, D.2.2.1, D.2.2.2)).1 = i + ((dl (rd_w v) v.2.2.2.2.2.2.2.1 v.2.2.2.2.2.2.2.2 (y.2.drop (i + 1)) D.2).1 + 1) by (show i + 1 + (dl (rd_w v) v.2.2.2.2.2.2.2.1 v.2.2.2.2.2.2.2.2 (y.2.drop (i + 1)) D.2).1 = _; omega)]), a3⟩)
          · rw [if_neg e9] at a2 a3
            rw [r3 e9] at hS2
            exact ih _ (by omega) n y hx hn hy hl40 hgR kw (i + 1) D.1 m9 n9 b9 l9 h2 rfl hxw hkw (by omega) (by omega) hz9 hba9 hS2 (hf9.tr hf2) (Or.inr ⟨e9, (by rw [← a2]; rfl), a3⟩)
        · exact absurd rfl a1
  refine az_M.of rfl (Nat.le_of_ble_eq_true rfl) ?_
  show az_W _ _ _ _ 0 [(0, .ref 0), (1, .int x), (2, .int xw)] [] _ _
  refine az_iload_n dX11_judge_0 ?_
  refine az_cS0 (st := []) dX11_judge_1 ml_X11_190 (p_isTray (d := d - 1) ?_ ?_)
  · intro n hx hn
    have hgn := (hgt n hn).1
    have hgR := (hgt n hn).2
    obtain ⟨qa, qb, q0⟩ := hgR.ob
    have i1 := (cs_in_n (k := 4) hn (by omega)).1
    rw [← hx] at i1
    refine az_if_eqN (tgt := 16) dX11_judge_4 (fun c4 => ?_) (fun c4 => ?_)
    · exact absurd c4 (by omega)
    · refine az_iload_n dX11_judge_7 ?_
      refine az_if_lt (tgt := 16) dX11_judge_8 (fun c8 => ?_) (fun c8 => ?_)
      · refine az_bipush (v := (-2)) dX11_judge_16 ?_
        exact az_iret dX11_judge_18 (by first | exact hQ2 (fun q9 => cs_no hno q9.1) | exact hQ2 (fun q8 => (have q9 := q8.2; (by obtain ⟨e1, e2⟩ := cs_in_of q9; first | (rw [e1, show (0 : Int32) = nI 0 from rfl] at c8; exact absurd ((nI_ltI (by omega) (by omega)).mp c8) (by omega)) | (rw [e1] at c13; exact c13 ((nI_leI (by omega) (by omega)).mpr (by omega)))))))
      · refine az_iload_n dX11_judge_11 ?_
        refine az_iconst (v := nI 3) dX11_judge_12 ?_
        refine az_icmp_le (tgt := 19) dX11_judge_13 (fun c13 => ?_) (fun c13 => ?_)
        · obtain ⟨kw, hs31, hxs⟩ := I_of c8
          have hkw : kw < 4 := (by rw [hxs] at c13; have := (nI_leI (by omega) (by omega)).mp c13; omega)
          have i2 := (cs_in_n (k := 4) hkw (by omega)).1
          rw [← hxs] at i2
          rw [hx, hxs]
          refine az_aload_n dX11_judge_19 ?_
          refine az_getf (v := .ref 11) dX11_judge_20 fl_X11_35 x1 ?_
          refine az_iload_n dX11_judge_23 ?_
          refine az_aaldN (j := n) dX11_judge_24 hg ?_
          rw [hgn]
          refine az_astore_n (ls' := [(0, .ref 0), (1, .int (nI n)), (2, .int (nI kw)), (3, .ref (56 + 2 * n))]) dX11_judge_25 ?_
          refine az_aload_n dX11_judge_26 ?_
          refine az_cV0 (st := []) dX11_judge_27 ml_X11_193 q0 (s_missing (d := d - 1) hgR ?_ ?_)
          · intro hno
            refine az_if_eqN (tgt := 36) dX11_judge_30 (fun c30 => ?_) (fun c30 => ?_)
            · exact absurd c30 (by omega)
            · refine az_bipush (v := (-6)) dX11_judge_33 ?_
              exact az_iret dX11_judge_35 (hQ6 n hx hn i2 hno)
          · intro y hy
            refine az_if_eqN (tgt := 36) dX11_judge_30 (fun c30 => ?_) (fun c30 => ?_)
            · rw [hy] at hgR
              obtain ⟨hl40, -⟩ := id hgR
              obtain ⟨tq, w1, w2, w3, w4, w5, wc, wc2, wc3, wc4, wno, wwa, wnc, x11o, -⟩ := id x11
              refine az_aload_n dX11_judge_36 ?_
              refine az_getf (v := .ref 38) dX11_judge_37 fl_X11_70 x1 ?_
              refine az_aload_n dX11_judge_40 ?_
              refine az_getf (v := .ref 30) dX11_judge_41 fl_X11_66 x1 ?_
              refine az_cV0 (st := []) dX11_judge_44 ml_X11_196 x11o (s_copyS (d := d - 1) (a := 38) (b := 30) (t := t) (w := rd_w v) (by omega) hw hb.1 (by omega) x10 x11 ?_)
              intro h1 hS1 hf1
              refine az_iconst (v := nI 0) dX11_judge_47 ?_
              refine az_istore (ls' := [(0, .ref 0), (1, .int (nI n)), (2, .int (nI kw)), (3, .ref (56 + 2 * n)), (4, .int (nI 0))]) dX11_judge_48 ?_
              refine az_iconst (v := nI 0) dX11_judge_50 ?_
              refine az_istore (ls' := [(0, .ref 0), (1, .int (nI n)), (2, .int (nI kw)), (3, .ref (56 + 2 * n)), (4, .int (nI 0)), (5, .int (nI 0))]) dX11_judge_51 ?_
              exact loop _ n y hx hn hy hl40 hgR kw 0 0 mo ni bs [] h1 rfl hxs hkw (Nat.zero_le _) (by omega) (List.append_nil _).symm (by rw [List.append_nil]; exact hba) hS1 hf1 (Or.inl ⟨rfl, (by rw [List.drop_zero, Nat.zero_add]), (by rw [List.drop_zero])⟩)
            · exact absurd c30 (by omega)
        · refine az_bipush (v := (-2)) dX11_judge_16 ?_
          exact az_iret dX11_judge_18 (by first | exact hQ2 (fun q9 => cs_no hno q9.1) | exact hQ2 (fun q8 => (have q9 := q8.2; (by obtain ⟨e1, e2⟩ := cs_in_of q9; first | (rw [e1, show (0 : Int32) = nI 0 from rfl] at c8; exact absurd ((nI_ltI (by omega) (by omega)).mp c8) (by omega)) | (rw [e1] at c13; exact c13 ((nI_leI (by omega) (by omega)).mpr (by omega)))))))
  · intro hno
    refine az_if_eqN (tgt := 16) dX11_judge_4 (fun c4 => ?_) (fun c4 => ?_)
    · refine az_bipush (v := (-2)) dX11_judge_16 ?_
      exact az_iret dX11_judge_18 (by first | exact hQ2 (fun q9 => cs_no hno q9.1) | exact hQ2 (fun q8 => (have q9 := q8.2; (by obtain ⟨e1, e2⟩ := cs_in_of q9; first | (rw [e1, show (0 : Int32) = nI 0 from rfl] at c8; exact absurd ((nI_ltI (by omega) (by omega)).mp c8) (by omega)) | (rw [e1] at c13; exact c13 ((nI_leI (by omega) (by omega)).mpr (by omega)))))))
    · exact absurd c4 (by omega)

