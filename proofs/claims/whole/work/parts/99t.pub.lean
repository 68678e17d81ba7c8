/-! LetterNights: moons -/
/-- whether the nights of itself have these lengths -/
def mi (w : ln_W) (pk sl : List Nat) : List Int64 → ln_Z → Nat
  | [], _ => 1
  | x :: l, z => if (dz w pk sl z (lN 0)).1 = 0 then (if lN (ln_str w (dz w pk sl z (lN 0)).2.2.2).length = x then mi w pk sl l (dz w pk sl z (lN 0)).2 else 0) else 0
theorem mi_le (w : ln_W) (pk sl : List Nat) : ∀ (l : List Int64) (z : ln_Z), mi w pk sl l z ≤ 1 := by
  intro l
  induction l with
  | nil => intro z; exact Nat.le_refl _
  | cons x l ih =>
    intro z
    rw [mi]
    split
    · split
      · exact ih _
      · exact Nat.zero_le _
    · exact Nat.zero_le _
def mb (w : ln_W) (pk sl : List Nat) (l : List Int64) (ni : Nat) (bs : List Nat) : Nat → Nat
  | 0 => 0
  | k + 1 => if mi w pk sl l (k, ni, bs) = 0 then mb w pk sl l ni bs k else mb w pk sl l ni bs k ||| 2 ^ k
set_option maxHeartbeats 4000000 in
set_option maxRecDepth 100000 in
theorem p_isOf {d t r tp mo ni : Nat} {F : Nat → Prop} {w : ln_W} {pk sl bs : List Nat} {y : Nat × List Int64} {hp : az_Hp} {Q : Option Value → az_Hp → Prop} (hd : 6 ≤ d) (hw : ln_ok w) (hlaw : ln_law w pk sl) (hba : ln_ba w bs) (hF : ∀ q, F q → q < 38 ∨ 46 ≤ q) (hr : 46 ≤ r) (hT : ln_Tf hp t w F) (h0 : hp.2 0 = some (az_O 10 [.ref 1, .int (nI tp), .ref 2, .ref 30, .ref 38, .ref 6, .ref 10, .ref 11, .ref 12, .ref 15, .ref 21, .ref 46])) (hR : ln_Tray hp r (some y)) (hS : ln_Scene hp 38 t w mo ni bs) (hQ : ∀ h', cs_tl h' → az_fr hp h' 38 46 → Q (some (.int (nI (mi w pk sl y.2 (mo, ni, bs))))) h') : az_M mX11_isOfItself d 0 0 [.ref 0, .ref r] hp Q := by
  have hl40 : y.2.length ≤ 40 := hR.1
  have loop : ∀ (k : Nat) (i m9 n9 : Nat) (b9 : List Nat) (h' : az_Hp), y.2.length - i = k → (i ≤ y.2.length) → (ln_ba w b9) → (ln_Scene h' 38 t w m9 n9 b9) → (az_fr hp h' 38 46) → (mi w pk sl (y.2.drop i) (m9, n9, b9) = mi w pk sl y.2 (mo, ni, bs)) → az_W mX11_isOfItself d 0 0 2 [(0, .ref 0), (1, .ref r), (2, .int (nI i))] [] h' Q := by
    intro k
    induction k using Nat.strongRecOn with
    | _ k ih =>
    intro i m9 n9 b9 h' hk hi hba9 hS9 hf9 hR8
    obtain ⟨hi9, fr9, la9, no9, wa9, nc9, g9, -⟩ := id hS9
    have hR9 : ln_Tray h' r (some y) := (hR.eqv (hf9.2 _ (by omega)) (hf9.2 _ (by omega)))
    obtain ⟨-, hs3, f, q9, -⟩ := id hR9
    refine az_iload_n dX11_isOfItself_2 ?_
    refine az_aload_n dX11_isOfItself_3 ?_
    refine az_getf (v := .int (nI y.2.length)) dX11_isOfItself_4 fl_X11_199 q9 ?_
    refine az_icmp_geN (tgt := 45) dX11_isOfItself_7 (fun c7 => ?_) (fun c7 => ?_)
    · refine az_iconst (v := nI 1) dX11_isOfItself_45 ?_
      exact az_iret dX11_isOfItself_46 (by rw [List.drop_of_length_le (i := i) (l := y.2) (by omega), mi] at hR8; have h8 := hQ h' hS9.q hf9; rw [← hR8] at h8; exact h8)
    · refine az_aload_n dX11_isOfItself_10 ?_
      refine az_getf (v := .ref 38) dX11_isOfItself_11 fl_X11_70 (hf9.at h0) ?_
      refine az_lconst (v := lN 0) dX11_isOfItself_14 ?_
      obtain ⟨l2, r1, r2, r3, r4⟩ := dz_ba (pk := pk) (sl := sl) (mo := m9) (ni := n9) (x := lN 0) hw hba9
      have hT9 := (hT.fr hf9 hF).to (lo := 38) (hi := 46) hF
      obtain ⟨D, hD⟩ : ∃ D, D = dz w pk sl (m9, n9, b9) (lN 0) := ⟨_, rfl⟩
      rw [← hD] at r1 r3 r4
      refine az_cV0 (st := []) dX11_isOfItself_15 ml_X11_170 g9 (s_tryDeed (d := d - 1) (a := 38) (t := t) (w := w) (z := (m9, n9, b9)) (v := lN 0) (by omega) hw hlaw hba9.b hT9 hS9 ?_)
      intro h2 hS2 hf2
      rw [← hD] at hS2
      rw [← hD]
      obtain ⟨hi2, fr2, la2, no2, wa2, nc2, g2, -⟩ := id hS2
      have hR2 : ln_Tray h2 r (some y) := (hR9.eqv (hf2.2 _ (by omega)) (hf2.2 _ (by omega)))
      obtain ⟨-, hs3, f, q2, -⟩ := id hR2
      refine az_if_neN (tgt := 37) dX11_isOfItself_18 (fun c18 => ?_) (fun c18 => ?_)
      · refine az_iconst (v := nI 0) dX11_isOfItself_37 ?_
        exact az_iret dX11_isOfItself_38 (by first | (rw [dropJ (i := i) (l := y.2) (by omega), mi, ← hD] at hR8; rw [if_neg c18] at hR8; have h8 := hQ h2 hS2.q (hf9.tr hf2); rw [← hR8] at h8; exact h8) | (rw [dropJ (i := i) (l := y.2) (by omega), mi, ← hD] at hR8; rw [if_pos (by omega), if_neg c33] at hR8; have h8 := hQ h2 hS2.q (hf9.tr hf2); rw [← hR8] at h8; exact h8))
      · refine az_aload_n dX11_isOfItself_21 ?_
        refine az_getf (v := .ref 38) dX11_isOfItself_22 fl_X11_70 (hf2.at (hf9.at h0)) ?_
        refine az_getf (v := .long (lN ((ln_str w D.2.2.2).length))) dX11_isOfItself_25 fl_X11_136 g2 ?_
        refine az_aload_n dX11_isOfItself_28 ?_
        refine az_iload_n dX11_isOfItself_29 ?_
        refine az_cV0 (st := [.long (lN ((ln_str w D.2.2.2).length))]) dX11_isOfItself_30 ml_X11_202 q2 (s_get (d := d - 1) (i := i) hR2 (by omega) ?_)
        refine az_lcmp_eq (tgt := 39) dX11_isOfItself_33 dX11_isOfItself_34 (fun c33 => ?_) (fun c33 => ?_)
        · refine az_iincN (n := 1) (ls' := [(0, .ref 0), (1, .ref r), (2, .int (nI (i + 1)))]) dX11_isOfItself_39 ?_
          refine az_goto (tgt := 2) dX11_isOfItself_42 ?_
          rw [dropJ (i := i) (l := y.2) (by omega), mi, ← hD] at hR8
          rw [if_pos (by omega), if_pos c33] at hR8
          exact ih _ (by omega) (i + 1) D.2.1 D.2.2.1 D.2.2.2 h2 rfl (by omega) (by rw [r1]; exact r2) hS2 (hf9.tr hf2) hR8
        · refine az_iconst (v := nI 0) dX11_isOfItself_37 ?_
          exact az_iret dX11_isOfItself_38 (by first | (rw [dropJ (i := i) (l := y.2) (by omega), mi, ← hD] at hR8; rw [if_neg c18] at hR8; have h8 := hQ h2 hS2.q (hf9.tr hf2); rw [← hR8] at h8; exact h8) | (rw [dropJ (i := i) (l := y.2) (by omega), mi, ← hD] at hR8; rw [if_pos (by omega), if_neg c33] at hR8; have h8 := hQ h2 hS2.q (hf9.tr hf2); rw [← hR8] at h8; exact h8))
  refine az_M.of rfl (Nat.le_of_ble_eq_true rfl) ?_
  show az_W _ _ _ _ 0 [(0, .ref 0), (1, .ref r)] [] _ _
  refine az_iconst (v := nI 0) dX11_isOfItself_0 ?_
  refine az_istore_n (ls' := [(0, .ref 0), (1, .ref r), (2, .int (nI 0))]) dX11_isOfItself_1 ?_
  exact loop _ 0 mo ni bs hp rfl (Nat.zero_le _) hba hS az_fr.rf (by rw [List.drop_zero])
set_option maxHeartbeats 4000000 in
set_option maxRecDepth 100000 in
theorem p_moons {d : Nat} {x : Int32} {tp fk mo ni K : Nat} {bt : Nat → Nat} {fp : Int32} {v : rd_V} {bs : List Nat} {U : ln_U} {im : Nat → Option (rd_V × ln_Z)} {tr : Nat → Option (Nat × List Int64)} {hp : az_Hp} {Q : Option Value → az_Hp → Prop} (hd : 9 ≤ d) (hC : cs hp ((tp, bt), (fk, fp), v, (mo, ni, bs), U, im, tr) K) (hQ2 : (∀ n, n < 4 → x ≠ nI n) → Q (some (.int (-2))) hp) (hQ6 : ∀ n, x = nI n → n < 4 → tr n = none → Q (some (.int (-6))) hp) (hQ4 : ∀ n y, x = nI n → n < 4 → tr n = some y → ¬ (1 ≤ y.2.length ∧ y.2.length ≤ 8) → Q (some (.int (-4))) hp) (hQ3 : ∀ n y, x = nI n → n < 4 → tr n = some y → 1 ≤ y.2.length → y.2.length ≤ 8 → ¬ cs_ln y.2 (lN 0) → Q (some (.int (-3))) hp) (hQ : ∀ n y, x = nI n → n < 4 → tr n = some y → 1 ≤ y.2.length → y.2.length ≤ 8 → cs_ln y.2 (lN 0) → ∀ h', cs h' ((tp, bt), (fk, fp), v, (mo, ni, bs), U, im, tr) K → cs_f hp h' → Q (some (.int (nI (mb (rd_w v) v.2.2.2.2.2.2.2.1 v.2.2.2.2.2.2.2.2 y.2 ni bs 10)))) h') : az_M mX11_moons d 0 0 [.ref 0, .int x] hp Q := by
  obtain ⟨hok, t, F, ia, kk, kt, x1, x2, x3, x4, x5, x6, x7, x8, x9, x10, x11, x12, x13, x14⟩ := id hC
  have hw : ln_ok (rd_w v) := hok.2.2.1.1
  have hlaw : ln_law (rd_w v) v.2.2.2.2.2.2.2.1 v.2.2.2.2.2.2.2.2 := hok.2.2.1.2
  have hba : ln_ba (rd_w v) bs := hok.2.2.2.1
  have hb : ln_by (rd_w v) bs := hba.b
  have x4 : ln_Past hp 6 U := x4
  have x5 : cs_im hp im ia F := x5
  have x6 : cs_tr hp tr := x6
  have x10 : ln_Scene hp 30 t (rd_w v) mo ni bs := x10
  have x13 : ln_Tf hp t (rd_w v) F := x13
  have x14 : cs_ad hp im F ia kk kt := x14
  obtain ⟨hi, fr, la, no, wa, nc, g0, -⟩ := id x10
  obtain ⟨g, hg, hgt⟩ := id x6
  have x11 : cs_tl hp := x11
  have loop : ∀ (k : Nat) (n : Nat) (y : Nat × List Int64) (hx : x = nI n) (hn : n < 4) (hy : tr n = some y) (h1' : 1 ≤ y.2.length) (h6 : y.2.length ≤ 8) (hln : cs_ln y.2 (lN 0)) (i : Nat) (h' : az_Hp), 10 - i = k → (i ≤ 10) → (cs_tl h') → (az_fr hp h' 38 46) → az_W mX11_moons d 0 0 18 [(0, .ref 0), (1, .int (nI n)), (2, .int (nI 0)), (3, .int (nI (mb (rd_w v) v.2.2.2.2.2.2.2.1 v.2.2.2.2.2.2.2.2 y.2 ni bs i))), (4, .int (nI i))] [] h' Q := by
    intro k
    induction k using Nat.strongRecOn with
    | _ k ih =>
    intro n y hx hn hy h1' h6 hln i h' hk hi hq9 hf9
    have hgn := (hgt n hn).1
    have hgR := (hgt n hn).2
    rw [hy] at hgR
    obtain ⟨hl40, hs3, f, q0, -⟩ := id hgR
    obtain ⟨tq, w1, w2, w3, w4, w5, wc, wc2, wc3, wc4, wno, wwa, wnc, x11o, -⟩ := id hq9
    refine az_iload dX11_moons_18 ?_
    refine az_bipush (v := nI 9) dX11_moons_20 ?_
    refine az_icmp_gtN (tgt := 71) dX11_moons_22 (fun c22 => ?_) (fun c22 => ?_)
    · refine az_iload_n dX11_moons_71 ?_
      exact az_iret dX11_moons_72 (by have h8 := hQ n y hx hn hy h1' h6 hln h' ⟨hok, ⟨t, F, ia, kk, kt, (hf9.at x1), (x2.fr hf9), (x3.fr hf9), (ln_PastX.fr x4 hf9 (by omega)), (x5.fr hf9 x14), (x6.fr hf9), (x7.fr hf9), (x8.fr hf9), (x9.fr hf9), (ln_Scene.fr x10 hf9 (by omega)), hq9, (x12.fr hf9 (by omega) (by have := x14.2.1; omega) (by have := x14.2.2.1; omega)), (x13.fr hf9 (fun q hq => (by have := x14.2.2.2.2.2.1 q hq; omega))), (x14.fr hf9)⟩⟩ hf9.cs; rw [show i = 10 by omega]; exact h8)
    · refine az_aload_n dX11_moons_25 ?_
      refine az_getf (v := .ref 38) dX11_moons_26 fl_X11_70 (hf9.at x1) ?_
      refine az_aload_n dX11_moons_29 ?_
      refine az_getf (v := .ref 30) dX11_moons_30 fl_X11_66 (hf9.at x1) ?_
      refine az_cV0 (st := []) dX11_moons_33 ml_X11_196 x11o (s_copyS (d := d - 1) (a := 38) (b := 30) (t := t) (w := (rd_w v)) (by omega) hw hb.1 (by omega) (ln_Scene.fr x10 hf9 (by omega)) hq9 ?_)
      intro h1 hS1 hf1
      obtain ⟨hi1, fr1, la1, no1, wa1, nc1, g1, -⟩ := id hS1
      refine az_aload_n dX11_moons_36 ?_
      refine az_getf (v := .ref 38) dX11_moons_37 fl_X11_70 (hf1.at (hf9.at x1)) ?_
      refine az_iload dX11_moons_40 ?_
      refine az_putf (fs' := [.ref t, .int (nI i), .int (nI ni), .int (nI bs.length), .long (lN ((ln_str (rd_w v) bs).length)), .int (nI ((ln_dd (ln_str (rd_w v) bs)).length)), .ref (38 + 1), .ref (38 + 2), .ref (38 + 3), .ref (38 + 4), .ref (38 + 5), .ref (38 + 6), .ref (38 + 7)]) dX11_moons_42 fl_X11_180 g1 ?_
      refine az_aload_n dX11_moons_45 ?_
      refine az_aload_n dX11_moons_46 ?_
      refine az_getf (v := .ref 11) dX11_moons_47 fl_X11_35 (az_up_ne (hf1.at (hf9.at x1))) ?_
      refine az_iload_n dX11_moons_50 ?_
      refine az_aaldN (j := n) dX11_moons_51 (az_up_ne (hf1.at (hf9.at hg))) ?_
      rw [hgn]
      have hf3 := (hf9.tr hf1).up (a := 38) (c := az_O 5 [.ref t, .int (nI i), .int (nI ni), .int (nI bs.length), .long (lN (ln_str (rd_w v) bs).length), .int (nI (ln_dd (ln_str (rd_w v) bs)).length), .ref (38 + 1), .ref (38 + 2), .ref (38 + 3), .ref (38 + 4), .ref (38 + 5), .ref (38 + 6), .ref (38 + 7)])
      refine az_cV0 (st := []) dX11_moons_52 ml_X11_295 (az_up_ne (hf1.at (hf9.at x1))) (p_isOf (d := d - 1) (t := t) (r := 56 + 2 * n) (tp := tp) (mo := i) (ni := ni) (bs := bs) (F := F) (w := (rd_w v)) (pk := v.2.2.2.2.2.2.2.1) (sl := v.2.2.2.2.2.2.2.2) (y := y) (by omega) hw hlaw hba (fun q hq => (by have := x14.2.2.2.2.2.1 q hq; omega)) (by omega) (x13.fr hf3 (fun q hq => (by have := x14.2.2.2.2.2.1 q hq; omega))) (hf3.at x1) (hgR.eqv (hf3.2 _ (by omega)) (hf3.2 _ (by omega))) hS1.moon ?_)
      intro h4 hq4 hf4
      have hmi := mi_le (rd_w v) v.2.2.2.2.2.2.2.1 v.2.2.2.2.2.2.2.2 y.2 (i, ni, bs)
      refine az_if_eqN (tgt := 65) dX11_moons_55 (fun c55 => ?_) (fun c55 => ?_)
      · refine az_iincN (n := 1) (ls' := [(0, .ref 0), (1, .int (nI n)), (2, .int (nI 0)), (3, .int (nI (mb (rd_w v) v.2.2.2.2.2.2.2.1 v.2.2.2.2.2.2.2.2 y.2 ni bs i))), (4, .int (nI (i + 1)))]) dX11_moons_65 ?_
        refine az_goto (tgt := 18) dX11_moons_68 ?_
        have hstep : mb (rd_w v) v.2.2.2.2.2.2.2.1 v.2.2.2.2.2.2.2.2 y.2 ni bs (i + 1) = (mb (rd_w v) v.2.2.2.2.2.2.2.1 v.2.2.2.2.2.2.2.2 y.2 ni bs i) := (by first | rw [mb, if_pos c55] | rw [mb, if_neg c55])
        rw [← hstep]
        exact ih _ (by omega) n y hx hn hy h1' h6 hln (i + 1) h4 rfl (by omega) hq4 (hf3.tr hf4)
      · refine az_iload_n dX11_moons_58 ?_
        refine az_iconst (v := nI 1) dX11_moons_59 ?_
        refine az_iload dX11_moons_60 ?_
        refine az_ishl1N dX11_moons_62 ?_
        refine az_iorN dX11_moons_63 ?_
        refine az_istore_n (ls' := [(0, .ref 0), (1, .int (nI n)), (2, .int (nI 0)), (3, .int (nI ((mb (rd_w v) v.2.2.2.2.2.2.2.1 v.2.2.2.2.2.2.2.2 y.2 ni bs i) ||| (2 ^ i)))), (4, .int (nI i))]) dX11_moons_64 ?_
        refine az_iincN (n := 1) (ls' := [(0, .ref 0), (1, .int (nI n)), (2, .int (nI 0)), (3, .int (nI ((mb (rd_w v) v.2.2.2.2.2.2.2.1 v.2.2.2.2.2.2.2.2 y.2 ni bs i) ||| (2 ^ i)))), (4, .int (nI (i + 1)))]) dX11_moons_65 ?_
        refine az_goto (tgt := 18) dX11_moons_68 ?_
        have hstep : mb (rd_w v) v.2.2.2.2.2.2.2.1 v.2.2.2.2.2.2.2.2 y.2 ni bs (i + 1) = ((mb (rd_w v) v.2.2.2.2.2.2.2.1 v.2.2.2.2.2.2.2.2 y.2 ni bs i) ||| (2 ^ i)) := (by first | rw [mb, if_pos c55] | rw [mb, if_neg c55])
        rw [← hstep]
        exact ih _ (by omega) n y hx hn hy h1' h6 hln (i + 1) h4 rfl (by omega) hq4 (hf3.tr hf4)
  refine az_M.of rfl (Nat.le_of_ble_eq_true rfl) ?_
  show az_W _ _ _ _ 0 [(0, .ref 0), (1, .int x)] [] _ _
  refine az_aload_n dX11_moons_0 ?_
  refine az_iload_n dX11_moons_1 ?_
  refine az_lconst (v := lN 0) dX11_moons_2 ?_
  refine az_cV0 (st := []) dX11_moons_3 ml_X11_284 x1 (p_refL (d := d - 1) (by omega) hC ?_ ?_ ?_ ?_ ?_)
  · intro hno
    refine az_istore_n (ls' := [(0, .ref 0), (1, .int x), (2, .int ((-2)))]) dX11_moons_6 ?_
    refine az_iload_n dX11_moons_7 ?_
    refine az_if_eq (tgt := 13) dX11_moons_8 (fun c8 => ?_) (fun c8 => ?_)
    · exact absurd c8 (by decide)
    · refine az_iload_n dX11_moons_11 ?_
      exact az_iret dX11_moons_12 (by first | exact hQ2 hno | exact hQ6 n hx hn hno | exact hQ4 n y hx hn hy h1 | exact hQ3 n y hx hn hy h1 h6 hln)
  · intro n hx hn hno
    refine az_istore_n (ls' := [(0, .ref 0), (1, .int x), (2, .int ((-6)))]) dX11_moons_6 ?_
    refine az_iload_n dX11_moons_7 ?_
    refine az_if_eq (tgt := 13) dX11_moons_8 (fun c8 => ?_) (fun c8 => ?_)
    · exact absurd c8 (by decide)
    · refine az_iload_n dX11_moons_11 ?_
      exact az_iret dX11_moons_12 (by first | exact hQ2 hno | exact hQ6 n hx hn hno | exact hQ4 n y hx hn hy h1 | exact hQ3 n y hx hn hy h1 h6 hln)
  · intro n y hx hn hy h1
    refine az_istore_n (ls' := [(0, .ref 0), (1, .int x), (2, .int ((-4)))]) dX11_moons_6 ?_
    refine az_iload_n dX11_moons_7 ?_
    refine az_if_eq (tgt := 13) dX11_moons_8 (fun c8 => ?_) (fun c8 => ?_)
    · exact absurd c8 (by decide)
    · refine az_iload_n dX11_moons_11 ?_
      exact az_iret dX11_moons_12 (by first | exact hQ2 hno | exact hQ6 n hx hn hno | exact hQ4 n y hx hn hy h1 | exact hQ3 n y hx hn hy h1 h6 hln)
  · intro n y hx hn hy h1 h6 hln
    refine az_istore_n (ls' := [(0, .ref 0), (1, .int x), (2, .int ((-3)))]) dX11_moons_6 ?_
    refine az_iload_n dX11_moons_7 ?_
    refine az_if_eq (tgt := 13) dX11_moons_8 (fun c8 => ?_) (fun c8 => ?_)
    · exact absurd c8 (by decide)
    · refine az_iload_n dX11_moons_11 ?_
      exact az_iret dX11_moons_12 (by first | exact hQ2 hno | exact hQ6 n hx hn hno | exact hQ4 n y hx hn hy h1 | exact hQ3 n y hx hn hy h1 h6 hln)
  · intro n y hx hn hy h1 h6 hln
    refine az_istore_n (ls' := [(0, .ref 0), (1, .int x), (2, .int (nI 0))]) dX11_moons_6 ?_
    refine az_iload_n dX11_moons_7 ?_
    refine az_if_eqN (tgt := 13) dX11_moons_8 (fun c8 => ?_) (fun c8 => ?_)
    · rw [hx]
      refine az_iconst (v := nI 0) dX11_moons_13 ?_
      refine az_istore_n (ls' := [(0, .ref 0), (1, .int (nI n)), (2, .int (nI 0)), (3, .int (nI 0))]) dX11_moons_14 ?_
      refine az_iconst (v := nI 0) dX11_moons_15 ?_
      refine az_istore (ls' := [(0, .ref 0), (1, .int (nI n)), (2, .int (nI 0)), (3, .int (nI 0)), (4, .int (nI 0))]) dX11_moons_16 ?_
      exact loop _ n y hx hn hy h1 h6 hln 0 hp rfl (Nat.zero_le _) x11 az_fr.rf
    · exact absurd c8 (by omega)

