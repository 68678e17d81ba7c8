/-! LetterNights: what is refused -/
def cs_g (l : List Int64) (i : Nat) : Nat := (l.getD i 0).toInt.toNat
/-- the letters of a word -/
def cs_wd (l : List Int64) : Prop := ∀ i, i < l.length → l.getD i 0 = lN (cs_g l i) ∧ cs_g l i < 6
def cs_ln (l : List Int64) (z : Int64) : Prop := ∀ i, i < l.length → ¬ l.getD i 0 < z
theorem cs_g_of {l : List Int64} {i n : Nat} (h : l.getD i 0 = lN n) (hn : n < 6) : cs_g l i = n := by
  rw [cs_g, h, lN_toI (by omega)]
  rfl
set_option maxHeartbeats 4000000 in
set_option maxRecDepth 100000 in
theorem p_refW {d : Nat} {x : Int32} {tp fk mo ni K : Nat} {bt : Nat → Nat} {fp : Int32} {v : rd_V} {bs : List Nat} {U : ln_U} {im : Nat → Option (rd_V × ln_Z)} {tr : Nat → Option (Nat × List Int64)} {hp : az_Hp} {Q : Option Value → az_Hp → Prop} (hd : 3 ≤ d) (hC : cs hp ((tp, bt), (fk, fp), v, (mo, ni, bs), U, im, tr) K) (hQ2 : (∀ n, n < 4 → x ≠ nI n) → Q (some (.int (-2))) hp) (hQ6 : ∀ n, x = nI n → n < 4 → tr n = none → Q (some (.int (-6))) hp) (hQ4 : ∀ n y, x = nI n → n < 4 → tr n = some y → ¬ (1 ≤ y.2.length ∧ y.2.length ≤ 6) → Q (some (.int (-4))) hp) (hQ3 : ∀ n y, x = nI n → n < 4 → tr n = some y → 1 ≤ y.2.length → y.2.length ≤ 6 → ¬ cs_wd y.2 → Q (some (.int (-3))) hp) (hQ0 : ∀ n y, x = nI n → n < 4 → tr n = some y → 1 ≤ y.2.length → y.2.length ≤ 6 → cs_wd y.2 → Q (some (.int (nI 0))) hp) : az_M mX11_refusalOfWord d 0 0 [.ref 0, .int x] hp Q := by
  obtain ⟨hok, t, F, ia, kk, kt, x1, x2, x3, x4, x5, x6, x7, x8, x9, x10, x11, x12, x13, x14⟩ := id hC
  have hw : ln_ok (rd_w v) := hok.2.2.1.1
  have hlaw : ln_law (rd_w v) v.2.2.2.2.2.2.2.1 v.2.2.2.2.2.2.2.2 := hok.2.2.1.2
  have hba : ln_ba (rd_w v) bs := hok.2.2.2.1
  have hb : ln_by (rd_w v) bs := hba.b
  have x4 : ln_Past hp 6 U := x4
  have x5 : cs_im hp im ia F := x5
  have x6 : cs_tr hp tr := x6
  have x10 : ln_Scene hp 30 t (rd_w v) mo ni bs := x10
  have x13 : ln_Tf hp t (rd_w v) F := x13
  have x14 : cs_ad hp im F ia kk kt := x14
  obtain ⟨g, hg, hgt⟩ := id x6
  have loop : ∀ (k : Nat) (n : Nat) (y : Nat × List Int64) (hx : x = nI n) (hn : n < 4) (hy : tr n = some y) (h1 : 1 ≤ y.2.length) (h6 : y.2.length ≤ 6) (hl40 : y.2.length ≤ 40) (hgR : ln_Tray hp (56 + 2 * n) (some y)) (i : Nat), y.2.length - i = k → (i ≤ y.2.length) → (∀ j, j < i → y.2.getD j 0 = lN (cs_g y.2 j) ∧ cs_g y.2 j < 6) → az_W mX11_refusalOfWord d 0 0 42 [(0, .ref 0), (1, .int (nI n)), (2, .int (nI 0)), (3, .ref (56 + 2 * n)), (4, .int (nI i))] [] hp Q := by
    intro k
    induction k using Nat.strongRecOn with
    | _ k ih =>
    intro n y hx hn hy h1 h6 hl40 hgR i hk hi hR
    obtain ⟨-, hs3, f, q0, -⟩ := id hgR
    refine az_iload dX11_refusalOfWord_42 ?_
    refine az_aload_n dX11_refusalOfWord_44 ?_
    refine az_getf (v := .int (nI y.2.length)) dX11_refusalOfWord_45 fl_X11_199 q0 ?_
    refine az_icmp_geN (tgt := 72) dX11_refusalOfWord_48 (fun c48 => ?_) (fun c48 => ?_)
    · refine az_iconst (v := nI 0) dX11_refusalOfWord_72 ?_
      exact az_iret dX11_refusalOfWord_73 (hQ0 n y hx hn hy h1 h6 (fun j hj => hR j (by omega)))
    · refine az_aload_n dX11_refusalOfWord_51 ?_
      refine az_iload dX11_refusalOfWord_52 ?_
      refine az_cV0 (st := []) dX11_refusalOfWord_54 ml_X11_202 q0 (s_get (d := d - 1) (i := i) hgR (by omega) ?_)
      refine az_cS0 (st := []) dX11_refusalOfWord_57 ml_X11_112 (p_isLetter (d := d - 1) ?_ ?_)
      · intro m hm hm6
        refine az_if_neN (tgt := 66) dX11_refusalOfWord_60 (fun c60 => ?_) (fun c60 => ?_)
        · refine az_iincN (n := 1) (ls' := [(0, .ref 0), (1, .int (nI n)), (2, .int (nI 0)), (3, .ref (56 + 2 * n)), (4, .int (nI (i + 1)))]) dX11_refusalOfWord_66 ?_
          refine az_goto (tgt := 42) dX11_refusalOfWord_69 ?_
          exact ih _ (by omega) n y hx hn hy h1 h6 hl40 hgR (i + 1) rfl (by omega) (fun j hj => (if e : j = i then (by subst e; rw [cs_g_of hm hm6]; exact ⟨hm, hm6⟩) else hR j (by omega)))
        · exact absurd c60 (by omega)
      · intro hno
        refine az_if_neN (tgt := 66) dX11_refusalOfWord_60 (fun c60 => ?_) (fun c60 => ?_)
        · exact absurd c60 (by omega)
        · refine az_bipush (v := (-3)) dX11_refusalOfWord_63 ?_
          exact az_iret dX11_refusalOfWord_65 (hQ3 n y hx hn hy h1 h6 (fun q9 => hno _ (q9 i (by omega)).2 (q9 i (by omega)).1))
  refine az_M.of rfl (Nat.le_of_ble_eq_true rfl) ?_
  show az_W _ _ _ _ 0 [(0, .ref 0), (1, .int x)] [] _ _
  refine az_aload_n dX11_refusalOfWord_0 ?_
  refine az_iload_n dX11_refusalOfWord_1 ?_
  refine az_cV0 (st := []) dX11_refusalOfWord_2 ml_X11_211 x1 (p_refT (d := d - 1) (by omega) hC ?_ ?_ ?_)
  · intro hno
    refine az_istore_n (ls' := [(0, .ref 0), (1, .int x), (2, .int ((-2)))]) dX11_refusalOfWord_5 ?_
    refine az_iload_n dX11_refusalOfWord_6 ?_
    refine az_if_eq (tgt := 12) dX11_refusalOfWord_7 (fun c7 => ?_) (fun c7 => ?_)
    · exact absurd c7 (by decide)
    · refine az_iload_n dX11_refusalOfWord_10 ?_
      exact az_iret dX11_refusalOfWord_11 (by first | exact hQ2 hno | exact hQ6 n hx hn hno)
  · intro n hx hn hno
    refine az_istore_n (ls' := [(0, .ref 0), (1, .int x), (2, .int ((-6)))]) dX11_refusalOfWord_5 ?_
    refine az_iload_n dX11_refusalOfWord_6 ?_
    refine az_if_eq (tgt := 12) dX11_refusalOfWord_7 (fun c7 => ?_) (fun c7 => ?_)
    · exact absurd c7 (by decide)
    · refine az_iload_n dX11_refusalOfWord_10 ?_
      exact az_iret dX11_refusalOfWord_11 (by first | exact hQ2 hno | exact hQ6 n hx hn hno)
  · intro n y hx hn hy
    have hgn := (hgt n hn).1
    have hgR := (hgt n hn).2
    rw [hy] at hgR
    obtain ⟨hl40, hs3, f, q0, -⟩ := id hgR
    refine az_istore_n (ls' := [(0, .ref 0), (1, .int x), (2, .int (nI 0))]) dX11_refusalOfWord_5 ?_
    refine az_iload_n dX11_refusalOfWord_6 ?_
    refine az_if_eqN (tgt := 12) dX11_refusalOfWord_7 (fun c7 => ?_) (fun c7 => ?_)
    · rw [hx]
      refine az_aload_n dX11_refusalOfWord_12 ?_
      refine az_getf (v := .ref 11) dX11_refusalOfWord_13 fl_X11_35 x1 ?_
      refine az_iload_n dX11_refusalOfWord_16 ?_
      refine az_aaldN (j := n) dX11_refusalOfWord_17 hg ?_
      rw [hgn]
      refine az_astore_n (ls' := [(0, .ref 0), (1, .int (nI n)), (2, .int (nI 0)), (3, .ref (56 + 2 * n))]) dX11_refusalOfWord_18 ?_
      refine az_aload_n dX11_refusalOfWord_19 ?_
      refine az_getf (v := .int (nI y.2.length)) dX11_refusalOfWord_20 fl_X11_199 q0 ?_
      refine az_iconst (v := nI 1) dX11_refusalOfWord_23 ?_
      refine az_icmp_ltN (tgt := 36) dX11_refusalOfWord_24 (fun c24 => ?_) (fun c24 => ?_)
      · refine az_bipush (v := (-4)) dX11_refusalOfWord_36 ?_
        exact az_iret dX11_refusalOfWord_38 (hQ4 n y hx hn hy (by omega))
      · refine az_aload_n dX11_refusalOfWord_27 ?_
        refine az_getf (v := .int (nI y.2.length)) dX11_refusalOfWord_28 fl_X11_199 q0 ?_
        refine az_bipush (v := nI 6) dX11_refusalOfWord_31 ?_
        refine az_icmp_leN (tgt := 39) dX11_refusalOfWord_33 (fun c33 => ?_) (fun c33 => ?_)
        · refine az_iconst (v := nI 0) dX11_refusalOfWord_39 ?_
          refine az_istore (ls' := [(0, .ref 0), (1, .int (nI n)), (2, .int (nI 0)), (3, .ref (56 + 2 * n)), (4, .int (nI 0))]) dX11_refusalOfWord_40 ?_
          exact loop _ n y hx hn hy (by omega) (by omega) hl40 hgR 0 rfl (Nat.zero_le _) (fun j hj => absurd hj (Nat.not_lt_zero _))
        · refine az_bipush (v := (-4)) dX11_refusalOfWord_36 ?_
          exact az_iret dX11_refusalOfWord_38 (hQ4 n y hx hn hy (by omega))
    · exact absurd c7 (by omega)
set_option maxHeartbeats 4000000 in
set_option maxRecDepth 100000 in
theorem p_refL {d : Nat} {x : Int32} {le : Int64} {tp fk mo ni K : Nat} {bt : Nat → Nat} {fp : Int32} {v : rd_V} {bs : List Nat} {U : ln_U} {im : Nat → Option (rd_V × ln_Z)} {tr : Nat → Option (Nat × List Int64)} {hp : az_Hp} {Q : Option Value → az_Hp → Prop} (hd : 3 ≤ d) (hC : cs hp ((tp, bt), (fk, fp), v, (mo, ni, bs), U, im, tr) K) (hQ2 : (∀ n, n < 4 → x ≠ nI n) → Q (some (.int (-2))) hp) (hQ6 : ∀ n, x = nI n → n < 4 → tr n = none → Q (some (.int (-6))) hp) (hQ4 : ∀ n y, x = nI n → n < 4 → tr n = some y → ¬ (1 ≤ y.2.length ∧ y.2.length ≤ 8) → Q (some (.int (-4))) hp) (hQ3 : ∀ n y, x = nI n → n < 4 → tr n = some y → 1 ≤ y.2.length → y.2.length ≤ 8 → ¬ cs_ln y.2 le → Q (some (.int (-3))) hp) (hQ0 : ∀ n y, x = nI n → n < 4 → tr n = some y → 1 ≤ y.2.length → y.2.length ≤ 8 → cs_ln y.2 le → Q (some (.int (nI 0))) hp) : az_M mX11_refusalOfLengths d 0 0 [.ref 0, .int x, .long le] hp Q := by
  obtain ⟨hok, t, F, ia, kk, kt, x1, x2, x3, x4, x5, x6, x7, x8, x9, x10, x11, x12, x13, x14⟩ := id hC
  have hw : ln_ok (rd_w v) := hok.2.2.1.1
  have hlaw : ln_law (rd_w v) v.2.2.2.2.2.2.2.1 v.2.2.2.2.2.2.2.2 := hok.2.2.1.2
  have hba : ln_ba (rd_w v) bs := hok.2.2.2.1
  have hb : ln_by (rd_w v) bs := hba.b
  have x4 : ln_Past hp 6 U := x4
  have x5 : cs_im hp im ia F := x5
  have x6 : cs_tr hp tr := x6
  have x10 : ln_Scene hp 30 t (rd_w v) mo ni bs := x10
  have x13 : ln_Tf hp t (rd_w v) F := x13
  have x14 : cs_ad hp im F ia kk kt := x14
  obtain ⟨g, hg, hgt⟩ := id x6
  have loop : ∀ (k : Nat) (n : Nat) (y : Nat × List Int64) (hx : x = nI n) (hn : n < 4) (hy : tr n = some y) (h1 : 1 ≤ y.2.length) (h6 : y.2.length ≤ 8) (hl40 : y.2.length ≤ 40) (hgR : ln_Tray hp (56 + 2 * n) (some y)) (i : Nat), y.2.length - i = k → (i ≤ y.2.length) → (∀ j, j < i → ¬ y.2.getD j 0 < le) → az_W mX11_refusalOfLengths d 0 0 48 [(0, .ref 0), (1, .int (nI n)), (2, .long le), (4, .int (nI 0)), (5, .ref (56 + 2 * n)), (6, .int (nI i))] [] hp Q := by
    intro k
    induction k using Nat.strongRecOn with
    | _ k ih =>
    intro n y hx hn hy h1 h6 hl40 hgR i hk hi hR
    obtain ⟨-, hs3, f, q0, -⟩ := id hgR
    refine az_iload dX11_refusalOfLengths_48 ?_
    refine az_aload dX11_refusalOfLengths_50 ?_
    refine az_getf (v := .int (nI y.2.length)) dX11_refusalOfLengths_52 fl_X11_199 q0 ?_
    refine az_icmp_geN (tgt := 79) dX11_refusalOfLengths_55 (fun c55 => ?_) (fun c55 => ?_)
    · refine az_iconst (v := nI 0) dX11_refusalOfLengths_79 ?_
      exact az_iret dX11_refusalOfLengths_80 (hQ0 n y hx hn hy h1 h6 (fun j hj => hR j (by omega)))
    · refine az_aload dX11_refusalOfLengths_58 ?_
      refine az_iload dX11_refusalOfLengths_60 ?_
      refine az_cV0 (st := []) dX11_refusalOfLengths_62 ml_X11_202 q0 (s_get (d := d - 1) (i := i) hgR (by omega) ?_)
      refine az_lload_n dX11_refusalOfLengths_65 ?_
      refine az_lcmp_ge (tgt := 73) dX11_refusalOfLengths_66 dX11_refusalOfLengths_67 (fun c66 => ?_) (fun c66 => ?_)
      · refine az_iincN (n := 1) (ls' := [(0, .ref 0), (1, .int (nI n)), (2, .long le), (4, .int (nI 0)), (5, .ref (56 + 2 * n)), (6, .int (nI (i + 1)))]) dX11_refusalOfLengths_73 ?_
        refine az_goto (tgt := 48) dX11_refusalOfLengths_76 ?_
        exact ih _ (by omega) n y hx hn hy h1 h6 hl40 hgR (i + 1) rfl (by omega) (fun j hj => (if e : j = i then (by subst e; exact Int64.not_lt.mpr c66) else hR j (by omega)))
      · refine az_bipush (v := (-3)) dX11_refusalOfLengths_70 ?_
        exact az_iret dX11_refusalOfLengths_72 (hQ3 n y hx hn hy h1 h6 (fun q9 => q9 i (by omega) (Int64.not_le.mp c66)))
  refine az_M.of rfl (Nat.le_of_ble_eq_true rfl) ?_
  show az_W _ _ _ _ 0 [(0, .ref 0), (1, .int x), (2, .long le)] [] _ _
  refine az_aload_n dX11_refusalOfLengths_0 ?_
  refine az_iload_n dX11_refusalOfLengths_1 ?_
  refine az_cV0 (st := []) dX11_refusalOfLengths_2 ml_X11_211 x1 (p_refT (d := d - 1) (by omega) hC ?_ ?_ ?_)
  · intro hno
    refine az_istore (ls' := [(0, .ref 0), (1, .int x), (2, .long le), (4, .int ((-2)))]) dX11_refusalOfLengths_5 ?_
    refine az_iload dX11_refusalOfLengths_7 ?_
    refine az_if_eq (tgt := 15) dX11_refusalOfLengths_9 (fun c9 => ?_) (fun c9 => ?_)
    · exact absurd c9 (by decide)
    · refine az_iload dX11_refusalOfLengths_12 ?_
      exact az_iret dX11_refusalOfLengths_14 (by first | exact hQ2 hno | exact hQ6 n hx hn hno)
  · intro n hx hn hno
    refine az_istore (ls' := [(0, .ref 0), (1, .int x), (2, .long le), (4, .int ((-6)))]) dX11_refusalOfLengths_5 ?_
    refine az_iload dX11_refusalOfLengths_7 ?_
    refine az_if_eq (tgt := 15) dX11_refusalOfLengths_9 (fun c9 => ?_) (fun c9 => ?_)
    · exact absurd c9 (by decide)
    · refine az_iload dX11_refusalOfLengths_12 ?_
      exact az_iret dX11_refusalOfLengths_14 (by first | exact hQ2 hno | exact hQ6 n hx hn hno)
  · intro n y hx hn hy
    have hgn := (hgt n hn).1
    have hgR := (hgt n hn).2
    rw [hy] at hgR
    obtain ⟨hl40, hs3, f, q0, -⟩ := id hgR
    refine az_istore (ls' := [(0, .ref 0), (1, .int x), (2, .long le), (4, .int (nI 0))]) dX11_refusalOfLengths_5 ?_
    refine az_iload dX11_refusalOfLengths_7 ?_
    refine az_if_eqN (tgt := 15) dX11_refusalOfLengths_9 (fun c9 => ?_) (fun c9 => ?_)
    · rw [hx]
      refine az_aload_n dX11_refusalOfLengths_15 ?_
      refine az_getf (v := .ref 11) dX11_refusalOfLengths_16 fl_X11_35 x1 ?_
      refine az_iload_n dX11_refusalOfLengths_19 ?_
      refine az_aaldN (j := n) dX11_refusalOfLengths_20 hg ?_
      rw [hgn]
      refine az_astore (ls' := [(0, .ref 0), (1, .int (nI n)), (2, .long le), (4, .int (nI 0)), (5, .ref (56 + 2 * n))]) dX11_refusalOfLengths_21 ?_
      refine az_aload dX11_refusalOfLengths_23 ?_
      refine az_getf (v := .int (nI y.2.length)) dX11_refusalOfLengths_25 fl_X11_199 q0 ?_
      refine az_iconst (v := nI 1) dX11_refusalOfLengths_28 ?_
      refine az_icmp_ltN (tgt := 42) dX11_refusalOfLengths_29 (fun c29 => ?_) (fun c29 => ?_)
      · refine az_bipush (v := (-4)) dX11_refusalOfLengths_42 ?_
        exact az_iret dX11_refusalOfLengths_44 (hQ4 n y hx hn hy (by omega))
      · refine az_aload dX11_refusalOfLengths_32 ?_
        refine az_getf (v := .int (nI y.2.length)) dX11_refusalOfLengths_34 fl_X11_199 q0 ?_
        refine az_bipush (v := nI 8) dX11_refusalOfLengths_37 ?_
        refine az_icmp_leN (tgt := 45) dX11_refusalOfLengths_39 (fun c39 => ?_) (fun c39 => ?_)
        · refine az_iconst (v := nI 0) dX11_refusalOfLengths_45 ?_
          refine az_istore (ls' := [(0, .ref 0), (1, .int (nI n)), (2, .long le), (4, .int (nI 0)), (5, .ref (56 + 2 * n)), (6, .int (nI 0))]) dX11_refusalOfLengths_46 ?_
          exact loop _ n y hx hn hy (by omega) (by omega) hl40 hgR 0 rfl (Nat.zero_le _) (fun j hj => absurd hj (Nat.not_lt_zero _))
        · refine az_bipush (v := (-4)) dX11_refusalOfLengths_42 ?_
          exact az_iret dX11_refusalOfLengths_44 (hQ4 n y hx hn hy (by omega))
    · exact absurd c9 (by omega)
set_option maxHeartbeats 4000000 in
set_option maxRecDepth 100000 in
theorem p_refB {d : Nat} {x xt : Int32} {tp fk mo ni K : Nat} {bt : Nat → Nat} {fp : Int32} {v : rd_V} {bs : List Nat} {U : ln_U} {im : Nat → Option (rd_V × ln_Z)} {tr : Nat → Option (Nat × List Int64)} {hp : az_Hp} {Q : Option Value → az_Hp → Prop} (hd : 4 ≤ d) (hC : cs hp ((tp, bt), (fk, fp), v, (mo, ni, bs), U, im, tr) K) (hQ2 : ¬ (cs_in x 4 ∧ cs_in xt (ln_tb (rd_w v))) → Q (some (.int (-2))) hp) (hQ6 : ∀ n, x = nI n → n < 4 → cs_in xt (ln_tb (rd_w v)) → tr n = none → Q (some (.int (-6))) hp) (hQ4 : ∀ n y, x = nI n → n < 4 → cs_in xt (ln_tb (rd_w v)) → tr n = some y → ¬ (1 ≤ y.2.length ∧ y.2.length ≤ 6) → Q (some (.int (-4))) hp) (hQ3 : ∀ n y, x = nI n → n < 4 → cs_in xt (ln_tb (rd_w v)) → tr n = some y → 1 ≤ y.2.length → y.2.length ≤ 6 → ¬ cs_wd y.2 → Q (some (.int (-3))) hp) (hQ0 : ∀ n y, x = nI n → n < 4 → cs_in xt (ln_tb (rd_w v)) → tr n = some y → 1 ≤ y.2.length → y.2.length ≤ 6 → cs_wd y.2 → Q (some (.int (nI 0))) hp) : az_M mX11_refusalOfReadingBack d 0 0 [.ref 0, .int x, .int xt] hp Q := by
  obtain ⟨hok, t, F, ia, kk, kt, x1, x2, x3, x4, x5, x6, x7, x8, x9, x10, x11, x12, x13, x14⟩ := id hC
  have hw : ln_ok (rd_w v) := hok.2.2.1.1
  have hlaw : ln_law (rd_w v) v.2.2.2.2.2.2.2.1 v.2.2.2.2.2.2.2.2 := hok.2.2.1.2
  have hba : ln_ba (rd_w v) bs := hok.2.2.2.1
  have hb : ln_by (rd_w v) bs := hba.b
  have x4 : ln_Past hp 6 U := x4
  have x5 : cs_im hp im ia F := x5
  have x6 : cs_tr hp tr := x6
  have x10 : ln_Scene hp 30 t (rd_w v) mo ni bs := x10
  have x13 : ln_Tf hp t (rd_w v) F := x13
  have x14 : cs_ad hp im F ia kk kt := x14
  refine az_M.of rfl (Nat.le_of_ble_eq_true rfl) ?_
  show az_W _ _ _ _ 0 [(0, .ref 0), (1, .int x), (2, .int xt)] [] _ _
  refine az_iload_n dX11_refusalOfReadingBack_0 ?_
  refine az_cS0 (st := []) dX11_refusalOfReadingBack_1 ml_X11_190 (p_isTray (d := d - 1) ?_ ?_)
  · intro n hx hn
    refine az_if_eqN (tgt := 20) dX11_refusalOfReadingBack_4 (fun c4 => ?_) (fun c4 => ?_)
    · exact absurd c4 (by omega)
    · refine az_aload_n dX11_refusalOfReadingBack_7 ?_
      refine az_iload_n dX11_refusalOfReadingBack_8 ?_
      refine az_cV0 (st := []) dX11_refusalOfReadingBack_9 ml_X11_108 x1 (p_isTable (d := d - 1) hC ?_ ?_)
      · intro tb htb htb3
        have i2 := (cs_in_n htb3 (by have := hw.2.1; omega)).1
        rw [← htb] at i2
        refine az_if_neN (tgt := 20) dX11_refusalOfReadingBack_12 (fun c12 => ?_) (fun c12 => ?_)
        · refine az_aload_n dX11_refusalOfReadingBack_20 ?_
          refine az_iload_n dX11_refusalOfReadingBack_21 ?_
          refine az_cV0 (st := []) dX11_refusalOfReadingBack_22 ml_X11_219 x1 (p_refW (d := d - 1) (by omega) hC ?_ ?_ ?_ ?_ ?_)
          · intro hno
            exact az_iret dX11_refusalOfReadingBack_25 (by first | exact hQ2 (fun q9 => cs_no hno q9.1) | exact hQ2 (fun q9 => cs_no hnt q9.2) | exact absurd hx (hno n hn) | exact hQ6 n hx hn i2 hno2 | exact hQ4 n y hx hn i2 hy h1 | exact hQ3 n y hx hn i2 hy h1 h6 hwd | exact hQ0 n y hx hn i2 hy h1 h6 hwd)
          · intro n hx hn hno2
            exact az_iret dX11_refusalOfReadingBack_25 (by first | exact hQ2 (fun q9 => cs_no hno q9.1) | exact hQ2 (fun q9 => cs_no hnt q9.2) | exact absurd hx (hno n hn) | exact hQ6 n hx hn i2 hno2 | exact hQ4 n y hx hn i2 hy h1 | exact hQ3 n y hx hn i2 hy h1 h6 hwd | exact hQ0 n y hx hn i2 hy h1 h6 hwd)
          · intro n y hx hn hy h1
            exact az_iret dX11_refusalOfReadingBack_25 (by first | exact hQ2 (fun q9 => cs_no hno q9.1) | exact hQ2 (fun q9 => cs_no hnt q9.2) | exact absurd hx (hno n hn) | exact hQ6 n hx hn i2 hno2 | exact hQ4 n y hx hn i2 hy h1 | exact hQ3 n y hx hn i2 hy h1 h6 hwd | exact hQ0 n y hx hn i2 hy h1 h6 hwd)
          · intro n y hx hn hy h1 h6 hwd
            exact az_iret dX11_refusalOfReadingBack_25 (by first | exact hQ2 (fun q9 => cs_no hno q9.1) | exact hQ2 (fun q9 => cs_no hnt q9.2) | exact absurd hx (hno n hn) | exact hQ6 n hx hn i2 hno2 | exact hQ4 n y hx hn i2 hy h1 | exact hQ3 n y hx hn i2 hy h1 h6 hwd | exact hQ0 n y hx hn i2 hy h1 h6 hwd)
          · intro n y hx hn hy h1 h6 hwd
            exact az_iret dX11_refusalOfReadingBack_25 (by first | exact hQ2 (fun q9 => cs_no hno q9.1) | exact hQ2 (fun q9 => cs_no hnt q9.2) | exact absurd hx (hno n hn) | exact hQ6 n hx hn i2 hno2 | exact hQ4 n y hx hn i2 hy h1 | exact hQ3 n y hx hn i2 hy h1 h6 hwd | exact hQ0 n y hx hn i2 hy h1 h6 hwd)
        · exact absurd c12 (by omega)
      · intro hnt
        refine az_if_neN (tgt := 20) dX11_refusalOfReadingBack_12 (fun c12 => ?_) (fun c12 => ?_)
        · exact absurd c12 (by omega)
        · refine az_bipush (v := (-2)) dX11_refusalOfReadingBack_15 ?_
          refine az_goto (tgt := 25) dX11_refusalOfReadingBack_17 ?_
          exact az_iret dX11_refusalOfReadingBack_25 (by first | exact hQ2 (fun q9 => cs_no hno q9.1) | exact hQ2 (fun q9 => cs_no hnt q9.2) | exact absurd hx (hno n hn) | exact hQ6 n hx hn i2 hno2 | exact hQ4 n y hx hn i2 hy h1 | exact hQ3 n y hx hn i2 hy h1 h6 hwd | exact hQ0 n y hx hn i2 hy h1 h6 hwd)
  · intro hno
    refine az_if_eqN (tgt := 20) dX11_refusalOfReadingBack_4 (fun c4 => ?_) (fun c4 => ?_)
    · refine az_aload_n dX11_refusalOfReadingBack_20 ?_
      refine az_iload_n dX11_refusalOfReadingBack_21 ?_
      refine az_cV0 (st := []) dX11_refusalOfReadingBack_22 ml_X11_219 x1 (p_refW (d := d - 1) (by omega) hC ?_ ?_ ?_ ?_ ?_)
      · intro hno
        exact az_iret dX11_refusalOfReadingBack_25 (by first | exact hQ2 (fun q9 => cs_no hno q9.1) | exact hQ2 (fun q9 => cs_no hnt q9.2) | exact absurd hx (hno n hn) | exact hQ6 n hx hn i2 hno2 | exact hQ4 n y hx hn i2 hy h1 | exact hQ3 n y hx hn i2 hy h1 h6 hwd | exact hQ0 n y hx hn i2 hy h1 h6 hwd)
      · intro n hx hn hno2
        exact az_iret dX11_refusalOfReadingBack_25 (by first | exact hQ2 (fun q9 => cs_no hno q9.1) | exact hQ2 (fun q9 => cs_no hnt q9.2) | exact absurd hx (hno n hn) | exact hQ6 n hx hn i2 hno2 | exact hQ4 n y hx hn i2 hy h1 | exact hQ3 n y hx hn i2 hy h1 h6 hwd | exact hQ0 n y hx hn i2 hy h1 h6 hwd)
      · intro n y hx hn hy h1
        exact az_iret dX11_refusalOfReadingBack_25 (by first | exact hQ2 (fun q9 => cs_no hno q9.1) | exact hQ2 (fun q9 => cs_no hnt q9.2) | exact absurd hx (hno n hn) | exact hQ6 n hx hn i2 hno2 | exact hQ4 n y hx hn i2 hy h1 | exact hQ3 n y hx hn i2 hy h1 h6 hwd | exact hQ0 n y hx hn i2 hy h1 h6 hwd)
      · intro n y hx hn hy h1 h6 hwd
        exact az_iret dX11_refusalOfReadingBack_25 (by first | exact hQ2 (fun q9 => cs_no hno q9.1) | exact hQ2 (fun q9 => cs_no hnt q9.2) | exact absurd hx (hno n hn) | exact hQ6 n hx hn i2 hno2 | exact hQ4 n y hx hn i2 hy h1 | exact hQ3 n y hx hn i2 hy h1 h6 hwd | exact hQ0 n y hx hn i2 hy h1 h6 hwd)
      · intro n y hx hn hy h1 h6 hwd
        exact az_iret dX11_refusalOfReadingBack_25 (by first | exact hQ2 (fun q9 => cs_no hno q9.1) | exact hQ2 (fun q9 => cs_no hnt q9.2) | exact absurd hx (hno n hn) | exact hQ6 n hx hn i2 hno2 | exact hQ4 n y hx hn i2 hy h1 | exact hQ3 n y hx hn i2 hy h1 h6 hwd | exact hQ0 n y hx hn i2 hy h1 h6 hwd)
    · exact absurd c4 (by omega)

