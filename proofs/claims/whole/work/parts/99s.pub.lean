/-! LetterNights: chances, means -/
theorem lN_div {a b : Nat} (ha : a < 2 ^ 63) (hb : b < 2 ^ 63) : lN a / lN b = lN (a / b) := by
  have h0 : a / b ≤ a := Nat.div_le_self _ _
  apply Int64.toInt_inj.mp
  rw [Int64.toInt_div, lN_toI ha, lN_toI hb, lN_toI (by omega), Int.tdiv_eq_ediv_of_nonneg (by omega)]
  rw [← Int.natCast_ediv]
  generalize a / b = q at h0 ⊢
  rw [Int.bmod_eq_of_le (by omega) (by omega)]
theorem gcd_st (a b : Nat) : Nat.gcd b (a % b) = Nat.gcd a b := by
  rw [Nat.gcd_comm a b, Nat.gcd_rec b a, Nat.gcd_comm]
theorem eu_st {a b i : Nat} (hb : b ≠ 0) (h1 : 1 ≤ i → b ≤ a) (ha : a < 2 ^ 63) (hb63 : b < 2 ^ 63) (hp : a * b < 2 ^ (127 - i)) : b * (a % b) < 2 ^ (127 - (i + 1)) := by
  have hm : a % b < b := Nat.mod_lt _ (by omega)
  by_cases hi : i = 0
  · subst hi
    have h2 : b * (a % b) ≤ b * (2 ^ 63) := Nat.mul_le_mul_left _ (by omega)
    have h3 : b * 2 ^ 63 < 2 ^ 63 * 2 ^ 63 := Nat.mul_lt_mul_of_pos_right hb63 (by decide)
    have h4 : (2 : Nat) ^ 63 * 2 ^ 63 = 2 ^ (127 - (0 + 1)) := by decide
    omega
  · have h2 := h1 (by omega)
    have h3 : 2 * (a % b) ≤ a := by
      have h4 := Nat.div_add_mod a b
      have h5 : 1 ≤ a / b := Nat.div_pos h2 (by omega)
      have h6 : b * 1 ≤ b * (a / b) := Nat.mul_le_mul_left _ h5
      omega
    by_cases h127 : i < 127
    · have h4 : 2 ^ (127 - i) = 2 * 2 ^ (127 - (i + 1)) := by rw [show 127 - i = (127 - (i + 1)) + 1 by omega, Nat.pow_succ, Nat.mul_comm]
      have h5 : b * (2 * (a % b)) ≤ b * a := Nat.mul_le_mul_left _ h3
      have h6 : b * (2 * (a % b)) = 2 * (b * (a % b)) := by rw [← Nat.mul_assoc, Nat.mul_comm b 2, Nat.mul_assoc]
      have h7 : a * b = b * a := Nat.mul_comm _ _
      omega
    · have h4 : 127 - i = 0 := by omega
      rw [h4, Nat.pow_zero] at hp
      have h5 : 1 * 1 ≤ a * b := Nat.mul_le_mul (by omega) (by omega)
      omega
theorem eu_z {a b i : Nat} (h1 : b ≤ a) (hp : a * b < 2 ^ (127 - i)) (hi : 127 ≤ i) : b = 0 := by
  rw [show 127 - i = 0 by omega, Nat.pow_zero] at hp
  rcases Nat.eq_zero_or_pos b with h | h
  · exact h
  · have h5 : 1 * 1 ≤ a * b := Nat.mul_le_mul (by omega) h
    omega
set_option maxHeartbeats 4000000 in
set_option maxRecDepth 100000 in
theorem s_lowestTerm {d a b k9 : Nat} {hp : az_Hp} {Q : Option Value → az_Hp → Prop} (ha : a < 2 ^ 63) (hb : b < 2 ^ 63) (hb1 : 1 ≤ b) (hk2 : k9 < 2) (hQ : Q (some (.long (lN ((if k9 = 0 then a else b) / (Nat.gcd a b))))) hp) : az_M mX11_lowestTerm d 0 0 [.long (lN a), .long (lN b), .int (nI k9)] hp Q := by
  have hg1 : 1 ≤ (Nat.gcd a b) := Nat.gcd_pos_of_pos_right _ hb1
  have hgb : (Nat.gcd a b) ≤ b := Nat.gcd_le_right _ hb1
  have loop : ∀ (k : Nat) (i a9 b9 : Nat), 200 - i = k → (i ≤ 200) → (1 ≤ i → b9 ≤ a9) → (a9 * b9 < 2 ^ (127 - i)) → (Nat.gcd a9 b9 = (Nat.gcd a b)) → (a9 < 2 ^ 63) → (b9 < 2 ^ 63) → az_W mX11_lowestTerm d 0 0 9 [(0, .long (lN a)), (2, .long (lN b)), (4, .int (nI k9)), (5, .long (lN a9)), (7, .long (lN b9)), (9, .int (nI i))] [] hp Q := by
    intro k
    induction k using Nat.strongRecOn with
    | _ k ih =>
    intro i a9 b9 hk hi hab hpr hgd h63a h63b
    refine az_iload dX11_lowestTerm_9 ?_
    refine az_sipush (v := nI 200) dX11_lowestTerm_11 ?_
    refine az_icmp_geN (tgt := 45) dX11_lowestTerm_14 (fun c14 => ?_) (fun c14 => ?_)
    · refine az_lload dX11_lowestTerm_45 ?_
      refine az_lconst (v := lN 0) dX11_lowestTerm_47 ?_
      refine az_lcmp_neN (tgt := 63) dX11_lowestTerm_48 dX11_lowestTerm_49 (fun c48 => ?_) (fun c48 => ?_)
      · refine az_iload dX11_lowestTerm_63 ?_
        refine az_if_neN (tgt := 75) dX11_lowestTerm_65 (fun c65 => ?_) (fun c65 => ?_)
        · refine az_lload_n dX11_lowestTerm_75 ?_
          refine az_lload dX11_lowestTerm_76 ?_
          refine az_ldiv dX11_lowestTerm_78 (by have hz : b9 = 0 := (by first | omega | exact eu_z (hab (by omega)) hpr (by omega)); intro q9; exact absurd ((lN_eqN (by omega) (by omega)).mp (q9.trans (show (0 : Int64) = lN 0 from rfl))) (by rw [hz, Nat.gcd_zero_right] at hgd; omega)) ?_
          exact az_lret dX11_lowestTerm_79 (by have hz : b9 = 0 := (by first | omega | exact eu_z (hab (by omega)) hpr (by omega)); rw [hz, Nat.gcd_zero_right] at hgd; rw [lN_div (by omega) (by omega), hgd]; first | (rw [if_pos (by omega)] at hQ; exact hQ) | (rw [if_neg (by omega)] at hQ; exact hQ))
        · refine az_lload_n dX11_lowestTerm_68 ?_
          refine az_lload dX11_lowestTerm_69 ?_
          refine az_ldiv dX11_lowestTerm_71 (by have hz : b9 = 0 := (by first | omega | exact eu_z (hab (by omega)) hpr (by omega)); intro q9; exact absurd ((lN_eqN (by omega) (by omega)).mp (q9.trans (show (0 : Int64) = lN 0 from rfl))) (by rw [hz, Nat.gcd_zero_right] at hgd; omega)) ?_
          refine az_goto (tgt := 79) dX11_lowestTerm_72 ?_
          exact az_lret dX11_lowestTerm_79 (by have hz : b9 = 0 := (by first | omega | exact eu_z (hab (by omega)) hpr (by omega)); rw [hz, Nat.gcd_zero_right] at hgd; rw [lN_div (by omega) (by omega), hgd]; first | (rw [if_pos (by omega)] at hQ; exact hQ) | (rw [if_neg (by omega)] at hQ; exact hQ))
      · refine az_iload dX11_lowestTerm_52 ?_
        refine az_if_neN (tgt := 61) dX11_lowestTerm_54 (fun c54 => ?_) (fun c54 => ?_)
        · refine az_lconst (v := lN 1) dX11_lowestTerm_61 ?_
          exact az_lret dX11_lowestTerm_62 (by have hz : b9 = 0 := (by first | omega | exact eu_z (hab (by omega)) hpr (by omega)); rw [hz, Nat.gcd_zero_right] at hgd; omega)
        · refine az_lconst (v := lN 0) dX11_lowestTerm_57 ?_
          refine az_goto (tgt := 62) dX11_lowestTerm_58 ?_
          exact az_lret dX11_lowestTerm_62 (by have hz : b9 = 0 := (by first | omega | exact eu_z (hab (by omega)) hpr (by omega)); rw [hz, Nat.gcd_zero_right] at hgd; omega)
    · refine az_lload dX11_lowestTerm_17 ?_
      refine az_lconst (v := lN 0) dX11_lowestTerm_19 ?_
      refine az_lcmp_eqN (tgt := 45) dX11_lowestTerm_20 dX11_lowestTerm_21 (fun c20 => ?_) (fun c20 => ?_)
      · refine az_lload dX11_lowestTerm_45 ?_
        refine az_lconst (v := lN 0) dX11_lowestTerm_47 ?_
        refine az_lcmp_neN (tgt := 63) dX11_lowestTerm_48 dX11_lowestTerm_49 (fun c48 => ?_) (fun c48 => ?_)
        · refine az_iload dX11_lowestTerm_63 ?_
          refine az_if_neN (tgt := 75) dX11_lowestTerm_65 (fun c65 => ?_) (fun c65 => ?_)
          · refine az_lload_n dX11_lowestTerm_75 ?_
            refine az_lload dX11_lowestTerm_76 ?_
            refine az_ldiv dX11_lowestTerm_78 (by have hz : b9 = 0 := (by first | omega | exact eu_z (hab (by omega)) hpr (by omega)); intro q9; exact absurd ((lN_eqN (by omega) (by omega)).mp (q9.trans (show (0 : Int64) = lN 0 from rfl))) (by rw [hz, Nat.gcd_zero_right] at hgd; omega)) ?_
            exact az_lret dX11_lowestTerm_79 (by have hz : b9 = 0 := (by first | omega | exact eu_z (hab (by omega)) hpr (by omega)); rw [hz, Nat.gcd_zero_right] at hgd; rw [lN_div (by omega) (by omega), hgd]; first | (rw [if_pos (by omega)] at hQ; exact hQ) | (rw [if_neg (by omega)] at hQ; exact hQ))
          · refine az_lload_n dX11_lowestTerm_68 ?_
            refine az_lload dX11_lowestTerm_69 ?_
            refine az_ldiv dX11_lowestTerm_71 (by have hz : b9 = 0 := (by first | omega | exact eu_z (hab (by omega)) hpr (by omega)); intro q9; exact absurd ((lN_eqN (by omega) (by omega)).mp (q9.trans (show (0 : Int64) = lN 0 from rfl))) (by rw [hz, Nat.gcd_zero_right] at hgd; omega)) ?_
            refine az_goto (tgt := 79) dX11_lowestTerm_72 ?_
            exact az_lret dX11_lowestTerm_79 (by have hz : b9 = 0 := (by first | omega | exact eu_z (hab (by omega)) hpr (by omega)); rw [hz, Nat.gcd_zero_right] at hgd; rw [lN_div (by omega) (by omega), hgd]; first | (rw [if_pos (by omega)] at hQ; exact hQ) | (rw [if_neg (by omega)] at hQ; exact hQ))
        · refine az_iload dX11_lowestTerm_52 ?_
          refine az_if_neN (tgt := 61) dX11_lowestTerm_54 (fun c54 => ?_) (fun c54 => ?_)
          · refine az_lconst (v := lN 1) dX11_lowestTerm_61 ?_
            exact az_lret dX11_lowestTerm_62 (by have hz : b9 = 0 := (by first | omega | exact eu_z (hab (by omega)) hpr (by omega)); rw [hz, Nat.gcd_zero_right] at hgd; omega)
          · refine az_lconst (v := lN 0) dX11_lowestTerm_57 ?_
            refine az_goto (tgt := 62) dX11_lowestTerm_58 ?_
            exact az_lret dX11_lowestTerm_62 (by have hz : b9 = 0 := (by first | omega | exact eu_z (hab (by omega)) hpr (by omega)); rw [hz, Nat.gcd_zero_right] at hgd; omega)
      · refine az_lload dX11_lowestTerm_24 ?_
        refine az_lload dX11_lowestTerm_26 ?_
        refine az_lrem dX11_lowestTerm_28 (fun q9 => c20 ((lN_eqN h63b (by omega)).mp (q9.trans rfl))) ?_
        rw [lN_mod h63a h63b]
        refine az_lstore (ls' := [(0, .long (lN a)), (2, .long (lN b)), (4, .int (nI k9)), (5, .long (lN a9)), (7, .long (lN b9)), (9, .int (nI i)), (10, .long (lN (a9 % b9)))]) dX11_lowestTerm_29 ?_
        refine az_lload dX11_lowestTerm_31 ?_
        refine az_lstore (ls' := [(0, .long (lN a)), (2, .long (lN b)), (4, .int (nI k9)), (5, .long (lN b9)), (7, .long (lN b9)), (9, .int (nI i)), (10, .long (lN (a9 % b9)))]) dX11_lowestTerm_33 ?_
        refine az_lload dX11_lowestTerm_35 ?_
        refine az_lstore (ls' := [(0, .long (lN a)), (2, .long (lN b)), (4, .int (nI k9)), (5, .long (lN b9)), (7, .long (lN (a9 % b9))), (9, .int (nI i)), (10, .long (lN (a9 % b9)))]) dX11_lowestTerm_37 ?_
        refine az_iincN (n := 1) (ls' := [(0, .long (lN a)), (2, .long (lN b)), (4, .int (nI k9)), (5, .long (lN b9)), (7, .long (lN (a9 % b9))), (9, .int (nI (i + 1))), (10, .long (lN (a9 % b9)))]) dX11_lowestTerm_39 ?_
        refine az_goto (tgt := 9) dX11_lowestTerm_42 ?_
        refine az_W.keep (ls' := [(0, .long (lN a)), (2, .long (lN b)), (4, .int (nI k9)), (5, .long (lN b9)), (7, .long (lN (a9 % b9))), (9, .int (nI (i + 1)))]) [0, 2, 4, 5, 7, 9] rfl ?_
        exact ih _ (by omega) (i + 1) b9 (a9 % b9) rfl (by omega) (fun _ => Nat.le_of_lt (Nat.mod_lt _ (by omega))) (eu_st c20 hab h63a h63b hpr) (by rw [gcd_st]; exact hgd) h63b (by have := Nat.mod_lt a9 (y := b9) (by omega); omega)
  refine az_M.of rfl (Nat.le_of_ble_eq_true rfl) ?_
  show az_W _ _ _ _ 0 [(0, .long (lN a)), (2, .long (lN b)), (4, .int (nI k9))] [] _ _
  refine az_lload_n dX11_lowestTerm_0 ?_
  refine az_lstore (ls' := [(0, .long (lN a)), (2, .long (lN b)), (4, .int (nI k9)), (5, .long (lN a))]) dX11_lowestTerm_1 ?_
  refine az_lload_n dX11_lowestTerm_3 ?_
  refine az_lstore (ls' := [(0, .long (lN a)), (2, .long (lN b)), (4, .int (nI k9)), (5, .long (lN a)), (7, .long (lN b))]) dX11_lowestTerm_4 ?_
  refine az_iconst (v := nI 0) dX11_lowestTerm_6 ?_
  refine az_istore (ls' := [(0, .long (lN a)), (2, .long (lN b)), (4, .int (nI k9)), (5, .long (lN a)), (7, .long (lN b)), (9, .int (nI 0))]) dX11_lowestTerm_7 ?_
  exact loop _ 0 a b rfl (by omega) (fun q9 => absurd q9 (by omega)) (by have h2 : a * b ≤ a * 2 ^ 63 := Nat.mul_le_mul_left _ (by omega); have h3 : a * 2 ^ 63 < 2 ^ 63 * 2 ^ 63 := Nat.mul_lt_mul_of_pos_right ha (by decide); have h4 : (2 : Nat) ^ 63 * 2 ^ 63 ≤ 2 ^ (127 - 0) := (by decide); omega) rfl ha hb

set_option maxHeartbeats 4000000 in
set_option maxRecDepth 100000 in
theorem p_chance {d : Nat} {xn xw : Int32} {tp fk mo ni K : Nat} {bt : Nat → Nat} {fp : Int32} {v : rd_V} {bs : List Nat} {U : ln_U} {im : Nat → Option (rd_V × ln_Z)} {tr : Nat → Option (Nat × List Int64)} {hp : az_Hp} {Q : Option Value → az_Hp → Prop} (hd : 8 ≤ d) (hC : cs hp ((tp, bt), (fk, fp), v, (mo, ni, bs), U, im, tr) K) (hQ2 : ¬ cs_in xw 2 → Q (some (.int (-2))) hp) (hQ3 : cs_in xw 2 → ¬ cs_in xn 13 → Q (some (.int (-3))) hp) (hQ : ∀ n k, xn = nI n → n < 13 → xw = nI k → k < 2 → ∀ h', cs h' ((tp, bt), (fk, fp), v, (mo, ni, bs), U, im, tr) K → cs_f hp h' → Q (some (.int (nI ((if k = 0 then (fu_wy (rd_w v) (ln_sb (ln_str (rd_w v) bs) 6) n 0) else ln_tb (rd_w v) ^ n) / Nat.gcd (fu_wy (rd_w v) (ln_sb (ln_str (rd_w v) bs) 6) n 0) (ln_tb (rd_w v) ^ n))))) h') : az_M mX11_chance d 0 0 [.ref 0, .int xn, .int xw] hp Q := by
  obtain ⟨hok, t, F, ia, kk, kt, x1, x2, x3, x4, x5, x6, x7, x8, x9, x10, x11, x12, x13, x14⟩ := id hC
  have hw : ln_ok (rd_w v) := hok.2.2.1.1
  have hlaw : ln_law (rd_w v) v.2.2.2.2.2.2.2.1 v.2.2.2.2.2.2.2.2 := hok.2.2.1.2
  have hba : ln_ba (rd_w v) bs := hok.2.2.2.1
  have hb : ln_by (rd_w v) bs := hba.b
  have x4 : ln_Past hp 6 U := x4
  have x5 : cs_im hp im ia F := x5
  have x6 : cs_tr hp tr := x6
  have x10 : ln_Scene hp 30 t (rd_w v) mo ni bs := x10
  have x13 : ln_Tf hp t (rd_w v) F := x13
  have x14 : cs_ad hp im F ia kk kt := x14
  obtain ⟨hi, fr, la, no, wa, nc, g0, -⟩ := id x10
  obtain ⟨t9, tl, wn, wx, fS, ff, fr9, fs, fa, fb, fL, u0, u1, u2, u3, ta, pr, u4, u5, k9⟩ := id (show fu_U hp 46 kk kt K from x12)
  have prb := pr.b
  obtain ⟨kb1, kb2⟩ := id k9
  refine az_M.of rfl (Nat.le_of_ble_eq_true rfl) ?_
  show az_W _ _ _ _ 0 [(0, .ref 0), (1, .int xn), (2, .int xw)] [] _ _
  refine az_iload_n dX11_chance_0 ?_
  refine az_if_lt (tgt := 9) dX11_chance_1 (fun c1 => ?_) (fun c1 => ?_)
  · refine az_bipush (v := (-2)) dX11_chance_9 ?_
    exact az_iret dX11_chance_11 (hQ2 (fun q9 => (by obtain ⟨e1, e2⟩ := cs_in_of q9; first | (rw [e1, show (0 : Int32) = nI 0 from rfl] at c1; exact absurd ((nI_ltI (by omega) (by omega)).mp c1) (by omega)) | (rw [e1] at c6; exact c6 ((nI_leI (by omega) (by omega)).mpr (by omega))))))
  · refine az_iload_n dX11_chance_4 ?_
    refine az_iconst (v := nI 1) dX11_chance_5 ?_
    refine az_icmp_le (tgt := 12) dX11_chance_6 (fun c6 => ?_) (fun c6 => ?_)
    · obtain ⟨q, h31q, hxq⟩ := I_of (x := xw) c1
      have hqb : q < 2 := (by rw [hxq] at c6; have := (nI_leI (by omega) (by omega)).mp c6; omega)
      have iw := (cs_in_n (k := 2) hqb (by omega)).1
      rw [← hxq] at iw
      refine az_iload_n dX11_chance_12 ?_
      refine az_if_lt (tgt := 22) dX11_chance_13 (fun c13 => ?_) (fun c13 => ?_)
      · refine az_bipush (v := (-3)) dX11_chance_22 ?_
        exact az_iret dX11_chance_24 (hQ3 iw (fun q9 => (by obtain ⟨e1, e2⟩ := cs_in_of q9; first | (rw [e1, show (0 : Int32) = nI 0 from rfl] at c13; exact absurd ((nI_ltI (by omega) (by omega)).mp c13) (by omega)) | (rw [e1] at c19; exact c19 ((nI_leI (by omega) (by omega)).mpr (by omega))))))
      · refine az_iload_n dX11_chance_16 ?_
        refine az_bipush (v := nI 12) dX11_chance_17 ?_
        refine az_icmp_le (tgt := 25) dX11_chance_19 (fun c19 => ?_) (fun c19 => ?_)
        · obtain ⟨n, h31n, hxn⟩ := I_of (x := xn) c13
          have hnb : n < 13 := (by rw [hxn] at c19; have := (nI_leI (by omega) (by omega)).mp c19; omega)
          rw [hxn, hxq]
          refine az_aload_n dX11_chance_25 ?_
          refine az_getf (v := .ref 46) dX11_chance_26 fl_X11_76 x1 ?_
          refine az_aload_n dX11_chance_29 ?_
          refine az_getf (v := .ref 30) dX11_chance_30 fl_X11_66 x1 ?_
          refine az_iload_n dX11_chance_33 ?_
          refine az_cV0 (st := []) dX11_chance_34 ml_X11_306 u0 (s_rowsOfNothing (d := d - 1) (u := 46) (a := 30) (t := t) (n := n) (w := (rd_w v)) (bs := bs) (by omega) hw hb (x13.to (lo := 46) (hi := 46 + 10) (fun q hq => (by have := x14.2.2.2.2.2.1 q hq; omega))) x10 (by omega) (by omega) pr u0 u4 u5 ?_)
          intro h1 wn' wx' f' g' pr' n0 n4 n5 hf hj
          have prb' := pr'.b
          have hT1 := (x13.fr hf (fun q hq => (by have := x14.2.2.2.2.2.1 q hq; omega))).town
          have hS1 := ln_Scene.fr x10 hf (by omega)
          have hny := fu_wy_le hw (ln_sb_lt (ln_str (rd_w v) bs) (k := 6) (by omega)) (i := n) (j := 0) (by omega) (by omega)
          have hp3 : ln_tb (rd_w v) ^ n ≤ 3 ^ 12 := Nat.le_trans (Nat.pow_le_pow_left hw.2.1 n) (Nat.pow_le_pow_right (by decide) (by omega))
          have hp4 : (3 : Nat) ^ 12 = 531441 := (by decide)
          have hp5 : 1 ≤ ln_tb (rd_w v) ^ n := Nat.pow_pos hw.1
          refine az_lstore_n (ls' := [(0, .ref 0), (1, .int (nI n)), (2, .int (nI q)), (3, .long (lN ((fu_wy (rd_w v) (ln_sb (ln_str (rd_w v) bs) 6) n 0))))]) dX11_chance_37 ?_
          refine az_lload_n dX11_chance_38 ?_
          refine az_aload_n dX11_chance_39 ?_
          refine az_getf (v := .ref 46) dX11_chance_40 fl_X11_76 (hf.at x1) ?_
          refine az_aload_n dX11_chance_43 ?_
          refine az_getf (v := .ref 30) dX11_chance_44 fl_X11_66 (hf.at x1) ?_
          refine az_iload_n dX11_chance_47 ?_
          refine az_cV0 (st := [.long (lN ((fu_wy (rd_w v) (ln_sb (ln_str (rd_w v) bs) 6) n 0)))]) dX11_chance_48 ml_X11_309 n0 (s_rowsInAll (d := d - 1) (u := 46) (a := 30) (t := t) (k9 := n) hw hT1 hS1 (by omega) ?_)
          refine az_iload_n dX11_chance_51 ?_
          refine az_cS0 (st := []) dX11_chance_52 ml_X11_312 (s_lowestTerm (d := d - 1) (a := (fu_wy (rd_w v) (ln_sb (ln_str (rd_w v) bs) 6) n 0)) (b := ln_tb (rd_w v) ^ n) (k9 := q) (by omega) (by omega) hp5 hqb ?_)
          refine az_l2iN dX11_chance_55 ?_
          exact az_iret dX11_chance_56 (hQ n q hxn hnb hxq hqb h1 ⟨hok, ⟨t, F, ia, kk, kt, (hf.at x1), (x2.fr hf), (x3.fr hf), (ln_PastX.fr x4 hf (by omega)), (x5.fr hf x14), (x6.fr hf), (x7.fr hf), (x8.fr hf), (x9.fr hf), (ln_Scene.fr x10 hf (by omega)), (x11.fr hf), ⟨_, _, wn', wx', fS, ff, fr9, fs, f', g', fL, n0, (hj _ (by omega) (by omega)).trans u1, (hj _ (by omega) (by omega)).trans u2, (hj _ (by omega) (by omega)).trans u3, ta.eqv (hj _ (by omega) (by omega)) (if e : kk = 46 + 5 then (by rw [e]; exact hj _ (by omega) (by omega)) else hf.2 _ (by omega)) (if e : kt = 46 + 6 then (by rw [e]; exact hj _ (by omega) (by omega)) else hf.2 _ (by omega)) (hj _ (by omega) (by omega)), pr', n4, n5, k9⟩, (x13.fr hf (fun q hq => (by have := x14.2.2.2.2.2.1 q hq; omega))), (x14.fr hf)⟩⟩ hf.cs)
        · refine az_bipush (v := (-3)) dX11_chance_22 ?_
          exact az_iret dX11_chance_24 (hQ3 iw (fun q9 => (by obtain ⟨e1, e2⟩ := cs_in_of q9; first | (rw [e1, show (0 : Int32) = nI 0 from rfl] at c13; exact absurd ((nI_ltI (by omega) (by omega)).mp c13) (by omega)) | (rw [e1] at c19; exact c19 ((nI_leI (by omega) (by omega)).mpr (by omega))))))
    · refine az_bipush (v := (-2)) dX11_chance_9 ?_
      exact az_iret dX11_chance_11 (hQ2 (fun q9 => (by obtain ⟨e1, e2⟩ := cs_in_of q9; first | (rw [e1, show (0 : Int32) = nI 0 from rfl] at c1; exact absurd ((nI_ltI (by omega) (by omega)).mp c1) (by omega)) | (rw [e1] at c6; exact c6 ((nI_leI (by omega) (by omega)).mpr (by omega))))))
set_option maxHeartbeats 4000000 in
set_option maxRecDepth 100000 in
theorem p_mean {d : Nat} {xn xw : Int32} {tp fk mo ni K : Nat} {bt : Nat → Nat} {fp : Int32} {v : rd_V} {bs : List Nat} {U : ln_U} {im : Nat → Option (rd_V × ln_Z)} {tr : Nat → Option (Nat × List Int64)} {hp : az_Hp} {Q : Option Value → az_Hp → Prop} (hd : 14 ≤ d) (hC : cs hp ((tp, bt), (fk, fp), v, (mo, ni, bs), U, im, tr) K) (hQ2 : ¬ cs_in xw 2 → Q (some (.long (-2))) hp) (hQ3 : cs_in xw 2 → ¬ cs_in xn 7 → Q (some (.long (-3))) hp) (hQ : ∀ n k, xn = nI n → n < 7 → xw = nI k → k < 2 → ∀ h', cs h' ((tp, bt), (fk, fp), v, (mo, ni, bs), U, im, tr) K → cs_f hp h' → Q (some (.long (lN ((if k = 0 then (fu_l (fu_ai (rd_w v) (fun x => (ln_str (rd_w v) bs).count x) n)) else ln_tb (rd_w v) ^ n) / Nat.gcd (fu_l (fu_ai (rd_w v) (fun x => (ln_str (rd_w v) bs).count x) n)) (ln_tb (rd_w v) ^ n))))) h') : az_M mX11_mean d 0 0 [.ref 0, .int xn, .int xw] hp Q := by
  obtain ⟨hok, t, F, ia, kk, kt, x1, x2, x3, x4, x5, x6, x7, x8, x9, x10, x11, x12, x13, x14⟩ := id hC
  have hw : ln_ok (rd_w v) := hok.2.2.1.1
  have hlaw : ln_law (rd_w v) v.2.2.2.2.2.2.2.1 v.2.2.2.2.2.2.2.2 := hok.2.2.1.2
  have hba : ln_ba (rd_w v) bs := hok.2.2.2.1
  have hb : ln_by (rd_w v) bs := hba.b
  have x4 : ln_Past hp 6 U := x4
  have x5 : cs_im hp im ia F := x5
  have x6 : cs_tr hp tr := x6
  have x10 : ln_Scene hp 30 t (rd_w v) mo ni bs := x10
  have x13 : ln_Tf hp t (rd_w v) F := x13
  have x14 : cs_ad hp im F ia kk kt := x14
  obtain ⟨hi, fr, la, no, wa, nc, g0, -⟩ := id x10
  obtain ⟨t9, tl, wn, wx, fS, ff, fr9, fs, fa, fb, fL, u0, u1, u2, u3, ta, pr, u4, u5, k9⟩ := id (show fu_U hp 46 kk kt K from x12)
  have prb := pr.b
  obtain ⟨kb1, kb2⟩ := id k9
  refine az_M.of rfl (Nat.le_of_ble_eq_true rfl) ?_
  show az_W _ _ _ _ 0 [(0, .ref 0), (1, .int xn), (2, .int xw)] [] _ _
  refine az_iload_n dX11_mean_0 ?_
  refine az_if_lt (tgt := 9) dX11_mean_1 (fun c1 => ?_) (fun c1 => ?_)
  · refine az_ldc2 (v := (-2)) dX11_mean_9 cn_X11_148 ?_
    exact az_lret dX11_mean_12 (hQ2 (fun q9 => (by obtain ⟨e1, e2⟩ := cs_in_of q9; first | (rw [e1, show (0 : Int32) = nI 0 from rfl] at c1; exact absurd ((nI_ltI (by omega) (by omega)).mp c1) (by omega)) | (rw [e1] at c6; exact c6 ((nI_leI (by omega) (by omega)).mpr (by omega))))))
  · refine az_iload_n dX11_mean_4 ?_
    refine az_iconst (v := nI 1) dX11_mean_5 ?_
    refine az_icmp_le (tgt := 13) dX11_mean_6 (fun c6 => ?_) (fun c6 => ?_)
    · obtain ⟨q, h31q, hxq⟩ := I_of (x := xw) c1
      have hqb : q < 2 := (by rw [hxq] at c6; have := (nI_leI (by omega) (by omega)).mp c6; omega)
      have iw := (cs_in_n (k := 2) hqb (by omega)).1
      rw [← hxq] at iw
      refine az_iload_n dX11_mean_13 ?_
      refine az_if_lt (tgt := 23) dX11_mean_14 (fun c14 => ?_) (fun c14 => ?_)
      · refine az_ldc2 (v := (-3)) dX11_mean_23 cn_X11_150 ?_
        exact az_lret dX11_mean_26 (hQ3 iw (fun q9 => (by obtain ⟨e1, e2⟩ := cs_in_of q9; first | (rw [e1, show (0 : Int32) = nI 0 from rfl] at c14; exact absurd ((nI_ltI (by omega) (by omega)).mp c14) (by omega)) | (rw [e1] at c20; exact c20 ((nI_leI (by omega) (by omega)).mpr (by omega))))))
      · refine az_iload_n dX11_mean_17 ?_
        refine az_bipush (v := nI 6) dX11_mean_18 ?_
        refine az_icmp_le (tgt := 27) dX11_mean_20 (fun c20 => ?_) (fun c20 => ?_)
        · obtain ⟨n, h31n, hxn⟩ := I_of (x := xn) c14
          have hnb : n < 7 := (by rw [hxn] at c20; have := (nI_leI (by omega) (by omega)).mp c20; omega)
          rw [hxn, hxq]
          refine az_aload_n dX11_mean_27 ?_
          refine az_getf (v := .ref 46) dX11_mean_28 fl_X11_76 x1 ?_
          refine az_aload_n dX11_mean_31 ?_
          refine az_getf (v := .ref 30) dX11_mean_32 fl_X11_66 x1 ?_
          refine az_iload_n dX11_mean_35 ?_
          refine az_cV0 (st := []) dX11_mean_36 ml_X11_316 u0 (s_spanOfAllRows (d := d - 1) (u := 46) (a := 30) (t := t) (n := n) (w := (rd_w v)) (bs := bs) (by omega) hw hb (x13.to (lo := 46) (hi := 46 + 4) (fun q hq => (by have := x14.2.2.2.2.2.1 q hq; omega))) x10 (by omega) (by omega) u0 u1 ?_)
          intro h1 f' n0 n1 hf
          have hT1 := (x13.fr hf (fun q hq => (by have := x14.2.2.2.2.2.1 q hq; omega))).town
          have hS1 := ln_Scene.fr x10 hf (by omega)
          have hny := fu_ai_lt hw hb (i := n) (by omega)
          have hp3 : ln_tb (rd_w v) ^ n ≤ 3 ^ 12 := Nat.le_trans (Nat.pow_le_pow_left hw.2.1 n) (Nat.pow_le_pow_right (by decide) (by omega))
          have hp4 : (3 : Nat) ^ 12 = 531441 := (by decide)
          have hp5 : 1 ≤ ln_tb (rd_w v) ^ n := Nat.pow_pos hw.1
          refine az_lstore_n (ls' := [(0, .ref 0), (1, .int (nI n)), (2, .int (nI q)), (3, .long (lN ((fu_l (fu_ai (rd_w v) (fun x => (ln_str (rd_w v) bs).count x) n)))))]) dX11_mean_39 ?_
          refine az_lload_n dX11_mean_40 ?_
          refine az_aload_n dX11_mean_41 ?_
          refine az_getf (v := .ref 46) dX11_mean_42 fl_X11_76 (hf.at x1) ?_
          refine az_aload_n dX11_mean_45 ?_
          refine az_getf (v := .ref 30) dX11_mean_46 fl_X11_66 (hf.at x1) ?_
          refine az_iload_n dX11_mean_49 ?_
          refine az_cV0 (st := [.long (lN ((fu_l (fu_ai (rd_w v) (fun x => (ln_str (rd_w v) bs).count x) n))))]) dX11_mean_50 ml_X11_309 n0 (s_rowsInAll (d := d - 1) (u := 46) (a := 30) (t := t) (k9 := n) hw hT1 hS1 (by omega) ?_)
          refine az_iload_n dX11_mean_53 ?_
          refine az_cS0 (st := []) dX11_mean_54 ml_X11_312 (s_lowestTerm (d := d - 1) (a := (fu_l (fu_ai (rd_w v) (fun x => (ln_str (rd_w v) bs).count x) n))) (b := ln_tb (rd_w v) ^ n) (k9 := q) (by omega) (by omega) hp5 hqb ?_)
          exact az_lret dX11_mean_57 (hQ n q hxn hnb hxq hqb h1 ⟨hok, ⟨t, F, ia, kk, kt, (hf.at x1), (x2.fr hf), (x3.fr hf), (ln_PastX.fr x4 hf (by omega)), (x5.fr hf x14), (x6.fr hf), (x7.fr hf), (x8.fr hf), (x9.fr hf), (ln_Scene.fr x10 hf (by omega)), (x11.fr hf), ⟨_, _, wn, wx, fS, f', fr9, fs, fa, fb, fL, n0, n1, (hf.at u2), hf.at u3, ta.eqv (hf.2 _ (by omega)) (hf.2 _ (by omega)) (hf.2 _ (by omega)) (hf.2 _ (by omega)), pr, hf.at u4, hf.at u5, k9⟩, (x13.fr hf (fun q hq => (by have := x14.2.2.2.2.2.1 q hq; omega))), (x14.fr hf)⟩⟩ hf.cs)
        · refine az_ldc2 (v := (-3)) dX11_mean_23 cn_X11_150 ?_
          exact az_lret dX11_mean_26 (hQ3 iw (fun q9 => (by obtain ⟨e1, e2⟩ := cs_in_of q9; first | (rw [e1, show (0 : Int32) = nI 0 from rfl] at c14; exact absurd ((nI_ltI (by omega) (by omega)).mp c14) (by omega)) | (rw [e1] at c20; exact c20 ((nI_leI (by omega) (by omega)).mpr (by omega))))))
    · refine az_ldc2 (v := (-2)) dX11_mean_9 cn_X11_148 ?_
      exact az_lret dX11_mean_12 (hQ2 (fun q9 => (by obtain ⟨e1, e2⟩ := cs_in_of q9; first | (rw [e1, show (0 : Int32) = nI 0 from rfl] at c1; exact absurd ((nI_ltI (by omega) (by omega)).mp c1) (by omega)) | (rw [e1] at c6; exact c6 ((nI_leI (by omega) (by omega)).mpr (by omega))))))

