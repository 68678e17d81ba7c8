/-! The model: chance -/
theorem gcd_2 {a b : Nat} {k : Nat} (hb : b < 2 ^ (k + 1)) (h : a % b ≠ 0) (hb0 : b ≠ 0) : b % (a % b) < 2 ^ k := by
  have h1 := Nat.mod_lt a (Nat.pos_of_ne_zero hb0)
  have h2 := Nat.mod_lt b (Nat.pos_of_ne_zero h)
  have h3 : b % (a % b) + a % b ≤ b := by
    have h4 := Nat.div_add_mod b (a % b)
    have h5 : 1 ≤ b / (a % b) := (Nat.one_le_div_iff (Nat.pos_of_ne_zero h)).mpr (Nat.le_of_lt h1)
    have h6 := Nat.mul_le_mul_left (a % b) h5
    omega
  rw [Nat.pow_succ] at hb
  omega
set_option maxHeartbeats 4000000 in
set_option maxRecDepth 100000 in
theorem m_common1 {d a b g : Nat} {hp : az_Hp} {Q : Option Value → az_Hp → Prop} (hd : 1 ≤ d) (ha : a < 2 ^ 63) (hb : b < 2 ^ 63) (h0 : b = 0 → a = g) (h1 : b ≠ 0 → ∀ Q' : Option Value → az_Hp → Prop, Q' (some (.long (lN g))) hp → az_M mX12_common (d - 1) 0 0 [.long (lN b), .long (lN (a % b))] hp Q') (hQ : Q (some (.long (lN g))) hp) : az_M mX12_common d 0 0 [.long (lN a), .long (lN b)] hp Q := by
  refine az_M.of rfl (Nat.le_of_ble_eq_true rfl) ?_
  show az_W _ _ _ _ 0 [(0, .long (lN a)), (2, .long (lN b))] [] _ _
  refine az_lload_n dX12_common_0 ?_
  refine az_lconst (v := lN 0) dX12_common_1 ?_
  refine az_lcmp_neN (tgt := 10) dX12_common_2 dX12_common_3 (fun c2 => ?_) (fun c2 => ?_)
  · refine az_lload_n dX12_common_10 ?_
    refine az_lload_n dX12_common_11 ?_
    refine az_lload_n dX12_common_12 ?_
    refine az_lrem dX12_common_13 (by intro q9; exact c2 ((lN_eqN (by omega) (by omega)).mp q9)) ?_
    rw [lN_mod ha hb]
    refine az_cS0 (st := []) dX12_common_14 ml_X12_475 (h1 c2 _ ?_)
    exact az_lret dX12_common_17 (by first | exact hQ | (rw [h0 c2]; exact hQ))
  · refine az_lload_n dX12_common_6 ?_
    refine az_goto (tgt := 17) dX12_common_7 ?_
    exact az_lret dX12_common_17 (by first | exact hQ | (rw [h0 c2]; exact hQ))
theorem m_common {hp : az_Hp} : ∀ (k : Nat) {d a b : Nat} {Q : Option Value → az_Hp → Prop}, 2 * k + 2 ≤ d → a < 2 ^ 63 → b < 2 ^ 63 → b < 2 ^ k → Q (some (.long (lN (Nat.gcd a b)))) hp → az_M mX12_common d 0 0 [.long (lN a), .long (lN b)] hp Q := by
  intro k
  induction k with
  | zero =>
    intro d a b Q hd ha hb hk hQ
    have hb0 : b = 0 := by omega
    exact m_common1 (g := Nat.gcd a b) (by omega) ha hb (fun _ => by rw [hb0, Nat.gcd_zero_right]) (fun h => absurd hb0 h) hQ
  | succ k ih =>
    intro d a b Q hd ha hb hk hQ
    refine m_common1 (g := Nat.gcd a b) (by omega) ha hb (fun h => by rw [h, Nat.gcd_zero_right]) (fun h Q' hQ' => ?_) hQ
    have hr := Nat.mod_lt a (Nat.pos_of_ne_zero h)
    refine m_common1 (g := Nat.gcd a b) (by omega) hb (by omega) (fun h2 => by rw [← gcd_st, h2, Nat.gcd_zero_right]) (fun h2 Q2 hQ2 => ?_) hQ'
    have hr2 := Nat.mod_lt b (Nat.pos_of_ne_zero h2)
    exact ih (by omega) (by omega) (by omega) (gcd_2 hk h2 h) (by rw [gcd_st, gcd_st]; exact hQ2)
set_option maxHeartbeats 4000000 in
set_option maxRecDepth 100000 in
theorem m_part {d a b kk k9 : Nat} {hp : az_Hp} {Q : Option Value → az_Hp → Prop} (hd : 2 * k9 + 3 ≤ d) (ha : a < 2 ^ 63) (hb : b < 2 ^ 63) (hb1 : 1 ≤ b) (hk : b < 2 ^ k9) (hk2 : kk < 2) (hQ : Q (some (.long (lN ((if kk = 0 then a else b) / Nat.gcd a b)))) hp) : az_M mX12_part d 0 0 [.long (lN a), .long (lN b), .int (nI kk)] hp Q := by
  have hg1 : 1 ≤ (Nat.gcd a b) := Nat.gcd_pos_of_pos_right _ hb1
  have hgb : (Nat.gcd a b) ≤ b := Nat.gcd_le_right _ hb1
  refine az_M.of rfl (Nat.le_of_ble_eq_true rfl) ?_
  show az_W _ _ _ _ 0 [(0, .long (lN a)), (2, .long (lN b)), (4, .int (nI kk))] [] _ _
  refine az_iload dX12_part_0 ?_
  refine az_if_neN (tgt := 9) dX12_part_2 (fun c2 => ?_) (fun c2 => ?_)
  · refine az_lload_n dX12_part_9 ?_
    refine az_lload_n dX12_part_10 ?_
    refine az_lload_n dX12_part_11 ?_
    refine az_cS0 (st := [.long (lN b)]) dX12_part_12 ml_X12_475 (m_common k9 (d := d - 1) (by omega) ha hb hk ?_)
    refine az_ldiv dX12_part_15 (by intro q9; have q8 : lN (Nat.gcd a b) = lN 0 := q9; rw [lN_eqN (by omega) (by omega)] at q8; omega) ?_
    exact az_lret dX12_part_16 (by rw [lN_div (by omega) (by omega)]; first | (rw [if_pos (by omega)] at hQ; exact hQ) | (rw [if_neg (by omega)] at hQ; exact hQ))
  · refine az_lload_n dX12_part_5 ?_
    refine az_goto (tgt := 10) dX12_part_6 ?_
    refine az_lload_n dX12_part_10 ?_
    refine az_lload_n dX12_part_11 ?_
    refine az_cS0 (st := [.long (lN a)]) dX12_part_12 ml_X12_475 (m_common k9 (d := d - 1) (by omega) ha hb hk ?_)
    refine az_ldiv dX12_part_15 (by intro q9; have q8 : lN (Nat.gcd a b) = lN 0 := q9; rw [lN_eqN (by omega) (by omega)] at q8; omega) ?_
    exact az_lret dX12_part_16 (by rw [lN_div (by omega) (by omega)]; first | (rw [if_pos (by omega)] at hQ; exact hQ) | (rw [if_neg (by omega)] at hQ; exact hQ))
set_option maxHeartbeats 4000000 in
set_option maxRecDepth 100000 in
theorem m_wholeOf {d n : Nat} {sc : Nat → Value} {A : Nat → Nat} {v : rd_V} {hp : az_Hp} {Q : Option Value → az_Hp → Prop} (h64 : hp.2 64 = some (mo_o sc)) (h65 : hp.2 65 = some (az_I 3318 (fun j => nI (A j)))) (hV : mV A v) (hn : n ≤ 12) (hw : ln_ok (rd_w v)) (hQ : Q (some (.long (lN (ln_tb (rd_w v) ^ n)))) hp) : az_M mX12_wholeOf d 0 0 [.ref 64, .int (nI n)] hp Q := by
  have ht3 := hw.2.1
  have hA1 : A 1 = ln_tb (rd_w v) := hV.2.1
  have loop : ∀ (k : Nat) (i : Nat), n - i = k → (i ≤ n) → az_W mX12_wholeOf d 0 0 5 [(0, .ref 64), (1, .int (nI n)), (2, .long (lN (ln_tb (rd_w v) ^ i))), (4, .int (nI i))] [] hp Q := by
    intro k
    induction k using Nat.strongRecOn with
    | _ k ih =>
    intro i hk hi
    refine az_iload dX12_wholeOf_5 ?_
    refine az_iload_n dX12_wholeOf_7 ?_
    refine az_icmp_geN (tgt := 27) dX12_wholeOf_8 (fun c8 => ?_) (fun c8 => ?_)
    · refine az_lload_n dX12_wholeOf_27 ?_
      exact az_lret dX12_wholeOf_28 (by obtain rfl : i = n := (by omega); exact hQ)
    · refine az_lload_n dX12_wholeOf_11 ?_
      refine az_aload_n dX12_wholeOf_12 ?_
      refine az_getf (v := .ref 65) dX12_wholeOf_13 fl_X12_13 h64 ?_
      refine az_iconst (v := nI 1) dX12_wholeOf_16 ?_
      refine az_ialdN (j := 1) dX12_wholeOf_17 h65 ?_
      rw [hA1]
      refine az_i2lN dX12_wholeOf_18 ?_
      refine az_lmulN dX12_wholeOf_19 ?_
      rw [← Nat.pow_succ]
      refine az_lstore_n (ls' := [(0, .ref 64), (1, .int (nI n)), (2, .long (lN (ln_tb (rd_w v) ^ (i + 1)))), (4, .int (nI i))]) dX12_wholeOf_20 ?_
      refine az_iincN (n := 1) (ls' := [(0, .ref 64), (1, .int (nI n)), (2, .long (lN (ln_tb (rd_w v) ^ (i + 1)))), (4, .int (nI (i + 1)))]) dX12_wholeOf_21 ?_
      refine az_goto (tgt := 5) dX12_wholeOf_24 ?_
      exact ih _ (by omega) (i + 1) rfl (by omega)
  refine az_M.of rfl (Nat.le_of_ble_eq_true rfl) ?_
  show az_W _ _ _ _ 0 [(0, .ref 64), (1, .int (nI n))] [] _ _
  refine az_lconst (v := lN 1) dX12_wholeOf_0 ?_
  refine az_lstore_n (ls' := [(0, .ref 64), (1, .int (nI n)), (2, .long (lN 1))]) dX12_wholeOf_1 ?_
  refine az_iconst (v := nI 0) dX12_wholeOf_2 ?_
  refine az_istore (ls' := [(0, .ref 64), (1, .int (nI n)), (2, .long (lN 1)), (4, .int (nI 0))]) dX12_wholeOf_3 ?_
  exact loop _ 0 rfl (Nat.zero_le _)

set_option maxHeartbeats 4000000 in
set_option maxRecDepth 100000 in
theorem m_chanceW {sc : Nat → Value} {A : Nat → Nat} {v : rd_V} {d n kk mo ni : Nat} {bs : List Nat} {gm : Nat → Nat} {hp : az_Hp} {Q : Option Value → az_Hp → Prop} (hd : 60 ≤ d) (hw : ln_ok (rd_w v)) (hb : ln_by (rd_w v) bs) (hV : mV A v) (hn : n ≤ 12) (hk2 : kk < 2) (h64 : hp.2 64 = some (mo_o sc)) (h65 : hp.2 65 = some (az_I 3318 (fun j => nI (A j)))) (h81 : hp.2 81 = some (az_J 84 (fun j => lN (gm j)))) (hgm : ∀ c, c < 6 → gm c = (ln_str (rd_w v) bs).count c) (hkm : mk hp) (hQ : ∀ h', mf hp h' [86, 87] → mk h' → Q (some (.int (nI ((if kk = 0 then fu_wy (rd_w v) (ln_sb (ln_str (rd_w v) bs) 6) n 0 else ln_tb (rd_w v) ^ n) / Nat.gcd (fu_wy (rd_w v) (ln_sb (ln_str (rd_w v) bs) 6) n 0) (ln_tb (rd_w v) ^ n))))) h') : az_W mX12_chance d 0 0 37 [(0, .ref 64), (1, .int (nI n)), (2, .int (nI kk))] [] hp Q := by
  have ht3 := hw.2.1
  have ht1 := hw.1
  have hA1 : A 1 = ln_tb (rd_w v) := hV.2.1
  have hs0 : (ln_sb (ln_str (rd_w v) bs) 6) < 64 := ln_sb_lt _ (by decide)
  have hl62 : (ln_str (rd_w v) bs).length < 2 ^ 62 := Nat.lt_of_le_of_lt hb.2.2 (by decide)
  have hTn : ln_tb (rd_w v) ^ n ≤ 3 ^ 12 := Nat.le_trans (Nat.pow_le_pow_left ht3 n) (Nat.pow_le_pow_right (by decide) hn)
  have hT1 : 1 ≤ ln_tb (rd_w v) ^ n := Nat.one_le_pow _ _ ht1
  have hp312 : 3 ^ 12 = 531441 := rfl
  obtain ⟨f86, c86⟩ := hkm.J (q := 86) (n := 64)
  obtain ⟨f87, c87⟩ := hkm.J (q := 87) (n := 64)
  obtain ⟨g86, rfl⟩ := lN_ex f86
  obtain ⟨g87, rfl⟩ := lN_ex f87
  have loopC : ∀ (k : Nat) (i : Nat) (lk : Nat → Nat) (h' : az_Hp) (i3 : Nat) (lt : Nat → Nat) (h0 : az_Hp) (e0 : h0.2 64 = some (mo_o sc)) (e87 : h0.2 87 = some (az_J 64 (fun j => lN (lt j)))) (hK : ∀ lk2 : Nat → Nat, (∀ j, j < 64 → lk2 j = lt j) → ∀ i2 : Nat, az_W mX12_chance d 0 0 190 [(0, .ref 64), (1, .int (nI n)), (2, .int (nI kk)), (3, .int (nI i3)), (4, .int (nI i2))] [] (az_up h0 86 (az_J 64 (fun j => lN (lk2 j)))) Q), 64 - i = k → (i ≤ 64) → (∀ j, j < i → lk j = lt j) → (h' = az_up h0 86 (az_J 64 (fun j => lN (lk j)))) → az_W mX12_chance d 0 0 163 [(0, .ref 64), (1, .int (nI n)), (2, .int (nI kk)), (3, .int (nI i3)), (4, .int (nI i))] [] h' Q := by
    intro k
    induction k using Nat.strongRecOn with
    | _ k ih =>
    intro i lk h' i3 lt h0 e0 e87 hK hk hi hF he
    refine az_iload dX12_chance_163 ?_
    refine az_bipush (v := nI 64) dX12_chance_165 ?_
    refine az_icmp_geN (tgt := 190) dX12_chance_167 (fun c167 => ?_) (fun c167 => ?_)
    · exact (by have := hK lk (fun j hj => hF j (by omega)) i; rw [← he] at this; exact this)
    · refine az_aload_n dX12_chance_170 ?_
      refine az_getf (v := .ref 86) dX12_chance_171 fl_X12_82 (by rw [he]; exact az_up_ne e0) ?_
      refine az_iload dX12_chance_174 ?_
      refine az_aload_n dX12_chance_176 ?_
      refine az_getf (v := .ref 87) dX12_chance_177 fl_X12_85 (by rw [he]; exact az_up_ne e0) ?_
      refine az_iload dX12_chance_180 ?_
      refine az_laldN (j := i) dX12_chance_182 (by rw [he]; exact az_up_ne e87) ?_
      refine az_lastN (j := i) dX12_chance_183 (by rw [he]; exact az_up_eq) ?_
      rw [az_s_lN]
      refine az_iincN (n := 1) (ls' := [(0, .ref 64), (1, .int (nI n)), (2, .int (nI kk)), (3, .int (nI i3)), (4, .int (nI (i + 1)))]) dX12_chance_184 ?_
      refine az_goto (tgt := 163) dX12_chance_187 ?_
      exact ih _ (by omega) (i + 1) (az_s lk i (lt i)) _ i3 lt h0 e0 e87 hK rfl (by omega) (fun j hj => (by by_cases e : j = i; rw [e, az_s_eq]; rw [az_s_ne e]; exact hF j (by omega))) (by rw [he, az_up_up])
  have loopB : ∀ (k : Nat) (ks tb : Nat) (lt : Nat → Nat) (h' : az_Hp) (i3 : Nat) (lk : Nat → Nat) (h0 : az_Hp) (e0 : h0.2 64 = some (mo_o sc)) (e65 : h0.2 65 = some (az_I 3318 (fun j => nI (A j)))) (e86 : h0.2 86 = some (az_J 64 (fun j => lN (lk j)))) (hK : ∀ lt2 : Nat → Nat, (∀ j, j < 64 → lt2 j = sm (fun ks => fu_ws (rd_w v) ks (lk ks) j (ln_tb (rd_w v))) 64) → ∀ i4 i5 : Nat, az_W mX12_chance d 0 0 160 [(0, .ref 64), (1, .int (nI n)), (2, .int (nI kk)), (3, .int (nI i3)), (4, .int (nI i4)), (5, .int (nI i5))] [] (az_up h0 87 (az_J 64 (fun j => lN (lt2 j)))) Q), (64 - ks) * 10 + (4 - tb) = k → (ks < 64) → (tb ≤ ln_tb (rd_w v)) → (∀ j, j < 64 → lt j = sm (fun ks => fu_ws (rd_w v) ks (lk ks) j (ln_tb (rd_w v))) ks + fu_ws (rd_w v) ks (lk ks) j tb) → (h' = az_up h0 87 (az_J 64 (fun j => lN (lt j)))) → az_W mX12_chance d 0 0 114 [(0, .ref 64), (1, .int (nI n)), (2, .int (nI kk)), (3, .int (nI i3)), (4, .int (nI ks)), (5, .int (nI tb))] [] h' Q := by
    intro k
    induction k using Nat.strongRecOn with
    | _ k ih =>
    intro ks tb lt h' i3 lk h0 e0 e65 e86 hK hk hks htb hF he
    have b64 : h'.2 64 = some (mo_o sc) := (by rw [he]; exact az_up_ne e0)
    have b65 : h'.2 65 = some (az_I 3318 (fun j => nI (A j))) := (by rw [he]; exact az_up_ne e65)
    refine az_iload dX12_chance_114 ?_
    refine az_aload_n dX12_chance_116 ?_
    refine az_getf (v := .ref 65) dX12_chance_117 fl_X12_13 b64 ?_
    refine az_iconst (v := nI 1) dX12_chance_120 ?_
    refine az_ialdN (j := 1) dX12_chance_121 b65 ?_
    rw [hA1]
    refine az_icmp_geN (tgt := 154) dX12_chance_122 (fun c122 => ?_) (fun c122 => ?_)
    · refine az_iincN (n := 1) (ls' := [(0, .ref 64), (1, .int (nI n)), (2, .int (nI kk)), (3, .int (nI i3)), (4, .int (nI (ks + 1))), (5, .int (nI tb))]) dX12_chance_154 ?_
      refine az_goto (tgt := 104) dX12_chance_157 ?_
      refine az_iload dX12_chance_104 ?_
      refine az_bipush (v := nI 64) dX12_chance_106 ?_
      refine az_icmp_geN (tgt := 160) dX12_chance_108 (fun c108 => ?_) (fun c108 => ?_)
      · exact (by have := hK lt (fun j hj => (by rw [hF j hj, show tb = ln_tb (rd_w v) by omega, show 64 = ks + 1 by omega]; rfl)) (ks + 1) tb; rw [← he] at this; exact this)
      · refine az_iconst (v := nI 0) dX12_chance_111 ?_
        refine az_istore (ls' := [(0, .ref 64), (1, .int (nI n)), (2, .int (nI kk)), (3, .int (nI i3)), (4, .int (nI (ks + 1))), (5, .int (nI 0))]) dX12_chance_112 ?_
        first | exact ih _ (by omega) ks (tb + 1) (az_s lt (ln_ca (rd_w v) tb ks 6) (lt (ln_ca (rd_w v) tb ks 6) + lk ks)) _ i3 lk h0 e0 e65 e86 hK rfl hks (by omega) (fun j hj => (by rw [fu_ws_s]; by_cases e : j = ln_ca (rd_w v) tb ks 6; rw [e, az_s_eq, if_pos rfl, hF _ (by omega), Nat.add_assoc]; rw [az_s_ne e, if_neg (fun q => e q.symm), Nat.add_zero]; exact hF j hj)) (by rw [he, az_up_up]) | exact ih _ (by omega) (ks + 1) 0 lt h' i3 lk h0 e0 e65 e86 hK rfl (by omega) (Nat.zero_le _) (fun j hj => (by rw [hF j hj, show tb = ln_tb (rd_w v) by omega]; rfl)) he
    · refine az_aload_n dX12_chance_125 ?_
      refine az_getf (v := .ref 87) dX12_chance_126 fl_X12_85 b64 ?_
      refine az_aload_n dX12_chance_129 ?_
      refine az_iload dX12_chance_130 ?_
      refine az_iload dX12_chance_132 ?_
      refine az_cV0 (st := [.ref 87]) dX12_chance_134 ml_X12_431 b64 (m_kindsTo (d := d - 1) (v := v) (s := ks) (tb := tb) (by omega) hw b64 b65 hV (by omega) hks ?_)
      have hca := ln_ca_lt hw tb ks 6
      refine az_dup2_11 dX12_chance_137 ?_
      refine az_laldN (j := ln_ca (rd_w v) tb ks 6) dX12_chance_138 (by rw [he]; exact az_up_eq) ?_
      refine az_aload_n dX12_chance_139 ?_
      refine az_getf (v := .ref 86) dX12_chance_140 fl_X12_82 b64 ?_
      refine az_iload dX12_chance_143 ?_
      refine az_laldN (j := ks) dX12_chance_145 (by rw [he]; exact az_up_ne e86) ?_
      refine az_laddN dX12_chance_146 ?_
      refine az_lastN (j := ln_ca (rd_w v) tb ks 6) dX12_chance_147 (by rw [he]; exact az_up_eq) ?_
      rw [az_s_lN]
      refine az_iincN (n := 1) (ls' := [(0, .ref 64), (1, .int (nI n)), (2, .int (nI kk)), (3, .int (nI i3)), (4, .int (nI ks)), (5, .int (nI (tb + 1)))]) dX12_chance_148 ?_
      refine az_goto (tgt := 114) dX12_chance_151 ?_
      first | exact ih _ (by omega) ks (tb + 1) (az_s lt (ln_ca (rd_w v) tb ks 6) (lt (ln_ca (rd_w v) tb ks 6) + lk ks)) _ i3 lk h0 e0 e65 e86 hK rfl hks (by omega) (fun j hj => (by rw [fu_ws_s]; by_cases e : j = ln_ca (rd_w v) tb ks 6; rw [e, az_s_eq, if_pos rfl, hF _ (by omega), Nat.add_assoc]; rw [az_s_ne e, if_neg (fun q => e q.symm), Nat.add_zero]; exact hF j hj)) (by rw [he, az_up_up]) | exact ih _ (by omega) (ks + 1) 0 lt h' i3 lk h0 e0 e65 e86 hK rfl (by omega) (Nat.zero_le _) (fun j hj => (by rw [hF j hj, show tb = ln_tb (rd_w v) by omega]; rfl)) he
  have loopA : ∀ (k : Nat) (i : Nat) (lt : Nat → Nat) (h' : az_Hp) (i3 : Nat) (h0 : az_Hp) (e0 : h0.2 64 = some (mo_o sc)) (hK : ∀ lt2 : Nat → Nat, (∀ j, j < 64 → lt2 j = 0) → ∀ i4 : Nat, az_W mX12_chance d 0 0 101 [(0, .ref 64), (1, .int (nI n)), (2, .int (nI kk)), (3, .int (nI i3)), (4, .int (nI i4))] [] (az_up h0 87 (az_J 64 (fun j => lN (lt2 j)))) Q), 64 - i = k → (i ≤ 64) → (∀ j, j < i → lt j = 0) → (h' = az_up h0 87 (az_J 64 (fun j => lN (lt j)))) → az_W mX12_chance d 0 0 80 [(0, .ref 64), (1, .int (nI n)), (2, .int (nI kk)), (3, .int (nI i3)), (4, .int (nI i))] [] h' Q := by
    intro k
    induction k using Nat.strongRecOn with
    | _ k ih =>
    intro i lt h' i3 h0 e0 hK hk hi hF he
    refine az_iload dX12_chance_80 ?_
    refine az_bipush (v := nI 64) dX12_chance_82 ?_
    refine az_icmp_geN (tgt := 101) dX12_chance_84 (fun c84 => ?_) (fun c84 => ?_)
    · exact (by have := hK lt (fun j hj => hF j (by omega)) i; rw [← he] at this; exact this)
    · refine az_aload_n dX12_chance_87 ?_
      refine az_getf (v := .ref 87) dX12_chance_88 fl_X12_85 (by rw [he]; exact az_up_ne e0) ?_
      refine az_iload dX12_chance_91 ?_
      refine az_lconst (v := lN 0) dX12_chance_93 ?_
      refine az_lastN (j := i) dX12_chance_94 (by rw [he]; exact az_up_eq) ?_
      rw [az_s_lN]
      refine az_iincN (n := 1) (ls' := [(0, .ref 64), (1, .int (nI n)), (2, .int (nI kk)), (3, .int (nI i3)), (4, .int (nI (i + 1)))]) dX12_chance_95 ?_
      refine az_goto (tgt := 80) dX12_chance_98 ?_
      exact ih _ (by omega) (i + 1) (az_s lt i 0) _ i3 h0 e0 hK rfl (by omega) (fun j hj => (by by_cases e : j = i; rw [e, az_s_eq]; rw [az_s_ne e]; exact hF j (by omega))) (by rw [he, az_up_up])
  have loopN : ∀ (k : Nat) (i3 : Nat) (lk lt : Nat → Nat) (h' : az_Hp), n - i3 = k → (i3 ≤ n) → (h'.2 86 = some (az_J 64 (fun j => lN (lk j)))) → (h'.2 87 = some (az_J 64 (fun j => lN (lt j)))) → (∀ j, j < 64 → lk j = fu_wy (rd_w v) (ln_sb (ln_str (rd_w v) bs) 6) i3 j) → (mf hp h' [86, 87]) → (mk h') → az_W mX12_chance d 0 0 72 [(0, .ref 64), (1, .int (nI n)), (2, .int (nI kk)), (3, .int (nI i3))] [] h' Q := by
    intro k
    induction k using Nat.strongRecOn with
    | _ k ih =>
    intro i3 lk lt h' hk hi3 b86 b87 hF mf1 mk1'
    have b64 : h'.2 64 = some (mo_o sc) := mf1.at h64
    have b65 : h'.2 65 = some (az_I 3318 (fun j => nI (A j))) := mf1.at h65
    refine az_iload_n dX12_chance_72 ?_
    refine az_iload_n dX12_chance_73 ?_
    refine az_icmp_geN (tgt := 196) dX12_chance_74 (fun c74 => ?_) (fun c74 => ?_)
    · refine az_aload_n dX12_chance_196 ?_
      refine az_getf (v := .ref 86) dX12_chance_197 fl_X12_82 b64 ?_
      refine az_iconst (v := nI 0) dX12_chance_200 ?_
      refine az_laldN (j := 0) dX12_chance_201 b86 ?_
      rw [hF 0 (by decide), show i3 = n by omega]
      have hw31 := fu_wy_le hw hs0 (i := n) (show 0 < 64 by decide) hn
      refine az_aload_n dX12_chance_202 ?_
      refine az_iload_n dX12_chance_203 ?_
      refine az_cV0 (st := [.long (lN (fu_wy (rd_w v) (ln_sb (ln_str (rd_w v) bs) 6) n 0))]) dX12_chance_204 ml_X12_480 b64 (m_wholeOf (d := d - 1) b64 b65 hV hn hw ?_)
      refine az_iload_n dX12_chance_207 ?_
      refine az_cS0 (st := []) dX12_chance_208 ml_X12_483 (m_part (d := d - 1) (k9 := 20) (a := fu_wy (rd_w v) (ln_sb (ln_str (rd_w v) bs) 6) n 0) (b := ln_tb (rd_w v) ^ n) (by omega) (by omega) (by omega) hT1 (by omega) hk2 ?_)
      refine az_l2iN dX12_chance_211 ?_
      exact az_iret dX12_chance_212 (hQ h' mf1 mk1')
    · refine az_iconst (v := nI 0) dX12_chance_77 ?_
      refine az_istore (ls' := [(0, .ref 64), (1, .int (nI n)), (2, .int (nI kk)), (3, .int (nI i3)), (4, .int (nI 0))]) dX12_chance_78 ?_
      refine loopA _ 0 lt h' i3 h' b64 (fun lt2 z2 i4 => ?_) rfl (Nat.zero_le _) (fun j hj => absurd hj (by omega)) (az_up_same b87).symm
      refine az_iconst (v := nI 0) dX12_chance_101 ?_
      refine az_istore (ls' := [(0, .ref 64), (1, .int (nI n)), (2, .int (nI kk)), (3, .int (nI i3)), (4, .int (nI 0))]) dX12_chance_102 ?_
      refine az_iload dX12_chance_104 ?_
      refine az_bipush (v := nI 64) dX12_chance_106 ?_
      refine az_icmp_geN (tgt := 160) dX12_chance_108 (fun c108 => ?_) (fun c108 => ?_)
      · exact absurd c108 (by decide)
      · refine az_iconst (v := nI 0) dX12_chance_111 ?_
        refine az_istore (ls' := [(0, .ref 64), (1, .int (nI n)), (2, .int (nI kk)), (3, .int (nI i3)), (4, .int (nI 0)), (5, .int (nI 0))]) dX12_chance_112 ?_
        refine loopB _ 0 0 lt2 _ i3 lk _ (az_up_ne b64) (az_up_ne b65) (az_up_ne b86) (fun lt3 z3 i4 i5 => ?_) rfl (by decide) (Nat.zero_le _) (fun j hj => (by rw [z2 j hj]; rfl)) (az_up_same az_up_eq).symm
        rw [az_up_up]
        refine az_iconst (v := nI 0) dX12_chance_160 ?_
        refine az_istore (ls' := [(0, .ref 64), (1, .int (nI n)), (2, .int (nI kk)), (3, .int (nI i3)), (4, .int (nI 0)), (5, .int (nI i5))]) dX12_chance_161 ?_
        refine az_W.keep (ls' := [(0, .ref 64), (1, .int (nI n)), (2, .int (nI kk)), (3, .int (nI i3)), (4, .int (nI 0))]) [0, 1, 2, 3, 4] rfl ?_
        refine loopC _ 0 lk _ i3 lt3 _ (az_up_ne b64) az_up_eq (fun lk2 z4 i4 => ?_) rfl (Nat.zero_le _) (fun j hj => absurd hj (by omega)) (az_up_same (az_up_ne b86)).symm
        refine az_iincN (n := 1) (ls' := [(0, .ref 64), (1, .int (nI n)), (2, .int (nI kk)), (3, .int (nI (i3 + 1))), (4, .int (nI i4))]) dX12_chance_190 ?_
        refine az_goto (tgt := 72) dX12_chance_193 ?_
        refine az_W.keep (ls' := [(0, .ref 64), (1, .int (nI n)), (2, .int (nI kk)), (3, .int (nI (i3 + 1)))]) [0, 1, 2, 3] rfl ?_
        exact ih _ (by omega) (i3 + 1) lk2 lt3 _ rfl (by omega) az_up_eq (az_up_ne az_up_eq) (fun j hj => (by rw [z4 j hj, z3 j hj]; exact (sm_congr (fun ks hks => (by rw [hF ks hks]))))) ((mf1.up (by decide)).up (by decide)) (mk.uJ (mk.uJ mk1' rfl) rfl)
  have loop1 : ∀ (k : Nat) (i : Nat) (lk : Nat → Nat) (h' : az_Hp), 64 - i = k → (i ≤ 64) → (∀ j, j < i → lk j = fu_wy (rd_w v) (ln_sb (ln_str (rd_w v) bs) 6) 0 j) → (h' = az_up hp 86 (az_J 64 (fun j => lN (lk j)))) → az_W mX12_chance d 0 0 39 [(0, .ref 64), (1, .int (nI n)), (2, .int (nI kk)), (3, .int (nI i))] [] h' Q := by
    intro k
    induction k using Nat.strongRecOn with
    | _ k ih =>
    intro i lk h' hk hi hF he
    have b64 : h'.2 64 = some (mo_o sc) := (by rw [he]; exact az_up_ne h64)
    have b81 : h'.2 81 = some (az_J 84 (fun j => lN (gm j))) := (by rw [he]; exact az_up_ne h81)
    refine az_iload_n dX12_chance_39 ?_
    refine az_bipush (v := nI 64) dX12_chance_40 ?_
    refine az_icmp_geN (tgt := 70) dX12_chance_42 (fun c42 => ?_) (fun c42 => ?_)
    · refine az_iconst (v := nI 0) dX12_chance_70 ?_
      refine az_istore_n (ls' := [(0, .ref 64), (1, .int (nI n)), (2, .int (nI kk)), (3, .int (nI 0))]) dX12_chance_71 ?_
      exact loopN _ 0 lk g87 h' rfl (Nat.zero_le _) (by rw [he]; exact az_up_eq) (by rw [he]; exact az_up_ne c87) (fun j hj => hF j (by omega)) (by rw [he]; exact mf.rf.up (by decide)) (by rw [he]; exact mk.uJ hkm rfl)
    · refine az_aload_n dX12_chance_45 ?_
      refine az_getf (v := .ref 86) dX12_chance_46 fl_X12_82 b64 ?_
      refine az_iload_n dX12_chance_49 ?_
      refine az_iload_n dX12_chance_50 ?_
      refine az_aload_n dX12_chance_51 ?_
      refine az_cV0 (st := [.int (nI i), .int (nI i), .ref 86]) dX12_chance_52 ml_X12_428 b64 (m_kindsIn (d := d - 1) (l9 := (ln_str (rd_w v) bs)) b64 b81 hgm hl62 ?_)
      refine az_icmp_neN (tgt := 62) dX12_chance_55 (fun c55 => ?_) (fun c55 => ?_)
      · refine az_lconst (v := lN 0) dX12_chance_62 ?_
        refine az_lastN (j := i) dX12_chance_63 (by rw [he]; exact az_up_eq) ?_
        rw [az_s_lN]
        refine az_iincN (n := 1) (ls' := [(0, .ref 64), (1, .int (nI n)), (2, .int (nI kk)), (3, .int (nI (i + 1)))]) dX12_chance_64 ?_
        refine az_goto (tgt := 39) dX12_chance_67 ?_
        first | exact ih _ (by omega) (i + 1) (az_s lk i 1) _ rfl (by omega) (fun j hj => (by by_cases e : j = i; rw [e, az_s_eq]; exact (if_pos (by omega)).symm; rw [az_s_ne e]; exact hF j (by omega))) (by rw [he, az_up_up]) | exact ih _ (by omega) (i + 1) (az_s lk i 0) _ rfl (by omega) (fun j hj => (by by_cases e : j = i; rw [e, az_s_eq]; exact (if_neg (by omega)).symm; rw [az_s_ne e]; exact hF j (by omega))) (by rw [he, az_up_up])
      · refine az_lconst (v := lN 1) dX12_chance_58 ?_
        refine az_goto (tgt := 63) dX12_chance_59 ?_
        refine az_lastN (j := i) dX12_chance_63 (by rw [he]; exact az_up_eq) ?_
        rw [az_s_lN]
        refine az_iincN (n := 1) (ls' := [(0, .ref 64), (1, .int (nI n)), (2, .int (nI kk)), (3, .int (nI (i + 1)))]) dX12_chance_64 ?_
        refine az_goto (tgt := 39) dX12_chance_67 ?_
        first | exact ih _ (by omega) (i + 1) (az_s lk i 1) _ rfl (by omega) (fun j hj => (by by_cases e : j = i; rw [e, az_s_eq]; exact (if_pos (by omega)).symm; rw [az_s_ne e]; exact hF j (by omega))) (by rw [he, az_up_up]) | exact ih _ (by omega) (i + 1) (az_s lk i 0) _ rfl (by omega) (fun j hj => (by by_cases e : j = i; rw [e, az_s_eq]; exact (if_neg (by omega)).symm; rw [az_s_ne e]; exact hF j (by omega))) (by rw [he, az_up_up])
  refine az_iconst (v := nI 0) dX12_chance_37 ?_
  refine az_istore_n (ls' := [(0, .ref 64), (1, .int (nI n)), (2, .int (nI kk)), (3, .int (nI 0))]) dX12_chance_38 ?_
  exact loop1 _ 0 g86 hp rfl (Nat.zero_le _) (fun j hj => absurd hj (by omega)) (az_up_same c86).symm
set_option maxHeartbeats 4000000 in
set_option maxRecDepth 100000 in
theorem q_chance {d : Nat} {xn xw : Int32} {tp fk mo ni : Nat} {bt : Nat → Nat} {fp : Int32} {v : rd_V} {bs : List Nat} {U : ln_U} {im : Nat → Option (rd_V × ln_Z)} {tr : Nat → Option (Nat × List Int64)} {hp : az_Hp} {Q : Option Value → az_Hp → Prop} (hd : 64 ≤ d) (hok : cs_ok ((tp, bt), (fk, fp), v, (mo, ni, bs), U, im, tr)) (hM : mm hp ((tp, bt), (fk, fp), v, (mo, ni, bs), U, im, tr)) (hQ2 : ¬ cs_in xw 2 → ∀ h', mm h' ((tp, bt), (fk, fp), v, (mo, ni, bs), U, im, tr) → az_fr hp h' 64 93 → Q (some (.int (-2))) h') (hQ3 : cs_in xw 2 → ¬ cs_in xn 13 → ∀ h', mm h' ((tp, bt), (fk, fp), v, (mo, ni, bs), U, im, tr) → az_fr hp h' 64 93 → Q (some (.int (-3))) h') (hQ : ∀ n k, xn = nI n → n < 13 → xw = nI k → k < 2 → ∀ h', mm h' ((tp, bt), (fk, fp), v, (mo, ni, bs), U, im, tr) → az_fr hp h' 64 93 → Q (some (.int (nI ((if k = 0 then (fu_wy (rd_w v) (ln_sb (ln_str (rd_w v) bs) 6) n 0) else ln_tb (rd_w v) ^ n) / Nat.gcd (fu_wy (rd_w v) (ln_sb (ln_str (rd_w v) bs) 6) n 0) (ln_tb (rd_w v) ^ n))))) h') : az_M mX12_chance d 0 0 [.ref 64, .int xn, .int xw] hp Q := by
  obtain ⟨sc0, A0, tf0, hI0, rs0, rm0, nu0, o1, o2, -⟩ := id hM
  have hgd : rd_good v := hok.2.2.1
  have hw : ln_ok (rd_w v) := hgd.1
  have hba : ln_ba (rd_w v) bs := hok.2.2.2.1
  have hb : ln_by (rd_w v) bs := hba.b
  have hlen := hb.2.2
  have h60 := hb.1
  have hU10 : U.length ≤ 10 := hok.2.2.2.2.1
  have ht1 := hw.1
  have ht3 := hw.2.1
  refine az_M.of rfl (Nat.le_of_ble_eq_true rfl) ?_
  show az_W _ _ _ _ 0 [(0, .ref 64), (1, .int xn), (2, .int xw)] [] _ _
  refine az_aload_n dX12_chance_0 ?_
  refine az_iconst (v := nI 0) dX12_chance_1 ?_
  refine az_putf (fs' := [.int (nI 0), .ref 65, .ref 66, .ref 67, .ref 68, sc0 5, fI (sc0 6), sc0 7, sc0 8, fI (sc0 9), fI (sc0 10), sc0 11, fI (sc0 12), sc0 13, sc0 14, .ref 69, .ref 70, .ref 71, sc0 18, .ref 72, .ref 73, .ref 74, sc0 22, sc0 23, .ref 75, sc0 25, .ref 76, .ref 77, .ref 78, sc0 29, .ref 79, .ref 80, .ref 81, .ref 82, .ref 83, .ref 84, .ref 85, sc0 37, .ref 86, .ref 87, .ref 88, .ref 89, .ref 90, .ref 91, .ref 92]) dX12_chance_2 fl_X12_1 o1 ?_
  obtain ⟨h1, hf1, hM1, hh1⟩ : ∃ h1, az_fr hp h1 64 93 ∧ mm h1 ((tp, bt), (fk, fp), v, (mo, ni, bs), U, im, tr) ∧ h1 = az_up hp 64 (mo_o (su sc0 0 (.int (nI 0)))) := ⟨_, az_fr.rf.up, hM.O (sc := su sc0 0 (.int (nI 0))) o2.1 o2.2.1 o2.2.2, rfl⟩
  rw [show (az_up hp 64 (az_O 11 [.int (nI 0), .ref 65, .ref 66, .ref 67, .ref 68, sc0 5, fI (sc0 6), sc0 7, sc0 8, fI (sc0 9), fI (sc0 10), sc0 11, fI (sc0 12), sc0 13, sc0 14, .ref 69, .ref 70, .ref 71, sc0 18, .ref 72, .ref 73, .ref 74, sc0 22, sc0 23, .ref 75, sc0 25, .ref 76, .ref 77, .ref 78, sc0 29, .ref 79, .ref 80, .ref 81, .ref 82, .ref 83, .ref 84, .ref 85, sc0 37, .ref 86, .ref 87, .ref 88, .ref 89, .ref 90, .ref 91, .ref 92])) = h1 from hh1.symm]
  obtain ⟨sc, A, tf, hI, rs, rm, nu, a1, a2, a3, a4, a5, a6, a7, a8, a9, a10, a11, a12, a13, a14⟩ := id hM1
  have a4 : mT A v (mo, ni, bs) := a4
  have a5 : mU A U := a5
  have a7 : mI A hI im := a7
  have a9 : ∀ j, j < tp → tf j = bt j := a9
  have a13 : mR rs rm nu tr := a13
  refine az_iload_n dX12_chance_5 ?_
  refine az_i2l dX12_chance_6 ?_
  refine az_lconst (v := lN 0) dX12_chance_7 ?_
  refine az_lconst (v := lN 1) dX12_chance_8 ?_
  refine az_cS0 (st := []) dX12_chance_9 ml_X12_169 (m_withinI (d := d - 1) (lo := 0) (hi := 1) (by decide) (by decide) ?_ ?_)
  · intro kk hxw hk0 hk1
    refine az_if_neN (tgt := 18) dX12_chance_12 (fun c12 => ?_) (fun c12 => ?_)
    · refine az_iload_n dX12_chance_18 ?_
      refine az_i2l dX12_chance_19 ?_
      refine az_lconst (v := lN 0) dX12_chance_20 ?_
      refine az_ldc2 (v := lN 12) dX12_chance_21 cn_X12_478 ?_
      refine az_cS0 (st := []) dX12_chance_24 ml_X12_169 (m_withinI (d := d - 1) (lo := 0) (hi := 12) (by decide) (by decide) ?_ ?_)
      · intro n hxn hn0 hn12
        refine az_if_neN (tgt := 33) dX12_chance_27 (fun c27 => ?_) (fun c27 => ?_)
        · subst hxw
          subst hxn
          refine az_aload_n dX12_chance_33 ?_
          refine az_cV0 (st := []) dX12_chance_34 ml_X12_424 a1 (m_laysMany (d := d - 1) (by omega) hw hb a1 a3 a4 a14 ?_)
          intro h2 gm c81 hgm mk2 mf2
          exact m_chanceW (mo := mo) (ni := ni) (by omega) hw hb a4.1 hn12 (by omega) (mf2.at a1) (mf2.at a3) c81 hgm mk2 (fun h3 m3 k3 => hQ n kk rfl (by omega) rfl (by omega) h3 (hM1.of (L := [71, 81, 86, 87]) ((mf2.wk (L' := [71, 81, 86, 87])).tr m3 (by decide)) (by decide) k3 (m3.at (mf2.at a1)) a2.1 a2.2.1 a2.2.2) (hf1.tr (mf.fr (L := [71, 81, 86, 87]) ((mf2.wk (L' := [71, 81, 86, 87])).tr m3 (by decide)))))
        · exact absurd c27 (by omega)
      · intro hxn
        refine az_if_neN (tgt := 33) dX12_chance_27 (fun c27 => ?_) (fun c27 => ?_)
        · exact absurd c27 (by omega)
        · refine az_bipush (v := (-3)) dX12_chance_30 ?_
          exact az_iret dX12_chance_32 (hQ3 (by rw [hxw]; exact (cs_in_n (by omega) (by decide)).1) (cs_in_no (fun n hn => hxn n (Nat.zero_le _) (by omega))) h1 hM1 hf1)
    · exact absurd c12 (by omega)
  · intro hxw
    refine az_if_neN (tgt := 18) dX12_chance_12 (fun c12 => ?_) (fun c12 => ?_)
    · exact absurd c12 (by omega)
    · refine az_bipush (v := (-2)) dX12_chance_15 ?_
      exact az_iret dX12_chance_17 (hQ2 (cs_in_no (fun n hn => hxw n (Nat.zero_le _) (by omega))) h1 hM1 hf1)

