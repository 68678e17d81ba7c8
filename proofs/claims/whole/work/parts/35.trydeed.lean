/-! Scene.tryDeed: a deed, as a step of (moon, nights, tables) -/
abbrev ln_Z : Type := Nat × Nat × List Nat
/-- a night by a table: why it can't be (0), and what is then -/
def dt (w : ln_W) (z : ln_Z) (tb : Nat) : Nat × ln_Z := if 60 ≤ z.2.2.length then (2, z) else if 1000000000000 < (ln_str w (z.2.2 ++ [tb])).length then (3, z) else (0, (z.1, z.2.1 + 1, z.2.2 ++ [tb]))
/-- a deed -/
def dz (w : ln_W) (pk sl : List Nat) (z : ln_Z) (v : Int64) : Nat × ln_Z :=
  if v = lN 0 then (if ln_as (ln_env w z.2.2 z.1 z.2.1) sl = 1 then (0, (z.1, z.2.1 + 1, z.2.2)) else dt w z (ln_pi (ln_env w z.2.2 z.1 z.2.1) pk (ln_tb w)))
  else if lN 0 < v ∧ v ≤ lN (ln_tb w) then dt w z (v.toInt.toNat - 1)
  else if lN 10 ≤ v ∧ v ≤ lN 19 then (0, (v.toInt.toNat - 10, z.2.1, z.2.2)) else (1, z)
def ln_SZ (h : az_Hp) (a t : Nat) (w : ln_W) (z : ln_Z) : Prop := ln_Scene h a t w z.1 z.2.1 z.2.2
theorem s_tryT {d a t tb : Nat} {w : ln_W} {z : ln_Z} {hp : az_Hp} {Q : Option Value → az_Hp → Prop} (hd : 3 ≤ d) (hw : ln_ok w) (hb : ln_by w z.2.2) (hT : ln_To hp t w a (a + 8)) (hS : ln_SZ hp a t w z) (htb : tb < ln_tb w) (hQ : ∀ h', ln_SZ h' a t w (dt w z tb).2 → az_fr hp h' a (a + 8) → Q (some (.int (nI (dt w z tb).1))) h') : az_M mX6_tryTable d 0 0 [.ref a, .int (nI tb)] hp Q := by
  refine s_tryTable hd hw hb hT hS htb (fun h => ?_) (fun h1 h2 => ?_) (fun h1 h2 h' hS' hf => ?_)
  · rw [dt, if_pos h] at hQ
    exact hQ _ hS az_fr.rf
  · rw [dt, if_neg (by omega), if_pos h2] at hQ
    exact hQ _ hS az_fr.rf
  · rw [dt, if_neg (by omega), if_neg (by omega)] at hQ
    exact hQ _ hS' hf
theorem dt_by {w : ln_W} {z : ln_Z} {tb : Nat} (hb : ln_by w z.2.2) (htb : tb < ln_tb w) : ln_by w (dt w z tb).2.2.2 := by
  unfold dt
  split
  · exact hb
  · split
    · exact hb
    · refine ⟨by simp; omega, fun b h => ?_, by show (ln_str w (z.2.2 ++ [tb])).length ≤ _; omega⟩
      rcases List.mem_append.mp h with h | h
      · exact hb.2.1 b h
      · rw [List.mem_singleton] at h; rw [h]; exact htb
theorem l_of {v : Int64} (h : lN 0 ≤ v) : ∃ k, v = lN k ∧ k = v.toInt.toNat ∧ k < 2 ^ 63 := by
  rw [Int64.le_iff_toInt_le, lN_toI (by decide)] at h
  have hb : v.toInt < 2 ^ 63 := Int64.toInt_lt v
  refine ⟨v.toInt.toNat, ?_, rfl, by omega⟩
  apply Int64.toInt_inj.mp
  rw [lN_toI (by omega)]
  omega
theorem dz_by {w : ln_W} {pk sl : List Nat} {z : ln_Z} {v : Int64} (hw : ln_ok w) (hb : ln_by w z.2.2) : ln_by w (dz w pk sl z v).2.2.2 := by
  unfold dz
  split
  · split
    · exact hb
    · exact dt_by hb (ln_pi_lt (by have := hw.1; omega))
  · split
    · rename_i h1 h2
      refine dt_by hb ?_
      obtain ⟨k, rfl, hk, hk2⟩ := l_of (v := v) (by have := h2.1; rw [Int64.lt_iff_toInt_lt] at this; rw [Int64.le_iff_toInt_le]; omega)
      have h3 := h2.2
      have := hw.2.1
      rw [lN_leN hk2 (by omega)] at h3
      have h4 := h2.1
      rw [lN_ltN (by decide) hk2] at h4
      rw [← hk]; omega
    · split
      · exact hb
      · exact hb
set_option maxRecDepth 100000 in
theorem s_tryDeed {d a t : Nat} {w : ln_W} {pk sl : List Nat} {z : ln_Z} {v : Int64} {hp : az_Hp} {Q : Option Value → az_Hp → Prop} (hd : 5 ≤ d) (hw : ln_ok w) (hlaw : ln_law w pk sl) (hb : ln_by w z.2.2) (hT : ln_To hp t w a (a + 8)) (hS : ln_SZ hp a t w z) (hQ : ∀ h', ln_SZ h' a t w (dz w pk sl z v).2 → az_fr hp h' a (a + 8) → Q (some (.int (nI (dz w pk sl z v).1))) h') : az_M mX6_tryDeed d 0 0 [.ref a, .long v] hp Q := by
  obtain ⟨hi, fr, la, no, wa, nc, g0, g1, g2, t2, g3, t3, g4, t4, g5, g6, g7⟩ := id hS
  obtain ⟨a4, a5, hT0, -⟩ := id hT
  have ht1 := hw.1
  have ht3 := hw.2.1
  refine az_M.of rfl (Nat.le_of_ble_eq_true rfl) ?_
  show az_W _ _ _ _ 0 [(0, .ref a), (1, .long v)] [] _ _
  refine az_lload_n dX6_tryDeed_0 ?_
  refine az_lconst (v := lN 0) dX6_tryDeed_1 ?_
  refine az_lcmp_ne (tgt := 34) dX6_tryDeed_2 dX6_tryDeed_3 (fun c2 => ?_) (fun c2 => ?_)
  · refine az_lload_n dX6_tryDeed_34 ?_
    refine az_lconst (v := lN 0) dX6_tryDeed_35 ?_
    refine az_lcmp_le (tgt := 62) dX6_tryDeed_36 dX6_tryDeed_37 (fun c36 => ?_) (fun c36 => ?_)
    · have hnt : ¬ (lN 0 < v ∧ v ≤ lN (ln_tb w)) := by first | (intro q; have q1 := q.1; rw [Int64.lt_iff_toInt_lt] at q1; rw [Int64.le_iff_toInt_le] at c36; omega) | (intro q; have q2 := q.2; rw [Int64.le_iff_toInt_le] at q2; rw [Int64.lt_iff_toInt_lt] at c49; omega)
      refine az_lload_n dX6_tryDeed_62 ?_
      refine az_ldc2 (v := lN 10) dX6_tryDeed_63 cn_X6_114 ?_
      refine az_lcmp_lt (tgt := 89) dX6_tryDeed_66 dX6_tryDeed_67 (fun c66 => ?_) (fun c66 => ?_)
      · rw [dz, if_neg c2, if_neg hnt, if_neg (by first | (intro q; have q1 := q.1; rw [Int64.le_iff_toInt_le] at q1; rw [Int64.lt_iff_toInt_lt] at c66; omega) | (intro q; have q2 := q.2; rw [Int64.le_iff_toInt_le] at q2; rw [Int64.lt_iff_toInt_lt] at c74; omega))] at hQ
        refine az_iconst (v := nI 1) dX6_tryDeed_89 ?_
        exact az_iret dX6_tryDeed_90 (hQ _ hS az_fr.rf)
      · refine az_lload_n dX6_tryDeed_70 ?_
        refine az_ldc2 (v := lN 19) dX6_tryDeed_71 cn_X6_116 ?_
        refine az_lcmp_gt (tgt := 89) dX6_tryDeed_74 dX6_tryDeed_75 (fun c74 => ?_) (fun c74 => ?_)
        · rw [dz, if_neg c2, if_neg hnt, if_neg (by first | (intro q; have q1 := q.1; rw [Int64.le_iff_toInt_le] at q1; rw [Int64.lt_iff_toInt_lt] at c66; omega) | (intro q; have q2 := q.2; rw [Int64.le_iff_toInt_le] at q2; rw [Int64.lt_iff_toInt_lt] at c74; omega))] at hQ
          refine az_iconst (v := nI 1) dX6_tryDeed_89 ?_
          exact az_iret dX6_tryDeed_90 (hQ _ hS az_fr.rf)
        · obtain ⟨k9, hv9, hk9, hk8⟩ := l_of (v := v) (by rw [Int64.le_iff_toInt_le, lN_toI (by decide)]; rw [Int64.lt_iff_toInt_lt, lN_toI (by decide)] at c66; omega)
          rw [dz, if_neg c2, if_neg hnt, if_pos ⟨by rw [Int64.le_iff_toInt_le]; rw [Int64.lt_iff_toInt_lt] at c66; omega, by rw [Int64.le_iff_toInt_le]; rw [Int64.lt_iff_toInt_lt] at c74; omega⟩, ← hk9] at hQ
          have hk10 : 10 ≤ k9 := by rw [hv9, lN_ltN hk8 (by decide)] at c66; omega
          refine az_aload_n dX6_tryDeed_78 ?_
          refine az_lload_n dX6_tryDeed_79 ?_
          refine az_l2i dX6_tryDeed_80 ?_
          refine az_bipush (v := nI 10) dX6_tryDeed_81 ?_
          refine az_isub dX6_tryDeed_83 ?_
          rw [hv9, lN_i, nI_subN (by omega)]
          refine az_putf (fs' := [.ref t, .int (nI (k9 - 10)), .int (nI z.2.1), .int (nI z.2.2.length), .long (lN ((ln_str w z.2.2).length)), .int (nI ((ln_dd (ln_str w z.2.2)).length)), .ref (a + 1), .ref (a + 2), .ref (a + 3), .ref (a + 4), .ref (a + 5), .ref (a + 6), .ref (a + 7)]) dX6_tryDeed_84 fl_X6_50 g0 ?_
          refine az_iconst (v := nI 0) dX6_tryDeed_87 ?_
          exact az_iret dX6_tryDeed_88 (hQ _ ⟨hi, fr, la, no, wa, nc, az_up_eq, az_up_ne g1, az_up_ne g2, t2, az_up_ne g3, t3, az_up_ne g4, t4, az_up_ne g5, az_up_ne g6, az_up_ne g7⟩ az_fr.rf.up)
    · refine az_lload_n dX6_tryDeed_40 ?_
      refine az_aload_n dX6_tryDeed_41 ?_
      refine az_getf (v := .ref t) dX6_tryDeed_42 fl_X6_40 g0 ?_
      refine az_getf (v := .int (nI (ln_tb w))) dX6_tryDeed_45 fl_X6_111 hT0 ?_
      refine az_i2lN dX6_tryDeed_48 ?_
      refine az_lcmp_gt (tgt := 62) dX6_tryDeed_49 dX6_tryDeed_50 (fun c49 => ?_) (fun c49 => ?_)
      · have hnt : ¬ (lN 0 < v ∧ v ≤ lN (ln_tb w)) := by first | (intro q; have q1 := q.1; rw [Int64.lt_iff_toInt_lt] at q1; rw [Int64.le_iff_toInt_le] at c36; omega) | (intro q; have q2 := q.2; rw [Int64.le_iff_toInt_le] at q2; rw [Int64.lt_iff_toInt_lt] at c49; omega)
        refine az_lload_n dX6_tryDeed_62 ?_
        refine az_ldc2 (v := lN 10) dX6_tryDeed_63 cn_X6_114 ?_
        refine az_lcmp_lt (tgt := 89) dX6_tryDeed_66 dX6_tryDeed_67 (fun c66 => ?_) (fun c66 => ?_)
        · rw [dz, if_neg c2, if_neg hnt, if_neg (by first | (intro q; have q1 := q.1; rw [Int64.le_iff_toInt_le] at q1; rw [Int64.lt_iff_toInt_lt] at c66; omega) | (intro q; have q2 := q.2; rw [Int64.le_iff_toInt_le] at q2; rw [Int64.lt_iff_toInt_lt] at c74; omega))] at hQ
          refine az_iconst (v := nI 1) dX6_tryDeed_89 ?_
          exact az_iret dX6_tryDeed_90 (hQ _ hS az_fr.rf)
        · refine az_lload_n dX6_tryDeed_70 ?_
          refine az_ldc2 (v := lN 19) dX6_tryDeed_71 cn_X6_116 ?_
          refine az_lcmp_gt (tgt := 89) dX6_tryDeed_74 dX6_tryDeed_75 (fun c74 => ?_) (fun c74 => ?_)
          · rw [dz, if_neg c2, if_neg hnt, if_neg (by first | (intro q; have q1 := q.1; rw [Int64.le_iff_toInt_le] at q1; rw [Int64.lt_iff_toInt_lt] at c66; omega) | (intro q; have q2 := q.2; rw [Int64.le_iff_toInt_le] at q2; rw [Int64.lt_iff_toInt_lt] at c74; omega))] at hQ
            refine az_iconst (v := nI 1) dX6_tryDeed_89 ?_
            exact az_iret dX6_tryDeed_90 (hQ _ hS az_fr.rf)
          · obtain ⟨k9, hv9, hk9, hk8⟩ := l_of (v := v) (by rw [Int64.le_iff_toInt_le, lN_toI (by decide)]; rw [Int64.lt_iff_toInt_lt, lN_toI (by decide)] at c66; omega)
            rw [dz, if_neg c2, if_neg hnt, if_pos ⟨by rw [Int64.le_iff_toInt_le]; rw [Int64.lt_iff_toInt_lt] at c66; omega, by rw [Int64.le_iff_toInt_le]; rw [Int64.lt_iff_toInt_lt] at c74; omega⟩, ← hk9] at hQ
            have hk10 : 10 ≤ k9 := by rw [hv9, lN_ltN hk8 (by decide)] at c66; omega
            refine az_aload_n dX6_tryDeed_78 ?_
            refine az_lload_n dX6_tryDeed_79 ?_
            refine az_l2i dX6_tryDeed_80 ?_
            refine az_bipush (v := nI 10) dX6_tryDeed_81 ?_
            refine az_isub dX6_tryDeed_83 ?_
            rw [hv9, lN_i, nI_subN (by omega)]
            refine az_putf (fs' := [.ref t, .int (nI (k9 - 10)), .int (nI z.2.1), .int (nI z.2.2.length), .long (lN ((ln_str w z.2.2).length)), .int (nI ((ln_dd (ln_str w z.2.2)).length)), .ref (a + 1), .ref (a + 2), .ref (a + 3), .ref (a + 4), .ref (a + 5), .ref (a + 6), .ref (a + 7)]) dX6_tryDeed_84 fl_X6_50 g0 ?_
            refine az_iconst (v := nI 0) dX6_tryDeed_87 ?_
            exact az_iret dX6_tryDeed_88 (hQ _ ⟨hi, fr, la, no, wa, nc, az_up_eq, az_up_ne g1, az_up_ne g2, t2, az_up_ne g3, t3, az_up_ne g4, t4, az_up_ne g5, az_up_ne g6, az_up_ne g7⟩ az_fr.rf.up)
      · obtain ⟨k9, hv9, hk9, hk8⟩ := l_of (v := v) (by rw [Int64.le_iff_toInt_le]; rw [Int64.le_iff_toInt_le] at c36; omega)
        rw [dz, if_neg c2, if_pos ⟨by rw [Int64.lt_iff_toInt_lt]; rw [Int64.le_iff_toInt_le] at c36; omega, by rw [Int64.le_iff_toInt_le]; rw [Int64.lt_iff_toInt_lt] at c49; omega⟩, ← hk9] at hQ
        have hk1 : 0 < k9 := by rw [hv9, lN_leN hk8 (by decide)] at c36; omega
        have hk3 : k9 ≤ ln_tb w := by rw [hv9, lN_ltN (by omega) hk8] at c49; omega
        refine az_aload_n dX6_tryDeed_53 ?_
        refine az_lload_n dX6_tryDeed_54 ?_
        refine az_l2i dX6_tryDeed_55 ?_
        refine az_iconst (v := nI 1) dX6_tryDeed_56 ?_
        refine az_isub dX6_tryDeed_57 ?_
        rw [hv9, lN_i, nI_subN (by omega)]
        refine az_cV0 (st := []) dX6_tryDeed_58 ml_X6_107 g0 (s_tryT (tb := k9 - 1) (z := z) (d := d - 1) (by omega) hw hb hT hS (by omega) (fun h3 hS3 hf3 => ?_))
        exact az_iret dX6_tryDeed_61 (hQ _ hS3 hf3)
  · refine az_aload_n dX6_tryDeed_6 ?_
    refine az_cV0 (st := []) dX6_tryDeed_7 ml_X6_99 g0 (s_asleep (d := d - 1) (by omega) hw hlaw hT hS (fun h1 hS1 hf1 => ?_))
    obtain ⟨hi', fr', la', no', wa', nc', g0', g1', g2', t2', g3', t3', g4', t4', g5', g6', g7'⟩ := id hS1
    have has : ln_as (ln_env w z.2.2 z.1 z.2.1) sl ≤ 1 := by unfold ln_as; split; omega; split; omega; omega
    refine az_if_eqN (tgt := 25) dX6_tryDeed_10 (fun c10 => ?_) (fun c10 => ?_)
    · rw [dz, if_pos c2, if_neg (by omega)] at hQ
      refine az_aload_n dX6_tryDeed_25 ?_
      refine az_aload_n dX6_tryDeed_26 ?_
      refine az_cV0 (st := [.ref a]) dX6_tryDeed_27 ml_X6_103 g0' (s_pickedTable (d := d - 1) (by omega) hw hlaw (hT.fr hf1) hS1 (fun h2 hS2 hf2 => ?_))
      obtain ⟨hi'', fr'', la'', no'', wa'', nc'', g0'', -⟩ := id hS2
      refine az_cV0 (st := []) dX6_tryDeed_30 ml_X6_107 g0'' (s_tryT (z := z) (d := d - 1) (by omega) hw hb (hT.fr (hf1.tr hf2)) hS2 (ln_pi_lt (by omega)) (fun h3 hS3 hf3 => ?_))
      exact az_iret dX6_tryDeed_33 (hQ _ hS3 ((hf1.tr hf2).tr hf3))
    · rw [dz, if_pos c2, if_pos (by omega)] at hQ
      refine az_aload_n dX6_tryDeed_13 ?_
      refine az_dup dX6_tryDeed_14 ?_
      refine az_getf (v := .int (nI z.2.1)) dX6_tryDeed_15 fl_X6_51 g0' ?_
      refine az_iconst (v := nI 1) dX6_tryDeed_18 ?_
      refine az_iaddN dX6_tryDeed_19 ?_
      refine az_putf (fs' := [.ref t, .int (nI z.1), .int (nI (z.2.1 + 1)), .int (nI z.2.2.length), .long (lN ((ln_str w z.2.2).length)), .int (nI ((ln_dd (ln_str w z.2.2)).length)), .ref (a + 1), .ref (a + 2), .ref (a + 3), .ref (a + 4), .ref (a + 5), .ref (a + 6), .ref (a + 7)]) dX6_tryDeed_20 fl_X6_51 g0' ?_
      refine az_iconst (v := nI 0) dX6_tryDeed_23 ?_
      exact az_iret dX6_tryDeed_24 (hQ _ ⟨hi', fr', la', no', wa', nc', az_up_eq, az_up_ne g1', az_up_ne g2', t2', az_up_ne g3', t3', az_up_ne g4', t4', az_up_ne g5', az_up_ne g6', az_up_ne g7'⟩ hf1.up)
