/-! Law: its words, one by one -/
def lw_M : Int64 := 1000000
/-- a sum, a difference, a product, kept from -1,000,000 to 1,000,000 -/
def lw_keep (v : Int64) : Int32 := (if lN 1000000 < v then lN 1000000 else if v < (-1000000 : Int64) then (-1000000 : Int64) else v).toInt32
/-- two numbers or truths, by a word of the law (in the model's numbers) -/
def lw_bin (c : Nat) (a b : Int32) : Int32 :=
  if c = 3000 then lw_keep (a.toInt64 + b.toInt64) else if c = 3001 then lw_keep (a.toInt64 - b.toInt64) else if c = 3002 then lw_keep (a.toInt64 * b.toInt64)
  else if c = 3003 then (if a = b then nI 1 else nI 0) else if c = 3004 then (if a < b then nI 1 else nI 0) else if c = 3005 then (if b < a then nI 1 else nI 0)
  else if c = 3007 then a &&& b else a ||| b
/-- the class's number of a word -/
def lw_phi (c : Nat) : Int32 :=
  if c < 1000 then nI c else if c = 1000 then (-1) else if c = 1001 then (-2) else if c = 1002 then (-3) else if c = 1003 then (-4) else if c = 1004 then (-5)
  else if c = 3000 then (-12) else if c = 3001 then (-13) else if c = 3002 then (-14) else if c = 3003 then (-15) else if c = 3004 then (-16) else if c = 3005 then (-17) else if c = 3006 then (-10) else if c = 3007 then (-18) else if c = 3008 then (-19) else (-11)
set_option maxRecDepth 100000 in
theorem s_needsOf {d : Nat} {x : Int32} {hp : az_Hp} {Q : Option Value → az_Hp → Prop} (h0 : ¬ x ≤ (-10) → Q (some (.int (nI 0))) hp) (h1 : x = (-10) → Q (some (.int (nI 1))) hp) (h3 : x = (-11) → Q (some (.int (nI 3))) hp) (h2 : x ≤ (-10) → ¬ x = (-10) → ¬ x = (-11) → Q (some (.int (nI 2))) hp) : az_M mX3_needsOf d 0 0 [.int x] hp Q := by
  refine az_M.of rfl (Nat.le_of_ble_eq_true rfl) ?_
  show az_W _ _ _ _ 0 [(0, .int x)] [] _ _
  refine az_iload_n dX3_needsOf_0 ?_
  refine az_bipush (v := (-10)) dX3_needsOf_1 ?_
  refine az_icmp_le (tgt := 8) dX3_needsOf_3 (fun c3 => ?_) (fun c3 => ?_)
  · refine az_iload_n dX3_needsOf_8 ?_
    refine az_bipush (v := (-10)) dX3_needsOf_9 ?_
    refine az_icmp_ne (tgt := 16) dX3_needsOf_11 (fun c11 => ?_) (fun c11 => ?_)
    · refine az_iload_n dX3_needsOf_16 ?_
      refine az_bipush (v := (-11)) dX3_needsOf_17 ?_
      refine az_icmp_ne (tgt := 26) dX3_needsOf_19 (fun c19 => ?_) (fun c19 => ?_)
      · refine az_iconst (v := nI 2) dX3_needsOf_26 ?_
        exact az_iret dX3_needsOf_27 (by first | exact h3 c19 | exact h2 c3 c11 c19)
      · refine az_iconst (v := nI 3) dX3_needsOf_22 ?_
        refine az_goto (tgt := 27) dX3_needsOf_23 ?_
        exact az_iret dX3_needsOf_27 (by first | exact h3 c19 | exact h2 c3 c11 c19)
    · refine az_iconst (v := nI 1) dX3_needsOf_14 ?_
      exact az_iret dX3_needsOf_15 (h1 c11)
  · refine az_iconst (v := nI 0) dX3_needsOf_6 ?_
    exact az_iret dX3_needsOf_7 (h0 c3)
set_option maxRecDepth 100000 in
theorem s_kept {d : Nat} {v : Int64} {hp : az_Hp} {Q : Option Value → az_Hp → Prop} (hd : 1 ≤ d) (hQ : Q (some (.int (lw_keep v))) hp) : az_M mX3_kept d 0 0 [.long v] hp Q := by
  have e : (if (if v < lN 1000000 then v else lN 1000000) < (-1000000 : Int64) then (-1000000 : Int64) else (if v < lN 1000000 then v else lN 1000000)).toInt32 = lw_keep v := by
    unfold lw_keep
    congr 1
    by_cases h1 : v < lN 1000000
    · rw [if_pos h1, if_neg (show ¬ lN 1000000 < v by rw [Int64.lt_iff_toInt_lt] at h1 ⊢; omega)]
    · rw [if_neg h1, if_neg (show ¬ lN 1000000 < (-1000000 : Int64) by decide)]
      by_cases h2 : lN 1000000 < v
      · rw [if_pos h2]
      · rw [if_neg h2]
        have : v = lN 1000000 := by
          apply Int64.toInt_inj.mp
          rw [Int64.lt_iff_toInt_lt] at h1 h2
          omega
        rw [this, if_neg (by decide)]
  refine az_M.of rfl (Nat.le_of_ble_eq_true rfl) ?_
  show az_W _ _ _ _ 0 [(0, .long v)] [] _ _
  refine az_ldc2 (v := (-1000000)) dX3_kept_0 cn_X3_51 ?_
  refine az_ldc2 (v := lN 1000000) dX3_kept_3 cn_X3_53 ?_
  refine az_lload_n dX3_kept_6 ?_
  refine az_lmin dX3_kept_7 ml_X3_55 ?_
  refine az_lmax dX3_kept_10 ml_X3_61 ?_
  refine az_l2i dX3_kept_13 ?_
  exact az_iret dX3_kept_14 (by rw [e]; exact hQ)
set_option maxRecDepth 100000 in
theorem s_joined_3000 {d : Nat} {a b : Int32} {hp : az_Hp} {Q : Option Value → az_Hp → Prop} (hd : 2 ≤ d) (hQ : Q (some (.int (lw_bin 3000 a b))) hp) : az_M mX3_joined d 0 0 [.int (-12), .int a, .int b] hp Q := by
  refine az_M.of rfl (Nat.le_of_ble_eq_true rfl) ?_
  show az_W _ _ _ _ 0 [(0, .int ((-12))), (1, .int a), (2, .int b)] [] _ _
  refine az_iload_n dX3_joined_0 ?_
  refine az_tswIn (off := 43) (tgt := 44) dX3_joined_1 (by decide) (by decide) (by rfl) (by decide) ?_
  refine az_iload_n dX3_joined_44 ?_
  refine az_i2l dX3_joined_45 ?_
  refine az_iload_n dX3_joined_46 ?_
  refine az_i2l dX3_joined_47 ?_
  refine az_ladd dX3_joined_48 ?_
  refine az_cS0 (st := []) dX3_joined_49 ml_X3_47 (s_kept (d := d - 1) (by omega) ?_)
  exact az_iret dX3_joined_52 (hQ)
set_option maxRecDepth 100000 in
theorem s_joined_3001 {d : Nat} {a b : Int32} {hp : az_Hp} {Q : Option Value → az_Hp → Prop} (hd : 2 ≤ d) (hQ : Q (some (.int (lw_bin 3001 a b))) hp) : az_M mX3_joined d 0 0 [.int (-13), .int a, .int b] hp Q := by
  refine az_M.of rfl (Nat.le_of_ble_eq_true rfl) ?_
  show az_W _ _ _ _ 0 [(0, .int ((-13))), (1, .int a), (2, .int b)] [] _ _
  refine az_iload_n dX3_joined_0 ?_
  refine az_tswIn (off := 52) (tgt := 53) dX3_joined_1 (by decide) (by decide) (by rfl) (by decide) ?_
  refine az_iload_n dX3_joined_53 ?_
  refine az_i2l dX3_joined_54 ?_
  refine az_iload_n dX3_joined_55 ?_
  refine az_i2l dX3_joined_56 ?_
  refine az_lsub dX3_joined_57 ?_
  refine az_cS0 (st := []) dX3_joined_58 ml_X3_47 (s_kept (d := d - 1) (by omega) ?_)
  exact az_iret dX3_joined_61 (hQ)
set_option maxRecDepth 100000 in
theorem s_joined_3002 {d : Nat} {a b : Int32} {hp : az_Hp} {Q : Option Value → az_Hp → Prop} (hd : 2 ≤ d) (hQ : Q (some (.int (lw_bin 3002 a b))) hp) : az_M mX3_joined d 0 0 [.int (-14), .int a, .int b] hp Q := by
  refine az_M.of rfl (Nat.le_of_ble_eq_true rfl) ?_
  show az_W _ _ _ _ 0 [(0, .int ((-14))), (1, .int a), (2, .int b)] [] _ _
  refine az_iload_n dX3_joined_0 ?_
  refine az_tswIn (off := 61) (tgt := 62) dX3_joined_1 (by decide) (by decide) (by rfl) (by decide) ?_
  refine az_iload_n dX3_joined_62 ?_
  refine az_i2l dX3_joined_63 ?_
  refine az_iload_n dX3_joined_64 ?_
  refine az_i2l dX3_joined_65 ?_
  refine az_lmul dX3_joined_66 ?_
  refine az_cS0 (st := []) dX3_joined_67 ml_X3_47 (s_kept (d := d - 1) (by omega) ?_)
  exact az_iret dX3_joined_70 (hQ)
set_option maxRecDepth 100000 in
theorem s_joined_3003 {d : Nat} {a b : Int32} {hp : az_Hp} {Q : Option Value → az_Hp → Prop} (hd : 2 ≤ d) (hQ : Q (some (.int (lw_bin 3003 a b))) hp) : az_M mX3_joined d 0 0 [.int (-15), .int a, .int b] hp Q := by
  refine az_M.of rfl (Nat.le_of_ble_eq_true rfl) ?_
  show az_W _ _ _ _ 0 [(0, .int ((-15))), (1, .int a), (2, .int b)] [] _ _
  refine az_iload_n dX3_joined_0 ?_
  refine az_tswIn (off := 70) (tgt := 71) dX3_joined_1 (by decide) (by decide) (by rfl) (by decide) ?_
  refine az_iload_n dX3_joined_71 ?_
  refine az_iload_n dX3_joined_72 ?_
  refine az_icmp_ne (tgt := 80) dX3_joined_73 (fun c73 => ?_) (fun c73 => ?_)
  · refine az_iconst (v := nI 0) dX3_joined_80 ?_
    exact az_iret dX3_joined_81 (by first | (rw [lw_bin] at hQ; simp [c73] at hQ; exact hQ) | (rw [lw_bin] at hQ; rw [c73] at hQ; simpa using hQ))
  · refine az_iconst (v := nI 1) dX3_joined_76 ?_
    refine az_goto (tgt := 81) dX3_joined_77 ?_
    exact az_iret dX3_joined_81 (by first | (rw [lw_bin] at hQ; simp [c73] at hQ; exact hQ) | (rw [lw_bin] at hQ; rw [c73] at hQ; simpa using hQ))
set_option maxRecDepth 100000 in
theorem s_joined_3004 {d : Nat} {a b : Int32} {hp : az_Hp} {Q : Option Value → az_Hp → Prop} (hd : 2 ≤ d) (hQ : Q (some (.int (lw_bin 3004 a b))) hp) : az_M mX3_joined d 0 0 [.int (-16), .int a, .int b] hp Q := by
  refine az_M.of rfl (Nat.le_of_ble_eq_true rfl) ?_
  show az_W _ _ _ _ 0 [(0, .int ((-16))), (1, .int a), (2, .int b)] [] _ _
  refine az_iload_n dX3_joined_0 ?_
  refine az_tswIn (off := 81) (tgt := 82) dX3_joined_1 (by decide) (by decide) (by rfl) (by decide) ?_
  refine az_iload_n dX3_joined_82 ?_
  refine az_iload_n dX3_joined_83 ?_
  refine az_icmp_ge (tgt := 91) dX3_joined_84 (fun c84 => ?_) (fun c84 => ?_)
  · refine az_iconst (v := nI 0) dX3_joined_91 ?_
    exact az_iret dX3_joined_92 (by rw [lw_bin] at hQ; first | (rw [if_neg (by decide), if_neg (by decide), if_neg (by decide), if_neg (by decide), if_pos rfl, if_pos (Int32.not_le.mp c84)] at hQ; exact hQ) | (rw [if_neg (by decide), if_neg (by decide), if_neg (by decide), if_neg (by decide), if_pos rfl, if_neg (Int32.not_lt.mpr c84)] at hQ; exact hQ))
  · refine az_iconst (v := nI 1) dX3_joined_87 ?_
    refine az_goto (tgt := 92) dX3_joined_88 ?_
    exact az_iret dX3_joined_92 (by rw [lw_bin] at hQ; first | (rw [if_neg (by decide), if_neg (by decide), if_neg (by decide), if_neg (by decide), if_pos rfl, if_pos (Int32.not_le.mp c84)] at hQ; exact hQ) | (rw [if_neg (by decide), if_neg (by decide), if_neg (by decide), if_neg (by decide), if_pos rfl, if_neg (Int32.not_lt.mpr c84)] at hQ; exact hQ))
set_option maxRecDepth 100000 in
theorem s_joined_3005 {d : Nat} {a b : Int32} {hp : az_Hp} {Q : Option Value → az_Hp → Prop} (hd : 2 ≤ d) (hQ : Q (some (.int (lw_bin 3005 a b))) hp) : az_M mX3_joined d 0 0 [.int (-17), .int a, .int b] hp Q := by
  refine az_M.of rfl (Nat.le_of_ble_eq_true rfl) ?_
  show az_W _ _ _ _ 0 [(0, .int ((-17))), (1, .int a), (2, .int b)] [] _ _
  refine az_iload_n dX3_joined_0 ?_
  refine az_tswIn (off := 92) (tgt := 93) dX3_joined_1 (by decide) (by decide) (by rfl) (by decide) ?_
  refine az_iload_n dX3_joined_93 ?_
  refine az_iload_n dX3_joined_94 ?_
  refine az_icmp_le (tgt := 102) dX3_joined_95 (fun c95 => ?_) (fun c95 => ?_)
  · refine az_iconst (v := nI 0) dX3_joined_102 ?_
    exact az_iret dX3_joined_103 (by rw [lw_bin] at hQ; first | (rw [if_neg (by decide), if_neg (by decide), if_neg (by decide), if_neg (by decide), if_neg (by decide), if_pos rfl, if_pos (Int32.not_le.mp c95)] at hQ; exact hQ) | (rw [if_neg (by decide), if_neg (by decide), if_neg (by decide), if_neg (by decide), if_neg (by decide), if_pos rfl, if_neg (Int32.not_lt.mpr c95)] at hQ; exact hQ))
  · refine az_iconst (v := nI 1) dX3_joined_98 ?_
    refine az_goto (tgt := 103) dX3_joined_99 ?_
    exact az_iret dX3_joined_103 (by rw [lw_bin] at hQ; first | (rw [if_neg (by decide), if_neg (by decide), if_neg (by decide), if_neg (by decide), if_neg (by decide), if_pos rfl, if_pos (Int32.not_le.mp c95)] at hQ; exact hQ) | (rw [if_neg (by decide), if_neg (by decide), if_neg (by decide), if_neg (by decide), if_neg (by decide), if_pos rfl, if_neg (Int32.not_lt.mpr c95)] at hQ; exact hQ))
set_option maxRecDepth 100000 in
theorem s_joined_3007 {d : Nat} {a b : Int32} {hp : az_Hp} {Q : Option Value → az_Hp → Prop} (hd : 2 ≤ d) (hQ : Q (some (.int (lw_bin 3007 a b))) hp) : az_M mX3_joined d 0 0 [.int (-18), .int a, .int b] hp Q := by
  refine az_M.of rfl (Nat.le_of_ble_eq_true rfl) ?_
  show az_W _ _ _ _ 0 [(0, .int ((-18))), (1, .int a), (2, .int b)] [] _ _
  refine az_iload_n dX3_joined_0 ?_
  refine az_tswIn (off := 103) (tgt := 104) dX3_joined_1 (by decide) (by decide) (by rfl) (by decide) ?_
  refine az_iload_n dX3_joined_104 ?_
  refine az_iload_n dX3_joined_105 ?_
  refine az_iand dX3_joined_106 ?_
  exact az_iret dX3_joined_107 (hQ)
set_option maxRecDepth 100000 in
theorem s_joined_3008 {d : Nat} {a b : Int32} {hp : az_Hp} {Q : Option Value → az_Hp → Prop} (hd : 2 ≤ d) (hQ : Q (some (.int (lw_bin 3008 a b))) hp) : az_M mX3_joined d 0 0 [.int (-19), .int a, .int b] hp Q := by
  refine az_M.of rfl (Nat.le_of_ble_eq_true rfl) ?_
  show az_W _ _ _ _ 0 [(0, .int ((-19))), (1, .int a), (2, .int b)] [] _ _
  refine az_iload_n dX3_joined_0 ?_
  refine az_tswOut (tgt := 108) dX3_joined_1 (by decide) (by decide) ?_
  refine az_iload_n dX3_joined_108 ?_
  refine az_iload_n dX3_joined_109 ?_
  refine az_ior dX3_joined_110 ?_
  exact az_iret dX3_joined_111 (hQ)
