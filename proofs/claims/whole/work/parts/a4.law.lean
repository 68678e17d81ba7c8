/-! The model: laws reckoned -/
theorem keep_1 {v : Int64} (h : ¬ v ≤ lN 1000000) : lw_keep v = nI 1000000 := by
  rw [lw_keep, if_pos (Int64.not_le.mp h)]
  decide
theorem keep_2 {v : Int64} (h : v ≤ lN 1000000) (h2 : ¬ (-1000000 : Int64) ≤ v) : lw_keep v = (-1000000 : Int64).toInt32 := by
  rw [lw_keep, if_neg (Int64.not_lt.mpr h), if_pos (Int64.not_le.mp h2)]
theorem keep_3 {v : Int64} (h : v ≤ lN 1000000) (h2 : (-1000000 : Int64) ≤ v) : lw_keep v = v.toInt32 := by
  rw [lw_keep, if_neg (Int64.not_lt.mpr h), if_neg (Int64.not_lt.mpr h2)]
set_option maxRecDepth 100000 in
theorem m_bw_3000 {d : Nat} {a b : Int32} {hp : az_Hp} {Q : Option Value → az_Hp → Prop} (hQ : Q (some (.int (lw_bin 3000 a b))) hp) : az_M mX12_between d 0 0 [.int (nI 3000), .int a, .int b] hp Q := by
  refine az_M.of rfl (Nat.le_of_ble_eq_true rfl) ?_
  show az_W _ _ _ _ 0 [(0, .int (nI 3000)), (1, .int a), (2, .int b)] [] _ _
  refine az_iload_n dX12_between_0 ?_
  refine az_tswOut (tgt := 81) dX12_between_1 (Or.inl (by decide)) (by decide) ?_
  refine az_iload_n dX12_between_81 ?_
  refine az_sipush (v := nI 3000) dX12_between_82 ?_
  refine az_icmp_neN (tgt := 96) dX12_between_85 (fun c85 => ?_) (fun c85 => ?_)
  · exact absurd c85 (by omega)
  · refine az_iload_n dX12_between_88 ?_
    refine az_i2l dX12_between_89 ?_
    refine az_iload_n dX12_between_90 ?_
    refine az_i2l dX12_between_91 ?_
    refine az_ladd dX12_between_92 ?_
    refine az_goto (tgt := 116) dX12_between_93 ?_
    refine az_lstore_n (ls' := [(0, .int (nI 3000)), (1, .int a), (2, .int b), (3, .long (((a).toInt64) + ((b).toInt64)))]) dX12_between_116 ?_
    refine az_lload_n dX12_between_117 ?_
    refine az_ldc2 (v := lN 1000000) dX12_between_118 cn_X12_271 ?_
    refine az_lcmp_le (tgt := 131) dX12_between_121 dX12_between_122 (fun c121 => ?_) (fun c121 => ?_)
    · refine az_lload_n dX12_between_131 ?_
      refine az_ldc2 (v := (-1000000)) dX12_between_132 cn_X12_273 ?_
      refine az_lcmp_ge (tgt := 145) dX12_between_135 dX12_between_136 (fun c135 => ?_) (fun c135 => ?_)
      · refine az_lload_n dX12_between_145 ?_
        refine az_l2i dX12_between_146 ?_
        exact az_iret dX12_between_147 (by first | (rw [show lw_bin 3000 a b = lw_keep (a.toInt64 + b.toInt64) from rfl, keep_1 c121] at hQ; exact hQ) | (rw [show lw_bin 3000 a b = lw_keep (a.toInt64 + b.toInt64) from rfl, keep_2 c121 c135] at hQ; exact hQ) | (rw [show lw_bin 3000 a b = lw_keep (a.toInt64 + b.toInt64) from rfl, keep_3 c121 c135] at hQ; exact hQ))
      · refine az_ldc2 (v := (-1000000)) dX12_between_139 cn_X12_273 ?_
        refine az_goto (tgt := 146) dX12_between_142 ?_
        refine az_l2i dX12_between_146 ?_
        exact az_iret dX12_between_147 (by first | (rw [show lw_bin 3000 a b = lw_keep (a.toInt64 + b.toInt64) from rfl, keep_1 c121] at hQ; exact hQ) | (rw [show lw_bin 3000 a b = lw_keep (a.toInt64 + b.toInt64) from rfl, keep_2 c121 c135] at hQ; exact hQ) | (rw [show lw_bin 3000 a b = lw_keep (a.toInt64 + b.toInt64) from rfl, keep_3 c121 c135] at hQ; exact hQ))
    · refine az_ldc2 (v := lN 1000000) dX12_between_125 cn_X12_271 ?_
      refine az_goto (tgt := 146) dX12_between_128 ?_
      refine az_l2iN dX12_between_146 ?_
      exact az_iret dX12_between_147 (by first | (rw [show lw_bin 3000 a b = lw_keep (a.toInt64 + b.toInt64) from rfl, keep_1 c121] at hQ; exact hQ) | (rw [show lw_bin 3000 a b = lw_keep (a.toInt64 + b.toInt64) from rfl, keep_2 c121 c135] at hQ; exact hQ) | (rw [show lw_bin 3000 a b = lw_keep (a.toInt64 + b.toInt64) from rfl, keep_3 c121 c135] at hQ; exact hQ))
set_option maxRecDepth 100000 in
theorem m_bw_3001 {d : Nat} {a b : Int32} {hp : az_Hp} {Q : Option Value → az_Hp → Prop} (hQ : Q (some (.int (lw_bin 3001 a b))) hp) : az_M mX12_between d 0 0 [.int (nI 3001), .int a, .int b] hp Q := by
  refine az_M.of rfl (Nat.le_of_ble_eq_true rfl) ?_
  show az_W _ _ _ _ 0 [(0, .int (nI 3001)), (1, .int a), (2, .int b)] [] _ _
  refine az_iload_n dX12_between_0 ?_
  refine az_tswOut (tgt := 81) dX12_between_1 (Or.inl (by decide)) (by decide) ?_
  refine az_iload_n dX12_between_81 ?_
  refine az_sipush (v := nI 3000) dX12_between_82 ?_
  refine az_icmp_neN (tgt := 96) dX12_between_85 (fun c85 => ?_) (fun c85 => ?_)
  · refine az_iload_n dX12_between_96 ?_
    refine az_sipush (v := nI 3001) dX12_between_97 ?_
    refine az_icmp_neN (tgt := 111) dX12_between_100 (fun c100 => ?_) (fun c100 => ?_)
    · exact absurd c100 (by omega)
    · refine az_iload_n dX12_between_103 ?_
      refine az_i2l dX12_between_104 ?_
      refine az_iload_n dX12_between_105 ?_
      refine az_i2l dX12_between_106 ?_
      refine az_lsub dX12_between_107 ?_
      refine az_goto (tgt := 116) dX12_between_108 ?_
      refine az_lstore_n (ls' := [(0, .int (nI 3001)), (1, .int a), (2, .int b), (3, .long (((a).toInt64) - ((b).toInt64)))]) dX12_between_116 ?_
      refine az_lload_n dX12_between_117 ?_
      refine az_ldc2 (v := lN 1000000) dX12_between_118 cn_X12_271 ?_
      refine az_lcmp_le (tgt := 131) dX12_between_121 dX12_between_122 (fun c121 => ?_) (fun c121 => ?_)
      · refine az_lload_n dX12_between_131 ?_
        refine az_ldc2 (v := (-1000000)) dX12_between_132 cn_X12_273 ?_
        refine az_lcmp_ge (tgt := 145) dX12_between_135 dX12_between_136 (fun c135 => ?_) (fun c135 => ?_)
        · refine az_lload_n dX12_between_145 ?_
          refine az_l2i dX12_between_146 ?_
          exact az_iret dX12_between_147 (by first | (rw [show lw_bin 3001 a b = lw_keep (a.toInt64 - b.toInt64) from rfl, keep_1 c121] at hQ; exact hQ) | (rw [show lw_bin 3001 a b = lw_keep (a.toInt64 - b.toInt64) from rfl, keep_2 c121 c135] at hQ; exact hQ) | (rw [show lw_bin 3001 a b = lw_keep (a.toInt64 - b.toInt64) from rfl, keep_3 c121 c135] at hQ; exact hQ))
        · refine az_ldc2 (v := (-1000000)) dX12_between_139 cn_X12_273 ?_
          refine az_goto (tgt := 146) dX12_between_142 ?_
          refine az_l2i dX12_between_146 ?_
          exact az_iret dX12_between_147 (by first | (rw [show lw_bin 3001 a b = lw_keep (a.toInt64 - b.toInt64) from rfl, keep_1 c121] at hQ; exact hQ) | (rw [show lw_bin 3001 a b = lw_keep (a.toInt64 - b.toInt64) from rfl, keep_2 c121 c135] at hQ; exact hQ) | (rw [show lw_bin 3001 a b = lw_keep (a.toInt64 - b.toInt64) from rfl, keep_3 c121 c135] at hQ; exact hQ))
      · refine az_ldc2 (v := lN 1000000) dX12_between_125 cn_X12_271 ?_
        refine az_goto (tgt := 146) dX12_between_128 ?_
        refine az_l2iN dX12_between_146 ?_
        exact az_iret dX12_between_147 (by first | (rw [show lw_bin 3001 a b = lw_keep (a.toInt64 - b.toInt64) from rfl, keep_1 c121] at hQ; exact hQ) | (rw [show lw_bin 3001 a b = lw_keep (a.toInt64 - b.toInt64) from rfl, keep_2 c121 c135] at hQ; exact hQ) | (rw [show lw_bin 3001 a b = lw_keep (a.toInt64 - b.toInt64) from rfl, keep_3 c121 c135] at hQ; exact hQ))
  · exact absurd c85 (by omega)
set_option maxRecDepth 100000 in
theorem m_bw_3002 {d : Nat} {a b : Int32} {hp : az_Hp} {Q : Option Value → az_Hp → Prop} (hQ : Q (some (.int (lw_bin 3002 a b))) hp) : az_M mX12_between d 0 0 [.int (nI 3002), .int a, .int b] hp Q := by
  refine az_M.of rfl (Nat.le_of_ble_eq_true rfl) ?_
  show az_W _ _ _ _ 0 [(0, .int (nI 3002)), (1, .int a), (2, .int b)] [] _ _
  refine az_iload_n dX12_between_0 ?_
  refine az_tswOut (tgt := 81) dX12_between_1 (Or.inl (by decide)) (by decide) ?_
  refine az_iload_n dX12_between_81 ?_
  refine az_sipush (v := nI 3000) dX12_between_82 ?_
  refine az_icmp_neN (tgt := 96) dX12_between_85 (fun c85 => ?_) (fun c85 => ?_)
  · refine az_iload_n dX12_between_96 ?_
    refine az_sipush (v := nI 3001) dX12_between_97 ?_
    refine az_icmp_neN (tgt := 111) dX12_between_100 (fun c100 => ?_) (fun c100 => ?_)
    · refine az_iload_n dX12_between_111 ?_
      refine az_i2l dX12_between_112 ?_
      refine az_iload_n dX12_between_113 ?_
      refine az_i2l dX12_between_114 ?_
      refine az_lmul dX12_between_115 ?_
      refine az_lstore_n (ls' := [(0, .int (nI 3002)), (1, .int a), (2, .int b), (3, .long (((a).toInt64) * ((b).toInt64)))]) dX12_between_116 ?_
      refine az_lload_n dX12_between_117 ?_
      refine az_ldc2 (v := lN 1000000) dX12_between_118 cn_X12_271 ?_
      refine az_lcmp_le (tgt := 131) dX12_between_121 dX12_between_122 (fun c121 => ?_) (fun c121 => ?_)
      · refine az_lload_n dX12_between_131 ?_
        refine az_ldc2 (v := (-1000000)) dX12_between_132 cn_X12_273 ?_
        refine az_lcmp_ge (tgt := 145) dX12_between_135 dX12_between_136 (fun c135 => ?_) (fun c135 => ?_)
        · refine az_lload_n dX12_between_145 ?_
          refine az_l2i dX12_between_146 ?_
          exact az_iret dX12_between_147 (by first | (rw [show lw_bin 3002 a b = lw_keep (a.toInt64 * b.toInt64) from rfl, keep_1 c121] at hQ; exact hQ) | (rw [show lw_bin 3002 a b = lw_keep (a.toInt64 * b.toInt64) from rfl, keep_2 c121 c135] at hQ; exact hQ) | (rw [show lw_bin 3002 a b = lw_keep (a.toInt64 * b.toInt64) from rfl, keep_3 c121 c135] at hQ; exact hQ))
        · refine az_ldc2 (v := (-1000000)) dX12_between_139 cn_X12_273 ?_
          refine az_goto (tgt := 146) dX12_between_142 ?_
          refine az_l2i dX12_between_146 ?_
          exact az_iret dX12_between_147 (by first | (rw [show lw_bin 3002 a b = lw_keep (a.toInt64 * b.toInt64) from rfl, keep_1 c121] at hQ; exact hQ) | (rw [show lw_bin 3002 a b = lw_keep (a.toInt64 * b.toInt64) from rfl, keep_2 c121 c135] at hQ; exact hQ) | (rw [show lw_bin 3002 a b = lw_keep (a.toInt64 * b.toInt64) from rfl, keep_3 c121 c135] at hQ; exact hQ))
      · refine az_ldc2 (v := lN 1000000) dX12_between_125 cn_X12_271 ?_
        refine az_goto (tgt := 146) dX12_between_128 ?_
        refine az_l2iN dX12_between_146 ?_
        exact az_iret dX12_between_147 (by first | (rw [show lw_bin 3002 a b = lw_keep (a.toInt64 * b.toInt64) from rfl, keep_1 c121] at hQ; exact hQ) | (rw [show lw_bin 3002 a b = lw_keep (a.toInt64 * b.toInt64) from rfl, keep_2 c121 c135] at hQ; exact hQ) | (rw [show lw_bin 3002 a b = lw_keep (a.toInt64 * b.toInt64) from rfl, keep_3 c121 c135] at hQ; exact hQ))
    · exact absurd c100 (by omega)
  · exact absurd c85 (by omega)
set_option maxRecDepth 100000 in
theorem m_bw_3003 {d : Nat} {a b : Int32} {hp : az_Hp} {Q : Option Value → az_Hp → Prop} (hQ : Q (some (.int (lw_bin 3003 a b))) hp) : az_M mX12_between d 0 0 [.int (nI 3003), .int a, .int b] hp Q := by

  refine az_M.of rfl (Nat.le_of_ble_eq_true rfl) ?_
  show az_W _ _ _ _ 0 [(0, .int (nI 3003)), (1, .int a), (2, .int b)] [] _ _
  refine az_iload_n dX12_between_0 ?_
  refine az_tswIn (off := 39) (tgt := 40) dX12_between_1 (by decide) (by decide) (by rfl) (by decide) ?_
  refine az_iload_n dX12_between_40 ?_
  refine az_iload_n dX12_between_41 ?_
  refine az_icmp_ne (tgt := 49) dX12_between_42 (fun c42 => ?_) (fun c42 => ?_)
  · refine az_iconst (v := nI 0) dX12_between_49 ?_
    exact az_iret dX12_between_50 (by first | (rw [show lw_bin 3003 a b = (if a = b then nI 1 else nI 0) from rfl, if_pos (by first | exact c42 | exact Decidable.byContradiction c42)] at hQ; exact hQ) | (rw [show lw_bin 3003 a b = (if a = b then nI 1 else nI 0) from rfl, if_neg c42] at hQ; exact hQ))
  · refine az_iconst (v := nI 1) dX12_between_45 ?_
    refine az_goto (tgt := 50) dX12_between_46 ?_
    exact az_iret dX12_between_50 (by first | (rw [show lw_bin 3003 a b = (if a = b then nI 1 else nI 0) from rfl, if_pos (by first | exact c42 | exact Decidable.byContradiction c42)] at hQ; exact hQ) | (rw [show lw_bin 3003 a b = (if a = b then nI 1 else nI 0) from rfl, if_neg c42] at hQ; exact hQ))
set_option maxRecDepth 100000 in
theorem m_bw_3004 {d : Nat} {a b : Int32} {hp : az_Hp} {Q : Option Value → az_Hp → Prop} (hQ : Q (some (.int (lw_bin 3004 a b))) hp) : az_M mX12_between d 0 0 [.int (nI 3004), .int a, .int b] hp Q := by

  refine az_M.of rfl (Nat.le_of_ble_eq_true rfl) ?_
  show az_W _ _ _ _ 0 [(0, .int (nI 3004)), (1, .int a), (2, .int b)] [] _ _
  refine az_iload_n dX12_between_0 ?_
  refine az_tswIn (off := 50) (tgt := 51) dX12_between_1 (by decide) (by decide) (by rfl) (by decide) ?_
  refine az_iload_n dX12_between_51 ?_
  refine az_iload_n dX12_between_52 ?_
  refine az_icmp_ge (tgt := 60) dX12_between_53 (fun c53 => ?_) (fun c53 => ?_)
  · refine az_iconst (v := nI 0) dX12_between_60 ?_
    exact az_iret dX12_between_61 (by first | (rw [show lw_bin 3004 a b = (if a < b then nI 1 else nI 0) from rfl, if_pos (Int32.not_le.mp c53)] at hQ; exact hQ) | (rw [show lw_bin 3004 a b = (if a < b then nI 1 else nI 0) from rfl, if_neg (Int32.not_lt.mpr c53)] at hQ; exact hQ))
  · refine az_iconst (v := nI 1) dX12_between_56 ?_
    refine az_goto (tgt := 61) dX12_between_57 ?_
    exact az_iret dX12_between_61 (by first | (rw [show lw_bin 3004 a b = (if a < b then nI 1 else nI 0) from rfl, if_pos (Int32.not_le.mp c53)] at hQ; exact hQ) | (rw [show lw_bin 3004 a b = (if a < b then nI 1 else nI 0) from rfl, if_neg (Int32.not_lt.mpr c53)] at hQ; exact hQ))
set_option maxRecDepth 100000 in
theorem m_bw_3005 {d : Nat} {a b : Int32} {hp : az_Hp} {Q : Option Value → az_Hp → Prop} (hQ : Q (some (.int (lw_bin 3005 a b))) hp) : az_M mX12_between d 0 0 [.int (nI 3005), .int a, .int b] hp Q := by

  refine az_M.of rfl (Nat.le_of_ble_eq_true rfl) ?_
  show az_W _ _ _ _ 0 [(0, .int (nI 3005)), (1, .int a), (2, .int b)] [] _ _
  refine az_iload_n dX12_between_0 ?_
  refine az_tswIn (off := 61) (tgt := 62) dX12_between_1 (by decide) (by decide) (by rfl) (by decide) ?_
  refine az_iload_n dX12_between_62 ?_
  refine az_iload_n dX12_between_63 ?_
  refine az_icmp_le (tgt := 71) dX12_between_64 (fun c64 => ?_) (fun c64 => ?_)
  · refine az_iconst (v := nI 0) dX12_between_71 ?_
    exact az_iret dX12_between_72 (by first | (rw [show lw_bin 3005 a b = (if b < a then nI 1 else nI 0) from rfl, if_pos (Int32.not_le.mp c64)] at hQ; exact hQ) | (rw [show lw_bin 3005 a b = (if b < a then nI 1 else nI 0) from rfl, if_neg (Int32.not_lt.mpr c64)] at hQ; exact hQ))
  · refine az_iconst (v := nI 1) dX12_between_67 ?_
    refine az_goto (tgt := 72) dX12_between_68 ?_
    exact az_iret dX12_between_72 (by first | (rw [show lw_bin 3005 a b = (if b < a then nI 1 else nI 0) from rfl, if_pos (Int32.not_le.mp c64)] at hQ; exact hQ) | (rw [show lw_bin 3005 a b = (if b < a then nI 1 else nI 0) from rfl, if_neg (Int32.not_lt.mpr c64)] at hQ; exact hQ))
set_option maxRecDepth 100000 in
theorem m_bw_3007 {d : Nat} {a b : Int32} {hp : az_Hp} {Q : Option Value → az_Hp → Prop} (hQ : Q (some (.int (lw_bin 3007 a b))) hp) : az_M mX12_between d 0 0 [.int (nI 3007), .int a, .int b] hp Q := by

  refine az_M.of rfl (Nat.le_of_ble_eq_true rfl) ?_
  show az_W _ _ _ _ 0 [(0, .int (nI 3007)), (1, .int a), (2, .int b)] [] _ _
  refine az_iload_n dX12_between_0 ?_
  refine az_tswIn (off := 72) (tgt := 73) dX12_between_1 (by decide) (by decide) (by rfl) (by decide) ?_
  refine az_iload_n dX12_between_73 ?_
  refine az_iload_n dX12_between_74 ?_
  refine az_iand dX12_between_75 ?_
  exact az_iret dX12_between_76 (hQ)
set_option maxRecDepth 100000 in
theorem m_bw_3008 {d : Nat} {a b : Int32} {hp : az_Hp} {Q : Option Value → az_Hp → Prop} (hQ : Q (some (.int (lw_bin 3008 a b))) hp) : az_M mX12_between d 0 0 [.int (nI 3008), .int a, .int b] hp Q := by

  refine az_M.of rfl (Nat.le_of_ble_eq_true rfl) ?_
  show az_W _ _ _ _ 0 [(0, .int (nI 3008)), (1, .int a), (2, .int b)] [] _ _
  refine az_iload_n dX12_between_0 ?_
  refine az_tswIn (off := 76) (tgt := 77) dX12_between_1 (by decide) (by decide) (by rfl) (by decide) ?_
  refine az_iload_n dX12_between_77 ?_
  refine az_iload_n dX12_between_78 ?_
  refine az_ior dX12_between_79 ?_
  exact az_iret dX12_between_80 (hQ)
theorem m_between {d c : Nat} {a b : Int32} {hp : az_Hp} {Q : Option Value → az_Hp → Prop} (hc : lw_is c) (hn : lw_nd c = 2) (hQ : Q (some (.int (lw_bin c a b))) hp) : az_M mX12_between d 0 0 [.int (nI c), .int a, .int b] hp Q := by
  have h : c = 3000 ∨ c = 3001 ∨ c = 3002 ∨ c = 3003 ∨ c = 3004 ∨ c = 3005 ∨ c = 3007 ∨ c = 3008 := by
    unfold lw_nd at hn
    unfold lw_is at hc
    split at hn
    · omega
    · split at hn
      · omega
      · split at hn <;> omega
  rcases h with rfl | rfl | rfl | rfl | rfl | rfl | rfl | rfl
  · exact m_bw_3000 hQ
  · exact m_bw_3001 hQ
  · exact m_bw_3002 hQ
  · exact m_bw_3003 hQ
  · exact m_bw_3004 hQ
  · exact m_bw_3005 hQ
  · exact m_bw_3007 hQ
  · exact m_bw_3008 hQ
/-- truths that wait are 0 or 1 -/
def lw_R : List Int32 → List Bool → Prop
  | [], [] => True
  | x :: s, t :: ts => (t = true → x = nI 0 ∨ x = nI 1) ∧ lw_R s ts
  | _, _ => False
theorem tv_not {x : Int32} (h : x = nI 0 ∨ x = nI 1) : nI 1 - x = nI 0 ∨ nI 1 - x = nI 1 := by
  rcases h with rfl | rfl
  · exact Or.inr (by decide)
  · exact Or.inl (by decide)
theorem tv_if (p : Prop) [Decidable p] : (if p then nI 1 else nI 0) = nI 0 ∨ (if p then nI 1 else nI 0) = nI 1 := by
  split
  · exact Or.inr rfl
  · exact Or.inl rfl
theorem tv_and {x y : Int32} (h : x = nI 0 ∨ x = nI 1) (h2 : y = nI 0 ∨ y = nI 1) : (x &&& y = nI 0 ∨ x &&& y = nI 1) ∧ (x ||| y = nI 0 ∨ x ||| y = nI 1) := by
  rcases h with rfl | rfl <;> rcases h2 with rfl | rfl <;> decide
theorem lw_R_st {en : Nat → Int32} {s : List Int32} {ts ts' : List Bool} {c : Nat} (H : lw_R s ts) (h : lw_ty (some ts) c = some ts') : lw_R (lw_st en s c) ts' := by
  unfold lw_ty at h
  unfold lw_st
  dsimp only at h
  split at h
  · rename_i h1
    rw [if_pos h1]
    split at h
    · cases h
      exact ⟨fun q => (by cases q), H⟩
    · cases h
  · rename_i h1
    rw [if_neg h1]
    split at h
    · rename_i h2
      rw [if_pos h2]
      split at h
      · cases h
        match s, H with
        | x :: r, H => exact ⟨fun _ => tv_not (H.1 rfl), H.2⟩
      · cases h
    · rename_i h2
      rw [if_neg h2]
      split at h
      · rename_i h3
        rw [if_pos h3]
        split at h
        · cases h
          match s, H with
          | e :: t :: q :: r, H => exact ⟨fun q => (by cases q), H.2.2.2⟩
        · cases h
      · rename_i h3
        rw [if_neg h3]
        split at h
        · split at h
          · cases h
            match s, H with
            | b :: a :: r, H => exact ⟨fun q => (by cases q), H.2.2⟩
          · cases h
        · rename_i h4
          split at h
          · rename_i h5
            split at h
            · cases h
              match s, H with
              | b :: a :: r, H =>
                refine ⟨fun _ => ?_, H.2.2⟩
                rcases h5 with rfl | rfl | rfl
                · exact tv_if _
                · exact tv_if _
                · exact tv_if _
            · cases h
          · split at h
            · rename_i h5
              split at h
              · cases h
                match s, H with
                | b :: a :: r, H =>
                  refine ⟨fun _ => ?_, H.2.2⟩
                  rcases h5 with rfl | rfl
                  · exact (tv_and (H.2.1 rfl) (H.1 rfl)).1
                  · exact (tv_and (H.2.1 rfl) (H.1 rfl)).2
              · cases h
            · cases h
theorem ty_3009 {ts ts' : List Bool} (h : lw_ty (some ts) 3009 = some ts') : ∃ r, ts = false :: false :: true :: r := by
  unfold lw_ty at h
  dsimp only at h
  rw [if_neg (by decide), if_neg (by decide), if_pos rfl] at h
  split at h
  · exact ⟨_, rfl⟩
  · cases h
set_option maxHeartbeats 4000000 in
set_option maxRecDepth 100000 in
theorem m_reckons {d l : Nat} {sc : Nat → Value} {A : Nat → Nat} {ks : List Nat} {t9 : Bool} {en : Nat → Int32} {f72 f73 : Nat → Int32} {hp : az_Hp} {Q : Option Value → az_Hp → Prop} (hd : 1 ≤ d) (hl : l < 2) (hks : ks ≠ []) (hwf : lw_wf ks = some [t9]) (h64 : hp.2 64 = some (mo_o sc)) (h65 : hp.2 65 = some (az_I 3318 (fun j => nI (A j)))) (hL : mL A l ks) (h72 : hp.2 72 = some (az_I 900 f72)) (h73 : hp.2 73 = some (az_I 5 f73)) (hen : ∀ j, j < 5 → f73 j = en j) (hQ : ∀ v9 wa, lw_ev en ks = [v9] → (t9 = true → v9 = nI 0 ∨ v9 = nI 1) → Q (some (.int v9)) (az_up hp 72 (az_I 900 wa))) : az_M mX12_reckons d 0 0 [.ref 64, .int (nI l)] hp Q := by
  obtain ⟨-, hA9, hA7, hco⟩ := hL.2 hks
  have loop : ∀ (k : Nat) (i : Nat) (s : List Int32) (ts1 : List Bool) (m0 : Nat) (wa : Nat → Int32) (h' : az_Hp), ks.length - i = k → (i ≤ ks.length) → (s = lw_ev en (ks.take i)) → (lw_wf (ks.take i) = some ts1) → (ts1.length = m0) → (s.length = m0) → (m0 ≤ 64) → (lw_hold wa s) → (lw_R s ts1) → (h' = az_up hp 72 (az_I 900 wa)) → az_W mX12_reckons d 0 0 4 [(0, .ref 64), (1, .int (nI l)), (2, .int (nI m0)), (3, .int (nI i))] [] h' Q := by
    intro k
    induction k using Nat.strongRecOn with
    | _ k ih =>
    intro i s ts1 m0 wa h' hk hi9 hs hts hln hsl hs64 hh hR he
    refine az_iload_n dX12_reckons_4 ?_
    refine az_aload_n dX12_reckons_5 ?_
    refine az_getf (v := .ref 65) dX12_reckons_6 fl_X12_13 (by rw [he]; exact az_up_ne h64) ?_
    refine az_bipush (v := nI 109) dX12_reckons_9 ?_
    refine az_iload_n dX12_reckons_11 ?_
    refine az_iaddN dX12_reckons_12 ?_
    refine az_ialdN (j := 109 + l) dX12_reckons_13 (by rw [he]; exact az_up_ne h65) ?_
    rw [hA9]
    refine az_icmp_geN (tgt := 199) dX12_reckons_14 (fun c14 => ?_) (fun c14 => ?_)
    · obtain rfl : i = ks.length := by omega
      rw [List.take_length] at hs hts
      obtain rfl : ts1 = [t9] := (by rw [hwf] at hts; cases hts; rfl)
      obtain ⟨v9, r9, hse, hr9⟩ := len1 (s := s) (n := 0) (by rw [hsl, ← hln]; rfl)
      have hr0 := List.length_eq_zero_iff.mp hr9
      rw [hr0] at hse
      have hx0 : wa 0 = v9 := (by have := hh 0 v9 (by rw [hse]; rfl); rw [show s.length - 1 - 0 = 0 by rw [hse]; rfl] at this; exact this)
      refine az_aload_n dX12_reckons_199 ?_
      refine az_getf (v := .ref 72) dX12_reckons_200 fl_X12_40 (by rw [he]; exact az_up_ne h64) ?_
      refine az_iconst (v := nI 0) dX12_reckons_203 ?_
      refine az_ialdN (j := 0) dX12_reckons_204 (by rw [he]; exact az_up_eq) ?_
      rw [hx0]
      exact az_iret dX12_reckons_205 (by rw [he]; exact hQ v9 _ (hs.symm.trans hse) (by rw [hse] at hR; exact hR.1))
    · have hik : i < ks.length := by omega
      have hty := lw_wf_snoc hik
      obtain ⟨ts2, hts2⟩ := lw_wf_pre hwf (i + 1)
      rw [hts, hts2] at hty
      have hsn := lw_ev_snoc en hik
      refine az_aload_n dX12_reckons_17 ?_
      refine az_getf (v := .ref 65) dX12_reckons_18 fl_X12_13 (by rw [he]; exact az_up_ne h64) ?_
      refine az_sipush (v := nI 206) dX12_reckons_21 ?_
      refine az_aload_n dX12_reckons_24 ?_
      refine az_getf (v := .ref 65) dX12_reckons_25 fl_X12_13 (by rw [he]; exact az_up_ne h64) ?_
      refine az_bipush (v := nI 107) dX12_reckons_28 ?_
      refine az_iload_n dX12_reckons_30 ?_
      refine az_iaddN dX12_reckons_31 ?_
      refine az_ialdN (j := 107 + l) dX12_reckons_32 (by rw [he]; exact az_up_ne h65) ?_
      refine az_iaddN dX12_reckons_33 ?_
      refine az_iload_n dX12_reckons_34 ?_
      refine az_iaddN dX12_reckons_35 ?_
      refine az_ialdN (j := (206 + (A (107 + l))) + i) dX12_reckons_36 (by rw [he]; exact az_up_ne h65) ?_
      rw [hco i (by omega)]
      generalize hc9 : ks.getD i 0 = c9 at hty hsn ⊢
      obtain ⟨hcis, hle, hl2, hmx, h64'⟩ := lw_ty_len hty.symm
      rw [← hs] at hsn
      have hR2 := lw_R_st (en := en) hR hty.symm
      rw [← hsn] at hR2
      have hc31 : c9 < 4000 := (by unfold lw_is at hcis; omega)
      refine az_istore (ls' := [(0, .ref 64), (1, .int (nI l)), (2, .int (nI m0)), (3, .int (nI i)), (4, .int (nI c9))]) dX12_reckons_37 ?_
      refine az_iload dX12_reckons_39 ?_
      refine az_sipush (v := nI 3000) dX12_reckons_41 ?_
      refine az_icmp_geN (tgt := 83) dX12_reckons_44 (fun c44 => ?_) (fun c44 => ?_)
      · refine az_iload dX12_reckons_83 ?_
        refine az_sipush (v := nI 3006) dX12_reckons_85 ?_
        refine az_icmp_neN (tgt := 112) dX12_reckons_88 (fun c88 => ?_) (fun c88 => ?_)
        · refine az_iload dX12_reckons_112 ?_
          refine az_sipush (v := nI 3009) dX12_reckons_114 ?_
          refine az_icmp_neN (tgt := 163) dX12_reckons_117 (fun c117 => ?_) (fun c117 => ?_)
          · have hnd2 : lw_nd c9 = 2 := (by unfold lw_is at hcis; rw [lw_nd, if_neg (by omega), if_neg c88, if_neg c117])
            obtain ⟨tp, rfl⟩ : ∃ tp, m0 = tp + 2 := ⟨m0 - 2, by omega⟩
            obtain ⟨b9, a9, r9, hse, hr9⟩ := len2 (s := s) (n := tp) (by omega)
            have hst : lw_st en s c9 = lw_bin c9 a9 b9 :: r9 := (by rw [hse]; exact lw_st2 hnd2)
            have hx1 : wa (tp + 1) = b9 := (by have := hh 0 b9 (by rw [hse]; rfl); rw [show s.length - 1 - 0 = tp + 1 by omega] at this; exact this)
            have hx0 : wa tp = a9 := (by have := hh 1 a9 (by rw [hse]; rfl); rw [show s.length - 1 - 1 = tp by omega] at this; exact this)
            have hho : ∀ v, lw_hold (az_s wa tp v) (v :: r9) := fun v => (by rw [← hr9]; exact lw_hold_put (p := [b9, a9]) (by rw [hse] at hh; exact hh))
            refine az_iinc (v := nI (tp + 1)) (ls' := [(0, .ref 64), (1, .int (nI l)), (2, .int (nI (tp + 1))), (3, .int (nI i)), (4, .int (nI c9))]) dX12_reckons_163 ?_ (hx := (by rw [show Int32.ofInt (-1) = -(nI 1) by decide, ← Int32.sub_eq_add_neg, nI_subN (by omega)]; rfl))
            refine az_aload_n dX12_reckons_166 ?_
            refine az_getf (v := .ref 72) dX12_reckons_167 fl_X12_40 (by rw [he]; exact az_up_ne h64) ?_
            refine az_iload_n dX12_reckons_170 ?_
            refine az_iconst (v := nI 1) dX12_reckons_171 ?_
            refine az_isubN dX12_reckons_172 (by omega) ?_
            rw [show tp + 1 - 1 = tp from rfl]
            refine az_iload dX12_reckons_173 ?_
            refine az_aload_n dX12_reckons_175 ?_
            refine az_getf (v := .ref 72) dX12_reckons_176 fl_X12_40 (by rw [he]; exact az_up_ne h64) ?_
            refine az_iload_n dX12_reckons_179 ?_
            refine az_iconst (v := nI 1) dX12_reckons_180 ?_
            refine az_isubN dX12_reckons_181 (by omega) ?_
            rw [show tp + 1 - 1 = tp from rfl]
            refine az_ialdN (j := tp) dX12_reckons_182 (by rw [he]; exact az_up_eq) ?_
            rw [hx0]
            refine az_aload_n dX12_reckons_183 ?_
            refine az_getf (v := .ref 72) dX12_reckons_184 fl_X12_40 (by rw [he]; exact az_up_ne h64) ?_
            refine az_iload_n dX12_reckons_187 ?_
            refine az_ialdN (j := tp + 1) dX12_reckons_188 (by rw [he]; exact az_up_eq) ?_
            rw [hx1]
            refine az_cS0 (st := [.int (nI tp), .ref 72]) dX12_reckons_189 ml_X12_275 (m_between (d := d - 1) hcis hnd2 ?_)
            refine az_iastN (j := tp) dX12_reckons_192 (by rw [he]; exact az_up_eq) ?_
            refine az_iincN (n := 1) (ls' := [(0, .ref 64), (1, .int (nI l)), (2, .int (nI (tp + 1))), (3, .int (nI (i + 1))), (4, .int (nI c9))]) dX12_reckons_193 ?_
            refine az_goto (tgt := 4) dX12_reckons_196 ?_
            refine az_W.keep (ls' := [(0, .ref 64), (1, .int (nI l)), (2, .int (nI (tp + 1))), (3, .int (nI (i + 1)))]) [0, 1, 2, 3] rfl ?_
            first | exact ih _ (by omega) (i + 1) (_ :: r9) ts2 (tp + 1) _ _ rfl (by omega) (hsn.trans hst).symm hts2 (by omega) (by simp; omega) (by omega) (hho _) (by rw [hsn.trans hst] at hR2; exact hR2) (by rw [he, az_up_up]) | exact ih _ (by omega) (i + 1) (_ :: s) ts2 (m0 + 1) _ _ rfl (by omega) (hsn.trans hst).symm hts2 (by omega) (by simp; omega) (by omega) (hho _) (by rw [hsn.trans hst] at hR2; exact hR2) (by rw [he, az_up_up])
          · subst c117
            have hnd3 : lw_nd 3009 = 3 := rfl
            obtain ⟨tp, rfl⟩ : ∃ tp, m0 = tp + 3 := ⟨m0 - 3, by omega⟩
            obtain ⟨e9, t9', q9, r9, hse, hr9⟩ := len3 (s := s) (n := tp) (by omega)
            have hst : lw_st en s 3009 = (if q9 = 0 then e9 else t9') :: r9 := (by rw [hse]; exact lw_st3)
            obtain ⟨rt, hrt⟩ := ty_3009 hty.symm
            have hq01 : q9 = nI 0 ∨ q9 = nI 1 := (by rw [hrt, hse] at hR; exact hR.2.2.1 rfl)
            have hx2 : wa (tp + 2) = e9 := (by have := hh 0 e9 (by rw [hse]; rfl); rw [show s.length - 1 - 0 = tp + 2 by omega] at this; exact this)
            have hx1 : wa (tp + 1) = t9' := (by have := hh 1 t9' (by rw [hse]; rfl); rw [show s.length - 1 - 1 = tp + 1 by omega] at this; exact this)
            have hx0 : wa tp = q9 := (by have := hh 2 q9 (by rw [hse]; rfl); rw [show s.length - 1 - 2 = tp by omega] at this; exact this)
            have hho : ∀ v, lw_hold (az_s wa tp v) (v :: r9) := fun v => (by rw [← hr9]; exact lw_hold_put (p := [e9, t9', q9]) (by rw [hse] at hh; exact hh))
            refine az_iinc (v := nI (tp + 1)) (ls' := [(0, .ref 64), (1, .int (nI l)), (2, .int (nI (tp + 1))), (3, .int (nI i)), (4, .int (nI 3009))]) dX12_reckons_120 ?_ (hx := (by rw [show Int32.ofInt (-2) = -(nI 2) by decide, ← Int32.sub_eq_add_neg, nI_subN (by omega)]; rfl))
            refine az_aload_n dX12_reckons_123 ?_
            refine az_getf (v := .ref 72) dX12_reckons_124 fl_X12_40 (by rw [he]; exact az_up_ne h64) ?_
            refine az_iload_n dX12_reckons_127 ?_
            refine az_iconst (v := nI 1) dX12_reckons_128 ?_
            refine az_isubN dX12_reckons_129 (by omega) ?_
            rw [show tp + 1 - 1 = tp from rfl]
            refine az_aload_n dX12_reckons_130 ?_
            refine az_getf (v := .ref 72) dX12_reckons_131 fl_X12_40 (by rw [he]; exact az_up_ne h64) ?_
            refine az_iload_n dX12_reckons_134 ?_
            refine az_iconst (v := nI 1) dX12_reckons_135 ?_
            refine az_isubN dX12_reckons_136 (by omega) ?_
            rw [show tp + 1 - 1 = tp from rfl]
            refine az_ialdN (j := tp) dX12_reckons_137 (by rw [he]; exact az_up_eq) ?_
            rw [hx0]
            refine az_iconst (v := nI 1) dX12_reckons_138 ?_
            refine az_icmp_ne (tgt := 151) dX12_reckons_139 (fun c139 => ?_) (fun c139 => ?_)
            · refine az_aload_n dX12_reckons_151 ?_
              refine az_getf (v := .ref 72) dX12_reckons_152 fl_X12_40 (by rw [he]; exact az_up_ne h64) ?_
              refine az_iload_n dX12_reckons_155 ?_
              refine az_iconst (v := nI 1) dX12_reckons_156 ?_
              refine az_iaddN dX12_reckons_157 ?_
              refine az_ialdN (j := (tp + 1) + 1) dX12_reckons_158 (by rw [he]; exact az_up_eq) ?_
              rw [show tp + 1 + 1 = tp + 2 from rfl, hx2]
              rw [if_pos (by rcases hq01 with q | q; rw [q]; rfl; exact absurd q c139)] at hst
              refine az_iastN (j := tp) dX12_reckons_159 (by rw [he]; exact az_up_eq) ?_
              refine az_goto (tgt := 193) dX12_reckons_160 ?_
              refine az_iincN (n := 1) (ls' := [(0, .ref 64), (1, .int (nI l)), (2, .int (nI (tp + 1))), (3, .int (nI (i + 1))), (4, .int (nI 3009))]) dX12_reckons_193 ?_
              refine az_goto (tgt := 4) dX12_reckons_196 ?_
              refine az_W.keep (ls' := [(0, .ref 64), (1, .int (nI l)), (2, .int (nI (tp + 1))), (3, .int (nI (i + 1)))]) [0, 1, 2, 3] rfl ?_
              first | exact ih _ (by omega) (i + 1) (_ :: r9) ts2 (tp + 1) _ _ rfl (by omega) (hsn.trans hst).symm hts2 (by omega) (by simp; omega) (by omega) (hho _) (by rw [hsn.trans hst] at hR2; exact hR2) (by rw [he, az_up_up]) | exact ih _ (by omega) (i + 1) (_ :: s) ts2 (m0 + 1) _ _ rfl (by omega) (hsn.trans hst).symm hts2 (by omega) (by simp; omega) (by omega) (hho _) (by rw [hsn.trans hst] at hR2; exact hR2) (by rw [he, az_up_up])
            · refine az_aload_n dX12_reckons_142 ?_
              refine az_getf (v := .ref 72) dX12_reckons_143 fl_X12_40 (by rw [he]; exact az_up_ne h64) ?_
              refine az_iload_n dX12_reckons_146 ?_
              refine az_ialdN (j := tp + 1) dX12_reckons_147 (by rw [he]; exact az_up_eq) ?_
              rw [hx1]
              rw [if_neg (by rcases hq01 with q | q; exact absurd (q.symm.trans (by first | exact c139 | exact Decidable.byContradiction c139)) (by decide); rw [q]; decide)] at hst
              refine az_goto (tgt := 159) dX12_reckons_148 ?_
              refine az_iastN (j := tp) dX12_reckons_159 (by rw [he]; exact az_up_eq) ?_
              refine az_goto (tgt := 193) dX12_reckons_160 ?_
              refine az_iincN (n := 1) (ls' := [(0, .ref 64), (1, .int (nI l)), (2, .int (nI (tp + 1))), (3, .int (nI (i + 1))), (4, .int (nI 3009))]) dX12_reckons_193 ?_
              refine az_goto (tgt := 4) dX12_reckons_196 ?_
              refine az_W.keep (ls' := [(0, .ref 64), (1, .int (nI l)), (2, .int (nI (tp + 1))), (3, .int (nI (i + 1)))]) [0, 1, 2, 3] rfl ?_
              first | exact ih _ (by omega) (i + 1) (_ :: r9) ts2 (tp + 1) _ _ rfl (by omega) (hsn.trans hst).symm hts2 (by omega) (by simp; omega) (by omega) (hho _) (by rw [hsn.trans hst] at hR2; exact hR2) (by rw [he, az_up_up]) | exact ih _ (by omega) (i + 1) (_ :: s) ts2 (m0 + 1) _ _ rfl (by omega) (hsn.trans hst).symm hts2 (by omega) (by simp; omega) (by omega) (hho _) (by rw [hsn.trans hst] at hR2; exact hR2) (by rw [he, az_up_up])
        · subst c88
          have hnd1 : lw_nd 3006 = 1 := rfl
          obtain ⟨tp, rfl⟩ : ∃ tp, m0 = tp + 1 := ⟨m0 - 1, by omega⟩
          obtain ⟨x9, r9, hse, hr9⟩ := len1 (s := s) (n := tp) (by omega)
          have hst : lw_st en s 3006 = (nI 1 - x9) :: r9 := (by rw [hse]; exact lw_st1)
          have hx0 : wa tp = x9 := (by have := hh 0 x9 (by rw [hse]; rfl); rw [show s.length - 1 - 0 = tp by omega] at this; exact this)
          have hho : ∀ v, lw_hold (az_s wa tp v) (v :: r9) := fun v => (by rw [← hr9]; exact lw_hold_put (p := [x9]) (by rw [hse] at hh; exact hh))
          refine az_aload_n dX12_reckons_91 ?_
          refine az_getf (v := .ref 72) dX12_reckons_92 fl_X12_40 (by rw [he]; exact az_up_ne h64) ?_
          refine az_iload_n dX12_reckons_95 ?_
          refine az_iconst (v := nI 1) dX12_reckons_96 ?_
          refine az_isubN dX12_reckons_97 (by omega) ?_
          rw [show tp + 1 - 1 = tp from rfl]
          refine az_iconst (v := nI 1) dX12_reckons_98 ?_
          refine az_aload_n dX12_reckons_99 ?_
          refine az_getf (v := .ref 72) dX12_reckons_100 fl_X12_40 (by rw [he]; exact az_up_ne h64) ?_
          refine az_iload_n dX12_reckons_103 ?_
          refine az_iconst (v := nI 1) dX12_reckons_104 ?_
          refine az_isubN dX12_reckons_105 (by omega) ?_
          rw [show tp + 1 - 1 = tp from rfl]
          refine az_ialdN (j := tp) dX12_reckons_106 (by rw [he]; exact az_up_eq) ?_
          rw [hx0]
          refine az_isub dX12_reckons_107 ?_
          refine az_iastN (j := tp) dX12_reckons_108 (by rw [he]; exact az_up_eq) ?_
          refine az_goto (tgt := 193) dX12_reckons_109 ?_
          refine az_iincN (n := 1) (ls' := [(0, .ref 64), (1, .int (nI l)), (2, .int (nI (tp + 1))), (3, .int (nI (i + 1))), (4, .int (nI 3006))]) dX12_reckons_193 ?_
          refine az_goto (tgt := 4) dX12_reckons_196 ?_
          refine az_W.keep (ls' := [(0, .ref 64), (1, .int (nI l)), (2, .int (nI (tp + 1))), (3, .int (nI (i + 1)))]) [0, 1, 2, 3] rfl ?_
          first | exact ih _ (by omega) (i + 1) (_ :: r9) ts2 (tp + 1) _ _ rfl (by omega) (hsn.trans hst).symm hts2 (by omega) (by simp; omega) (by omega) (hho _) (by rw [hsn.trans hst] at hR2; exact hR2) (by rw [he, az_up_up]) | exact ih _ (by omega) (i + 1) (_ :: s) ts2 (m0 + 1) _ _ rfl (by omega) (hsn.trans hst).symm hts2 (by omega) (by simp; omega) (by omega) (hho _) (by rw [hsn.trans hst] at hR2; exact hR2) (by rw [he, az_up_up])
      · have hlt9 : c9 < 1005 := (by unfold lw_is at hcis; omega)
        have hnd0 : lw_nd c9 = 0 := (by rw [lw_nd, if_pos (by omega)])
        have hm64 := h64' hnd0
        have hst := lw_st0 (en := en) (s := s) hlt9
        have hho : ∀ v, lw_hold (az_s wa m0 v) (v :: s) := fun v => (by rw [← hsl]; exact lw_hold_put (p := []) hh)
        refine az_aload_n dX12_reckons_47 ?_
        refine az_getf (v := .ref 72) dX12_reckons_48 fl_X12_40 (by rw [he]; exact az_up_ne h64) ?_
        refine az_iload_n dX12_reckons_51 ?_
        refine az_iload dX12_reckons_52 ?_
        refine az_sipush (v := nI 1000) dX12_reckons_54 ?_
        refine az_icmp_geN (tgt := 65) dX12_reckons_57 (fun c57 => ?_) (fun c57 => ?_)
        · rw [if_neg (show ¬ c9 < 1000 by omega)] at hst
          refine az_aload_n dX12_reckons_65 ?_
          refine az_getf (v := .ref 73) dX12_reckons_66 fl_X12_43 (by rw [he]; exact az_up_ne h64) ?_
          refine az_iload dX12_reckons_69 ?_
          refine az_sipush (v := nI 1000) dX12_reckons_71 ?_
          refine az_isubN dX12_reckons_74 (by omega) ?_
          refine az_ialdN (j := c9 - 1000) dX12_reckons_75 (by rw [he]; exact az_up_ne h73) ?_
          rw [hen (c9 - 1000) (by omega)]
          refine az_iastN (j := m0) dX12_reckons_76 (by rw [he]; exact az_up_eq) ?_
          refine az_iincN (n := 1) (ls' := [(0, .ref 64), (1, .int (nI l)), (2, .int (nI (m0 + 1))), (3, .int (nI i)), (4, .int (nI c9))]) dX12_reckons_77 ?_
          refine az_goto (tgt := 193) dX12_reckons_80 ?_
          refine az_iincN (n := 1) (ls' := [(0, .ref 64), (1, .int (nI l)), (2, .int (nI (m0 + 1))), (3, .int (nI (i + 1))), (4, .int (nI c9))]) dX12_reckons_193 ?_
          refine az_goto (tgt := 4) dX12_reckons_196 ?_
          refine az_W.keep (ls' := [(0, .ref 64), (1, .int (nI l)), (2, .int (nI (m0 + 1))), (3, .int (nI (i + 1)))]) [0, 1, 2, 3] rfl ?_
          first | exact ih _ (by omega) (i + 1) (_ :: r9) ts2 (tp + 1) _ _ rfl (by omega) (hsn.trans hst).symm hts2 (by omega) (by simp; omega) (by omega) (hho _) (by rw [hsn.trans hst] at hR2; exact hR2) (by rw [he, az_up_up]) | exact ih _ (by omega) (i + 1) (_ :: s) ts2 (m0 + 1) _ _ rfl (by omega) (hsn.trans hst).symm hts2 (by omega) (by simp; omega) (by omega) (hho _) (by rw [hsn.trans hst] at hR2; exact hR2) (by rw [he, az_up_up])
        · rw [if_pos (show c9 < 1000 by omega)] at hst
          refine az_iload dX12_reckons_60 ?_
          refine az_goto (tgt := 76) dX12_reckons_62 ?_
          refine az_iastN (j := m0) dX12_reckons_76 (by rw [he]; exact az_up_eq) ?_
          refine az_iincN (n := 1) (ls' := [(0, .ref 64), (1, .int (nI l)), (2, .int (nI (m0 + 1))), (3, .int (nI i)), (4, .int (nI c9))]) dX12_reckons_77 ?_
          refine az_goto (tgt := 193) dX12_reckons_80 ?_
          refine az_iincN (n := 1) (ls' := [(0, .ref 64), (1, .int (nI l)), (2, .int (nI (m0 + 1))), (3, .int (nI (i + 1))), (4, .int (nI c9))]) dX12_reckons_193 ?_
          refine az_goto (tgt := 4) dX12_reckons_196 ?_
          refine az_W.keep (ls' := [(0, .ref 64), (1, .int (nI l)), (2, .int (nI (m0 + 1))), (3, .int (nI (i + 1)))]) [0, 1, 2, 3] rfl ?_
          first | exact ih _ (by omega) (i + 1) (_ :: r9) ts2 (tp + 1) _ _ rfl (by omega) (hsn.trans hst).symm hts2 (by omega) (by simp; omega) (by omega) (hho _) (by rw [hsn.trans hst] at hR2; exact hR2) (by rw [he, az_up_up]) | exact ih _ (by omega) (i + 1) (_ :: s) ts2 (m0 + 1) _ _ rfl (by omega) (hsn.trans hst).symm hts2 (by omega) (by simp; omega) (by omega) (hho _) (by rw [hsn.trans hst] at hR2; exact hR2) (by rw [he, az_up_up])
  refine az_M.of rfl (Nat.le_of_ble_eq_true rfl) ?_
  show az_W _ _ _ _ 0 [(0, .ref 64), (1, .int (nI l))] [] _ _
  refine az_iconst (v := nI 0) dX12_reckons_0 ?_
  refine az_istore_n (ls' := [(0, .ref 64), (1, .int (nI l)), (2, .int (nI 0))]) dX12_reckons_1 ?_
  refine az_iconst (v := nI 0) dX12_reckons_2 ?_
  refine az_istore_n (ls' := [(0, .ref 64), (1, .int (nI l)), (2, .int (nI 0)), (3, .int (nI 0))]) dX12_reckons_3 ?_
  exact loop _ 0 [] [] 0 f72 _ rfl (Nat.zero_le _) rfl rfl rfl rfl (Nat.zero_le _) (fun j v h => by simp at h) trivial (az_up_same h72).symm
theorem rem_pt {v : Int32} {T : Nat} (h1 : 1 ≤ T) (h3 : T ≤ 3) : (¬ v - v / nI T * nI T < 0 → v - v / nI T * nI T = nI (ln_pt v T)) ∧ (v - v / nI T * nI T < 0 → v - v / nI T * nI T + nI T = nI (ln_pt v T)) := by
  have hf := fm_pt (v := v) h1 h3
  have hT : (nI T).toInt = T := nI_toInt (by omega)
  have hr := rem_toInt v (nI T)
  rw [hT] at hr
  have h00 : (0 : Int32).toInt = 0 := rfl
  unfold az_fm at hf
  have hx := xor_sign (x := v) (y := nI T) (nI_pos' (by omega))
  by_cases hv : 0 ≤ v
  · rw [if_pos (hx.mpr hv)] at hf
    refine ⟨fun _ => hf, fun h => ?_⟩
    rw [Int32.lt_iff_toInt_lt, hr] at h
    rw [Int32.le_iff_toInt_le] at hv
    have := Int.tmod_nonneg (T : Int) (show (0 : Int) ≤ v.toInt by omega)
    omega
  · rw [if_neg (fun q => hv (hx.mp q))] at hf
    by_cases h0 : v - v / nI T * nI T = 0
    · rw [if_pos h0] at hf
      refine ⟨fun _ => hf, fun h => ?_⟩
      rw [h0] at h
      exact absurd h (by decide)
    · rw [if_neg h0] at hf
      refine ⟨fun h => ?_, fun _ => hf⟩
      exfalso
      rw [Int32.le_iff_toInt_le] at hv
      rw [Int32.lt_iff_toInt_lt, hr] at h
      have h5 : (-v.toInt).tmod (T : Int) = -(v.toInt.tmod T) := Int.neg_tmod _ _
      have h6 := Int.tmod_nonneg (T : Int) (show (0 : Int) ≤ -v.toInt by omega)
      exact h0 (Int32.toInt_inj.mp (by rw [hr]; omega))

