/-! Survey.fill -/
theorem wT_cap {w : ln_W} {bs : List Nat} {g : Nat → Nat} {l9 x : Nat} (h : l9 < bs.length) : min (ln_ws w (bs.getD l9 0) x (fun y => min (ln_wT w bs g (l9 + 1) y) 2000000000000) (ln_sz w (bs.getD l9 0 * 6 + x))) 2000000000000 = min (ln_wT w bs g l9 x) 2000000000000 := by
  rw [wT_step h, ln_ws, ln_ws, cap_sum 2000000000000 (fun y => ln_wT w bs g (l9 + 1) y)]
set_option maxHeartbeats 4000000 in
set_option maxRecDepth 100000 in
theorem s_fill {d a t o mo ni : Nat} {lt : Int32} {w : ln_W} {bs : List Nat} {g : Nat → Nat} {f : Nat → Int64} {hp : az_Hp} {Q : Option Value → az_Hp → Prop} (hd : 1 ≤ d) (hw : ln_ok w) (hb : ln_by w bs) (hT : ln_To hp t w o (o + 1)) (hS : ln_Scene hp a t w mo ni bs) (hoa : o < a ∨ a + 8 ≤ o) (ho : hp.2 o = some (az_J 366 f)) (hga : ∀ x, x < 6 → lt = (-1) → g x = 1) (hgb : ∀ x, x < 6 → ¬ lt = (-1) → lt = nI x → g x = 1) (hgc : ∀ x, x < 6 → ¬ lt = (-1) → ¬ lt = nI x → g x = 0) (hQ : ∀ g9 : Nat → Nat, (∀ k x, k ≤ bs.length → x < 6 → g9 (k * 6 + x) = min (ln_wT w bs g k x) 2000000000000) → Q none (az_up hp o (az_J 366 (fun j => lN (g9 j))))) : az_M mX7_fill d 0 0 [.ref a, .ref o, .int lt] hp Q := by
  obtain ⟨hi, fr, la, no, wa, nc, g0, -, g2, t2, -⟩ := id hS
  obtain ⟨a4, a5, hT0, -⟩ := id hT
  obtain ⟨f9, hf9⟩ := lN_ex f
  subst hf9
  have h60 := hb.1
  have hg9 : ∀ y, y < 6 → g y ≤ 1 := by
    intro y h3
    by_cases q1 : lt = (-1)
    · rw [hga y h3 q1]; exact Nat.le_refl 1
    · by_cases q2 : lt = nI y
      · rw [hgb y h3 q1 q2]; exact Nat.le_refl 1
      · rw [hgc y h3 q1 q2]; exact Nat.zero_le 1
  have inner : ∀ (k : Nat) (l9 x i : Nat) (g9 : Nat → Nat) (h' : az_Hp) (hl9 : l9 < bs.length) (hx6 : x < 6) (hF : ∀ k x, l9 + 1 ≤ k → k ≤ bs.length → x < 6 → g9 (k * 6 + x) = min (ln_wT w bs g k x) 2000000000000) (he : h' = az_up hp o (az_J 366 (fun j => lN (g9 j)))) (hK : az_W mX7_fill d 0 0 139 [(0, .ref a), (1, .ref o), (2, .int lt), (3, .ref t), (4, .int (nI l9)), (5, .int (nI (bs.getD l9 0))), (6, .int (nI ((l9 + 1) * 6))), (7, .int (nI x)), (8, .int (nI (ln_sz w (bs.getD l9 0 * 6 + x)))), (9, .long (lN (ln_ws w (bs.getD l9 0) x (fun y => min (ln_wT w bs g (l9 + 1) y) 2000000000000) (ln_sz w (bs.getD l9 0 * 6 + x))))), (11, .int (nI (ln_sz w (bs.getD l9 0 * 6 + x))))] [] h' Q), ln_sz w (bs.getD l9 0 * 6 + x) - i = k → (i ≤ ln_sz w (bs.getD l9 0 * 6 + x)) → az_W mX7_fill d 0 0 106 [(0, .ref a), (1, .ref o), (2, .int lt), (3, .ref t), (4, .int (nI l9)), (5, .int (nI (bs.getD l9 0))), (6, .int (nI ((l9 + 1) * 6))), (7, .int (nI x)), (8, .int (nI (ln_sz w (bs.getD l9 0 * 6 + x)))), (9, .long (lN (ln_ws w (bs.getD l9 0) x (fun y => min (ln_wT w bs g (l9 + 1) y) 2000000000000) i))), (11, .int (nI i))] [] h' Q := by
    intro k
    induction k using Nat.strongRecOn with
    | _ k ih =>
    intro l9 x i g9 h' hl9 hx6 hF he hK hk hi9
    have hT' : ln_Town h' t w := (hT.fr (by rw [he]; exact az_fr.rf.up)).town
    obtain ⟨a4', a5', hT0', -⟩ := id hT'
    have hz4 := hw.2.2.2.2.2.2.1 (bs.getD l9 0 * 6 + x)
    have hb3 : bs.getD l9 0 < 3 := Nat.lt_of_lt_of_le (hb.2.1 _ (getD_mem hl9)) hw.2.1
    refine az_iload dX7_fill_106 ?_
    refine az_iload dX7_fill_108 ?_
    refine az_icmp_geN (tgt := 139) dX7_fill_110 (fun c110 => ?_) (fun c110 => ?_)
    · obtain rfl : i = ln_sz w (bs.getD l9 0 * 6 + x) := by omega
      exact hK
    · refine az_lload dX7_fill_113 ?_
      refine az_aload_n dX7_fill_115 ?_
      refine az_iload dX7_fill_116 ?_
      refine az_aload_n dX7_fill_118 ?_
      refine az_iload dX7_fill_119 ?_
      refine az_iload dX7_fill_121 ?_
      refine az_iload dX7_fill_123 ?_
      refine az_cV0 (st := [.int (nI ((l9 + 1) * 6)), .ref o, .long (lN (ln_ws w (bs.getD l9 0) x (fun y => min (ln_wT w bs g (l9 + 1) y) 2000000000000) i))]) dX7_fill_125 ml_X7_50 hT0' (s_childOf (d := d - 1) hT' hb3 (lt := x) (by omega) (i := i) (by omega) ?_)
      have hc6 := hw.2.2.2.2.2.2.2.1 ((bs.getD l9 0 * 6 + x) * 4 + i)
      refine az_iaddN dX7_fill_128 ?_
      refine az_laldN (j := ((l9 + 1) * 6) + (ln_ch w ((bs.getD l9 0 * 6 + x) * 4 + i))) dX7_fill_129 (by rw [he]; exact az_up_eq) ?_
      rw [hF (l9 + 1) _ (Nat.le_refl _) (by omega) hc6]
      refine az_laddN dX7_fill_130 ?_
      rw [show ln_ws w (bs.getD l9 0) x (fun y => min (ln_wT w bs g (l9 + 1) y) 2000000000000) i + min (ln_wT w bs g (l9 + 1) (ln_ch w ((bs.getD l9 0 * 6 + x) * 4 + i))) 2000000000000 = ln_ws w (bs.getD l9 0) x (fun y => min (ln_wT w bs g (l9 + 1) y) 2000000000000) (i + 1) from (ws_step _ (by omega)).symm]
      refine az_lstore (ls' := [(0, .ref a), (1, .ref o), (2, .int lt), (3, .ref t), (4, .int (nI l9)), (5, .int (nI (bs.getD l9 0))), (6, .int (nI ((l9 + 1) * 6))), (7, .int (nI x)), (8, .int (nI (ln_sz w (bs.getD l9 0 * 6 + x)))), (9, .long (lN (ln_ws w (bs.getD l9 0) x (fun y => min (ln_wT w bs g (l9 + 1) y) 2000000000000) (i + 1)))), (11, .int (nI i))]) dX7_fill_131 ?_
      refine az_iincN (n := 1) (ls' := [(0, .ref a), (1, .ref o), (2, .int lt), (3, .ref t), (4, .int (nI l9)), (5, .int (nI (bs.getD l9 0))), (6, .int (nI ((l9 + 1) * 6))), (7, .int (nI x)), (8, .int (nI (ln_sz w (bs.getD l9 0 * 6 + x)))), (9, .long (lN (ln_ws w (bs.getD l9 0) x (fun y => min (ln_wT w bs g (l9 + 1) y) 2000000000000) (i + 1)))), (11, .int (nI (i + 1)))]) dX7_fill_133 ?_
      refine az_goto (tgt := 106) dX7_fill_136 ?_
      exact ih _ (by omega) l9 x (i + 1) g9 h' hl9 hx6 hF he hK rfl (by omega)
  have middle : ∀ (k : Nat) (l9 x : Nat) (g9 : Nat → Nat) (h' : az_Hp) (hl9 : l9 < bs.length) (hK : ∀ (g9 : Nat → Nat) (h' : az_Hp), (∀ k x, l9 + 1 ≤ k → k ≤ bs.length → x < 6 → g9 (k * 6 + x) = min (ln_wT w bs g k x) 2000000000000) → (∀ y, y < 6 → g9 (l9 * 6 + y) = min (ln_wT w bs g l9 y) 2000000000000) → h' = az_up hp o (az_J 366 (fun j => lN (g9 j))) → az_W mX7_fill d 0 0 163 [(0, .ref a), (1, .ref o), (2, .int lt), (3, .ref t), (4, .int (nI l9)), (5, .int (nI (bs.getD l9 0))), (6, .int (nI ((l9 + 1) * 6))), (7, .int (nI 6))] [] h' Q), 6 - x = k → (x ≤ 6) → (∀ k x, l9 + 1 ≤ k → k ≤ bs.length → x < 6 → g9 (k * 6 + x) = min (ln_wT w bs g k x) 2000000000000) → (∀ y, y < x → g9 (l9 * 6 + y) = min (ln_wT w bs g l9 y) 2000000000000) → (h' = az_up hp o (az_J 366 (fun j => lN (g9 j)))) → az_W mX7_fill d 0 0 83 [(0, .ref a), (1, .ref o), (2, .int lt), (3, .ref t), (4, .int (nI l9)), (5, .int (nI (bs.getD l9 0))), (6, .int (nI ((l9 + 1) * 6))), (7, .int (nI x))] [] h' Q := by
    intro k
    induction k using Nat.strongRecOn with
    | _ k ih =>
    intro l9 x g9 h' hl9 hK hk hx6 hF hM he
    have hT' : ln_Town h' t w := (hT.fr (by rw [he]; exact az_fr.rf.up)).town
    obtain ⟨a4', a5', hT0', -⟩ := id hT'
    have hz4 := hw.2.2.2.2.2.2.1 (bs.getD l9 0 * 6 + x)
    have hb3 : bs.getD l9 0 < 3 := Nat.lt_of_lt_of_le (hb.2.1 _ (getD_mem hl9)) hw.2.1
    refine az_iload dX7_fill_83 ?_
    refine az_bipush (v := nI 6) dX7_fill_85 ?_
    refine az_icmp_geN (tgt := 163) dX7_fill_87 (fun c87 => ?_) (fun c87 => ?_)
    · obtain rfl : x = 6 := by omega
      exact hK g9 h' hF hM he
    · refine az_aload_n dX7_fill_90 ?_
      refine az_iload dX7_fill_91 ?_
      refine az_iload dX7_fill_93 ?_
      refine az_cV0 (st := []) dX7_fill_95 ml_X7_44 hT0' (s_sizeOf (d := d - 1) hT' hb3 (lt := x) (by omega) ?_)
      refine az_istore (ls' := [(0, .ref a), (1, .ref o), (2, .int lt), (3, .ref t), (4, .int (nI l9)), (5, .int (nI (bs.getD l9 0))), (6, .int (nI ((l9 + 1) * 6))), (7, .int (nI x)), (8, .int (nI (ln_sz w (bs.getD l9 0 * 6 + x))))]) dX7_fill_98 ?_
      refine az_lconst (v := lN 0) dX7_fill_100 ?_
      refine az_lstore (ls' := [(0, .ref a), (1, .ref o), (2, .int lt), (3, .ref t), (4, .int (nI l9)), (5, .int (nI (bs.getD l9 0))), (6, .int (nI ((l9 + 1) * 6))), (7, .int (nI x)), (8, .int (nI (ln_sz w (bs.getD l9 0 * 6 + x)))), (9, .long (lN 0))]) dX7_fill_101 ?_
      refine az_iconst (v := nI 0) dX7_fill_103 ?_
      refine az_istore (ls' := [(0, .ref a), (1, .ref o), (2, .int lt), (3, .ref t), (4, .int (nI l9)), (5, .int (nI (bs.getD l9 0))), (6, .int (nI ((l9 + 1) * 6))), (7, .int (nI x)), (8, .int (nI (ln_sz w (bs.getD l9 0 * 6 + x)))), (9, .long (lN 0)), (11, .int (nI 0))]) dX7_fill_104 ?_
      refine inner _ l9 x 0 g9 h' hl9 (by omega) hF he ?_ rfl (Nat.zero_le _)
      have hws := ws_le hw (tb := bs.getD l9 0) (x := x) (fun y => min (ln_wT w bs g (l9 + 1) y) 2000000000000) 2000000000000 (fun y => Nat.min_le_right _ _) (ln_sz w (bs.getD l9 0 * 6 + x))
      refine az_aload_n dX7_fill_139 ?_
      refine az_iload dX7_fill_140 ?_
      refine az_bipush (v := nI 6) dX7_fill_142 ?_
      refine az_imulN dX7_fill_144 ?_
      refine az_iload dX7_fill_145 ?_
      refine az_iaddN dX7_fill_147 ?_
      refine az_lload dX7_fill_148 ?_
      refine az_ldc2 (v := lN 2000000000000) dX7_fill_150 cn_X7_54 ?_
      refine az_lminN dX7_fill_153 ml_X7_56 ?_
      refine az_lastN (j := (l9 * 6) + x) dX7_fill_156 (by rw [he]; exact az_up_eq) ?_
      rw [az_s_lN]
      refine az_iincN (n := 1) (ls' := [(0, .ref a), (1, .ref o), (2, .int lt), (3, .ref t), (4, .int (nI l9)), (5, .int (nI (bs.getD l9 0))), (6, .int (nI ((l9 + 1) * 6))), (7, .int (nI (x + 1))), (8, .int (nI (ln_sz w (bs.getD l9 0 * 6 + x)))), (9, .long (lN (ln_ws w (bs.getD l9 0) x (fun y => min (ln_wT w bs g (l9 + 1) y) 2000000000000) (ln_sz w (bs.getD l9 0 * 6 + x))))), (11, .int (nI (ln_sz w (bs.getD l9 0 * 6 + x))))]) dX7_fill_157 ?_
      refine az_goto (tgt := 83) dX7_fill_160 ?_
      refine az_W.keep (ls' := [(0, .ref a), (1, .ref o), (2, .int lt), (3, .ref t), (4, .int (nI l9)), (5, .int (nI (bs.getD l9 0))), (6, .int (nI ((l9 + 1) * 6))), (7, .int (nI (x + 1)))]) [0, 1, 2, 3, 4, 5, 6, 7] rfl ?_
      exact ih _ (by omega) l9 (x + 1) (az_s g9 (l9 * 6 + x) (min (ln_ws w (bs.getD l9 0) x (fun y => min (ln_wT w bs g (l9 + 1) y) 2000000000000) (ln_sz w (bs.getD l9 0 * 6 + x))) 2000000000000)) _ hl9 hK rfl (by omega) (fun k y h1 h2 h3 => by rw [az_s_ne (by omega)]; exact hF k y h1 h2 h3) (fun y hy => by by_cases e : y = x; rw [e, az_s_eq, wT_cap hl9]; rw [az_s_ne (by omega)]; exact hM y (by omega)) (by rw [he, az_up_up])
  have outer : ∀ (k : Nat) (lv : Nat) (g9 : Nat → Nat) (h' : az_Hp), lv = k → (lv ≤ bs.length) → (∀ k x, lv ≤ k → k ≤ bs.length → x < 6 → g9 (k * 6 + x) = min (ln_wT w bs g k x) 2000000000000) → (h' = az_up hp o (az_J 366 (fun j => lN (g9 j)))) → az_W mX7_fill d 0 0 57 [(0, .ref a), (1, .ref o), (2, .int lt), (3, .ref t), (4, .int (nI lv - nI 1))] [] h' Q := by
    intro k
    induction k using Nat.strongRecOn with
    | _ k ih =>
    intro lv g9 h' hk hlv hF he
    refine az_iload dX7_fill_57 ?_
    refine az_if_lt (tgt := 169) dX7_fill_59 (fun c59 => ?_) (fun c59 => ?_)
    · have hl0 : lv = 0 := by by_cases q : lv = 0; exact q; exact absurd c59 (by rw [nI_subN (by omega)]; exact nI_pos (by omega))
      exact az_vret dX7_fill_169 (by rw [he]; exact hQ g9 (fun k x h1 h2 => hF k x (by omega) h1 h2))
    · obtain ⟨l9, rfl⟩ : ∃ l, lv = l + 1 := ⟨lv - 1, by by_cases q : lv = 0; rw [q] at c59; exact absurd (by decide) c59; omega⟩
      rw [show nI (l9 + 1) - nI 1 = nI l9 from nI_subN (by omega)]
      refine az_aload_n dX7_fill_62 ?_
      refine az_getf (v := .ref (a + 2)) dX7_fill_63 fl_X7_40 (by rw [he]; exact az_up_ne g0) ?_
      refine az_iload dX7_fill_66 ?_
      refine az_ialdN (j := l9) dX7_fill_68 (by rw [he]; exact az_up_ne g2) ?_
      rw [t2 l9 (by omega)]
      refine az_istore (ls' := [(0, .ref a), (1, .ref o), (2, .int lt), (3, .ref t), (4, .int (nI l9)), (5, .int (nI (bs.getD l9 0)))]) dX7_fill_69 ?_
      refine az_iload dX7_fill_71 ?_
      refine az_iconst (v := nI 1) dX7_fill_73 ?_
      refine az_iaddN dX7_fill_74 ?_
      refine az_bipush (v := nI 6) dX7_fill_75 ?_
      refine az_imulN dX7_fill_77 ?_
      refine az_istore (ls' := [(0, .ref a), (1, .ref o), (2, .int lt), (3, .ref t), (4, .int (nI l9)), (5, .int (nI (bs.getD l9 0))), (6, .int (nI ((l9 + 1) * 6)))]) dX7_fill_78 ?_
      refine az_iconst (v := nI 0) dX7_fill_80 ?_
      refine az_istore (ls' := [(0, .ref a), (1, .ref o), (2, .int lt), (3, .ref t), (4, .int (nI l9)), (5, .int (nI (bs.getD l9 0))), (6, .int (nI ((l9 + 1) * 6))), (7, .int (nI 0))]) dX7_fill_81 ?_
      refine middle _ l9 0 g9 h' (by omega) ?_ rfl (Nat.zero_le _) hF (fun y hy => absurd hy (by omega)) he
      intro g9 h' hF hM he
      refine az_iinc (v := nI l9 - nI 1) (ls' := [(0, .ref a), (1, .ref o), (2, .int lt), (3, .ref t), (4, .int (nI l9 - nI 1)), (5, .int (nI (bs.getD l9 0))), (6, .int (nI ((l9 + 1) * 6))), (7, .int (nI 6))]) dX7_fill_163 ?_ (hx := (by rw [show Int32.ofInt (-1) = -(nI 1) by decide, Int32.sub_eq_add_neg]))
      refine az_goto (tgt := 57) dX7_fill_166 ?_
      refine az_W.keep (ls' := [(0, .ref a), (1, .ref o), (2, .int lt), (3, .ref t), (4, .int (nI l9 - nI 1))]) [0, 1, 2, 3, 4] rfl ?_
      exact ih _ (by omega) l9 g9 h' rfl (by omega) (fun k y h1 h2 h3 => by by_cases e : k = l9; rw [e]; exact hM y h3; exact hF k y (by omega) h2 h3) he
  have init : ∀ (k : Nat) (x : Nat) (g9 : Nat → Nat) (h' : az_Hp), 6 - x = k → (x ≤ 6) → (∀ y, y < x → g9 (bs.length * 6 + y) = g y) → (h' = az_up hp o (az_J 366 (fun j => lN (g9 j)))) → az_W mX7_fill d 0 0 8 [(0, .ref a), (1, .ref o), (2, .int lt), (3, .ref t), (4, .int (nI x))] [] h' Q := by
    intro k
    induction k using Nat.strongRecOn with
    | _ k ih =>
    intro x g9 h' hk hx6 hF0 he
    refine az_iload dX7_fill_8 ?_
    refine az_bipush (v := nI 6) dX7_fill_10 ?_
    refine az_icmp_geN (tgt := 49) dX7_fill_12 (fun c12 => ?_) (fun c12 => ?_)
    · refine az_aload_n dX7_fill_49 ?_
      refine az_getf (v := .int (nI bs.length)) dX7_fill_50 fl_X7_36 (by rw [he]; exact az_up_ne g0) ?_
      refine az_iconst (v := nI 1) dX7_fill_53 ?_
      refine az_isub dX7_fill_54 ?_
      refine az_istore (ls' := [(0, .ref a), (1, .ref o), (2, .int lt), (3, .ref t), (4, .int ((nI bs.length) - (nI 1)))]) dX7_fill_55 ?_
      have hF1 : ∀ k y, bs.length ≤ k → k ≤ bs.length → y < 6 → g9 (k * 6 + y) = min (ln_wT w bs g k y) 2000000000000 := fun k y h1 h2 h3 => (by obtain rfl : k = bs.length := (by omega); rw [hF0 y (by omega), wT_end, Nat.min_eq_left (Nat.le_trans (hg9 y h3) (by decide))])
      exact outer _ bs.length g9 h' rfl (Nat.le_refl _) hF1 he
    · refine az_aload_n dX7_fill_15 ?_
      refine az_aload_n dX7_fill_16 ?_
      refine az_getf (v := .int (nI bs.length)) dX7_fill_17 fl_X7_36 (by rw [he]; exact az_up_ne g0) ?_
      refine az_bipush (v := nI 6) dX7_fill_20 ?_
      refine az_imulN dX7_fill_22 ?_
      refine az_iload dX7_fill_23 ?_
      refine az_iaddN dX7_fill_25 ?_
      refine az_iload_n dX7_fill_26 ?_
      refine az_iconst (v := (-1)) dX7_fill_27 ?_
      refine az_icmp_eq (tgt := 37) dX7_fill_28 (fun c28 => ?_) (fun c28 => ?_)
      · refine az_lconst (v := lN 1) dX7_fill_37 ?_
        refine az_goto (tgt := 42) dX7_fill_38 ?_
        refine az_lastN (j := (bs.length * 6) + x) dX7_fill_42 (by rw [he]; exact az_up_eq) ?_
        rw [az_s_lN]
        refine az_iincN (n := 1) (ls' := [(0, .ref a), (1, .ref o), (2, .int lt), (3, .ref t), (4, .int (nI (x + 1)))]) dX7_fill_43 ?_
        refine az_goto (tgt := 8) dX7_fill_46 ?_
        first | exact ih _ (by omega) (x + 1) (az_s g9 (bs.length * 6 + x) 1) _ rfl (by omega) (fun y hy => (by by_cases e : y = x; (rw [e, az_s_eq]; first | exact (hga x (by omega) c28).symm | exact (hgb x (by omega) c28 c34).symm); (rw [az_s_ne (by omega)]; exact hF0 y (by omega)))) (by rw [he, az_up_up]) | exact ih _ (by omega) (x + 1) (az_s g9 (bs.length * 6 + x) 0) _ rfl (by omega) (fun y hy => (by by_cases e : y = x; (rw [e, az_s_eq]; exact (hgc x (by omega) c28 c34).symm); (rw [az_s_ne (by omega)]; exact hF0 y (by omega)))) (by rw [he, az_up_up])
      · refine az_iload_n dX7_fill_31 ?_
        refine az_iload dX7_fill_32 ?_
        refine az_icmp_ne (tgt := 41) dX7_fill_34 (fun c34 => ?_) (fun c34 => ?_)
        · refine az_lconst (v := lN 0) dX7_fill_41 ?_
          refine az_lastN (j := (bs.length * 6) + x) dX7_fill_42 (by rw [he]; exact az_up_eq) ?_
          rw [az_s_lN]
          refine az_iincN (n := 1) (ls' := [(0, .ref a), (1, .ref o), (2, .int lt), (3, .ref t), (4, .int (nI (x + 1)))]) dX7_fill_43 ?_
          refine az_goto (tgt := 8) dX7_fill_46 ?_
          first | exact ih _ (by omega) (x + 1) (az_s g9 (bs.length * 6 + x) 1) _ rfl (by omega) (fun y hy => (by by_cases e : y = x; (rw [e, az_s_eq]; first | exact (hga x (by omega) c28).symm | exact (hgb x (by omega) c28 c34).symm); (rw [az_s_ne (by omega)]; exact hF0 y (by omega)))) (by rw [he, az_up_up]) | exact ih _ (by omega) (x + 1) (az_s g9 (bs.length * 6 + x) 0) _ rfl (by omega) (fun y hy => (by by_cases e : y = x; (rw [e, az_s_eq]; exact (hgc x (by omega) c28 c34).symm); (rw [az_s_ne (by omega)]; exact hF0 y (by omega)))) (by rw [he, az_up_up])
        · refine az_lconst (v := lN 1) dX7_fill_37 ?_
          refine az_goto (tgt := 42) dX7_fill_38 ?_
          refine az_lastN (j := (bs.length * 6) + x) dX7_fill_42 (by rw [he]; exact az_up_eq) ?_
          rw [az_s_lN]
          refine az_iincN (n := 1) (ls' := [(0, .ref a), (1, .ref o), (2, .int lt), (3, .ref t), (4, .int (nI (x + 1)))]) dX7_fill_43 ?_
          refine az_goto (tgt := 8) dX7_fill_46 ?_
          first | exact ih _ (by omega) (x + 1) (az_s g9 (bs.length * 6 + x) 1) _ rfl (by omega) (fun y hy => (by by_cases e : y = x; (rw [e, az_s_eq]; first | exact (hga x (by omega) c28).symm | exact (hgb x (by omega) c28 c34).symm); (rw [az_s_ne (by omega)]; exact hF0 y (by omega)))) (by rw [he, az_up_up]) | exact ih _ (by omega) (x + 1) (az_s g9 (bs.length * 6 + x) 0) _ rfl (by omega) (fun y hy => (by by_cases e : y = x; (rw [e, az_s_eq]; exact (hgc x (by omega) c28 c34).symm); (rw [az_s_ne (by omega)]; exact hF0 y (by omega)))) (by rw [he, az_up_up])
  refine az_M.of rfl (Nat.le_of_ble_eq_true rfl) ?_
  show az_W _ _ _ _ 0 [(0, .ref a), (1, .ref o), (2, .int lt)] [] _ _
  refine az_aload_n dX7_fill_0 ?_
  refine az_getf (v := .ref t) dX7_fill_1 fl_X7_30 g0 ?_
  refine az_astore_n (ls' := [(0, .ref a), (1, .ref o), (2, .int lt), (3, .ref t)]) dX7_fill_4 ?_
  refine az_iconst (v := nI 0) dX7_fill_5 ?_
  refine az_istore (ls' := [(0, .ref a), (1, .ref o), (2, .int lt), (3, .ref t), (4, .int (nI 0))]) dX7_fill_6 ?_
  exact init _ 0 f9 _ rfl (Nat.zero_le _) (fun y hy => absurd hy (by omega)) (az_up_same ho).symm
