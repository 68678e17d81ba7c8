/-! The model: lengths and counts, laid back night by night -/
theorem wT_capC (C : Nat) {w : ln_W} {bs : List Nat} {g : Nat → Nat} {l9 x : Nat} (h : l9 < bs.length) : min (ln_ws w (bs.getD l9 0) x (fun y => min (ln_wT w bs g (l9 + 1) y) C) (ln_sz w (bs.getD l9 0 * 6 + x))) C = min (ln_wT w bs g l9 x) C := by
  rw [wT_step h, ln_ws, ln_ws, cap_sum C (fun y => ln_wT w bs g (l9 + 1) y)]
/-- a row of sums, as the model lays them -/
def mc (w : ln_W) (bs : List Nat) (g g9 : Nat → Nat) : Prop := ∀ k x, k ≤ bs.length → x < 6 → g9 (6 * k + x) = min (ln_wT w bs g k x) 9223372036854775807
theorem mc.lt {w : ln_W} {bs : List Nat} {g g9 : Nat → Nat} (H : mc w bs g g9) {k x : Nat} (hk : k ≤ bs.length) (hx : x < 6) : g9 (6 * k + x) < 2 ^ 63 := by
  rw [H k x hk hx]
  omega
theorem nI_dec (n : Nat) : nI n + Int32.ofInt (-1) = nI n - nI 1 := by rw [show Int32.ofInt (-1) = -(nI 1) by decide, Int32.sub_eq_add_neg]
set_option maxHeartbeats 4000000 in
set_option maxRecDepth 100000 in
theorem m_laysBack {d : Nat} {sc : Nat → Value} {A : Nat → Nat} {v : rd_V} {mo ni : Nat} {bs : List Nat} {hp : az_Hp} {Q : Option Value → az_Hp → Prop} {a : Nat} {g g0 : Nat → Nat} (hd : 1 ≤ d) (ha : a = 70 ∨ a = 71) (hw : ln_ok (rd_w v)) (hb : ln_by (rd_w v) bs) (h64 : hp.2 64 = some (mo_o sc)) (h65 : hp.2 65 = some (az_I 3318 (fun j => nI (A j)))) (hT : mT A v (mo, ni, bs)) (h7 : hp.2 a = some (az_J 366 (fun j => lN (g0 j)))) (hg0 : ∀ x, x < 6 → g0 (6 * bs.length + x) = g x) (hg : ∀ x, x < 6 → g x ≤ 9223372036854775807) (hQ : ∀ g9 : Nat → Nat, mc (rd_w v) bs g g9 → Q none (az_up hp a (az_J 366 (fun j => lN (g9 j))))) : az_M mX12_laysBack d 0 0 [.ref 64, .ref a] hp Q := by
  have h60 := hb.1
  have hA113 : A 113 = bs.length := hT.2.2.2.1
  have hAb : ∀ k, k < bs.length → A (145 + k) = bs.getD k 0 := hT.2.2.2.2
  have inner : ∀ (k : Nat) (l9 x i : Nat) (g9 : Nat → Nat) (h' : az_Hp) (hl9 : l9 < bs.length) (hx6 : x < 6) (hF : ∀ k x, l9 + 1 ≤ k → k ≤ bs.length → x < 6 → g9 (6 * k + x) = min (ln_wT (rd_w v) bs g k x) 9223372036854775807) (he : h' = az_up hp a (az_J 366 (fun j => lN (g9 j)))) (hK : az_W mX12_laysBack d 0 0 84 [(0, .ref 64), (1, .ref a), (2, .int (nI l9)), (3, .int (nI (bs.getD l9 0))), (4, .int (nI x)), (5, .long (lN (min (ln_ws (rd_w v) (bs.getD l9 0) x (fun y => min (ln_wT (rd_w v) bs g (l9 + 1) y) 9223372036854775807) (ln_sz (rd_w v) (bs.getD l9 0 * 6 + x))) 9223372036854775807))), (7, .int (nI (ln_sz (rd_w v) (bs.getD l9 0 * 6 + x))))] [] h' Q), ln_sz (rd_w v) (bs.getD l9 0 * 6 + x) - i = k → (i ≤ ln_sz (rd_w v) (bs.getD l9 0 * 6 + x)) → az_W mX12_laysBack d 0 0 41 [(0, .ref 64), (1, .ref a), (2, .int (nI l9)), (3, .int (nI (bs.getD l9 0))), (4, .int (nI x)), (5, .long (lN (min (ln_ws (rd_w v) (bs.getD l9 0) x (fun y => min (ln_wT (rd_w v) bs g (l9 + 1) y) 9223372036854775807) (i)) 9223372036854775807))), (7, .int (nI i))] [] h' Q := by
    intro k
    induction k using Nat.strongRecOn with
    | _ k ih =>
    intro l9 x i g9 h' hl9 hx6 hF he hK hk hi9
    have e64 : h'.2 64 = some (mo_o sc) := (by rw [he]; exact az_up_ne h64)
    have e65 : h'.2 65 = some (az_I 3318 (fun j => nI (A j))) := (by rw [he]; exact az_up_ne h65)
    have ea : h'.2 a = some (az_J 366 (fun j => lN (g9 j))) := (by rw [he]; exact az_up_eq)
    have hz4 := hw.2.2.2.2.2.2.1 (bs.getD l9 0 * 6 + x)
    have hb3 : bs.getD l9 0 < 3 := Nat.lt_of_lt_of_le (hb.2.1 _ (getD_mem hl9)) hw.2.1
    refine az_iload dX12_laysBack_41 ?_
    refine az_aload_n dX12_laysBack_43 ?_
    refine az_iload_n dX12_laysBack_44 ?_
    refine az_iload dX12_laysBack_45 ?_
    refine az_cV0 (st := [.int (nI i)]) dX12_laysBack_47 ml_X12_239 e64 (m_becomeMany (d := d - 1) (v := v) (tb := bs.getD l9 0) (x := x) e64 e65 hT.1 hb3 (by omega) ?_)
    refine az_icmp_geN (tgt := 84) dX12_laysBack_50 (fun c50 => ?_) (fun c50 => ?_)
    · obtain rfl : i = ln_sz (rd_w v) (bs.getD l9 0 * 6 + x) := by omega
      exact hK
    · refine az_lload dX12_laysBack_53 ?_
      refine az_aload_n dX12_laysBack_55 ?_
      refine az_bipush (v := nI 6) dX12_laysBack_56 ?_
      refine az_iload_n dX12_laysBack_58 ?_
      refine az_iconst (v := nI 1) dX12_laysBack_59 ?_
      refine az_iaddN dX12_laysBack_60 ?_
      refine az_imulN dX12_laysBack_61 ?_
      refine az_aload_n dX12_laysBack_62 ?_
      refine az_iload_n dX12_laysBack_63 ?_
      refine az_iload dX12_laysBack_64 ?_
      refine az_iload dX12_laysBack_66 ?_
      refine az_cV0 (st := [.int (nI (6 * (l9 + 1))), .ref a, .long (lN (min (ln_ws (rd_w v) (bs.getD l9 0) x (fun y => min (ln_wT (rd_w v) bs g (l9 + 1) y) 9223372036854775807) (i)) 9223372036854775807))]) dX12_laysBack_68 ml_X12_242 e64 (m_becomeOf (d := d - 1) (v := v) (tb := bs.getD l9 0) (x := x) (i := i) e64 e65 hT.1 hw hb3 (by omega) (by omega) ?_)
      have hc6 := hw.2.2.2.2.2.2.2.1 ((bs.getD l9 0 * 6 + x) * 4 + i)
      refine az_iaddN dX12_laysBack_71 ?_
      refine az_laldN (j := (6 * (l9 + 1)) + (ln_ch (rd_w v) ((bs.getD l9 0 * 6 + x) * 4 + i))) dX12_laysBack_72 ea ?_
      rw [hF (l9 + 1) _ (Nat.le_refl _) (by omega) hc6]
      refine az_cS0 (st := []) dX12_laysBack_73 ml_X12_245 (m_plus (d := d - 1) (a := min (ln_ws (rd_w v) (bs.getD l9 0) x (fun y => min (ln_wT (rd_w v) bs g (l9 + 1) y) 9223372036854775807) (i)) 9223372036854775807) (b := min (ln_wT (rd_w v) bs g (l9 + 1) (ln_ch (rd_w v) ((bs.getD l9 0 * 6 + x) * 4 + i))) 9223372036854775807) (by omega) (by omega) ?_)
      rw [show min (min (ln_ws (rd_w v) (bs.getD l9 0) x (fun y => min (ln_wT (rd_w v) bs g (l9 + 1) y) 9223372036854775807) (i)) 9223372036854775807 + min (ln_wT (rd_w v) bs g (l9 + 1) (ln_ch (rd_w v) ((bs.getD l9 0 * 6 + x) * 4 + i))) 9223372036854775807) 9223372036854775807 = min (ln_ws (rd_w v) (bs.getD l9 0) x (fun y => min (ln_wT (rd_w v) bs g (l9 + 1) y) 9223372036854775807) (i + 1)) 9223372036854775807 from (by rw [ws_step _ (by omega)]; omega)]
      refine az_lstore (ls' := [(0, .ref 64), (1, .ref a), (2, .int (nI l9)), (3, .int (nI (bs.getD l9 0))), (4, .int (nI x)), (5, .long (lN (min (ln_ws (rd_w v) (bs.getD l9 0) x (fun y => min (ln_wT (rd_w v) bs g (l9 + 1) y) 9223372036854775807) (i + 1)) 9223372036854775807))), (7, .int (nI i))]) dX12_laysBack_76 ?_
      refine az_iincN (n := 1) (ls' := [(0, .ref 64), (1, .ref a), (2, .int (nI l9)), (3, .int (nI (bs.getD l9 0))), (4, .int (nI x)), (5, .long (lN (min (ln_ws (rd_w v) (bs.getD l9 0) x (fun y => min (ln_wT (rd_w v) bs g (l9 + 1) y) 9223372036854775807) (i + 1)) 9223372036854775807))), (7, .int (nI (i + 1)))]) dX12_laysBack_78 ?_
      refine az_goto (tgt := 41) dX12_laysBack_81 ?_
      exact ih _ (by omega) l9 x (i + 1) g9 h' hl9 hx6 hF he hK rfl (by omega)
  have middle : ∀ (k : Nat) (l9 x : Nat) (g9 : Nat → Nat) (h' : az_Hp) (hl9 : l9 < bs.length) (hK : ∀ (g9 : Nat → Nat) (h' : az_Hp), (∀ k x, l9 + 1 ≤ k → k ≤ bs.length → x < 6 → g9 (6 * k + x) = min (ln_wT (rd_w v) bs g k x) 9223372036854775807) → (∀ y, y < 6 → g9 (6 * l9 + y) = min (ln_wT (rd_w v) bs g l9 y) 9223372036854775807) → h' = az_up hp a (az_J 366 (fun j => lN (g9 j))) → az_W mX12_laysBack d 0 0 101 [(0, .ref 64), (1, .ref a), (2, .int (nI l9)), (3, .int (nI (bs.getD l9 0))), (4, .int (nI 6))] [] h' Q), 6 - x = k → (x ≤ 6) → (∀ k x, l9 + 1 ≤ k → k ≤ bs.length → x < 6 → g9 (6 * k + x) = min (ln_wT (rd_w v) bs g k x) 9223372036854775807) → (∀ y, y < x → g9 (6 * l9 + y) = min (ln_wT (rd_w v) bs g l9 y) 9223372036854775807) → (h' = az_up hp a (az_J 366 (fun j => lN (g9 j)))) → az_W mX12_laysBack d 0 0 28 [(0, .ref 64), (1, .ref a), (2, .int (nI l9)), (3, .int (nI (bs.getD l9 0))), (4, .int (nI x))] [] h' Q := by
    intro k
    induction k using Nat.strongRecOn with
    | _ k ih =>
    intro l9 x g9 h' hl9 hK hk hx6 hF hM he
    have e64 : h'.2 64 = some (mo_o sc) := (by rw [he]; exact az_up_ne h64)
    have e65 : h'.2 65 = some (az_I 3318 (fun j => nI (A j))) := (by rw [he]; exact az_up_ne h65)
    have ea : h'.2 a = some (az_J 366 (fun j => lN (g9 j))) := (by rw [he]; exact az_up_eq)
    have hz4 := hw.2.2.2.2.2.2.1 (bs.getD l9 0 * 6 + x)
    have hb3 : bs.getD l9 0 < 3 := Nat.lt_of_lt_of_le (hb.2.1 _ (getD_mem hl9)) hw.2.1
    refine az_iload dX12_laysBack_28 ?_
    refine az_bipush (v := nI 6) dX12_laysBack_30 ?_
    refine az_icmp_geN (tgt := 101) dX12_laysBack_32 (fun c32 => ?_) (fun c32 => ?_)
    · obtain rfl : x = 6 := by omega
      exact hK g9 h' hF hM he
    · refine az_lconst (v := lN 0) dX12_laysBack_35 ?_
      refine az_lstore (ls' := [(0, .ref 64), (1, .ref a), (2, .int (nI l9)), (3, .int (nI (bs.getD l9 0))), (4, .int (nI x)), (5, .long (lN 0))]) dX12_laysBack_36 ?_
      refine az_iconst (v := nI 0) dX12_laysBack_38 ?_
      refine az_istore (ls' := [(0, .ref 64), (1, .ref a), (2, .int (nI l9)), (3, .int (nI (bs.getD l9 0))), (4, .int (nI x)), (5, .long (lN 0)), (7, .int (nI 0))]) dX12_laysBack_39 ?_
      refine inner _ l9 x 0 g9 h' hl9 (by omega) hF he ?_ rfl (Nat.zero_le _)
      refine az_aload_n dX12_laysBack_84 ?_
      refine az_bipush (v := nI 6) dX12_laysBack_85 ?_
      refine az_iload_n dX12_laysBack_87 ?_
      refine az_imulN dX12_laysBack_88 ?_
      refine az_iload dX12_laysBack_89 ?_
      refine az_iaddN dX12_laysBack_91 ?_
      refine az_lload dX12_laysBack_92 ?_
      refine az_lastN (j := (6 * l9) + x) dX12_laysBack_94 ea ?_
      rw [az_s_lN]
      refine az_iincN (n := 1) (ls' := [(0, .ref 64), (1, .ref a), (2, .int (nI l9)), (3, .int (nI (bs.getD l9 0))), (4, .int (nI (x + 1))), (5, .long (lN (min (ln_ws (rd_w v) (bs.getD l9 0) x (fun y => min (ln_wT (rd_w v) bs g (l9 + 1) y) 9223372036854775807) (ln_sz (rd_w v) (bs.getD l9 0 * 6 + x))) 9223372036854775807))), (7, .int (nI (ln_sz (rd_w v) (bs.getD l9 0 * 6 + x))))]) dX12_laysBack_95 ?_
      refine az_goto (tgt := 28) dX12_laysBack_98 ?_
      refine az_W.keep (ls' := [(0, .ref 64), (1, .ref a), (2, .int (nI l9)), (3, .int (nI (bs.getD l9 0))), (4, .int (nI (x + 1)))]) [0, 1, 2, 3, 4] rfl ?_
      exact ih _ (by omega) l9 (x + 1) (az_s g9 (6 * l9 + x) (min (ln_ws (rd_w v) (bs.getD l9 0) x (fun y => min (ln_wT (rd_w v) bs g (l9 + 1) y) 9223372036854775807) (ln_sz (rd_w v) (bs.getD l9 0 * 6 + x))) 9223372036854775807)) _ hl9 hK rfl (by omega) (fun k y h1 h2 h3 => by rw [az_s_ne (by omega)]; exact hF k y h1 h2 h3) (fun y hy => by by_cases e : y = x; rw [e, az_s_eq, wT_capC _ hl9]; rw [az_s_ne (by omega)]; exact hM y (by omega)) (by rw [he, az_up_up])
  have outer : ∀ (k : Nat) (lv : Nat) (g9 : Nat → Nat) (h' : az_Hp), lv = k → (lv ≤ bs.length) → (∀ k x, lv ≤ k → k ≤ bs.length → x < 6 → g9 (6 * k + x) = min (ln_wT (rd_w v) bs g k x) 9223372036854775807) → (h' = az_up hp a (az_J 366 (fun j => lN (g9 j)))) → az_W mX12_laysBack d 0 0 10 [(0, .ref 64), (1, .ref a), (2, .int (nI lv - nI 1))] [] h' Q := by
    intro k
    induction k using Nat.strongRecOn with
    | _ k ih =>
    intro lv g9 h' hk hlv hF he
    have e64 : h'.2 64 = some (mo_o sc) := (by rw [he]; exact az_up_ne h64)
    have e65 : h'.2 65 = some (az_I 3318 (fun j => nI (A j))) := (by rw [he]; exact az_up_ne h65)
    have ea : h'.2 a = some (az_J 366 (fun j => lN (g9 j))) := (by rw [he]; exact az_up_eq)
    refine az_iload_n dX12_laysBack_10 ?_
    refine az_if_lt (tgt := 107) dX12_laysBack_11 (fun c11 => ?_) (fun c11 => ?_)
    · have hl0 : lv = 0 := by by_cases q : lv = 0; exact q; exact absurd c11 (by rw [nI_subN (by omega)]; exact nI_pos (by omega))
      exact az_vret dX12_laysBack_107 (by rw [he]; exact hQ g9 (fun k x h1 h2 => hF k x (by omega) h1 h2))
    · obtain ⟨l9, rfl⟩ : ∃ l, lv = l + 1 := ⟨lv - 1, by by_cases q : lv = 0; rw [q] at c11; exact absurd (by decide) c11; omega⟩
      rw [show nI (l9 + 1) - nI 1 = nI l9 from nI_subN (by omega)]
      refine az_aload_n dX12_laysBack_14 ?_
      refine az_getf (v := .ref 65) dX12_laysBack_15 fl_X12_13 e64 ?_
      refine az_sipush (v := nI 145) dX12_laysBack_18 ?_
      refine az_iload_n dX12_laysBack_21 ?_
      refine az_iaddN dX12_laysBack_22 ?_
      refine az_ialdN (j := 145 + l9) dX12_laysBack_23 e65 ?_
      rw [hAb l9 (by omega)]
      refine az_istore_n (ls' := [(0, .ref 64), (1, .ref a), (2, .int (nI l9)), (3, .int (nI (bs.getD l9 0)))]) dX12_laysBack_24 ?_
      refine az_iconst (v := nI 0) dX12_laysBack_25 ?_
      refine az_istore (ls' := [(0, .ref 64), (1, .ref a), (2, .int (nI l9)), (3, .int (nI (bs.getD l9 0))), (4, .int (nI 0))]) dX12_laysBack_26 ?_
      refine middle _ l9 0 g9 h' (by omega) ?_ rfl (Nat.zero_le _) hF (fun y hy => absurd hy (by omega)) he
      intro g9 h' hF hM he
      refine az_iinc (v := nI l9 - nI 1) (ls' := [(0, .ref 64), (1, .ref a), (2, .int (nI l9 - nI 1)), (3, .int (nI (bs.getD l9 0))), (4, .int (nI 6))]) dX12_laysBack_101 ?_ (hx := (nI_dec l9))
      refine az_goto (tgt := 10) dX12_laysBack_104 ?_
      refine az_W.keep (ls' := [(0, .ref 64), (1, .ref a), (2, .int (nI l9 - nI 1))]) [0, 1, 2] rfl ?_
      exact ih _ (by omega) l9 g9 h' rfl (by omega) (fun k y h1 h2 h3 => by by_cases e : k = l9; rw [e]; exact hM y h3; exact hF k y (by omega) h2 h3) he
  refine az_M.of rfl (Nat.le_of_ble_eq_true rfl) ?_
  show az_W _ _ _ _ 0 [(0, .ref 64), (1, .ref a)] [] _ _
  refine az_aload_n dX12_laysBack_0 ?_
  refine az_getf (v := .ref 65) dX12_laysBack_1 fl_X12_13 h64 ?_
  refine az_bipush (v := nI 113) dX12_laysBack_4 ?_
  refine az_ialdN (j := 113) dX12_laysBack_6 h65 ?_
  rw [hA113]
  refine az_iconst (v := nI 1) dX12_laysBack_7 ?_
  refine az_isub dX12_laysBack_8 ?_
  refine az_istore_n (ls' := [(0, .ref 64), (1, .ref a), (2, .int ((nI bs.length) - (nI 1)))]) dX12_laysBack_9 ?_
  exact outer _ bs.length g0 hp rfl (Nat.le_refl _) (fun k y h1 h2 h3 => (by obtain rfl : k = bs.length := (by omega); rw [hg0 y h3, wT_end, Nat.min_eq_left (hg y h3)])) (az_up_same h7).symm

