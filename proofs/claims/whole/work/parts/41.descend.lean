/-! Survey: the way down to a place -/
/-- along letters by their weights F: the one in which the weight is that has k ahead of it; what of F2 went by -/
def ln_scan (F F2 : Nat → Nat) : List Nat → Nat → Nat → Option Nat × Nat × Nat
  | [], k, p => (none, k, p)
  | x :: l, k, p => if k < F x then (some x, k, p) else ln_scan F F2 l (k - F x) (p + F2 x)
set_option maxRecDepth 100000 in
theorem s_isWithin {d s o1 o2 j k9 p9 : Nat} {f1 f2 : Nat → Nat} {hp : az_Hp} {Q : Option Value → az_Hp → Prop} (h0 : hp.2 s = some (az_O 6 [.ref (s + 1), .ref (s + 2), .long (lN k9), .long (lN p9)])) (h1 : hp.2 o1 = some (az_J 366 (fun j => lN (f1 j)))) (h2 : hp.2 o2 = some (az_J 366 (fun j => lN (f2 j)))) (hj : j < 366) (hk : k9 < 2 ^ 63) (hf : f1 j < 2 ^ 63) (hs1 : o1 ≠ s) (hs2 : o2 ≠ s) (hQ1 : k9 < f1 j → Q (some (.int (nI 1))) hp) (hQ0 : ¬ k9 < f1 j → Q (some (.int (nI 0))) (az_up hp s (az_O 6 [.ref (s + 1), .ref (s + 2), .long (lN (k9 - f1 j)), .long (lN (p9 + f2 j))]))) : az_M mX7_isWithin d 0 0 [.ref s, .ref o1, .ref o2, .int (nI j)] hp Q := by
  refine az_M.of rfl (Nat.le_of_ble_eq_true rfl) ?_
  show az_W _ _ _ _ 0 [(0, .ref s), (1, .ref o1), (2, .ref o2), (3, .int (nI j))] [] _ _
  refine az_aload_n dX7_isWithin_0 ?_
  refine az_getf (v := .long (lN k9)) dX7_isWithin_1 fl_X7_62 h0 ?_
  refine az_aload_n dX7_isWithin_4 ?_
  refine az_iload_n dX7_isWithin_5 ?_
  refine az_laldN (j := j) dX7_isWithin_6 h1 ?_
  refine az_lcmp_geN (tgt := 13) dX7_isWithin_7 dX7_isWithin_8 (fun c7 => ?_) (fun c7 => ?_)
  · refine az_aload_n dX7_isWithin_13 ?_
    refine az_dup dX7_isWithin_14 ?_
    refine az_getf (v := .long (lN k9)) dX7_isWithin_15 fl_X7_62 h0 ?_
    refine az_aload_n dX7_isWithin_18 ?_
    refine az_iload_n dX7_isWithin_19 ?_
    refine az_laldN (j := j) dX7_isWithin_20 h1 ?_
    refine az_lsubN dX7_isWithin_21 (by omega) ?_
    refine az_putf (fs' := [.ref (s + 1), .ref (s + 2), .long (lN (k9 - (f1 j))), .long (lN p9)]) dX7_isWithin_22 fl_X7_62 h0 ?_
    refine az_aload_n dX7_isWithin_25 ?_
    refine az_dup dX7_isWithin_26 ?_
    refine az_getf (v := .long (lN p9)) dX7_isWithin_27 fl_X7_26 az_up_eq ?_
    refine az_aload_n dX7_isWithin_30 ?_
    refine az_iload_n dX7_isWithin_31 ?_
    refine az_laldN (j := j) dX7_isWithin_32 (az_up_ne h2) ?_
    refine az_laddN dX7_isWithin_33 ?_
    refine az_putf (fs' := [.ref (s + 1), .ref (s + 2), .long (lN (k9 - (f1 j))), .long (lN (p9 + (f2 j)))]) dX7_isWithin_34 fl_X7_26 az_up_eq ?_
    rw [az_up_up]
    refine az_iconst (v := nI 0) dX7_isWithin_37 ?_
    exact az_iret dX7_isWithin_38 (hQ0 (by omega))
  · refine az_iconst (v := nI 1) dX7_isWithin_11 ?_
    exact az_iret dX7_isWithin_12 (hQ1 (by omega))
def ln_opt (c : Option Nat) : Int32 := match c with
  | none => -1
  | some x => nI x
theorem scan_drop {F F2 : Nat → Nat} {l : List Nat} {i k p : Nat} (h : i < l.length) : ln_scan F F2 (l.drop i) k p = if k < F (l.getD i 0) then (some (l.getD i 0), k, p) else ln_scan F F2 (l.drop (i + 1)) (k - F (l.getD i 0)) (p + F2 (l.getD i 0)) := by
  rw [drop_getD h, ln_scan]
set_option maxRecDepth 100000 in
theorem s_childWithin {d s o1 o2 a t mo ni lv x k0 p0 : Nat} {f1 f2 : Nat → Nat} {w : ln_W} {bs : List Nat} {r : Option Nat × Nat × Nat} {hp : az_Hp} {Q : Option Value → az_Hp → Prop} (hd : 1 ≤ d) (hw : ln_ok w) (hb : ln_by w bs) (hT : ln_To hp t w s (s + 1)) (hS : ln_Scene hp a t w mo ni bs) (hsa : s < a ∨ a + 8 ≤ s) (h0 : hp.2 s = some (az_O 6 [.ref (s + 1), .ref (s + 2), .long (lN k0), .long (lN p0)])) (h1 : hp.2 o1 = some (az_J 366 (fun j => lN (f1 j)))) (h2 : hp.2 o2 = some (az_J 366 (fun j => lN (f2 j)))) (hk : k0 < 2 ^ 63) (hf : ∀ j, j < (bs.length + 1) * 6 → f1 j < 2 ^ 63) (hs1 : o1 ≠ s) (hs2 : o2 ≠ s) (hlv : lv < bs.length) (hx : x < 6) (hr : ln_scan (fun y => f1 ((lv + 1) * 6 + y)) (fun y => f2 ((lv + 1) * 6 + y)) (ln_sub w (bs.getD lv 0) x) k0 p0 = r) (hQ : Q (some (.int (ln_opt r.1))) (az_up hp s (az_O 6 [.ref (s + 1), .ref (s + 2), .long (lN r.2.1), .long (lN r.2.2)]))) : az_M mX7_childWithin d 0 0 [.ref s, .ref a, .int (nI lv), .int (nI x), .ref o1, .ref o2] hp Q := by
  obtain ⟨hi, fr, la, no, wa, nc, g0, -, g2, t2, -⟩ := id hS
  obtain ⟨a4, a5, hT0, -⟩ := id hT
  have h60 := hb.1
  have hb3 : bs.getD lv 0 < 3 := Nat.lt_of_lt_of_le (hb.2.1 _ (getD_mem hlv)) hw.2.1
  have hz4 := hw.2.2.2.2.2.2.1 (bs.getD lv 0 * 6 + x)
  have loop : ∀ (k : Nat) (i k9 p9 : Nat) (h' : az_Hp), ln_sz w (bs.getD lv 0 * 6 + x) - i = k → (i ≤ ln_sz w (bs.getD lv 0 * 6 + x)) → (k9 < 2 ^ 63) → (ln_scan (fun y => f1 ((lv + 1) * 6 + y)) (fun y => f2 ((lv + 1) * 6 + y)) ((ln_sub w (bs.getD lv 0) x).drop i) k9 p9 = r) → (h' = az_up hp s (az_O 6 [.ref (s + 1), .ref (s + 2), .long (lN k9), .long (lN p9)])) → az_W mX7_childWithin d 0 0 23 [(0, .ref s), (1, .ref a), (2, .int (nI lv)), (3, .int (nI x)), (4, .ref o1), (5, .ref o2), (6, .int (nI (bs.getD lv 0))), (7, .int (nI (ln_sz w (bs.getD lv 0 * 6 + x)))), (8, .int (nI i))] [] h' Q := by
    intro k
    induction k using Nat.strongRecOn with
    | _ k ih =>
    intro i k9 p9 h' hk hi9 hk9 hsc he
    have hT' : ln_Town h' t w := (hT.fr (by rw [he]; exact az_fr.rf.up)).town
    obtain ⟨a4', a5', hT0', -⟩ := id hT'
    refine az_iload dX7_childWithin_23 ?_
    refine az_iload dX7_childWithin_25 ?_
    refine az_icmp_geN (tgt := 73) dX7_childWithin_27 (fun c27 => ?_) (fun c27 => ?_)
    · rw [List.drop_eq_nil_of_le (by rw [ln_sub_len]; omega)] at hsc
      rw [← hsc] at hQ
      refine az_iconst (v := (-1)) dX7_childWithin_73 ?_
      exact az_iret dX7_childWithin_74 (by rw [he]; exact hQ)
    · refine az_aload_n dX7_childWithin_30 ?_
      refine az_getf (v := .ref t) dX7_childWithin_31 fl_X7_30 (by rw [he]; exact az_up_ne g0) ?_
      refine az_iload dX7_childWithin_34 ?_
      refine az_iload_n dX7_childWithin_36 ?_
      refine az_iload dX7_childWithin_37 ?_
      refine az_cV0 (st := []) dX7_childWithin_39 ml_X7_50 hT0' (s_childOf (d := d - 1) hT' hb3 hx (i := i) (by omega) ?_)
      have hc6 := hw.2.2.2.2.2.2.2.1 ((bs.getD lv 0 * 6 + x) * 4 + i)
      have hcg := sub_getD (w := w) (tb := bs.getD lv 0) (x := x) (i := i) (by omega)
      rw [scan_drop (by rw [ln_sub_len]; omega), hcg] at hsc
      refine az_istore (ls' := [(0, .ref s), (1, .ref a), (2, .int (nI lv)), (3, .int (nI x)), (4, .ref o1), (5, .ref o2), (6, .int (nI (bs.getD lv 0))), (7, .int (nI (ln_sz w (bs.getD lv 0 * 6 + x)))), (8, .int (nI i)), (9, .int (nI (ln_ch w ((bs.getD lv 0 * 6 + x) * 4 + i))))]) dX7_childWithin_42 ?_
      refine az_aload_n dX7_childWithin_44 ?_
      refine az_aload dX7_childWithin_45 ?_
      refine az_aload dX7_childWithin_47 ?_
      refine az_iload_n dX7_childWithin_49 ?_
      refine az_iconst (v := nI 1) dX7_childWithin_50 ?_
      refine az_iaddN dX7_childWithin_51 ?_
      refine az_bipush (v := nI 6) dX7_childWithin_52 ?_
      refine az_imulN dX7_childWithin_54 ?_
      refine az_iload dX7_childWithin_55 ?_
      refine az_iaddN dX7_childWithin_57 ?_
      refine az_cV0 (st := []) dX7_childWithin_58 ml_X7_71 (by rw [he]; exact az_up_eq) (s_isWithin (j := (lv + 1) * 6 + ln_ch w ((bs.getD lv 0 * 6 + x) * 4 + i)) (d := d - 1) (by rw [he]; exact az_up_eq) (by rw [he]; exact az_up_ne h1 hs1) (by rw [he]; exact az_up_ne h2 hs2) (by omega) hk9 (hf _ (by omega)) hs1 hs2 (fun hlt => ?_) (fun hge => ?_))
      · rw [if_pos hlt] at hsc
        refine az_if_eqN (tgt := 67) dX7_childWithin_61 (fun c61 => ?_) (fun c61 => ?_)
        · refine az_iincN (n := 1) (ls' := [(0, .ref s), (1, .ref a), (2, .int (nI lv)), (3, .int (nI x)), (4, .ref o1), (5, .ref o2), (6, .int (nI (bs.getD lv 0))), (7, .int (nI (ln_sz w (bs.getD lv 0 * 6 + x)))), (8, .int (nI (i + 1))), (9, .int (nI (ln_ch w ((bs.getD lv 0 * 6 + x) * 4 + i))))]) dX7_childWithin_67 ?_
          refine az_goto (tgt := 23) dX7_childWithin_70 ?_
          refine az_W.keep (ls' := [(0, .ref s), (1, .ref a), (2, .int (nI lv)), (3, .int (nI x)), (4, .ref o1), (5, .ref o2), (6, .int (nI (bs.getD lv 0))), (7, .int (nI (ln_sz w (bs.getD lv 0 * 6 + x)))), (8, .int (nI (i + 1)))]) [0, 1, 2, 3, 4, 5, 6, 7, 8] rfl ?_
          first | exact absurd c61 (by decide) | exact ih _ (by omega) (i + 1) _ _ _ rfl (by omega) (by omega) hsc (by rw [he, az_up_up])
        · refine az_iload dX7_childWithin_64 ?_
          exact az_iret dX7_childWithin_66 (by first | exact absurd rfl c61 | (rw [he]; rw [← hsc] at hQ; exact hQ))
      · rw [if_neg hge] at hsc
        refine az_if_eqN (tgt := 67) dX7_childWithin_61 (fun c61 => ?_) (fun c61 => ?_)
        · refine az_iincN (n := 1) (ls' := [(0, .ref s), (1, .ref a), (2, .int (nI lv)), (3, .int (nI x)), (4, .ref o1), (5, .ref o2), (6, .int (nI (bs.getD lv 0))), (7, .int (nI (ln_sz w (bs.getD lv 0 * 6 + x)))), (8, .int (nI (i + 1))), (9, .int (nI (ln_ch w ((bs.getD lv 0 * 6 + x) * 4 + i))))]) dX7_childWithin_67 ?_
          refine az_goto (tgt := 23) dX7_childWithin_70 ?_
          refine az_W.keep (ls' := [(0, .ref s), (1, .ref a), (2, .int (nI lv)), (3, .int (nI x)), (4, .ref o1), (5, .ref o2), (6, .int (nI (bs.getD lv 0))), (7, .int (nI (ln_sz w (bs.getD lv 0 * 6 + x)))), (8, .int (nI (i + 1)))]) [0, 1, 2, 3, 4, 5, 6, 7, 8] rfl ?_
          first | exact absurd c61 (by decide) | exact ih _ (by omega) (i + 1) _ _ _ rfl (by omega) (by omega) hsc (by rw [he, az_up_up])
        · refine az_iload dX7_childWithin_64 ?_
          exact az_iret dX7_childWithin_66 (by first | exact absurd rfl c61 | (rw [he]; rw [← hsc] at hQ; exact hQ))
  refine az_M.of rfl (Nat.le_of_ble_eq_true rfl) ?_
  show az_W _ _ _ _ 0 [(0, .ref s), (1, .ref a), (2, .int (nI lv)), (3, .int (nI x)), (4, .ref o1), (5, .ref o2)] [] _ _
  refine az_aload_n dX7_childWithin_0 ?_
  refine az_getf (v := .ref (a + 2)) dX7_childWithin_1 fl_X7_40 g0 ?_
  refine az_iload_n dX7_childWithin_4 ?_
  refine az_ialdN (j := lv) dX7_childWithin_5 g2 ?_
  rw [t2 lv hlv]
  refine az_istore (ls' := [(0, .ref s), (1, .ref a), (2, .int (nI lv)), (3, .int (nI x)), (4, .ref o1), (5, .ref o2), (6, .int (nI (bs.getD lv 0)))]) dX7_childWithin_6 ?_
  refine az_aload_n dX7_childWithin_8 ?_
  refine az_getf (v := .ref t) dX7_childWithin_9 fl_X7_30 g0 ?_
  refine az_iload dX7_childWithin_12 ?_
  refine az_iload_n dX7_childWithin_14 ?_
  refine az_cV0 (st := []) dX7_childWithin_15 ml_X7_44 hT0 (s_sizeOf (d := d - 1) hT.town hb3 hx ?_)
  refine az_istore (ls' := [(0, .ref s), (1, .ref a), (2, .int (nI lv)), (3, .int (nI x)), (4, .ref o1), (5, .ref o2), (6, .int (nI (bs.getD lv 0))), (7, .int (nI (ln_sz w (bs.getD lv 0 * 6 + x))))]) dX7_childWithin_18 ?_
  refine az_iconst (v := nI 0) dX7_childWithin_20 ?_
  refine az_istore (ls' := [(0, .ref s), (1, .ref a), (2, .int (nI lv)), (3, .int (nI x)), (4, .ref o1), (5, .ref o2), (6, .int (nI (bs.getD lv 0))), (7, .int (nI (ln_sz w (bs.getD lv 0 * 6 + x)))), (8, .int (nI 0))]) dX7_childWithin_21 ?_
  exact loop _ 0 k0 p0 _ rfl (Nat.zero_le _) hk hr (az_up_same h0).symm
