/-! The model: words read back -/
set_option maxHeartbeats 4000000 in
set_option maxRecDepth 100000 in
theorem m_isBack {d nw tb : Nat} {sc : Nat → Value} {A : Nat → Nat} {v : rd_V} {g : Nat → Nat} {f77 : Nat → Int32} {hp : az_Hp} {Q : Option Value → az_Hp → Prop} {x a : Nat} (hd : 1 ≤ d) (hw : ln_ok (rd_w v)) (hn6 : nw ≤ 6) (h64 : hp.2 64 = some (mo_o sc)) (h29 : sc 29 = .int (nI nw)) (h65 : hp.2 65 = some (az_I 3318 (fun j => nI (A j)))) (hV : mV A v) (h77 : hp.2 77 = some (az_I 6 f77)) (hf : ∀ i, i < nw → f77 i = nI (g i)) (hg : ∀ i, i < nw → g i < 6) (h3 : tb < 3) (hx : x < 6) (ha : a ≤ nw) (hQ1 : fs_ok (rd_w v) tb g nw a x → Q (some (.int (nI 1))) hp) (hQ0 : ¬ fs_ok (rd_w v) tb g nw a x → Q (some (.int (nI 0))) hp) : az_M mX12_isBack d 0 0 [.ref 64, .int (nI tb), .int (nI x), .int (nI a)] hp Q := by
  have hz4 := hw.2.2.2.2.2.2.1 (tb * 6 + x)
  have h64' : hp.2 64 = some (az_O 11 [sc 0, .ref 65, .ref 66, .ref 67, .ref 68, sc 5, fI (sc 6), sc 7, sc 8, fI (sc 9), fI (sc 10), sc 11, fI (sc 12), sc 13, sc 14, .ref 69, .ref 70, .ref 71, sc 18, .ref 72, .ref 73, .ref 74, sc 22, sc 23, .ref 75, sc 25, .ref 76, .ref 77, .ref 78, .int (nI nw), .ref 79, .ref 80, .ref 81, .ref 82, .ref 83, .ref 84, .ref 85, sc 37, .ref 86, .ref 87, .ref 88, .ref 89, .ref 90, .ref 91, .ref 92]) := by rw [← h29]; exact h64
  have loop : ∀ (k : Nat) (i : Nat) (hne : ¬ ln_sz (rd_w v) (tb * 6 + x) = 0) (hle : a + ln_sz (rd_w v) (tb * 6 + x) ≤ nw), ln_sz (rd_w v) (tb * 6 + x) - i = k → (i ≤ ln_sz (rd_w v) (tb * 6 + x)) → (∀ j, j < i → g (a + j) = ln_ch (rd_w v) ((tb * 6 + x) * 4 + j)) → az_W mX12_isBack d 0 0 29 [(0, .ref 64), (1, .int (nI tb)), (2, .int (nI x)), (3, .int (nI a)), (4, .int (nI (ln_sz (rd_w v) (tb * 6 + x)))), (5, .int (nI i))] [] hp Q := by
    intro k
    induction k using Nat.strongRecOn with
    | _ k ih =>
    intro i hne hle hk hi4 hal
    refine az_iload dX12_isBack_29 ?_
    refine az_iload dX12_isBack_31 ?_
    refine az_icmp_geN (tgt := 64) dX12_isBack_33 (fun c33 => ?_) (fun c33 => ?_)
    · refine az_iconst (v := nI 1) dX12_isBack_64 ?_
      exact az_iret dX12_isBack_65 (hQ1 ⟨hne, by omega, fun j q1 => hal j (by omega)⟩)
    · refine az_aload_n dX12_isBack_36 ?_
      refine az_iload_n dX12_isBack_37 ?_
      refine az_iload_n dX12_isBack_38 ?_
      refine az_iload dX12_isBack_39 ?_
      refine az_cV0 (st := []) dX12_isBack_41 ml_X12_242 h64' (m_becomeOf (d := d - 1) (v := v) (tb := tb) (x := x) (i := i) h64 h65 hV hw h3 hx (by omega) ?_)
      have hc6 := hw.2.2.2.2.2.2.2.1 ((tb * 6 + x) * 4 + i)
      have hga := hg (a + i) (by omega)
      refine az_aload_n dX12_isBack_44 ?_
      refine az_getf (v := .ref 77) dX12_isBack_45 fl_X12_55 h64' ?_
      refine az_iload_n dX12_isBack_48 ?_
      refine az_iload dX12_isBack_49 ?_
      refine az_iaddN dX12_isBack_51 ?_
      refine az_ialdN (j := a + i) dX12_isBack_52 h77 ?_
      rw [hf (a + i) (by omega)]
      refine az_icmp_eqN (tgt := 58) dX12_isBack_53 (fun c53 => ?_) (fun c53 => ?_)
      · refine az_iincN (n := 1) (ls' := [(0, .ref 64), (1, .int (nI tb)), (2, .int (nI x)), (3, .int (nI a)), (4, .int (nI (ln_sz (rd_w v) (tb * 6 + x)))), (5, .int (nI (i + 1)))]) dX12_isBack_58 ?_
        refine az_goto (tgt := 29) dX12_isBack_61 ?_
        exact ih _ (by omega) (i + 1) hne hle rfl (by omega) (fun j q1 => if e : j = i then (by rw [e]; exact c53.symm) else hal j (by omega))
      · refine az_iconst (v := nI 0) dX12_isBack_56 ?_
        exact az_iret dX12_isBack_57 (hQ0 (fun q => c53 (q.2.2 i (by omega)).symm))
  refine az_M.of rfl (Nat.le_of_ble_eq_true rfl) ?_
  show az_W _ _ _ _ 0 [(0, .ref 64), (1, .int (nI tb)), (2, .int (nI x)), (3, .int (nI a))] [] _ _
  refine az_aload_n dX12_isBack_0 ?_
  refine az_iload_n dX12_isBack_1 ?_
  refine az_iload_n dX12_isBack_2 ?_
  refine az_cV0 (st := []) dX12_isBack_3 ml_X12_239 h64' (m_becomeMany (d := d - 1) (v := v) (tb := tb) (x := x) h64 h65 hV h3 hx ?_)
  refine az_istore (ls' := [(0, .ref 64), (1, .int (nI tb)), (2, .int (nI x)), (3, .int (nI a)), (4, .int (nI (ln_sz (rd_w v) (tb * 6 + x))))]) dX12_isBack_6 ?_
  refine az_iload dX12_isBack_8 ?_
  refine az_if_eqN (tgt := 24) dX12_isBack_10 (fun c10 => ?_) (fun c10 => ?_)
  · refine az_iconst (v := nI 0) dX12_isBack_24 ?_
    exact az_iret dX12_isBack_25 (by first | exact hQ0 (fun q => q.1 (by omega)) | exact hQ0 (fun q => absurd q.2.1 (by omega)))
  · refine az_iload_n dX12_isBack_13 ?_
    refine az_iload dX12_isBack_14 ?_
    refine az_iaddN dX12_isBack_16 ?_
    refine az_aload_n dX12_isBack_17 ?_
    refine az_getf (v := .int (nI nw)) dX12_isBack_18 fl_X12_376 h64' ?_
    refine az_icmp_leN (tgt := 26) dX12_isBack_21 (fun c21 => ?_) (fun c21 => ?_)
    · refine az_iconst (v := nI 0) dX12_isBack_26 ?_
      refine az_istore (ls' := [(0, .ref 64), (1, .int (nI tb)), (2, .int (nI x)), (3, .int (nI a)), (4, .int (nI (ln_sz (rd_w v) (tb * 6 + x)))), (5, .int (nI 0))]) dX12_isBack_27 ?_
      exact loop _ 0 (by omega) (by omega) rfl (Nat.zero_le _) (fun j q1 => absurd q1 (by omega))
    · refine az_iconst (v := nI 0) dX12_isBack_24 ?_
      exact az_iret dX12_isBack_25 (by first | exact hQ0 (fun q => q.1 (by omega)) | exact hQ0 (fun q => absurd q.2.1 (by omega)))
set_option maxHeartbeats 4000000 in
set_option maxRecDepth 100000 in
theorem m_backsW {d nw tb : Nat} {sc : Nat → Value} {A : Nat → Nat} {v : rd_V} {g : Nat → Nat} {f77 : Nat → Int32} {hp : az_Hp} {Q : Option Value → az_Hp → Prop} {n0 : Nat} {wy0 : Nat → Nat} (hd : 2 ≤ d) (hw : ln_ok (rd_w v)) (hn6 : nw ≤ 6) (h64 : hp.2 64 = some (mo_o sc)) (h29 : sc 29 = .int (nI nw)) (h65 : hp.2 65 = some (az_I 3318 (fun j => nI (A j)))) (hV : mV A v) (h77 : hp.2 77 = some (az_I 6 f77)) (hf : ∀ i, i < nw → f77 i = nI (g i)) (hg : ∀ i, i < nw → g i < 6) (h3 : tb < 3) (hn1 : 1 ≤ nw) (h79 : hp.2 79 = some (az_I 7 (fun j => nI (wy0 j)))) (hQ : ∀ wy : Nat → Nat, (∀ a, a ≤ nw → wy a = fw (rd_w v) tb g nw nw a) → Q (some (.int (nI (fw (rd_w v) tb g nw nw 0)))) (az_up hp 79 (az_I 7 (fun j => nI (wy j))))) : az_W mX12_laysBacks d 0 0 5 [(0, .ref 64), (1, .int (nI n0)), (2, .int (nI tb))] [] hp Q := by
  have h64' : hp.2 64 = some (az_O 11 [sc 0, .ref 65, .ref 66, .ref 67, .ref 68, sc 5, fI (sc 6), sc 7, sc 8, fI (sc 9), fI (sc 10), sc 11, fI (sc 12), sc 13, sc 14, .ref 69, .ref 70, .ref 71, sc 18, .ref 72, .ref 73, .ref 74, sc 22, sc 23, .ref 75, sc 25, .ref 76, .ref 77, .ref 78, .int (nI nw), .ref 79, .ref 80, .ref 81, .ref 82, .ref 83, .ref 84, .ref 85, sc 37, .ref 86, .ref 87, .ref 88, .ref 89, .ref 90, .ref 91, .ref 92]) := by rw [← h29]; exact h64
  have loop : ∀ (k : Nat) (kk a y : Nat) (wy : Nat → Nat) (h' : az_Hp), a * 10 + (6 - y) = k → (a + (kk + 1) = nw) → (y ≤ 6) → (wy a = sm (fun x => if fs_ok (rd_w v) tb g nw a x then fw (rd_w v) tb g nw kk (a + ln_sz (rd_w v) (tb * 6 + x)) else 0) y) → (∀ b, a < b → b ≤ nw → wy b = fw (rd_w v) tb g nw kk b) → (h' = az_up hp 79 (az_I 7 (fun j => nI (wy j)))) → az_W mX12_laysBacks d 0 0 36 [(0, .ref 64), (1, .int (nI n0)), (2, .int (nI tb)), (3, .int (nI a)), (4, .int (nI y))] [] h' Q := by
    intro k
    induction k using Nat.strongRecOn with
    | _ k ih =>
    intro kk a y wy h' hk hak hy6 hwa hwf he
    have b64 : h'.2 64 = some (mo_o sc) := (by rw [he]; exact az_up_ne h64)
    have b64' : h'.2 64 = some (az_O 11 [sc 0, .ref 65, .ref 66, .ref 67, .ref 68, sc 5, fI (sc 6), sc 7, sc 8, fI (sc 9), fI (sc 10), sc 11, fI (sc 12), sc 13, sc 14, .ref 69, .ref 70, .ref 71, sc 18, .ref 72, .ref 73, .ref 74, sc 22, sc 23, .ref 75, sc 25, .ref 76, .ref 77, .ref 78, .int (nI nw), .ref 79, .ref 80, .ref 81, .ref 82, .ref 83, .ref 84, .ref 85, sc 37, .ref 86, .ref 87, .ref 88, .ref 89, .ref 90, .ref 91, .ref 92]) := (by rw [← h29]; exact b64)
    have b65 : h'.2 65 = some (az_I 3318 (fun j => nI (A j))) := (by rw [he]; exact az_up_ne h65)
    have b77 : h'.2 77 = some (az_I 6 f77) := (by rw [he]; exact az_up_ne h77)
    refine az_iload dX12_laysBacks_36 ?_
    refine az_bipush (v := nI 6) dX12_laysBacks_38 ?_
    refine az_icmp_geN (tgt := 87) dX12_laysBacks_40 (fun c40 => ?_) (fun c40 => ?_)
    · have hy6 : y = 6 := (by omega)
      have hfa : wy a = fw (rd_w v) tb g nw (kk + 1) a := (by rw [hwa, hy6, fw_step (by omega)])
      have hwf2 : ∀ b, a ≤ b → b ≤ nw → wy b = fw (rd_w v) tb g nw (kk + 1) b := (fun b q1 q2 => if e : b = a then (by rw [e]; exact hfa) else (by rw [fw_old (by omega)]; exact hwf b (by omega) q2))
      refine az_iinc (v := nI a - nI 1) (ls' := [(0, .ref 64), (1, .int (nI n0)), (2, .int (nI tb)), (3, .int (nI a - nI 1)), (4, .int (nI y))]) dX12_laysBacks_87 ?_ (hx := (nI_dec a))
      refine az_goto (tgt := 22) dX12_laysBacks_90 ?_
      refine az_iload_n dX12_laysBacks_22 ?_
      refine az_if_lt (tgt := 93) dX12_laysBacks_23 (fun c23 => ?_) (fun c23 => ?_)
      · have ha0 : a = 0 := by by_cases q : a = 0; exact q; exact absurd c23 (by rw [nI_subN (by omega)]; exact nI_pos (by omega))
        refine az_aload_n dX12_laysBacks_93 ?_
        refine az_getf (v := .ref 79) dX12_laysBacks_94 fl_X12_61 b64' ?_
        refine az_iconst (v := nI 0) dX12_laysBacks_97 ?_
        refine az_ialdN (j := 0) dX12_laysBacks_98 (by rw [he]; exact az_up_eq) ?_
        rw [hwf2 0 (by omega) (by omega), show kk + 1 = nw by omega]
        exact az_iret dX12_laysBacks_99 (by rw [he]; exact hQ wy (fun b q => (by rw [hwf2 b (by omega) q, show kk + 1 = nw by omega])))
      · obtain ⟨a8, ha8⟩ : ∃ l, a = l + 1 := ⟨a - 1, by by_cases q : a = 0; rw [q] at c23; exact absurd (by decide) c23; omega⟩
        rw [show nI a - nI 1 = nI a8 from (by rw [ha8, nI_subN (by omega)]; rfl)]
        refine az_aload_n dX12_laysBacks_26 ?_
        refine az_getf (v := .ref 79) dX12_laysBacks_27 fl_X12_61 b64' ?_
        refine az_iload_n dX12_laysBacks_30 ?_
        refine az_iconst (v := nI 0) dX12_laysBacks_31 ?_
        refine az_iastN (j := a8) dX12_laysBacks_32 (by rw [he]; exact az_up_eq) ?_
        rw [az_s_nI]
        refine az_iconst (v := nI 0) dX12_laysBacks_33 ?_
        refine az_istore (ls' := [(0, .ref 64), (1, .int (nI n0)), (2, .int (nI tb)), (3, .int (nI a8)), (4, .int (nI 0))]) dX12_laysBacks_34 ?_
        first | exact ih _ (by omega) kk a (y + 1) (az_s wy a (sm (fun x => if fs_ok (rd_w v) tb g nw a x then fw (rd_w v) tb g nw kk (a + ln_sz (rd_w v) (tb * 6 + x)) else 0) y + fw (rd_w v) tb g nw kk (a + ln_sz (rd_w v) (tb * 6 + y)))) _ rfl hak (by omega) (by rw [az_s_eq, sm, if_pos hyes]) (fun b q1 q2 => by rw [az_s_ne (by omega)]; exact hwf b q1 q2) (by rw [he, az_up_up]) | exact ih _ (by omega) kk a (y + 1) (az_s wy a (sm (fun x => if fs_ok (rd_w v) tb g nw a x then fw (rd_w v) tb g nw kk (a + ln_sz (rd_w v) (tb * 6 + x)) else 0) y + 0)) _ rfl hak (by omega) (by rw [az_s_eq, sm, if_neg hnot]) (fun b q1 q2 => by rw [az_s_ne (by omega)]; exact hwf b q1 q2) (by rw [he, az_up_up]) | exact ih _ (by omega) (kk + 1) a8 0 (az_s wy a8 0) _ rfl (by omega) (Nat.zero_le _) az_s_eq (fun b q1 q2 => by rw [az_s_ne (by omega)]; exact hwf2 b (by omega) q2) (by rw [he, az_up_up])
    · refine az_aload_n dX12_laysBacks_43 ?_
      refine az_getf (v := .ref 79) dX12_laysBacks_44 fl_X12_61 b64' ?_
      refine az_iload_n dX12_laysBacks_47 ?_
      refine az_dup2_11 dX12_laysBacks_48 ?_
      refine az_ialdN (j := a) dX12_laysBacks_49 (by rw [he]; exact az_up_eq) ?_
      rw [hwa]
      have hp6 := pow6_le (k := kk) (by omega)
      have hsl := sm_le (F := fun x => if fs_ok (rd_w v) tb g nw a x then fw (rd_w v) tb g nw kk (a + ln_sz (rd_w v) (tb * 6 + x)) else 0) (c := 6 ^ kk) (fun x => (by show (if _ then _ else _) ≤ _; split; (exact fw_le _ _ _ _ _ _); (exact Nat.zero_le _))) y
      refine az_aload_n dX12_laysBacks_50 ?_
      refine az_iload_n dX12_laysBacks_51 ?_
      refine az_iload dX12_laysBacks_52 ?_
      refine az_iload_n dX12_laysBacks_54 ?_
      refine az_cV0 (st := [.int (nI (sm (fun x => if fs_ok (rd_w v) tb g nw a x then fw (rd_w v) tb g nw kk (a + ln_sz (rd_w v) (tb * 6 + x)) else 0) y)), .int (nI a), .ref 79]) dX12_laysBacks_55 ml_X12_392 b64' (m_isBack (d := d - 1) (nw := nw) (g := g) (x := y) (a := a) (by omega) hw hn6 b64 h29 b65 hV b77 hf hg h3 (by omega) (by omega) ?_ ?_)
      · intro hyes
        have hst := hyes.2.1
        have hsz := hyes.1
        have hwl := fw_le (rd_w v) tb g nw kk (a + ln_sz (rd_w v) (tb * 6 + y))
        refine az_if_eqN (tgt := 78) dX12_laysBacks_58 (fun c58 => ?_) (fun c58 => ?_)
        · exact absurd c58 (by omega)
        · refine az_aload_n dX12_laysBacks_61 ?_
          refine az_getf (v := .ref 79) dX12_laysBacks_62 fl_X12_61 b64' ?_
          refine az_iload_n dX12_laysBacks_65 ?_
          refine az_aload_n dX12_laysBacks_66 ?_
          refine az_iload_n dX12_laysBacks_67 ?_
          refine az_iload dX12_laysBacks_68 ?_
          refine az_cV0 (st := [.int (nI a), .ref 79, .int (nI (sm (fun x => if fs_ok (rd_w v) tb g nw a x then fw (rd_w v) tb g nw kk (a + ln_sz (rd_w v) (tb * 6 + x)) else 0) y)), .int (nI a), .ref 79]) dX12_laysBacks_70 ml_X12_239 b64' (m_becomeMany (d := d - 1) (v := v) (tb := tb) (x := y) b64 b65 hV h3 (by omega) ?_)
          refine az_iaddN dX12_laysBacks_73 ?_
          refine az_ialdN (j := a + (ln_sz (rd_w v) (tb * 6 + y))) dX12_laysBacks_74 (by rw [he]; exact az_up_eq) ?_
          rw [hwf (a + ln_sz (rd_w v) (tb * 6 + y)) (by omega) (by omega)]
          refine az_goto (tgt := 79) dX12_laysBacks_75 ?_
          refine az_iaddN dX12_laysBacks_79 ?_
          refine az_iastN (j := a) dX12_laysBacks_80 (by rw [he]; exact az_up_eq) ?_
          rw [az_s_nI]
          refine az_iincN (n := 1) (ls' := [(0, .ref 64), (1, .int (nI n0)), (2, .int (nI tb)), (3, .int (nI a)), (4, .int (nI (y + 1)))]) dX12_laysBacks_81 ?_
          refine az_goto (tgt := 36) dX12_laysBacks_84 ?_
          first | exact ih _ (by omega) kk a (y + 1) (az_s wy a (sm (fun x => if fs_ok (rd_w v) tb g nw a x then fw (rd_w v) tb g nw kk (a + ln_sz (rd_w v) (tb * 6 + x)) else 0) y + fw (rd_w v) tb g nw kk (a + ln_sz (rd_w v) (tb * 6 + y)))) _ rfl hak (by omega) (by rw [az_s_eq, sm, if_pos hyes]) (fun b q1 q2 => by rw [az_s_ne (by omega)]; exact hwf b q1 q2) (by rw [he, az_up_up]) | exact ih _ (by omega) kk a (y + 1) (az_s wy a (sm (fun x => if fs_ok (rd_w v) tb g nw a x then fw (rd_w v) tb g nw kk (a + ln_sz (rd_w v) (tb * 6 + x)) else 0) y + 0)) _ rfl hak (by omega) (by rw [az_s_eq, sm, if_neg hnot]) (fun b q1 q2 => by rw [az_s_ne (by omega)]; exact hwf b q1 q2) (by rw [he, az_up_up]) | exact ih _ (by omega) (kk + 1) a8 0 (az_s wy a8 0) _ rfl (by omega) (Nat.zero_le _) az_s_eq (fun b q1 q2 => by rw [az_s_ne (by omega)]; exact hwf2 b (by omega) q2) (by rw [he, az_up_up])
      · intro hnot
        refine az_if_eqN (tgt := 78) dX12_laysBacks_58 (fun c58 => ?_) (fun c58 => ?_)
        · refine az_iconst (v := nI 0) dX12_laysBacks_78 ?_
          refine az_iaddN dX12_laysBacks_79 ?_
          refine az_iastN (j := a) dX12_laysBacks_80 (by rw [he]; exact az_up_eq) ?_
          rw [az_s_nI]
          refine az_iincN (n := 1) (ls' := [(0, .ref 64), (1, .int (nI n0)), (2, .int (nI tb)), (3, .int (nI a)), (4, .int (nI (y + 1)))]) dX12_laysBacks_81 ?_
          refine az_goto (tgt := 36) dX12_laysBacks_84 ?_
          first | exact ih _ (by omega) kk a (y + 1) (az_s wy a (sm (fun x => if fs_ok (rd_w v) tb g nw a x then fw (rd_w v) tb g nw kk (a + ln_sz (rd_w v) (tb * 6 + x)) else 0) y + fw (rd_w v) tb g nw kk (a + ln_sz (rd_w v) (tb * 6 + y)))) _ rfl hak (by omega) (by rw [az_s_eq, sm, if_pos hyes]) (fun b q1 q2 => by rw [az_s_ne (by omega)]; exact hwf b q1 q2) (by rw [he, az_up_up]) | exact ih _ (by omega) kk a (y + 1) (az_s wy a (sm (fun x => if fs_ok (rd_w v) tb g nw a x then fw (rd_w v) tb g nw kk (a + ln_sz (rd_w v) (tb * 6 + x)) else 0) y + 0)) _ rfl hak (by omega) (by rw [az_s_eq, sm, if_neg hnot]) (fun b q1 q2 => by rw [az_s_ne (by omega)]; exact hwf b q1 q2) (by rw [he, az_up_up]) | exact ih _ (by omega) (kk + 1) a8 0 (az_s wy a8 0) _ rfl (by omega) (Nat.zero_le _) az_s_eq (fun b q1 q2 => by rw [az_s_ne (by omega)]; exact hwf2 b (by omega) q2) (by rw [he, az_up_up])
        · exact absurd c58 (by omega)
  refine az_aload_n dX12_laysBacks_5 ?_
  refine az_getf (v := .ref 79) dX12_laysBacks_6 fl_X12_61 h64' ?_
  refine az_aload_n dX12_laysBacks_9 ?_
  refine az_getf (v := .int (nI nw)) dX12_laysBacks_10 fl_X12_376 h64' ?_
  refine az_iconst (v := nI 1) dX12_laysBacks_13 ?_
  refine az_iastN (j := nw) dX12_laysBacks_14 h79 ?_
  rw [az_s_nI]
  refine az_aload_n dX12_laysBacks_15 ?_
  refine az_getf (v := .int (nI nw)) dX12_laysBacks_16 fl_X12_376 (az_up_ne h64') ?_
  refine az_iconst (v := nI 1) dX12_laysBacks_19 ?_
  refine az_isub dX12_laysBacks_20 ?_
  refine az_istore_n (ls' := [(0, .ref 64), (1, .int (nI n0)), (2, .int (nI tb)), (3, .int ((nI nw) - (nI 1)))]) dX12_laysBacks_21 ?_
  refine az_iload_n dX12_laysBacks_22 ?_
  refine az_if_lt (tgt := 93) dX12_laysBacks_23 (fun c23 => ?_) (fun c23 => ?_)
  · exact absurd c23 (by rw [nI_subN (by omega)]; exact nI_pos (by omega))
  · obtain ⟨a8, ha8⟩ : ∃ l, nw = l + 1 := ⟨nw - 1, by omega⟩
    rw [show nI nw - nI 1 = nI a8 from (by rw [ha8, nI_subN (by omega)]; rfl)]
    refine az_aload_n dX12_laysBacks_26 ?_
    refine az_getf (v := .ref 79) dX12_laysBacks_27 fl_X12_61 (az_up_ne h64') ?_
    refine az_iload_n dX12_laysBacks_30 ?_
    refine az_iconst (v := nI 0) dX12_laysBacks_31 ?_
    refine az_iastN (j := a8) dX12_laysBacks_32 az_up_eq ?_
    rw [az_s_nI]
    refine az_iconst (v := nI 0) dX12_laysBacks_33 ?_
    refine az_istore (ls' := [(0, .ref 64), (1, .int (nI n0)), (2, .int (nI tb)), (3, .int (nI a8)), (4, .int (nI 0))]) dX12_laysBacks_34 ?_
    exact loop _ 0 a8 0 (az_s (az_s wy0 nw 1) a8 0) _ rfl (by omega) (Nat.zero_le _) az_s_eq (fun b q1 q2 => by rw [az_s_ne (by omega), show b = nw by omega, az_s_eq]; rfl) (by rw [az_up_up])

set_option maxHeartbeats 4000000 in
set_option maxRecDepth 100000 in
theorem m_laysBacks {d n tb : Nat} {sc : Nat → Value} {A : Nat → Nat} {v : rd_V} {rm : Nat → Int32} {nu : Nat → Int64} {y : Nat × List Int64} {hp : az_Hp} {Q : Option Value → az_Hp → Prop} (hd : 3 ≤ d) (hw : ln_ok (rd_w v)) (hn : n < 4) (hy1 : 1 ≤ y.2.length) (hy6 : y.2.length ≤ 6) (r2 : rm n = nI y.2.length) (r5 : ∀ j, j < y.2.length → nu (40 * n + j) = y.2.getD j 0) (hwd : cs_wd y.2) (h64 : hp.2 64 = some (mo_o sc)) (h65 : hp.2 65 = some (az_I 3318 (fun j => nI (A j)))) (hV : mV A v) (h91 : hp.2 91 = some (az_I 4 rm)) (h92 : hp.2 92 = some (az_J 160 nu)) (h3 : tb < 3) (hk : mk hp) (hQ : ∀ (h' : az_Hp) (f : Nat → Int32) (wy : Nat → Nat), h'.2 64 = some (mo_o (su sc 29 (.int (nI y.2.length)))) → h'.2 77 = some (az_I 6 f) → (∀ i, i < y.2.length → f i = nI (cs_g y.2 i)) → h'.2 79 = some (az_I 7 (fun j => nI (wy j))) → (∀ a, a ≤ y.2.length → wy a = fw (rd_w v) tb (cs_g y.2) y.2.length y.2.length a) → mk h' → mf hp h' [64, 77, 79] → Q (some (.int (nI (fw (rd_w v) tb (cs_g y.2) y.2.length y.2.length 0)))) h') : az_M mX12_laysBacks d 0 0 [.ref 64, .int (nI n), .int (nI tb)] hp Q := by
  obtain ⟨f77, e77⟩ := hk.I (q := 77) (n := 6)
  obtain ⟨f79, e79⟩ := hk.I (q := 79) (n := 7)
  obtain ⟨w79, rfl⟩ := nI_ex f79
  refine az_M.of rfl (Nat.le_of_ble_eq_true rfl) ?_
  show az_W _ _ _ _ 0 [(0, .ref 64), (1, .int (nI n)), (2, .int (nI tb))] [] _ _
  refine az_aload_n dX12_laysBacks_0 ?_
  refine az_iload_n dX12_laysBacks_1 ?_
  refine az_cV0 (st := []) dX12_laysBacks_2 ml_X12_386 h64 (m_laysSpelling (d := d - 1) (n := n) (y := y) hn h64 h91 h92 e77 r2 hy6 r5 hwd ?_)
  intro f9 hf9
  exact m_backsW (sc := su sc 29 (.int (nI y.2.length))) (nw := y.2.length) (g := cs_g y.2) (f77 := f9) (by omega) hw hy6 (az_up_ne az_up_eq) rfl (az_up_ne (az_up_ne h65)) hV az_up_eq hf9 (fun i hi => (hwd i hi).2) h3 hy1 (az_up_ne (az_up_ne e79)) (fun wy hwy => hQ _ f9 wy (az_up_ne (az_up_ne az_up_eq)) (az_up_ne az_up_eq) hf9 az_up_eq hwy (mk.uI (mk.uI (mk.uO hk) rfl) rfl) (((mf.rf.up (by decide)).up (by decide)).up (by decide)))
set_option maxHeartbeats 4000000 in
set_option maxRecDepth 100000 in
theorem q_backs {d : Nat} {x xt : Int32} {tp fk mo ni : Nat} {bt : Nat → Nat} {fp : Int32} {v : rd_V} {bs : List Nat} {U : ln_U} {im : Nat → Option (rd_V × ln_Z)} {tr : Nat → Option (Nat × List Int64)} {hp : az_Hp} {Q : Option Value → az_Hp → Prop} (hd : 5 ≤ d) (hok : cs_ok ((tp, bt), (fk, fp), v, (mo, ni, bs), U, im, tr)) (hM : mm hp ((tp, bt), (fk, fp), v, (mo, ni, bs), U, im, tr)) (hQ2 : ¬ (cs_in x 4 ∧ cs_in xt (ln_tb (rd_w v))) → ∀ h', mm h' ((tp, bt), (fk, fp), v, (mo, ni, bs), U, im, tr) → az_fr hp h' 64 93 → Q (some (.int (-2))) h') (hQ6 : ∀ n, x = nI n → n < 4 → cs_in xt (ln_tb (rd_w v)) → tr n = none → ∀ h', mm h' ((tp, bt), (fk, fp), v, (mo, ni, bs), U, im, tr) → az_fr hp h' 64 93 → Q (some (.int (-6))) h') (hQ4 : ∀ n y, x = nI n → n < 4 → cs_in xt (ln_tb (rd_w v)) → tr n = some y → ¬ (1 ≤ y.2.length ∧ y.2.length ≤ 6) → ∀ h', mm h' ((tp, bt), (fk, fp), v, (mo, ni, bs), U, im, tr) → az_fr hp h' 64 93 → Q (some (.int (-4))) h') (hQ3 : ∀ n y, x = nI n → n < 4 → cs_in xt (ln_tb (rd_w v)) → tr n = some y → 1 ≤ y.2.length → y.2.length ≤ 6 → ¬ cs_wd y.2 → ∀ h', mm h' ((tp, bt), (fk, fp), v, (mo, ni, bs), U, im, tr) → az_fr hp h' 64 93 → Q (some (.int (-3))) h') (hQ : ∀ n y tb, x = nI n → n < 4 → xt = nI tb → tb < ln_tb (rd_w v) → tr n = some y → 1 ≤ y.2.length → y.2.length ≤ 6 → cs_wd y.2 → ∀ h', mm h' ((tp, bt), (fk, fp), v, (mo, ni, bs), U, im, tr) → az_fr hp h' 64 93 → Q (some (.int (nI (fw (rd_w v) tb (cs_g y.2) y.2.length y.2.length 0)))) h') : az_M mX12_backs d 0 0 [.ref 64, .int x, .int xt] hp Q := by
  obtain ⟨sc0, A0, tf0, hI0, rs0, rm0, nu0, o1, o2, -⟩ := id hM
  have hgd : rd_good v := hok.2.2.1
  have hw : ln_ok (rd_w v) := hgd.1
  have hba : ln_ba (rd_w v) bs := hok.2.2.2.1
  have hb : ln_by (rd_w v) bs := hba.b
  have hlen := hb.2.2
  have h60 := hb.1
  have hU10 : U.length ≤ 10 := hok.2.2.2.2.1
  have ht1 := hw.1
  have ht3 := hw.2.1
  refine az_M.of rfl (Nat.le_of_ble_eq_true rfl) ?_
  show az_W _ _ _ _ 0 [(0, .ref 64), (1, .int x), (2, .int xt)] [] _ _
  refine az_aload_n dX12_backs_0 ?_
  refine az_iconst (v := nI 0) dX12_backs_1 ?_
  refine az_putf (fs' := [.int (nI 0), .ref 65, .ref 66, .ref 67, .ref 68, sc0 5, fI (sc0 6), sc0 7, sc0 8, fI (sc0 9), fI (sc0 10), sc0 11, fI (sc0 12), sc0 13, sc0 14, .ref 69, .ref 70, .ref 71, sc0 18, .ref 72, .ref 73, .ref 74, sc0 22, sc0 23, .ref 75, sc0 25, .ref 76, .ref 77, .ref 78, sc0 29, .ref 79, .ref 80, .ref 81, .ref 82, .ref 83, .ref 84, .ref 85, sc0 37, .ref 86, .ref 87, .ref 88, .ref 89, .ref 90, .ref 91, .ref 92]) dX12_backs_2 fl_X12_1 o1 ?_
  obtain ⟨h1, hf1, hM1, hh1⟩ : ∃ h1, az_fr hp h1 64 93 ∧ mm h1 ((tp, bt), (fk, fp), v, (mo, ni, bs), U, im, tr) ∧ h1 = az_up hp 64 (mo_o (su sc0 0 (.int (nI 0)))) := ⟨_, az_fr.rf.up, hM.O (sc := su sc0 0 (.int (nI 0))) o2.1 o2.2.1 o2.2.2, rfl⟩
  rw [show (az_up hp 64 (az_O 11 [.int (nI 0), .ref 65, .ref 66, .ref 67, .ref 68, sc0 5, fI (sc0 6), sc0 7, sc0 8, fI (sc0 9), fI (sc0 10), sc0 11, fI (sc0 12), sc0 13, sc0 14, .ref 69, .ref 70, .ref 71, sc0 18, .ref 72, .ref 73, .ref 74, sc0 22, sc0 23, .ref 75, sc0 25, .ref 76, .ref 77, .ref 78, sc0 29, .ref 79, .ref 80, .ref 81, .ref 82, .ref 83, .ref 84, .ref 85, sc0 37, .ref 86, .ref 87, .ref 88, .ref 89, .ref 90, .ref 91, .ref 92])) = h1 from hh1.symm]
  obtain ⟨sc, A, tf, hI, rs, rm, nu, a1, a2, a3, a4, a5, a6, a7, a8, a9, a10, a11, a12, a13, a14⟩ := id hM1
  have a4 : mT A v (mo, ni, bs) := a4
  have a5 : mU A U := a5
  have a7 : mI A hI im := a7
  have a9 : ∀ j, j < tp → tf j = bt j := a9
  have a13 : mR rs rm nu tr := a13
  refine az_aload_n dX12_backs_5 ?_
  refine az_iload_n dX12_backs_6 ?_
  refine az_iload_n dX12_backs_7 ?_
  refine az_cV0 (st := []) dX12_backs_8 ml_X12_395 a1 (m_noBack (d := d - 1) (by omega) hw a3 a4.1 a1 a10 a11 a12 a13 ?_ ?_ ?_ ?_ ?_)
  · intro hno
    refine az_istore_n (ls' := [(0, .ref 64), (1, .int x), (2, .int xt), (3, .int ((-2)))]) dX12_backs_11 ?_
    refine az_iload_n dX12_backs_12 ?_
    refine az_if_eq (tgt := 20) dX12_backs_13 (fun c13 => ?_) (fun c13 => ?_)
    · exact absurd c13 (by decide)
    · refine az_iload_n dX12_backs_16 ?_
      refine az_goto (tgt := 26) dX12_backs_17 ?_
      exact az_iret dX12_backs_26 (by first | first | exact hQ2 hno h1 hM1 hf1 | exact hQ6 n hx hn hit hno h1 hM1 hf1 | exact hQ4 n y hx hn hit hy hno h1 hM1 hf1 | exact hQ3 n y hx hn hit hy h1' h6' hno h1 hM1 hf1 | exact hQ n y tb rfl hn rfl htb hy h1' h6' hwd h2 (hM1.of mf2 (by decide) mk2 c64 a2.1 a2.2.1 a2.2.2) (hf1.tr mf2.fr))
  · intro n hx hn hit hno
    refine az_istore_n (ls' := [(0, .ref 64), (1, .int x), (2, .int xt), (3, .int ((-6)))]) dX12_backs_11 ?_
    refine az_iload_n dX12_backs_12 ?_
    refine az_if_eq (tgt := 20) dX12_backs_13 (fun c13 => ?_) (fun c13 => ?_)
    · exact absurd c13 (by decide)
    · refine az_iload_n dX12_backs_16 ?_
      refine az_goto (tgt := 26) dX12_backs_17 ?_
      exact az_iret dX12_backs_26 (by first | first | exact hQ2 hno h1 hM1 hf1 | exact hQ6 n hx hn hit hno h1 hM1 hf1 | exact hQ4 n y hx hn hit hy hno h1 hM1 hf1 | exact hQ3 n y hx hn hit hy h1' h6' hno h1 hM1 hf1 | exact hQ n y tb rfl hn rfl htb hy h1' h6' hwd h2 (hM1.of mf2 (by decide) mk2 c64 a2.1 a2.2.1 a2.2.2) (hf1.tr mf2.fr))
  · intro n y hx hn hit hy hno
    refine az_istore_n (ls' := [(0, .ref 64), (1, .int x), (2, .int xt), (3, .int ((-4)))]) dX12_backs_11 ?_
    refine az_iload_n dX12_backs_12 ?_
    refine az_if_eq (tgt := 20) dX12_backs_13 (fun c13 => ?_) (fun c13 => ?_)
    · exact absurd c13 (by decide)
    · refine az_iload_n dX12_backs_16 ?_
      refine az_goto (tgt := 26) dX12_backs_17 ?_
      exact az_iret dX12_backs_26 (by first | first | exact hQ2 hno h1 hM1 hf1 | exact hQ6 n hx hn hit hno h1 hM1 hf1 | exact hQ4 n y hx hn hit hy hno h1 hM1 hf1 | exact hQ3 n y hx hn hit hy h1' h6' hno h1 hM1 hf1 | exact hQ n y tb rfl hn rfl htb hy h1' h6' hwd h2 (hM1.of mf2 (by decide) mk2 c64 a2.1 a2.2.1 a2.2.2) (hf1.tr mf2.fr))
  · intro n y hx hn hit hy h1' h6' hno
    refine az_istore_n (ls' := [(0, .ref 64), (1, .int x), (2, .int xt), (3, .int ((-3)))]) dX12_backs_11 ?_
    refine az_iload_n dX12_backs_12 ?_
    refine az_if_eq (tgt := 20) dX12_backs_13 (fun c13 => ?_) (fun c13 => ?_)
    · exact absurd c13 (by decide)
    · refine az_iload_n dX12_backs_16 ?_
      refine az_goto (tgt := 26) dX12_backs_17 ?_
      exact az_iret dX12_backs_26 (by first | first | exact hQ2 hno h1 hM1 hf1 | exact hQ6 n hx hn hit hno h1 hM1 hf1 | exact hQ4 n y hx hn hit hy hno h1 hM1 hf1 | exact hQ3 n y hx hn hit hy h1' h6' hno h1 hM1 hf1 | exact hQ n y tb rfl hn rfl htb hy h1' h6' hwd h2 (hM1.of mf2 (by decide) mk2 c64 a2.1 a2.2.1 a2.2.2) (hf1.tr mf2.fr))
  · intro n y tb hx hn hxt htb hy h1' h6' hwd
    have h3 := a13 n hn
    rw [hy] at h3
    obtain ⟨r1, r2, r3, r4, r5⟩ := h3
    refine az_istore_n (ls' := [(0, .ref 64), (1, .int x), (2, .int xt), (3, .int (nI 0))]) dX12_backs_11 ?_
    refine az_iload_n dX12_backs_12 ?_
    refine az_if_eqN (tgt := 20) dX12_backs_13 (fun c13 => ?_) (fun c13 => ?_)
    · subst hx
      subst hxt
      refine az_aload_n dX12_backs_20 ?_
      refine az_iload_n dX12_backs_21 ?_
      refine az_iload_n dX12_backs_22 ?_
      refine az_cV0 (st := []) dX12_backs_23 ml_X12_398 a1 (m_laysBacks (d := d - 1) (n := n) (tb := tb) (y := y) (by omega) hw hn h1' h6' r2 r5 hwd a1 a3 a4.1 a11 a12 (by omega) a14 ?_)
      intro h2 f9 wy c64 c77 hf9 c79 hwy mk2 mf2
      exact az_iret dX12_backs_26 (by first | first | exact hQ2 hno h1 hM1 hf1 | exact hQ6 n hx hn hit hno h1 hM1 hf1 | exact hQ4 n y hx hn hit hy hno h1 hM1 hf1 | exact hQ3 n y hx hn hit hy h1' h6' hno h1 hM1 hf1 | exact hQ n y tb rfl hn rfl htb hy h1' h6' hwd h2 (hM1.of mf2 (by decide) mk2 c64 a2.1 a2.2.1 a2.2.2) (hf1.tr mf2.fr))
    · exact absurd c13 (by omega)
theorem fw_st {w : ln_W} {tb : Nat} {g : Nat → Nat} {n b : Nat} : ∀ k, n ≤ b + k → fw w tb g n k b = fw w tb g n (n - b) b := by
  intro k
  induction k with
  | zero => intro h; rw [show n - b = 0 by omega]
  | succ k ih =>
    intro h
    by_cases e : b + (k + 1) = n
    · rw [show n - b = k + 1 by omega]
    · rw [fw_old e]
      exact ih (by omega)
theorem fw_sum {w : ln_W} {tb : Nat} {g : Nat → Nat} {n a : Nat} (h : a < n) : fw w tb g n n a = sm (fun x => if fs_ok w tb g n a x then fw w tb g n n (a + ln_sz w (tb * 6 + x)) else 0) 6 := by
  rw [fw_st n (by omega), show n - a = (n - a - 1) + 1 by omega, fw_step (by omega)]
  apply sm_congr
  intro x _
  by_cases hx : fs_ok w tb g n a x
  · rw [if_pos hx, if_pos hx, fw_st (n - a - 1) (by have := hx.1; omega), fw_st n (by omega)]
  · rw [if_neg hx, if_neg hx]
theorem fl_x_none {w : ln_W} {tb : Nat} {g : Nat → Nat} {n a : Nat} : ∀ (j y : Nat), (∀ x, y ≤ x → x < y + j → ¬ fl_p w tb g n a x) → fl_x w tb g n a y j = none := by
  intro j
  induction j with
  | zero => intro y _; rfl
  | succ j ih =>
    intro y h
    rw [fl_x_no (h y (Nat.le_refl _) (by omega)) (by omega)]
    exact ih (y + 1) (fun x q1 q2 => h x (by omega) (by omega))
theorem fl_x_some {w : ln_W} {tb : Nat} {g : Nat → Nat} {n a : Nat} : ∀ (j y : Nat), fl_x w tb g n a y j = none → ∀ x, y ≤ x → x < y + j → ¬ fl_p w tb g n a x := by
  intro j
  induction j with
  | zero => intro y _ x q1 q2; omega
  | succ j ih =>
    intro y h x q1 q2 hp
    by_cases e : fl_p w tb g n a y
    · rw [fl_x_yes e (by omega)] at h
      cases h
    · rw [fl_x_no e (by omega)] at h
      by_cases e2 : x = y
      · exact e (e2 ▸ hp)
      · exact ih (y + 1) h x (by omega) (by omega) hp
theorem fw_zero {w : ln_W} {tb : Nat} {g : Nat → Nat} {n a : Nat} (h : a < n) : fw w tb g n n a = 0 ↔ fl_x w tb g n a 0 6 = none := by
  rw [fw_sum h]
  constructor
  · intro e
    apply fl_x_none
    intro x _ hx hp
    have := sm_ge (c := fun x => if fs_ok w tb g n a x then fw w tb g n n (a + ln_sz w (tb * 6 + x)) else 0) (x := x) (k := 6) (by omega)
    simp only [if_pos hp.1] at this
    have := hp.2
    omega
  · intro e
    refine Eq.trans (sm_congr (g := fun _ => 0) ?_) (sm_zero 6)
    intro x hx
    show (if _ then _ else _) = 0
    by_cases q : fs_ok w tb g n a x
    · rw [if_pos q]
      have := fl_x_some 6 0 e x (Nat.zero_le _) (by omega)
      apply Classical.byContradiction
      intro c
      exact this ⟨q, by omega⟩
    · rw [if_neg q]
theorem fl_go_end {w : ln_W} {tb : Nat} {g : Nat → Nat} {n f a i : Nat} (h : ¬ a < n) : fl_go w tb g n f a i = none := by
  cases f with
  | zero => rfl
  | succ f => rw [fl_go, if_neg h]
set_option maxHeartbeats 4000000 in
set_option maxRecDepth 100000 in
theorem m_backByW {d nw tb : Nat} {sc : Nat → Value} {A : Nat → Nat} {v : rd_V} {g : Nat → Nat} {f77 : Nat → Int32} {hp : az_Hp} {Q : Option Value → az_Hp → Prop} {n0 i9 : Nat} {wy : Nat → Nat} (hd : 2 ≤ d) (hw : ln_ok (rd_w v)) (hn6 : nw ≤ 6) (h64 : hp.2 64 = some (mo_o sc)) (h29 : sc 29 = .int (nI nw)) (h65 : hp.2 65 = some (az_I 3318 (fun j => nI (A j)))) (hV : mV A v) (h77 : hp.2 77 = some (az_I 6 f77)) (hf : ∀ i, i < nw → f77 i = nI (g i)) (hg : ∀ i, i < nw → g i < 6) (h3 : tb < 3) (hn1 : 1 ≤ nw) (hi31 : i9 < 2 ^ 31) (h79 : hp.2 79 = some (az_I 7 (fun j => nI (wy j)))) (hwy : ∀ a, a ≤ nw → wy a = fw (rd_w v) tb g nw nw a) (hpos : 0 < fw (rd_w v) tb g nw nw 0) (hQ : Q (some (.int (ln_opt (fl_go (rd_w v) tb g nw 7 0 i9)))) hp) : az_W mX12_backBy d 0 0 39 [(0, .ref 64), (1, .int (nI n0)), (2, .int (nI tb)), (3, .int (nI i9)), (4, .int (nI 0))] [] hp Q := by
  have h64' : hp.2 64 = some (az_O 11 [sc 0, .ref 65, .ref 66, .ref 67, .ref 68, sc 5, fI (sc 6), sc 7, sc 8, fI (sc 9), fI (sc 10), sc 11, fI (sc 12), sc 13, sc 14, .ref 69, .ref 70, .ref 71, sc 18, .ref 72, .ref 73, .ref 74, sc 22, sc 23, .ref 75, sc 25, .ref 76, .ref 77, .ref 78, .int (nI nw), .ref 79, .ref 80, .ref 81, .ref 82, .ref 83, .ref 84, .ref 85, sc 37, .ref 86, .ref 87, .ref 88, .ref 89, .ref 90, .ref 91, .ref 92]) := by rw [← h29]; exact h64
  obtain ⟨R, hR⟩ : ∃ R, fl_go (rd_w v) tb g nw 7 0 i9 = R := ⟨_, rfl⟩
  rw [hR] at hQ
  have loop : ∀ (k : Nat) (a k9 c x0 : Nat), (7 - a) * 10 + (6 - c) = k → (a ≤ nw) → (k9 ≤ a ∧ k9 ≤ i9) → (a < nw) → (fl_x (rd_w v) tb g nw a 0 6 = some x0) → (fl_x (rd_w v) tb g nw a c (6 - c) = some x0) → (0 < fw (rd_w v) tb g nw nw a) → (fl_go (rd_w v) tb g nw (7 - k9) a (i9 - k9) = R) → az_W mX12_backBy d 0 0 57 [(0, .ref 64), (1, .int (nI n0)), (2, .int (nI tb)), (3, .int (nI i9)), (4, .int (nI 0)), (5, .int (nI a)), (6, .int (nI k9)), (7, .int (nI c))] [] hp Q := by
    intro k
    induction k using Nat.strongRecOn with
    | _ k ih =>
    intro a k9 c x0 hk ha hka han hX0 hX hps hG
    have hc6 : c < 6 := (by apply Classical.byContradiction; intro q; rw [show 6 - c = 0 by omega] at hX; cases hX)
    have hz4 := hw.2.2.2.2.2.2.1 (tb * 6 + c)
    refine az_aload_n dX12_backBy_57 ?_
    refine az_iload_n dX12_backBy_58 ?_
    refine az_iload dX12_backBy_59 ?_
    refine az_iload dX12_backBy_61 ?_
    refine az_cV0 (st := []) dX12_backBy_63 ml_X12_392 h64' (m_isBack (d := d - 1) (nw := nw) (g := g) (x := c) (a := a) (by omega) hw hn6 h64 h29 h65 hV h77 hf hg h3 hc6 (by omega) ?_ ?_)
    · intro hyes
      have hst := hyes.2.1
      have hsz := hyes.1
      refine az_if_eqN (tgt := 87) dX12_backBy_66 (fun c66 => ?_) (fun c66 => ?_)
      · exact absurd c66 (by omega)
      · refine az_aload_n dX12_backBy_69 ?_
        refine az_getf (v := .ref 79) dX12_backBy_70 fl_X12_61 h64' ?_
        refine az_iload dX12_backBy_73 ?_
        refine az_aload_n dX12_backBy_75 ?_
        refine az_iload_n dX12_backBy_76 ?_
        refine az_iload dX12_backBy_77 ?_
        refine az_cV0 (st := [.int (nI a), .ref 79]) dX12_backBy_79 ml_X12_239 h64' (m_becomeMany (d := d - 1) (v := v) (tb := tb) (x := c) h64 h65 hV h3 hc6 ?_)
        refine az_iaddN dX12_backBy_82 ?_
        refine az_ialdN (j := a + (ln_sz (rd_w v) (tb * 6 + c))) dX12_backBy_83 h79 ?_
        rw [hwy (a + ln_sz (rd_w v) (tb * 6 + c)) (by omega)]
        have hwl := fw_le (rd_w v) tb g nw nw (a + ln_sz (rd_w v) (tb * 6 + c))
        have hp6 := pow6_le (k := nw) (by omega)
        refine az_if_neN (tgt := 93) dX12_backBy_84 (fun c84 => ?_) (fun c84 => ?_)
        · have hfp : fl_p (rd_w v) tb g nw a c := ⟨hyes, by omega⟩
          have hxc : x0 = c := (by rw [fl_x_yes hfp (by omega)] at hX; cases hX; rfl)
          rw [show 7 - k9 = (6 - k9) + 1 by omega, fl_go, if_pos han, hX0] at hG
          dsimp only at hG
          refine az_iload dX12_backBy_93 ?_
          refine az_iload_n dX12_backBy_95 ?_
          refine az_icmp_neN (tgt := 102) dX12_backBy_96 (fun c96 => ?_) (fun c96 => ?_)
          · refine az_iload dX12_backBy_102 ?_
            refine az_aload_n dX12_backBy_104 ?_
            refine az_iload_n dX12_backBy_105 ?_
            refine az_iload dX12_backBy_106 ?_
            refine az_cV0 (st := [.int (nI a)]) dX12_backBy_108 ml_X12_239 h64' (m_becomeMany (d := d - 1) (v := v) (tb := tb) (x := c) h64 h65 hV h3 hc6 ?_)
            refine az_iaddN dX12_backBy_111 ?_
            refine az_istore (ls' := [(0, .ref 64), (1, .int (nI n0)), (2, .int (nI tb)), (3, .int (nI i9)), (4, .int (nI 0)), (5, .int (nI (a + (ln_sz (rd_w v) (tb * 6 + c))))), (6, .int (nI k9)), (7, .int (nI c))]) dX12_backBy_112 ?_
            refine az_iincN (n := 1) (ls' := [(0, .ref 64), (1, .int (nI n0)), (2, .int (nI tb)), (3, .int (nI i9)), (4, .int (nI 0)), (5, .int (nI (a + (ln_sz (rd_w v) (tb * 6 + c))))), (6, .int (nI (k9 + 1))), (7, .int (nI c))]) dX12_backBy_114 ?_
            refine az_goto (tgt := 45) dX12_backBy_117 ?_
            refine az_iload dX12_backBy_45 ?_
            refine az_aload_n dX12_backBy_47 ?_
            refine az_getf (v := .int (nI nw)) dX12_backBy_48 fl_X12_376 h64' ?_
            refine az_icmp_geN (tgt := 120) dX12_backBy_51 (fun c51 => ?_) (fun c51 => ?_)
            · refine az_iconst (v := (-1)) dX12_backBy_120 ?_
              exact az_iret dX12_backBy_121 (by rw [if_neg (by omega), hxc, fl_go_end (by omega)] at hG; subst hG; exact hQ)
            · refine az_iconst (v := nI 0) dX12_backBy_54 ?_
              refine az_istore (ls' := [(0, .ref 64), (1, .int (nI n0)), (2, .int (nI tb)), (3, .int (nI i9)), (4, .int (nI 0)), (5, .int (nI (a + (ln_sz (rd_w v) (tb * 6 + c))))), (6, .int (nI (k9 + 1))), (7, .int (nI 0))]) dX12_backBy_55 ?_
              first | (rw [fl_x_no (fun q => hnot q.1) (by omega)] at hX; exact ih _ (by omega) a k9 (c + 1) x0 rfl ha hka han hX0 (by rw [show 6 - (c + 1) = 6 - c - 1 by omega]; exact hX) hps hG) | (rw [fl_x_no (fun q => by have := q.2; omega) (by omega)] at hX; exact ih _ (by omega) a k9 (c + 1) x0 rfl ha hka han hX0 (by rw [show 6 - (c + 1) = 6 - c - 1 by omega]; exact hX) hps hG) | (rw [if_neg (by omega), hxc] at hG; obtain ⟨x1, hx1⟩ : ∃ x1, fl_x (rd_w v) tb g nw (a + ln_sz (rd_w v) (tb * 6 + c)) 0 6 = some x1 := (by cases hq : fl_x (rd_w v) tb g nw (a + ln_sz (rd_w v) (tb * 6 + c)) 0 6 with | some x1 => exact ⟨x1, rfl⟩ | none => exact absurd ((fw_zero (by omega)).mpr hq) (by have := hfp.2; omega)); exact ih _ (by omega) (a + ln_sz (rd_w v) (tb * 6 + c)) (k9 + 1) 0 x1 rfl (by omega) (by omega) (by omega) hx1 hx1 hfp.2 (by rw [show 7 - (k9 + 1) = 6 - k9 by omega, show i9 - (k9 + 1) = i9 - k9 - 1 by omega]; exact hG))
          · refine az_iload dX12_backBy_99 ?_
            exact az_iret dX12_backBy_101 (by rw [if_pos (by omega), hxc] at hG; subst hG; exact hQ)
        · refine az_iincN (n := 1) (ls' := [(0, .ref 64), (1, .int (nI n0)), (2, .int (nI tb)), (3, .int (nI i9)), (4, .int (nI 0)), (5, .int (nI a)), (6, .int (nI k9)), (7, .int (nI (c + 1)))]) dX12_backBy_87 ?_
          refine az_goto (tgt := 57) dX12_backBy_90 ?_
          first | (rw [fl_x_no (fun q => hnot q.1) (by omega)] at hX; exact ih _ (by omega) a k9 (c + 1) x0 rfl ha hka han hX0 (by rw [show 6 - (c + 1) = 6 - c - 1 by omega]; exact hX) hps hG) | (rw [fl_x_no (fun q => by have := q.2; omega) (by omega)] at hX; exact ih _ (by omega) a k9 (c + 1) x0 rfl ha hka han hX0 (by rw [show 6 - (c + 1) = 6 - c - 1 by omega]; exact hX) hps hG) | (rw [if_neg (by omega), hxc] at hG; obtain ⟨x1, hx1⟩ : ∃ x1, fl_x (rd_w v) tb g nw (a + ln_sz (rd_w v) (tb * 6 + c)) 0 6 = some x1 := (by cases hq : fl_x (rd_w v) tb g nw (a + ln_sz (rd_w v) (tb * 6 + c)) 0 6 with | some x1 => exact ⟨x1, rfl⟩ | none => exact absurd ((fw_zero (by omega)).mpr hq) (by have := hfp.2; omega)); exact ih _ (by omega) (a + ln_sz (rd_w v) (tb * 6 + c)) (k9 + 1) 0 x1 rfl (by omega) (by omega) (by omega) hx1 hx1 hfp.2 (by rw [show 7 - (k9 + 1) = 6 - k9 by omega, show i9 - (k9 + 1) = i9 - k9 - 1 by omega]; exact hG))
    · intro hnot
      refine az_if_eqN (tgt := 87) dX12_backBy_66 (fun c66 => ?_) (fun c66 => ?_)
      · refine az_iincN (n := 1) (ls' := [(0, .ref 64), (1, .int (nI n0)), (2, .int (nI tb)), (3, .int (nI i9)), (4, .int (nI 0)), (5, .int (nI a)), (6, .int (nI k9)), (7, .int (nI (c + 1)))]) dX12_backBy_87 ?_
        refine az_goto (tgt := 57) dX12_backBy_90 ?_
        first | (rw [fl_x_no (fun q => hnot q.1) (by omega)] at hX; exact ih _ (by omega) a k9 (c + 1) x0 rfl ha hka han hX0 (by rw [show 6 - (c + 1) = 6 - c - 1 by omega]; exact hX) hps hG) | (rw [fl_x_no (fun q => by have := q.2; omega) (by omega)] at hX; exact ih _ (by omega) a k9 (c + 1) x0 rfl ha hka han hX0 (by rw [show 6 - (c + 1) = 6 - c - 1 by omega]; exact hX) hps hG) | (rw [if_neg (by omega), hxc] at hG; obtain ⟨x1, hx1⟩ : ∃ x1, fl_x (rd_w v) tb g nw (a + ln_sz (rd_w v) (tb * 6 + c)) 0 6 = some x1 := (by cases hq : fl_x (rd_w v) tb g nw (a + ln_sz (rd_w v) (tb * 6 + c)) 0 6 with | some x1 => exact ⟨x1, rfl⟩ | none => exact absurd ((fw_zero (by omega)).mpr hq) (by have := hfp.2; omega)); exact ih _ (by omega) (a + ln_sz (rd_w v) (tb * 6 + c)) (k9 + 1) 0 x1 rfl (by omega) (by omega) (by omega) hx1 hx1 hfp.2 (by rw [show 7 - (k9 + 1) = 6 - k9 by omega, show i9 - (k9 + 1) = i9 - k9 - 1 by omega]; exact hG))
      · exact absurd c66 (by omega)
  refine az_iconst (v := nI 0) dX12_backBy_39 ?_
  refine az_istore (ls' := [(0, .ref 64), (1, .int (nI n0)), (2, .int (nI tb)), (3, .int (nI i9)), (4, .int (nI 0)), (5, .int (nI 0))]) dX12_backBy_40 ?_
  refine az_iconst (v := nI 0) dX12_backBy_42 ?_
  refine az_istore (ls' := [(0, .ref 64), (1, .int (nI n0)), (2, .int (nI tb)), (3, .int (nI i9)), (4, .int (nI 0)), (5, .int (nI 0)), (6, .int (nI 0))]) dX12_backBy_43 ?_
  refine az_iload dX12_backBy_45 ?_
  refine az_aload_n dX12_backBy_47 ?_
  refine az_getf (v := .int (nI nw)) dX12_backBy_48 fl_X12_376 h64' ?_
  refine az_icmp_geN (tgt := 120) dX12_backBy_51 (fun c51 => ?_) (fun c51 => ?_)
  · exact absurd c51 (by omega)
  · refine az_iconst (v := nI 0) dX12_backBy_54 ?_
    refine az_istore (ls' := [(0, .ref 64), (1, .int (nI n0)), (2, .int (nI tb)), (3, .int (nI i9)), (4, .int (nI 0)), (5, .int (nI 0)), (6, .int (nI 0)), (7, .int (nI 0))]) dX12_backBy_55 ?_
    obtain ⟨x1, hx1⟩ : ∃ x1, fl_x (rd_w v) tb g nw 0 0 6 = some x1 := (by cases hq : fl_x (rd_w v) tb g nw 0 0 6 with | some x1 => exact ⟨x1, rfl⟩ | none => exact absurd ((fw_zero (by omega)).mpr hq) (by omega))
    exact loop _ 0 0 0 x1 rfl (Nat.zero_le _) (by omega) (by omega) hx1 hx1 hpos hR
set_option maxHeartbeats 4000000 in
set_option maxRecDepth 100000 in
theorem q_backBy {d : Nat} {x xt xi : Int32} {tp fk mo ni : Nat} {bt : Nat → Nat} {fp : Int32} {v : rd_V} {bs : List Nat} {U : ln_U} {im : Nat → Option (rd_V × ln_Z)} {tr : Nat → Option (Nat × List Int64)} {hp : az_Hp} {Q : Option Value → az_Hp → Prop} (hd : 5 ≤ d) (hok : cs_ok ((tp, bt), (fk, fp), v, (mo, ni, bs), U, im, tr)) (hM : mm hp ((tp, bt), (fk, fp), v, (mo, ni, bs), U, im, tr)) (hQ2 : ¬ (cs_in x 4 ∧ cs_in xt (ln_tb (rd_w v))) → ∀ h', mm h' ((tp, bt), (fk, fp), v, (mo, ni, bs), U, im, tr) → az_fr hp h' 64 93 → Q (some (.int (-2))) h') (hQ6 : ∀ n, x = nI n → n < 4 → cs_in xt (ln_tb (rd_w v)) → tr n = none → ∀ h', mm h' ((tp, bt), (fk, fp), v, (mo, ni, bs), U, im, tr) → az_fr hp h' 64 93 → Q (some (.int (-6))) h') (hQ4 : ∀ n y, x = nI n → n < 4 → cs_in xt (ln_tb (rd_w v)) → tr n = some y → ¬ (1 ≤ y.2.length ∧ y.2.length ≤ 6) → ∀ h', mm h' ((tp, bt), (fk, fp), v, (mo, ni, bs), U, im, tr) → az_fr hp h' 64 93 → Q (some (.int (-4))) h') (hQ3 : ∀ n y, x = nI n → n < 4 → cs_in xt (ln_tb (rd_w v)) → tr n = some y → 1 ≤ y.2.length → y.2.length ≤ 6 → ¬ cs_wd y.2 → ∀ h', mm h' ((tp, bt), (fk, fp), v, (mo, ni, bs), U, im, tr) → az_fr hp h' 64 93 → Q (some (.int (-3))) h') (hQi : ∀ n y, x = nI n → n < 4 → cs_in xt (ln_tb (rd_w v)) → tr n = some y → 1 ≤ y.2.length → y.2.length ≤ 6 → cs_wd y.2 → xi < 0 → ∀ h', mm h' ((tp, bt), (fk, fp), v, (mo, ni, bs), U, im, tr) → az_fr hp h' 64 93 → Q (some (.int (-3))) h') (hQ : ∀ n y tb i, x = nI n → n < 4 → xt = nI tb → tb < ln_tb (rd_w v) → tr n = some y → 1 ≤ y.2.length → y.2.length ≤ 6 → cs_wd y.2 → xi = nI i → i < 2 ^ 31 → ∀ h', mm h' ((tp, bt), (fk, fp), v, (mo, ni, bs), U, im, tr) → az_fr hp h' 64 93 → Q (some (.int (ln_opt (fl_go (rd_w v) tb (cs_g y.2) y.2.length 7 0 i)))) h') : az_M mX12_backBy d 0 0 [.ref 64, .int x, .int xt, .int xi] hp Q := by
  obtain ⟨sc0, A0, tf0, hI0, rs0, rm0, nu0, o1, o2, -⟩ := id hM
  have hgd : rd_good v := hok.2.2.1
  have hw : ln_ok (rd_w v) := hgd.1
  have hba : ln_ba (rd_w v) bs := hok.2.2.2.1
  have hb : ln_by (rd_w v) bs := hba.b
  have hlen := hb.2.2
  have h60 := hb.1
  have hU10 : U.length ≤ 10 := hok.2.2.2.2.1
  have ht1 := hw.1
  have ht3 := hw.2.1
  refine az_M.of rfl (Nat.le_of_ble_eq_true rfl) ?_
  show az_W _ _ _ _ 0 [(0, .ref 64), (1, .int x), (2, .int xt), (3, .int xi)] [] _ _
  refine az_aload_n dX12_backBy_0 ?_
  refine az_iconst (v := nI 0) dX12_backBy_1 ?_
  refine az_putf (fs' := [.int (nI 0), .ref 65, .ref 66, .ref 67, .ref 68, sc0 5, fI (sc0 6), sc0 7, sc0 8, fI (sc0 9), fI (sc0 10), sc0 11, fI (sc0 12), sc0 13, sc0 14, .ref 69, .ref 70, .ref 71, sc0 18, .ref 72, .ref 73, .ref 74, sc0 22, sc0 23, .ref 75, sc0 25, .ref 76, .ref 77, .ref 78, sc0 29, .ref 79, .ref 80, .ref 81, .ref 82, .ref 83, .ref 84, .ref 85, sc0 37, .ref 86, .ref 87, .ref 88, .ref 89, .ref 90, .ref 91, .ref 92]) dX12_backBy_2 fl_X12_1 o1 ?_
  obtain ⟨h1, hf1, hM1, hh1⟩ : ∃ h1, az_fr hp h1 64 93 ∧ mm h1 ((tp, bt), (fk, fp), v, (mo, ni, bs), U, im, tr) ∧ h1 = az_up hp 64 (mo_o (su sc0 0 (.int (nI 0)))) := ⟨_, az_fr.rf.up, hM.O (sc := su sc0 0 (.int (nI 0))) o2.1 o2.2.1 o2.2.2, rfl⟩
  rw [show (az_up hp 64 (az_O 11 [.int (nI 0), .ref 65, .ref 66, .ref 67, .ref 68, sc0 5, fI (sc0 6), sc0 7, sc0 8, fI (sc0 9), fI (sc0 10), sc0 11, fI (sc0 12), sc0 13, sc0 14, .ref 69, .ref 70, .ref 71, sc0 18, .ref 72, .ref 73, .ref 74, sc0 22, sc0 23, .ref 75, sc0 25, .ref 76, .ref 77, .ref 78, sc0 29, .ref 79, .ref 80, .ref 81, .ref 82, .ref 83, .ref 84, .ref 85, sc0 37, .ref 86, .ref 87, .ref 88, .ref 89, .ref 90, .ref 91, .ref 92])) = h1 from hh1.symm]
  obtain ⟨sc, A, tf, hI, rs, rm, nu, a1, a2, a3, a4, a5, a6, a7, a8, a9, a10, a11, a12, a13, a14⟩ := id hM1
  have a4 : mT A v (mo, ni, bs) := a4
  have a5 : mU A U := a5
  have a7 : mI A hI im := a7
  have a9 : ∀ j, j < tp → tf j = bt j := a9
  have a13 : mR rs rm nu tr := a13
  refine az_aload_n dX12_backBy_5 ?_
  refine az_iload_n dX12_backBy_6 ?_
  refine az_iload_n dX12_backBy_7 ?_
  refine az_cV0 (st := []) dX12_backBy_8 ml_X12_395 a1 (m_noBack (d := d - 1) (by omega) hw a3 a4.1 a1 a10 a11 a12 a13 ?_ ?_ ?_ ?_ ?_)
  · intro hno
    refine az_istore (ls' := [(0, .ref 64), (1, .int x), (2, .int xt), (3, .int xi), (4, .int ((-2)))]) dX12_backBy_11 ?_
    refine az_iload dX12_backBy_13 ?_
    refine az_if_eq (tgt := 21) dX12_backBy_15 (fun c15 => ?_) (fun c15 => ?_)
    · exact absurd c15 (by decide)
    · refine az_iload dX12_backBy_18 ?_
      exact az_iret dX12_backBy_20 (by first | exact hQ2 hno h1 hM1 hf1 | exact hQ6 n hx hn hit hno h1 hM1 hf1 | exact hQ4 n y hx hn hit hy hno h1 hM1 hf1 | exact hQ3 n y hx hn hit hy h1' h6' hno h1 hM1 hf1)
  · intro n hx hn hit hno
    refine az_istore (ls' := [(0, .ref 64), (1, .int x), (2, .int xt), (3, .int xi), (4, .int ((-6)))]) dX12_backBy_11 ?_
    refine az_iload dX12_backBy_13 ?_
    refine az_if_eq (tgt := 21) dX12_backBy_15 (fun c15 => ?_) (fun c15 => ?_)
    · exact absurd c15 (by decide)
    · refine az_iload dX12_backBy_18 ?_
      exact az_iret dX12_backBy_20 (by first | exact hQ2 hno h1 hM1 hf1 | exact hQ6 n hx hn hit hno h1 hM1 hf1 | exact hQ4 n y hx hn hit hy hno h1 hM1 hf1 | exact hQ3 n y hx hn hit hy h1' h6' hno h1 hM1 hf1)
  · intro n y hx hn hit hy hno
    refine az_istore (ls' := [(0, .ref 64), (1, .int x), (2, .int xt), (3, .int xi), (4, .int ((-4)))]) dX12_backBy_11 ?_
    refine az_iload dX12_backBy_13 ?_
    refine az_if_eq (tgt := 21) dX12_backBy_15 (fun c15 => ?_) (fun c15 => ?_)
    · exact absurd c15 (by decide)
    · refine az_iload dX12_backBy_18 ?_
      exact az_iret dX12_backBy_20 (by first | exact hQ2 hno h1 hM1 hf1 | exact hQ6 n hx hn hit hno h1 hM1 hf1 | exact hQ4 n y hx hn hit hy hno h1 hM1 hf1 | exact hQ3 n y hx hn hit hy h1' h6' hno h1 hM1 hf1)
  · intro n y hx hn hit hy h1' h6' hno
    refine az_istore (ls' := [(0, .ref 64), (1, .int x), (2, .int xt), (3, .int xi), (4, .int ((-3)))]) dX12_backBy_11 ?_
    refine az_iload dX12_backBy_13 ?_
    refine az_if_eq (tgt := 21) dX12_backBy_15 (fun c15 => ?_) (fun c15 => ?_)
    · exact absurd c15 (by decide)
    · refine az_iload dX12_backBy_18 ?_
      exact az_iret dX12_backBy_20 (by first | exact hQ2 hno h1 hM1 hf1 | exact hQ6 n hx hn hit hno h1 hM1 hf1 | exact hQ4 n y hx hn hit hy hno h1 hM1 hf1 | exact hQ3 n y hx hn hit hy h1' h6' hno h1 hM1 hf1)
  · intro n y tb hx hn hxt htb hy h1' h6' hwd
    have h3 := a13 n hn
    rw [hy] at h3
    obtain ⟨r1, r2, r3, r4, r5⟩ := h3
    refine az_istore (ls' := [(0, .ref 64), (1, .int x), (2, .int xt), (3, .int xi), (4, .int (nI 0))]) dX12_backBy_11 ?_
    refine az_iload dX12_backBy_13 ?_
    refine az_if_eqN (tgt := 21) dX12_backBy_15 (fun c15 => ?_) (fun c15 => ?_)
    · subst hx
      have hit := (cs_in_n htb (by omega)).1
      subst hxt
      refine az_iload_n dX12_backBy_21 ?_
      refine az_if_ge (tgt := 28) dX12_backBy_22 (fun c22 => ?_) (fun c22 => ?_)
      · obtain ⟨i9, hi31, hxi⟩ := I_of (x := xi) (Int32.not_lt.mpr c22)
        subst hxi
        refine az_aload_n dX12_backBy_28 ?_
        refine az_iload_n dX12_backBy_29 ?_
        refine az_iload_n dX12_backBy_30 ?_
        refine az_cV0 (st := []) dX12_backBy_31 ml_X12_398 a1 (m_laysBacks (d := d - 1) (n := n) (tb := tb) (y := y) (by omega) hw hn h1' h6' r2 r5 hwd a1 a3 a4.1 a11 a12 (by omega) a14 ?_)
        intro h2 f9 wy c64 c77 hf9 c79 hwy mk2 mf2
        have hwl := fw_le (rd_w v) tb (cs_g y.2) y.2.length y.2.length 0
        have hp6 := pow6_le (k := y.2.length) (by omega)
        refine az_if_neN (tgt := 39) dX12_backBy_34 (fun c34 => ?_) (fun c34 => ?_)
        · exact m_backByW (sc := su sc 29 (.int (nI y.2.length))) (nw := y.2.length) (g := cs_g y.2) (f77 := f9) (by omega) hw h6' c64 rfl (mf2.at a3) a4.1 c77 hf9 (fun i hi => (hwd i hi).2) (by omega) h1' hi31 c79 hwy (by omega) (hQ n y tb i9 rfl hn rfl htb hy h1' h6' hwd rfl hi31 h2 (hM1.of mf2 (by decide) mk2 c64 a2.1 a2.2.1 a2.2.2) (hf1.tr mf2.fr))
        · refine az_iconst (v := (-1)) dX12_backBy_37 ?_
          exact az_iret dX12_backBy_38 (by have hq := hQ n y tb i9 rfl hn rfl htb hy h1' h6' hwd rfl hi31 h2 (hM1.of mf2 (by decide) mk2 c64 a2.1 a2.2.1 a2.2.2) (hf1.tr mf2.fr); rw [fl_go, if_pos (by omega), (fw_zero (by omega)).mp (by omega)] at hq; exact hq)
      · refine az_bipush (v := (-3)) dX12_backBy_25 ?_
        exact az_iret dX12_backBy_27 (hQi n y rfl hn hit hy h1' h6' hwd (Int32.not_le.mp c22) h1 hM1 hf1)
    · exact absurd c15 (by omega)

