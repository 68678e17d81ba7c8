/-! Reader: advance -/
set_option maxHeartbeats 4000000 in
set_option maxRecDepth 100000 in
theorem s_worth {d q tx n z a9 kd : Nat} {b : Nat → Nat} {tf : Nat → Int32} {fa fp cd : Value} {va : Int32} {hp : az_Hp} {Q : Option Value → az_Hp → Prop} (hn : n ≤ 900) (ht : hp.2 tx = some (az_Y 900 tf)) (hq : tx ≠ q) (htf : ∀ j, j < n → tf j = bI (b j)) (h0 : hp.2 q = some (az_O 4 [fa, fp, .ref tx, .int (nI n), .int (nI kd), .int (nI a9), .int (nI z), .int va, .ref (q + 2), .ref (q + 3), cd])) (hz : z ≤ n) (haz : a9 ≤ z) (hk4 : kd ≤ 4) (hdg : kd = 2 → ∀ j, a9 ≤ j → j < z → 48 ≤ b j ∧ b j ≤ 57) (hQ : ∀ va, (kd = 2 → va = nI (rd_nu b a9 (z - a9))) → Q none (az_up hp q (az_O 4 [fa, fp, .ref tx, .int (nI n), .int (nI kd), .int (nI a9), .int (nI z), .int va, .ref (q + 2), .ref (q + 3), cd]))) : az_M mX5_worthOfDigits d 0 0 [.ref q] hp Q := by
  have loop : ∀ (k : Nat) (i : Nat), z - i = k → (a9 ≤ i) → (i ≤ z) → az_W mX5_worthOfDigits d 0 0 10 [(0, .ref q), (1, .int (nI i))] [] (az_up hp q (az_O 4 [fa, fp, .ref tx, .int (nI n), .int (nI kd), .int (nI a9), .int (nI z), .int (nI (rd_nu b a9 (i - a9))), .ref (q + 2), .ref (q + 3), cd])) Q := by
    intro k
    induction k using Nat.strongRecOn with
    | _ k ih =>
    intro i hk hi9 hz9
    refine az_iload_n dX5_worthOfDigits_10 ?_
    refine az_aload_n dX5_worthOfDigits_11 ?_
    refine az_getf (v := .int (nI z)) dX5_worthOfDigits_12 fl_X5_38 az_up_eq ?_
    refine az_icmp_geN (tgt := 53) dX5_worthOfDigits_15 (fun c15 => ?_) (fun c15 => ?_)
    · exact az_vret dX5_worthOfDigits_53 (hQ _ (fun e => (by rw [show i = z by omega])))
    · refine az_aload_n dX5_worthOfDigits_18 ?_
      refine az_getf (v := .int (nI kd)) dX5_worthOfDigits_19 fl_X5_51 az_up_eq ?_
      refine az_iconst (v := nI 2) dX5_worthOfDigits_22 ?_
      refine az_icmp_neN (tgt := 53) dX5_worthOfDigits_23 (fun c23 => ?_) (fun c23 => ?_)
      · exact az_vret dX5_worthOfDigits_53 (hQ _ (fun e => (by rw [show i = z by omega])))
      · refine az_aload_n dX5_worthOfDigits_26 ?_
        refine az_aload_n dX5_worthOfDigits_27 ?_
        refine az_getf (v := .int (nI (rd_nu b a9 (i - a9)))) dX5_worthOfDigits_28 fl_X5_69 az_up_eq ?_
        refine az_bipush (v := nI 10) dX5_worthOfDigits_31 ?_
        refine az_imulN dX5_worthOfDigits_33 ?_
        refine az_aload_n dX5_worthOfDigits_34 ?_
        refine az_getf (v := .ref tx) dX5_worthOfDigits_35 fl_X5_18 az_up_eq ?_
        refine az_iload_n dX5_worthOfDigits_38 ?_
        have hd9 := hdg c23 i (by omega) (by omega)
        refine az_baldN (j := i) dX5_worthOfDigits_39 (az_up_ne ht) ?_
        rw [htf i (by omega), bI_nI (by omega)]
        refine az_iaddN dX5_worthOfDigits_40 ?_
        refine az_bipush (v := nI 48) dX5_worthOfDigits_41 ?_
        refine az_isubN dX5_worthOfDigits_43 (by omega) ?_
        refine az_putf (fs' := [fa, fp, .ref tx, .int (nI n), .int (nI kd), .int (nI a9), .int (nI z), .int (nI ((((rd_nu b a9 (i - a9)) * 10) + (b i)) - 48)), .ref (q + 2), .ref (q + 3), cd]) dX5_worthOfDigits_44 fl_X5_69 az_up_eq ?_
        refine az_iincN (n := 1) (ls' := [(0, .ref q), (1, .int (nI (i + 1)))]) dX5_worthOfDigits_47 ?_
        refine az_goto (tgt := 10) dX5_worthOfDigits_50 ?_
        rw [az_up_up, show rd_nu b a9 (i - a9) * 10 + b i - 48 = rd_nu b a9 (i + 1 - a9) by (rw [show i + 1 - a9 = (i - a9) + 1 by omega, rd_nu, show a9 + (i - a9) = i by omega])]
        exact ih _ (by omega) (i + 1) rfl (by omega) (by omega)
  refine az_M.of rfl (Nat.le_of_ble_eq_true rfl) ?_
  show az_W _ _ _ _ 0 [(0, .ref q)] [] _ _
  refine az_aload_n dX5_worthOfDigits_0 ?_
  refine az_iconst (v := nI 0) dX5_worthOfDigits_1 ?_
  refine az_putf (fs' := [fa, fp, .ref tx, .int (nI n), .int (nI kd), .int (nI a9), .int (nI z), .int (nI 0), .ref (q + 2), .ref (q + 3), cd]) dX5_worthOfDigits_2 fl_X5_69 h0 ?_
  refine az_aload_n dX5_worthOfDigits_5 ?_
  refine az_getf (v := .int (nI a9)) dX5_worthOfDigits_6 fl_X5_204 az_up_eq ?_
  refine az_istore_n (ls' := [(0, .ref q), (1, .int (nI a9))]) dX5_worthOfDigits_9 ?_
  rw [show nI 0 = nI (rd_nu b a9 (a9 - a9)) by rw [Nat.sub_self]; rfl]
  exact loop _ a9 rfl (Nat.le_refl _) haz
