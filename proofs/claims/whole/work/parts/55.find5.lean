/-! Finder: read back -/
/-- from place a on stands what x becomes, more than nothing -/
abbrev fs_ok (w : ln_W) (tb : Nat) (g : Nat → Nat) (n a x : Nat) : Prop := ¬ ln_sz w (tb * 6 + x) = 0 ∧ a + ln_sz w (tb * 6 + x) ≤ n ∧ ∀ i, i < ln_sz w (tb * 6 + x) → g (a + i) = ln_ch w ((tb * 6 + x) * 4 + i)
set_option maxRecDepth 100000 in
theorem s_standsAt {d r t tb a x n : Nat} {w : ln_W} {g : Nat → Nat} {xt : Nat × List Int64} {hp : az_Hp} {Q : Option Value → az_Hp → Prop} (hd : 1 ≤ d) (hw : ln_ok w) (hT : ln_Town hp t w) (hR : ln_Tray hp r (some xt)) (hn : xt.2.length = n) (hg : ∀ i, i < n → g i < 6) (hx9 : ∀ i, i < n → xt.2.getD i 0 = lN (g i)) (h3 : tb < 3) (hx : x < 6) (ha : a ≤ n) (hQ1 : fs_ok w tb g n a x → Q (some (.int (nI 1))) hp) (hQ0 : ¬ fs_ok w tb g n a x → Q (some (.int (nI 0))) hp) : az_M mX0_standsAt d 0 0 [.ref r, .int (nI a), .ref t, .int (nI tb), .int (nI x)] hp Q := by
  obtain ⟨a4, a5, hT0, -⟩ := id hT
  obtain ⟨hl40, hs3, fr, r0, -⟩ := id hR
  have hz4 := hw.2.2.2.2.2.2.1 (tb * 6 + x)
  have loop : ∀ (k : Nat) (i : Nat) (hne : ¬ ln_sz w (tb * 6 + x) = 0) (hle : a + ln_sz w (tb * 6 + x) ≤ n), ln_sz w (tb * 6 + x) - i = k → (i ≤ ln_sz w (tb * 6 + x)) → (∀ j, j < i → g (a + j) = ln_ch w ((tb * 6 + x) * 4 + j)) → az_W mX0_standsAt d 0 0 30 [(0, .ref r), (1, .int (nI a)), (2, .ref t), (3, .int (nI tb)), (4, .int (nI x)), (5, .int (nI (ln_sz w (tb * 6 + x)))), (6, .int (nI i))] [] hp Q := by
    intro k
    induction k using Nat.strongRecOn with
    | _ k ih =>
    intro i hne hle hk hi4 hal
    refine az_iload dX0_standsAt_30 ?_
    refine az_iload dX0_standsAt_32 ?_
    refine az_icmp_geN (tgt := 67) dX0_standsAt_34 (fun c34 => ?_) (fun c34 => ?_)
    · refine az_iconst (v := nI 1) dX0_standsAt_67 ?_
      exact az_iret dX0_standsAt_68 (hQ1 ⟨hne, by omega, fun j q1 => hal j (by omega)⟩)
    · refine az_aload_n dX0_standsAt_37 ?_
      refine az_iload_n dX0_standsAt_38 ?_
      refine az_iload dX0_standsAt_39 ?_
      refine az_iaddN dX0_standsAt_41 ?_
      refine az_cV0 (st := []) dX0_standsAt_42 ml_X0_42 r0 (s_get (d := d - 1) (i := a + i) hR (by omega) ?_)
      rw [hx9 (a + i) (by omega)]
      have hgi := hg (a + i) (by omega)
      refine az_aload_n dX0_standsAt_45 ?_
      refine az_iload_n dX0_standsAt_46 ?_
      refine az_iload dX0_standsAt_47 ?_
      refine az_iload dX0_standsAt_49 ?_
      refine az_cV0 (st := [.long (lN (g (a + i)))]) dX0_standsAt_51 ml_X0_74 hT0 (s_childOf (d := d - 1) hT h3 hx (i := i) (by omega) ?_)
      have hc6 := hw.2.2.2.2.2.2.2.1 ((tb * 6 + x) * 4 + i)
      refine az_i2lN dX0_standsAt_54 ?_
      refine az_lcmp_eqN (tgt := 61) dX0_standsAt_55 dX0_standsAt_56 (fun c55 => ?_) (fun c55 => ?_)
      · refine az_iincN (n := 1) (ls' := [(0, .ref r), (1, .int (nI a)), (2, .ref t), (3, .int (nI tb)), (4, .int (nI x)), (5, .int (nI (ln_sz w (tb * 6 + x)))), (6, .int (nI (i + 1)))]) dX0_standsAt_61 ?_
        refine az_goto (tgt := 30) dX0_standsAt_64 ?_
        exact ih _ (by omega) (i + 1) hne hle rfl (by omega) (fun j q1 => if e : j = i then (by rw [e]; exact c55) else hal j (by omega))
      · refine az_iconst (v := nI 0) dX0_standsAt_59 ?_
        exact az_iret dX0_standsAt_60 (hQ0 (fun q => c55 (q.2.2 i (by omega))))
  refine az_M.of rfl (Nat.le_of_ble_eq_true rfl) ?_
  show az_W _ _ _ _ 0 [(0, .ref r), (1, .int (nI a)), (2, .ref t), (3, .int (nI tb)), (4, .int (nI x))] [] _ _
  refine az_aload_n dX0_standsAt_0 ?_
  refine az_iload_n dX0_standsAt_1 ?_
  refine az_iload dX0_standsAt_2 ?_
  refine az_cV0 (st := []) dX0_standsAt_4 ml_X0_69 hT0 (s_sizeOf (d := d - 1) hT h3 hx ?_)
  refine az_istore (ls' := [(0, .ref r), (1, .int (nI a)), (2, .ref t), (3, .int (nI tb)), (4, .int (nI x)), (5, .int (nI (ln_sz w (tb * 6 + x))))]) dX0_standsAt_7 ?_
  refine az_iload dX0_standsAt_9 ?_
  refine az_if_eqN (tgt := 25) dX0_standsAt_11 (fun c11 => ?_) (fun c11 => ?_)
  · refine az_iconst (v := nI 0) dX0_standsAt_25 ?_
    exact az_iret dX0_standsAt_26 (by first | exact hQ0 (fun q => q.1 (by omega)) | exact hQ0 (fun q => absurd q.2.1 (by omega)))
  · refine az_iload_n dX0_standsAt_14 ?_
    refine az_iload dX0_standsAt_15 ?_
    refine az_iaddN dX0_standsAt_17 ?_
    refine az_aload_n dX0_standsAt_18 ?_
    refine az_getf (v := .int (nI xt.2.length)) dX0_standsAt_19 fl_X0_29 r0 ?_
    refine az_icmp_leN (tgt := 27) dX0_standsAt_22 (fun c22 => ?_) (fun c22 => ?_)
    · refine az_iconst (v := nI 0) dX0_standsAt_27 ?_
      refine az_istore (ls' := [(0, .ref r), (1, .int (nI a)), (2, .ref t), (3, .int (nI tb)), (4, .int (nI x)), (5, .int (nI (ln_sz w (tb * 6 + x)))), (6, .int (nI 0))]) dX0_standsAt_28 ?_
      exact loop _ 0 (by omega) (by omega) rfl (Nat.zero_le _) (fun j q1 => absurd q1 (by omega))
    · refine az_iconst (v := nI 0) dX0_standsAt_25 ?_
      exact az_iret dX0_standsAt_26 (by first | exact hQ0 (fun q => q.1 (by omega)) | exact hQ0 (fun q => absurd q.2.1 (by omega)))
/-- in how many ways what stands from a place on is read back, for the last k places -/
def fw (w : ln_W) (tb : Nat) (g : Nat → Nat) (n : Nat) : Nat → Nat → Nat
  | 0 => fun _ => 1
  | k + 1 => fun a => if a + (k + 1) = n then sm (fun x => if fs_ok w tb g n a x then fw w tb g n k (a + ln_sz w (tb * 6 + x)) else 0) 6 else fw w tb g n k a
theorem sm_le {F : Nat → Nat} {c : Nat} (h : ∀ x, F x ≤ c) (k : Nat) : sm F k ≤ k * c := by
  induction k with
  | zero => exact Nat.zero_le _
  | succ k ih => have := h k; rw [sm, Nat.add_mul]; omega
theorem fw_le (w : ln_W) (tb : Nat) (g : Nat → Nat) (n k a : Nat) : fw w tb g n k a ≤ 6 ^ k := by
  induction k generalizing a with
  | zero => exact Nat.le_refl _
  | succ k ih =>
    have h1 : fw w tb g n (k + 1) a = if a + (k + 1) = n then sm (fun x => if fs_ok w tb g n a x then fw w tb g n k (a + ln_sz w (tb * 6 + x)) else 0) 6 else fw w tb g n k a := rfl
    rw [h1, Nat.pow_succ]
    split
    · refine Nat.le_trans (sm_le (c := 6 ^ k) (fun x => ?_) 6) (by omega)
      show (if _ then _ else _) ≤ _
      split
      · exact ih _
      · exact Nat.zero_le _
    · have := ih a
      omega
theorem fw_step {w : ln_W} {tb : Nat} {g : Nat → Nat} {n k a : Nat} (h : a + (k + 1) = n) : fw w tb g n (k + 1) a = sm (fun x => if fs_ok w tb g n a x then fw w tb g n k (a + ln_sz w (tb * 6 + x)) else 0) 6 := by
  show (if _ then _ else _) = _
  rw [if_pos h]
theorem fw_old {w : ln_W} {tb : Nat} {g : Nat → Nat} {n k a : Nat} (h : ¬ a + (k + 1) = n) : fw w tb g n (k + 1) a = fw w tb g n k a := by
  show (if _ then _ else _) = _
  rw [if_neg h]
theorem pow6_le {k : Nat} (h : k ≤ 6) : 6 ^ k ≤ 46656 := Nat.le_trans (Nat.pow_le_pow_right (by decide) h) (by decide)
set_option maxHeartbeats 4000000 in
set_option maxRecDepth 100000 in
theorem s_readBack {d q r t tb n : Nat} {w : ln_W} {g : Nat → Nat} {xt : Nat × List Int64} {f0 : Nat → Int32} {v1 v5 v6 : Value} {hp : az_Hp} {Q : Option Value → az_Hp → Prop} (hd : 2 ≤ d) (hw : ln_ok w) (hT : ln_To hp t w q (q + 6)) (hR : ln_Tray hp r (some xt)) (hrq : r + 2 ≤ q ∨ q + 6 ≤ r) (hn : xt.2.length = n) (hn6 : n ≤ 6) (hg : ∀ i, i < n → g i < 6) (hx9 : ∀ i, i < n → xt.2.getD i 0 = lN (g i)) (h3 : tb < 3) (h0 : hp.2 q = some (az_O 0 [.ref (q + 1), v1, .ref (q + 2), .ref (q + 3), .ref (q + 4), v5, v6, .ref (q + 5)])) (h5 : hp.2 (q + 5) = some (az_I 7 f0)) (hQ : ∀ f : Nat → Int32, (∀ a, a ≤ n → f a = nI (fw w tb g n n a)) → Q none (az_up hp (q + 5) (az_I 7 f))) : az_M mX0_readBack d 0 0 [.ref q, .ref r, .ref t, .int (nI tb)] hp Q := by
  obtain ⟨hl40, hs3, fr, r0, -⟩ := id hR
  have inner : ∀ (k : Nat) (kk a y : Nat) (f : Nat → Int32) (h' : az_Hp) (hak : a + (kk + 1) = n) (he : h' = az_up hp (q + 5) (az_I 7 f)) (hf : ∀ b, a < b → b ≤ n → f b = nI (fw w tb g n kk b)) (hK : az_W mX0_readBack d 0 0 82 [(0, .ref q), (1, .ref r), (2, .ref t), (3, .int (nI tb)), (4, .int (nI n)), (5, .int (nI a)), (6, .int (nI (sm (fun x => if fs_ok w tb g n a x then fw w tb g n kk (a + ln_sz w (tb * 6 + x)) else 0) 6))), (7, .int (nI 6))] [] h' Q), 6 - y = k → (y ≤ 6) → az_W mX0_readBack d 0 0 36 [(0, .ref q), (1, .ref r), (2, .ref t), (3, .int (nI tb)), (4, .int (nI n)), (5, .int (nI a)), (6, .int (nI (sm (fun x => if fs_ok w tb g n a x then fw w tb g n kk (a + ln_sz w (tb * 6 + x)) else 0) y))), (7, .int (nI y))] [] h' Q := by
    intro k
    induction k using Nat.strongRecOn with
    | _ k ih =>
    intro kk a y f h' hak he hf hK hk hy6
    have hT' : ln_Town h' t w := (hT.fr (by rw [he]; exact az_fr.rf.up)).town
    obtain ⟨a4', a5', hT0', -⟩ := id hT'
    have hR' : ln_Tray h' r (some xt) := hR.fr (lo := q) (hi := q + 6) (by rw [he]; exact az_fr.rf.up) hrq
    obtain ⟨-, -, frr, r0', -⟩ := id hR'
    refine az_iload dX0_readBack_36 ?_
    refine az_bipush (v := nI 6) dX0_readBack_38 ?_
    refine az_icmp_geN (tgt := 82) dX0_readBack_40 (fun c40 => ?_) (fun c40 => ?_)
    · obtain rfl : y = 6 := by omega
      exact hK
    · refine az_aload_n dX0_readBack_43 ?_
      refine az_iload dX0_readBack_44 ?_
      refine az_aload_n dX0_readBack_46 ?_
      refine az_iload_n dX0_readBack_47 ?_
      refine az_iload dX0_readBack_48 ?_
      refine az_cS0 (st := []) dX0_readBack_50 ml_X0_105 (s_standsAt (d := d - 1) (by omega) hw hT' hR' hn hg hx9 h3 (x := y) (by omega) (a := a) (by omega) (fun hyes => ?_) (fun hnot => ?_))
      · have hst := hyes.2.1
        have hsz := hyes.1
        refine az_if_eqN (tgt := 76) dX0_readBack_53 (fun c53 => ?_) (fun c53 => ?_)
        · refine az_iincN (n := 1) (ls' := [(0, .ref q), (1, .ref r), (2, .ref t), (3, .int (nI tb)), (4, .int (nI n)), (5, .int (nI a)), (6, .int (nI (sm (fun x => if fs_ok w tb g n a x then fw w tb g n kk (a + ln_sz w (tb * 6 + x)) else 0) y))), (7, .int (nI (y + 1)))]) dX0_readBack_76 ?_
          refine az_goto (tgt := 36) dX0_readBack_79 ?_
          first | exact absurd c53 (by decide) | exact absurd rfl c53 | (rw [show sm (fun x => if fs_ok w tb g n a x then fw w tb g n kk (a + ln_sz w (tb * 6 + x)) else 0) y + fw w tb g n kk (a + ln_sz w (tb * 6 + y)) = sm (fun x => if fs_ok w tb g n a x then fw w tb g n kk (a + ln_sz w (tb * 6 + x)) else 0) (y + 1) by rw [sm, if_pos hyes]]; exact ih _ (by omega) kk a (y + 1) f h' hak he hf hK rfl (by omega)) | (rw [show sm (fun x => if fs_ok w tb g n a x then fw w tb g n kk (a + ln_sz w (tb * 6 + x)) else 0) y = sm (fun x => if fs_ok w tb g n a x then fw w tb g n kk (a + ln_sz w (tb * 6 + x)) else 0) (y + 1) by rw [sm, if_neg hnot, Nat.add_zero]]; exact ih _ (by omega) kk a (y + 1) f h' hak he hf hK rfl (by omega))
        · refine az_iload dX0_readBack_56 ?_
          refine az_aload_n dX0_readBack_58 ?_
          refine az_getf (v := .ref (q + 5)) dX0_readBack_59 fl_X0_26 (by rw [he]; exact az_up_ne h0) ?_
          refine az_iload dX0_readBack_62 ?_
          refine az_aload_n dX0_readBack_64 ?_
          refine az_iload_n dX0_readBack_65 ?_
          refine az_iload dX0_readBack_66 ?_
          refine az_cV0 (st := [.int (nI a), .ref (q + 5), .int (nI (sm (fun x => if fs_ok w tb g n a x then fw w tb g n kk (a + ln_sz w (tb * 6 + x)) else 0) y))]) dX0_readBack_68 ml_X0_69 hT0' (s_sizeOf (d := d - 1) hT' h3 (lt := y) (by omega) ?_)
          refine az_iaddN dX0_readBack_71 ?_
          have hwl := fw_le w tb g n kk (a + ln_sz w (tb * 6 + y))
          have hp6 := pow6_le (k := kk) (by omega)
          have hsl := sm_le (F := fun x => if fs_ok w tb g n a x then fw w tb g n kk (a + ln_sz w (tb * 6 + x)) else 0) (c := 6 ^ kk) (fun x => (by show (if _ then _ else _) ≤ _; split; (exact fw_le _ _ _ _ _ _); (exact Nat.zero_le _))) y
          refine az_ialdN (j := a + (ln_sz w (tb * 6 + y))) dX0_readBack_72 (by rw [he]; exact az_up_eq) ?_
          rw [hf (a + ln_sz w (tb * 6 + y)) (by omega) (by omega)]
          refine az_iaddN dX0_readBack_73 ?_
          refine az_istore (ls' := [(0, .ref q), (1, .ref r), (2, .ref t), (3, .int (nI tb)), (4, .int (nI n)), (5, .int (nI a)), (6, .int (nI ((sm (fun x => if fs_ok w tb g n a x then fw w tb g n kk (a + ln_sz w (tb * 6 + x)) else 0) y) + (fw w tb g n kk (a + ln_sz w (tb * 6 + y)))))), (7, .int (nI y))]) dX0_readBack_74 ?_
          refine az_iincN (n := 1) (ls' := [(0, .ref q), (1, .ref r), (2, .ref t), (3, .int (nI tb)), (4, .int (nI n)), (5, .int (nI a)), (6, .int (nI ((sm (fun x => if fs_ok w tb g n a x then fw w tb g n kk (a + ln_sz w (tb * 6 + x)) else 0) y) + (fw w tb g n kk (a + ln_sz w (tb * 6 + y)))))), (7, .int (nI (y + 1)))]) dX0_readBack_76 ?_
          refine az_goto (tgt := 36) dX0_readBack_79 ?_
          first | exact absurd c53 (by decide) | exact absurd rfl c53 | (rw [show sm (fun x => if fs_ok w tb g n a x then fw w tb g n kk (a + ln_sz w (tb * 6 + x)) else 0) y + fw w tb g n kk (a + ln_sz w (tb * 6 + y)) = sm (fun x => if fs_ok w tb g n a x then fw w tb g n kk (a + ln_sz w (tb * 6 + x)) else 0) (y + 1) by rw [sm, if_pos hyes]]; exact ih _ (by omega) kk a (y + 1) f h' hak he hf hK rfl (by omega)) | (rw [show sm (fun x => if fs_ok w tb g n a x then fw w tb g n kk (a + ln_sz w (tb * 6 + x)) else 0) y = sm (fun x => if fs_ok w tb g n a x then fw w tb g n kk (a + ln_sz w (tb * 6 + x)) else 0) (y + 1) by rw [sm, if_neg hnot, Nat.add_zero]]; exact ih _ (by omega) kk a (y + 1) f h' hak he hf hK rfl (by omega))
      · refine az_if_eqN (tgt := 76) dX0_readBack_53 (fun c53 => ?_) (fun c53 => ?_)
        · refine az_iincN (n := 1) (ls' := [(0, .ref q), (1, .ref r), (2, .ref t), (3, .int (nI tb)), (4, .int (nI n)), (5, .int (nI a)), (6, .int (nI (sm (fun x => if fs_ok w tb g n a x then fw w tb g n kk (a + ln_sz w (tb * 6 + x)) else 0) y))), (7, .int (nI (y + 1)))]) dX0_readBack_76 ?_
          refine az_goto (tgt := 36) dX0_readBack_79 ?_
          first | exact absurd c53 (by decide) | exact absurd rfl c53 | (rw [show sm (fun x => if fs_ok w tb g n a x then fw w tb g n kk (a + ln_sz w (tb * 6 + x)) else 0) y + fw w tb g n kk (a + ln_sz w (tb * 6 + y)) = sm (fun x => if fs_ok w tb g n a x then fw w tb g n kk (a + ln_sz w (tb * 6 + x)) else 0) (y + 1) by rw [sm, if_pos hyes]]; exact ih _ (by omega) kk a (y + 1) f h' hak he hf hK rfl (by omega)) | (rw [show sm (fun x => if fs_ok w tb g n a x then fw w tb g n kk (a + ln_sz w (tb * 6 + x)) else 0) y = sm (fun x => if fs_ok w tb g n a x then fw w tb g n kk (a + ln_sz w (tb * 6 + x)) else 0) (y + 1) by rw [sm, if_neg hnot, Nat.add_zero]]; exact ih _ (by omega) kk a (y + 1) f h' hak he hf hK rfl (by omega))
        · refine az_iload dX0_readBack_56 ?_
          refine az_aload_n dX0_readBack_58 ?_
          refine az_getf (v := .ref (q + 5)) dX0_readBack_59 fl_X0_26 (by rw [he]; exact az_up_ne h0) ?_
          refine az_iload dX0_readBack_62 ?_
          refine az_aload_n dX0_readBack_64 ?_
          refine az_iload_n dX0_readBack_65 ?_
          refine az_iload dX0_readBack_66 ?_
          refine az_cV0 (st := [.int (nI a), .ref (q + 5), .int (nI (sm (fun x => if fs_ok w tb g n a x then fw w tb g n kk (a + ln_sz w (tb * 6 + x)) else 0) y))]) dX0_readBack_68 ml_X0_69 hT0' (s_sizeOf (d := d - 1) hT' h3 (lt := y) (by omega) ?_)
          refine az_iaddN dX0_readBack_71 ?_
          have hwl := fw_le w tb g n kk (a + ln_sz w (tb * 6 + y))
          have hp6 := pow6_le (k := kk) (by omega)
          have hsl := sm_le (F := fun x => if fs_ok w tb g n a x then fw w tb g n kk (a + ln_sz w (tb * 6 + x)) else 0) (c := 6 ^ kk) (fun x => (by show (if _ then _ else _) ≤ _; split; (exact fw_le _ _ _ _ _ _); (exact Nat.zero_le _))) y
          refine az_ialdN (j := a + (ln_sz w (tb * 6 + y))) dX0_readBack_72 (by rw [he]; exact az_up_eq) ?_
          rw [hf (a + ln_sz w (tb * 6 + y)) (by omega) (by omega)]
          refine az_iaddN dX0_readBack_73 ?_
          refine az_istore (ls' := [(0, .ref q), (1, .ref r), (2, .ref t), (3, .int (nI tb)), (4, .int (nI n)), (5, .int (nI a)), (6, .int (nI ((sm (fun x => if fs_ok w tb g n a x then fw w tb g n kk (a + ln_sz w (tb * 6 + x)) else 0) y) + (fw w tb g n kk (a + ln_sz w (tb * 6 + y)))))), (7, .int (nI y))]) dX0_readBack_74 ?_
          refine az_iincN (n := 1) (ls' := [(0, .ref q), (1, .ref r), (2, .ref t), (3, .int (nI tb)), (4, .int (nI n)), (5, .int (nI a)), (6, .int (nI ((sm (fun x => if fs_ok w tb g n a x then fw w tb g n kk (a + ln_sz w (tb * 6 + x)) else 0) y) + (fw w tb g n kk (a + ln_sz w (tb * 6 + y)))))), (7, .int (nI (y + 1)))]) dX0_readBack_76 ?_
          refine az_goto (tgt := 36) dX0_readBack_79 ?_
          first | exact absurd c53 (by decide) | exact absurd rfl c53 | (rw [show sm (fun x => if fs_ok w tb g n a x then fw w tb g n kk (a + ln_sz w (tb * 6 + x)) else 0) y + fw w tb g n kk (a + ln_sz w (tb * 6 + y)) = sm (fun x => if fs_ok w tb g n a x then fw w tb g n kk (a + ln_sz w (tb * 6 + x)) else 0) (y + 1) by rw [sm, if_pos hyes]]; exact ih _ (by omega) kk a (y + 1) f h' hak he hf hK rfl (by omega)) | (rw [show sm (fun x => if fs_ok w tb g n a x then fw w tb g n kk (a + ln_sz w (tb * 6 + x)) else 0) y = sm (fun x => if fs_ok w tb g n a x then fw w tb g n kk (a + ln_sz w (tb * 6 + x)) else 0) (y + 1) by rw [sm, if_neg hnot, Nat.add_zero]]; exact ih _ (by omega) kk a (y + 1) f h' hak he hf hK rfl (by omega))
  have outer : ∀ (k : Nat) (kk b : Nat) (f : Nat → Int32) (h' : az_Hp), b = k → (b + kk = n) → (h' = az_up hp (q + 5) (az_I 7 f)) → (∀ c, b ≤ c → c ≤ n → f c = nI (fw w tb g n kk c)) → az_W mX0_readBack d 0 0 25 [(0, .ref q), (1, .ref r), (2, .ref t), (3, .int (nI tb)), (4, .int (nI n)), (5, .int (nI b - nI 1))] [] h' Q := by
    intro k
    induction k using Nat.strongRecOn with
    | _ k ih =>
    intro kk b f h' hk hbk he hf
    have hT' : ln_Town h' t w := (hT.fr (by rw [he]; exact az_fr.rf.up)).town
    obtain ⟨a4', a5', hT0', -⟩ := id hT'
    have hR' : ln_Tray h' r (some xt) := hR.fr (lo := q) (hi := q + 6) (by rw [he]; exact az_fr.rf.up) hrq
    obtain ⟨-, -, frr, r0', -⟩ := id hR'
    refine az_iload dX0_readBack_25 ?_
    refine az_if_lt (tgt := 97) dX0_readBack_27 (fun c27 => ?_) (fun c27 => ?_)
    · have hl0 : b = 0 := by by_cases q : b = 0; exact q; exact absurd c27 (by rw [nI_subN (by omega)]; exact nI_pos (by omega))
      exact az_vret dX0_readBack_97 (by rw [he]; exact hQ f (fun a q1 => (by rw [hf a (by omega) q1, show kk = n by omega])))
    · obtain ⟨a, rfl⟩ : ∃ l, b = l + 1 := ⟨b - 1, by by_cases q : b = 0; rw [q] at c27; exact absurd (by decide) c27; omega⟩
      rw [show nI (a + 1) - nI 1 = nI a from nI_subN (by omega)]
      refine az_iconst (v := nI 0) dX0_readBack_30 ?_
      refine az_istore (ls' := [(0, .ref q), (1, .ref r), (2, .ref t), (3, .int (nI tb)), (4, .int (nI n)), (5, .int (nI a)), (6, .int (nI 0))]) dX0_readBack_31 ?_
      refine az_iconst (v := nI 0) dX0_readBack_33 ?_
      refine az_istore (ls' := [(0, .ref q), (1, .ref r), (2, .ref t), (3, .int (nI tb)), (4, .int (nI n)), (5, .int (nI a)), (6, .int (nI 0)), (7, .int (nI 0))]) dX0_readBack_34 ?_
      refine inner _ kk a 0 f h' (by omega) he (fun b q1 q2 => hf b (by omega) q2) ?_ rfl (Nat.zero_le _)
      rw [← fw_step (w := w) (tb := tb) (g := g) (n := n) (k := kk) (a := a) (by omega)]
      refine az_aload_n dX0_readBack_82 ?_
      refine az_getf (v := .ref (q + 5)) dX0_readBack_83 fl_X0_26 (by rw [he]; exact az_up_ne h0) ?_
      refine az_iload dX0_readBack_86 ?_
      refine az_iload dX0_readBack_88 ?_
      refine az_iastN (j := a) dX0_readBack_90 (by rw [he]; exact az_up_eq) ?_
      refine az_iinc (v := nI a - nI 1) (ls' := [(0, .ref q), (1, .ref r), (2, .ref t), (3, .int (nI tb)), (4, .int (nI n)), (5, .int (nI a - nI 1)), (6, .int (nI (fw w tb g n (kk + 1) a))), (7, .int (nI 6))]) dX0_readBack_91 ?_ (hx := (by rw [show Int32.ofInt (-1) = -(nI 1) by decide, Int32.sub_eq_add_neg]))
      refine az_goto (tgt := 25) dX0_readBack_94 ?_
      refine az_W.keep (ls' := [(0, .ref q), (1, .ref r), (2, .ref t), (3, .int (nI tb)), (4, .int (nI n)), (5, .int (nI a - nI 1))]) [0, 1, 2, 3, 4, 5] rfl ?_
      exact ih _ (by omega) (kk + 1) a (az_s f a (nI (fw w tb g n (kk + 1) a))) _ rfl (by omega) (by rw [he, az_up_up]) (fun b q1 q2 => if e : b = a then (by rw [e, az_s_eq]) else (by rw [az_s_ne e, fw_old (by omega)]; exact hf b (by omega) q2))
  refine az_M.of rfl (Nat.le_of_ble_eq_true rfl) ?_
  show az_W _ _ _ _ 0 [(0, .ref q), (1, .ref r), (2, .ref t), (3, .int (nI tb))] [] _ _
  refine az_aload_n dX0_readBack_0 ?_
  refine az_getf (v := .int (nI xt.2.length)) dX0_readBack_1 fl_X0_29 r0 ?_
  refine az_bipush (v := nI 6) dX0_readBack_4 ?_
  refine az_mminN dX0_readBack_6 ml_X0_35 ?_
  rw [show min xt.2.length 6 = n by omega]
  refine az_istore (ls' := [(0, .ref q), (1, .ref r), (2, .ref t), (3, .int (nI tb)), (4, .int (nI n))]) dX0_readBack_9 ?_
  refine az_aload_n dX0_readBack_11 ?_
  refine az_getf (v := .ref (q + 5)) dX0_readBack_12 fl_X0_26 h0 ?_
  refine az_iload dX0_readBack_15 ?_
  refine az_iconst (v := nI 1) dX0_readBack_17 ?_
  refine az_iastN (j := n) dX0_readBack_18 h5 ?_
  refine az_iload dX0_readBack_19 ?_
  refine az_iconst (v := nI 1) dX0_readBack_21 ?_
  refine az_isub dX0_readBack_22 ?_
  refine az_istore (ls' := [(0, .ref q), (1, .ref r), (2, .ref t), (3, .int (nI tb)), (4, .int (nI n)), (5, .int ((nI n) - (nI 1)))]) dX0_readBack_23 ?_
  exact outer _ 0 n (az_s f0 n (nI 1)) _ rfl (by omega) rfl (fun c q1 q2 => (by rw [show c = n by omega, az_s_eq]; rfl))
/-- the first y .. that is such, j tried -/
def ff (p : Nat → Bool) : Nat → Nat → Option Nat
  | _, 0 => none
  | y, j + 1 => if p y then some y else ff p (y + 1) j
abbrev fl_p (w : ln_W) (tb : Nat) (g : Nat → Nat) (n a x : Nat) : Prop := fs_ok w tb g n a x ∧ 0 < fw w tb g n n (a + ln_sz w (tb * 6 + x))
def fl_x (w : ln_W) (tb : Nat) (g : Nat → Nat) (n a : Nat) : Nat → Nat → Option Nat := ff (fun x => decide (fl_p w tb g n a x))
def fl_go (w : ln_W) (tb : Nat) (g : Nat → Nat) (n : Nat) : Nat → Nat → Nat → Option Nat
  | 0, _, _ => none
  | f + 1, a, i => if a < n then (match fl_x w tb g n a 0 6 with
    | none => none
    | some x => if i = 0 then some x else fl_go w tb g n f (a + ln_sz w (tb * 6 + x)) (i - 1)) else none
theorem fl_x_yes {w : ln_W} {tb : Nat} {g : Nat → Nat} {n a y j : Nat} (h : fl_p w tb g n a y) (hj : 0 < j) : fl_x w tb g n a y j = some y := by
  obtain ⟨m, rfl⟩ : ∃ m, j = m + 1 := ⟨j - 1, by omega⟩
  show (if _ then _ else _) = _
  rw [if_pos (decide_eq_true h)]
theorem fl_x_no {w : ln_W} {tb : Nat} {g : Nat → Nat} {n a y j : Nat} (h : ¬ fl_p w tb g n a y) (hj : 0 < j) : fl_x w tb g n a y j = fl_x w tb g n a (y + 1) (j - 1) := by
  obtain ⟨m, rfl⟩ : ∃ m, j = m + 1 := ⟨j - 1, by omega⟩
  show (if _ then _ else _) = _
  rw [if_neg (by rw [decide_eq_true_eq]; exact h)]
  rfl
set_option maxHeartbeats 4000000 in
set_option maxRecDepth 100000 in
theorem s_letterBack {d q r t tb n i : Nat} {w : ln_W} {g : Nat → Nat} {xt : Nat × List Int64} {f : Nat → Int32} {v1 v5 v6 : Value} {hp : az_Hp} {Q : Option Value → az_Hp → Prop} (hd : 2 ≤ d) (hw : ln_ok w) (hT : ln_Town hp t w) (hR : ln_Tray hp r (some xt)) (hn : xt.2.length = n) (hn6 : n ≤ 6) (hg : ∀ i, i < n → g i < 6) (hx9 : ∀ i, i < n → xt.2.getD i 0 = lN (g i)) (h3 : tb < 3) (hi31 : i < 2 ^ 31) (h0 : hp.2 q = some (az_O 0 [.ref (q + 1), v1, .ref (q + 2), .ref (q + 3), .ref (q + 4), v5, v6, .ref (q + 5)])) (h5 : hp.2 (q + 5) = some (az_I 7 f)) (hf : ∀ a, a ≤ n → f a = nI (fw w tb g n n a)) (hQ : Q (some (.int (ln_opt (fl_go w tb g n 7 0 i)))) hp) : az_M mX0_letterBack d 0 0 [.ref q, .ref r, .ref t, .int (nI tb), .int (nI i)] hp Q := by
  obtain ⟨a4, a5, hT0, -⟩ := id hT
  obtain ⟨hl40, hs3, fr, r0, -⟩ := id hR
  have L90 : ∀ (k : Nat) (a rd x : Nat) (hK : ¬ rd = i → az_W mX0_letterBack d 0 0 6 [(0, .ref q), (1, .ref r), (2, .ref t), (3, .int (nI tb)), (4, .int (nI i)), (5, .int (nI (a + ln_sz w (tb * 6 + x)))), (6, .int (nI (rd + 1)))] [] hp Q) (hR9 : rd = i → Q (some (.int (nI x))) hp), 0 = k → (x < 6) → (a ≤ n) → (rd ≤ 6) → az_W mX0_letterBack d 0 0 90 [(0, .ref q), (1, .ref r), (2, .ref t), (3, .int (nI tb)), (4, .int (nI i)), (5, .int (nI a)), (6, .int (nI rd)), (7, .int (nI x))] [] hp Q := by
    intro k
    induction k using Nat.strongRecOn with
    | _ k ih =>
    intro a rd x hK hR9 hk hx6 ha hrd
    refine az_iload dX0_letterBack_90 ?_
    refine az_iconst (v := (-1)) dX0_letterBack_92 ?_
    refine az_icmp_eq (tgt := 103) dX0_letterBack_93 (fun c93 => ?_) (fun c93 => ?_)
    · exact absurd c93 (nI_ne_neg1 (by omega))
    · refine az_iload dX0_letterBack_96 ?_
      refine az_iload dX0_letterBack_98 ?_
      refine az_icmp_neN (tgt := 106) dX0_letterBack_100 (fun c100 => ?_) (fun c100 => ?_)
      · have hz4 := hw.2.2.2.2.2.2.1 (tb * 6 + x)
        refine az_iload dX0_letterBack_106 ?_
        refine az_aload_n dX0_letterBack_108 ?_
        refine az_iload_n dX0_letterBack_109 ?_
        refine az_iload dX0_letterBack_110 ?_
        refine az_cV0 (st := [.int (nI a)]) dX0_letterBack_112 ml_X0_69 hT0 (s_sizeOf (d := d - 1) hT h3 (lt := x) (by omega) ?_)
        refine az_iaddN dX0_letterBack_115 ?_
        refine az_istore (ls' := [(0, .ref q), (1, .ref r), (2, .ref t), (3, .int (nI tb)), (4, .int (nI i)), (5, .int (nI (a + (ln_sz w (tb * 6 + x))))), (6, .int (nI rd)), (7, .int (nI x))]) dX0_letterBack_116 ?_
        refine az_iincN (n := 1) (ls' := [(0, .ref q), (1, .ref r), (2, .ref t), (3, .int (nI tb)), (4, .int (nI i)), (5, .int (nI (a + (ln_sz w (tb * 6 + x))))), (6, .int (nI (rd + 1))), (7, .int (nI x))]) dX0_letterBack_118 ?_
        refine az_goto (tgt := 6) dX0_letterBack_121 ?_
        refine az_W.keep (ls' := [(0, .ref q), (1, .ref r), (2, .ref t), (3, .int (nI tb)), (4, .int (nI i)), (5, .int (nI (a + ln_sz w (tb * 6 + x)))), (6, .int (nI (rd + 1)))]) [0, 1, 2, 3, 4, 5, 6] rfl ?_
        exact hK c100
      · refine az_iload dX0_letterBack_103 ?_
        exact az_iret dX0_letterBack_105 (hR9 c100)
  have hit : ∀ (k : Nat) (a rd x y : Nat) (hK : ¬ rd = i → az_W mX0_letterBack d 0 0 6 [(0, .ref q), (1, .ref r), (2, .ref t), (3, .int (nI tb)), (4, .int (nI i)), (5, .int (nI (a + ln_sz w (tb * 6 + x)))), (6, .int (nI (rd + 1)))] [] hp Q) (hR9 : rd = i → Q (some (.int (nI x))) hp), 0 = k → (x < 6) → (a ≤ n) → (rd ≤ 6) → (y ≤ 6) → az_W mX0_letterBack d 0 0 28 [(0, .ref q), (1, .ref r), (2, .ref t), (3, .int (nI tb)), (4, .int (nI i)), (5, .int (nI a)), (6, .int (nI rd)), (7, .int (nI x)), (8, .int (nI y))] [] hp Q := by
    intro k
    induction k using Nat.strongRecOn with
    | _ k ih =>
    intro a rd x y hK hR9 hk hx6 ha hrd hy6
    refine az_iload dX0_letterBack_28 ?_
    refine az_bipush (v := nI 6) dX0_letterBack_30 ?_
    refine az_icmp_geN (tgt := 90) dX0_letterBack_32 (fun c32 => ?_) (fun c32 => ?_)
    · refine az_W.keep (ls' := [(0, .ref q), (1, .ref r), (2, .ref t), (3, .int (nI tb)), (4, .int (nI i)), (5, .int (nI a)), (6, .int (nI rd)), (7, .int (nI x))]) [0, 1, 2, 3, 4, 5, 6, 7] rfl ?_
      exact L90 _ a rd x hK hR9 rfl hx6 ha hrd
    · refine az_iload dX0_letterBack_35 ?_
      refine az_iconst (v := (-1)) dX0_letterBack_37 ?_
      refine az_icmp_ne (tgt := 90) dX0_letterBack_38 (fun c38 => ?_) (fun c38 => ?_)
      · refine az_W.keep (ls' := [(0, .ref q), (1, .ref r), (2, .ref t), (3, .int (nI tb)), (4, .int (nI i)), (5, .int (nI a)), (6, .int (nI rd)), (7, .int (nI x))]) [0, 1, 2, 3, 4, 5, 6, 7] rfl ?_
        exact L90 _ a rd x hK hR9 rfl hx6 ha hrd
      · exact absurd c38 (nI_ne_neg1 (by omega))
  have inner : ∀ (k : Nat) (a rd y : Nat) (hX : ∀ x, x < 6 → fl_p w tb g n a x → fl_x w tb g n a 0 6 = some x → (¬ rd = i → az_W mX0_letterBack d 0 0 6 [(0, .ref q), (1, .ref r), (2, .ref t), (3, .int (nI tb)), (4, .int (nI i)), (5, .int (nI (a + ln_sz w (tb * 6 + x)))), (6, .int (nI (rd + 1)))] [] hp Q) ∧ (rd = i → Q (some (.int (nI x))) hp)) (hN9 : fl_x w tb g n a 0 6 = none → Q (some (.int (-1))) hp), 6 - y = k → (a ≤ n) → (rd ≤ 6) → (y ≤ 6) → (fl_x w tb g n a 0 6 = fl_x w tb g n a y (6 - y)) → az_W mX0_letterBack d 0 0 28 [(0, .ref q), (1, .ref r), (2, .ref t), (3, .int (nI tb)), (4, .int (nI i)), (5, .int (nI a)), (6, .int (nI rd)), (7, .int ((-1))), (8, .int (nI y))] [] hp Q := by
    intro k
    induction k using Nat.strongRecOn with
    | _ k ih =>
    intro a rd y hX hN9 hk ha hrd hy6 hfx
    refine az_iload dX0_letterBack_28 ?_
    refine az_bipush (v := nI 6) dX0_letterBack_30 ?_
    refine az_icmp_geN (tgt := 90) dX0_letterBack_32 (fun c32 => ?_) (fun c32 => ?_)
    · refine az_iload dX0_letterBack_90 ?_
      refine az_iconst (v := (-1)) dX0_letterBack_92 ?_
      refine az_icmp_eq (tgt := 103) dX0_letterBack_93 (fun c93 => ?_) (fun c93 => ?_)
      · refine az_iload dX0_letterBack_103 ?_
        exact az_iret dX0_letterBack_105 (hN9 (by rw [hfx, show y = 6 by omega]; rfl))
      · exact absurd rfl c93
    · refine az_iload dX0_letterBack_35 ?_
      refine az_iconst (v := (-1)) dX0_letterBack_37 ?_
      refine az_icmp_ne (tgt := 90) dX0_letterBack_38 (fun c38 => ?_) (fun c38 => ?_)
      · exact absurd rfl c38
      · refine az_aload_n dX0_letterBack_41 ?_
        refine az_iload dX0_letterBack_42 ?_
        refine az_aload_n dX0_letterBack_44 ?_
        refine az_iload_n dX0_letterBack_45 ?_
        refine az_iload dX0_letterBack_46 ?_
        refine az_cS0 (st := []) dX0_letterBack_48 ml_X0_105 (s_standsAt (d := d - 1) (by omega) hw hT hR hn hg hx9 h3 (x := y) (by omega) (a := a) (by omega) (fun hyes => ?_) (fun hnot => ?_))
        · have hst := hyes.2.1
          have hsz := hyes.1
          refine az_istore (ls' := [(0, .ref q), (1, .ref r), (2, .ref t), (3, .int (nI tb)), (4, .int (nI i)), (5, .int (nI a)), (6, .int (nI rd)), (7, .int ((-1))), (8, .int (nI y)), (9, .int (nI 1))]) dX0_letterBack_51 ?_
          refine az_iload dX0_letterBack_53 ?_
          refine az_if_eqN (tgt := 81) dX0_letterBack_55 (fun c55 => ?_) (fun c55 => ?_)
          · refine az_iconst (v := (-1)) dX0_letterBack_81 ?_
            refine az_istore (ls' := [(0, .ref q), (1, .ref r), (2, .ref t), (3, .int (nI tb)), (4, .int (nI i)), (5, .int (nI a)), (6, .int (nI rd)), (7, .int ((-1))), (8, .int (nI y)), (9, .int (nI 1))]) dX0_letterBack_82 ?_
            refine az_iincN (n := 1) (ls' := [(0, .ref q), (1, .ref r), (2, .ref t), (3, .int (nI tb)), (4, .int (nI i)), (5, .int (nI a)), (6, .int (nI rd)), (7, .int ((-1))), (8, .int (nI (y + 1))), (9, .int (nI 1))]) dX0_letterBack_84 ?_
            refine az_goto (tgt := 28) dX0_letterBack_87 ?_
            refine az_W.keep (ls' := [(0, .ref q), (1, .ref r), (2, .ref t), (3, .int (nI tb)), (4, .int (nI i)), (5, .int (nI a)), (6, .int (nI rd)), (7, .int ((-1))), (8, .int (nI (y + 1)))]) [0, 1, 2, 3, 4, 5, 6, 7, 8] rfl ?_
            first | exact absurd c55 (by decide) | exact absurd rfl c55 | exact hit _ a rd y (y + 1) (hX y (by omega) ⟨hyes, by omega⟩ (by rw [hfx, fl_x_yes ⟨hyes, by omega⟩ (by omega)])).1 (hX y (by omega) ⟨hyes, by omega⟩ (by rw [hfx, fl_x_yes ⟨hyes, by omega⟩ (by omega)])).2 rfl (by omega) ha hrd (by omega) | exact ih _ (by omega) a rd (y + 1) hX hN9 rfl ha hrd (by omega) (by rw [hfx, fl_x_no (fun q => absurd q.2 (by omega)) (by omega), show 6 - y - 1 = 6 - (y + 1) by omega]) | exact ih _ (by omega) a rd (y + 1) hX hN9 rfl ha hrd (by omega) (by rw [hfx, fl_x_no (fun q => hnot q.1) (by omega), show 6 - y - 1 = 6 - (y + 1) by omega])
          · refine az_aload_n dX0_letterBack_58 ?_
            refine az_getf (v := .ref (q + 5)) dX0_letterBack_59 fl_X0_26 h0 ?_
            refine az_iload dX0_letterBack_62 ?_
            refine az_aload_n dX0_letterBack_64 ?_
            refine az_iload_n dX0_letterBack_65 ?_
            refine az_iload dX0_letterBack_66 ?_
            refine az_cV0 (st := [.int (nI a), .ref (q + 5)]) dX0_letterBack_68 ml_X0_69 hT0 (s_sizeOf (d := d - 1) hT h3 (lt := y) (by omega) ?_)
            refine az_iaddN dX0_letterBack_71 ?_
            have hwl := fw_le w tb g n n (a + ln_sz w (tb * 6 + y))
            have hp6 := pow6_le (k := n) (by omega)
            refine az_ialdN (j := a + (ln_sz w (tb * 6 + y))) dX0_letterBack_72 h5 ?_
            rw [hf (a + ln_sz w (tb * 6 + y)) (by omega)]
            refine az_if_leN (tgt := 81) dX0_letterBack_73 (fun c73 => ?_) (fun c73 => ?_)
            · refine az_iconst (v := (-1)) dX0_letterBack_81 ?_
              refine az_istore (ls' := [(0, .ref q), (1, .ref r), (2, .ref t), (3, .int (nI tb)), (4, .int (nI i)), (5, .int (nI a)), (6, .int (nI rd)), (7, .int ((-1))), (8, .int (nI y)), (9, .int (nI 1))]) dX0_letterBack_82 ?_
              refine az_iincN (n := 1) (ls' := [(0, .ref q), (1, .ref r), (2, .ref t), (3, .int (nI tb)), (4, .int (nI i)), (5, .int (nI a)), (6, .int (nI rd)), (7, .int ((-1))), (8, .int (nI (y + 1))), (9, .int (nI 1))]) dX0_letterBack_84 ?_
              refine az_goto (tgt := 28) dX0_letterBack_87 ?_
              refine az_W.keep (ls' := [(0, .ref q), (1, .ref r), (2, .ref t), (3, .int (nI tb)), (4, .int (nI i)), (5, .int (nI a)), (6, .int (nI rd)), (7, .int ((-1))), (8, .int (nI (y + 1)))]) [0, 1, 2, 3, 4, 5, 6, 7, 8] rfl ?_
              first | exact absurd c55 (by decide) | exact absurd rfl c55 | exact hit _ a rd y (y + 1) (hX y (by omega) ⟨hyes, by omega⟩ (by rw [hfx, fl_x_yes ⟨hyes, by omega⟩ (by omega)])).1 (hX y (by omega) ⟨hyes, by omega⟩ (by rw [hfx, fl_x_yes ⟨hyes, by omega⟩ (by omega)])).2 rfl (by omega) ha hrd (by omega) | exact ih _ (by omega) a rd (y + 1) hX hN9 rfl ha hrd (by omega) (by rw [hfx, fl_x_no (fun q => absurd q.2 (by omega)) (by omega), show 6 - y - 1 = 6 - (y + 1) by omega]) | exact ih _ (by omega) a rd (y + 1) hX hN9 rfl ha hrd (by omega) (by rw [hfx, fl_x_no (fun q => hnot q.1) (by omega), show 6 - y - 1 = 6 - (y + 1) by omega])
            · refine az_iload dX0_letterBack_76 ?_
              refine az_goto (tgt := 82) dX0_letterBack_78 ?_
              refine az_istore (ls' := [(0, .ref q), (1, .ref r), (2, .ref t), (3, .int (nI tb)), (4, .int (nI i)), (5, .int (nI a)), (6, .int (nI rd)), (7, .int (nI y)), (8, .int (nI y)), (9, .int (nI 1))]) dX0_letterBack_82 ?_
              refine az_iincN (n := 1) (ls' := [(0, .ref q), (1, .ref r), (2, .ref t), (3, .int (nI tb)), (4, .int (nI i)), (5, .int (nI a)), (6, .int (nI rd)), (7, .int (nI y)), (8, .int (nI (y + 1))), (9, .int (nI 1))]) dX0_letterBack_84 ?_
              refine az_goto (tgt := 28) dX0_letterBack_87 ?_
              refine az_W.keep (ls' := [(0, .ref q), (1, .ref r), (2, .ref t), (3, .int (nI tb)), (4, .int (nI i)), (5, .int (nI a)), (6, .int (nI rd)), (7, .int (nI y)), (8, .int (nI (y + 1)))]) [0, 1, 2, 3, 4, 5, 6, 7, 8] rfl ?_
              first | exact absurd c55 (by decide) | exact absurd rfl c55 | exact hit _ a rd y (y + 1) (hX y (by omega) ⟨hyes, by omega⟩ (by rw [hfx, fl_x_yes ⟨hyes, by omega⟩ (by omega)])).1 (hX y (by omega) ⟨hyes, by omega⟩ (by rw [hfx, fl_x_yes ⟨hyes, by omega⟩ (by omega)])).2 rfl (by omega) ha hrd (by omega) | exact ih _ (by omega) a rd (y + 1) hX hN9 rfl ha hrd (by omega) (by rw [hfx, fl_x_no (fun q => absurd q.2 (by omega)) (by omega), show 6 - y - 1 = 6 - (y + 1) by omega]) | exact ih _ (by omega) a rd (y + 1) hX hN9 rfl ha hrd (by omega) (by rw [hfx, fl_x_no (fun q => hnot q.1) (by omega), show 6 - y - 1 = 6 - (y + 1) by omega])
        · refine az_istore (ls' := [(0, .ref q), (1, .ref r), (2, .ref t), (3, .int (nI tb)), (4, .int (nI i)), (5, .int (nI a)), (6, .int (nI rd)), (7, .int ((-1))), (8, .int (nI y)), (9, .int (nI 0))]) dX0_letterBack_51 ?_
          refine az_iload dX0_letterBack_53 ?_
          refine az_if_eqN (tgt := 81) dX0_letterBack_55 (fun c55 => ?_) (fun c55 => ?_)
          · refine az_iconst (v := (-1)) dX0_letterBack_81 ?_
            refine az_istore (ls' := [(0, .ref q), (1, .ref r), (2, .ref t), (3, .int (nI tb)), (4, .int (nI i)), (5, .int (nI a)), (6, .int (nI rd)), (7, .int ((-1))), (8, .int (nI y)), (9, .int (nI 0))]) dX0_letterBack_82 ?_
            refine az_iincN (n := 1) (ls' := [(0, .ref q), (1, .ref r), (2, .ref t), (3, .int (nI tb)), (4, .int (nI i)), (5, .int (nI a)), (6, .int (nI rd)), (7, .int ((-1))), (8, .int (nI (y + 1))), (9, .int (nI 0))]) dX0_letterBack_84 ?_
            refine az_goto (tgt := 28) dX0_letterBack_87 ?_
            refine az_W.keep (ls' := [(0, .ref q), (1, .ref r), (2, .ref t), (3, .int (nI tb)), (4, .int (nI i)), (5, .int (nI a)), (6, .int (nI rd)), (7, .int ((-1))), (8, .int (nI (y + 1)))]) [0, 1, 2, 3, 4, 5, 6, 7, 8] rfl ?_
            first | exact absurd c55 (by decide) | exact absurd rfl c55 | exact hit _ a rd y (y + 1) (hX y (by omega) ⟨hyes, by omega⟩ (by rw [hfx, fl_x_yes ⟨hyes, by omega⟩ (by omega)])).1 (hX y (by omega) ⟨hyes, by omega⟩ (by rw [hfx, fl_x_yes ⟨hyes, by omega⟩ (by omega)])).2 rfl (by omega) ha hrd (by omega) | exact ih _ (by omega) a rd (y + 1) hX hN9 rfl ha hrd (by omega) (by rw [hfx, fl_x_no (fun q => absurd q.2 (by omega)) (by omega), show 6 - y - 1 = 6 - (y + 1) by omega]) | exact ih _ (by omega) a rd (y + 1) hX hN9 rfl ha hrd (by omega) (by rw [hfx, fl_x_no (fun q => hnot q.1) (by omega), show 6 - y - 1 = 6 - (y + 1) by omega])
          · refine az_aload_n dX0_letterBack_58 ?_
            refine az_getf (v := .ref (q + 5)) dX0_letterBack_59 fl_X0_26 h0 ?_
            refine az_iload dX0_letterBack_62 ?_
            refine az_aload_n dX0_letterBack_64 ?_
            refine az_iload_n dX0_letterBack_65 ?_
            refine az_iload dX0_letterBack_66 ?_
            refine az_cV0 (st := [.int (nI a), .ref (q + 5)]) dX0_letterBack_68 ml_X0_69 hT0 (s_sizeOf (d := d - 1) hT h3 (lt := y) (by omega) ?_)
            refine az_iaddN dX0_letterBack_71 ?_
            have hwl := fw_le w tb g n n (a + ln_sz w (tb * 6 + y))
            have hp6 := pow6_le (k := n) (by omega)
            refine az_ialdN (j := a + (ln_sz w (tb * 6 + y))) dX0_letterBack_72 h5 ?_
            rw [hf (a + ln_sz w (tb * 6 + y)) (by omega)]
            refine az_if_leN (tgt := 81) dX0_letterBack_73 (fun c73 => ?_) (fun c73 => ?_)
            · refine az_iconst (v := (-1)) dX0_letterBack_81 ?_
              refine az_istore (ls' := [(0, .ref q), (1, .ref r), (2, .ref t), (3, .int (nI tb)), (4, .int (nI i)), (5, .int (nI a)), (6, .int (nI rd)), (7, .int ((-1))), (8, .int (nI y)), (9, .int (nI 0))]) dX0_letterBack_82 ?_
              refine az_iincN (n := 1) (ls' := [(0, .ref q), (1, .ref r), (2, .ref t), (3, .int (nI tb)), (4, .int (nI i)), (5, .int (nI a)), (6, .int (nI rd)), (7, .int ((-1))), (8, .int (nI (y + 1))), (9, .int (nI 0))]) dX0_letterBack_84 ?_
              refine az_goto (tgt := 28) dX0_letterBack_87 ?_
              refine az_W.keep (ls' := [(0, .ref q), (1, .ref r), (2, .ref t), (3, .int (nI tb)), (4, .int (nI i)), (5, .int (nI a)), (6, .int (nI rd)), (7, .int ((-1))), (8, .int (nI (y + 1)))]) [0, 1, 2, 3, 4, 5, 6, 7, 8] rfl ?_
              first | exact absurd c55 (by decide) | exact absurd rfl c55 | exact hit _ a rd y (y + 1) (hX y (by omega) ⟨hyes, by omega⟩ (by rw [hfx, fl_x_yes ⟨hyes, by omega⟩ (by omega)])).1 (hX y (by omega) ⟨hyes, by omega⟩ (by rw [hfx, fl_x_yes ⟨hyes, by omega⟩ (by omega)])).2 rfl (by omega) ha hrd (by omega) | exact ih _ (by omega) a rd (y + 1) hX hN9 rfl ha hrd (by omega) (by rw [hfx, fl_x_no (fun q => absurd q.2 (by omega)) (by omega), show 6 - y - 1 = 6 - (y + 1) by omega]) | exact ih _ (by omega) a rd (y + 1) hX hN9 rfl ha hrd (by omega) (by rw [hfx, fl_x_no (fun q => hnot q.1) (by omega), show 6 - y - 1 = 6 - (y + 1) by omega])
            · refine az_iload dX0_letterBack_76 ?_
              refine az_goto (tgt := 82) dX0_letterBack_78 ?_
              refine az_istore (ls' := [(0, .ref q), (1, .ref r), (2, .ref t), (3, .int (nI tb)), (4, .int (nI i)), (5, .int (nI a)), (6, .int (nI rd)), (7, .int (nI y)), (8, .int (nI y)), (9, .int (nI 0))]) dX0_letterBack_82 ?_
              refine az_iincN (n := 1) (ls' := [(0, .ref q), (1, .ref r), (2, .ref t), (3, .int (nI tb)), (4, .int (nI i)), (5, .int (nI a)), (6, .int (nI rd)), (7, .int (nI y)), (8, .int (nI (y + 1))), (9, .int (nI 0))]) dX0_letterBack_84 ?_
              refine az_goto (tgt := 28) dX0_letterBack_87 ?_
              refine az_W.keep (ls' := [(0, .ref q), (1, .ref r), (2, .ref t), (3, .int (nI tb)), (4, .int (nI i)), (5, .int (nI a)), (6, .int (nI rd)), (7, .int (nI y)), (8, .int (nI (y + 1)))]) [0, 1, 2, 3, 4, 5, 6, 7, 8] rfl ?_
              first | exact absurd c55 (by decide) | exact absurd rfl c55 | exact hit _ a rd y (y + 1) (hX y (by omega) ⟨hyes, by omega⟩ (by rw [hfx, fl_x_yes ⟨hyes, by omega⟩ (by omega)])).1 (hX y (by omega) ⟨hyes, by omega⟩ (by rw [hfx, fl_x_yes ⟨hyes, by omega⟩ (by omega)])).2 rfl (by omega) ha hrd (by omega) | exact ih _ (by omega) a rd (y + 1) hX hN9 rfl ha hrd (by omega) (by rw [hfx, fl_x_no (fun q => absurd q.2 (by omega)) (by omega), show 6 - y - 1 = 6 - (y + 1) by omega]) | exact ih _ (by omega) a rd (y + 1) hX hN9 rfl ha hrd (by omega) (by rw [hfx, fl_x_no (fun q => hnot q.1) (by omega), show 6 - y - 1 = 6 - (y + 1) by omega])
  have outer : ∀ (k : Nat) (a rd : Nat), 7 - rd = k → (rd ≤ 7) → (a ≤ n) → (rd ≤ i) → (fl_go w tb g n 7 0 i = fl_go w tb g n (7 - rd) a (i - rd)) → az_W mX0_letterBack d 0 0 6 [(0, .ref q), (1, .ref r), (2, .ref t), (3, .int (nI tb)), (4, .int (nI i)), (5, .int (nI a)), (6, .int (nI rd))] [] hp Q := by
    intro k
    induction k using Nat.strongRecOn with
    | _ k ih =>
    intro a rd hk hrd hal hri hgo
    refine az_iload dX0_letterBack_6 ?_
    refine az_bipush (v := nI 6) dX0_letterBack_8 ?_
    refine az_icmp_gtN (tgt := 124) dX0_letterBack_10 (fun c10 => ?_) (fun c10 => ?_)
    · refine az_iconst (v := (-1)) dX0_letterBack_124 ?_
      exact az_iret dX0_letterBack_125 (by first | (rw [hgo, show 7 - rd = 0 by omega, fl_go] at hQ; exact hQ) | (rw [hgo, show 7 - rd = (7 - (rd + 1)) + 1 by omega, fl_go, if_neg (by omega)] at hQ; exact hQ))
    · refine az_iload dX0_letterBack_13 ?_
      refine az_aload_n dX0_letterBack_15 ?_
      refine az_getf (v := .int (nI xt.2.length)) dX0_letterBack_16 fl_X0_29 r0 ?_
      refine az_icmp_geN (tgt := 124) dX0_letterBack_19 (fun c19 => ?_) (fun c19 => ?_)
      · refine az_iconst (v := (-1)) dX0_letterBack_124 ?_
        exact az_iret dX0_letterBack_125 (by first | (rw [hgo, show 7 - rd = 0 by omega, fl_go] at hQ; exact hQ) | (rw [hgo, show 7 - rd = (7 - (rd + 1)) + 1 by omega, fl_go, if_neg (by omega)] at hQ; exact hQ))
      · refine az_iconst (v := (-1)) dX0_letterBack_22 ?_
        refine az_istore (ls' := [(0, .ref q), (1, .ref r), (2, .ref t), (3, .int (nI tb)), (4, .int (nI i)), (5, .int (nI a)), (6, .int (nI rd)), (7, .int ((-1)))]) dX0_letterBack_23 ?_
        refine az_iconst (v := nI 0) dX0_letterBack_25 ?_
        refine az_istore (ls' := [(0, .ref q), (1, .ref r), (2, .ref t), (3, .int (nI tb)), (4, .int (nI i)), (5, .int (nI a)), (6, .int (nI rd)), (7, .int ((-1))), (8, .int (nI 0))]) dX0_letterBack_26 ?_
        refine inner _ a rd 0 ?_ ?_ rfl hal (by omega) (Nat.zero_le _) rfl
        · intro x hx6 hpx hfx
          have hst := hpx.1.2.1
          refine ⟨fun hne => ih _ (by omega) (a + ln_sz w (tb * 6 + x)) (rd + 1) rfl (by omega) (by omega) (by omega) ?_, fun heq => ?_⟩
          · rw [hgo, show 7 - rd = (7 - (rd + 1)) + 1 by omega, fl_go, if_pos (by omega), hfx]
            show (if _ then _ else _) = _
            rw [if_neg (by omega), show i - rd - 1 = i - (rd + 1) by omega]
          · rw [hgo, show 7 - rd = (7 - (rd + 1)) + 1 by omega, fl_go, if_pos (by omega), hfx] at hQ
            rw [show (match some x with | none => none | some x => if i - rd = 0 then some x else fl_go w tb g n (7 - (rd + 1)) (a + ln_sz w (tb * 6 + x)) (i - rd - 1)) = some x from if_pos (by omega)] at hQ
            exact hQ
        · intro hfx
          rw [hgo, show 7 - rd = (7 - (rd + 1)) + 1 by omega, fl_go, if_pos (by omega), hfx] at hQ
          exact hQ
  refine az_M.of rfl (Nat.le_of_ble_eq_true rfl) ?_
  show az_W _ _ _ _ 0 [(0, .ref q), (1, .ref r), (2, .ref t), (3, .int (nI tb)), (4, .int (nI i))] [] _ _
  refine az_iconst (v := nI 0) dX0_letterBack_0 ?_
  refine az_istore (ls' := [(0, .ref q), (1, .ref r), (2, .ref t), (3, .int (nI tb)), (4, .int (nI i)), (5, .int (nI 0))]) dX0_letterBack_1 ?_
  refine az_iconst (v := nI 0) dX0_letterBack_3 ?_
  refine az_istore (ls' := [(0, .ref q), (1, .ref r), (2, .ref t), (3, .int (nI tb)), (4, .int (nI i)), (5, .int (nI 0)), (6, .int (nI 0))]) dX0_letterBack_4 ?_
  exact outer _ 0 0 rfl (by omega) (Nat.zero_le _) (Nat.zero_le _) rfl
