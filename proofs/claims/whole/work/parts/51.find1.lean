/-! Finder: behind, learn -/
set_option maxRecDepth 100000 in
theorem s_behind {d q n s x : Nat} {g : Nat → Nat} {f fb : Nat → Int32} {v1 v5 v6 : Value} {hp : az_Hp} {Q : Option Value → az_Hp → Prop} (hd : 1 ≤ d) (hn6 : n ≤ 6) (hs : s < n) (hx : x < 6) (h0 : hp.2 q = some (az_O 0 [.ref (q + 1), v1, .ref (q + 2), .ref (q + 3), .ref (q + 4), v5, v6, .ref (q + 5)])) (h1 : hp.2 (q + 1) = some (az_I 6 f)) (h2 : hp.2 (q + 2) = some (az_I 7 fb)) (hg : ∀ i, i < n → g i < 6) (hf : ∀ i, i < n → f i = nI (g i)) (hfb : ∀ i, 0 < i → i ≤ s → fb i = nI (fbk g i)) (hQ : Q (some (.int (nI (kp g s x (s + 1))))) hp) : az_M mX0_behind d 0 0 [.ref q, .int (nI s), .int (nI x)] hp Q := by
  have loop : ∀ (k : Nat) (now i : Nat), now = k → (now ≤ s) → (now + i ≤ s) → (fb_P g now s) → (∀ j, now < j → j ≤ s → fb_P g j s → ¬ g j = x) → az_W mX0_behind d 0 0 9 [(0, .ref q), (1, .int (nI s)), (2, .int (nI x)), (3, .int (nI now)), (4, .int (nI i))] [] hp Q := by
    intro k
    induction k using Nat.strongRecOn with
    | _ k ih =>
    intro now i hk hnow hin hP hno
    refine az_iload dX0_behind_9 ?_
    refine az_bipush (v := nI 6) dX0_behind_11 ?_
    refine az_icmp_geN (tgt := 43) dX0_behind_13 (fun c13 => ?_) (fun c13 => ?_)
    · refine az_aload_n dX0_behind_43 ?_
      refine az_getf (v := .ref (q + 1)) dX0_behind_44 fl_X0_9 h0 ?_
      refine az_iload_n dX0_behind_47 ?_
      refine az_ialdN (j := now) dX0_behind_48 h1 ?_
      rw [hf now (by omega)]
      have hgn := hg now (by omega)
      refine az_iload_n dX0_behind_49 ?_
      refine az_icmp_neN (tgt := 59) dX0_behind_50 (fun c50 => ?_) (fun c50 => ?_)
      · refine az_iconst (v := nI 0) dX0_behind_59 ?_
        exact az_iret dX0_behind_60 (by first | (rw [kp_is (r := now) (by omega) hP c50 (fun j q1 q2 => hno j q1 (by omega))] at hQ; exact hQ) | (rw [kp_zero (fun j q1 q2 q3 => if e : j = now then c50 (e ▸ q3) else hno j (by omega) (by omega) q2 q3)] at hQ; exact hQ))
      · refine az_iload_n dX0_behind_53 ?_
        refine az_iconst (v := nI 1) dX0_behind_54 ?_
        refine az_iaddN dX0_behind_55 ?_
        refine az_goto (tgt := 60) dX0_behind_56 ?_
        exact az_iret dX0_behind_60 (by first | (rw [kp_is (r := now) (by omega) hP c50 (fun j q1 q2 => hno j q1 (by omega))] at hQ; exact hQ) | (rw [kp_zero (fun j q1 q2 q3 => if e : j = now then c50 (e ▸ q3) else hno j (by omega) (by omega) q2 q3)] at hQ; exact hQ))
    · refine az_iload_n dX0_behind_16 ?_
      refine az_if_leN (tgt := 43) dX0_behind_17 (fun c17 => ?_) (fun c17 => ?_)
      · refine az_aload_n dX0_behind_43 ?_
        refine az_getf (v := .ref (q + 1)) dX0_behind_44 fl_X0_9 h0 ?_
        refine az_iload_n dX0_behind_47 ?_
        refine az_ialdN (j := now) dX0_behind_48 h1 ?_
        rw [hf now (by omega)]
        have hgn := hg now (by omega)
        refine az_iload_n dX0_behind_49 ?_
        refine az_icmp_neN (tgt := 59) dX0_behind_50 (fun c50 => ?_) (fun c50 => ?_)
        · refine az_iconst (v := nI 0) dX0_behind_59 ?_
          exact az_iret dX0_behind_60 (by first | (rw [kp_is (r := now) (by omega) hP c50 (fun j q1 q2 => hno j q1 (by omega))] at hQ; exact hQ) | (rw [kp_zero (fun j q1 q2 q3 => if e : j = now then c50 (e ▸ q3) else hno j (by omega) (by omega) q2 q3)] at hQ; exact hQ))
        · refine az_iload_n dX0_behind_53 ?_
          refine az_iconst (v := nI 1) dX0_behind_54 ?_
          refine az_iaddN dX0_behind_55 ?_
          refine az_goto (tgt := 60) dX0_behind_56 ?_
          exact az_iret dX0_behind_60 (by first | (rw [kp_is (r := now) (by omega) hP c50 (fun j q1 q2 => hno j q1 (by omega))] at hQ; exact hQ) | (rw [kp_zero (fun j q1 q2 q3 => if e : j = now then c50 (e ▸ q3) else hno j (by omega) (by omega) q2 q3)] at hQ; exact hQ))
      · refine az_aload_n dX0_behind_20 ?_
        refine az_getf (v := .ref (q + 1)) dX0_behind_21 fl_X0_9 h0 ?_
        refine az_iload_n dX0_behind_24 ?_
        refine az_ialdN (j := now) dX0_behind_25 h1 ?_
        rw [hf now (by omega)]
        have hgn := hg now (by omega)
        refine az_iload_n dX0_behind_26 ?_
        refine az_icmp_eqN (tgt := 43) dX0_behind_27 (fun c27 => ?_) (fun c27 => ?_)
        · refine az_aload_n dX0_behind_43 ?_
          refine az_getf (v := .ref (q + 1)) dX0_behind_44 fl_X0_9 h0 ?_
          refine az_iload_n dX0_behind_47 ?_
          refine az_ialdN (j := now) dX0_behind_48 h1 ?_
          rw [hf now (by omega)]
          have hgn := hg now (by omega)
          refine az_iload_n dX0_behind_49 ?_
          refine az_icmp_neN (tgt := 59) dX0_behind_50 (fun c50 => ?_) (fun c50 => ?_)
          · refine az_iconst (v := nI 0) dX0_behind_59 ?_
            exact az_iret dX0_behind_60 (by first | (rw [kp_is (r := now) (by omega) hP c50 (fun j q1 q2 => hno j q1 (by omega))] at hQ; exact hQ) | (rw [kp_zero (fun j q1 q2 q3 => if e : j = now then c50 (e ▸ q3) else hno j (by omega) (by omega) q2 q3)] at hQ; exact hQ))
          · refine az_iload_n dX0_behind_53 ?_
            refine az_iconst (v := nI 1) dX0_behind_54 ?_
            refine az_iaddN dX0_behind_55 ?_
            refine az_goto (tgt := 60) dX0_behind_56 ?_
            exact az_iret dX0_behind_60 (by first | (rw [kp_is (r := now) (by omega) hP c50 (fun j q1 q2 => hno j q1 (by omega))] at hQ; exact hQ) | (rw [kp_zero (fun j q1 q2 q3 => if e : j = now then c50 (e ▸ q3) else hno j (by omega) (by omega) q2 q3)] at hQ; exact hQ))
        · refine az_aload_n dX0_behind_30 ?_
          refine az_getf (v := .ref (q + 2)) dX0_behind_31 fl_X0_15 h0 ?_
          refine az_iload_n dX0_behind_34 ?_
          refine az_ialdN (j := now) dX0_behind_35 h2 ?_
          rw [hfb now (by omega) (by omega)]
          refine az_istore_n (ls' := [(0, .ref q), (1, .int (nI s)), (2, .int (nI x)), (3, .int (nI (fbk g now))), (4, .int (nI i))]) dX0_behind_36 ?_
          refine az_iincN (n := 1) (ls' := [(0, .ref q), (1, .int (nI s)), (2, .int (nI x)), (3, .int (nI (fbk g now))), (4, .int (nI (i + 1)))]) dX0_behind_37 ?_
          refine az_goto (tgt := 9) dX0_behind_40 ?_
          have hlt := fb_g_lt (g := g) (m := now) (by omega)
          exact ih _ (by omega) (fbk g now) (i + 1) rfl (by omega) (by omega) (fb_P_trans (fb_g_P g now (now - 1)) hP) (fun j q1 q2 q3 q4 => if e : j = now then c27 (e ▸ q4) else if e2 : now < j then hno j e2 q2 q3 q4 else absurd (fb_g_max (b := now - 1) (by omega) (fb_P_down q3 hP (by omega))) (by unfold fbk at q1; omega))
  refine az_M.of rfl (Nat.le_of_ble_eq_true rfl) ?_
  show az_W _ _ _ _ 0 [(0, .ref q), (1, .int (nI s)), (2, .int (nI x))] [] _ _
  refine az_iload_n dX0_behind_0 ?_
  refine az_iconst (v := nI 5) dX0_behind_1 ?_
  refine az_mminN dX0_behind_2 ml_X0_35 ?_
  rw [show min s 5 = s by omega]
  refine az_istore_n (ls' := [(0, .ref q), (1, .int (nI s)), (2, .int (nI x)), (3, .int (nI s))]) dX0_behind_5 ?_
  refine az_iconst (v := nI 0) dX0_behind_6 ?_
  refine az_istore (ls' := [(0, .ref q), (1, .int (nI s)), (2, .int (nI x)), (3, .int (nI s)), (4, .int (nI 0))]) dX0_behind_7 ?_
  exact loop _ s 0 rfl (Nat.le_refl _) (by omega) (fb_P_self g s) (fun j q1 q2 => absurd q1 (by omega))

theorem ln_Tray.fr {h h' : az_Hp} {r lo hi : Nat} {tr : Option (Nat × List Int64)} (hR : ln_Tray h r tr) (hf : az_fr h h' lo hi) (hr : r + 2 ≤ lo ∨ hi ≤ r) : ln_Tray h' r tr := by
  cases tr with
  | none =>
    obtain ⟨so, f, h0, h1⟩ := hR
    exact ⟨so, f, hf.at h0, hf.at h1⟩
  | some x =>
    obtain ⟨a, b, f, h0, h1, h2⟩ := hR
    exact ⟨a, b, f, hf.at h0, hf.at h1, h2⟩
/-- the word of n letters is learned -/
def fd_W (h : az_Hp) (q n : Nat) (g : Nat → Nat) (v5 v6 : Value) : Prop := ∃ f fb : Nat → Int32, h.2 q = some (az_O 0 [.ref (q + 1), .int (nI n), .ref (q + 2), .ref (q + 3), .ref (q + 4), v5, v6, .ref (q + 5)]) ∧ h.2 (q + 1) = some (az_I 6 f) ∧ h.2 (q + 2) = some (az_I 7 fb) ∧ (∀ i, i < n → f i = nI (g i)) ∧ (∀ i, 0 < i → i ≤ n → fb i = nI (fbk g i))
set_option maxRecDepth 100000 in
theorem s_learn {d q r n : Nat} {g : Nat → Nat} {xt : Nat × List Int64} {f0 fb0 : Nat → Int32} {v1 v5 v6 : Value} {hp : az_Hp} {Q : Option Value → az_Hp → Prop} (hd : 2 ≤ d) (hn : xt.2.length = n) (hn1 : 1 ≤ n) (hn6 : n ≤ 6) (hr : r + 2 ≤ q ∨ q + 3 ≤ r) (h0 : hp.2 q = some (az_O 0 [.ref (q + 1), v1, .ref (q + 2), .ref (q + 3), .ref (q + 4), v5, v6, .ref (q + 5)])) (h1 : hp.2 (q + 1) = some (az_I 6 f0)) (h2 : hp.2 (q + 2) = some (az_I 7 fb0)) (hR : ln_Tray hp r (some xt)) (hg : ∀ i, i < n → g i < 6) (hx : ∀ i, i < n → xt.2.getD i 0 = lN (g i)) (hQ : ∀ h', fd_W h' q n g v5 v6 → az_fr hp h' q (q + 3) → Q none h') : az_M mX0_learn d 0 0 [.ref q, .ref r] hp Q := by
  have hs0 := id hR
  obtain ⟨hl40, hs3, fr, r0, -⟩ := hs0
  have second : ∀ (k : Nat) (m : Nat) (fb : Nat → Int32) (h' : az_Hp) (f : Nat → Int32) (hf : ∀ i, i < n → f i = nI (g i)), n - m = k → (1 ≤ m) → (m ≤ n) → (h'.2 q = some (az_O 0 [.ref (q + 1), .int (nI n), .ref (q + 2), .ref (q + 3), .ref (q + 4), v5, v6, .ref (q + 5)])) → (h'.2 (q + 1) = some (az_I 6 f)) → (h'.2 (q + 2) = some (az_I 7 fb)) → (az_fr hp h' q (q + 3)) → (∀ i, 0 < i → i ≤ m → fb i = nI (fbk g i)) → az_W mX0_learn d 0 0 57 [(0, .ref q), (1, .ref r), (2, .int (nI m))] [] h' Q := by
    intro k
    induction k using Nat.strongRecOn with
    | _ k ih =>
    intro m fb h' f hf hk hm1 hmn e0 e1 e2 hfr hb
    refine az_iload_n dX0_learn_57 ?_
    refine az_aload_n dX0_learn_58 ?_
    refine az_getf (v := .int (nI n)) dX0_learn_59 fl_X0_41 e0 ?_
    refine az_icmp_geN (tgt := 95) dX0_learn_62 (fun c62 => ?_) (fun c62 => ?_)
    · exact az_vret dX0_learn_95 (hQ _ ⟨f, fb, e0, e1, e2, hf, fun i q1 q2 => hb i q1 (by omega)⟩ hfr)
    · refine az_aload_n dX0_learn_65 ?_
      refine az_getf (v := .ref (q + 2)) dX0_learn_66 fl_X0_15 e0 ?_
      refine az_iload_n dX0_learn_69 ?_
      refine az_iconst (v := nI 1) dX0_learn_70 ?_
      refine az_iaddN dX0_learn_71 ?_
      refine az_aload_n dX0_learn_72 ?_
      refine az_aload_n dX0_learn_73 ?_
      refine az_getf (v := .ref (q + 2)) dX0_learn_74 fl_X0_15 e0 ?_
      refine az_iload_n dX0_learn_77 ?_
      refine az_ialdN (j := m) dX0_learn_78 e2 ?_
      rw [hb m (by omega) (by omega)]
      have hbm := fb_g_lt (g := g) (m := m) (by omega)
      refine az_aload_n dX0_learn_79 ?_
      refine az_getf (v := .ref (q + 1)) dX0_learn_80 fl_X0_9 e0 ?_
      refine az_iload_n dX0_learn_83 ?_
      refine az_ialdN (j := m) dX0_learn_84 e1 ?_
      rw [hf m (by omega)]
      refine az_cV0 (st := [.int (nI (m + 1)), .ref (q + 2)]) dX0_learn_85 ml_X0_46 e0 (s_behind (d := d - 1) (by omega) hn6 (n := n) (s := fbk g m) (by omega) (hg m (by omega)) e0 e1 e2 hg hf (fun i q1 q2 => hb i q1 (by omega)) ?_)
      rw [kp_fbk (by omega)]
      refine az_iastN (j := m + 1) dX0_learn_88 e2 ?_
      refine az_iincN (n := 1) (ls' := [(0, .ref q), (1, .ref r), (2, .int (nI (m + 1)))]) dX0_learn_89 ?_
      refine az_goto (tgt := 57) dX0_learn_92 ?_
      exact ih _ (by omega) (m + 1) (az_s fb (m + 1) (nI (fbk g (m + 1)))) _ f hf rfl (by omega) (by omega) (az_up_ne e0) (az_up_ne e1) az_up_eq hfr.up (fun i q1 q2 => if e : i = m + 1 then (by rw [e, az_s_eq]) else (by rw [az_s_ne e]; exact hb i q1 (by omega)))
  have first9 : ∀ (k : Nat) (i : Nat) (f : Nat → Int32) (h' : az_Hp), n - i = k → (i ≤ n) → (h'.2 q = some (az_O 0 [.ref (q + 1), .int (nI n), .ref (q + 2), .ref (q + 3), .ref (q + 4), v5, v6, .ref (q + 5)])) → (h'.2 (q + 1) = some (az_I 6 f)) → (h'.2 (q + 2) = some (az_I 7 fb0)) → (az_fr hp h' q (q + 3)) → (∀ j, j < i → f j = nI (g j)) → az_W mX0_learn d 0 0 15 [(0, .ref q), (1, .ref r), (2, .int (nI i))] [] h' Q := by
    intro k
    induction k using Nat.strongRecOn with
    | _ k ih =>
    intro i f h' hk hin e0 e1 e2 hfr hf
    have hR' := hR.fr hfr hr
    obtain ⟨-, -, -, r0', -⟩ := id hR'
    refine az_iload_n dX0_learn_15 ?_
    refine az_aload_n dX0_learn_16 ?_
    refine az_getf (v := .int (nI n)) dX0_learn_17 fl_X0_41 e0 ?_
    refine az_icmp_geN (tgt := 41) dX0_learn_20 (fun c20 => ?_) (fun c20 => ?_)
    · refine az_aload_n dX0_learn_41 ?_
      refine az_getf (v := .ref (q + 2)) dX0_learn_42 fl_X0_15 e0 ?_
      refine az_iconst (v := nI 0) dX0_learn_45 ?_
      refine az_iconst (v := nI 0) dX0_learn_46 ?_
      refine az_iastN (j := 0) dX0_learn_47 e2 ?_
      refine az_aload_n dX0_learn_48 ?_
      refine az_getf (v := .ref (q + 2)) dX0_learn_49 fl_X0_15 (az_up_ne e0) ?_
      refine az_iconst (v := nI 1) dX0_learn_52 ?_
      refine az_iconst (v := nI 0) dX0_learn_53 ?_
      refine az_iastN (j := 1) dX0_learn_54 az_up_eq ?_
      refine az_iconst (v := nI 1) dX0_learn_55 ?_
      refine az_istore_n (ls' := [(0, .ref q), (1, .ref r), (2, .int (nI 1))]) dX0_learn_56 ?_
      exact second _ 1 (az_s (az_s fb0 0 (nI 0)) 1 (nI 0)) _ f (fun j q1 => hf j (by omega)) rfl (Nat.le_refl _) hn1 (az_up_ne (az_up_ne e0)) (az_up_ne (az_up_ne e1)) az_up_eq hfr.up.up (fun j q1 q2 => (by rw [show j = 1 by omega, az_s_eq]; rfl))
    · refine az_aload_n dX0_learn_23 ?_
      refine az_getf (v := .ref (q + 1)) dX0_learn_24 fl_X0_9 e0 ?_
      refine az_iload_n dX0_learn_27 ?_
      refine az_aload_n dX0_learn_28 ?_
      refine az_iload_n dX0_learn_29 ?_
      refine az_cV0 (st := [.int (nI i), .ref (q + 1)]) dX0_learn_30 ml_X0_42 r0' (s_get (d := d - 1) (i := i) hR' (by omega) ?_)
      rw [hx i (by omega)]
      have hgi := hg i (by omega)
      refine az_l2iN dX0_learn_33 ?_
      refine az_iastN (j := i) dX0_learn_34 e1 ?_
      refine az_iincN (n := 1) (ls' := [(0, .ref q), (1, .ref r), (2, .int (nI (i + 1)))]) dX0_learn_35 ?_
      refine az_goto (tgt := 15) dX0_learn_38 ?_
      exact ih _ (by omega) (i + 1) (az_s f i (nI (g i))) _ rfl (by omega) (az_up_ne e0) az_up_eq (az_up_ne e2) hfr.up (fun j q1 => if e : j = i then (by rw [e, az_s_eq]) else (by rw [az_s_ne e]; exact hf j (by omega)))
  refine az_M.of rfl (Nat.le_of_ble_eq_true rfl) ?_
  show az_W _ _ _ _ 0 [(0, .ref q), (1, .ref r)] [] _ _
  refine az_aload_n dX0_learn_0 ?_
  refine az_aload_n dX0_learn_1 ?_
  refine az_getf (v := .int (nI xt.2.length)) dX0_learn_2 fl_X0_29 r0 ?_
  refine az_bipush (v := nI 6) dX0_learn_5 ?_
  refine az_mminN dX0_learn_7 ml_X0_35 ?_
  rw [show min xt.2.length 6 = n by omega]
  refine az_putf (fs' := [.ref (q + 1), .int (nI n), .ref (q + 2), .ref (q + 3), .ref (q + 4), v5, v6, .ref (q + 5)]) dX0_learn_10 fl_X0_41 h0 ?_
  refine az_iconst (v := nI 0) dX0_learn_13 ?_
  refine az_istore_n (ls' := [(0, .ref q), (1, .ref r), (2, .int (nI 0))]) dX0_learn_14 ?_
  exact first9 _ 0 f0 _ rfl (Nat.zero_le _) az_up_eq (az_up_ne h1) (az_up_ne h2) az_fr.rf.up (fun j q1 => absurd q1 (by omega))
