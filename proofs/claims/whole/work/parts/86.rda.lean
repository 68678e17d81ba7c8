/-! Reader: copies, numbers, letters -/
theorem cpy_at {f g : Nat → Int32} {n j : Nat} (h : j < n) : va_cpy f g 0 0 n j = f j := by
  unfold va_cpy
  simp [h]
set_option maxRecDepth 100000 in
theorem s_copyOf {d a n m : Nat} {f : Nat → Int32} {hp : az_Hp} {Q : Option Value → az_Hp → Prop} (hd : 1 ≤ d) (ha : hp.2 a = some (az_I n f)) (hal : a < hp.1) (hm : m < n) (hn : n ≤ 900) (hQ : ∀ (h' : az_Hp) (g : Nat → Int32), h'.2 hp.1 = some (az_I m g) → (∀ j, j < m → g j = f j) → h'.1 = hp.1 + 1 → (∀ q, q < hp.1 → h'.2 q = hp.2 q) → Q (some (.ref hp.1)) h') : az_M mJ7_copyOf_59c91 d 1 m [.ref a, .int (nI m)] hp Q := by
  refine az_M.of rfl (Nat.le_of_ble_eq_true rfl) ?_
  show az_W _ _ _ _ 0 [(0, .ref a), (1, .int (nI m))] [] _ _
  refine az_iload_n dJ7_copyOf_59c91_0 ?_
  refine az_aload_n dJ7_copyOf_59c91_1 ?_
  refine az_alen dJ7_copyOf_59c91_2 ha ?_
  refine az_icmp_neN (tgt := 14) dJ7_copyOf_59c91_3 (fun c3 => ?_) (fun c3 => ?_)
  · refine az_iload_n dJ7_copyOf_59c91_14 ?_
    refine az_newI (n := m) dJ7_copyOf_59c91_15 ?_ (by omega) (by omega) (by omega)
    show az_W _ _ _ _ 17 [(0, .ref a), (1, .int (nI m))] [.ref hp.1] _ _
    refine az_astore_n (ls' := [(0, .ref a), (1, .int (nI m)), (2, .ref hp.1)]) dJ7_copyOf_59c91_17 ?_
    refine az_aload_n dJ7_copyOf_59c91_18 ?_
    refine az_iconst (v := nI 0) dJ7_copyOf_59c91_19 ?_
    refine az_aload_n dJ7_copyOf_59c91_20 ?_
    refine az_iconst (v := nI 0) dJ7_copyOf_59c91_21 ?_
    refine az_aload_n dJ7_copyOf_59c91_22 ?_
    refine az_alen dJ7_copyOf_59c91_23 (az_nw_neN (N := hp.1) ha) ?_
    refine az_iload_n dJ7_copyOf_59c91_24 ?_
    refine az_mminN dJ7_copyOf_59c91_25 ml_J7_304 ?_
    rw [show min n m = m by omega]
    refine az_copyi dJ7_copyOf_59c91_28 al_J7_150 (a0 := a) (a := hp.1) (n0 := n) (n1 := m) (f := f) (g := fun _ => nI 0) (az_nw_neN (N := hp.1) ha) az_nw_eqN (az_ix_nI (j := 0) (by decide)) (az_ix_nI (j := 0) (by decide)) (az_ix_nI (j := m) (by omega)) (by omega) (by omega) ?_
    refine az_aload_n dJ7_copyOf_59c91_31 ?_
    exact az_aret dJ7_copyOf_59c91_32 (hQ _ _ az_up_eq (fun j hj => cpy_at hj) rfl (fun q hq => (by rw [az_up_ne rfl, az_nw_neN (N := hp.1) rfl]))) (hn := by first | exact Or.inl ⟨_, rfl⟩ | exact Or.inr ⟨_, rfl⟩)
  · exact absurd c3 (by omega)
set_option maxRecDepth 100000 in
theorem s_openLaw {d q tx n e : Nat} {b : Nat → Nat} {c : List Nat} {va : Int32} {hp : az_Hp} {Q : Option Value → az_Hp → Prop} (hd : 7 ≤ d) (hS : rd_Sw hp q tx n b e c va) (hQ : rd_Q (rd_ts b n 58 (rd_en b n e) []) (rd_en b n e) 0 hp q tx n b Q) : az_M mX5_openLaw d 0 0 [.ref q] hp Q := by
  obtain ⟨hX, he, hc, cf, ol, h0, h3, hcf, h2⟩ := id hS
  refine az_M.of rfl (Nat.le_of_ble_eq_true rfl) ?_
  show az_W _ _ _ _ 0 [(0, .ref q)] [] _ _
  refine az_aload_n dX5_openLaw_0 ?_
  refine az_cV0 (st := []) dX5_openLaw_1 ml_X5_41 h0 (s_adv (d := d - 1) (by omega) hS ?_)
  intro h1 hS1 hf1
  obtain ⟨va1, hW1, hce1, hv1⟩ := id hS1
  obtain ⟨hX1, he1, hc1, cf1, ol1, g1, g3, hcf1, g2⟩ := id hW1
  refine az_aload_n dX5_openLaw_4 ?_
  refine az_iconst (v := nI 0) dX5_openLaw_5 ?_
  refine az_putf (fs' := [.int (nI 0), .int ((-1)), .ref tx, .int (nI n), .int (nI (rd_kd b n (rd_en b n e))), .int (nI (rd_fr b n (rd_en b n e))), .int (nI (rd_en b n (rd_en b n e))), .int va1, .ref (q + 2), .ref (q + 3), .int (nI 0)]) dX5_openLaw_6 fl_X5_108 g1 ?_
  refine az_aload_n dX5_openLaw_9 ?_
  refine az_bipush (v := nI 58) dX5_openLaw_10 ?_
  have hW2 : rd_Sw (az_up h1 q (az_O 4 [.int (nI 0), .int ((-1)), .ref tx, .int (nI n), .int (nI (rd_kd b n (rd_en b n e))), .int (nI (rd_fr b n (rd_en b n e))), .int (nI (rd_en b n (rd_en b n e))), .int va1, .ref (q + 2), .ref (q + 3), .int (nI 0)])) q tx n b (rd_en b n e) [] va1 := ⟨hX1.fr rd_f.rf.up, he1, Nat.zero_le _, cf1, ol1, az_up_eq, az_up_ne g3, (fun i hi => absurd hi (Nat.not_lt_zero _)), az_up_ne g2⟩
  refine az_cV0 (st := []) dX5_openLaw_12 ml_X5_81 az_up_eq (s_takeSign (d := d - 1) (x := 58) (by omega) (by omega) hW2 (rd_Q.i ?_ ?_))
  · intro e2 c2 hq2 h2' hS2 hf2
    rw [hq2] at hQ
    exact az_iret dX5_openLaw_15 (by first | exact hQ h2' hS2 ((hf1.up).tr hf2) | exact hQ h2' hE2 ((hf1.up).tr hf2))
  · intro f2 p2 hq2 h2' hE2 hf2
    rw [hq2] at hQ
    exact az_iret dX5_openLaw_15 (by first | exact hQ h2' hS2 ((hf1.up).tr hf2) | exact hQ h2' hE2 ((hf1.up).tr hf2))
def rd_tn (b : Nat → Nat) (n lo hi : Nat) : rd_P := fun e c => if rd_kd b n e ≠ 2 then rd_fail b n 2 e else if rd_va b n e < lo ∨ hi < rd_va b n e then rd_fail b n 3 e else .inl (rd_en b n e, c)
set_option maxRecDepth 100000 in
theorem s_takeNumber {d q tx n e lo hi : Nat} {b : Nat → Nat} {c : List Nat} {hp : az_Hp} {Q : Option Value → az_Hp → Prop} (hd : 6 ≤ d) (hS : rd_St hp q tx n b e c) (hlo : lo < 1000) (hhi : hi < 1000) (hQ1 : rd_tn b n lo hi e c = .inl (rd_en b n e, c) → lo ≤ rd_va b n e → rd_va b n e ≤ hi → ∀ h', rd_Sw h' q tx n b (rd_en b n e) c (nI (rd_va b n e)) → rd_f hp h' q → Q (some (.int (nI 1))) h') (hQ0 : ∀ f p, rd_tn b n lo hi e c = .inr (f, p) → ∀ h', rd_Er h' q tx n b f p e c.length → rd_f hp h' q → Q (some (.int (nI 0))) h') : az_M mX5_takeNumber d 0 0 [.ref q, .int (nI lo), .int (nI hi)] hp Q := by
  obtain ⟨va, hW, hce, hv⟩ := id hS
  obtain ⟨hX, he, hc, cf, ol, h0, h3, hcf, h2⟩ := id hW
  have hk4 := rd_kd_le b n e
  refine az_M.of rfl (Nat.le_of_ble_eq_true rfl) ?_
  show az_W _ _ _ _ 0 [(0, .ref q), (1, .int (nI lo)), (2, .int (nI hi))] [] _ _
  refine az_aload_n dX5_takeNumber_0 ?_
  refine az_getf (v := .int (nI (rd_kd b n e))) dX5_takeNumber_1 fl_X5_51 h0 ?_
  refine az_iconst (v := nI 2) dX5_takeNumber_4 ?_
  refine az_icmp_eqN (tgt := 14) dX5_takeNumber_5 (fun c5 => ?_) (fun c5 => ?_)
  · refine az_aload_n dX5_takeNumber_14 ?_
    refine az_getf (v := .int va) dX5_takeNumber_15 fl_X5_69 h0 ?_
    have hvl := rd_va_lt he c5
    rw [hv c5]
    refine az_iload_n dX5_takeNumber_18 ?_
    refine az_icmp_ltN (tgt := 30) dX5_takeNumber_19 (fun c19 => ?_) (fun c19 => ?_)
    · refine az_aload_n dX5_takeNumber_30 ?_
      refine az_iconst (v := nI 3) dX5_takeNumber_31 ?_
      refine az_cV0 (st := []) dX5_takeNumber_32 ml_X5_128 h0 (s_failR (d := d - 1) hW (fun h2' hE2 hf2 => ?_))
      exact az_iret dX5_takeNumber_35 (hQ0 _ _ (by rw [rd_tn, if_neg (fun q9 => q9 c5), if_pos (by omega)]; rfl) h2' hE2 hf2)
    · refine az_aload_n dX5_takeNumber_22 ?_
      refine az_getf (v := .int va) dX5_takeNumber_23 fl_X5_69 h0 ?_
      rw [hv c5]
      refine az_iload_n dX5_takeNumber_26 ?_
      refine az_icmp_leN (tgt := 36) dX5_takeNumber_27 (fun c27 => ?_) (fun c27 => ?_)
      · refine az_aload_n dX5_takeNumber_36 ?_
        refine az_getf (v := .int va) dX5_takeNumber_37 fl_X5_69 h0 ?_
        rw [hv c5]
        refine az_istore_n (ls' := [(0, .ref q), (1, .int (nI lo)), (2, .int (nI hi)), (3, .int (nI (rd_va b n e)))]) dX5_takeNumber_40 ?_
        refine az_aload_n dX5_takeNumber_41 ?_
        refine az_cV0 (st := []) dX5_takeNumber_42 ml_X5_41 h0 (s_adv (d := d - 1) (by omega) hW ?_)
        intro h1 hS1 hf1
        obtain ⟨va1, hW1, hce1, hv1⟩ := id hS1
        obtain ⟨hX1, he1, hc1, cf1, ol1, g1, g3, hcf1, g2⟩ := id hW1
        refine az_aload_n dX5_takeNumber_45 ?_
        refine az_iload_n dX5_takeNumber_46 ?_
        refine az_putf (fs' := [.int (nI 0), .int ((-1)), .ref tx, .int (nI n), .int (nI (rd_kd b n (rd_en b n e))), .int (nI (rd_fr b n (rd_en b n e))), .int (nI (rd_en b n (rd_en b n e))), .int (nI (rd_va b n e)), .ref (q + 2), .ref (q + 3), .int (nI c.length)]) dX5_takeNumber_47 fl_X5_69 g1 ?_
        refine az_iconst (v := nI 1) dX5_takeNumber_50 ?_
        exact az_iret dX5_takeNumber_51 (hQ1 (by rw [rd_tn, if_neg (fun q9 => q9 c5), if_neg (by omega)]) (by omega) (by omega) _ ⟨hX1.fr rd_f.rf.up, he1, hc1, cf1, ol1, az_up_eq, az_up_ne g3, hcf1, az_up_ne g2⟩ hf1.up)
      · refine az_aload_n dX5_takeNumber_30 ?_
        refine az_iconst (v := nI 3) dX5_takeNumber_31 ?_
        refine az_cV0 (st := []) dX5_takeNumber_32 ml_X5_128 h0 (s_failR (d := d - 1) hW (fun h2' hE2 hf2 => ?_))
        exact az_iret dX5_takeNumber_35 (hQ0 _ _ (by rw [rd_tn, if_neg (fun q9 => q9 c5), if_pos (by omega)]; rfl) h2' hE2 hf2)
  · refine az_aload_n dX5_takeNumber_8 ?_
    refine az_iconst (v := nI 2) dX5_takeNumber_9 ?_
    refine az_cV0 (st := []) dX5_takeNumber_10 ml_X5_128 h0 (s_failR (d := d - 1) hW (fun h2' hE2 hf2 => ?_))
    exact az_iret dX5_takeNumber_13 (hQ0 _ _ (by rw [rd_tn, if_pos c5]; rfl) h2' hE2 hf2)
