/-! The model's reader: numbers, letters -/
theorem mr_w2 {x : Nat × Nat} {h : az_Hp} {sc : Nat → Value} {b : Nat → Nat} {n : Nat} {fr : Nat → Nat} {k0 : Nat} (H : mr_R h sc b n fr k0 (.inr x)) : ¬ mr_w (.inr x) = 0 := by
  obtain ⟨-, h1, h2⟩ := H
  have h1 : 1 ≤ x.1 := h1
  show ¬ x.1 = 0
  omega
set_option maxHeartbeats 4000000 in
set_option maxRecDepth 100000 in
theorem m_takesE {d : Nat} {v1 v2 : Int32} {sc : Nat → Value} {b : Nat → Nat} {n : Nat} {fr : Nat → Nat} {k0 : Nat} {x : Nat × Nat} {hp : az_Hp} {Q : Option Value → az_Hp → Prop} (H : mr_R hp sc b n fr k0 (.inr x)) (hQ : ∀ y : Int32, Q (some (.int y)) hp) : az_W mX12_takes d 0 0 37 [(0, .ref 64), (1, .int v1), (2, .int v2)] [] hp Q := by
  obtain ⟨a0, z0, ki0, nu0, wa0, e0, w0, hki0, hnu0⟩ := H.o
  have hne := mr_w2 H
  refine az_aload_n dX12_takes_37 ?_
  refine az_getf (v := .int nu0) dX12_takes_38 fl_X12_148 e0 ?_
  refine az_istore_n (ls' := [(0, .ref 64), (1, .int v1), (2, .int v2), (3, .int nu0)]) dX12_takes_41 ?_
  refine az_aload_n dX12_takes_42 ?_
  refine az_getf (v := .int (nI (mr_w (.inr x)))) dX12_takes_43 fl_X12_153 e0 ?_
  refine az_if_neN (tgt := 53) dX12_takes_46 (fun c46 => ?_) (fun c46 => ?_)
  · refine az_iload_n dX12_takes_53 ?_
    exact az_iret dX12_takes_54 (hQ _)
  · exact absurd (by first | exact c46 | omega) hne
set_option maxHeartbeats 4000000 in
set_option maxRecDepth 100000 in
theorem m_takesS {d : Nat} {v1 v2 : Int32} {sc : Nat → Value} {b : Nat → Nat} {n : Nat} {fr : Nat → Nat} {k0 : Nat} {e : Nat} {c : List Nat} {hp : az_Hp} {Q : Option Value → az_Hp → Prop} (hd : 8 ≤ d) (H : mr_R hp sc b n fr k0 (.inl (e, c))) (hkd : rd_kd b n e = 2) (hQ : ∀ h', mr_R h' sc b n fr k0 (.inl (rd_en b n e, c)) → mf hp h' [64] → Q (some (.int (nI (rd_va b n e)))) h') : az_W mX12_takes d 0 0 37 [(0, .ref 64), (1, .int v1), (2, .int v2)] [] hp Q := by
  obtain ⟨hT, h1, h2, ⟨k, nu, wa, hk, hnu, h64⟩, hC⟩ := id H
  obtain rfl := hnu hkd
  refine az_aload_n dX12_takes_37 ?_
  refine az_getf (v := .int (nI (rd_va b n e))) dX12_takes_38 fl_X12_148 h64 ?_
  refine az_istore_n (ls' := [(0, .ref 64), (1, .int v1), (2, .int v2), (3, .int (nI (rd_va b n e)))]) dX12_takes_41 ?_
  refine az_aload_n dX12_takes_42 ?_
  refine az_getf (v := .int (nI 0)) dX12_takes_43 fl_X12_153 h64 ?_
  refine az_if_neN (tgt := 53) dX12_takes_46 (fun c46 => ?_) (fun c46 => ?_)
  · exact absurd rfl c46
  · refine az_aload_n dX12_takes_49 ?_
    refine az_cV0 (st := []) dX12_takes_50 ml_X12_162 h64 (m_nextR (d := d - 1) (e := e) (c := c) (c' := c) (sc := sc) (b := b) (n := n) (fr := fr) (k0 := k0) (by omega) H.1 H.2.1 (by have h1 := H.2.1; have h2 := H.2.2.1; have h3 := rd_en_le2 (b := b) h1; exact Nat.le_trans h2 h3) H.2.2.2.1 H.2.2.2.2 ?_)
    intro h2 H2 mf2
    refine az_iload_n dX12_takes_53 ?_
    exact az_iret dX12_takes_54 (hQ h2 H2 mf2)
theorem tn_no {b : Nat → Nat} {n lo hi : Nat} {r : rd_R} (h : mr_no b n r 23) : rd_b r (rd_tn b n lo hi) = rd_b r (fun e _ => rd_fail b n 2 e) := by
  match r, h with
  | .inr x, _ => rfl
  | .inl (e, c), h => exact if_pos (fun q => h e c rfl (mrK_N.mpr q))
theorem fail_inr {b : Nat → Nat} {n f : Nat} (r : rd_R) : ∃ x, rd_b r (fun e _ => rd_fail b n f e) = .inr x := by
  match r with
  | .inr x => exact ⟨x, rfl⟩
  | .inl (e, c) => exact ⟨_, rfl⟩
set_option maxHeartbeats 4000000 in
set_option maxRecDepth 100000 in
theorem m_takes {d lo hi : Nat} {sc : Nat → Value} {b : Nat → Nat} {n : Nat} {fr : Nat → Nat} {k0 : Nat} {r : rd_R} {hp : az_Hp} {Q : Option Value → az_Hp → Prop} (hd : 9 ≤ d) (hl : lo < 1000) (hh : hi < 1000) (H : mr_R hp sc b n fr k0 (r)) (hQ : ∀ h' (y : Int32), mr_R h' sc b n fr k0 (rd_b r (rd_tn b n lo hi)) → mf hp h' [64] → (∀ e c z, r = .inl (e, c) → rd_tn b n lo hi e c = .inl z → y = nI (rd_va b n e)) → Q (some (.int y)) h') : az_M mX12_takes d 0 0 [.ref 64, .int (nI lo), .int (nI hi)] hp Q := by
  obtain ⟨a0, z0, ki0, nu0, wa0, e0, w0, hki0, hnu0⟩ := H.o
  refine az_M.of rfl (Nat.le_of_ble_eq_true rfl) ?_
  show az_W _ _ _ _ 0 [(0, .ref 64), (1, .int (nI lo)), (2, .int (nI hi))] [] _ _
  refine az_aload_n dX12_takes_0 ?_
  refine az_bipush (v := nI 23) dX12_takes_1 ?_
  refine az_cV0 (st := []) dX12_takes_3 ml_X12_159 e0 (m_is (d := d - 1) (k9 := 23) (by decide) H ?_ ?_)
  · intro ee cc hr hm
    have hkd := mrK_N.mp hm
    have hle := H.le ee cc hr
    have hnv := hnu0 ee cc hr hkd
    have hva := rd_va_lt hle.1 hkd
    have H5 := H
    rw [hr] at H5
    refine az_if_neN (tgt := 17) dX12_takes_6 (fun c6 => ?_) (fun c6 => ?_)
    · refine az_aload_n dX12_takes_17 ?_
      refine az_getf (v := .int nu0) dX12_takes_18 fl_X12_148 e0 ?_
      refine az_i2l dX12_takes_21 ?_
      refine az_iload_n dX12_takes_22 ?_
      refine az_i2lN dX12_takes_23 ?_
      refine az_iload_n dX12_takes_24 ?_
      refine az_i2lN dX12_takes_25 ?_
      refine az_cS0 (st := []) dX12_takes_26 ml_X12_169 (m_withinI (d := d - 1) (lo := lo) (hi := hi) (x := nu0) (by omega) (by omega) ?_ ?_)
      · intro m9 hm9 g1 g2
        have hin : lo ≤ rd_va b n ee ∧ rd_va b n ee ≤ hi := (by have q := lN_2 (hnv.symm.trans hm9) (by omega) (by omega); omega)
        refine az_if_neN (tgt := 37) dX12_takes_29 (fun c29 => ?_) (fun c29 => ?_)
        · first | (have _g := hin; refine m_takesS (by omega) H5 hkd (fun h2 H2 mf2 => hQ h2 _ ?_ mf2 ?_); rw [hr]; show mr_R h2 sc b n fr k0 (rd_tn b n lo hi ee cc); rw [show rd_tn b n lo hi ee cc = .inl (rd_en b n ee, cc) from (if_neg (fun q => q hkd)).trans (if_neg (by omega))]; exact H2; intro e c z q _; rw [hr] at q; cases q; rfl) | (have _g := hout; have q9 : rd_b r (rd_tn b n lo hi) = rd_fail b n 3 ee := (by rw [hr]; exact (if_neg (fun q => q hkd)).trans (if_pos hout)); refine m_takesE H1 (fun y => hQ h1 y (by rw [q9]; exact H1) mf1 ?_); intro e c z q q2; rw [q] at q9; exact absurd (q2.symm.trans q9) (by intro q; cases q)) | (have _g := hno; obtain ⟨x, hx⟩ := fail_inr (b := b) (n := n) (f := 2) r; have q9 : rd_b r (rd_tn b n lo hi) = .inr x := (tn_no hno).trans hx; rw [hx] at H1; refine m_takesE H1 (fun y => hQ h1 y (by rw [q9]; exact H1) mf1 ?_); intro e c z q q2; rw [q] at q9; exact absurd (q2.symm.trans q9) (by intro q; cases q))
        · exact absurd c29 (by omega)
      · intro hno2
        have hout : rd_va b n ee < lo ∨ hi < rd_va b n ee := (by have q := hno2 (rd_va b n ee); by_cases q1 : lo ≤ rd_va b n ee; by_cases q2 : rd_va b n ee ≤ hi; exact absurd hnv (q q1 q2); omega; omega)
        refine az_if_neN (tgt := 37) dX12_takes_29 (fun c29 => ?_) (fun c29 => ?_)
        · exact absurd c29 (by omega)
        · refine az_aload_n dX12_takes_32 ?_
          refine az_iconst (v := nI 3) dX12_takes_33 ?_
          refine az_cV0 (st := []) dX12_takes_34 ml_X12_165 e0 (m_fails (d := d - 1) (f9 := 3) (by decide) (by decide) H5 ?_)
          intro h1 H1 mf1
          first | (have _g := hin; refine m_takesS (by omega) H5 hkd (fun h2 H2 mf2 => hQ h2 _ ?_ mf2 ?_); rw [hr]; show mr_R h2 sc b n fr k0 (rd_tn b n lo hi ee cc); rw [show rd_tn b n lo hi ee cc = .inl (rd_en b n ee, cc) from (if_neg (fun q => q hkd)).trans (if_neg (by omega))]; exact H2; intro e c z q _; rw [hr] at q; cases q; rfl) | (have _g := hout; have q9 : rd_b r (rd_tn b n lo hi) = rd_fail b n 3 ee := (by rw [hr]; exact (if_neg (fun q => q hkd)).trans (if_pos hout)); refine m_takesE H1 (fun y => hQ h1 y (by rw [q9]; exact H1) mf1 ?_); intro e c z q q2; rw [q] at q9; exact absurd (q2.symm.trans q9) (by intro q; cases q)) | (have _g := hno; obtain ⟨x, hx⟩ := fail_inr (b := b) (n := n) (f := 2) r; have q9 : rd_b r (rd_tn b n lo hi) = .inr x := (tn_no hno).trans hx; rw [hx] at H1; refine m_takesE H1 (fun y => hQ h1 y (by rw [q9]; exact H1) mf1 ?_); intro e c z q q2; rw [q] at q9; exact absurd (q2.symm.trans q9) (by intro q; cases q))
    · exact absurd c6 (by omega)
  · intro hno
    refine az_if_neN (tgt := 17) dX12_takes_6 (fun c6 => ?_) (fun c6 => ?_)
    · exact absurd c6 (by omega)
    · refine az_aload_n dX12_takes_9 ?_
      refine az_iconst (v := nI 2) dX12_takes_10 ?_
      refine az_cV0 (st := []) dX12_takes_11 ml_X12_165 e0 (m_fails (d := d - 1) (f9 := 2) (by decide) (by decide) H ?_)
      intro h1 H1 mf1
      refine az_goto (tgt := 37) dX12_takes_14 ?_
      first | (have _g := hin; refine m_takesS (by omega) H5 hkd (fun h2 H2 mf2 => hQ h2 _ ?_ mf2 ?_); rw [hr]; show mr_R h2 sc b n fr k0 (rd_tn b n lo hi ee cc); rw [show rd_tn b n lo hi ee cc = .inl (rd_en b n ee, cc) from (if_neg (fun q => q hkd)).trans (if_neg (by omega))]; exact H2; intro e c z q _; rw [hr] at q; cases q; rfl) | (have _g := hout; have q9 : rd_b r (rd_tn b n lo hi) = rd_fail b n 3 ee := (by rw [hr]; exact (if_neg (fun q => q hkd)).trans (if_pos hout)); refine m_takesE H1 (fun y => hQ h1 y (by rw [q9]; exact H1) mf1 ?_); intro e c z q q2; rw [q] at q9; exact absurd (q2.symm.trans q9) (by intro q; cases q)) | (have _g := hno; obtain ⟨x, hx⟩ := fail_inr (b := b) (n := n) (f := 2) r; have q9 : rd_b r (rd_tn b n lo hi) = .inr x := (tn_no hno).trans hx; rw [hx] at H1; refine m_takesE H1 (fun y => hQ h1 y (by rw [q9]; exact H1) mf1 ?_); intro e c z q q2; rw [q] at q9; exact absurd (q2.symm.trans q9) (by intro q; cases q))
set_option maxHeartbeats 4000000 in
set_option maxRecDepth 100000 in
theorem m_named {d k9 lo hi : Nat} {t : String} {sc : Nat → Value} {b : Nat → Nat} {n : Nat} {fr : Nat → Nat} {k0 : Nat} {r : rd_R} {hp : az_Hp} {Q : Option Value → az_Hp → Prop} (hd : 10 ≤ d) (hk9 : k9 < 100) (hl : lo < 1000) (hh : hi < 1000) (hk : tokP b n k9 (rd_tw b n t)) (H : mr_R hp sc b n fr k0 (r)) (hQ : ∀ h' (y : Int32), mr_R h' sc b n fr k0 (rd_b (rd_b r (rd_tw b n t)) (rd_tn b n lo hi)) → mf hp h' [64] → (∀ e c z, rd_b r (rd_tw b n t) = .inl (e, c) → rd_tn b n lo hi e c = .inl z → y = nI (rd_va b n e)) → Q (some (.int y)) h') : az_M mX12_named d 0 0 [.ref 64, .int (nI k9), .int (nI lo), .int (nI hi)] hp Q := by
  obtain ⟨a0, z0, ki0, nu0, wa0, e0, w0, hki0, hnu0⟩ := H.o
  refine az_M.of rfl (Nat.le_of_ble_eq_true rfl) ?_
  show az_W _ _ _ _ 0 [(0, .ref 64), (1, .int (nI k9)), (2, .int (nI lo)), (3, .int (nI hi))] [] _ _
  refine az_aload_n dX12_named_0 ?_
  refine az_iload_n dX12_named_1 ?_
  refine az_cV0 (st := []) dX12_named_2 ml_X12_185 e0 (m_eats (d := d - 1) (k9 := k9) (by omega) hk9 H ?_ ?_)
  · intro ee1 cc1 hr1 hm1 h1 H1 mf1
    rw [← tok_1 hk (fun e c q => (H.le e c q).1) hr1 hm1] at H1
    obtain ⟨r1, q1⟩ : ∃ x : rd_R, x = rd_b r (rd_tw b n t) := ⟨_, rfl⟩
    rw [← q1] at H1
    obtain ⟨a1, z1, ki1, nu1, wa1, e1, w1, hki1, hnu1⟩ := H1.o
    refine az_if_neN (tgt := 13) dX12_named_5 (fun c5 => ?_) (fun c5 => ?_)
    · refine az_aload_n dX12_named_13 ?_
      refine az_iload_n dX12_named_14 ?_
      refine az_iload_n dX12_named_15 ?_
      refine az_cV0 (st := []) dX12_named_16 ml_X12_206 e1 (m_takes (d := d - 1) (lo := lo) (hi := hi) (by omega) hl hh H1 ?_)
      intro h2 y2 H2 mf2 hy2
      exact az_iret dX12_named_19 (hQ h2 y2 (by rw [← q1]; exact H2) (mf1.tr mf2 (by decide)) (by rw [← q1]; exact hy2))
    · exact absurd c5 (by omega)
  · intro hno1
    refine az_if_neN (tgt := 13) dX12_named_5 (fun c5 => ?_) (fun c5 => ?_)
    · exact absurd c5 (by omega)
    · refine az_aload_n dX12_named_8 ?_
      refine az_iconst (v := nI 2) dX12_named_9 ?_
      refine az_cV0 (st := []) dX12_named_10 ml_X12_165 e0 (m_fails (d := d - 1) (f9 := 2) (by decide) (by decide) H ?_)
      intro h1 H1 mf1
      rw [← tok_0 hk (fun e c q => (H.le e c q).1) hno1] at H1
      obtain ⟨r1, q1⟩ : ∃ x : rd_R, x = rd_b r (rd_tw b n t) := ⟨_, rfl⟩
      rw [← q1] at H1
      obtain ⟨a1, z1, ki1, nu1, wa1, e1, w1, hki1, hnu1⟩ := H1.o
      refine az_aload_n dX12_named_13 ?_
      refine az_iload_n dX12_named_14 ?_
      refine az_iload_n dX12_named_15 ?_
      refine az_cV0 (st := []) dX12_named_16 ml_X12_206 e1 (m_takes (d := d - 1) (lo := lo) (hi := hi) (by omega) hl hh H1 ?_)
      intro h2 y2 H2 mf2 hy2
      exact az_iret dX12_named_19 (hQ h2 y2 (by rw [← q1]; exact H2) (mf1.tr mf2 (by decide)) (by rw [← q1]; exact hy2))
