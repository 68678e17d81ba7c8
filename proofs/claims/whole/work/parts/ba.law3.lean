/-! The model's reader: a law's text, its levels -/
section
variable {b : Nat → Nat} {n : Nat} {f : rd_P} {cd : Nat → Nat}
theorem lp_no {k : Nat} {r : rd_R} (h : ∀ e c, r = .inl (e, c) → cd e = 0) : rd_b r (rd_lp b n f cd k) = r := by
  match r, h with
  | .inr x, _ => rfl
  | .inl (e, c), h =>
    cases k with
    | zero => rfl
    | succ k => show (if cd e = 0 then (.inl (e, c) : rd_R) else _) = _; rw [if_pos (h e c rfl)]
theorem lp_yes {k x e : Nat} {c : List Nat} (hx : cd e = x) (h0 : x ≠ 0) : rd_lp b n f cd (k + 1) e c = rd_b (rd_b (f (rd_en b n e) c) (rd_enc x)) (rd_lp b n f cd k) := by
  show (if cd e = 0 then (.inl (e, c) : rd_R) else rd_b (f (rd_en b n e) c) (fun e2 c2 => rd_lp b n f cd k e2 (c2 ++ [cd e]))) = _
  rw [if_neg (by omega), rb_as, hx]
  rfl
theorem lp_next {x e : Nat} {c : List Nat} (hG : rd_G n f) (he : e ≤ n) (hk : rd_kd b n e ≠ 0) : ∀ e2 c2, rd_b (f (rd_en b n e) c) (rd_enc x) = .inl (e2, c2) → e < e2 ∧ e2 ≤ n := by
  intro e2 c2 h
  have hen := rd_en_lt he hk
  cases hr : f (rd_en b n e) c with
  | inr y => rw [hr] at h; cases h
  | inl y =>
    obtain ⟨e1, c1⟩ := y
    have h1 := hG _ _ _ _ hen.2.2 hr
    rw [hr, rd_b_l, rd_enc] at h
    cases h
    omega
theorem lp_m {x e : Nat} {c : List Nat} (hG : rd_G n f) (he : e ≤ n) (hk : rd_kd b n e ≠ 0) : mr_m n (rd_b (f (rd_en b n e) c) (rd_enc x)) < mr_m n (.inl (e, c)) := by
  have h := lp_next (c := c) (x := x) hG he hk
  show _ < n + 1 - e
  match rd_b (f (rd_en b n e) c) (rd_enc x), h with
  | .inr y, _ => show 0 < n + 1 - e; omega
  | .inl (e2, c2), h => have := h e2 c2 rfl; show n + 1 - e2 < n + 1 - e; omega
end

set_option maxHeartbeats 4000000 in
set_option maxRecDepth 100000 in
theorem m_readTerm {D dp lvl : Nat} {L : rd_P × rd_P × rd_P} {sc : Nat → Value} {b : Nat → Nat} {n : Nat} (hD : 9 ≤ D) (hL : rd_GL n L) (cA : mr_CM mX12_readAtom (rd_at b n lvl L) D dp sc b n) : mr_CM mX12_readTerm (rd_tm b n lvl L) (D + 1) dp sc b n := by
  intro d fr k0 r hp Q hd H hQ
  obtain ⟨a0, z0, ki0, nu0, wa0, e0, w0, hki0, hnu0⟩ := H.o
  have hG : rd_G n (rd_at b n lvl L) := rd_G_at hL
  have lp : ∀ (k : Nat) (k9 : Nat) (h' : az_Hp) (r9 : rd_R), mr_m n r9 = k → (mr_R h' sc b n fr k0 (r9)) → (∀ e c, r9 = .inl (e, c) → n ≤ e + k9) → (rd_b r9 (rd_lp b n (rd_at b n lvl L) (rd_ct b n) k9) = rd_b r (rd_tm b n lvl L)) → (mf hp h' [64, 68]) → az_W mX12_readTerm d 0 0 5 [(0, .ref 64), (1, .int (nI dp))] [] h' Q := by
    intro k
    induction k using Nat.strongRecOn with
    | _ k ih =>
    intro k9 h' r9 hk H9 hfu hR mf9
    obtain ⟨a9, z9, ki9, nu9, wa9, e9, w9, hki9, hnu9⟩ := H9.o
    refine az_aload_n dX12_readTerm_5 ?_
    refine az_bipush (v := nI 34) dX12_readTerm_6 ?_
    refine az_cV0 (st := []) dX12_readTerm_8 ml_X12_185 e9 (m_eats (d := d - 1) (k9 := 34) (by omega) (by decide) H9 ?_ ?_)
    · intro e3 c3 hr3 hm3 h3 H3 mf3
      obtain ⟨a2, z2, ki2, nu2, wa2, e2, w2, hki2, hnu2⟩ := H3.o
      have hle := H9.le e3 c3 hr3
      have hkd : rd_kd b n e3 ≠ 0 := mrK_kd hm3 (by decide)
      have hen := rd_en_lt hle.1 hkd
      have hcd : rd_ct b n e3 = 3002 := if_pos (ks_42.mp hm3)
      refine az_if_eqN (tgt := 29) dX12_readTerm_11 (fun c11 => ?_) (fun c11 => ?_)
      · exact absurd c11 (by omega)
      · refine az_aload_n dX12_readTerm_14 ?_
        refine az_iload_n dX12_readTerm_15 ?_
        refine az_cV0 (st := []) dX12_readTerm_16 ml_X12_194 e2 (cA (d := d - 1) (by omega) H3 ?_)
        intro h4 H4 mf4
        obtain ⟨r4, q4⟩ : ∃ x : rd_R, x = rd_b (.inl (rd_en b n e3, c3)) (rd_at b n lvl L) := ⟨_, rfl⟩
        rw [← q4] at H4
        obtain ⟨a4, z4, ki4, nu4, wa4, e4, w4, hki4, hnu4⟩ := H4.o
        refine az_aload_n dX12_readTerm_19 ?_
        refine az_sipush (v := nI 3002) dX12_readTerm_20 ?_
        refine az_cV0 (st := []) dX12_readTerm_23 ml_X12_173 e4 (m_codes (d := d - 1) (x := 3002) (by subst q4; exact cp_en hG hle.1 hkd hle.2) H4 ?_)
        intro h5 H5 mf5
        obtain ⟨a5, z5, ki5, nu5, wa5, e5, w5, hki5, hnu5⟩ := H5.o
        refine az_goto (tgt := 5) dX12_readTerm_26 ?_
        obtain ⟨k8, rfl⟩ : ∃ k8, k9 = k8 + 1 := ⟨k9 - 1, by have := hfu e3 c3 hr3; omega⟩
        subst q4
        exact ih _ (by rw [← hk, hr3]; exact lp_m hG hle.1 hkd) k8 h5 _ rfl H5 (fun e c q => (by have h1 := hfu e3 c3 hr3; have h2 := lp_next hG hle.1 hkd e c q; omega)) (by rw [← hR, hr3]; exact (lp_yes (b := b) (n := n) (f := rd_at b n lvl L) (k := k8) (c := c3) hcd (by decide)).symm) (((((mf9.wk (L' := [64, 68])).tr mf3 (by decide)).tr mf4 (by decide)).tr mf5 (by decide)))
    · intro hno
      refine az_if_eqN (tgt := 29) dX12_readTerm_11 (fun c11 => ?_) (fun c11 => ?_)
      · exact az_vret dX12_readTerm_29 (hQ h' (by rw [← hR, lp_no (cd := rd_ct b n) (fun e c q => if_neg (fun q2 => hno e c q (ks_42.mpr q2)))]; exact H9) mf9)
      · exact absurd c11 (by omega)
  refine az_M.of rfl (Nat.le_of_ble_eq_true rfl) ?_
  show az_W _ _ _ _ 0 [(0, .ref 64), (1, .int (nI dp))] [] _ _
  refine az_aload_n dX12_readTerm_0 ?_
  refine az_iload_n dX12_readTerm_1 ?_
  refine az_cV0 (st := []) dX12_readTerm_2 ml_X12_194 e0 (cA (d := d - 1) (by omega) H ?_)
  intro h1 H1 mf1
  obtain ⟨r1, q1⟩ : ∃ x : rd_R, x = rd_b r (rd_at b n lvl L) := ⟨_, rfl⟩
  rw [← q1] at H1
  obtain ⟨a1, z1, ki1, nu1, wa1, e1, w1, hki1, hnu1⟩ := H1.o
  exact lp _ n h1 r1 rfl H1 (fun e c q => Nat.le_add_left n e) (by rw [q1, rb_as]; rfl) mf1

set_option maxHeartbeats 4000000 in
set_option maxRecDepth 100000 in
theorem m_readBoth {D dp lvl : Nat} {L : rd_P × rd_P × rd_P} {sc : Nat → Value} {b : Nat → Nat} {n : Nat} (hD : 9 ≤ D) (hL : rd_GL n L) (cA : mr_CM mX12_readUnit (rd_un b n lvl L) D dp sc b n) : mr_CM mX12_readBoth (rd_bo b n lvl L) (D + 1) dp sc b n := by
  intro d fr k0 r hp Q hd H hQ
  obtain ⟨a0, z0, ki0, nu0, wa0, e0, w0, hki0, hnu0⟩ := H.o
  have hG : rd_G n (rd_un b n lvl L) := rd_G_un hL
  have lp : ∀ (k : Nat) (k9 : Nat) (h' : az_Hp) (r9 : rd_R), mr_m n r9 = k → (mr_R h' sc b n fr k0 (r9)) → (∀ e c, r9 = .inl (e, c) → n ≤ e + k9) → (rd_b r9 (rd_lp b n (rd_un b n lvl L) (rd_cn b n) k9) = rd_b r (rd_bo b n lvl L)) → (mf hp h' [64, 68]) → az_W mX12_readBoth d 0 0 5 [(0, .ref 64), (1, .int (nI dp))] [] h' Q := by
    intro k
    induction k using Nat.strongRecOn with
    | _ k ih =>
    intro k9 h' r9 hk H9 hfu hR mf9
    obtain ⟨a9, z9, ki9, nu9, wa9, e9, w9, hki9, hnu9⟩ := H9.o
    refine az_aload_n dX12_readBoth_5 ?_
    refine az_bipush (v := nI 16) dX12_readBoth_6 ?_
    refine az_cV0 (st := []) dX12_readBoth_8 ml_X12_185 e9 (m_eats (d := d - 1) (k9 := 16) (by omega) (by decide) H9 ?_ ?_)
    · intro e3 c3 hr3 hm3 h3 H3 mf3
      obtain ⟨a2, z2, ki2, nu2, wa2, e2, w2, hki2, hnu2⟩ := H3.o
      have hle := H9.le e3 c3 hr3
      have hkd : rd_kd b n e3 ≠ 0 := mrK_kd hm3 (by decide)
      have hen := rd_en_lt hle.1 hkd
      have hcd : rd_cn b n e3 = 3007 := if_pos ((kw_and (e := e3) hle.1).mp hm3)
      refine az_if_eqN (tgt := 29) dX12_readBoth_11 (fun c11 => ?_) (fun c11 => ?_)
      · exact absurd c11 (by omega)
      · refine az_aload_n dX12_readBoth_14 ?_
        refine az_iload_n dX12_readBoth_15 ?_
        refine az_cV0 (st := []) dX12_readBoth_16 ml_X12_200 e2 (cA (d := d - 1) (by omega) H3 ?_)
        intro h4 H4 mf4
        obtain ⟨r4, q4⟩ : ∃ x : rd_R, x = rd_b (.inl (rd_en b n e3, c3)) (rd_un b n lvl L) := ⟨_, rfl⟩
        rw [← q4] at H4
        obtain ⟨a4, z4, ki4, nu4, wa4, e4, w4, hki4, hnu4⟩ := H4.o
        refine az_aload_n dX12_readBoth_19 ?_
        refine az_sipush (v := nI 3007) dX12_readBoth_20 ?_
        refine az_cV0 (st := []) dX12_readBoth_23 ml_X12_173 e4 (m_codes (d := d - 1) (x := 3007) (by subst q4; exact cp_en hG hle.1 hkd hle.2) H4 ?_)
        intro h5 H5 mf5
        obtain ⟨a5, z5, ki5, nu5, wa5, e5, w5, hki5, hnu5⟩ := H5.o
        refine az_goto (tgt := 5) dX12_readBoth_26 ?_
        obtain ⟨k8, rfl⟩ : ∃ k8, k9 = k8 + 1 := ⟨k9 - 1, by have := hfu e3 c3 hr3; omega⟩
        subst q4
        exact ih _ (by rw [← hk, hr3]; exact lp_m hG hle.1 hkd) k8 h5 _ rfl H5 (fun e c q => (by have h1 := hfu e3 c3 hr3; have h2 := lp_next hG hle.1 hkd e c q; omega)) (by rw [← hR, hr3]; exact (lp_yes (b := b) (n := n) (f := rd_un b n lvl L) (k := k8) (c := c3) hcd (by decide)).symm) (((((mf9.wk (L' := [64, 68])).tr mf3 (by decide)).tr mf4 (by decide)).tr mf5 (by decide)))
    · intro hno
      refine az_if_eqN (tgt := 29) dX12_readBoth_11 (fun c11 => ?_) (fun c11 => ?_)
      · exact az_vret dX12_readBoth_29 (hQ h' (by rw [← hR, lp_no (cd := rd_cn b n) (fun e c q => if_neg (fun q2 => hno e c q ((kw_and (e := e) (H9.le e c q).1).mpr q2)))]; exact H9) mf9)
      · exact absurd c11 (by omega)
  refine az_M.of rfl (Nat.le_of_ble_eq_true rfl) ?_
  show az_W _ _ _ _ 0 [(0, .ref 64), (1, .int (nI dp))] [] _ _
  refine az_aload_n dX12_readBoth_0 ?_
  refine az_iload_n dX12_readBoth_1 ?_
  refine az_cV0 (st := []) dX12_readBoth_2 ml_X12_200 e0 (cA (d := d - 1) (by omega) H ?_)
  intro h1 H1 mf1
  obtain ⟨r1, q1⟩ : ∃ x : rd_R, x = rd_b r (rd_un b n lvl L) := ⟨_, rfl⟩
  rw [← q1] at H1
  obtain ⟨a1, z1, ki1, nu1, wa1, e1, w1, hki1, hnu1⟩ := H1.o
  exact lp _ n h1 r1 rfl H1 (fun e c q => Nat.le_add_left n e) (by rw [q1, rb_as]; rfl) mf1

set_option maxHeartbeats 4000000 in
set_option maxRecDepth 100000 in
theorem m_readTruth {D dp lvl : Nat} {L : rd_P × rd_P × rd_P} {sc : Nat → Value} {b : Nat → Nat} {n : Nat} (hD : 9 ≤ D) (hL : rd_GL n L) (cA : mr_CM mX12_readBoth (rd_bo b n lvl L) D dp sc b n) : mr_CM mX12_readTruth (rd_tr b n lvl L) (D + 1) dp sc b n := by
  intro d fr k0 r hp Q hd H hQ
  obtain ⟨a0, z0, ki0, nu0, wa0, e0, w0, hki0, hnu0⟩ := H.o
  have hG : rd_G n (rd_bo b n lvl L) := rd_G_bo hL
  have lp : ∀ (k : Nat) (k9 : Nat) (h' : az_Hp) (r9 : rd_R), mr_m n r9 = k → (mr_R h' sc b n fr k0 (r9)) → (∀ e c, r9 = .inl (e, c) → n ≤ e + k9) → (rd_b r9 (rd_lp b n (rd_bo b n lvl L) (rd_co b n) k9) = rd_b r (rd_tr b n lvl L)) → (mf hp h' [64, 68]) → az_W mX12_readTruth d 0 0 5 [(0, .ref 64), (1, .int (nI dp))] [] h' Q := by
    intro k
    induction k using Nat.strongRecOn with
    | _ k ih =>
    intro k9 h' r9 hk H9 hfu hR mf9
    obtain ⟨a9, z9, ki9, nu9, wa9, e9, w9, hki9, hnu9⟩ := H9.o
    refine az_aload_n dX12_readTruth_5 ?_
    refine az_bipush (v := nI 17) dX12_readTruth_6 ?_
    refine az_cV0 (st := []) dX12_readTruth_8 ml_X12_185 e9 (m_eats (d := d - 1) (k9 := 17) (by omega) (by decide) H9 ?_ ?_)
    · intro e3 c3 hr3 hm3 h3 H3 mf3
      obtain ⟨a2, z2, ki2, nu2, wa2, e2, w2, hki2, hnu2⟩ := H3.o
      have hle := H9.le e3 c3 hr3
      have hkd : rd_kd b n e3 ≠ 0 := mrK_kd hm3 (by decide)
      have hen := rd_en_lt hle.1 hkd
      have hcd : rd_co b n e3 = 3008 := if_pos ((kw_or (e := e3) hle.1).mp hm3)
      refine az_if_eqN (tgt := 29) dX12_readTruth_11 (fun c11 => ?_) (fun c11 => ?_)
      · exact absurd c11 (by omega)
      · refine az_aload_n dX12_readTruth_14 ?_
        refine az_iload_n dX12_readTruth_15 ?_
        refine az_cV0 (st := []) dX12_readTruth_16 ml_X12_203 e2 (cA (d := d - 1) (by omega) H3 ?_)
        intro h4 H4 mf4
        obtain ⟨r4, q4⟩ : ∃ x : rd_R, x = rd_b (.inl (rd_en b n e3, c3)) (rd_bo b n lvl L) := ⟨_, rfl⟩
        rw [← q4] at H4
        obtain ⟨a4, z4, ki4, nu4, wa4, e4, w4, hki4, hnu4⟩ := H4.o
        refine az_aload_n dX12_readTruth_19 ?_
        refine az_sipush (v := nI 3008) dX12_readTruth_20 ?_
        refine az_cV0 (st := []) dX12_readTruth_23 ml_X12_173 e4 (m_codes (d := d - 1) (x := 3008) (by subst q4; exact cp_en hG hle.1 hkd hle.2) H4 ?_)
        intro h5 H5 mf5
        obtain ⟨a5, z5, ki5, nu5, wa5, e5, w5, hki5, hnu5⟩ := H5.o
        refine az_goto (tgt := 5) dX12_readTruth_26 ?_
        obtain ⟨k8, rfl⟩ : ∃ k8, k9 = k8 + 1 := ⟨k9 - 1, by have := hfu e3 c3 hr3; omega⟩
        subst q4
        exact ih _ (by rw [← hk, hr3]; exact lp_m hG hle.1 hkd) k8 h5 _ rfl H5 (fun e c q => (by have h1 := hfu e3 c3 hr3; have h2 := lp_next hG hle.1 hkd e c q; omega)) (by rw [← hR, hr3]; exact (lp_yes (b := b) (n := n) (f := rd_bo b n lvl L) (k := k8) (c := c3) hcd (by decide)).symm) (((((mf9.wk (L' := [64, 68])).tr mf3 (by decide)).tr mf4 (by decide)).tr mf5 (by decide)))
    · intro hno
      refine az_if_eqN (tgt := 29) dX12_readTruth_11 (fun c11 => ?_) (fun c11 => ?_)
      · exact az_vret dX12_readTruth_29 (hQ h' (by rw [← hR, lp_no (cd := rd_co b n) (fun e c q => if_neg (fun q2 => hno e c q ((kw_or (e := e) (H9.le e c q).1).mpr q2)))]; exact H9) mf9)
      · exact absurd c11 (by omega)
  refine az_M.of rfl (Nat.le_of_ble_eq_true rfl) ?_
  show az_W _ _ _ _ 0 [(0, .ref 64), (1, .int (nI dp))] [] _ _
  refine az_aload_n dX12_readTruth_0 ?_
  refine az_iload_n dX12_readTruth_1 ?_
  refine az_cV0 (st := []) dX12_readTruth_2 ml_X12_203 e0 (cA (d := d - 1) (by omega) H ?_)
  intro h1 H1 mf1
  obtain ⟨r1, q1⟩ : ∃ x : rd_R, x = rd_b r (rd_bo b n lvl L) := ⟨_, rfl⟩
  rw [← q1] at H1
  obtain ⟨a1, z1, ki1, nu1, wa1, e1, w1, hki1, hnu1⟩ := H1.o
  exact lp _ n h1 r1 rfl H1 (fun e c q => Nat.le_add_left n e) (by rw [q1, rb_as]; rfl) mf1

theorem ca_32 {b : Nat → Nat} {n e k : Nat} (hk : k = 32) (h : mrK b n e k) : rd_ca b n e = 3000 := if_pos (ks_43.mp (by rw [← hk]; exact h))
theorem ca_33 {b : Nat → Nat} {n e k : Nat} (hk : k = 33) (h : mrK b n e k) : rd_ca b n e = 3001 := by
  have h2 := ks_45.mp (show mrK b n e 33 by rw [← hk]; exact h)
  unfold rd_ca
  rw [if_neg (fun q => by have := q.2; have := h2.2; omega), if_pos h2]
theorem ca_0 {b : Nat → Nat} {n e : Nat} (h1 : ¬ mrK b n e 32) (h2 : ¬ mrK b n e 33) : rd_ca b n e = 0 := by
  unfold rd_ca
  rw [if_neg (fun q => h1 (ks_43.mpr q)), if_neg (fun q => h2 (ks_45.mpr q))]
set_option maxHeartbeats 4000000 in
set_option maxRecDepth 100000 in
theorem m_readSum {D dp lvl : Nat} {L : rd_P × rd_P × rd_P} {sc : Nat → Value} {b : Nat → Nat} {n : Nat} (hD : 9 ≤ D) (hL : rd_GL n L) (cA : mr_CM mX12_readTerm (rd_tm b n lvl L) D dp sc b n) : mr_CM mX12_readSum (rd_sm b n lvl L) (D + 1) dp sc b n := by
  intro d fr k0 r hp Q hd H hQ
  obtain ⟨a0, z0, ki0, nu0, wa0, e0, w0, hki0, hnu0⟩ := H.o
  have hG : rd_G n (rd_tm b n lvl L) := rd_G_tm hL
  have lp : ∀ (k : Nat) (k9 : Nat) (h' : az_Hp) (r9 : rd_R), mr_m n r9 = k → (mr_R h' sc b n fr k0 (r9)) → (∀ e c, r9 = .inl (e, c) → n ≤ e + k9) → (rd_b r9 (rd_lp b n (rd_tm b n lvl L) (rd_ca b n) k9) = rd_b r (rd_sm b n lvl L)) → (mf hp h' [64, 68]) → az_W mX12_readSum d 0 0 5 [(0, .ref 64), (1, .int (nI dp))] [] h' Q := by
    intro k
    induction k using Nat.strongRecOn with
    | _ k ih =>
    intro k9 h' r9 hk H9 hfu hR mf9
    obtain ⟨a9, z9, ki9, nu9, wa9, e9, w9, hki9, hnu9⟩ := H9.o
    refine az_aload_n dX12_readSum_5 ?_
    refine az_bipush (v := nI 32) dX12_readSum_6 ?_
    refine az_cV0 (st := []) dX12_readSum_8 ml_X12_159 e9 (m_is (d := d - 1) (k9 := 32) (by decide) H9 ?_ ?_)
    · intro e3 c3 hr3 hm3
      obtain ⟨kk3, hkk3⟩ : ∃ y, y = 32 := ⟨_, rfl⟩
      rw [← hkk3] at hm3
      have hle := H9.le e3 c3 hr3
      have hkd : rd_kd b n e3 ≠ 0 := mrK_kd hm3 (by omega)
      have hen := rd_en_lt hle.1 hkd
      have H3 := H9
      rw [hr3] at H3
      refine az_if_neN (tgt := 23) dX12_readSum_11 (fun c11 => ?_) (fun c11 => ?_)
      · refine az_aload_n dX12_readSum_23 ?_
        refine az_getf (v := .int ki9) dX12_readSum_24 fl_X12_135 e9 ?_
        refine az_bipush (v := nI 32) dX12_readSum_27 ?_
        refine az_icmp_ne (tgt := 38) dX12_readSum_29 (fun c29 => ?_) (fun c29 => ?_)
        · refine az_sipush (v := nI 3001) dX12_readSum_38 ?_
          refine az_istore_n (ls' := [(0, .ref 64), (1, .int (nI dp)), (2, .int (nI 3001))]) dX12_readSum_41 ?_
          refine az_aload_n dX12_readSum_42 ?_
          refine az_cV0 (st := []) dX12_readSum_43 ml_X12_162 e9 (m_nextR (d := d - 1) (e := e3) (c := c3) (c' := c3) (sc := sc) (b := b) (n := n) (fr := fr) (k0 := k0) (by omega) H9.1 hle.1 (by omega) H3.2.2.2.1 H3.2.2.2.2 ?_)
          intro h4 H4 mf4
          obtain ⟨a4, z4, ki4, nu4, wa4, e4, w4, hki4, hnu4⟩ := H4.o
          refine az_aload_n dX12_readSum_46 ?_
          refine az_iload_n dX12_readSum_47 ?_
          refine az_cV0 (st := []) dX12_readSum_48 ml_X12_197 e4 (cA (d := d - 1) (by omega) H4 ?_)
          intro h5 H5 mf5
          obtain ⟨r5, q5⟩ : ∃ x : rd_R, x = rd_b (.inl (rd_en b n e3, c3)) (rd_tm b n lvl L) := ⟨_, rfl⟩
          rw [← q5] at H5
          obtain ⟨a5, z5, ki5, nu5, wa5, e5, w5, hki5, hnu5⟩ := H5.o
          refine az_aload_n dX12_readSum_51 ?_
          refine az_iload_n dX12_readSum_52 ?_
          refine az_cV0 (st := []) dX12_readSum_53 ml_X12_173 e5 (m_codes (d := d - 1) (by subst q5; exact cp_en hG hle.1 hkd hle.2) H5 ?_)
          intro h6 H6 mf6
          refine az_goto (tgt := 5) dX12_readSum_56 ?_
          refine az_W.keep (ls' := [(0, .ref 64), (1, .int (nI dp))]) [0, 1] rfl ?_
          first | exact absurd (hki9 e3 c3 kk3 hr3 hm3) (by intro q; rw [hkk3] at q; first | exact c29 q | exact absurd (c29.symm.trans q) (by decide)) | (have hcd : rd_ca b n e3 = 3000 := ca_32 (by omega) hm3; obtain ⟨k8, rfl⟩ : ∃ k8, k9 = k8 + 1 := ⟨k9 - 1, by have := hfu e3 c3 hr3; omega⟩; subst q5; exact ih _ (by rw [← hk, hr3]; exact lp_m hG hle.1 hkd) k8 h6 _ rfl H6 (fun e c q => (by have h1 := hfu e3 c3 hr3; have h2 := lp_next hG hle.1 hkd e c q; omega)) (by rw [← hR, hr3]; exact (lp_yes (b := b) (n := n) (f := rd_tm b n lvl L) (k := k8) (c := c3) hcd (by decide)).symm) (((((mf9.wk (L' := [64, 68])).tr mf4 (by decide)).tr mf5 (by decide)).tr mf6 (by decide)))) | (have hcd : rd_ca b n e3 = 3001 := ca_33 (by omega) hm3; obtain ⟨k8, rfl⟩ : ∃ k8, k9 = k8 + 1 := ⟨k9 - 1, by have := hfu e3 c3 hr3; omega⟩; subst q5; exact ih _ (by rw [← hk, hr3]; exact lp_m hG hle.1 hkd) k8 h6 _ rfl H6 (fun e c q => (by have h1 := hfu e3 c3 hr3; have h2 := lp_next hG hle.1 hkd e c q; omega)) (by rw [← hR, hr3]; exact (lp_yes (b := b) (n := n) (f := rd_tm b n lvl L) (k := k8) (c := c3) hcd (by decide)).symm) (((((mf9.wk (L' := [64, 68])).tr mf4 (by decide)).tr mf5 (by decide)).tr mf6 (by decide))))
        · refine az_sipush (v := nI 3000) dX12_readSum_32 ?_
          refine az_goto (tgt := 41) dX12_readSum_35 ?_
          refine az_istore_n (ls' := [(0, .ref 64), (1, .int (nI dp)), (2, .int (nI 3000))]) dX12_readSum_41 ?_
          refine az_aload_n dX12_readSum_42 ?_
          refine az_cV0 (st := []) dX12_readSum_43 ml_X12_162 e9 (m_nextR (d := d - 1) (e := e3) (c := c3) (c' := c3) (sc := sc) (b := b) (n := n) (fr := fr) (k0 := k0) (by omega) H9.1 hle.1 (by omega) H3.2.2.2.1 H3.2.2.2.2 ?_)
          intro h4 H4 mf4
          obtain ⟨a4, z4, ki4, nu4, wa4, e4, w4, hki4, hnu4⟩ := H4.o
          refine az_aload_n dX12_readSum_46 ?_
          refine az_iload_n dX12_readSum_47 ?_
          refine az_cV0 (st := []) dX12_readSum_48 ml_X12_197 e4 (cA (d := d - 1) (by omega) H4 ?_)
          intro h5 H5 mf5
          obtain ⟨r5, q5⟩ : ∃ x : rd_R, x = rd_b (.inl (rd_en b n e3, c3)) (rd_tm b n lvl L) := ⟨_, rfl⟩
          rw [← q5] at H5
          obtain ⟨a5, z5, ki5, nu5, wa5, e5, w5, hki5, hnu5⟩ := H5.o
          refine az_aload_n dX12_readSum_51 ?_
          refine az_iload_n dX12_readSum_52 ?_
          refine az_cV0 (st := []) dX12_readSum_53 ml_X12_173 e5 (m_codes (d := d - 1) (by subst q5; exact cp_en hG hle.1 hkd hle.2) H5 ?_)
          intro h6 H6 mf6
          refine az_goto (tgt := 5) dX12_readSum_56 ?_
          refine az_W.keep (ls' := [(0, .ref 64), (1, .int (nI dp))]) [0, 1] rfl ?_
          first | exact absurd (hki9 e3 c3 kk3 hr3 hm3) (by intro q; rw [hkk3] at q; first | exact c29 q | exact absurd (c29.symm.trans q) (by decide)) | (have hcd : rd_ca b n e3 = 3000 := ca_32 (by omega) hm3; obtain ⟨k8, rfl⟩ : ∃ k8, k9 = k8 + 1 := ⟨k9 - 1, by have := hfu e3 c3 hr3; omega⟩; subst q5; exact ih _ (by rw [← hk, hr3]; exact lp_m hG hle.1 hkd) k8 h6 _ rfl H6 (fun e c q => (by have h1 := hfu e3 c3 hr3; have h2 := lp_next hG hle.1 hkd e c q; omega)) (by rw [← hR, hr3]; exact (lp_yes (b := b) (n := n) (f := rd_tm b n lvl L) (k := k8) (c := c3) hcd (by decide)).symm) (((((mf9.wk (L' := [64, 68])).tr mf4 (by decide)).tr mf5 (by decide)).tr mf6 (by decide)))) | (have hcd : rd_ca b n e3 = 3001 := ca_33 (by omega) hm3; obtain ⟨k8, rfl⟩ : ∃ k8, k9 = k8 + 1 := ⟨k9 - 1, by have := hfu e3 c3 hr3; omega⟩; subst q5; exact ih _ (by rw [← hk, hr3]; exact lp_m hG hle.1 hkd) k8 h6 _ rfl H6 (fun e c q => (by have h1 := hfu e3 c3 hr3; have h2 := lp_next hG hle.1 hkd e c q; omega)) (by rw [← hR, hr3]; exact (lp_yes (b := b) (n := n) (f := rd_tm b n lvl L) (k := k8) (c := c3) hcd (by decide)).symm) (((((mf9.wk (L' := [64, 68])).tr mf4 (by decide)).tr mf5 (by decide)).tr mf6 (by decide))))
      · exact absurd c11 (by omega)
    · intro hno32
      refine az_if_neN (tgt := 23) dX12_readSum_11 (fun c11 => ?_) (fun c11 => ?_)
      · exact absurd c11 (by omega)
      · refine az_aload_n dX12_readSum_14 ?_
        refine az_bipush (v := nI 33) dX12_readSum_15 ?_
        refine az_cV0 (st := []) dX12_readSum_17 ml_X12_159 e9 (m_is (d := d - 1) (k9 := 33) (by decide) H9 ?_ ?_)
        · intro e3 c3 hr3 hm3
          obtain ⟨kk3, hkk3⟩ : ∃ y, y = 33 := ⟨_, rfl⟩
          rw [← hkk3] at hm3
          have hle := H9.le e3 c3 hr3
          have hkd : rd_kd b n e3 ≠ 0 := mrK_kd hm3 (by omega)
          have hen := rd_en_lt hle.1 hkd
          have H3 := H9
          rw [hr3] at H3
          refine az_if_eqN (tgt := 59) dX12_readSum_20 (fun c20 => ?_) (fun c20 => ?_)
          · exact absurd c20 (by omega)
          · refine az_aload_n dX12_readSum_23 ?_
            refine az_getf (v := .int ki9) dX12_readSum_24 fl_X12_135 e9 ?_
            refine az_bipush (v := nI 32) dX12_readSum_27 ?_
            refine az_icmp_ne (tgt := 38) dX12_readSum_29 (fun c29 => ?_) (fun c29 => ?_)
            · refine az_sipush (v := nI 3001) dX12_readSum_38 ?_
              refine az_istore_n (ls' := [(0, .ref 64), (1, .int (nI dp)), (2, .int (nI 3001))]) dX12_readSum_41 ?_
              refine az_aload_n dX12_readSum_42 ?_
              refine az_cV0 (st := []) dX12_readSum_43 ml_X12_162 e9 (m_nextR (d := d - 1) (e := e3) (c := c3) (c' := c3) (sc := sc) (b := b) (n := n) (fr := fr) (k0 := k0) (by omega) H9.1 hle.1 (by omega) H3.2.2.2.1 H3.2.2.2.2 ?_)
              intro h4 H4 mf4
              obtain ⟨a4, z4, ki4, nu4, wa4, e4, w4, hki4, hnu4⟩ := H4.o
              refine az_aload_n dX12_readSum_46 ?_
              refine az_iload_n dX12_readSum_47 ?_
              refine az_cV0 (st := []) dX12_readSum_48 ml_X12_197 e4 (cA (d := d - 1) (by omega) H4 ?_)
              intro h5 H5 mf5
              obtain ⟨r5, q5⟩ : ∃ x : rd_R, x = rd_b (.inl (rd_en b n e3, c3)) (rd_tm b n lvl L) := ⟨_, rfl⟩
              rw [← q5] at H5
              obtain ⟨a5, z5, ki5, nu5, wa5, e5, w5, hki5, hnu5⟩ := H5.o
              refine az_aload_n dX12_readSum_51 ?_
              refine az_iload_n dX12_readSum_52 ?_
              refine az_cV0 (st := []) dX12_readSum_53 ml_X12_173 e5 (m_codes (d := d - 1) (by subst q5; exact cp_en hG hle.1 hkd hle.2) H5 ?_)
              intro h6 H6 mf6
              refine az_goto (tgt := 5) dX12_readSum_56 ?_
              refine az_W.keep (ls' := [(0, .ref 64), (1, .int (nI dp))]) [0, 1] rfl ?_
              first | exact absurd (hki9 e3 c3 kk3 hr3 hm3) (by intro q; rw [hkk3] at q; first | exact c29 q | exact absurd (c29.symm.trans q) (by decide)) | (have hcd : rd_ca b n e3 = 3000 := ca_32 (by omega) hm3; obtain ⟨k8, rfl⟩ : ∃ k8, k9 = k8 + 1 := ⟨k9 - 1, by have := hfu e3 c3 hr3; omega⟩; subst q5; exact ih _ (by rw [← hk, hr3]; exact lp_m hG hle.1 hkd) k8 h6 _ rfl H6 (fun e c q => (by have h1 := hfu e3 c3 hr3; have h2 := lp_next hG hle.1 hkd e c q; omega)) (by rw [← hR, hr3]; exact (lp_yes (b := b) (n := n) (f := rd_tm b n lvl L) (k := k8) (c := c3) hcd (by decide)).symm) (((((mf9.wk (L' := [64, 68])).tr mf4 (by decide)).tr mf5 (by decide)).tr mf6 (by decide)))) | (have hcd : rd_ca b n e3 = 3001 := ca_33 (by omega) hm3; obtain ⟨k8, rfl⟩ : ∃ k8, k9 = k8 + 1 := ⟨k9 - 1, by have := hfu e3 c3 hr3; omega⟩; subst q5; exact ih _ (by rw [← hk, hr3]; exact lp_m hG hle.1 hkd) k8 h6 _ rfl H6 (fun e c q => (by have h1 := hfu e3 c3 hr3; have h2 := lp_next hG hle.1 hkd e c q; omega)) (by rw [← hR, hr3]; exact (lp_yes (b := b) (n := n) (f := rd_tm b n lvl L) (k := k8) (c := c3) hcd (by decide)).symm) (((((mf9.wk (L' := [64, 68])).tr mf4 (by decide)).tr mf5 (by decide)).tr mf6 (by decide))))
            · refine az_sipush (v := nI 3000) dX12_readSum_32 ?_
              refine az_goto (tgt := 41) dX12_readSum_35 ?_
              refine az_istore_n (ls' := [(0, .ref 64), (1, .int (nI dp)), (2, .int (nI 3000))]) dX12_readSum_41 ?_
              refine az_aload_n dX12_readSum_42 ?_
              refine az_cV0 (st := []) dX12_readSum_43 ml_X12_162 e9 (m_nextR (d := d - 1) (e := e3) (c := c3) (c' := c3) (sc := sc) (b := b) (n := n) (fr := fr) (k0 := k0) (by omega) H9.1 hle.1 (by omega) H3.2.2.2.1 H3.2.2.2.2 ?_)
              intro h4 H4 mf4
              obtain ⟨a4, z4, ki4, nu4, wa4, e4, w4, hki4, hnu4⟩ := H4.o
              refine az_aload_n dX12_readSum_46 ?_
              refine az_iload_n dX12_readSum_47 ?_
              refine az_cV0 (st := []) dX12_readSum_48 ml_X12_197 e4 (cA (d := d - 1) (by omega) H4 ?_)
              intro h5 H5 mf5
              obtain ⟨r5, q5⟩ : ∃ x : rd_R, x = rd_b (.inl (rd_en b n e3, c3)) (rd_tm b n lvl L) := ⟨_, rfl⟩
              rw [← q5] at H5
              obtain ⟨a5, z5, ki5, nu5, wa5, e5, w5, hki5, hnu5⟩ := H5.o
              refine az_aload_n dX12_readSum_51 ?_
              refine az_iload_n dX12_readSum_52 ?_
              refine az_cV0 (st := []) dX12_readSum_53 ml_X12_173 e5 (m_codes (d := d - 1) (by subst q5; exact cp_en hG hle.1 hkd hle.2) H5 ?_)
              intro h6 H6 mf6
              refine az_goto (tgt := 5) dX12_readSum_56 ?_
              refine az_W.keep (ls' := [(0, .ref 64), (1, .int (nI dp))]) [0, 1] rfl ?_
              first | exact absurd (hki9 e3 c3 kk3 hr3 hm3) (by intro q; rw [hkk3] at q; first | exact c29 q | exact absurd (c29.symm.trans q) (by decide)) | (have hcd : rd_ca b n e3 = 3000 := ca_32 (by omega) hm3; obtain ⟨k8, rfl⟩ : ∃ k8, k9 = k8 + 1 := ⟨k9 - 1, by have := hfu e3 c3 hr3; omega⟩; subst q5; exact ih _ (by rw [← hk, hr3]; exact lp_m hG hle.1 hkd) k8 h6 _ rfl H6 (fun e c q => (by have h1 := hfu e3 c3 hr3; have h2 := lp_next hG hle.1 hkd e c q; omega)) (by rw [← hR, hr3]; exact (lp_yes (b := b) (n := n) (f := rd_tm b n lvl L) (k := k8) (c := c3) hcd (by decide)).symm) (((((mf9.wk (L' := [64, 68])).tr mf4 (by decide)).tr mf5 (by decide)).tr mf6 (by decide)))) | (have hcd : rd_ca b n e3 = 3001 := ca_33 (by omega) hm3; obtain ⟨k8, rfl⟩ : ∃ k8, k9 = k8 + 1 := ⟨k9 - 1, by have := hfu e3 c3 hr3; omega⟩; subst q5; exact ih _ (by rw [← hk, hr3]; exact lp_m hG hle.1 hkd) k8 h6 _ rfl H6 (fun e c q => (by have h1 := hfu e3 c3 hr3; have h2 := lp_next hG hle.1 hkd e c q; omega)) (by rw [← hR, hr3]; exact (lp_yes (b := b) (n := n) (f := rd_tm b n lvl L) (k := k8) (c := c3) hcd (by decide)).symm) (((((mf9.wk (L' := [64, 68])).tr mf4 (by decide)).tr mf5 (by decide)).tr mf6 (by decide))))
        · intro hno33
          refine az_if_eqN (tgt := 59) dX12_readSum_20 (fun c20 => ?_) (fun c20 => ?_)
          · exact az_vret dX12_readSum_59 (hQ h' (by rw [← hR, lp_no (cd := rd_ca b n) (fun e c q => ca_0 (hno32 e c q) (hno33 e c q))]; exact H9) mf9)
          · exact absurd c20 (by omega)
  refine az_M.of rfl (Nat.le_of_ble_eq_true rfl) ?_
  show az_W _ _ _ _ 0 [(0, .ref 64), (1, .int (nI dp))] [] _ _
  refine az_aload_n dX12_readSum_0 ?_
  refine az_iload_n dX12_readSum_1 ?_
  refine az_cV0 (st := []) dX12_readSum_2 ml_X12_197 e0 (cA (d := d - 1) (by omega) H ?_)
  intro h1 H1 mf1
  obtain ⟨r1, q1⟩ : ∃ x : rd_R, x = rd_b r (rd_tm b n lvl L) := ⟨_, rfl⟩
  rw [← q1] at H1
  obtain ⟨a1, z1, ki1, nu1, wa1, e1, w1, hki1, hnu1⟩ := H1.o
  exact lp _ n h1 r1 rfl H1 (fun e c q => Nat.le_add_left n e) (by rw [q1, rb_as]; rfl) mf1

theorem cp_v {b : Nat → Nat} {n e : Nat} : (mrK b n e 39 → rd_cp b n e = 3003) ∧ (mrK b n e 40 → rd_cp b n e = 3004) ∧ (mrK b n e 41 → rd_cp b n e = 3005) ∧ (¬ mrK b n e 39 → ¬ mrK b n e 40 → ¬ mrK b n e 41 → rd_cp b n e = 0) := by
  unfold rd_cp
  refine ⟨fun h => if_pos (ks_61.mp h), fun h => ?_, fun h => ?_, fun h1 h2 h3 => ?_⟩
  · have h := ks_60.mp h
    rw [if_neg (fun q => by have := q.2; have := h.2; omega), if_pos h]
  · have h := ks_62.mp h
    rw [if_neg (fun q => by have := q.2; have := h.2; omega), if_neg (fun q => by have := q.2; have := h.2; omega), if_pos h]
  · rw [if_neg (fun q => h1 (ks_61.mpr q)), if_neg (fun q => h2 (ks_60.mpr q)), if_neg (fun q => h3 (ks_62.mpr q))]
theorem un_c {b : Nat → Nat} {n lvl : Nat} {L : rd_P × rd_P × rd_P} {r : rd_R} (hle : ∀ e c, r = .inl (e, c) → e ≤ n) (h1 : mr_no b n r 18) (h2 : mr_no b n r 37) : rd_b r (rd_un b n lvl L) = rd_b (rd_b r (rd_sm b n lvl L)) (fun e1 c1 => if rd_cp b n e1 = 0 then rd_fail b n 2 e1 else rd_b (rd_sm b n lvl L (rd_en b n e1) c1) (rd_enc (rd_cp b n e1))) := by
  match r, hle, h1, h2 with
  | .inr x, _, _, _ => rfl
  | .inl (e, c), hle, h1, h2 =>
    show rd_un b n lvl L e c = _
    unfold rd_un
    rw [if_neg (fun q => h1 e c rfl ((kw_not (hle e c rfl)).mpr q)), if_neg (fun q => h2 e c rfl (ks_91.mpr q))]
    rfl
theorem un_n {b : Nat → Nat} {n lvl e : Nat} {c : List Nat} {L : rd_P × rd_P × rd_P} (he : e ≤ n) (h : mrK b n e 18) : rd_un b n lvl L e c = rd_b (rd_b (rd_gd b n lvl e c) L.2.1) (rd_enc 3006) := if_pos ((kw_not he).mp h)
theorem un_p {b : Nat → Nat} {n lvl e : Nat} {c : List Nat} {L : rd_P × rd_P × rd_P} (he : e ≤ n) (h : mrK b n e 37) : rd_un b n lvl L e c = rd_b (rd_b (rd_gd b n lvl e c) L.2.2) (rd_ts b n 93) := by
  unfold rd_un
  rw [if_neg (fun q => absurd (mrK_1 h ((kw_not he).mpr q)) (by decide)), if_pos (ks_91.mp h)]
theorem un_f {b : Nat → Nat} {n lvl : Nat} {L : rd_P × rd_P × rd_P} {r : rd_R} (h : ∀ e c, r = .inl (e, c) → rd_cp b n e = 0) : rd_b r (fun e1 c1 => if rd_cp b n e1 = 0 then rd_fail b n 2 e1 else rd_b (rd_sm b n lvl L (rd_en b n e1) c1) (rd_enc (rd_cp b n e1))) = rd_b r (fun e _ => rd_fail b n 2 e) := by
  match r, h with
  | .inr x, _ => rfl
  | .inl (e, c), h => exact if_pos (h e c rfl)
theorem un_y {b : Nat → Nat} {n lvl e x : Nat} {c : List Nat} {L : rd_P × rd_P × rd_P} (hx : rd_cp b n e = x) (h0 : x ≠ 0) : rd_b (.inl (e, c)) (fun e1 c1 => if rd_cp b n e1 = 0 then rd_fail b n 2 e1 else rd_b (rd_sm b n lvl L (rd_en b n e1) c1) (rd_enc (rd_cp b n e1))) = rd_b (rd_b (.inl (rd_en b n e, c)) (rd_sm b n lvl L)) (rd_enc x) := by
  show (if rd_cp b n e = 0 then _ else _) = _
  rw [if_neg (by omega), hx]
  rfl
theorem rf_f {r : rd_R} {b : Nat → Nat} {n : Nat} (P P2 : rd_P) : rd_b (rd_b (rd_b r (fun e _ => rd_fail b n 2 e)) P) P2 = rd_b r (fun e _ => rd_fail b n 2 e) := by
  match r with
  | .inl (e, c) => rfl
  | .inr x => rfl
theorem cp_f {r : rd_R} {b : Nat → Nat} {n k0 : Nat} (P : rd_P) : mr_cp k0 (rd_b (rd_b r (fun e _ => rd_fail b n 2 e)) P) := by
  intro e c q
  match r, q with
  | .inl (e, c), q => cases q
  | .inr x, q => cases q
set_option maxHeartbeats 4000000 in
set_option maxRecDepth 100000 in
theorem m_readUnit {D dp lvl : Nat} {L : rd_P × rd_P × rd_P} {sc : Nat → Value} {b : Nat → Nat} {n : Nat} (hD : 9 ≤ D) (hdp : dp + lvl = 6) (hL : rd_GL n L) (cU : lvl ≠ 0 → mr_CM mX12_readUnit L.2.1 D (dp + 1) sc b n) (cT : lvl ≠ 0 → mr_CM mX12_readTruth L.2.2 D (dp + 1) sc b n) (cS : mr_CM mX12_readSum (rd_sm b n lvl L) (D + 4) dp sc b n) : mr_CM mX12_readUnit (rd_un b n lvl L) (D + 5) dp sc b n := by
  intro d fr k0 r hp Q hd H hQ
  obtain ⟨a0, z0, ki0, nu0, wa0, e0, w0, hki0, hnu0⟩ := H.o
  have hG : rd_G n (rd_sm b n lvl L) := rd_G_sm hL
  refine az_M.of rfl (Nat.le_of_ble_eq_true rfl) ?_
  show az_W _ _ _ _ 0 [(0, .ref 64), (1, .int (nI dp))] [] _ _
  refine az_aload_n dX12_readUnit_0 ?_
  refine az_bipush (v := nI 18) dX12_readUnit_1 ?_
  refine az_cV0 (st := []) dX12_readUnit_3 ml_X12_159 e0 (m_is (d := d - 1) (k9 := 18) (by decide) H ?_ ?_)
  · intro ee cc hr hm
    have H5 := H
    rw [hr] at H5
    have hle := H.le ee cc hr
    have hkd : rd_kd b n ee ≠ 0 := mrK_kd hm (by decide)
    refine az_if_eqN (tgt := 33) dX12_readUnit_6 (fun c6 => ?_) (fun c6 => ?_)
    · exact absurd c6 (by omega)
    · refine az_aload_n dX12_readUnit_9 ?_
      refine az_iload_n dX12_readUnit_10 ?_
      refine az_cV0 (st := []) dX12_readUnit_11 ml_X12_179 e0 (m_goesIn (d := d - 1) (lvl := lvl) (by omega) hdp H5 ?_ ?_)
      · intro hl h1 H1 mf1
        obtain ⟨a1, z1, ki1, nu1, wa1, e1, w1, hki1, hnu1⟩ := H1.o
        refine az_if_neN (tgt := 18) dX12_readUnit_14 (fun c14 => ?_) (fun c14 => ?_)
        · refine az_aload_n dX12_readUnit_18 ?_
          refine az_iload_n dX12_readUnit_19 ?_
          refine az_iconst (v := nI 1) dX12_readUnit_20 ?_
          refine az_iaddN dX12_readUnit_21 ?_
          refine az_cV0 (st := []) dX12_readUnit_22 ml_X12_200 e1 (cU hl (d := d - 1) (by omega) H1 ?_)
          intro h2 H2 mf2
          obtain ⟨r2, q2⟩ : ∃ x : rd_R, x = rd_b (.inl (rd_en b n ee, cc)) L.2.1 := ⟨_, rfl⟩
          rw [← q2] at H2
          obtain ⟨a2, z2, ki2, nu2, wa2, e2, w2, hki2, hnu2⟩ := H2.o
          refine az_aload_n dX12_readUnit_25 ?_
          refine az_sipush (v := nI 3006) dX12_readUnit_26 ?_
          refine az_cV0 (st := []) dX12_readUnit_29 ml_X12_173 e2 (m_codes (d := d - 1) (x := 3006) (by subst q2; exact cp_en hL.2.1 hle.1 hkd hle.2) H2 ?_)
          intro h3 H3 mf3
          exact az_vret dX12_readUnit_32 (hQ h3 (by rw [hr]; show mr_R h3 sc b n fr k0 (rd_un b n lvl L ee cc); rw [un_n hle.1 hm, gd_1 hl]; subst q2; exact H3) (((mf1.wk (L' := [64, 68])).tr mf2 (by decide)).tr mf3 (by decide)))
        · exact absurd c14 (by omega)
      · intro hl h1 H1 mf1
        obtain ⟨a1, z1, ki1, nu1, wa1, e1, w1, hki1, hnu1⟩ := H1.o
        refine az_if_neN (tgt := 18) dX12_readUnit_14 (fun c14 => ?_) (fun c14 => ?_)
        · exact absurd c14 (by omega)
        · exact az_vret dX12_readUnit_17 (hQ h1 (by rw [hr]; show mr_R h1 sc b n fr k0 (rd_un b n lvl L ee cc); rw [un_n hle.1 hm, gd_0 hl, rf_b, rf_b]; exact H1) mf1.wk)
  · intro hno18
    refine az_if_eqN (tgt := 33) dX12_readUnit_6 (fun c6 => ?_) (fun c6 => ?_)
    · refine az_aload_n dX12_readUnit_33 ?_
      refine az_bipush (v := nI 37) dX12_readUnit_34 ?_
      refine az_cV0 (st := []) dX12_readUnit_36 ml_X12_159 e0 (m_is (d := d - 1) (k9 := 37) (by decide) H ?_ ?_)
      · intro ee cc hr hm
        have H5 := H
        rw [hr] at H5
        have hle := H.le ee cc hr
        refine az_if_eqN (tgt := 73) dX12_readUnit_39 (fun c39 => ?_) (fun c39 => ?_)
        · exact absurd c39 (by omega)
        · refine az_aload_n dX12_readUnit_42 ?_
          refine az_iload_n dX12_readUnit_43 ?_
          refine az_cV0 (st := []) dX12_readUnit_44 ml_X12_179 e0 (m_goesIn (d := d - 1) (lvl := lvl) (by omega) hdp H5 ?_ ?_)
          · intro hl h1 H1 mf1
            obtain ⟨a1, z1, ki1, nu1, wa1, e1, w1, hki1, hnu1⟩ := H1.o
            refine az_if_neN (tgt := 51) dX12_readUnit_47 (fun c47 => ?_) (fun c47 => ?_)
            · refine az_aload_n dX12_readUnit_51 ?_
              refine az_iload_n dX12_readUnit_52 ?_
              refine az_iconst (v := nI 1) dX12_readUnit_53 ?_
              refine az_iaddN dX12_readUnit_54 ?_
              refine az_cV0 (st := []) dX12_readUnit_55 ml_X12_191 e1 (cT hl (d := d - 1) (by omega) H1 ?_)
              intro h2 H2 mf2
              obtain ⟨r2, q2⟩ : ∃ x : rd_R, x = rd_b (.inl (rd_en b n ee, cc)) L.2.2 := ⟨_, rfl⟩
              rw [← q2] at H2
              obtain ⟨a2, z2, ki2, nu2, wa2, e2, w2, hki2, hnu2⟩ := H2.o
              refine az_aload_n dX12_readUnit_58 ?_
              refine az_bipush (v := nI 38) dX12_readUnit_59 ?_
              refine az_cV0 (st := []) dX12_readUnit_61 ml_X12_185 e2 (m_eats (d := d - 1) (k9 := 38) (by omega) (by decide) H2 ?_ ?_)
              · intro ee3 cc3 hr3 hm3 h3 H3 mf3
                rw [← tok_1 (tkS (fun e => ks_93)) (fun e c q => (H2.le e c q).1) hr3 hm3] at H3
                obtain ⟨r3, q3⟩ : ∃ x : rd_R, x = rd_b r2 (rd_ts b n 93) := ⟨_, rfl⟩
                rw [← q3] at H3
                obtain ⟨a3, z3, ki3, nu3, wa3, e3, w3, hki3, hnu3⟩ := H3.o
                refine az_if_neN (tgt := 72) dX12_readUnit_64 (fun c64 => ?_) (fun c64 => ?_)
                · exact az_vret dX12_readUnit_72 (hQ h3 (by rw [hr]; show mr_R h3 sc b n fr k0 (rd_un b n lvl L ee cc); rw [un_p hle.1 hm, gd_1 hl]; subst q3 q2; exact H3) (((mf1.wk (L' := [64, 68])).tr mf2 (by decide)).tr mf3 (by decide)))
                · exact absurd c64 (by omega)
              · intro hno3
                refine az_if_neN (tgt := 72) dX12_readUnit_64 (fun c64 => ?_) (fun c64 => ?_)
                · exact absurd c64 (by omega)
                · refine az_aload_n dX12_readUnit_67 ?_
                  refine az_iconst (v := nI 2) dX12_readUnit_68 ?_
                  refine az_cV0 (st := []) dX12_readUnit_69 ml_X12_165 e2 (m_fails (d := d - 1) (f9 := 2) (by decide) (by decide) H2 ?_)
                  intro h3 H3 mf3
                  rw [← tok_0 (tkS (fun e => ks_93)) (fun e c q => (H2.le e c q).1) hno3] at H3
                  obtain ⟨r3, q3⟩ : ∃ x : rd_R, x = rd_b r2 (rd_ts b n 93) := ⟨_, rfl⟩
                  rw [← q3] at H3
                  obtain ⟨a3, z3, ki3, nu3, wa3, e3, w3, hki3, hnu3⟩ := H3.o
                  exact az_vret dX12_readUnit_72 (hQ h3 (by rw [hr]; show mr_R h3 sc b n fr k0 (rd_un b n lvl L ee cc); rw [un_p hle.1 hm, gd_1 hl]; subst q3 q2; exact H3) (((mf1.wk (L' := [64, 68])).tr mf2 (by decide)).tr mf3 (by decide)))
            · exact absurd c47 (by omega)
          · intro hl h1 H1 mf1
            obtain ⟨a1, z1, ki1, nu1, wa1, e1, w1, hki1, hnu1⟩ := H1.o
            refine az_if_neN (tgt := 51) dX12_readUnit_47 (fun c47 => ?_) (fun c47 => ?_)
            · exact absurd c47 (by omega)
            · exact az_vret dX12_readUnit_50 (hQ h1 (by rw [hr]; show mr_R h1 sc b n fr k0 (rd_un b n lvl L ee cc); rw [un_p hle.1 hm, gd_0 hl, rf_b, rf_b]; exact H1) mf1.wk)
      · intro hno37
        refine az_if_eqN (tgt := 73) dX12_readUnit_39 (fun c39 => ?_) (fun c39 => ?_)
        · refine az_aload_n dX12_readUnit_73 ?_
          refine az_iload_n dX12_readUnit_74 ?_
          refine az_cV0 (st := []) dX12_readUnit_75 ml_X12_182 e0 (cS (d := d - 1) (by omega) H ?_)
          intro h1 H1 mf1
          obtain ⟨r1, q1⟩ : ∃ x : rd_R, x = rd_b r (rd_sm b n lvl L) := ⟨_, rfl⟩
          rw [← q1] at H1
          obtain ⟨a1, z1, ki1, nu1, wa1, e1, w1, hki1, hnu1⟩ := H1.o
          refine az_aload_n dX12_readUnit_78 ?_
          refine az_bipush (v := nI 39) dX12_readUnit_79 ?_
          refine az_cV0 (st := []) dX12_readUnit_81 ml_X12_159 e1 (m_is (d := d - 1) (k9 := 39) (by decide) H1 ?_ ?_)
          · intro e5 c5 hr5 hm5
            have hkk5 : mrK b n e5 39 := hm5
            refine az_if_eqN (tgt := 93) dX12_readUnit_84 (fun c84 => ?_) (fun c84 => ?_)
            · exact absurd c84 (by omega)
            · refine az_sipush (v := nI 3003) dX12_readUnit_87 ?_
              refine az_goto (tgt := 111) dX12_readUnit_90 ?_
              refine az_istore_n (ls' := [(0, .ref 64), (1, .int (nI dp)), (2, .int (nI 3003))]) dX12_readUnit_111 ?_
              refine az_aload_n dX12_readUnit_112 ?_
              refine az_bipush (v := nI 39) dX12_readUnit_113 ?_
              refine az_cV0 (st := []) dX12_readUnit_115 ml_X12_159 e1 (m_is (d := d - 1) (k9 := 39) (by decide) H1 ?_ ?_)
              · intro e6 c6 hr6 hm6
                obtain ⟨kk6, hkk6⟩ : ∃ y, y = 39 := ⟨_, rfl⟩
                rw [← hkk6] at hm6
                have hle := H1.le e6 c6 hr6
                have hkd : rd_kd b n e6 ≠ 0 := mrK_kd hm6 (by omega)
                have hen := rd_en_lt hle.1 hkd
                have H6 := H1
                rw [hr6] at H6
                refine az_if_neN (tgt := 139) dX12_readUnit_118 (fun c118 => ?_) (fun c118 => ?_)
                · refine az_aload_n dX12_readUnit_139 ?_
                  refine az_cV0 (st := []) dX12_readUnit_140 ml_X12_162 e1 (m_nextR (d := d - 1) (e := e6) (c := c6) (c' := c6) (sc := sc) (b := b) (n := n) (fr := fr) (k0 := k0) (by omega) H1.1 hle.1 (by omega) H6.2.2.2.1 H6.2.2.2.2 ?_)
                  intro h4 H4 mf4
                  obtain ⟨r4, q4⟩ : ∃ x : rd_R, x = .inl (rd_en b n e6, c6) := ⟨_, rfl⟩
                  rw [← q4] at H4
                  obtain ⟨a4, z4, ki4, nu4, wa4, e4, w4, hki4, hnu4⟩ := H4.o
                  refine az_goto (tgt := 151) dX12_readUnit_143 ?_
                  refine az_aload_n dX12_readUnit_151 ?_
                  refine az_iload_n dX12_readUnit_152 ?_
                  refine az_cV0 (st := []) dX12_readUnit_153 ml_X12_182 e4 (cS (d := d - 1) (by omega) H4 ?_)
                  intro h7 H7 mf7
                  obtain ⟨r7, q7⟩ : ∃ x : rd_R, x = rd_b r4 (rd_sm b n lvl L) := ⟨_, rfl⟩
                  rw [← q7] at H7
                  obtain ⟨a7, z7, ki7, nu7, wa7, e7, w7, hki7, hnu7⟩ := H7.o
                  refine az_aload_n dX12_readUnit_156 ?_
                  refine az_iload_n dX12_readUnit_157 ?_
                  refine az_cV0 (st := []) dX12_readUnit_158 ml_X12_173 e7 (m_codes (d := d - 1) (by subst q7; subst q4; first | exact cp_en hG hle.1 hkd hle.2 | exact cp_f _) H7 ?_)
                  intro h8 H8 mf8
                  exact az_vret dX12_readUnit_161 (hQ h8 (by rw [un_c (fun e c q => (H.le e c q).1) hno18 hno37, ← q1]; subst q7; subst q4; first | (have _g := hm41; rw [rf_f] at H8; rw [un_f (fun e c q => cp_v.2.2.2 (hm39 e c q) (hm40 e c q) (hm41 e c q))]; exact H8) | (have _g := hm5; have q := hr5.symm.trans hr6; cases q; have q2 := mrK_1 hkk5 hm6; rw [hr6, un_y (by first | exact cp_v.1 hkk5 | exact cp_v.2.1 hkk5) (by decide)]; first | exact H8 | exact absurd q2 (by omega)) | (rw [hr6, un_y (cp_v.2.2.1 (by rw [← hkk6]; exact hm6)) (by decide)]; exact H8) | exact absurd (show mrK b n e6 39 by rw [← hkk6]; exact hm6) (hn39 e6 c6 hr6) | exact absurd (show mrK b n e6 40 by rw [← hkk6]; exact hm6) (hn40 e6 c6 hr6)) ((((mf1.wk (L' := [64, 68])).tr mf4 (by decide)).tr mf7 (by decide)).tr mf8 (by decide)))
                · exact absurd c118 (by omega)
              · intro hm39
                refine az_if_neN (tgt := 139) dX12_readUnit_118 (fun c118 => ?_) (fun c118 => ?_)
                · exact absurd c118 (by omega)
                · refine az_aload_n dX12_readUnit_121 ?_
                  refine az_bipush (v := nI 40) dX12_readUnit_122 ?_
                  refine az_cV0 (st := []) dX12_readUnit_124 ml_X12_159 e1 (m_is (d := d - 1) (k9 := 40) (by decide) H1 ?_ ?_)
                  · intro e6 c6 hr6 hm6
                    obtain ⟨kk6, hkk6⟩ : ∃ y, y = 40 := ⟨_, rfl⟩
                    rw [← hkk6] at hm6
                    have hle := H1.le e6 c6 hr6
                    have hkd : rd_kd b n e6 ≠ 0 := mrK_kd hm6 (by omega)
                    have hen := rd_en_lt hle.1 hkd
                    have H6 := H1
                    rw [hr6] at H6
                    refine az_if_neN (tgt := 139) dX12_readUnit_127 (fun c127 => ?_) (fun c127 => ?_)
                    · refine az_aload_n dX12_readUnit_139 ?_
                      refine az_cV0 (st := []) dX12_readUnit_140 ml_X12_162 e1 (m_nextR (d := d - 1) (e := e6) (c := c6) (c' := c6) (sc := sc) (b := b) (n := n) (fr := fr) (k0 := k0) (by omega) H1.1 hle.1 (by omega) H6.2.2.2.1 H6.2.2.2.2 ?_)
                      intro h4 H4 mf4
                      obtain ⟨r4, q4⟩ : ∃ x : rd_R, x = .inl (rd_en b n e6, c6) := ⟨_, rfl⟩
                      rw [← q4] at H4
                      obtain ⟨a4, z4, ki4, nu4, wa4, e4, w4, hki4, hnu4⟩ := H4.o
                      refine az_goto (tgt := 151) dX12_readUnit_143 ?_
                      refine az_aload_n dX12_readUnit_151 ?_
                      refine az_iload_n dX12_readUnit_152 ?_
                      refine az_cV0 (st := []) dX12_readUnit_153 ml_X12_182 e4 (cS (d := d - 1) (by omega) H4 ?_)
                      intro h7 H7 mf7
                      obtain ⟨r7, q7⟩ : ∃ x : rd_R, x = rd_b r4 (rd_sm b n lvl L) := ⟨_, rfl⟩
                      rw [← q7] at H7
                      obtain ⟨a7, z7, ki7, nu7, wa7, e7, w7, hki7, hnu7⟩ := H7.o
                      refine az_aload_n dX12_readUnit_156 ?_
                      refine az_iload_n dX12_readUnit_157 ?_
                      refine az_cV0 (st := []) dX12_readUnit_158 ml_X12_173 e7 (m_codes (d := d - 1) (by subst q7; subst q4; first | exact cp_en hG hle.1 hkd hle.2 | exact cp_f _) H7 ?_)
                      intro h8 H8 mf8
                      exact az_vret dX12_readUnit_161 (hQ h8 (by rw [un_c (fun e c q => (H.le e c q).1) hno18 hno37, ← q1]; subst q7; subst q4; first | (have _g := hm41; rw [rf_f] at H8; rw [un_f (fun e c q => cp_v.2.2.2 (hm39 e c q) (hm40 e c q) (hm41 e c q))]; exact H8) | (have _g := hm5; have q := hr5.symm.trans hr6; cases q; have q2 := mrK_1 hkk5 hm6; rw [hr6, un_y (by first | exact cp_v.1 hkk5 | exact cp_v.2.1 hkk5) (by decide)]; first | exact H8 | exact absurd q2 (by omega)) | (rw [hr6, un_y (cp_v.2.2.1 (by rw [← hkk6]; exact hm6)) (by decide)]; exact H8) | exact absurd (show mrK b n e6 39 by rw [← hkk6]; exact hm6) (hn39 e6 c6 hr6) | exact absurd (show mrK b n e6 40 by rw [← hkk6]; exact hm6) (hn40 e6 c6 hr6)) ((((mf1.wk (L' := [64, 68])).tr mf4 (by decide)).tr mf7 (by decide)).tr mf8 (by decide)))
                    · exact absurd c127 (by omega)
                  · intro hm40
                    refine az_if_neN (tgt := 139) dX12_readUnit_127 (fun c127 => ?_) (fun c127 => ?_)
                    · exact absurd c127 (by omega)
                    · refine az_aload_n dX12_readUnit_130 ?_
                      refine az_bipush (v := nI 41) dX12_readUnit_131 ?_
                      refine az_cV0 (st := []) dX12_readUnit_133 ml_X12_159 e1 (m_is (d := d - 1) (k9 := 41) (by decide) H1 ?_ ?_)
                      · intro e6 c6 hr6 hm6
                        obtain ⟨kk6, hkk6⟩ : ∃ y, y = 41 := ⟨_, rfl⟩
                        rw [← hkk6] at hm6
                        have hle := H1.le e6 c6 hr6
                        have hkd : rd_kd b n e6 ≠ 0 := mrK_kd hm6 (by omega)
                        have hen := rd_en_lt hle.1 hkd
                        have H6 := H1
                        rw [hr6] at H6
                        refine az_if_eqN (tgt := 146) dX12_readUnit_136 (fun c136 => ?_) (fun c136 => ?_)
                        · exact absurd c136 (by omega)
                        · refine az_aload_n dX12_readUnit_139 ?_
                          refine az_cV0 (st := []) dX12_readUnit_140 ml_X12_162 e1 (m_nextR (d := d - 1) (e := e6) (c := c6) (c' := c6) (sc := sc) (b := b) (n := n) (fr := fr) (k0 := k0) (by omega) H1.1 hle.1 (by omega) H6.2.2.2.1 H6.2.2.2.2 ?_)
                          intro h4 H4 mf4
                          obtain ⟨r4, q4⟩ : ∃ x : rd_R, x = .inl (rd_en b n e6, c6) := ⟨_, rfl⟩
                          rw [← q4] at H4
                          obtain ⟨a4, z4, ki4, nu4, wa4, e4, w4, hki4, hnu4⟩ := H4.o
                          refine az_goto (tgt := 151) dX12_readUnit_143 ?_
                          refine az_aload_n dX12_readUnit_151 ?_
                          refine az_iload_n dX12_readUnit_152 ?_
                          refine az_cV0 (st := []) dX12_readUnit_153 ml_X12_182 e4 (cS (d := d - 1) (by omega) H4 ?_)
                          intro h7 H7 mf7
                          obtain ⟨r7, q7⟩ : ∃ x : rd_R, x = rd_b r4 (rd_sm b n lvl L) := ⟨_, rfl⟩
                          rw [← q7] at H7
                          obtain ⟨a7, z7, ki7, nu7, wa7, e7, w7, hki7, hnu7⟩ := H7.o
                          refine az_aload_n dX12_readUnit_156 ?_
                          refine az_iload_n dX12_readUnit_157 ?_
                          refine az_cV0 (st := []) dX12_readUnit_158 ml_X12_173 e7 (m_codes (d := d - 1) (by subst q7; subst q4; first | exact cp_en hG hle.1 hkd hle.2 | exact cp_f _) H7 ?_)
                          intro h8 H8 mf8
                          exact az_vret dX12_readUnit_161 (hQ h8 (by rw [un_c (fun e c q => (H.le e c q).1) hno18 hno37, ← q1]; subst q7; subst q4; first | (have _g := hm41; rw [rf_f] at H8; rw [un_f (fun e c q => cp_v.2.2.2 (hm39 e c q) (hm40 e c q) (hm41 e c q))]; exact H8) | (have _g := hm5; have q := hr5.symm.trans hr6; cases q; have q2 := mrK_1 hkk5 hm6; rw [hr6, un_y (by first | exact cp_v.1 hkk5 | exact cp_v.2.1 hkk5) (by decide)]; first | exact H8 | exact absurd q2 (by omega)) | (rw [hr6, un_y (cp_v.2.2.1 (by rw [← hkk6]; exact hm6)) (by decide)]; exact H8) | exact absurd (show mrK b n e6 39 by rw [← hkk6]; exact hm6) (hn39 e6 c6 hr6) | exact absurd (show mrK b n e6 40 by rw [← hkk6]; exact hm6) (hn40 e6 c6 hr6)) ((((mf1.wk (L' := [64, 68])).tr mf4 (by decide)).tr mf7 (by decide)).tr mf8 (by decide)))
                      · intro hm41
                        refine az_if_eqN (tgt := 146) dX12_readUnit_136 (fun c136 => ?_) (fun c136 => ?_)
                        · refine az_aload_n dX12_readUnit_146 ?_
                          refine az_iconst (v := nI 2) dX12_readUnit_147 ?_
                          refine az_cV0 (st := []) dX12_readUnit_148 ml_X12_165 e1 (m_fails (d := d - 1) (f9 := 2) (by decide) (by decide) H1 ?_)
                          intro h4 H4 mf4
                          obtain ⟨r4, q4⟩ : ∃ x : rd_R, x = rd_b r1 (fun e _ => rd_fail b n 2 e) := ⟨_, rfl⟩
                          rw [← q4] at H4
                          obtain ⟨a4, z4, ki4, nu4, wa4, e4, w4, hki4, hnu4⟩ := H4.o
                          refine az_aload_n dX12_readUnit_151 ?_
                          refine az_iload_n dX12_readUnit_152 ?_
                          refine az_cV0 (st := []) dX12_readUnit_153 ml_X12_182 e4 (cS (d := d - 1) (by omega) H4 ?_)
                          intro h7 H7 mf7
                          obtain ⟨r7, q7⟩ : ∃ x : rd_R, x = rd_b r4 (rd_sm b n lvl L) := ⟨_, rfl⟩
                          rw [← q7] at H7
                          obtain ⟨a7, z7, ki7, nu7, wa7, e7, w7, hki7, hnu7⟩ := H7.o
                          refine az_aload_n dX12_readUnit_156 ?_
                          refine az_iload_n dX12_readUnit_157 ?_
                          refine az_cV0 (st := []) dX12_readUnit_158 ml_X12_173 e7 (m_codes (d := d - 1) (by subst q7; subst q4; first | exact cp_en hG hle.1 hkd hle.2 | exact cp_f _) H7 ?_)
                          intro h8 H8 mf8
                          exact az_vret dX12_readUnit_161 (hQ h8 (by rw [un_c (fun e c q => (H.le e c q).1) hno18 hno37, ← q1]; subst q7; subst q4; first | (have _g := hm41; rw [rf_f] at H8; rw [un_f (fun e c q => cp_v.2.2.2 (hm39 e c q) (hm40 e c q) (hm41 e c q))]; exact H8) | (have _g := hm5; have q := hr5.symm.trans hr6; cases q; have q2 := mrK_1 hkk5 hm6; rw [hr6, un_y (by first | exact cp_v.1 hkk5 | exact cp_v.2.1 hkk5) (by decide)]; first | exact H8 | exact absurd q2 (by omega)) | (rw [hr6, un_y (cp_v.2.2.1 (by rw [← hkk6]; exact hm6)) (by decide)]; exact H8) | exact absurd (show mrK b n e6 39 by rw [← hkk6]; exact hm6) (hn39 e6 c6 hr6) | exact absurd (show mrK b n e6 40 by rw [← hkk6]; exact hm6) (hn40 e6 c6 hr6)) ((((mf1.wk (L' := [64, 68])).tr mf4 (by decide)).tr mf7 (by decide)).tr mf8 (by decide)))
                        · exact absurd c136 (by omega)
          · intro hn39
            refine az_if_eqN (tgt := 93) dX12_readUnit_84 (fun c84 => ?_) (fun c84 => ?_)
            · refine az_aload_n dX12_readUnit_93 ?_
              refine az_bipush (v := nI 40) dX12_readUnit_94 ?_
              refine az_cV0 (st := []) dX12_readUnit_96 ml_X12_159 e1 (m_is (d := d - 1) (k9 := 40) (by decide) H1 ?_ ?_)
              · intro e5 c5 hr5 hm5
                have hkk5 : mrK b n e5 40 := hm5
                refine az_if_eqN (tgt := 108) dX12_readUnit_99 (fun c99 => ?_) (fun c99 => ?_)
                · exact absurd c99 (by omega)
                · refine az_sipush (v := nI 3004) dX12_readUnit_102 ?_
                  refine az_goto (tgt := 111) dX12_readUnit_105 ?_
                  refine az_istore_n (ls' := [(0, .ref 64), (1, .int (nI dp)), (2, .int (nI 3004))]) dX12_readUnit_111 ?_
                  refine az_aload_n dX12_readUnit_112 ?_
                  refine az_bipush (v := nI 39) dX12_readUnit_113 ?_
                  refine az_cV0 (st := []) dX12_readUnit_115 ml_X12_159 e1 (m_is (d := d - 1) (k9 := 39) (by decide) H1 ?_ ?_)
                  · intro e6 c6 hr6 hm6
                    obtain ⟨kk6, hkk6⟩ : ∃ y, y = 39 := ⟨_, rfl⟩
                    rw [← hkk6] at hm6
                    have hle := H1.le e6 c6 hr6
                    have hkd : rd_kd b n e6 ≠ 0 := mrK_kd hm6 (by omega)
                    have hen := rd_en_lt hle.1 hkd
                    have H6 := H1
                    rw [hr6] at H6
                    refine az_if_neN (tgt := 139) dX12_readUnit_118 (fun c118 => ?_) (fun c118 => ?_)
                    · refine az_aload_n dX12_readUnit_139 ?_
                      refine az_cV0 (st := []) dX12_readUnit_140 ml_X12_162 e1 (m_nextR (d := d - 1) (e := e6) (c := c6) (c' := c6) (sc := sc) (b := b) (n := n) (fr := fr) (k0 := k0) (by omega) H1.1 hle.1 (by omega) H6.2.2.2.1 H6.2.2.2.2 ?_)
                      intro h4 H4 mf4
                      obtain ⟨r4, q4⟩ : ∃ x : rd_R, x = .inl (rd_en b n e6, c6) := ⟨_, rfl⟩
                      rw [← q4] at H4
                      obtain ⟨a4, z4, ki4, nu4, wa4, e4, w4, hki4, hnu4⟩ := H4.o
                      refine az_goto (tgt := 151) dX12_readUnit_143 ?_
                      refine az_aload_n dX12_readUnit_151 ?_
                      refine az_iload_n dX12_readUnit_152 ?_
                      refine az_cV0 (st := []) dX12_readUnit_153 ml_X12_182 e4 (cS (d := d - 1) (by omega) H4 ?_)
                      intro h7 H7 mf7
                      obtain ⟨r7, q7⟩ : ∃ x : rd_R, x = rd_b r4 (rd_sm b n lvl L) := ⟨_, rfl⟩
                      rw [← q7] at H7
                      obtain ⟨a7, z7, ki7, nu7, wa7, e7, w7, hki7, hnu7⟩ := H7.o
                      refine az_aload_n dX12_readUnit_156 ?_
                      refine az_iload_n dX12_readUnit_157 ?_
                      refine az_cV0 (st := []) dX12_readUnit_158 ml_X12_173 e7 (m_codes (d := d - 1) (by subst q7; subst q4; first | exact cp_en hG hle.1 hkd hle.2 | exact cp_f _) H7 ?_)
                      intro h8 H8 mf8
                      exact az_vret dX12_readUnit_161 (hQ h8 (by rw [un_c (fun e c q => (H.le e c q).1) hno18 hno37, ← q1]; subst q7; subst q4; first | (have _g := hm41; rw [rf_f] at H8; rw [un_f (fun e c q => cp_v.2.2.2 (hm39 e c q) (hm40 e c q) (hm41 e c q))]; exact H8) | (have _g := hm5; have q := hr5.symm.trans hr6; cases q; have q2 := mrK_1 hkk5 hm6; rw [hr6, un_y (by first | exact cp_v.1 hkk5 | exact cp_v.2.1 hkk5) (by decide)]; first | exact H8 | exact absurd q2 (by omega)) | (rw [hr6, un_y (cp_v.2.2.1 (by rw [← hkk6]; exact hm6)) (by decide)]; exact H8) | exact absurd (show mrK b n e6 39 by rw [← hkk6]; exact hm6) (hn39 e6 c6 hr6) | exact absurd (show mrK b n e6 40 by rw [← hkk6]; exact hm6) (hn40 e6 c6 hr6)) ((((mf1.wk (L' := [64, 68])).tr mf4 (by decide)).tr mf7 (by decide)).tr mf8 (by decide)))
                    · exact absurd c118 (by omega)
                  · intro hm39
                    refine az_if_neN (tgt := 139) dX12_readUnit_118 (fun c118 => ?_) (fun c118 => ?_)
                    · exact absurd c118 (by omega)
                    · refine az_aload_n dX12_readUnit_121 ?_
                      refine az_bipush (v := nI 40) dX12_readUnit_122 ?_
                      refine az_cV0 (st := []) dX12_readUnit_124 ml_X12_159 e1 (m_is (d := d - 1) (k9 := 40) (by decide) H1 ?_ ?_)
                      · intro e6 c6 hr6 hm6
                        obtain ⟨kk6, hkk6⟩ : ∃ y, y = 40 := ⟨_, rfl⟩
                        rw [← hkk6] at hm6
                        have hle := H1.le e6 c6 hr6
                        have hkd : rd_kd b n e6 ≠ 0 := mrK_kd hm6 (by omega)
                        have hen := rd_en_lt hle.1 hkd
                        have H6 := H1
                        rw [hr6] at H6
                        refine az_if_neN (tgt := 139) dX12_readUnit_127 (fun c127 => ?_) (fun c127 => ?_)
                        · refine az_aload_n dX12_readUnit_139 ?_
                          refine az_cV0 (st := []) dX12_readUnit_140 ml_X12_162 e1 (m_nextR (d := d - 1) (e := e6) (c := c6) (c' := c6) (sc := sc) (b := b) (n := n) (fr := fr) (k0 := k0) (by omega) H1.1 hle.1 (by omega) H6.2.2.2.1 H6.2.2.2.2 ?_)
                          intro h4 H4 mf4
                          obtain ⟨r4, q4⟩ : ∃ x : rd_R, x = .inl (rd_en b n e6, c6) := ⟨_, rfl⟩
                          rw [← q4] at H4
                          obtain ⟨a4, z4, ki4, nu4, wa4, e4, w4, hki4, hnu4⟩ := H4.o
                          refine az_goto (tgt := 151) dX12_readUnit_143 ?_
                          refine az_aload_n dX12_readUnit_151 ?_
                          refine az_iload_n dX12_readUnit_152 ?_
                          refine az_cV0 (st := []) dX12_readUnit_153 ml_X12_182 e4 (cS (d := d - 1) (by omega) H4 ?_)
                          intro h7 H7 mf7
                          obtain ⟨r7, q7⟩ : ∃ x : rd_R, x = rd_b r4 (rd_sm b n lvl L) := ⟨_, rfl⟩
                          rw [← q7] at H7
                          obtain ⟨a7, z7, ki7, nu7, wa7, e7, w7, hki7, hnu7⟩ := H7.o
                          refine az_aload_n dX12_readUnit_156 ?_
                          refine az_iload_n dX12_readUnit_157 ?_
                          refine az_cV0 (st := []) dX12_readUnit_158 ml_X12_173 e7 (m_codes (d := d - 1) (by subst q7; subst q4; first | exact cp_en hG hle.1 hkd hle.2 | exact cp_f _) H7 ?_)
                          intro h8 H8 mf8
                          exact az_vret dX12_readUnit_161 (hQ h8 (by rw [un_c (fun e c q => (H.le e c q).1) hno18 hno37, ← q1]; subst q7; subst q4; first | (have _g := hm41; rw [rf_f] at H8; rw [un_f (fun e c q => cp_v.2.2.2 (hm39 e c q) (hm40 e c q) (hm41 e c q))]; exact H8) | (have _g := hm5; have q := hr5.symm.trans hr6; cases q; have q2 := mrK_1 hkk5 hm6; rw [hr6, un_y (by first | exact cp_v.1 hkk5 | exact cp_v.2.1 hkk5) (by decide)]; first | exact H8 | exact absurd q2 (by omega)) | (rw [hr6, un_y (cp_v.2.2.1 (by rw [← hkk6]; exact hm6)) (by decide)]; exact H8) | exact absurd (show mrK b n e6 39 by rw [← hkk6]; exact hm6) (hn39 e6 c6 hr6) | exact absurd (show mrK b n e6 40 by rw [← hkk6]; exact hm6) (hn40 e6 c6 hr6)) ((((mf1.wk (L' := [64, 68])).tr mf4 (by decide)).tr mf7 (by decide)).tr mf8 (by decide)))
                        · exact absurd c127 (by omega)
                      · intro hm40
                        refine az_if_neN (tgt := 139) dX12_readUnit_127 (fun c127 => ?_) (fun c127 => ?_)
                        · exact absurd c127 (by omega)
                        · refine az_aload_n dX12_readUnit_130 ?_
                          refine az_bipush (v := nI 41) dX12_readUnit_131 ?_
                          refine az_cV0 (st := []) dX12_readUnit_133 ml_X12_159 e1 (m_is (d := d - 1) (k9 := 41) (by decide) H1 ?_ ?_)
                          · intro e6 c6 hr6 hm6
                            obtain ⟨kk6, hkk6⟩ : ∃ y, y = 41 := ⟨_, rfl⟩
                            rw [← hkk6] at hm6
                            have hle := H1.le e6 c6 hr6
                            have hkd : rd_kd b n e6 ≠ 0 := mrK_kd hm6 (by omega)
                            have hen := rd_en_lt hle.1 hkd
                            have H6 := H1
                            rw [hr6] at H6
                            refine az_if_eqN (tgt := 146) dX12_readUnit_136 (fun c136 => ?_) (fun c136 => ?_)
                            · exact absurd c136 (by omega)
                            · refine az_aload_n dX12_readUnit_139 ?_
                              refine az_cV0 (st := []) dX12_readUnit_140 ml_X12_162 e1 (m_nextR (d := d - 1) (e := e6) (c := c6) (c' := c6) (sc := sc) (b := b) (n := n) (fr := fr) (k0 := k0) (by omega) H1.1 hle.1 (by omega) H6.2.2.2.1 H6.2.2.2.2 ?_)
                              intro h4 H4 mf4
                              obtain ⟨r4, q4⟩ : ∃ x : rd_R, x = .inl (rd_en b n e6, c6) := ⟨_, rfl⟩
                              rw [← q4] at H4
                              obtain ⟨a4, z4, ki4, nu4, wa4, e4, w4, hki4, hnu4⟩ := H4.o
                              refine az_goto (tgt := 151) dX12_readUnit_143 ?_
                              refine az_aload_n dX12_readUnit_151 ?_
                              refine az_iload_n dX12_readUnit_152 ?_
                              refine az_cV0 (st := []) dX12_readUnit_153 ml_X12_182 e4 (cS (d := d - 1) (by omega) H4 ?_)
                              intro h7 H7 mf7
                              obtain ⟨r7, q7⟩ : ∃ x : rd_R, x = rd_b r4 (rd_sm b n lvl L) := ⟨_, rfl⟩
                              rw [← q7] at H7
                              obtain ⟨a7, z7, ki7, nu7, wa7, e7, w7, hki7, hnu7⟩ := H7.o
                              refine az_aload_n dX12_readUnit_156 ?_
                              refine az_iload_n dX12_readUnit_157 ?_
                              refine az_cV0 (st := []) dX12_readUnit_158 ml_X12_173 e7 (m_codes (d := d - 1) (by subst q7; subst q4; first | exact cp_en hG hle.1 hkd hle.2 | exact cp_f _) H7 ?_)
                              intro h8 H8 mf8
                              exact az_vret dX12_readUnit_161 (hQ h8 (by rw [un_c (fun e c q => (H.le e c q).1) hno18 hno37, ← q1]; subst q7; subst q4; first | (have _g := hm41; rw [rf_f] at H8; rw [un_f (fun e c q => cp_v.2.2.2 (hm39 e c q) (hm40 e c q) (hm41 e c q))]; exact H8) | (have _g := hm5; have q := hr5.symm.trans hr6; cases q; have q2 := mrK_1 hkk5 hm6; rw [hr6, un_y (by first | exact cp_v.1 hkk5 | exact cp_v.2.1 hkk5) (by decide)]; first | exact H8 | exact absurd q2 (by omega)) | (rw [hr6, un_y (cp_v.2.2.1 (by rw [← hkk6]; exact hm6)) (by decide)]; exact H8) | exact absurd (show mrK b n e6 39 by rw [← hkk6]; exact hm6) (hn39 e6 c6 hr6) | exact absurd (show mrK b n e6 40 by rw [← hkk6]; exact hm6) (hn40 e6 c6 hr6)) ((((mf1.wk (L' := [64, 68])).tr mf4 (by decide)).tr mf7 (by decide)).tr mf8 (by decide)))
                          · intro hm41
                            refine az_if_eqN (tgt := 146) dX12_readUnit_136 (fun c136 => ?_) (fun c136 => ?_)
                            · refine az_aload_n dX12_readUnit_146 ?_
                              refine az_iconst (v := nI 2) dX12_readUnit_147 ?_
                              refine az_cV0 (st := []) dX12_readUnit_148 ml_X12_165 e1 (m_fails (d := d - 1) (f9 := 2) (by decide) (by decide) H1 ?_)
                              intro h4 H4 mf4
                              obtain ⟨r4, q4⟩ : ∃ x : rd_R, x = rd_b r1 (fun e _ => rd_fail b n 2 e) := ⟨_, rfl⟩
                              rw [← q4] at H4
                              obtain ⟨a4, z4, ki4, nu4, wa4, e4, w4, hki4, hnu4⟩ := H4.o
                              refine az_aload_n dX12_readUnit_151 ?_
                              refine az_iload_n dX12_readUnit_152 ?_
                              refine az_cV0 (st := []) dX12_readUnit_153 ml_X12_182 e4 (cS (d := d - 1) (by omega) H4 ?_)
                              intro h7 H7 mf7
                              obtain ⟨r7, q7⟩ : ∃ x : rd_R, x = rd_b r4 (rd_sm b n lvl L) := ⟨_, rfl⟩
                              rw [← q7] at H7
                              obtain ⟨a7, z7, ki7, nu7, wa7, e7, w7, hki7, hnu7⟩ := H7.o
                              refine az_aload_n dX12_readUnit_156 ?_
                              refine az_iload_n dX12_readUnit_157 ?_
                              refine az_cV0 (st := []) dX12_readUnit_158 ml_X12_173 e7 (m_codes (d := d - 1) (by subst q7; subst q4; first | exact cp_en hG hle.1 hkd hle.2 | exact cp_f _) H7 ?_)
                              intro h8 H8 mf8
                              exact az_vret dX12_readUnit_161 (hQ h8 (by rw [un_c (fun e c q => (H.le e c q).1) hno18 hno37, ← q1]; subst q7; subst q4; first | (have _g := hm41; rw [rf_f] at H8; rw [un_f (fun e c q => cp_v.2.2.2 (hm39 e c q) (hm40 e c q) (hm41 e c q))]; exact H8) | (have _g := hm5; have q := hr5.symm.trans hr6; cases q; have q2 := mrK_1 hkk5 hm6; rw [hr6, un_y (by first | exact cp_v.1 hkk5 | exact cp_v.2.1 hkk5) (by decide)]; first | exact H8 | exact absurd q2 (by omega)) | (rw [hr6, un_y (cp_v.2.2.1 (by rw [← hkk6]; exact hm6)) (by decide)]; exact H8) | exact absurd (show mrK b n e6 39 by rw [← hkk6]; exact hm6) (hn39 e6 c6 hr6) | exact absurd (show mrK b n e6 40 by rw [← hkk6]; exact hm6) (hn40 e6 c6 hr6)) ((((mf1.wk (L' := [64, 68])).tr mf4 (by decide)).tr mf7 (by decide)).tr mf8 (by decide)))
                            · exact absurd c136 (by omega)
              · intro hn40
                refine az_if_eqN (tgt := 108) dX12_readUnit_99 (fun c99 => ?_) (fun c99 => ?_)
                · refine az_sipush (v := nI 3005) dX12_readUnit_108 ?_
                  refine az_istore_n (ls' := [(0, .ref 64), (1, .int (nI dp)), (2, .int (nI 3005))]) dX12_readUnit_111 ?_
                  refine az_aload_n dX12_readUnit_112 ?_
                  refine az_bipush (v := nI 39) dX12_readUnit_113 ?_
                  refine az_cV0 (st := []) dX12_readUnit_115 ml_X12_159 e1 (m_is (d := d - 1) (k9 := 39) (by decide) H1 ?_ ?_)
                  · intro e6 c6 hr6 hm6
                    obtain ⟨kk6, hkk6⟩ : ∃ y, y = 39 := ⟨_, rfl⟩
                    rw [← hkk6] at hm6
                    have hle := H1.le e6 c6 hr6
                    have hkd : rd_kd b n e6 ≠ 0 := mrK_kd hm6 (by omega)
                    have hen := rd_en_lt hle.1 hkd
                    have H6 := H1
                    rw [hr6] at H6
                    refine az_if_neN (tgt := 139) dX12_readUnit_118 (fun c118 => ?_) (fun c118 => ?_)
                    · refine az_aload_n dX12_readUnit_139 ?_
                      refine az_cV0 (st := []) dX12_readUnit_140 ml_X12_162 e1 (m_nextR (d := d - 1) (e := e6) (c := c6) (c' := c6) (sc := sc) (b := b) (n := n) (fr := fr) (k0 := k0) (by omega) H1.1 hle.1 (by omega) H6.2.2.2.1 H6.2.2.2.2 ?_)
                      intro h4 H4 mf4
                      obtain ⟨r4, q4⟩ : ∃ x : rd_R, x = .inl (rd_en b n e6, c6) := ⟨_, rfl⟩
                      rw [← q4] at H4
                      obtain ⟨a4, z4, ki4, nu4, wa4, e4, w4, hki4, hnu4⟩ := H4.o
                      refine az_goto (tgt := 151) dX12_readUnit_143 ?_
                      refine az_aload_n dX12_readUnit_151 ?_
                      refine az_iload_n dX12_readUnit_152 ?_
                      refine az_cV0 (st := []) dX12_readUnit_153 ml_X12_182 e4 (cS (d := d - 1) (by omega) H4 ?_)
                      intro h7 H7 mf7
                      obtain ⟨r7, q7⟩ : ∃ x : rd_R, x = rd_b r4 (rd_sm b n lvl L) := ⟨_, rfl⟩
                      rw [← q7] at H7
                      obtain ⟨a7, z7, ki7, nu7, wa7, e7, w7, hki7, hnu7⟩ := H7.o
                      refine az_aload_n dX12_readUnit_156 ?_
                      refine az_iload_n dX12_readUnit_157 ?_
                      refine az_cV0 (st := []) dX12_readUnit_158 ml_X12_173 e7 (m_codes (d := d - 1) (by subst q7; subst q4; first | exact cp_en hG hle.1 hkd hle.2 | exact cp_f _) H7 ?_)
                      intro h8 H8 mf8
                      exact az_vret dX12_readUnit_161 (hQ h8 (by rw [un_c (fun e c q => (H.le e c q).1) hno18 hno37, ← q1]; subst q7; subst q4; first | (have _g := hm41; rw [rf_f] at H8; rw [un_f (fun e c q => cp_v.2.2.2 (hm39 e c q) (hm40 e c q) (hm41 e c q))]; exact H8) | (have _g := hm5; have q := hr5.symm.trans hr6; cases q; have q2 := mrK_1 hkk5 hm6; rw [hr6, un_y (by first | exact cp_v.1 hkk5 | exact cp_v.2.1 hkk5) (by decide)]; first | exact H8 | exact absurd q2 (by omega)) | (rw [hr6, un_y (cp_v.2.2.1 (by rw [← hkk6]; exact hm6)) (by decide)]; exact H8) | exact absurd (show mrK b n e6 39 by rw [← hkk6]; exact hm6) (hn39 e6 c6 hr6) | exact absurd (show mrK b n e6 40 by rw [← hkk6]; exact hm6) (hn40 e6 c6 hr6)) ((((mf1.wk (L' := [64, 68])).tr mf4 (by decide)).tr mf7 (by decide)).tr mf8 (by decide)))
                    · exact absurd c118 (by omega)
                  · intro hm39
                    refine az_if_neN (tgt := 139) dX12_readUnit_118 (fun c118 => ?_) (fun c118 => ?_)
                    · exact absurd c118 (by omega)
                    · refine az_aload_n dX12_readUnit_121 ?_
                      refine az_bipush (v := nI 40) dX12_readUnit_122 ?_
                      refine az_cV0 (st := []) dX12_readUnit_124 ml_X12_159 e1 (m_is (d := d - 1) (k9 := 40) (by decide) H1 ?_ ?_)
                      · intro e6 c6 hr6 hm6
                        obtain ⟨kk6, hkk6⟩ : ∃ y, y = 40 := ⟨_, rfl⟩
                        rw [← hkk6] at hm6
                        have hle := H1.le e6 c6 hr6
                        have hkd : rd_kd b n e6 ≠ 0 := mrK_kd hm6 (by omega)
                        have hen := rd_en_lt hle.1 hkd
                        have H6 := H1
                        rw [hr6] at H6
                        refine az_if_neN (tgt := 139) dX12_readUnit_127 (fun c127 => ?_) (fun c127 => ?_)
                        · refine az_aload_n dX12_readUnit_139 ?_
                          refine az_cV0 (st := []) dX12_readUnit_140 ml_X12_162 e1 (m_nextR (d := d - 1) (e := e6) (c := c6) (c' := c6) (sc := sc) (b := b) (n := n) (fr := fr) (k0 := k0) (by omega) H1.1 hle.1 (by omega) H6.2.2.2.1 H6.2.2.2.2 ?_)
                          intro h4 H4 mf4
                          obtain ⟨r4, q4⟩ : ∃ x : rd_R, x = .inl (rd_en b n e6, c6) := ⟨_, rfl⟩
                          rw [← q4] at H4
                          obtain ⟨a4, z4, ki4, nu4, wa4, e4, w4, hki4, hnu4⟩ := H4.o
                          refine az_goto (tgt := 151) dX12_readUnit_143 ?_
                          refine az_aload_n dX12_readUnit_151 ?_
                          refine az_iload_n dX12_readUnit_152 ?_
                          refine az_cV0 (st := []) dX12_readUnit_153 ml_X12_182 e4 (cS (d := d - 1) (by omega) H4 ?_)
                          intro h7 H7 mf7
                          obtain ⟨r7, q7⟩ : ∃ x : rd_R, x = rd_b r4 (rd_sm b n lvl L) := ⟨_, rfl⟩
                          rw [← q7] at H7
                          obtain ⟨a7, z7, ki7, nu7, wa7, e7, w7, hki7, hnu7⟩ := H7.o
                          refine az_aload_n dX12_readUnit_156 ?_
                          refine az_iload_n dX12_readUnit_157 ?_
                          refine az_cV0 (st := []) dX12_readUnit_158 ml_X12_173 e7 (m_codes (d := d - 1) (by subst q7; subst q4; first | exact cp_en hG hle.1 hkd hle.2 | exact cp_f _) H7 ?_)
                          intro h8 H8 mf8
                          exact az_vret dX12_readUnit_161 (hQ h8 (by rw [un_c (fun e c q => (H.le e c q).1) hno18 hno37, ← q1]; subst q7; subst q4; first | (have _g := hm41; rw [rf_f] at H8; rw [un_f (fun e c q => cp_v.2.2.2 (hm39 e c q) (hm40 e c q) (hm41 e c q))]; exact H8) | (have _g := hm5; have q := hr5.symm.trans hr6; cases q; have q2 := mrK_1 hkk5 hm6; rw [hr6, un_y (by first | exact cp_v.1 hkk5 | exact cp_v.2.1 hkk5) (by decide)]; first | exact H8 | exact absurd q2 (by omega)) | (rw [hr6, un_y (cp_v.2.2.1 (by rw [← hkk6]; exact hm6)) (by decide)]; exact H8) | exact absurd (show mrK b n e6 39 by rw [← hkk6]; exact hm6) (hn39 e6 c6 hr6) | exact absurd (show mrK b n e6 40 by rw [← hkk6]; exact hm6) (hn40 e6 c6 hr6)) ((((mf1.wk (L' := [64, 68])).tr mf4 (by decide)).tr mf7 (by decide)).tr mf8 (by decide)))
                        · exact absurd c127 (by omega)
                      · intro hm40
                        refine az_if_neN (tgt := 139) dX12_readUnit_127 (fun c127 => ?_) (fun c127 => ?_)
                        · exact absurd c127 (by omega)
                        · refine az_aload_n dX12_readUnit_130 ?_
                          refine az_bipush (v := nI 41) dX12_readUnit_131 ?_
                          refine az_cV0 (st := []) dX12_readUnit_133 ml_X12_159 e1 (m_is (d := d - 1) (k9 := 41) (by decide) H1 ?_ ?_)
                          · intro e6 c6 hr6 hm6
                            obtain ⟨kk6, hkk6⟩ : ∃ y, y = 41 := ⟨_, rfl⟩
                            rw [← hkk6] at hm6
                            have hle := H1.le e6 c6 hr6
                            have hkd : rd_kd b n e6 ≠ 0 := mrK_kd hm6 (by omega)
                            have hen := rd_en_lt hle.1 hkd
                            have H6 := H1
                            rw [hr6] at H6
                            refine az_if_eqN (tgt := 146) dX12_readUnit_136 (fun c136 => ?_) (fun c136 => ?_)
                            · exact absurd c136 (by omega)
                            · refine az_aload_n dX12_readUnit_139 ?_
                              refine az_cV0 (st := []) dX12_readUnit_140 ml_X12_162 e1 (m_nextR (d := d - 1) (e := e6) (c := c6) (c' := c6) (sc := sc) (b := b) (n := n) (fr := fr) (k0 := k0) (by omega) H1.1 hle.1 (by omega) H6.2.2.2.1 H6.2.2.2.2 ?_)
                              intro h4 H4 mf4
                              obtain ⟨r4, q4⟩ : ∃ x : rd_R, x = .inl (rd_en b n e6, c6) := ⟨_, rfl⟩
                              rw [← q4] at H4
                              obtain ⟨a4, z4, ki4, nu4, wa4, e4, w4, hki4, hnu4⟩ := H4.o
                              refine az_goto (tgt := 151) dX12_readUnit_143 ?_
                              refine az_aload_n dX12_readUnit_151 ?_
                              refine az_iload_n dX12_readUnit_152 ?_
                              refine az_cV0 (st := []) dX12_readUnit_153 ml_X12_182 e4 (cS (d := d - 1) (by omega) H4 ?_)
                              intro h7 H7 mf7
                              obtain ⟨r7, q7⟩ : ∃ x : rd_R, x = rd_b r4 (rd_sm b n lvl L) := ⟨_, rfl⟩
                              rw [← q7] at H7
                              obtain ⟨a7, z7, ki7, nu7, wa7, e7, w7, hki7, hnu7⟩ := H7.o
                              refine az_aload_n dX12_readUnit_156 ?_
                              refine az_iload_n dX12_readUnit_157 ?_
                              refine az_cV0 (st := []) dX12_readUnit_158 ml_X12_173 e7 (m_codes (d := d - 1) (by subst q7; subst q4; first | exact cp_en hG hle.1 hkd hle.2 | exact cp_f _) H7 ?_)
                              intro h8 H8 mf8
                              exact az_vret dX12_readUnit_161 (hQ h8 (by rw [un_c (fun e c q => (H.le e c q).1) hno18 hno37, ← q1]; subst q7; subst q4; first | (have _g := hm41; rw [rf_f] at H8; rw [un_f (fun e c q => cp_v.2.2.2 (hm39 e c q) (hm40 e c q) (hm41 e c q))]; exact H8) | (have _g := hm5; have q := hr5.symm.trans hr6; cases q; have q2 := mrK_1 hkk5 hm6; rw [hr6, un_y (by first | exact cp_v.1 hkk5 | exact cp_v.2.1 hkk5) (by decide)]; first | exact H8 | exact absurd q2 (by omega)) | (rw [hr6, un_y (cp_v.2.2.1 (by rw [← hkk6]; exact hm6)) (by decide)]; exact H8) | exact absurd (show mrK b n e6 39 by rw [← hkk6]; exact hm6) (hn39 e6 c6 hr6) | exact absurd (show mrK b n e6 40 by rw [← hkk6]; exact hm6) (hn40 e6 c6 hr6)) ((((mf1.wk (L' := [64, 68])).tr mf4 (by decide)).tr mf7 (by decide)).tr mf8 (by decide)))
                          · intro hm41
                            refine az_if_eqN (tgt := 146) dX12_readUnit_136 (fun c136 => ?_) (fun c136 => ?_)
                            · refine az_aload_n dX12_readUnit_146 ?_
                              refine az_iconst (v := nI 2) dX12_readUnit_147 ?_
                              refine az_cV0 (st := []) dX12_readUnit_148 ml_X12_165 e1 (m_fails (d := d - 1) (f9 := 2) (by decide) (by decide) H1 ?_)
                              intro h4 H4 mf4
                              obtain ⟨r4, q4⟩ : ∃ x : rd_R, x = rd_b r1 (fun e _ => rd_fail b n 2 e) := ⟨_, rfl⟩
                              rw [← q4] at H4
                              obtain ⟨a4, z4, ki4, nu4, wa4, e4, w4, hki4, hnu4⟩ := H4.o
                              refine az_aload_n dX12_readUnit_151 ?_
                              refine az_iload_n dX12_readUnit_152 ?_
                              refine az_cV0 (st := []) dX12_readUnit_153 ml_X12_182 e4 (cS (d := d - 1) (by omega) H4 ?_)
                              intro h7 H7 mf7
                              obtain ⟨r7, q7⟩ : ∃ x : rd_R, x = rd_b r4 (rd_sm b n lvl L) := ⟨_, rfl⟩
                              rw [← q7] at H7
                              obtain ⟨a7, z7, ki7, nu7, wa7, e7, w7, hki7, hnu7⟩ := H7.o
                              refine az_aload_n dX12_readUnit_156 ?_
                              refine az_iload_n dX12_readUnit_157 ?_
                              refine az_cV0 (st := []) dX12_readUnit_158 ml_X12_173 e7 (m_codes (d := d - 1) (by subst q7; subst q4; first | exact cp_en hG hle.1 hkd hle.2 | exact cp_f _) H7 ?_)
                              intro h8 H8 mf8
                              exact az_vret dX12_readUnit_161 (hQ h8 (by rw [un_c (fun e c q => (H.le e c q).1) hno18 hno37, ← q1]; subst q7; subst q4; first | (have _g := hm41; rw [rf_f] at H8; rw [un_f (fun e c q => cp_v.2.2.2 (hm39 e c q) (hm40 e c q) (hm41 e c q))]; exact H8) | (have _g := hm5; have q := hr5.symm.trans hr6; cases q; have q2 := mrK_1 hkk5 hm6; rw [hr6, un_y (by first | exact cp_v.1 hkk5 | exact cp_v.2.1 hkk5) (by decide)]; first | exact H8 | exact absurd q2 (by omega)) | (rw [hr6, un_y (cp_v.2.2.1 (by rw [← hkk6]; exact hm6)) (by decide)]; exact H8) | exact absurd (show mrK b n e6 39 by rw [← hkk6]; exact hm6) (hn39 e6 c6 hr6) | exact absurd (show mrK b n e6 40 by rw [← hkk6]; exact hm6) (hn40 e6 c6 hr6)) ((((mf1.wk (L' := [64, 68])).tr mf4 (by decide)).tr mf7 (by decide)).tr mf8 (by decide)))
                            · exact absurd c136 (by omega)
                · exact absurd c99 (by omega)
            · exact absurd c84 (by omega)
        · exact absurd c39 (by omega)
    · exact absurd c6 (by omega)
theorem rd_GL_0 (n : Nat) : rd_GL n ((fun e c => .inl (e, c), fun e c => .inl (e, c), fun e c => .inl (e, c)) : rd_P × rd_P × rd_P) := ⟨rd_G_id n, rd_G_id n, rd_G_id n⟩
theorem m_level {D dp lvl : Nat} {L : rd_P × rd_P × rd_P} {sc : Nat → Value} {b : Nat → Nat} {n : Nat} (hD : 9 ≤ D) (hdp : dp + lvl = 6) (hL : rd_GL n L) (cS : lvl ≠ 0 → mr_CM mX12_readSum L.1 D (dp + 1) sc b n) (cU : lvl ≠ 0 → mr_CM mX12_readUnit L.2.1 D (dp + 1) sc b n) (cT : lvl ≠ 0 → mr_CM mX12_readTruth L.2.2 D (dp + 1) sc b n) : mr_CM mX12_readSum (rd_sm b n lvl L) (D + 4) dp sc b n ∧ mr_CM mX12_readUnit (rd_un b n lvl L) (D + 5) dp sc b n ∧ mr_CM mX12_readTruth (rd_tr b n lvl L) (D + 7) dp sc b n := by
  have h1 := m_readAtom (L := L) hD hdp hL cS cT
  have h2 := m_readTerm (lvl := lvl) (L := L) (D := D + 2) (by omega) hL h1
  have h3 := m_readSum (lvl := lvl) (L := L) (D := D + 3) (by omega) hL h2
  have h4 := m_readUnit (L := L) hD hdp hL cU cT h3
  have h5 := m_readBoth (lvl := lvl) (L := L) (D := D + 5) (by omega) hL h4
  exact ⟨h3, h4, m_readTruth (lvl := lvl) (L := L) (D := D + 6) (by omega) hL h5⟩
theorem mr_CM.wk {m : az_Me} {P : rd_P} {D D' dp : Nat} {sc : Nat → Value} {b : Nat → Nat} {n : Nat} (h : mr_CM m P D dp sc b n) (hD : D ≤ D') : mr_CM m P D' dp sc b n := by
  intro d fr k0 r hp Q hd H hQ
  exact h (by omega) H hQ
theorem m_levels {sc : Nat → Value} {b : Nat → Nat} {n : Nat} : ∀ (lvl dp : Nat), dp + lvl = 6 → mr_CM mX12_readSum (rd_lv b n lvl).1 (16 + 7 * lvl) dp sc b n ∧ mr_CM mX12_readUnit (rd_lv b n lvl).2.1 (16 + 7 * lvl) dp sc b n ∧ mr_CM mX12_readTruth (rd_lv b n lvl).2.2 (16 + 7 * lvl) dp sc b n := by
  intro lvl
  induction lvl with
  | zero =>
    intro dp hdp
    obtain ⟨h1, h2, h3⟩ := m_level (sc := sc) (b := b) (D := 9) (lvl := 0) (by omega) hdp (rd_GL_0 n) (fun h => absurd rfl h) (fun h => absurd rfl h) (fun h => absurd rfl h)
    exact ⟨h1.wk (by omega), h2.wk (by omega), h3.wk (by omega)⟩
  | succ l ih =>
    intro dp hdp
    obtain ⟨i1, i2, i3⟩ := ih (dp + 1) (by omega)
    obtain ⟨h1, h2, h3⟩ := m_level (sc := sc) (b := b) (D := 16 + 7 * l) (lvl := l + 1) (by omega) hdp (rd_G_lv b n l) (fun _ => i1) (fun _ => i2) (fun _ => i3)
    exact ⟨h1.wk (by omega), h2.wk (by omega), h3.wk (by omega)⟩

