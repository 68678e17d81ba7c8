/-! The model: street -/
def mr_wT (r : rd_T) : Nat := match r with
  | .inl _ => 0
  | .inr x => x.1
theorem mr_L.o {T : rd_T} {h : az_Hp} {sc : Nat → Value} {b : Nat → Nat} {n : Nat} (H : mr_L h sc b n T) : ∃ (a z : Nat) (ki nu wa : Int32), h.2 64 = some (mr_o sc a z n ki nu (nI (mr_wT T)) wa) ∧ mr_wT T < 100 ∧ (∀ e v k, T = .inl (e, v) → mrK b n e k → ki = nI k) := by
  match T, H with
  | .inr x, H =>
    have H : mr_R h sc b n (fun _ => 0) 0 (.inr x) := H
    obtain ⟨a, z, ki, nu, wa, h1, h2, -, -⟩ := H.o
    exact ⟨a, z, ki, nu, wa, h1, h2, fun _ _ _ q => nomatch q⟩
  | .inl (e, v), H =>
    obtain ⟨fr, k0, H, hV⟩ := H
    obtain ⟨a, z, ki, nu, wa, h1, h2, h3, -⟩ := H.o
    exact ⟨a, z, ki, nu, wa, h1, h2, fun e' v' k q hk => (by cases q; exact h3 e [] k rfl hk)⟩
theorem mr_w0T {T : rd_T} {h : az_Hp} {sc : Nat → Value} {b : Nat → Nat} {n : Nat} (H : mr_L h sc b n T) (h0 : mr_wT T = 0) : ∃ e v, T = .inl (e, v) := by
  match T, H with
  | .inl (e, v), _ => exact ⟨e, v, rfl⟩
  | .inr x, H =>
    have H : mr_R h sc b n (fun _ => 0) 0 (.inr x) := H
    exact absurd h0 (mr_w2 H)
theorem gd9_B {v : rd_V} (h : rd_gd9 v) : mr_B v := ⟨h.1, h.2.1, h.2.2.2.2.1, fun r _ => h.2.2.2.2.2.2.1 r⟩
/-- what is left of the lines -/
def rd_lx (b : Nat → Nat) (n k : Nat) (T : rd_T) : rd_T := match T with
  | .inr x => .inr x
  | .inl x => rd_ll b n k x.1 x.2
def mr_mT (n : Nat) (T : rd_T) : Nat := match T with
  | .inr _ => 0
  | .inl x => n + 1 - x.1
theorem line_lt {b : Nat → Nat} {n e : Nat} {v : rd_V} {x : Nat × rd_V} (he : e ≤ n) (h : rd_line b n e v = .inl x) : e < x.1 ∧ x.1 ≤ n := by
  have hle := rd_line_le he h
  unfold rd_line at h
  split at h
  · cases h
  · rename_i y hy
    have q1 := rd_body_le he hy
    split at h
    · cases h
    · rename_i z hz
      obtain ⟨z1, z2⟩ := z
      obtain ⟨-, u1, u2⟩ := ts_c hz
      have hen := rd_en_lt (b := b) q1.2.1 (by have := u2.1; omega)
      cases h
      exact ⟨by dsimp only; omega, hle.2.1⟩
theorem lx_0 {b : Nat → Nat} {n k e : Nat} {v : rd_V} (h : rd_kd b n e = 0) : rd_lx b n k (.inl (e, v)) = .inl (e, v) := by
  cases k with
  | zero => rfl
  | succ k => exact if_pos h
theorem lx_1 {b : Nat → Nat} {n k e : Nat} {v : rd_V} (h : ¬ rd_kd b n e = 0) : rd_lx b n (k + 1) (.inl (e, v)) = rd_lx b n k (rd_line b n e v) := by
  show rd_ll b n (k + 1) e v = _
  rw [rd_ll, if_neg h]
  cases rd_line b n e v with
  | inr x => rfl
  | inl x => rfl
set_option maxHeartbeats 4000000 in
set_option maxRecDepth 100000 in
theorem m_streetC {d k1 : Nat} {x : Int32} {sc : Nat → Value} {b : Nat → Nat} {n : Nat} {T : rd_T} {hp : az_Hp} {Q : Option Value → az_Hp → Prop} (hd : 62 ≤ d) (hn9 : n ≤ 900) (H : mr_L hp sc b n T) (hG : ∀ e v, T = .inl (e, v) → e ≤ n ∧ rd_gd9 v ∧ n + 1 ≤ e + k1) (hQ : ∀ h' T', rd_lx b n k1 T = T' → mr_L h' sc b n T' → mf hp h' [64, 68, 69] → az_W mX12_street d 0 0 125 [(0, .ref 64), (1, .int x)] [] h' Q) : az_W mX12_street d 0 0 98 [(0, .ref 64), (1, .int x)] [] hp Q := by
  suffices lp : ∀ (k : Nat) (k9 : Nat) (h' : az_Hp) (T9 : rd_T), mr_mT n T9 = k → mr_L h' sc b n T9 → (∀ e v, T9 = .inl (e, v) → e ≤ n ∧ rd_gd9 v ∧ n + 1 ≤ e + k9) → rd_lx b n k9 T9 = rd_lx b n k1 T → mf hp h' [64, 68, 69] → az_W mX12_street d 0 0 98 [(0, .ref 64), (1, .int x)] [] h' Q from lp _ k1 hp T rfl H hG rfl mf.rf
  intro k
  induction k using Nat.strongRecOn with
  | _ k ih =>
  intro k9 h' T9 hk H9 hG9 hR mf9
  obtain ⟨a9, z9, ki9, nu9, wa9, e9, w9, hki9⟩ := H9.o
  refine az_aload_n dX12_street_98 ?_
  refine az_getf (v := .int (nI (mr_wT T9))) dX12_street_99 fl_X12_153 e9 ?_
  refine az_if_neN (tgt := 125) dX12_street_102 (fun c102 => ?_) (fun c102 => ?_)
  · first | (have _g := c111; obtain ⟨e1, v1, rfl⟩ := mr_w0T H9 c102; obtain ⟨fr1, k01, H1, hV1⟩ := id H9; obtain ⟨kk, nu, wa, hkk, -⟩ := H1.2.2.2.1; have q1 := hki9 e1 v1 kk rfl hkk; have q2 := lN_2 (q1.symm.trans c111) (by have := mrK_lt hkk; omega) (by decide); rw [q2] at hkk; exact hQ h' _ (hR.symm.trans (lx_0 (mrK_Z.mp hkk))) H9 mf9) | (match T9, H9, hR, c102 with | .inr y, H9, hR, _ => exact hQ h' _ hR.symm H9 mf9 | .inl y, _, _, c102 => exact absurd rfl c102)
  · refine az_aload_n dX12_street_105 ?_
    refine az_getf (v := .int ki9) dX12_street_106 fl_X12_135 e9 ?_
    refine az_bipush (v := nI 24) dX12_street_109 ?_
    refine az_icmp_eq (tgt := 125) dX12_street_111 (fun c111 => ?_) (fun c111 => ?_)
    · first | (have _g := c111; obtain ⟨e1, v1, rfl⟩ := mr_w0T H9 c102; obtain ⟨fr1, k01, H1, hV1⟩ := id H9; obtain ⟨kk, nu, wa, hkk, -⟩ := H1.2.2.2.1; have q1 := hki9 e1 v1 kk rfl hkk; have q2 := lN_2 (q1.symm.trans c111) (by have := mrK_lt hkk; omega) (by decide); rw [q2] at hkk; exact hQ h' _ (hR.symm.trans (lx_0 (mrK_Z.mp hkk))) H9 mf9) | (match T9, H9, hR, c102 with | .inr y, H9, hR, _ => exact hQ h' _ hR.symm H9 mf9 | .inl y, _, _, c102 => exact absurd rfl c102)
    · obtain ⟨e1, v1, rfl⟩ := mr_w0T H9 c102
      obtain ⟨fr1, k01, H1, hV1⟩ := id H9
      have hg9 := hG9 e1 v1 rfl
      have hkd : ¬ rd_kd b n e1 = 0 := (fun q => c111 (hki9 e1 v1 24 rfl (mrK_Z.mpr q)))
      refine az_aload_n dX12_street_114 ?_
      refine az_cV0 (st := []) dX12_street_115 ml_X12_229 e9 (m_readLine (d := d - 1) (by omega) H1 hV1 (gd9_B hg9.2.1) ?_)
      intro h2 H2 mf2
      obtain ⟨T2, hT2⟩ : ∃ y, y = rd_body b n e1 v1 := ⟨_, rfl⟩
      rw [← hT2] at H2
      obtain ⟨a2, z2, ki2, nu2, wa2, e2, w2, hki2⟩ := H2.o
      refine az_aload_n dX12_street_118 ?_
      refine az_cV0 (st := []) dX12_street_119 ml_X12_226 e2 (m_closes (d := d - 1) (by omega) (fun e v q => gd9_B (rd_body_gd hn9 hg9.1 hg9.2.1 (hT2.symm.trans q))) H2 ?_)
      intro h3 H3 mf3
      refine az_goto (tgt := 98) dX12_street_122 ?_
      rw [hT2, ← rd_line_cl] at H3
      obtain ⟨k8, rfl⟩ : ∃ k8, k9 = k8 + 1 := ⟨k9 - 1, by omega⟩
      exact ih _ (by rw [← hk]; show _ < n + 1 - e1; cases hq : rd_line b n e1 v1 with | inr y => exact (show 0 < n + 1 - e1 by omega) | inl y => exact (by have := line_lt hg9.1 hq; show n + 1 - y.1 < n + 1 - e1; omega)) k8 h3 (rd_line b n e1 v1) rfl H3 (fun e v q => (by have q1 := line_lt hg9.1 q; have q1 : e1 < e ∧ e ≤ n := q1; exact ⟨q1.2, rd_line_gd hn9 hg9.1 hg9.2.1 q, by omega⟩)) (by rw [← hR, lx_1 hkd]) (((mf9.tr mf2 (by decide)).tr mf3 (by decide)))

