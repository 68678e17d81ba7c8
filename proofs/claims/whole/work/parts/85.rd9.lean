/-! Reader: all levels; what is read is a law -/
theorem rd_CM.mono {m : az_Me} {P : rd_P} {D D' tx n dp : Nat} {b : Nat → Nat} (h : rd_CM m P D tx n b dp) (hD : D ≤ D') : rd_CM m P D' tx n b dp := fun hd hS hQ => h (Nat.le_trans hD hd) hS hQ
def rd_CL (L : rd_P × rd_P × rd_P) (D tx n : Nat) (b : Nat → Nat) (dp : Nat) : Prop := rd_CM mX5_readSum L.1 D tx n b dp ∧ rd_CM mX5_readUnit L.2.1 D tx n b dp ∧ rd_CM mX5_readTruth L.2.2 D tx n b dp
theorem rd_lv_step {L : rd_P × rd_P × rd_P} {D tx n dp : Nat} {b : Nat → Nat} (h8 : 8 ≤ D) (hdp : dp ≤ 6) (hG : rd_GL n L) (hL : dp < 6 → rd_CL L D tx n b (dp + 1)) : rd_CL (rd_mk b n (6 - dp) L) (D + 7) tx n b dp := by
  have hC : dp < 6 → rd_CC mX5_readChoice (rd_ch b n L) (D + 1) tx n b (dp + 1) := fun h => s_readChoice h8 hG (hL h).2.2 (hL h).1
  have hA : rd_CM mX5_readAtom (rd_at b n (6 - dp) L) (D + 1 + 1) tx n b dp := s_readAtom (by omega) hdp hG (fun h => @rd_CM.mono mX5_readSum L.1 D (D + 1) tx n (dp + 1) b (hL h).1 (by omega)) hC
  have hT : rd_CM mX5_readTerm (rd_tm b n (6 - dp) L) (D + 1 + 1 + 1) tx n b dp := s_readTerm (by omega) (rd_G_at hG) hA
  have hS : rd_CM mX5_readSum (rd_sm b n (6 - dp) L) (D + 1 + 1 + 1 + 1) tx n b dp := s_readSum (by omega) (rd_G_tm hG) hT
  have hU : rd_CM mX5_readUnit (rd_un b n (6 - dp) L) (D + 1 + 1 + 1 + 1 + 1) tx n b dp := s_readUnit (by omega) hdp hG (fun h => @rd_CM.mono mX5_readUnit L.2.1 D (D + 1 + 1 + 1 + 1) tx n (dp + 1) b (hL h).2.1 (by omega)) (fun h => @rd_CM.mono mX5_readTruth L.2.2 D (D + 1 + 1 + 1 + 1) tx n (dp + 1) b (hL h).2.2 (by omega)) hS
  have hB : rd_CM mX5_readBoth (rd_bo b n (6 - dp) L) (D + 1 + 1 + 1 + 1 + 1 + 1) tx n b dp := s_readBoth (by omega) (rd_G_un hG) hU
  have hR : rd_CM mX5_readTruth (rd_tr b n (6 - dp) L) (D + 1 + 1 + 1 + 1 + 1 + 1 + 1) tx n b dp := s_readTruth (by omega) (rd_G_bo hG) hB
  exact ⟨@rd_CM.mono mX5_readSum _ (D + 1 + 1 + 1 + 1) (D + 7) tx n dp b @hS (by omega), @rd_CM.mono mX5_readUnit _ (D + 1 + 1 + 1 + 1 + 1) (D + 7) tx n dp b @hU (by omega), @hR⟩
theorem rd_lv_ok (tx n : Nat) (b : Nat → Nat) : ∀ r, r ≤ 6 → rd_CL (rd_lv b n r) (15 + 7 * r) tx n b (6 - r) := by
  intro r
  induction r with
  | zero =>
    intro _
    have := rd_lv_step (L := (fun e c => .inl (e, c), fun e c => .inl (e, c), fun e c => .inl (e, c))) (D := 8) (tx := tx) (n := n) (b := b) (dp := 6) (by omega) (by omega) ⟨rd_G_id n, rd_G_id n, rd_G_id n⟩ (fun h => absurd h (by omega))
    exact this
  | succ r ih =>
    intro hr
    have h1 := ih (by omega)
    have := rd_lv_step (L := rd_lv b n r) (D := 15 + 7 * r) (tx := tx) (n := n) (b := b) (dp := 6 - (r + 1)) (by omega) (by omega) (rd_G_lv b n r) (fun _ => (by rw [show 6 - (r + 1) + 1 = 6 - r by omega]; exact h1))
    rw [show 6 - (6 - (r + 1)) = r + 1 by omega] at this
    exact this
theorem lw_wf_app (k : List Nat) (x : Nat) : lw_wf (k ++ [x]) = lw_ty (lw_wf k) x := by
  rw [lw_wf, List.foldl_append]; rfl
/-- the words that it writes make one number (false) or truth (true) more, and at most m wait -/
def rd_Y (f : rd_P) (m : Nat) (t : Bool) : Prop := ∀ (e : Nat) (c : List Nat) (e' : Nat) (c' : List Nat) (s : List Bool), f e c = .inl (e', c') → lw_wf c = some s → s.length + m ≤ 64 → lw_wf c' = some (t :: s)
theorem rd_Y.mono {f : rd_P} {m m' : Nat} {t : Bool} (h : rd_Y f m t) (hm : m ≤ m') : rd_Y f m' t := fun e c e' c' s h1 h2 h3 => h e c e' c' s h1 h2 (by omega)
theorem rd_b_inl {r : rd_R} {f : rd_P} {x : Nat × List Nat} (h : rd_b r f = .inl x) : ∃ e c, r = .inl (e, c) ∧ f e c = .inl x := by
  cases r with
  | inl q => exact ⟨q.1, q.2, rfl, h⟩
  | inr q => cases h
theorem rd_tw_inl {b : Nat → Nat} {n : Nat} {t : String} {e e' : Nat} {c c' : List Nat} (h : rd_tw b n t e c = .inl (e', c')) : c' = c := by
  unfold rd_tw at h
  split at h
  · cases h; rfl
  · cases h
theorem rd_ts_inl {b : Nat → Nat} {n x : Nat} {e e' : Nat} {c c' : List Nat} (h : rd_ts b n x e c = .inl (e', c')) : c' = c := by
  unfold rd_ts at h
  split at h
  · cases h; rfl
  · cases h
theorem rd_Y_lp {b : Nat → Nat} {n : Nat} {f : rd_P} {cd : Nat → Nat} {m : Nat} {t : Bool} (hf : rd_Y f m t) (hcd : ∀ e, cd e ≠ 0 → ∀ s, lw_ty (some (t :: t :: s)) (cd e) = some (t :: s)) (k : Nat) : ∀ (e : Nat) (c : List Nat) (e' : Nat) (c' : List Nat) (s : List Bool), rd_lp b n f cd k e c = .inl (e', c') → lw_wf c = some (t :: s) → s.length + (m + 1) ≤ 64 → lw_wf c' = some (t :: s) := by
  induction k with
  | zero => intro e c e' c' s h1 h2 h3; cases h1; exact h2
  | succ k ih =>
    intro e c e' c' s h1 h2 h3
    rw [rd_lp] at h1
    dsimp only at h1
    split at h1
    · cases h1; exact h2
    · rename_i hc
      obtain ⟨e1, c1, q1, q2⟩ := rd_b_inl h1
      have h4 := hf _ _ _ _ _ q1 h2 (by rw [List.length_cons]; omega)
      exact ih _ _ _ _ _ q2 (by rw [lw_wf_app, h4]; exact hcd e hc s) h3
theorem rd_Y_num {x : Nat} {s : List Bool} {c : List Nat} (hx : x < 1005) (h : lw_wf c = some s) (hs : s.length < 64) : lw_wf (c ++ [x]) = some (false :: s) := by
  rw [lw_wf_app, h]
  unfold lw_ty
  simp only
  rw [if_pos hx, if_pos hs]
theorem rd_nm_lt (b : Nat → Nat) (n e : Nat) : rd_nm b n e < 1005 := by
  unfold rd_nm
  split
  · omega
  · split
    · omega
    · split
      · omega
      · split
        · omega
        · split <;> omega
theorem rd_Y_step {b : Nat → Nat} {n r m : Nat} {L : rd_P × rd_P × rd_P} (h1 : r ≠ 0 → rd_Y L.1 (m + 3) false) (h2 : r ≠ 0 → rd_Y L.2.1 (m + 4) true) (h3 : r ≠ 0 → rd_Y L.2.2 (m + 6) true) (he : ∀ e, rd_kd b n e = 2 → rd_va b n e < 1005) : rd_Y (rd_sm b n r L) (m + 8) false ∧ rd_Y (rd_un b n r L) (m + 9) true ∧ rd_Y (rd_tr b n r L) (m + 11) true := by
  have hch : r ≠ 0 → rd_Y (rd_ch b n L) (m + 6) false := by
    intro hr e c e' c' s h hw hs
    obtain ⟨e6, c6, q6, p6⟩ := rd_b_inl h
    obtain ⟨e5, c5, q5, p5⟩ := rd_b_inl q6
    obtain ⟨e4, c4, q4, p4⟩ := rd_b_inl q5
    obtain ⟨e3, c3, q3, p3⟩ := rd_b_inl q4
    obtain ⟨e2, c2, q2, p2⟩ := rd_b_inl q3
    obtain ⟨e1, c1, q1, p1⟩ := rd_b_inl q2
    have w1 := h3 hr _ _ _ _ _ q1 hw (by omega)
    have w2 := h1 hr _ _ _ _ _ p2 (by rw [rd_tw_inl p1]; exact w1) (by rw [List.length_cons]; omega)
    have w3 := h1 hr _ _ _ _ _ p4 (by rw [rd_tw_inl p3]; exact w2) (by rw [List.length_cons, List.length_cons]; omega)
    have hc6 := rd_tw_inl p5
    cases p6
    rw [hc6, lw_wf_app, w3]
    rfl
  have hat : rd_Y (rd_at b n r L) (m + 6) false := by
    intro e c e' c' s h hw hs
    unfold rd_at at h
    split at h
    · obtain ⟨e2, c2, q2, p2⟩ := rd_b_inl h
      obtain ⟨e1, c1, q1, p1⟩ := rd_b_inl q2
      obtain ⟨hr, -, rfl⟩ := rd_gd_lt q1
      rw [rd_ts_inl p2]
      exact h1 hr _ _ _ _ _ p1 hw (by omega)
    · split at h
      · obtain ⟨e1, c1, q1, p1⟩ := rd_b_inl h
        obtain ⟨hr, -, rfl⟩ := rd_gd_lt q1
        exact hch hr _ _ _ _ _ p1 hw hs
      · split at h
        · rename_i hk
          cases h
          exact rd_Y_num (he e hk) hw (by omega)
        · split at h
          · cases h
          · cases h
            exact rd_Y_num (rd_nm_lt b n e) hw (by omega)
  have htm : rd_Y (rd_tm b n r L) (m + 7) false := by
    intro e c e' c' s h hw hs
    obtain ⟨e1, c1, q1, p1⟩ := rd_b_inl h
    refine rd_Y_lp hat (fun e hc s => ?_) n _ _ _ _ _ p1 (hat _ _ _ _ _ q1 hw (by omega)) (by omega)
    unfold rd_ct at hc ⊢
    split at hc
    · rename_i q; rw [if_pos q]; rfl
    · exact absurd rfl hc
  have hsm : rd_Y (rd_sm b n r L) (m + 8) false := by
    intro e c e' c' s h hw hs
    obtain ⟨e1, c1, q1, p1⟩ := rd_b_inl h
    refine rd_Y_lp htm (fun e hc s => ?_) n _ _ _ _ _ p1 (htm _ _ _ _ _ q1 hw (by omega)) (by omega)
    unfold rd_ca at hc ⊢
    split at hc
    · rename_i q; rw [if_pos q]; rfl
    · rename_i q0
      split at hc
      · rename_i q; rw [if_neg q0, if_pos q]; rfl
      · exact absurd rfl hc
  have hun : rd_Y (rd_un b n r L) (m + 9) true := by
    intro e c e' c' s h hw hs
    unfold rd_un at h
    split at h
    · obtain ⟨e2, c2, q2, p2⟩ := rd_b_inl h
      obtain ⟨e1, c1, q1, p1⟩ := rd_b_inl q2
      obtain ⟨hr, -, rfl⟩ := rd_gd_lt q1
      have w1 := h2 hr _ _ _ _ _ p1 hw (by omega)
      cases p2
      rw [lw_wf_app, w1]
      rfl
    · split at h
      · obtain ⟨e2, c2, q2, p2⟩ := rd_b_inl h
        obtain ⟨e1, c1, q1, p1⟩ := rd_b_inl q2
        obtain ⟨hr, -, rfl⟩ := rd_gd_lt q1
        rw [rd_ts_inl p2]
        exact h3 hr _ _ _ _ _ p1 hw (by omega)
      · obtain ⟨e1, c1, q1, p1⟩ := rd_b_inl h
        split at p1
        · cases p1
        · rename_i hc
          obtain ⟨e2, c2, q2, p2⟩ := rd_b_inl p1
          have w1 := hsm _ _ _ _ _ q1 hw (by omega)
          have w2 := hsm _ _ _ _ _ q2 w1 (by rw [List.length_cons]; omega)
          cases p2
          rw [lw_wf_app, w2]
          unfold rd_cp at hc ⊢
          split at hc
          · rename_i z; rw [if_pos z]; rfl
          · rename_i z0
            split at hc
            · rename_i z; rw [if_neg z0, if_pos z]; rfl
            · rename_i z1
              split at hc
              · rename_i z; rw [if_neg z0, if_neg z1, if_pos z]; rfl
              · exact absurd rfl hc
  have hbo : rd_Y (rd_bo b n r L) (m + 10) true := by
    intro e c e' c' s h hw hs
    obtain ⟨e1, c1, q1, p1⟩ := rd_b_inl h
    refine rd_Y_lp hun (fun e hc s => ?_) n _ _ _ _ _ p1 (hun _ _ _ _ _ q1 hw (by omega)) (by omega)
    unfold rd_cn at hc ⊢
    split at hc
    · rename_i q; rw [if_pos q]; rfl
    · exact absurd rfl hc
  refine ⟨hsm, hun, ?_⟩
  intro e c e' c' s h hw hs
  obtain ⟨e1, c1, q1, p1⟩ := rd_b_inl h
  refine rd_Y_lp hbo (fun e hc s => ?_) n _ _ _ _ _ p1 (hbo _ _ _ _ _ q1 hw (by omega)) (by omega)
  unfold rd_co at hc ⊢
  split at hc
  · rename_i q; rw [if_pos q]; rfl
  · exact absurd rfl hc
theorem rd_Y_lv {b : Nat → Nat} {n : Nat} (he : ∀ e, rd_kd b n e = 2 → rd_va b n e < 1005) (r : Nat) : rd_Y (rd_lv b n r).1 (5 * r + 8) false ∧ rd_Y (rd_lv b n r).2.1 (5 * r + 9) true ∧ rd_Y (rd_lv b n r).2.2 (5 * r + 11) true := by
  induction r with
  | zero => exact rd_Y_step (m := 0) (fun h => absurd rfl h) (fun h => absurd rfl h) (fun h => absurd rfl h) he
  | succ r ih =>
    obtain ⟨h1, h2, h3⟩ := ih
    have := rd_Y_step (b := b) (n := n) (r := r + 1) (m := 5 * r + 5) (L := rd_lv b n r) (fun _ => h1) (fun _ => h2) (fun _ => h3) he
    exact ⟨this.1.mono (by omega), this.2.1.mono (by omega), this.2.2.mono (by omega)⟩
