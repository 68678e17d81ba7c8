/-! The model: street, head and whole -/
theorem I_ex (y : Int32) : ∃ m : Nat, y = nI m := ⟨y.toBitVec.toNat, (nI_back y).symm⟩
theorem I_fun (f : Nat → Int32) : ∃ g : Nat → Nat, f = fun j => nI (g j) := ⟨fun j => (f j).toBitVec.toNat, funext (fun j => (nI_back (f j)).symm)⟩
theorem fI_ex (v : Value) : ∃ x : Int32, fI v = .int x := by
  unfold fI
  split
  · exact ⟨_, rfl⟩
  · exact ⟨0, rfl⟩
theorem named_m {b : Nat → Nat} {n : Nat} {lo hi : Nat} {R : rd_R} {y : Int32} (hy : ∀ e c z, R = .inl (e, c) → rd_tn b n lo hi e c = .inl z → y = nI (rd_va b n e)) : ∃ m : Nat, y = nI m ∧ ∀ e c z, R = .inl (e, c) → rd_tn b n lo hi e c = .inl z → m = rd_va b n e := by
  match R, hy with
  | .inr x, _ =>
    obtain ⟨m, hm⟩ := I_ex y
    exact ⟨m, hm, fun _ _ _ q => nomatch q⟩
  | .inl (e, c), hy =>
    cases hq : rd_tn b n lo hi e c with
    | inr x =>
      obtain ⟨m, hm⟩ := I_ex y
      exact ⟨m, hm, fun e' c' z q1 q2 => (by cases q1; rw [hq] at q2; cases q2)⟩
    | inl z => exact ⟨rd_va b n e, hy e c z rfl hq, fun e' c' z' q1 _ => (by cases q1; rfl)⟩
theorem mr_R.put {r : rd_R} {h h' : az_Hp} {i m : Nat} {g : Nat → Nat} {sc : Nat → Value} {b : Nat → Nat} {n : Nat} {fr : Nat → Nat} {k0 : Nat} (H : mr_R h sc b n fr k0 r) (hg : ∀ e c, r = .inl (e, c) → g 205 = k0 + c.length ∧ (∀ i, i < c.length → g (206 + k0 + i) = c.getD i 0) ∧ ∀ j, (j < 205 ∨ (206 ≤ j ∧ j < 206 + k0)) → g j = fr j) (hi : i < 205) (hf : mf h h' [68]) (h68 : h'.2 68 = some (az_I 1106 (fun j => nI (az_s g i m j)))) : mr_R h' sc b n (az_s fr i m) k0 r := by
  match r, H, hg with
  | .inl (e, c), H, hg =>
    obtain ⟨hT, he, hc, ⟨k, nu, wa, k1, k2, k3⟩, -⟩ := H
    obtain ⟨g1, g2, g3⟩ := hg e c rfl
    refine ⟨hT.fr hf, he, hc, ⟨k, nu, wa, k1, k2, hf.at k3⟩, az_s g i m, h68, ?_, fun j hj => ?_, fun j hj => ?_⟩
    · rw [az_s_ne (by omega)]
      exact g1
    · rw [az_s_ne (by omega)]
      exact g2 j hj
    · by_cases e9 : j = i
      · rw [e9, az_s_eq, az_s_eq]
      · rw [az_s_ne e9, az_s_ne e9]
        exact g3 j hj
  | .inr x, H, _ =>
    obtain ⟨hT, h1, h2, h3, ⟨a, z, ki, nu, h64⟩, -⟩ := H
    exact ⟨hT.fr hf, h1, h2, h3, ⟨a, z, ki, nu, hf.at h64⟩, _, h68⟩
theorem rd_town_gd9 {b : Nat → Nat} {n : Nat} (hn : n ≤ 900) {e : Nat} {v : rd_V} (h : rd_town b n = .inl (e, v)) : rd_gd9 v := by
  unfold rd_town at h
  split at h
  · cases h
  · rename_i y hy
    have q1 := rd_head_gd rd_gd9_0 hy
    have q2 := rd_head_le (Nat.zero_le n) hy
    exact rd_ll_gd hn _ _ _ q2.2.1 q1 h
def hdT (r : rd_R) (m3 m5 : Nat) : rd_T := match r with
  | .inl x => .inl (x.1, (m3, m5, 0, rd_v0.2.2.2))
  | .inr x => .inr x
theorem head_x {b : Nat → Nat} {n : Nat} {r2 r3 r5 : rd_R} {m3 m5 : Nat} (q2 : r2 = rd_tw b n "street" 0 []) (q3 : r3 = rd_b (rd_b r2 (rd_tw b n "tables")) (rd_tn b n 1 3)) (h3 : ∀ e c z, rd_b r2 (rd_tw b n "tables") = .inl (e, c) → rd_tn b n 1 3 e c = .inl z → m3 = rd_va b n e) (q5 : r5 = rd_b (rd_b r3 (rd_tw b n "moon")) (rd_tn b n 0 9)) (h5 : ∀ e c z, rd_b r3 (rd_tw b n "moon") = .inl (e, c) → rd_tn b n 0 9 e c = .inl z → m5 = rd_va b n e) : rd_head b n 0 rd_v0 = rd_cl b n (hdT r5 m3 m5) ∧ ∀ e c, r5 = .inl (e, c) → c = [] ∧ 1 ≤ m3 ∧ m3 ≤ 3 := by
  unfold rd_head
  cases e1 : rd_tw b n "street" 0 [] with
  | inr x =>
    rw [e1] at q2
    subst q2
    subst q3
    subst q5
    exact ⟨rfl, fun e c q => nomatch q⟩
  | inl x1 =>
    obtain ⟨x1, c1⟩ := x1
    obtain rfl := rd_tw_inl e1
    rw [e1] at q2
    subst q2
    replace q3 : r3 = rd_b (rd_tw b n "tables" x1 []) (rd_tn b n 1 3) := q3
    replace h3 : ∀ e c z, rd_tw b n "tables" x1 [] = .inl (e, c) → rd_tn b n 1 3 e c = .inl z → m3 = rd_va b n e := h3
    dsimp only
    cases e2 : rd_tw b n "tables" x1 [] with
    | inr x =>
      rw [e2] at q3
      subst q3
      subst q5
      exact ⟨rfl, fun e c q => nomatch q⟩
    | inl x2 =>
      obtain ⟨x2, c2⟩ := x2
      obtain rfl := rd_tw_inl e2
      rw [e2] at q3
      replace q3 : r3 = rd_tn b n 1 3 x2 [] := q3
      dsimp only
      cases e3 : rd_tn b n 1 3 x2 [] with
      | inr x =>
        rw [e3] at q3
        subst q3
        subst q5
        exact ⟨rfl, fun e c q => nomatch q⟩
      | inl x3 =>
        obtain ⟨x3, c3⟩ := x3
        obtain rfl := tn_c e3
        obtain rfl := h3 x2 [] _ e2 e3
        have hin := rd_tn_in e3
        rw [e3] at q3
        subst q3
        replace q5 : r5 = rd_b (rd_tw b n "moon" x3 []) (rd_tn b n 0 9) := q5
        replace h5 : ∀ e c z, rd_tw b n "moon" x3 [] = .inl (e, c) → rd_tn b n 0 9 e c = .inl z → m5 = rd_va b n e := h5
        dsimp only
        cases e4 : rd_tw b n "moon" x3 [] with
        | inr x =>
          rw [e4] at q5
          subst q5
          exact ⟨rfl, fun e c q => nomatch q⟩
        | inl x4 =>
          obtain ⟨x4, c4⟩ := x4
          obtain rfl := rd_tw_inl e4
          rw [e4] at q5
          replace q5 : r5 = rd_tn b n 0 9 x4 [] := q5
          dsimp only
          cases e5 : rd_tn b n 0 9 x4 [] with
          | inr x =>
            rw [e5] at q5
            subst q5
            exact ⟨rfl, fun e c q => nomatch q⟩
          | inl x5 =>
            obtain ⟨x5, c5⟩ := x5
            obtain rfl := tn_c e5
            obtain rfl := h5 x4 [] _ e4 e5
            rw [e5] at q5
            subst q5
            refine ⟨?_, fun e c q => (by cases q; exact ⟨rfl, hin⟩)⟩
            show _ = rd_cl b n (.inl (x5, _))
            unfold rd_cl
            dsimp only
            cases rd_ts b n 59 x5 [] with
            | inr x => rfl
            | inl x => rfl
theorem hd_B {r5 : rd_R} {m3 m5 : Nat} (h : ∀ e c, r5 = .inl (e, c) → c = [] ∧ 1 ≤ m3 ∧ m3 ≤ 3) (e : Nat) (v : rd_V) (q : hdT r5 m3 m5 = .inl (e, v)) : mr_B v := by
  match r5, h, q with
  | .inr x, _, q => exact nomatch q
  | .inl (e1, c1), h, q =>
    obtain ⟨-, h1, h2⟩ := h e1 c1 rfl
    cases q
    exact ⟨h1, h2, (show (1 : Nat) ≤ 12 by decide), fun r hr => (gd9_B rd_gd9_0).2.2.2 r hr⟩
theorem hd_V {g : Nat → Nat} {m3 m5 : Nat} (h : mr_V g rd_v0 0) : mr_V (az_s (az_s g 1 m3) 111 m5) (m3, m5, 0, rd_v0.2.2.2) 0 := by
  obtain ⟨⟨u0, u1, u2, u3, u4, u5, u6, u7⟩, ⟨w1, w2, w3, w4⟩, -, -⟩ := h
  have hn : ∀ j, j ≠ 1 → j ≠ 111 → az_s (az_s g 1 m3) 111 m5 j = g j := fun j j1 j2 => (az_s_ne j2).trans (az_s_ne j1)
  refine ⟨⟨(hn 0 (by decide) (by decide)).trans u0, (az_s_ne (by decide)).trans az_s_eq, (hn 2 (by decide) (by decide)).trans u2, fun k hk => ?_, fun r hr => ?_, fun r i hr hi => ?_, ⟨fun _ => (hn 105 (by decide) (by decide)).trans (u6.1 rfl), fun q => absurd rfl q⟩, ⟨fun _ => (hn 106 (by decide) (by decide)).trans (u7.1 rfl), fun q => absurd rfl q⟩⟩, ⟨az_s_eq, (hn 112 (by decide) (by decide)).trans w2, (hn 113 (by decide) (by decide)).trans w3, (hn 114 (by decide) (by decide)).trans w4⟩, fun q => absurd rfl q, fun q => absurd rfl q⟩
  · have hk1 : k < 1 := hk
    exact (hn _ (by omega) (by omega)).trans (u3 k hk)
  · exact (hn _ (by omega) (by omega)).trans (u4 r hr)
  · have h4 := (gd9_B rd_gd9_0).2.2.2 r hr
    have hi : i < rd_v0.2.2.2.2.2.1 r := hi
    exact (hn _ (by omega) (by omega)).trans (u5 r i hr hi)
theorem hd_L {h : az_Hp} {sc : Nat → Value} {b : Nat → Nat} {n : Nat} {fr : Nat → Nat} {r5 : rd_R} {m3 m5 : Nat} (H : mr_R h sc b n fr 0 r5) (hV : mr_V fr (m3, m5, 0, rd_v0.2.2.2) 0) (hc : ∀ e c, r5 = .inl (e, c) → c = [] ∧ 1 ≤ m3 ∧ m3 ≤ 3) : mr_L h sc b n (hdT r5 m3 m5) := by
  match r5, H, hc with
  | .inr x, H, _ => exact H
  | .inl (e, c), H, hc =>
    obtain ⟨rfl, -⟩ := hc e c rfl
    exact ⟨fr, 0, H, hV⟩
set_option maxHeartbeats 4000000 in
set_option maxRecDepth 100000 in
theorem m_streetB {d a n : Nat} {x ki nu wa : Int32} {sc : Nat → Value} {b g : Nat → Nat} {hp : az_Hp} {Q : Option Value → az_Hp → Prop} (hd : 12 ≤ d) (hT : mr_T hp b n) (h64 : hp.2 64 = some (mr_o sc a 0 n ki nu (nI 0) wa)) (h68 : hp.2 68 = some (az_I 1106 (fun j => nI (g j)))) (hV : mr_V g rd_v0 0) (h5 : g 205 = 0) (hQ : ∀ h', mr_L h' sc b n (rd_head b n 0 rd_v0) → mf hp h' [64, 68] → az_W mX12_street d 0 0 98 [(0, .ref 64), (1, .int x)] [] h' Q) : az_W mX12_street d 0 0 49 [(0, .ref 64), (1, .int x)] [] hp Q := by
  refine az_aload_n dX12_street_49 ?_
  refine az_cV0 (st := []) dX12_street_50 ml_X12_162 h64 (m_nextF (d := d - 1) (by omega) hT h64 h68 h5 ?_)
  intro h1 H1 mf1
  obtain ⟨a1, z1, ki1, nu1, wa1, e1, w1, hki1, hnu1⟩ := H1.o
  refine az_aload_n dX12_street_53 ?_
  refine az_iconst (v := nI 0) dX12_street_54 ?_
  refine az_cV0 (st := []) dX12_street_55 ml_X12_185 e1 (m_eats (d := d - 1) (k9 := 0) (by omega) (by decide) H1 ?_ ?_)
  · intro ee cc hr hm h2 H2 mf2
    rw [← tok_1 (tkW (fun e he => kw_street he)) (fun e c q => (H1.le e c q).1) hr hm] at H2
    obtain ⟨r2, q2⟩ : ∃ x : rd_R, x = rd_b (.inl (0, [])) (rd_tw b n "street") := ⟨_, rfl⟩
    rw [← q2] at H2
    obtain ⟨a2, z2, ki2, nu2, wa2, e2, w2, hki2, hnu2⟩ := H2.o
    refine az_if_neN (tgt := 66) dX12_street_58 (fun c58 => ?_) (fun c58 => ?_)
    · refine az_aload_n dX12_street_66 ?_
      refine az_getf (v := .ref 68) dX12_street_67 fl_X12_24 e2 ?_
      refine az_iconst (v := nI 1) dX12_street_70 ?_
      refine az_aload_n dX12_street_71 ?_
      refine az_iconst (v := nI 1) dX12_street_72 ?_
      refine az_iconst (v := nI 1) dX12_street_73 ?_
      refine az_iconst (v := nI 3) dX12_street_74 ?_
      refine az_cV0 (st := [.int (nI 1), .ref 68]) dX12_street_75 ml_X12_222 e2 (m_named (d := d - 1) (k9 := 1) (lo := 1) (hi := 3) (t := "tables") (by omega) (by decide) (by decide) (by decide) (tkW (fun e he => kw_tables he)) H2 ?_)
      intro h3 y3 H3 mf3 hy3
      obtain ⟨m3, rfl, hm3⟩ := named_m hy3
      obtain ⟨r3, q3⟩ : ∃ x : rd_R, x = rd_b (rd_b r2 (rd_tw b n "tables")) (rd_tn b n 1 3) := ⟨_, rfl⟩
      rw [← q3] at H3
      obtain ⟨a3, z3, ki3, nu3, wa3, e3, w3, hki3, hnu3⟩ := H3.o
      obtain ⟨g3, f3, hg3⟩ := H3.g
      refine az_iastN (j := 1) dX12_street_78 f3 ?_
      rw [az_s_nI]
      refine az_aload_n dX12_street_79 ?_
      refine az_getf (v := .ref 68) dX12_street_80 fl_X12_24 (az_up_ne e3) ?_
      refine az_bipush (v := nI 111) dX12_street_83 ?_
      refine az_aload_n dX12_street_85 ?_
      refine az_iconst (v := nI 2) dX12_street_86 ?_
      refine az_iconst (v := nI 0) dX12_street_87 ?_
      refine az_bipush (v := nI 9) dX12_street_88 ?_
      refine az_cV0 (st := [.int (nI 111), .ref 68]) dX12_street_90 ml_X12_222 (az_up_ne e3) (m_named (d := d - 1) (k9 := 2) (lo := 0) (hi := 9) (t := "moon") (by omega) (by decide) (by decide) (by decide) (tkW (fun e he => kw_moon he)) (H3.put (i := 1) (m := m3) hg3 (by decide) (mf.rf.up (by decide)) az_up_eq) ?_)
      intro h5' y5 H5 mf5 hy5
      obtain ⟨m5, rfl, hm5⟩ := named_m hy5
      obtain ⟨r5, q5⟩ : ∃ x : rd_R, x = rd_b (rd_b r3 (rd_tw b n "moon")) (rd_tn b n 0 9) := ⟨_, rfl⟩
      rw [← q5] at H5
      obtain ⟨a5, z5, ki5, nu5, wa5, e5, w5, hki5, hnu5⟩ := H5.o
      obtain ⟨g5, f5, hg5⟩ := H5.g
      have hx := head_x q2 q3 hm3 q5 hm5
      refine az_iastN (j := 111) dX12_street_93 f5 ?_
      rw [az_s_nI]
      refine az_aload_n dX12_street_94 ?_
      refine az_cV0 (st := []) dX12_street_95 ml_X12_226 (az_up_ne e5) (m_closes (d := d - 1) (r := hdT r5 m3 m5) (by omega) (hd_B hx.2) (hd_L (H5.put (i := 111) (m := m5) hg5 (by decide) (mf.rf.up (by decide)) az_up_eq) (hd_V hV) hx.2) ?_)
      intro h7 H7 mf7
      rw [← hx.1] at H7
      exact hQ h7 H7 ((((((mf1.wk.tr mf2 (by decide)).tr mf3 (by decide)).up (by decide)).tr mf5 (by decide)).up (by decide)).tr mf7 (by decide))
    · exact absurd c58 (by omega)
  · intro hno
    refine az_if_neN (tgt := 66) dX12_street_58 (fun c58 => ?_) (fun c58 => ?_)
    · exact absurd c58 (by omega)
    · refine az_aload_n dX12_street_61 ?_
      refine az_iconst (v := nI 2) dX12_street_62 ?_
      refine az_cV0 (st := []) dX12_street_63 ml_X12_165 e1 (m_fails (d := d - 1) (f9 := 2) (by decide) (by decide) H1 ?_)
      intro h2 H2 mf2
      rw [← tok_0 (tkW (fun e he => kw_street he)) (fun e c q => (H1.le e c q).1) hno] at H2
      obtain ⟨r2, q2⟩ : ∃ x : rd_R, x = rd_b (.inl (0, [])) (rd_tw b n "street") := ⟨_, rfl⟩
      rw [← q2] at H2
      obtain ⟨a2, z2, ki2, nu2, wa2, e2, w2, hki2, hnu2⟩ := H2.o
      refine az_aload_n dX12_street_66 ?_
      refine az_getf (v := .ref 68) dX12_street_67 fl_X12_24 e2 ?_
      refine az_iconst (v := nI 1) dX12_street_70 ?_
      refine az_aload_n dX12_street_71 ?_
      refine az_iconst (v := nI 1) dX12_street_72 ?_
      refine az_iconst (v := nI 1) dX12_street_73 ?_
      refine az_iconst (v := nI 3) dX12_street_74 ?_
      refine az_cV0 (st := [.int (nI 1), .ref 68]) dX12_street_75 ml_X12_222 e2 (m_named (d := d - 1) (k9 := 1) (lo := 1) (hi := 3) (t := "tables") (by omega) (by decide) (by decide) (by decide) (tkW (fun e he => kw_tables he)) H2 ?_)
      intro h3 y3 H3 mf3 hy3
      obtain ⟨m3, rfl, hm3⟩ := named_m hy3
      obtain ⟨r3, q3⟩ : ∃ x : rd_R, x = rd_b (rd_b r2 (rd_tw b n "tables")) (rd_tn b n 1 3) := ⟨_, rfl⟩
      rw [← q3] at H3
      obtain ⟨a3, z3, ki3, nu3, wa3, e3, w3, hki3, hnu3⟩ := H3.o
      obtain ⟨g3, f3, hg3⟩ := H3.g
      refine az_iastN (j := 1) dX12_street_78 f3 ?_
      rw [az_s_nI]
      refine az_aload_n dX12_street_79 ?_
      refine az_getf (v := .ref 68) dX12_street_80 fl_X12_24 (az_up_ne e3) ?_
      refine az_bipush (v := nI 111) dX12_street_83 ?_
      refine az_aload_n dX12_street_85 ?_
      refine az_iconst (v := nI 2) dX12_street_86 ?_
      refine az_iconst (v := nI 0) dX12_street_87 ?_
      refine az_bipush (v := nI 9) dX12_street_88 ?_
      refine az_cV0 (st := [.int (nI 111), .ref 68]) dX12_street_90 ml_X12_222 (az_up_ne e3) (m_named (d := d - 1) (k9 := 2) (lo := 0) (hi := 9) (t := "moon") (by omega) (by decide) (by decide) (by decide) (tkW (fun e he => kw_moon he)) (H3.put (i := 1) (m := m3) hg3 (by decide) (mf.rf.up (by decide)) az_up_eq) ?_)
      intro h5' y5 H5 mf5 hy5
      obtain ⟨m5, rfl, hm5⟩ := named_m hy5
      obtain ⟨r5, q5⟩ : ∃ x : rd_R, x = rd_b (rd_b r3 (rd_tw b n "moon")) (rd_tn b n 0 9) := ⟨_, rfl⟩
      rw [← q5] at H5
      obtain ⟨a5, z5, ki5, nu5, wa5, e5, w5, hki5, hnu5⟩ := H5.o
      obtain ⟨g5, f5, hg5⟩ := H5.g
      have hx := head_x q2 q3 hm3 q5 hm5
      refine az_iastN (j := 111) dX12_street_93 f5 ?_
      rw [az_s_nI]
      refine az_aload_n dX12_street_94 ?_
      refine az_cV0 (st := []) dX12_street_95 ml_X12_226 (az_up_ne e5) (m_closes (d := d - 1) (r := hdT r5 m3 m5) (by omega) (hd_B hx.2) (hd_L (H5.put (i := 111) (m := m5) hg5 (by decide) (mf.rf.up (by decide)) az_up_eq) (hd_V hV) hx.2) ?_)
      intro h7 H7 mf7
      rw [← hx.1] at H7
      exact hQ h7 H7 ((((((mf1.wk.tr mf2 (by decide)).tr mf3 (by decide)).up (by decide)).tr mf5 (by decide)).up (by decide)).tr mf7 (by decide))
theorem mk.mf {h h' : az_Hp} {L : List Nat} (H : mk h) (hf : mf h h' L) (hL : ∀ q ∈ L, q = 64 ∨ q = 65 ∨ q = 67 ∨ q = 68 ∨ q = 69) (h8 : ∃ f, h'.2 68 = some (az_I 1106 f)) (h9 : ∃ f, h'.2 69 = some (az_I 12 f)) : mk h' := by
  intro q q1 q2
  by_cases e8 : q = 68
  · rw [e8]
    exact h8
  · by_cases e9 : q = 69
    · rw [e9]
      exact h9
    · have g := H q q1 q2
      unfold mk1 at g ⊢
      rw [hf.2 q (fun c => (by have := hL q c; omega))]
      exact g
theorem mr_mo {sc : Nat → Value} {a z n : Nat} {ki nu wr wa : Int32} : mr_o sc a z n ki nu wr wa = mo_o (su (su (su (su (su (su (su sc 6 (.int (nI a))) 7 (.int (nI z))) 8 (.int (nI n))) 9 (.int ki)) 10 (.int nu)) 11 (.int wr)) 12 (.int wa)) := rfl
theorem mV.cg {A A' : Nat → Nat} {v : rd_V} (H : mV A v) (hB : mr_B v) (h : ∀ j, j < 1106 → A' j = A j) : mV A' v := by
  obtain ⟨u0, u1, u2, u3, u4, u5, u6, u7⟩ := H
  obtain ⟨-, -, hB1, hB2⟩ := hB
  refine ⟨(h _ (by decide)).trans u0, (h _ (by decide)).trans u1, (h _ (by decide)).trans u2, fun k hk => (h _ (by omega)).trans (u3 k hk), fun r hr => (h _ (by omega)).trans (u4 r hr), fun r i hr hi => (h _ (by have := hB2 r hr; omega)).trans (u5 r i hr hi), ?_, ?_⟩
  · refine ⟨fun q => (h _ (by decide)).trans (u6.1 q), fun q => ?_⟩
    obtain ⟨k1, k2, k3, k4⟩ := u6.2 q
    exact ⟨(h _ (by decide)).trans k1, (h _ (by decide)).trans k2, (by rw [h _ (by decide)]; exact k3), fun i hi => (by rw [h (107 + 0) (by decide), h _ (by omega)]; exact k4 i hi)⟩
  · refine ⟨fun q => (h _ (by decide)).trans (u7.1 q), fun q => ?_⟩
    obtain ⟨k1, k2, k3, k4⟩ := u7.2 q
    exact ⟨(h _ (by decide)).trans k1, (h _ (by decide)).trans k2, (by rw [h _ (by decide)]; exact k3), fun i hi => (by rw [h (107 + 1) (by decide), h _ (by omega)]; exact k4 i hi)⟩
theorem mI.cg {A A' : Nat → Nat} {hI : Nat → Int32} {im : Nat → Option (rd_V × ln_Z)} (H : mI A hI im) (h : ∀ j, 1106 ≤ j → A' j = A j) : mI A' hI im := by
  intro i hi
  have g := H i hi
  cases hm : im i with
  | none =>
    rw [hm] at g
    exact g
  | some x =>
    rw [hm] at g
    refine ⟨g.1, ?_⟩
    have e9 : (fun k => A' (1106 * (i + 1) + k)) = fun k => A (1106 * (i + 1) + k) := funext (fun k => h _ (by omega))
    rw [e9]
    exact g.2

