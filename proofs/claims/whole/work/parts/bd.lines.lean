/-! The model's reader: the lines' state; closes, stands -/
def mr_V (fr : Nat → Nat) (v : rd_V) (k0 : Nat) : Prop := mV fr v ∧ (fr 111 = v.2.1 ∧ fr 112 = 0 ∧ fr 113 = 0 ∧ fr 114 = 0) ∧ (v.2.2.2.2.2.2.2.1 ≠ [] → fr 107 + v.2.2.2.2.2.2.2.1.length ≤ k0) ∧ (v.2.2.2.2.2.2.2.2 ≠ [] → fr 108 + v.2.2.2.2.2.2.2.2.length ≤ k0)
def mr_L (h : az_Hp) (sc : Nat → Value) (b : Nat → Nat) (n : Nat) (r : rd_T) : Prop := match r with
  | .inl x => ∃ fr k0, mr_R h sc b n fr k0 (.inl (x.1, [])) ∧ mr_V fr x.2 k0
  | .inr x => mr_R h sc b n (fun _ => 0) 0 (.inr x)
theorem mL.cg {A A' : Nat → Nat} {l k0 : Nat} {k : List Nat} (H : mL A l k) (hk : k ≠ [] → A (107 + l) + k.length ≤ k0) (h : ∀ j, (j = 105 + l ∨ j = 107 + l ∨ j = 109 + l ∨ (206 ≤ j ∧ j < 206 + k0)) → A' j = A j) : mL A' l k ∧ (k ≠ [] → A' (107 + l) + k.length ≤ k0) := by
  refine ⟨⟨fun q => (h _ (by omega)).trans (H.1 q), fun q => ?_⟩, fun q => ?_⟩
  · obtain ⟨h1, h2, h3, h4⟩ := H.2 q
    have h5 := hk q
    refine ⟨(h _ (by omega)).trans h1, (h _ (by omega)).trans h2, ?_, fun i hi => ?_⟩
    · rw [h (107 + l) (by omega)]; exact h3
    · rw [h (107 + l) (by omega), h _ (by omega)]; exact h4 i hi
  · rw [h (107 + l) (by omega)]; exact hk q
theorem mr_V.cg {g fr : Nat → Nat} {v : rd_V} {k0 : Nat} (H : mr_V fr v k0) (h : ∀ j, (j < 205 ∨ (206 ≤ j ∧ j < 206 + k0)) → g j = fr j) (hv : v.2.2.2.1 ≤ 12) (hz : ∀ r, r < 18 → v.2.2.2.2.2.1 r ≤ 4) : mr_V g v k0 := by
  obtain ⟨⟨a1, a2, a3, a4, a5, a6, a7, a8⟩, ⟨b1, b2, b3, b4⟩, c1, c2⟩ := H
  obtain ⟨d1, d2⟩ := a7.cg (A' := g) (k0 := k0) c1 (fun j hj => h j (by omega))
  obtain ⟨d3, d4⟩ := a8.cg (A' := g) (k0 := k0) c2 (fun j hj => h j (by omega))
  exact ⟨⟨(h 0 (by omega)).trans a1, (h 1 (by omega)).trans a2, (h 2 (by omega)).trans a3, fun k hk => (h _ (by omega)).trans (a4 k hk), fun r hr => (h _ (by omega)).trans (a5 r hr), fun r i hr hi => (h _ (by have := hz r hr; omega)).trans (a6 r i hr hi), d1, d3⟩, ⟨(h 111 (by omega)).trans b1, (h 112 (by omega)).trans b2, (h 113 (by omega)).trans b3, (h 114 (by omega)).trans b4⟩, d2, d4⟩
/-- the words' bounds -/
def mr_B (v : rd_V) : Prop := 1 ≤ v.1 ∧ v.1 ≤ 3 ∧ v.2.2.2.1 ≤ 12 ∧ ∀ r, r < 18 → v.2.2.2.2.2.1 r ≤ 4
theorem mr_V.lin {g : Nat → Nat} {v : rd_V} {k0 : Nat} (H : mr_V g v k0) (hB : mr_B v) : mr_V (az_s g 0 (g 0 + 1)) (rd_lin v) k0 := by
  obtain ⟨⟨a1, a2, a3, a4, a5, a6, a7, a8⟩, ⟨b1, b2, b3, b4⟩, c1, c2⟩ := H
  have h : ∀ j, j ≠ 0 → az_s g 0 (g 0 + 1) j = g j := fun j hj => az_s_ne hj
  obtain ⟨d1, d2⟩ := a7.cg (A' := az_s g 0 (g 0 + 1)) (k0 := k0) c1 (fun j hj => h j (by omega))
  obtain ⟨d3, d4⟩ := a8.cg (A' := az_s g 0 (g 0 + 1)) (k0 := k0) c2 (fun j hj => h j (by omega))
  exact ⟨⟨az_s_eq.trans (congrArg (· + 1) a1), (h 1 (by omega)).trans a2, (h 2 (by omega)).trans a3, fun k hk => (h _ (by omega)).trans (a4 k hk), fun r hr => (h _ (by omega)).trans (a5 r hr), fun r i hr hi => (h _ (by omega)).trans (a6 r i hr hi), d1, d3⟩, ⟨(h 111 (by omega)).trans b1, (h 112 (by omega)).trans b2, (h 113 (by omega)).trans b3, (h 114 (by omega)).trans b4⟩, d2, d4⟩
theorem mr_R.g {r : rd_R} {h : az_Hp} {sc : Nat → Value} {b : Nat → Nat} {n : Nat} {fr : Nat → Nat} {k0 : Nat} (H : mr_R h sc b n fr k0 (r)) : ∃ g : Nat → Nat, h.2 68 = some (az_I 1106 (fun j => nI (g j))) ∧ (∀ e c, r = .inl (e, c) → g 205 = k0 + c.length ∧ (∀ i, i < c.length → g (206 + k0 + i) = c.getD i 0) ∧ ∀ j, (j < 205 ∨ (206 ≤ j ∧ j < 206 + k0)) → g j = fr j) := by
  match r, H with
  | .inr x, H => obtain ⟨-, -, -, -, -, g, hg⟩ := H; exact ⟨g, hg, fun e c q => nomatch q⟩
  | .inl (e, c), H =>
    obtain ⟨-, -, -, -, g, hg, h1, h2, h3⟩ := H
    exact ⟨g, hg, fun e c q => (by cases q; exact ⟨h1, h2, h3⟩)⟩
/-- a row written anew, with no words behind it -/
theorem mr_R.L {e : Nat} {c : List Nat} {h h' : az_Hp} {v : rd_V} {g' : Nat → Nat} {L : List Nat} {sc : Nat → Value} {b : Nat → Nat} {n : Nat} {fr : Nat → Nat} {k0 : Nat} (H : mr_R h sc b n fr k0 (.inl (e, c))) (hf : mf h h' [68]) (h68 : h'.2 68 = some (az_I 1106 (fun j => nI (g' j)))) (h5 : g' 205 = k0 + c.length) (hV : mr_V g' v (k0 + c.length)) : mr_L h' sc b n (.inl (e, v)) := by
  obtain ⟨hT, h1, h2, ⟨k, nu, wa, hk, hnu, h64⟩, -⟩ := H
  exact ⟨g', k0 + c.length, ⟨hT.fr hf, h1, h2, ⟨k, nu, wa, hk, hnu, hf.at h64⟩, g', h68, h5, fun i hi => absurd hi (Nat.not_lt_zero i), fun _ _ => rfl⟩, hV⟩
theorem mr_R.X {x : Nat × Nat} {h h' : az_Hp} {g' : Nat → Nat} {sc : Nat → Value} {b : Nat → Nat} {n : Nat} {fr : Nat → Nat} {k0 : Nat} (H : mr_R h sc b n fr k0 (.inr x)) (hf : mf h h' [68]) (h68 : h'.2 68 = some (az_I 1106 (fun j => nI (g' j)))) : mr_L h' sc b n (.inr x) := by
  obtain ⟨hT, h1, h2, h3, ⟨a, z, ki, nu, h64⟩, -⟩ := H
  exact ⟨hT.fr hf, h1, h2, h3, ⟨a, z, ki, nu, hf.at h64⟩, g', h68⟩
def rd_cl (b : Nat → Nat) (n : Nat) (r : rd_T) : rd_T := match r with
  | .inr x => .inr x
  | .inl x => match rd_ts b n 59 x.1 [] with
    | .inr y => .inr y
    | .inl y => .inl (y.1, rd_lin x.2)

set_option maxHeartbeats 4000000 in
set_option maxRecDepth 100000 in
theorem m_closesR {d : Nat} {sc : Nat → Value} {b : Nat → Nat} {n : Nat} {fr : Nat → Nat} {k0 : Nat} {r0 : rd_R} {hp : az_Hp} {Q : Option Value → az_Hp → Prop} (hd : 9 ≤ d) (H0 : mr_R hp sc b n fr k0 (r0)) (hQ : ∀ h1 h' g, mr_R h1 sc b n fr k0 (rd_b r0 (rd_ts b n 59)) → (∀ e c, rd_b r0 (rd_ts b n 59) = .inl (e, c) → g 205 = k0 + c.length ∧ (∀ i, i < c.length → g (206 + k0 + i) = c.getD i 0) ∧ ∀ j, (j < 205 ∨ (206 ≤ j ∧ j < 206 + k0)) → g j = fr j) → h'.2 68 = some (az_I 1106 (fun j => nI (az_s g 0 (g 0 + 1) j))) → mf hp h1 [64] → mf h1 h' [68] → Q none h') : az_M mX12_closes d 0 0 [.ref 64] hp Q := by
  obtain ⟨a0, z0, ki0, nu0, wa0, e0, w0, hki0, hnu0⟩ := H0.o
  refine az_M.of rfl (Nat.le_of_ble_eq_true rfl) ?_
  show az_W _ _ _ _ 0 [(0, .ref 64)] [] _ _
  refine az_aload_n dX12_closes_0 ?_
  refine az_bipush (v := nI 30) dX12_closes_1 ?_
  refine az_cV0 (st := []) dX12_closes_3 ml_X12_185 e0 (m_eats (d := d - 1) (k9 := 30) (by omega) (by decide) H0 ?_ ?_)
  · intro ee1 cc1 hr1 hm1 h1 H1 mf1
    rw [← tok_1 (tkS (fun e => ks_59)) (fun e c q => (H0.le e c q).1) hr1 hm1] at H1
    obtain ⟨r1, q1⟩ : ∃ x : rd_R, x = rd_b r0 (rd_ts b n 59) := ⟨_, rfl⟩
    rw [← q1] at H1
    obtain ⟨a1, z1, ki1, nu1, wa1, e1, w1, hki1, hnu1⟩ := H1.o
    obtain ⟨g, h68, hg⟩ := H1.g
    refine az_if_neN (tgt := 14) dX12_closes_6 (fun c6 => ?_) (fun c6 => ?_)
    · refine az_aload_n dX12_closes_14 ?_
      refine az_getf (v := .ref 68) dX12_closes_15 fl_X12_24 e1 ?_
      refine az_iconst (v := nI 0) dX12_closes_18 ?_
      refine az_dup2_11 dX12_closes_19 ?_
      refine az_ialdN (j := 0) dX12_closes_20 h68 ?_ (by decide)
      refine az_iconst (v := nI 1) dX12_closes_21 ?_
      refine az_iaddN dX12_closes_22 ?_
      refine az_iastN (j := 0) dX12_closes_23 h68 ?_ (by decide)
      rw [az_s_nI]
      exact az_vret dX12_closes_24 (hQ h1 _ g (by rw [← q1]; exact H1) (by rw [← q1]; exact hg) az_up_eq mf1 (mf.rf.up (by decide)))
    · exact absurd c6 (by omega)
  · intro hno1
    refine az_if_neN (tgt := 14) dX12_closes_6 (fun c6 => ?_) (fun c6 => ?_)
    · exact absurd c6 (by omega)
    · refine az_aload_n dX12_closes_9 ?_
      refine az_iconst (v := nI 2) dX12_closes_10 ?_
      refine az_cV0 (st := []) dX12_closes_11 ml_X12_165 e0 (m_fails (d := d - 1) (f9 := 2) (by decide) (by decide) H0 ?_)
      intro h1 H1 mf1
      rw [← tok_0 (tkS (fun e => ks_59)) (fun e c q => (H0.le e c q).1) hno1] at H1
      obtain ⟨r1, q1⟩ : ∃ x : rd_R, x = rd_b r0 (rd_ts b n 59) := ⟨_, rfl⟩
      rw [← q1] at H1
      obtain ⟨a1, z1, ki1, nu1, wa1, e1, w1, hki1, hnu1⟩ := H1.o
      obtain ⟨g, h68, hg⟩ := H1.g
      refine az_aload_n dX12_closes_14 ?_
      refine az_getf (v := .ref 68) dX12_closes_15 fl_X12_24 e1 ?_
      refine az_iconst (v := nI 0) dX12_closes_18 ?_
      refine az_dup2_11 dX12_closes_19 ?_
      refine az_ialdN (j := 0) dX12_closes_20 h68 ?_ (by decide)
      refine az_iconst (v := nI 1) dX12_closes_21 ?_
      refine az_iaddN dX12_closes_22 ?_
      refine az_iastN (j := 0) dX12_closes_23 h68 ?_ (by decide)
      rw [az_s_nI]
      exact az_vret dX12_closes_24 (hQ h1 _ g (by rw [← q1]; exact H1) (by rw [← q1]; exact hg) az_up_eq mf1 (mf.rf.up (by decide)))
theorem ts_c {b : Nat → Nat} {n x e e' : Nat} {c c' : List Nat} (h : rd_ts b n x e c = .inl (e', c')) : c' = c ∧ e' = rd_en b n e ∧ rd_isS b n e x := by
  unfold rd_ts at h
  split at h
  · rename_i q; cases h; exact ⟨rfl, rfl, q⟩
  · cases h
theorem m_closes {d : Nat} {sc : Nat → Value} {b : Nat → Nat} {n : Nat} {r : rd_T} {hp : az_Hp} {Q : Option Value → az_Hp → Prop} (hd : 9 ≤ d) (hB : ∀ e v, r = .inl (e, v) → mr_B v) (H : mr_L hp sc b n r) (hQ : ∀ h', mr_L h' sc b n (rd_cl b n r) → mf hp h' [64, 68] → Q none h') : az_M mX12_closes d 0 0 [.ref 64] hp Q := by
  match r, H, hB with
  | .inr x, H, _ =>
    have H : mr_R hp sc b n (fun _ => 0) 0 (.inr x) := H
    refine m_closesR (r0 := .inr x) hd H (fun h1 h' g H1 hg h68 mf1 mf2 => ?_)
    have H1 : mr_R h1 sc b n (fun _ => 0) 0 (.inr x) := H1
    exact hQ h' (mr_R.X (x := x) H1 mf2 h68) ((mf1.wk (L' := [64, 68])).tr mf2 (by decide))
  | .inl (e, v), H, hB =>
    obtain ⟨fr, k0, H, hV⟩ := H
    have hB := hB e v rfl
    refine m_closesR hd H (fun h1 h' g H1 hg h68 mf1 mf2 => hQ h' ?_ ((mf1.wk (L' := [64, 68])).tr mf2 (by decide)))
    have H1 : mr_R h1 sc b n fr k0 (rd_ts b n 59 e []) := H1
    have hg : ∀ e' c, rd_ts b n 59 e [] = .inl (e', c) → _ := hg
    cases hr : rd_ts b n 59 e [] with
    | inr x =>
      rw [hr] at H1
      show mr_L h' sc b n (match rd_ts b n 59 e [] with | .inr y => .inr y | .inl y => .inl (y.1, rd_lin v))
      rw [hr]
      exact mr_R.X (x := x) H1 mf2 h68
    | inl x =>
      obtain ⟨e', c'⟩ := x
      obtain ⟨rfl, -⟩ := ts_c hr
      obtain ⟨g1, g2, g3⟩ := hg e' [] hr
      rw [hr] at H1
      show mr_L h' sc b n (match rd_ts b n 59 e [] with | .inr y => .inr y | .inl y => .inl (y.1, rd_lin v))
      rw [hr]
      exact mr_R.L (L := []) (k0 := k0) H1 mf2 h68 ((az_s_ne (by decide)).trans g1) ((hV.cg g3 hB.2.2.1 hB.2.2.2).lin hB)
theorem rd_line_cl {b : Nat → Nat} {n e : Nat} {v : rd_V} : rd_line b n e v = rd_cl b n (rd_body b n e v) := by
  unfold rd_line rd_cl
  rfl

theorem tl_c {b : Nat → Nat} {n m e e' : Nat} {c c' : List Nat} (h : rd_tl b n m e c = .inl (e', c')) : c' = c ∧ e' = rd_en b n e ∧ rd_kd b n e = 1 := by
  unfold rd_tl at h
  split at h
  · cases h
  · split at h
    · cases h
    · split at h
      · cases h
      · rename_i q _ _; cases h; exact ⟨rfl, rfl, Classical.byContradiction (fun q2 => q q2)⟩
set_option maxHeartbeats 4000000 in
set_option maxRecDepth 100000 in
theorem m_standsT {d N a z n : Nat} {ki nu wr wa : Int32} {sc : Nat → Value} {g sp : Nat → Nat} {hp : az_Hp} {Q : Option Value → az_Hp → Prop} (hN : N ≤ 12) (h64 : hp.2 64 = some (mr_o sc a z n ki nu wr wa)) (h68 : hp.2 68 = some (az_I 1106 (fun j => nI (g j)))) (h69 : hp.2 69 = some (az_I 12 (fun j => nI (sp j)))) (hQ : ∀ h' (g' : Nat → Nat), h'.2 68 = some (az_I 1106 (fun j => nI (g' j))) → g' 2 = N → (∀ i, i < N → g' (3 + i) = sp i) → (∀ j, j < 2 ∨ 3 + N ≤ j → g' j = g j) → mf hp h' [68] → Q none h') : az_W mX12_readStands d 0 0 19 [(0, .ref 64), (1, .int (nI N))] [] hp Q := by
  have lp : ∀ (k : Nat) (j : Nat) (h' : az_Hp) (g9 : Nat → Nat), N - j = k → (j ≤ N) → (h'.2 68 = some (az_I 1106 (fun i => nI (g9 i)))) → (g9 2 = N) → (∀ i, i < j → g9 (3 + i) = sp i) → (∀ i, i < 2 ∨ 3 + N ≤ i → g9 i = g i) → (mf hp h' [68]) → az_W mX12_readStands d 0 0 28 [(0, .ref 64), (1, .int (nI N)), (2, .int (nI j))] [] h' Q := by
    intro k
    induction k using Nat.strongRecOn with
    | _ k ih =>
    intro j h' g9 hk hj h8 g2 hg go mf9
    refine az_iload_n dX12_readStands_28 ?_
    refine az_iload_n dX12_readStands_29 ?_
    refine az_icmp_geN (tgt := 53) dX12_readStands_30 (fun c30 => ?_) (fun c30 => ?_)
    · exact az_vret dX12_readStands_53 (hQ h' g9 h8 g2 (fun i hi => hg i (by omega)) go mf9)
    · refine az_aload_n dX12_readStands_33 ?_
      refine az_getf (v := .ref 68) dX12_readStands_34 fl_X12_24 (mf9.at h64) ?_
      refine az_iconst (v := nI 3) dX12_readStands_37 ?_
      refine az_iload_n dX12_readStands_38 ?_
      refine az_iaddN dX12_readStands_39 ?_
      refine az_aload_n dX12_readStands_40 ?_
      refine az_getf (v := .ref 69) dX12_readStands_41 fl_X12_30 (mf9.at h64) ?_
      refine az_iload_n dX12_readStands_44 ?_
      refine az_ialdN (j := j) dX12_readStands_45 (mf9.at h69) ?_ (by omega)
      refine az_iastN (j := 3 + j) dX12_readStands_46 h8 ?_ (by omega)
      rw [az_s_nI]
      refine az_iincN (n := 1) (ls' := [(0, .ref 64), (1, .int (nI N)), (2, .int (nI (j + 1)))]) dX12_readStands_47 ?_
      refine az_goto (tgt := 28) dX12_readStands_50 ?_
      exact ih _ (by omega) (j + 1) _ (az_s g9 (3 + j) (sp j)) rfl (by omega) az_up_eq ((az_s_ne (by omega)).trans g2) (fun i hi => (by by_cases e9 : i = j; rw [e9, az_s_eq]; rw [az_s_ne (by omega)]; exact hg i (by omega))) (fun i hi => (az_s_ne (by omega)).trans (go i hi)) (mf9.up (by decide))
  refine az_aload_n dX12_readStands_19 ?_
  refine az_getf (v := .ref 68) dX12_readStands_20 fl_X12_24 h64 ?_
  refine az_iconst (v := nI 2) dX12_readStands_23 ?_
  refine az_iload_n dX12_readStands_24 ?_
  refine az_iastN (j := 2) dX12_readStands_25 h68 ?_ (by decide)
  rw [az_s_nI]
  refine az_iconst (v := nI 0) dX12_readStands_26 ?_
  refine az_istore_n (ls' := [(0, .ref 64), (1, .int (nI N)), (2, .int (nI 0))]) dX12_readStands_27 ?_
  exact lp _ 0 _ (az_s g 2 N) rfl (Nat.zero_le _) az_up_eq az_s_eq (fun i hi => absurd hi (Nat.not_lt_zero i)) (fun i hi => az_s_ne (by omega)) (mf.rf.up (by decide))
theorem mr_V.st {g g' : Nat → Nat} {v : rd_V} {k0 N : Nat} {st9 : Nat → Nat} (H : mr_V g v k0) (hB : mr_B v) (hN : N ≤ 12) (h2 : g' 2 = N) (h3 : ∀ i, i < N → g' (3 + i) = st9 i) (h : ∀ j, j < 2 ∨ 3 + N ≤ j → g' j = g j) : mr_V g' (v.1, v.2.1, v.2.2.1, N, st9, v.2.2.2.2.2) k0 := by
  obtain ⟨⟨a1, a2, a3, a4, a5, a6, a7, a8⟩, ⟨b1, b2, b3, b4⟩, c1, c2⟩ := H
  obtain ⟨d1, d2⟩ := a7.cg (A' := g') (k0 := k0) c1 (fun j hj => h j (by omega))
  obtain ⟨d3, d4⟩ := a8.cg (A' := g') (k0 := k0) c2 (fun j hj => h j (by omega))
  exact ⟨⟨(h 0 (by omega)).trans a1, (h 1 (by omega)).trans a2, h2, h3, fun r hr => (h _ (by omega)).trans (a5 r hr), fun r i hr hi => (h _ (by omega)).trans (a6 r i hr hi), d1, d3⟩, ⟨(h 111 (by omega)).trans b1, (h 112 (by omega)).trans b2, (h 113 (by omega)).trans b3, (h 114 (by omega)).trans b4⟩, d2, d4⟩
set_option maxHeartbeats 4000000 in
set_option maxRecDepth 100000 in
theorem m_readStands {d e : Nat} {v : rd_V} {sc : Nat → Value} {b : Nat → Nat} {n : Nat} {fr : Nat → Nat} {k0 : Nat} {hp : az_Hp} {Q : Option Value → az_Hp → Prop} (hd : 10 ≤ d) (H : mr_R hp sc b n fr k0 (.inl (e, []))) (hV : mr_V fr v k0) (hB : mr_B v) (hQ : ∀ h', mr_L h' sc b n (rd_stands b n e v) → mf hp h' [64, 68, 69] → Q none h') : az_M mX12_readStands d 0 0 [.ref 64] hp Q := by
  obtain ⟨a0, z0, ki0, nu0, wa0, e0, w0, hki0, hnu0⟩ := H.o
  have he := H.2.1
  refine az_M.of rfl (Nat.le_of_ble_eq_true rfl) ?_
  show az_W _ _ _ _ 0 [(0, .ref 64)] [] _ _
  refine az_aload_n dX12_readStands_0 ?_
  refine az_cV0 (st := []) dX12_readStands_1 ml_X12_162 e0 (m_nextR (d := d - 1) (e := e) (c := []) (c' := []) (sc := sc) (b := b) (n := n) (fr := fr) (k0 := k0) (by omega) H.1 H.2.1 (by have h1 := H.2.1; have h2 := H.2.2.1; have h3 := rd_en_le2 (b := b) h1; exact Nat.le_trans h2 h3) H.2.2.2.1 H.2.2.2.2 ?_)
  intro h1 H1 mf1
  obtain ⟨a1, z1, ki1, nu1, wa1, e1, w1, hki1, hnu1⟩ := H1.o
  refine az_aload_n dX12_readStands_4 ?_
  refine az_bipush (v := nI 12) dX12_readStands_5 ?_
  refine az_cV0 (st := []) dX12_readStands_7 ml_X12_210 e1 (m_spells (d := d - 1) (m := 12) (by omega) (by decide) H1 ?_)
  intro h2 y2 H2 mf2 hy2
  obtain ⟨r2, q2⟩ : ∃ x : rd_R, x = rd_tl b n 12 (rd_en b n e) [] := ⟨_, rfl⟩
  have H2 : mr_R h2 sc b n fr k0 r2 := (by rw [q2]; exact H2)
  obtain ⟨a2, z2, ki2, nu2, wa2, e2, w2, hki2, hnu2⟩ := H2.o
  refine az_istore_n (ls' := [(0, .ref 64), (1, .int y2)]) dX12_readStands_10 ?_
  refine az_aload_n dX12_readStands_11 ?_
  refine az_getf (v := .int (nI (mr_w (r2)))) dX12_readStands_12 fl_X12_153 e2 ?_
  refine az_if_eqN (tgt := 19) dX12_readStands_15 (fun c15 => ?_) (fun c15 => ?_)
  · obtain ⟨e9, c9, hr2⟩ := mr_w0 H2 c15
    obtain ⟨rfl, he2, hk2⟩ := tl_c (q2.symm.trans hr2)
    obtain ⟨hy, hl1, hl2, hl3, sp, h69, hsp⟩ := hy2 (rd_en b n e) [] _ rfl (q2.symm.trans hr2)
    obtain ⟨g, h68, hg⟩ := H2.g
    obtain ⟨g1, g2, g3⟩ := hg e9 [] hr2
    rw [hr2] at H2
    rw [hy]
    refine m_standsT (N := rd_en b n (rd_en b n e) - rd_fr b n (rd_en b n e)) hl1 e2 h68 h69 (fun h3 g' u1 u2 u3 u4 mf3 => hQ h3 ?_ (((mf1.wk (L' := [64, 68, 69])).tr mf2 (by decide)).tr mf3 (by decide)))
    unfold rd_stands
    rw [← q2, hr2]
    exact mr_R.L (L := []) (k0 := k0) H2 mf3 u1 ((u4 205 (by omega)).trans g1) ((hV.cg g3 hB.2.2.1 hB.2.2.2).st hB hl1 u2 (fun i hi => (u3 i hi).trans ((hsp i hi).trans (by rw [rd_ls, if_pos (by omega), show i - 0 = i by omega]))) u4)
  · exact az_vret dX12_readStands_18 (by obtain ⟨x, hx⟩ := mr_w1 c15; refine hQ h2 ?_ ((mf1.wk (L' := [64, 68, 69])).tr mf2 (by decide)); unfold rd_stands; rw [← q2, hx]; rw [hx] at H2; exact H2)
