/-! The model's reader: a law, a line -/
def rd_PL (b : Nat → Nat) (n l : Nat) : rd_P := if l = 0 then (rd_lv b n 6).1 else (rd_lv b n 6).2.2
def rd_vl (v : rd_V) (l : Nat) (c : List Nat) : rd_V := (v.1, v.2.1, v.2.2.1, v.2.2.2.1, v.2.2.2.2.1, v.2.2.2.2.2.1, v.2.2.2.2.2.2.1, (if l = 0 then c else v.2.2.2.2.2.2.2.1), (if l = 0 then v.2.2.2.2.2.2.2.2 else c))
def rd_lw (b : Nat → Nat) (n e : Nat) (v : rd_V) (l : Nat) : rd_T := if l = 0 then rd_pick b n e v else rd_sleep b n e v
theorem law_x {b : Nat → Nat} {n e l : Nat} {v : rd_V} {r2 r3 : rd_R} (q2 : r2 = rd_ts b n 58 (rd_en b n e) []) (q3 : r3 = rd_b r2 (rd_PL b n l)) : (∀ x, r3 = .inr x → rd_lw b n e v l = .inr x) ∧ (∀ e3 c3, r3 = .inl (e3, c3) → ∃ e2, r2 = .inl (e2, []) ∧ rd_PL b n l e2 [] = .inl (e3, c3) ∧ c3 ≠ [] ∧ rd_lw b n e v l = .inl (e3, rd_vl v l c3)) := by
  subst q2 q3
  unfold rd_lw rd_PL rd_vl
  by_cases hl : l = 0
  · rw [if_pos hl, if_pos hl]
    unfold rd_pick
    cases h1 : rd_ts b n 58 (rd_en b n e) [] with
    | inr x => exact ⟨fun y q => (by cases q; rfl), fun _ _ q => nomatch q⟩
    | inl y1 =>
      obtain ⟨e2, c2⟩ := y1
      obtain ⟨rfl, -⟩ := ts_c h1
      simp only [rd_b_l]
      cases h2 : (rd_lv b n 6).1 e2 [] with
      | inr x => exact ⟨fun y q => (by cases q; rfl), fun _ _ q => nomatch q⟩
      | inl y2 =>
        refine ⟨fun _ q => (nomatch q), fun e3 c3 q => ?_⟩
        cases q
        have q3 := (rd_Y_lv (b := b) (n := n) rd_va_all 6).1 _ _ e3 c3 [] h2 rfl (by decide)
        refine ⟨e2, rfl, h2, (fun q => by rw [q] at q3; cases q3), ?_⟩
        rw [if_pos hl, if_pos hl]
  · rw [if_neg hl, if_neg hl]
    unfold rd_sleep
    cases h1 : rd_ts b n 58 (rd_en b n e) [] with
    | inr x => exact ⟨fun y q => (by cases q; rfl), fun _ _ q => nomatch q⟩
    | inl y1 =>
      obtain ⟨e2, c2⟩ := y1
      obtain ⟨rfl, -⟩ := ts_c h1
      simp only [rd_b_l]
      cases h2 : (rd_lv b n 6).2.2 e2 [] with
      | inr x => exact ⟨fun y q => (by cases q; rfl), fun _ _ q => nomatch q⟩
      | inl y2 =>
        refine ⟨fun _ q => (nomatch q), fun e3 c3 q => ?_⟩
        cases q
        have q3 := (rd_Y_lv (b := b) (n := n) rd_va_all 6).2.2 _ _ e3 c3 [] h2 rfl (by decide)
        refine ⟨e2, rfl, h2, (fun q => by rw [q] at q3; cases q3), ?_⟩
        rw [if_neg hl, if_neg hl]
theorem mL.nw {A : Nat → Nat} {l k0 : Nat} {k : List Nat} (hk : k ≠ []) (h1 : A (105 + l) = 1) (h2 : A (107 + l) = k0) (h3 : A (109 + l) = k.length) (h4 : k0 + k.length ≤ 900) (h5 : ∀ i, i < k.length → A (206 + k0 + i) = k.getD i 0) : mL A l k ∧ (k ≠ [] → A (107 + l) + k.length ≤ k0 + k.length) := by
  refine ⟨⟨fun q => absurd q hk, fun _ => ⟨h1, h3, by rw [h2]; exact h4, fun i hi => by rw [h2]; exact h5 i hi⟩⟩, fun _ => by rw [h2]; exact Nat.le_refl _⟩
theorem mr_V.lw {g fr : Nat → Nat} {v : rd_V} {k0 l m : Nat} {c : List Nat} (H : mr_V fr v k0) (hB : mr_B v) (hl : l < 2) (hc : c ≠ []) (hm : m = c.length) (h9 : k0 + c.length ≤ 900) (h5 : ∀ i, i < c.length → g (206 + k0 + i) = c.getD i 0) (h : ∀ j, (j < 205 ∨ (206 ≤ j ∧ j < 206 + k0)) → g j = fr j) : mr_V (az_s (az_s (az_s g (105 + l) 1) (107 + l) k0) (109 + l) m) (rd_vl v l c) (k0 + c.length) := by
  obtain ⟨g', hg'⟩ : ∃ g', g' = az_s (az_s (az_s g (105 + l) 1) (107 + l) k0) (109 + l) m := ⟨_, rfl⟩
  rw [← hg']
  have n1 : ∀ j, j ≠ 105 + l → j ≠ 107 + l → j ≠ 109 + l → g' j = g j := fun j a1 a2 a3 => by rw [hg', az_s_ne a3, az_s_ne a2, az_s_ne a1]
  have e1 : g' (105 + l) = 1 := by rw [hg', az_s_ne (by omega), az_s_ne (by omega), az_s_eq]
  have e2 : g' (107 + l) = k0 := by rw [hg', az_s_ne (by omega), az_s_eq]
  have e3 : g' (109 + l) = c.length := by rw [hg', az_s_eq, hm]
  have e5 : ∀ i, i < c.length → g' (206 + k0 + i) = c.getD i 0 := fun i hi => (n1 _ (by omega) (by omega) (by omega)).trans (h5 i hi)
  have n2 : ∀ j, j ≠ 105 + l → j ≠ 107 + l → j ≠ 109 + l → (j < 205 ∨ (206 ≤ j ∧ j < 206 + k0)) → g' j = fr j := fun j a1 a2 a3 a4 => (n1 j a1 a2 a3).trans (h j a4)
  obtain ⟨⟨a1, a2, a3, a4, a5, a6, a7, a8⟩, ⟨b1, b2, b3, b4⟩, c1, c2⟩ := H
  have hv := hB.2.2.1
  have hz := hB.2.2.2
  have old : ∀ l', l' < 2 → l' ≠ l → ∀ k : List Nat, mL fr l' k → (k ≠ [] → fr (107 + l') + k.length ≤ k0) → mL g' l' k ∧ (k ≠ [] → g' (107 + l') + k.length ≤ k0 + c.length) := by
    intro l' hl' hne k hk hk2
    obtain ⟨d1, d2⟩ := hk.cg (A' := g') (k0 := k0) hk2 (fun j hj => n2 j (by omega) (by omega) (by omega) (by omega))
    exact ⟨d1, fun q => Nat.le_trans (d2 q) (Nat.le_add_right _ _)⟩
  have nw := mL.nw (A := g') (l := l) hc e1 e2 e3 h9 e5
  have both : (mL g' 0 (rd_vl v l c).2.2.2.2.2.2.2.1 ∧ ((rd_vl v l c).2.2.2.2.2.2.2.1 ≠ [] → g' 107 + (rd_vl v l c).2.2.2.2.2.2.2.1.length ≤ k0 + c.length)) ∧ (mL g' 1 (rd_vl v l c).2.2.2.2.2.2.2.2 ∧ ((rd_vl v l c).2.2.2.2.2.2.2.2 ≠ [] → g' 108 + (rd_vl v l c).2.2.2.2.2.2.2.2.length ≤ k0 + c.length)) := by
    by_cases q : l = 0
    · have o1 := old 1 (by omega) (by omega) _ a8 c2
      subst q
      exact ⟨nw, o1⟩
    · have o1 := old 0 (by omega) (by omega) _ a7 c1
      obtain rfl : l = 1 := by omega
      exact ⟨o1, nw⟩
  exact ⟨⟨(n2 0 (by omega) (by omega) (by omega) (by omega)).trans a1, (n2 1 (by omega) (by omega) (by omega) (by omega)).trans a2, (n2 2 (by omega) (by omega) (by omega) (by omega)).trans a3, fun k hk => (n2 _ (by have hk : k < v.2.2.2.1 := hk; omega) (by have hk : k < v.2.2.2.1 := hk; omega) (by have hk : k < v.2.2.2.1 := hk; omega) (by have hk : k < v.2.2.2.1 := hk; omega)).trans (a4 k hk), fun r hr => (n2 _ (by omega) (by omega) (by omega) (by omega)).trans (a5 r hr), fun r i hr hi => (by have q := hz r hr; have hi : i < v.2.2.2.2.2.1 r := hi; exact (n2 _ (by omega) (by omega) (by omega) (by omega)).trans (a6 r i hr hi)), both.1.1, both.2.1⟩, ⟨(n2 111 (by omega) (by omega) (by omega) (by omega)).trans b1, (n2 112 (by omega) (by omega) (by omega) (by omega)).trans b2, (n2 113 (by omega) (by omega) (by omega) (by omega)).trans b3, (n2 114 (by omega) (by omega) (by omega) (by omega)).trans b4⟩, both.1.2, both.2.2⟩
set_option maxHeartbeats 4000000 in
set_option maxRecDepth 100000 in
theorem m_lawT {d l k0 m a z n : Nat} {ki nu wr wa : Int32} {sc : Nat → Value} {g : Nat → Nat} {hp : az_Hp} {Q : Option Value → az_Hp → Prop} (hl : l < 2) (h64 : hp.2 64 = some (mr_o sc a z n ki nu wr wa)) (h68 : hp.2 68 = some (az_I 1106 (fun j => nI (g j)))) (h5 : g 205 = k0 + m) (hQ : ∀ h', h'.2 68 = some (az_I 1106 (fun j => nI (az_s (az_s (az_s g (105 + l) 1) (107 + l) k0) (109 + l) m j))) → mf hp h' [68] → Q none h') : az_W mX12_readLaw d 0 0 52 [(0, .ref 64), (1, .int (nI l)), (2, .int (nI k0))] [] hp Q := by
  refine az_aload_n dX12_readLaw_52 ?_
  refine az_getf (v := .ref 68) dX12_readLaw_53 fl_X12_24 h64 ?_
  refine az_bipush (v := nI 105) dX12_readLaw_56 ?_
  refine az_iload_n dX12_readLaw_58 ?_
  refine az_iaddN dX12_readLaw_59 ?_
  refine az_iconst (v := nI 1) dX12_readLaw_60 ?_
  refine az_iastN (j := 105 + l) dX12_readLaw_61 h68 ?_ (by omega)
  rw [az_s_nI]
  refine az_aload_n dX12_readLaw_62 ?_
  refine az_getf (v := .ref 68) dX12_readLaw_63 fl_X12_24 (az_up_ne h64) ?_
  refine az_bipush (v := nI 107) dX12_readLaw_66 ?_
  refine az_iload_n dX12_readLaw_68 ?_
  refine az_iaddN dX12_readLaw_69 ?_
  refine az_iload_n dX12_readLaw_70 ?_
  refine az_iastN (j := 107 + l) dX12_readLaw_71 az_up_eq ?_ (by omega)
  rw [az_s_nI]
  refine az_aload_n dX12_readLaw_72 ?_
  refine az_getf (v := .ref 68) dX12_readLaw_73 fl_X12_24 (az_up_ne (az_up_ne h64)) ?_
  refine az_bipush (v := nI 109) dX12_readLaw_76 ?_
  refine az_iload_n dX12_readLaw_78 ?_
  refine az_iaddN dX12_readLaw_79 ?_
  refine az_aload_n dX12_readLaw_80 ?_
  refine az_getf (v := .ref 68) dX12_readLaw_81 fl_X12_24 (az_up_ne (az_up_ne h64)) ?_
  refine az_sipush (v := nI 205) dX12_readLaw_84 ?_
  refine az_ialdN (j := 205) dX12_readLaw_87 az_up_eq ?_ (by decide)
  rw [az_s_ne (by omega), az_s_ne (by omega), h5]
  refine az_iload_n dX12_readLaw_88 ?_
  refine az_isubN dX12_readLaw_89 (by omega) ?_
  refine az_iastN (j := 109 + l) dX12_readLaw_90 az_up_eq ?_ (by omega)
  rw [az_s_nI]
  exact az_vret dX12_readLaw_91 (hQ _ (by rw [show k0 + m - k0 = m by omega]; exact az_up_eq) (((mf.rf.up (by decide)).up (by decide)).up (by decide)))

set_option maxHeartbeats 4000000 in
set_option maxRecDepth 100000 in
theorem m_readLaw {d e l : Nat} {v : rd_V} {sc : Nat → Value} {b : Nat → Nat} {n : Nat} {fr : Nat → Nat} {k0 : Nat} {hp : az_Hp} {Q : Option Value → az_Hp → Prop} (hd : 60 ≤ d) (hl : l < 2) (H : mr_R hp sc b n fr k0 (.inl (e, []))) (hV : mr_V fr v k0) (hB : mr_B v) (hQ : ∀ h', mr_L h' sc b n (rd_lw b n e v l) → mf hp h' [64, 68, 69] → Q none h') : az_M mX12_readLaw d 0 0 [.ref 64, .int (nI l)] hp Q := by
  obtain ⟨a0, z0, ki0, nu0, wa0, e0, w0, hki0, hnu0⟩ := H.o
  have he := H.2.1
  refine az_M.of rfl (Nat.le_of_ble_eq_true rfl) ?_
  show az_W _ _ _ _ 0 [(0, .ref 64), (1, .int (nI l))] [] _ _
  refine az_aload_n dX12_readLaw_0 ?_
  refine az_cV0 (st := []) dX12_readLaw_1 ml_X12_162 e0 (m_nextR (d := d - 1) (e := e) (c := []) (c' := []) (sc := sc) (b := b) (n := n) (fr := fr) (k0 := k0) (by omega) H.1 H.2.1 (by have h1 := H.2.1; have h2 := H.2.2.1; have h3 := rd_en_le2 (b := b) h1; exact Nat.le_trans h2 h3) H.2.2.2.1 H.2.2.2.2 ?_)
  intro h1 H1 mf1
  obtain ⟨r1, q1⟩ : ∃ x : rd_R, x = .inl (rd_en b n e, []) := ⟨_, rfl⟩
  rw [← q1] at H1
  obtain ⟨a1, z1, ki1, nu1, wa1, e1, w1, hki1, hnu1⟩ := H1.o
  refine az_aload_n dX12_readLaw_4 ?_
  refine az_bipush (v := nI 31) dX12_readLaw_5 ?_
  refine az_cV0 (st := []) dX12_readLaw_7 ml_X12_185 e1 (m_eats (d := d - 1) (k9 := 31) (by omega) (by decide) H1 ?_ ?_)
  · intro ee2 cc2 hr2 hm2 h2 H2 mf2
    rw [← tok_1 (tkS (fun e => ks_58)) (fun e c q => (H1.le e c q).1) hr2 hm2] at H2
    obtain ⟨r2, q2⟩ : ∃ x : rd_R, x = rd_b r1 (rd_ts b n 58) := ⟨_, rfl⟩
    rw [← q2] at H2
    obtain ⟨a2, z2, ki2, nu2, wa2, e2, w2, hki2, hnu2⟩ := H2.o
    obtain ⟨g, h68, hg⟩ := H2.g
    refine az_if_neN (tgt := 18) dX12_readLaw_10 (fun c10 => ?_) (fun c10 => ?_)
    · refine az_aload_n dX12_readLaw_18 ?_
      refine az_getf (v := .ref 68) dX12_readLaw_19 fl_X12_24 e2 ?_
      refine az_sipush (v := nI 205) dX12_readLaw_22 ?_
      refine az_ialdN (j := 205) dX12_readLaw_25 h68 ?_ (by decide)
      refine az_istore_n (ls' := [(0, .ref 64), (1, .int (nI l)), (2, .int (nI (g 205)))]) dX12_readLaw_26 ?_
      refine az_iload_n dX12_readLaw_27 ?_
      refine az_if_neN (tgt := 39) dX12_readLaw_28 (fun c28 => ?_) (fun c28 => ?_)
      · refine az_aload_n dX12_readLaw_39 ?_
        refine az_iconst (v := nI 0) dX12_readLaw_40 ?_
        refine az_cV0 (st := []) dX12_readLaw_41 ml_X12_191 e2 ((m_levels (sc := sc) (b := b) (n := n) 6 0 rfl).2.2 (d := d - 1) (by omega) H2 ?_)
        intro h3 H3 mf3
        rw [show (rd_lv b n 6).2.2 = rd_PL b n l from (if_neg c28).symm] at H3
        obtain ⟨r3, q3⟩ : ∃ x : rd_R, x = rd_b r2 (rd_PL b n l) := ⟨_, rfl⟩
        rw [← q3] at H3
        obtain ⟨a3, z3, ki3, nu3, wa3, e3, w3, hki3, hnu3⟩ := H3.o
        refine az_aload_n dX12_readLaw_44 ?_
        refine az_getf (v := .int (nI (mr_w (r3)))) dX12_readLaw_45 fl_X12_153 e3 ?_
        refine az_if_eqN (tgt := 52) dX12_readLaw_48 (fun c48 => ?_) (fun c48 => ?_)
        · obtain ⟨e9, c9, hr9⟩ := mr_w0 H3 c48
          subst q1
          obtain ⟨p2, u1, u2, u3, u4⟩ := (law_x (v := v) (e := e) q2 q3).2 e9 c9 hr9
          obtain ⟨g', h68', hg'⟩ := H3.g
          obtain ⟨g1, g2, g3⟩ := hg' e9 c9 hr9
          obtain ⟨k1, -, -⟩ := hg p2 [] u1
          have hle := H3.le e9 c9 hr9
          have hn9 := H3.1.2.1
          rw [hr9] at H3
          rw [show g 205 = k0 from k1]
          refine m_lawT (m := c9.length) hl e3 h68' g1 (fun h4 w1 mf4 => hQ h4 ?_ ((((mf1.wk (L' := [64, 68, 69])).tr mf2 (by decide)).tr mf3 (by decide)).tr mf4 (by decide)))
          rw [u4]
          exact mr_R.L (L := []) (k0 := k0) H3 mf4 w1 ((az_s_ne (by omega)).trans ((az_s_ne (by omega)).trans ((az_s_ne (by omega)).trans g1))) (hV.lw hB hl u3 rfl (by omega) g2 g3)
        · exact az_vret dX12_readLaw_51 (by obtain ⟨x, hx⟩ := mr_w1 c48; subst q1; refine hQ h3 ?_ (((mf1.wk (L' := [64, 68, 69])).tr mf2 (by decide)).tr mf3 (by decide)); rw [(law_x (v := v) (e := e) q2 q3).1 x hx]; rw [hx] at H3; exact H3)
      · refine az_aload_n dX12_readLaw_31 ?_
        refine az_iconst (v := nI 0) dX12_readLaw_32 ?_
        refine az_cV0 (st := []) dX12_readLaw_33 ml_X12_182 e2 ((m_levels (sc := sc) (b := b) (n := n) 6 0 rfl).1 (d := d - 1) (by omega) H2 ?_)
        intro h3 H3 mf3
        rw [show (rd_lv b n 6).1 = rd_PL b n l from (if_pos c28).symm] at H3
        obtain ⟨r3, q3⟩ : ∃ x : rd_R, x = rd_b r2 (rd_PL b n l) := ⟨_, rfl⟩
        rw [← q3] at H3
        obtain ⟨a3, z3, ki3, nu3, wa3, e3, w3, hki3, hnu3⟩ := H3.o
        refine az_goto (tgt := 44) dX12_readLaw_36 ?_
        refine az_aload_n dX12_readLaw_44 ?_
        refine az_getf (v := .int (nI (mr_w (r3)))) dX12_readLaw_45 fl_X12_153 e3 ?_
        refine az_if_eqN (tgt := 52) dX12_readLaw_48 (fun c48 => ?_) (fun c48 => ?_)
        · obtain ⟨e9, c9, hr9⟩ := mr_w0 H3 c48
          subst q1
          obtain ⟨p2, u1, u2, u3, u4⟩ := (law_x (v := v) (e := e) q2 q3).2 e9 c9 hr9
          obtain ⟨g', h68', hg'⟩ := H3.g
          obtain ⟨g1, g2, g3⟩ := hg' e9 c9 hr9
          obtain ⟨k1, -, -⟩ := hg p2 [] u1
          have hle := H3.le e9 c9 hr9
          have hn9 := H3.1.2.1
          rw [hr9] at H3
          rw [show g 205 = k0 from k1]
          refine m_lawT (m := c9.length) hl e3 h68' g1 (fun h4 w1 mf4 => hQ h4 ?_ ((((mf1.wk (L' := [64, 68, 69])).tr mf2 (by decide)).tr mf3 (by decide)).tr mf4 (by decide)))
          rw [u4]
          exact mr_R.L (L := []) (k0 := k0) H3 mf4 w1 ((az_s_ne (by omega)).trans ((az_s_ne (by omega)).trans ((az_s_ne (by omega)).trans g1))) (hV.lw hB hl u3 rfl (by omega) g2 g3)
        · exact az_vret dX12_readLaw_51 (by obtain ⟨x, hx⟩ := mr_w1 c48; subst q1; refine hQ h3 ?_ (((mf1.wk (L' := [64, 68, 69])).tr mf2 (by decide)).tr mf3 (by decide)); rw [(law_x (v := v) (e := e) q2 q3).1 x hx]; rw [hx] at H3; exact H3)
    · exact absurd c10 (by omega)
  · intro hno2
    refine az_if_neN (tgt := 18) dX12_readLaw_10 (fun c10 => ?_) (fun c10 => ?_)
    · exact absurd c10 (by omega)
    · refine az_aload_n dX12_readLaw_13 ?_
      refine az_iconst (v := nI 2) dX12_readLaw_14 ?_
      refine az_cV0 (st := []) dX12_readLaw_15 ml_X12_165 e1 (m_fails (d := d - 1) (f9 := 2) (by decide) (by decide) H1 ?_)
      intro h2 H2 mf2
      rw [← tok_0 (tkS (fun e => ks_58)) (fun e c q => (H1.le e c q).1) hno2] at H2
      obtain ⟨r2, q2⟩ : ∃ x : rd_R, x = rd_b r1 (rd_ts b n 58) := ⟨_, rfl⟩
      rw [← q2] at H2
      obtain ⟨a2, z2, ki2, nu2, wa2, e2, w2, hki2, hnu2⟩ := H2.o
      obtain ⟨g, h68, hg⟩ := H2.g
      refine az_aload_n dX12_readLaw_18 ?_
      refine az_getf (v := .ref 68) dX12_readLaw_19 fl_X12_24 e2 ?_
      refine az_sipush (v := nI 205) dX12_readLaw_22 ?_
      refine az_ialdN (j := 205) dX12_readLaw_25 h68 ?_ (by decide)
      refine az_istore_n (ls' := [(0, .ref 64), (1, .int (nI l)), (2, .int (nI (g 205)))]) dX12_readLaw_26 ?_
      refine az_iload_n dX12_readLaw_27 ?_
      refine az_if_neN (tgt := 39) dX12_readLaw_28 (fun c28 => ?_) (fun c28 => ?_)
      · refine az_aload_n dX12_readLaw_39 ?_
        refine az_iconst (v := nI 0) dX12_readLaw_40 ?_
        refine az_cV0 (st := []) dX12_readLaw_41 ml_X12_191 e2 ((m_levels (sc := sc) (b := b) (n := n) 6 0 rfl).2.2 (d := d - 1) (by omega) H2 ?_)
        intro h3 H3 mf3
        rw [show (rd_lv b n 6).2.2 = rd_PL b n l from (if_neg c28).symm] at H3
        obtain ⟨r3, q3⟩ : ∃ x : rd_R, x = rd_b r2 (rd_PL b n l) := ⟨_, rfl⟩
        rw [← q3] at H3
        obtain ⟨a3, z3, ki3, nu3, wa3, e3, w3, hki3, hnu3⟩ := H3.o
        refine az_aload_n dX12_readLaw_44 ?_
        refine az_getf (v := .int (nI (mr_w (r3)))) dX12_readLaw_45 fl_X12_153 e3 ?_
        refine az_if_eqN (tgt := 52) dX12_readLaw_48 (fun c48 => ?_) (fun c48 => ?_)
        · obtain ⟨e9, c9, hr9⟩ := mr_w0 H3 c48
          subst q1
          obtain ⟨p2, u1, u2, u3, u4⟩ := (law_x (v := v) (e := e) q2 q3).2 e9 c9 hr9
          obtain ⟨g', h68', hg'⟩ := H3.g
          obtain ⟨g1, g2, g3⟩ := hg' e9 c9 hr9
          obtain ⟨k1, -, -⟩ := hg p2 [] u1
          have hle := H3.le e9 c9 hr9
          have hn9 := H3.1.2.1
          rw [hr9] at H3
          rw [show g 205 = k0 from k1]
          refine m_lawT (m := c9.length) hl e3 h68' g1 (fun h4 w1 mf4 => hQ h4 ?_ ((((mf1.wk (L' := [64, 68, 69])).tr mf2 (by decide)).tr mf3 (by decide)).tr mf4 (by decide)))
          rw [u4]
          exact mr_R.L (L := []) (k0 := k0) H3 mf4 w1 ((az_s_ne (by omega)).trans ((az_s_ne (by omega)).trans ((az_s_ne (by omega)).trans g1))) (hV.lw hB hl u3 rfl (by omega) g2 g3)
        · exact az_vret dX12_readLaw_51 (by obtain ⟨x, hx⟩ := mr_w1 c48; subst q1; refine hQ h3 ?_ (((mf1.wk (L' := [64, 68, 69])).tr mf2 (by decide)).tr mf3 (by decide)); rw [(law_x (v := v) (e := e) q2 q3).1 x hx]; rw [hx] at H3; exact H3)
      · refine az_aload_n dX12_readLaw_31 ?_
        refine az_iconst (v := nI 0) dX12_readLaw_32 ?_
        refine az_cV0 (st := []) dX12_readLaw_33 ml_X12_182 e2 ((m_levels (sc := sc) (b := b) (n := n) 6 0 rfl).1 (d := d - 1) (by omega) H2 ?_)
        intro h3 H3 mf3
        rw [show (rd_lv b n 6).1 = rd_PL b n l from (if_pos c28).symm] at H3
        obtain ⟨r3, q3⟩ : ∃ x : rd_R, x = rd_b r2 (rd_PL b n l) := ⟨_, rfl⟩
        rw [← q3] at H3
        obtain ⟨a3, z3, ki3, nu3, wa3, e3, w3, hki3, hnu3⟩ := H3.o
        refine az_goto (tgt := 44) dX12_readLaw_36 ?_
        refine az_aload_n dX12_readLaw_44 ?_
        refine az_getf (v := .int (nI (mr_w (r3)))) dX12_readLaw_45 fl_X12_153 e3 ?_
        refine az_if_eqN (tgt := 52) dX12_readLaw_48 (fun c48 => ?_) (fun c48 => ?_)
        · obtain ⟨e9, c9, hr9⟩ := mr_w0 H3 c48
          subst q1
          obtain ⟨p2, u1, u2, u3, u4⟩ := (law_x (v := v) (e := e) q2 q3).2 e9 c9 hr9
          obtain ⟨g', h68', hg'⟩ := H3.g
          obtain ⟨g1, g2, g3⟩ := hg' e9 c9 hr9
          obtain ⟨k1, -, -⟩ := hg p2 [] u1
          have hle := H3.le e9 c9 hr9
          have hn9 := H3.1.2.1
          rw [hr9] at H3
          rw [show g 205 = k0 from k1]
          refine m_lawT (m := c9.length) hl e3 h68' g1 (fun h4 w1 mf4 => hQ h4 ?_ ((((mf1.wk (L' := [64, 68, 69])).tr mf2 (by decide)).tr mf3 (by decide)).tr mf4 (by decide)))
          rw [u4]
          exact mr_R.L (L := []) (k0 := k0) H3 mf4 w1 ((az_s_ne (by omega)).trans ((az_s_ne (by omega)).trans ((az_s_ne (by omega)).trans g1))) (hV.lw hB hl u3 rfl (by omega) g2 g3)
        · exact az_vret dX12_readLaw_51 (by obtain ⟨x, hx⟩ := mr_w1 c48; subst q1; refine hQ h3 ?_ (((mf1.wk (L' := [64, 68, 69])).tr mf2 (by decide)).tr mf3 (by decide)); rw [(law_x (v := v) (e := e) q2 q3).1 x hx]; rw [hx] at H3; exact H3)
set_option maxHeartbeats 4000000 in
set_option maxRecDepth 100000 in
theorem m_readLine {d e : Nat} {v : rd_V} {sc : Nat → Value} {b : Nat → Nat} {n : Nat} {fr : Nat → Nat} {k0 : Nat} {hp : az_Hp} {Q : Option Value → az_Hp → Prop} (hd : 61 ≤ d) (H : mr_R hp sc b n fr k0 (.inl (e, []))) (hV : mr_V fr v k0) (hB : mr_B v) (hQ : ∀ h', mr_L h' sc b n (rd_body b n e v) → mf hp h' [64, 68, 69] → Q none h') : az_M mX12_readLine d 0 0 [.ref 64] hp Q := by
  obtain ⟨hT, h1, h2, ⟨kk, nu, wa, hkk, hnu, h64⟩, hC⟩ := id H
  have he : e ≤ n := h1
  have w3 := kw_stands (b := b) he
  have w4 := kw_rule (b := b) he
  have w6 := kw_picks (b := b) he
  have w7 := kw_sleeps (b := b) he
  refine az_M.of rfl (Nat.le_of_ble_eq_true rfl) ?_
  show az_W _ _ _ _ 0 [(0, .ref 64)] [] _ _
  refine az_aload_n dX12_readLine_0 ?_
  refine az_getf (v := .int (nI 0)) dX12_readLine_1 fl_X12_153 h64 ?_
  refine az_if_eqN (tgt := 8) dX12_readLine_4 (fun c4 => ?_) (fun c4 => ?_)
  · refine az_aload_n dX12_readLine_8 ?_
    refine az_iconst (v := nI 3) dX12_readLine_9 ?_
    refine az_cV0 (st := []) dX12_readLine_10 ml_X12_159 h64 (m_is (d := d - 1) (k9 := 3) (by decide) H ?_ ?_)
    · intro ee cc hr hm
      cases hr
      refine az_if_eqN (tgt := 23) dX12_readLine_13 (fun c13 => ?_) (fun c13 => ?_)
      · exact absurd c13 (by omega)
      · refine az_aload_n dX12_readLine_16 ?_
        refine az_cV0 (st := []) dX12_readLine_17 ml_X12_213 h64 (m_readStands (d := d - 1) (by omega) H hV hB ?_)
        intro h3 H3 mf3
        refine az_goto (tgt := 75) dX12_readLine_20 ?_
        exact az_vret dX12_readLine_75 (by first | exact hQ h3 (by rw [rd_body, if_pos (w3.mp hm)]; exact H3) mf3 | exact hQ h4 (by rw [rd_body, if_neg n3, if_pos (w4.mp hm)]; exact H4) mf4 | (have _g := H5; first | exact hQ h5 (by rw [rd_body, if_neg n3, if_neg n4, if_neg n6, if_pos (w7.mp hm)]; rw [rd_lw, if_neg (by omega)] at H5; exact H5) mf5 | exact hQ h5 (by rw [rd_body, if_neg n3, if_neg n4, if_pos (w6.mp hm)]; rw [rd_lw, if_pos (by omega)] at H5; exact H5) mf5) | exact hQ h6 (by rw [rd_body, if_neg n3, if_neg n4, if_neg n6, if_neg n7]; exact H6) mf6.wk)
    · intro hno3
      have n3 : ¬ rd_isW b n e "stands" := (fun q => hno3 e [] rfl (w3.mpr q))
      refine az_if_eqN (tgt := 23) dX12_readLine_13 (fun c13 => ?_) (fun c13 => ?_)
      · refine az_aload_n dX12_readLine_23 ?_
        refine az_iconst (v := nI 4) dX12_readLine_24 ?_
        refine az_cV0 (st := []) dX12_readLine_25 ml_X12_159 h64 (m_is (d := d - 1) (k9 := 4) (by decide) H ?_ ?_)
        · intro ee cc hr hm
          cases hr
          refine az_if_eqN (tgt := 38) dX12_readLine_28 (fun c28 => ?_) (fun c28 => ?_)
          · exact absurd c28 (by omega)
          · refine az_aload_n dX12_readLine_31 ?_
            refine az_cV0 (st := []) dX12_readLine_32 ml_X12_216 h64 (m_readRule (d := d - 1) (by omega) H hV hB ?_)
            intro h4 H4 mf4
            refine az_goto (tgt := 75) dX12_readLine_35 ?_
            exact az_vret dX12_readLine_75 (by first | exact hQ h3 (by rw [rd_body, if_pos (w3.mp hm)]; exact H3) mf3 | exact hQ h4 (by rw [rd_body, if_neg n3, if_pos (w4.mp hm)]; exact H4) mf4 | (have _g := H5; first | exact hQ h5 (by rw [rd_body, if_neg n3, if_neg n4, if_neg n6, if_pos (w7.mp hm)]; rw [rd_lw, if_neg (by omega)] at H5; exact H5) mf5 | exact hQ h5 (by rw [rd_body, if_neg n3, if_neg n4, if_pos (w6.mp hm)]; rw [rd_lw, if_pos (by omega)] at H5; exact H5) mf5) | exact hQ h6 (by rw [rd_body, if_neg n3, if_neg n4, if_neg n6, if_neg n7]; exact H6) mf6.wk)
        · intro hno4
          have n4 : ¬ rd_isW b n e "rule" := (fun q => hno4 e [] rfl (w4.mpr q))
          refine az_if_eqN (tgt := 38) dX12_readLine_28 (fun c28 => ?_) (fun c28 => ?_)
          · refine az_aload_n dX12_readLine_38 ?_
            refine az_bipush (v := nI 6) dX12_readLine_39 ?_
            refine az_cV0 (st := []) dX12_readLine_41 ml_X12_159 h64 (m_is (d := d - 1) (k9 := 6) (by decide) H ?_ ?_)
            · intro ee cc hr hm
              cases hr
              obtain ⟨l9, hl9⟩ : ∃ x : Nat, x = 0 := ⟨_, rfl⟩
              have hl : l9 < 2 := (by omega)
              have hk9 : kk = 6 + l9 := (by rw [hl9]; exact mrK_1 hkk hm)
              refine az_if_neN (tgt := 56) dX12_readLine_44 (fun c44 => ?_) (fun c44 => ?_)
              · refine az_aload_n dX12_readLine_56 ?_
                refine az_aload_n dX12_readLine_57 ?_
                refine az_getf (v := .int (nI kk)) dX12_readLine_58 fl_X12_135 h64 ?_
                refine az_bipush (v := nI 6) dX12_readLine_61 ?_
                refine az_isubN dX12_readLine_63 (by omega) ?_
                refine az_cV0 (st := []) dX12_readLine_64 ml_X12_219 h64 (m_readLaw (d := d - 1) (l := kk - 6) (by omega) (by omega) H hV hB ?_)
                intro h5 H5 mf5
                refine az_goto (tgt := 75) dX12_readLine_67 ?_
                exact az_vret dX12_readLine_75 (by first | exact hQ h3 (by rw [rd_body, if_pos (w3.mp hm)]; exact H3) mf3 | exact hQ h4 (by rw [rd_body, if_neg n3, if_pos (w4.mp hm)]; exact H4) mf4 | (have _g := H5; first | exact hQ h5 (by rw [rd_body, if_neg n3, if_neg n4, if_neg n6, if_pos (w7.mp hm)]; rw [rd_lw, if_neg (by omega)] at H5; exact H5) mf5 | exact hQ h5 (by rw [rd_body, if_neg n3, if_neg n4, if_pos (w6.mp hm)]; rw [rd_lw, if_pos (by omega)] at H5; exact H5) mf5) | exact hQ h6 (by rw [rd_body, if_neg n3, if_neg n4, if_neg n6, if_neg n7]; exact H6) mf6.wk)
              · exact absurd c44 (by omega)
            · intro hno6
              have n6 : ¬ rd_isW b n e "picks" := (fun q => hno6 e [] rfl (w6.mpr q))
              refine az_if_neN (tgt := 56) dX12_readLine_44 (fun c44 => ?_) (fun c44 => ?_)
              · exact absurd c44 (by omega)
              · refine az_aload_n dX12_readLine_47 ?_
                refine az_bipush (v := nI 7) dX12_readLine_48 ?_
                refine az_cV0 (st := []) dX12_readLine_50 ml_X12_159 h64 (m_is (d := d - 1) (k9 := 7) (by decide) H ?_ ?_)
                · intro ee cc hr hm
                  cases hr
                  obtain ⟨l9, hl9⟩ : ∃ x : Nat, x = 1 := ⟨_, rfl⟩
                  have hl : l9 < 2 := (by omega)
                  have hk9 : kk = 6 + l9 := (by rw [hl9]; exact mrK_1 hkk hm)
                  refine az_if_eqN (tgt := 70) dX12_readLine_53 (fun c53 => ?_) (fun c53 => ?_)
                  · exact absurd c53 (by omega)
                  · refine az_aload_n dX12_readLine_56 ?_
                    refine az_aload_n dX12_readLine_57 ?_
                    refine az_getf (v := .int (nI kk)) dX12_readLine_58 fl_X12_135 h64 ?_
                    refine az_bipush (v := nI 6) dX12_readLine_61 ?_
                    refine az_isubN dX12_readLine_63 (by omega) ?_
                    refine az_cV0 (st := []) dX12_readLine_64 ml_X12_219 h64 (m_readLaw (d := d - 1) (l := kk - 6) (by omega) (by omega) H hV hB ?_)
                    intro h5 H5 mf5
                    refine az_goto (tgt := 75) dX12_readLine_67 ?_
                    exact az_vret dX12_readLine_75 (by first | exact hQ h3 (by rw [rd_body, if_pos (w3.mp hm)]; exact H3) mf3 | exact hQ h4 (by rw [rd_body, if_neg n3, if_pos (w4.mp hm)]; exact H4) mf4 | (have _g := H5; first | exact hQ h5 (by rw [rd_body, if_neg n3, if_neg n4, if_neg n6, if_pos (w7.mp hm)]; rw [rd_lw, if_neg (by omega)] at H5; exact H5) mf5 | exact hQ h5 (by rw [rd_body, if_neg n3, if_neg n4, if_pos (w6.mp hm)]; rw [rd_lw, if_pos (by omega)] at H5; exact H5) mf5) | exact hQ h6 (by rw [rd_body, if_neg n3, if_neg n4, if_neg n6, if_neg n7]; exact H6) mf6.wk)
                · intro hno7
                  have n7 : ¬ rd_isW b n e "sleeps" := (fun q => hno7 e [] rfl (w7.mpr q))
                  refine az_if_eqN (tgt := 70) dX12_readLine_53 (fun c53 => ?_) (fun c53 => ?_)
                  · refine az_aload_n dX12_readLine_70 ?_
                    refine az_iconst (v := nI 2) dX12_readLine_71 ?_
                    refine az_cV0 (st := []) dX12_readLine_72 ml_X12_165 h64 (m_fails (d := d - 1) (f9 := 2) (by decide) (by decide) H ?_)
                    intro h6 H6 mf6
                    exact az_vret dX12_readLine_75 (by first | exact hQ h3 (by rw [rd_body, if_pos (w3.mp hm)]; exact H3) mf3 | exact hQ h4 (by rw [rd_body, if_neg n3, if_pos (w4.mp hm)]; exact H4) mf4 | (have _g := H5; first | exact hQ h5 (by rw [rd_body, if_neg n3, if_neg n4, if_neg n6, if_pos (w7.mp hm)]; rw [rd_lw, if_neg (by omega)] at H5; exact H5) mf5 | exact hQ h5 (by rw [rd_body, if_neg n3, if_neg n4, if_pos (w6.mp hm)]; rw [rd_lw, if_pos (by omega)] at H5; exact H5) mf5) | exact hQ h6 (by rw [rd_body, if_neg n3, if_neg n4, if_neg n6, if_neg n7]; exact H6) mf6.wk)
                  · exact absurd c53 (by omega)
          · exact absurd c28 (by omega)
      · exact absurd c13 (by omega)
  · exact absurd c4 (by omega)
