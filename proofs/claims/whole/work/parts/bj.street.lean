/-! The model: street -/
set_option maxHeartbeats 4000000 in
set_option maxRecDepth 100000 in
theorem m_streetE {d n : Nat} {x : Int32} {A tf : Nat → Nat} {hI rs rm : Nat → Int32} {nu : Nat → Int64} {sc : Nat → Value} {mo ni : Nat} {bt : Nat → Nat} {v : rd_V} {bs : List Nat} {U : ln_U} {im : Nat → Option (rd_V × ln_Z)} {tr : Nat → Option (Nat × List Int64)} {h1 h5 : az_Hp} {Q : Option Value → az_Hp → Prop} {T : rd_T} (hn9 : n ≤ 900) (hT9 : rd_town bt n = T) (H5 : mr_L h5 (su sc 5 (.int (nI 0))) bt n T) (hgd : ∀ e v', T = .inl (e, v') → rd_gd9 v') (mf5 : mf h1 h5 [64, 68, 69]) (a3 : h1.2 65 = some (az_I 3318 (fun j => nI (A j)))) (a4 : mT A v (mo, ni, bs)) (a5 : mU A U) (a6 : h1.2 66 = some (az_Z 2 hI)) (a7 : mI A hI im) (a8 : h1.2 67 = some (az_I 900 (fun j => nI (tf j)))) (a10 : h1.2 90 = some (az_I 4 rs)) (a11 : h1.2 91 = some (az_I 4 rm)) (a12 : h1.2 92 = some (az_J 160 nu)) (a13 : mR rs rm nu tr) (a14 : mk h1) (hQ0 : ∀ f p, rd_town bt n = .inr (f, p) → ∀ h', mm h' ((0, bt), (f, nI p), v, (mo, ni, bs), U, im, tr) → az_fr h1 h' 64 93 → Q (some (.int ((-30) - nI f))) h') (hQ : ∀ e v', rd_town bt n = .inl (e, v') → ∀ h', mm h' ((0, bt), (0, (-1)), v', (ln_mo (rd_w v'), 0, []), [], im, tr) → az_fr h1 h' 64 93 → Q (some (.int (nI (ln_li (rd_w v'))))) h') : az_W mX12_street d 0 0 125 [(0, .ref 64), (1, .int x)] [] h5 Q := by
  match T, hT9, H5, hgd with
  | .inr (f, p), hT9, H5, _ =>
    obtain ⟨⟨-, -, -, sp, s69⟩, hf1, hf2, hpn, ⟨a, z, ki, nu9, h64⟩, g, h68⟩ := (show mr_R h5 (su sc 5 (.int (nI 0))) bt n (fun _ => 0) 0 (.inr (f, p)) from H5)
    refine m_streetDE hf1 hf2 h64 (fun h6 e6 mf6 => ?_)
    have hm : mf h1 h6 [64, 68, 69] := mf5.tr mf6 (by decide)
    refine hQ0 f p hT9 h6 ⟨(su (su (su (su (su (su (su (su (su (su sc 5 (.int (nI 0))) 13 (.int (nI f))) 14 (.int (nI p))) 6 (.int (nI a))) 7 (.int (nI z))) 8 (.int (nI n))) 9 (.int ki)) 10 (.int nu9)) 11 (.int (nI f))) 12 (.int (nI p))), A, tf, hI, rs, rm, nu, e6, ⟨rfl, rfl, rfl⟩, hm.at a3, a4, a5, hm.at a6, a7, hm.at a8, (fun j hj => absurd hj (Nat.not_lt_zero j)), hm.at a10, hm.at a11, hm.at a12, a13, a14.mf hm (by decide) ⟨_, mf6.at h68⟩ ⟨_, mf6.at s69⟩⟩ hm.fr
  | .inl (e, v'), hT9, H5, hgd =>
    obtain ⟨fr, k0, H, hV⟩ := H5
    obtain ⟨⟨-, -, -, sp, s69⟩, he, hk0, ⟨k, nu9, wa, hk, -, h64⟩, g, h68, hg1, -, hg3⟩ := H
    obtain ⟨a, ha⟩ : ∃ a, a = rd_fr bt n e := ⟨_, rfl⟩
    obtain ⟨z, hz⟩ : ∃ a, a = rd_en bt n e := ⟨_, rfl⟩
    obtain ⟨ki, hki⟩ : ∃ a, a = nI k := ⟨_, rfl⟩
    rw [← ha, ← hz, ← hki] at h64
    have hk0 : k0 + 0 ≤ e := hk0
    have he : e ≤ n := he
    have hB := gd9_B (hgd e v' rfl)
    have hV2 := hV.cg (g := g) hg3 hB.2.2.1 hB.2.2.2
    refine m_streetDS h64 (mf5.at a3) h68 (fun h6 A' e6 e65 hlo hhi mf6 => ?_)
    have hm : mf h1 h6 [64, 65, 68, 69] := mf5.wk.tr mf6 (by decide)
    have hVA := hV2.1.cg hB hlo
    have hA0 : A' 0 = ln_li (rd_w v') := hVA.1
    rw [hA0]
    obtain ⟨w1, w2, w3, w4⟩ := hV2.2.1
    refine hQ e v' hT9 h6 ⟨(su (su (su (su (su (su (su (su (su (su sc 5 (.int (nI 0))) 13 (.int (nI 0))) 14 (.int (-1))) 6 (.int (nI a))) 7 (.int (nI z))) 8 (.int (nI n))) 9 (.int ki)) 10 (.int nu9)) 11 (.int (nI 0))) 12 (.int wa)), A', tf, hI, rs, rm, nu, e6, ⟨rfl, rfl, rfl⟩, e65, ⟨hVA, (hlo _ (by decide)).trans w1, (hlo _ (by decide)).trans w2, (hlo _ (by decide)).trans w3, fun k hk => absurd hk (Nat.not_lt_zero k)⟩, ⟨(hlo _ (by decide)).trans w4, fun k hk => absurd hk (Nat.not_lt_zero k)⟩, hm.at a6, a7.cg hhi, hm.at a8, (fun j hj => absurd hj (Nat.not_lt_zero j)), hm.at a10, hm.at a11, hm.at a12, a13, a14.mf hm (by decide) ⟨_, mf6.at h68⟩ ⟨_, mf6.at s69⟩⟩ hm.fr
set_option maxHeartbeats 4000000 in
set_option maxRecDepth 100000 in
theorem q_street {d : Nat} {x : Int32} {tp fk mo ni : Nat} {bt : Nat → Nat} {fp : Int32} {v : rd_V} {bs : List Nat} {U : ln_U} {im : Nat → Option (rd_V × ln_Z)} {tr : Nat → Option (Nat × List Int64)} {hp : az_Hp} {Q : Option Value → az_Hp → Prop} (hd : 70 ≤ d) (hok : cs_ok ((tp, bt), (fk, fp), v, (mo, ni, bs), U, im, tr)) (hM : mm hp ((tp, bt), (fk, fp), v, (mo, ni, bs), U, im, tr)) (hQ3 : (∀ n, n ≤ tp → x ≠ nI n) → ∀ h', mm h' ((tp, bt), (fk, fp), v, (mo, ni, bs), U, im, tr) → az_fr hp h' 64 93 → Q (some (.int (-3))) h') (hQ0 : ∀ n f p, x = nI n → n ≤ tp → rd_town bt n = .inr (f, p) → ∀ h', mm h' ((0, bt), (f, nI p), v, (mo, ni, bs), U, im, tr) → az_fr hp h' 64 93 → Q (some (.int ((-30) - nI f))) h') (hQ : ∀ n e v', x = nI n → n ≤ tp → rd_town bt n = .inl (e, v') → ∀ h', mm h' ((0, bt), (0, (-1)), v', (ln_mo (rd_w v'), 0, []), [], im, tr) → az_fr hp h' 64 93 → Q (some (.int (nI (ln_li (rd_w v'))))) h') : az_M mX12_street d 0 0 [.ref 64, .int x] hp Q := by
  obtain ⟨sc0, A0, tf0, hI0, rs0, rm0, nu0, o1, o2, -⟩ := id hM
  have hgd : rd_good v := hok.2.2.1
  have hw : ln_ok (rd_w v) := hgd.1
  have hba : ln_ba (rd_w v) bs := hok.2.2.2.1
  have hb : ln_by (rd_w v) bs := hba.b
  have hlen := hb.2.2
  have h60 := hb.1
  have hU10 : U.length ≤ 10 := hok.2.2.2.2.1
  have ht1 := hw.1
  have ht3 := hw.2.1
  have htp9 : tp ≤ 900 := hok.1
  have hb6 : ∀ j, bt j < 256 := hok.2.1
  refine az_M.of rfl (Nat.le_of_ble_eq_true rfl) ?_
  show az_W _ _ _ _ 0 [(0, .ref 64), (1, .int x)] [] _ _
  refine az_aload_n dX12_street_0 ?_
  refine az_iconst (v := nI 0) dX12_street_1 ?_
  refine az_putf (fs' := [.int (nI 0), .ref 65, .ref 66, .ref 67, .ref 68, sc0 5, fI (sc0 6), sc0 7, sc0 8, fI (sc0 9), fI (sc0 10), sc0 11, fI (sc0 12), sc0 13, sc0 14, .ref 69, .ref 70, .ref 71, sc0 18, .ref 72, .ref 73, .ref 74, sc0 22, sc0 23, .ref 75, sc0 25, .ref 76, .ref 77, .ref 78, sc0 29, .ref 79, .ref 80, .ref 81, .ref 82, .ref 83, .ref 84, .ref 85, sc0 37, .ref 86, .ref 87, .ref 88, .ref 89, .ref 90, .ref 91, .ref 92]) dX12_street_2 fl_X12_1 o1 ?_
  obtain ⟨h1, hf1, hM1, hh1⟩ : ∃ h1, az_fr hp h1 64 93 ∧ mm h1 ((tp, bt), (fk, fp), v, (mo, ni, bs), U, im, tr) ∧ h1 = az_up hp 64 (mo_o (su sc0 0 (.int (nI 0)))) := ⟨_, az_fr.rf.up, hM.O (sc := su sc0 0 (.int (nI 0))) o2.1 o2.2.1 o2.2.2, rfl⟩
  rw [show (az_up hp 64 (az_O 11 [.int (nI 0), .ref 65, .ref 66, .ref 67, .ref 68, sc0 5, fI (sc0 6), sc0 7, sc0 8, fI (sc0 9), fI (sc0 10), sc0 11, fI (sc0 12), sc0 13, sc0 14, .ref 69, .ref 70, .ref 71, sc0 18, .ref 72, .ref 73, .ref 74, sc0 22, sc0 23, .ref 75, sc0 25, .ref 76, .ref 77, .ref 78, sc0 29, .ref 79, .ref 80, .ref 81, .ref 82, .ref 83, .ref 84, .ref 85, sc0 37, .ref 86, .ref 87, .ref 88, .ref 89, .ref 90, .ref 91, .ref 92])) = h1 from hh1.symm]
  obtain ⟨sc, A, tf, hI, rs, rm, nu, a1, a2, a3, a4, a5, a6', a7, a8, a9, a10, a11, a12, a13, a14⟩ := id hM1
  have a4 : mT A v (mo, ni, bs) := a4
  have a5 : mU A U := a5
  have a7 : mI A hI im := a7
  have a9 : ∀ j, j < tp → tf j = bt j := a9
  have a13 : mR rs rm nu tr := a13
  obtain ⟨y6, hy6⟩ := fI_ex (sc 6)
  obtain ⟨a6, ha6⟩ := I_ex y6
  rw [ha6] at hy6
  obtain ⟨x9, hx9⟩ := fI_ex (sc 9)
  obtain ⟨x10, hx10⟩ := fI_ex (sc 10)
  obtain ⟨x12, hx12⟩ := fI_ex (sc 12)
  obtain ⟨f68, e68⟩ := a14.I (q := 68) (n := 1106)
  obtain ⟨g68, hg68⟩ := I_fun f68
  rw [hg68] at e68
  obtain ⟨f69, e69⟩ := a14.I (q := 69) (n := 12)
  have a1' : h1.2 64 = some (az_O 11 [sc 0, .ref 65, .ref 66, .ref 67, .ref 68, .int (nI tp), .int (nI a6), sc 7, sc 8, .int x9, .int x10, sc 11, .int x12, sc 13, sc 14, .ref 69, .ref 70, .ref 71, sc 18, .ref 72, .ref 73, .ref 74, sc 22, sc 23, .ref 75, sc 25, .ref 76, .ref 77, .ref 78, sc 29, .ref 79, .ref 80, .ref 81, .ref 82, .ref 83, .ref 84, .ref 85, sc 37, .ref 86, .ref 87, .ref 88, .ref 89, .ref 90, .ref 91, .ref 92]) := (by have q1 : sc 5 = .int (nI tp) := a2.1; rw [← q1, ← hy6, ← hx9, ← hx10, ← hx12]; exact a1)
  refine az_iload_n dX12_street_5 ?_
  refine az_i2l dX12_street_6 ?_
  refine az_lconst (v := lN 0) dX12_street_7 ?_
  refine az_aload_n dX12_street_8 ?_
  refine az_getf (v := .int (nI tp)) dX12_street_9 fl_X12_107 a1' ?_
  refine az_i2lN dX12_street_12 ?_
  refine az_cS0 (st := []) dX12_street_13 ml_X12_169 (m_withinI (d := d - 1) (lo := 0) (hi := tp) (by omega) (by decide) ?_ ?_)
  · intro n hx n1 n2
    subst hx
    refine az_if_neN (tgt := 22) dX12_street_16 (fun c16 => ?_) (fun c16 => ?_)
    · skip
      refine az_aload_n dX12_street_22 ?_
      refine az_iload_n dX12_street_23 ?_
      refine az_putf (fs' := [sc 0, .ref 65, .ref 66, .ref 67, .ref 68, .int (nI tp), .int (nI a6), sc 7, .int (nI n), .int x9, .int x10, sc 11, .int x12, sc 13, sc 14, .ref 69, .ref 70, .ref 71, sc 18, .ref 72, .ref 73, .ref 74, sc 22, sc 23, .ref 75, sc 25, .ref 76, .ref 77, .ref 78, sc 29, .ref 79, .ref 80, .ref 81, .ref 82, .ref 83, .ref 84, .ref 85, sc 37, .ref 86, .ref 87, .ref 88, .ref 89, .ref 90, .ref 91, .ref 92]) dX12_street_24 fl_X12_110 a1' ?_
      refine az_aload_n dX12_street_27 ?_
      refine az_iconst (v := nI 0) dX12_street_28 ?_
      refine az_putf (fs' := [sc 0, .ref 65, .ref 66, .ref 67, .ref 68, .int (nI 0), .int (nI a6), sc 7, .int (nI n), .int x9, .int x10, sc 11, .int x12, sc 13, sc 14, .ref 69, .ref 70, .ref 71, sc 18, .ref 72, .ref 73, .ref 74, sc 22, sc 23, .ref 75, sc 25, .ref 76, .ref 77, .ref 78, sc 29, .ref 79, .ref 80, .ref 81, .ref 82, .ref 83, .ref 84, .ref 85, sc 37, .ref 86, .ref 87, .ref 88, .ref 89, .ref 90, .ref 91, .ref 92]) dX12_street_29 fl_X12_107 az_up_eq ?_
      refine az_aload_n dX12_street_32 ?_
      refine az_iconst (v := nI 0) dX12_street_33 ?_
      refine az_putf (fs' := [sc 0, .ref 65, .ref 66, .ref 67, .ref 68, .int (nI 0), .int (nI a6), .int (nI 0), .int (nI n), .int x9, .int x10, sc 11, .int x12, sc 13, sc 14, .ref 69, .ref 70, .ref 71, sc 18, .ref 72, .ref 73, .ref 74, sc 22, sc 23, .ref 75, sc 25, .ref 76, .ref 77, .ref 78, sc 29, .ref 79, .ref 80, .ref 81, .ref 82, .ref 83, .ref 84, .ref 85, sc 37, .ref 86, .ref 87, .ref 88, .ref 89, .ref 90, .ref 91, .ref 92]) dX12_street_34 fl_X12_128 az_up_eq ?_
      refine az_aload_n dX12_street_37 ?_
      refine az_iconst (v := nI 0) dX12_street_38 ?_
      refine az_putf (fs' := [sc 0, .ref 65, .ref 66, .ref 67, .ref 68, .int (nI 0), .int (nI a6), .int (nI 0), .int (nI n), .int x9, .int x10, .int (nI 0), .int x12, sc 13, sc 14, .ref 69, .ref 70, .ref 71, sc 18, .ref 72, .ref 73, .ref 74, sc 22, sc 23, .ref 75, sc 25, .ref 76, .ref 77, .ref 78, sc 29, .ref 79, .ref 80, .ref 81, .ref 82, .ref 83, .ref 84, .ref 85, sc 37, .ref 86, .ref 87, .ref 88, .ref 89, .ref 90, .ref 91, .ref 92]) dX12_street_39 fl_X12_153 az_up_eq ?_
      refine az_aload_n dX12_street_42 ?_
      refine az_getf (v := .ref 68) dX12_street_43 fl_X12_24 az_up_eq ?_
      refine az_cS0 (st := []) dX12_street_46 ml_X12_103 (m_plain (d := d - 1) (q := 68) (N := 1106) (g := g68) (by decide) (by repeat (first | exact e68 | apply az_up_ne)) ?_)
      intro h3 g3 b1 b2 b3 _b4 mf3
      have mf3' := mf3.wk (L' := [64, 68, 69])
      have mfh : mf h1 h3 [64, 68, 69] := ⟨mf3.1, fun q hq => (mf3.2 q (fun c => hq (List.mem_cons_of_mem _ (by rw [List.mem_singleton] at c; rw [c]; exact List.mem_cons_self)))).trans (by repeat (first | rfl | refine az_up_ne ?_ (fun c => hq (by rw [c]; exact List.mem_cons_self))))⟩
      have h64' : h3.2 64 = some (mr_o (su sc 5 (.int (nI 0))) a6 0 n x9 x10 (nI 0) x12) := mf3.at (by simp only [az_up_up]; exact az_up_eq)
      refine m_streetB (d := d) (b := bt) (by omega) ⟨hb6, by omega, ⟨tf, mfh.at a8, fun j hj => a9 j (by omega)⟩, f69, mf3.at (by repeat (first | exact e69 | apply az_up_ne))⟩ h64' b1 b2 b3 (fun h4 H4 mf4 => ?_)
      refine m_streetC (k1 := n + 1) (by omega) (by omega) H4 (fun e v9 q => ⟨(rd_head_le (Nat.zero_le _) q).2.1, rd_head_gd rd_gd9_0 q, (by omega)⟩) (fun h5 T hT H5 mf5 => ?_)
      have hT9 : rd_town bt n = T := hT
      refine m_streetE (by omega) hT9 H5 (fun e v9 q => rd_town_gd9 (by omega) (hT9.trans q)) ((mfh.tr mf4 (by decide)).tr mf5 (by decide)) a3 a4 a5 a6' a7 a8 a10 a11 a12 a13 a14 (fun f p q h' u1 u2 => hQ0 n f p rfl n2 q h' u1 (hf1.tr u2)) (fun e v9 q h' u1 u2 => hQ n e v9 rfl n2 q h' u1 (hf1.tr u2))
    · exact absurd c16 (by omega)
  · intro hx
    refine az_if_neN (tgt := 22) dX12_street_16 (fun c16 => ?_) (fun c16 => ?_)
    · exact absurd c16 (by omega)
    · refine az_bipush (v := (-3)) dX12_street_19 ?_
      exact az_iret dX12_street_21 (hQ3 (fun n hn => hx n (Nat.zero_le _) hn) h1 hM1 hf1)
