/-! The model: nights, the moon, undone, told deeds -/
theorem mT.keepN {A A' : Nat → Nat} {v : rd_V} {z : ln_Z} (H : mT A v z) (hw : ln_ok (rd_w v)) (h : ∀ j, (j < 114 ∨ 145 ≤ j) → A' j = A j) : mT A' v z := ⟨mV.keepN H.1 hw h, (h _ (by omega)).trans H.2.1, (h _ (by omega)).trans H.2.2.1, (h _ (by omega)).trans H.2.2.2.1, fun k hk => (h _ (by omega)).trans (H.2.2.2.2 k hk)⟩
theorem dn_step {w : ln_W} {pk sl : List Nat} {k : Nat} {z : ln_Z} : dn w pk sl (k + 1) z = if (dz w pk sl z (lN 0)).1 = 0 then ((dn w pk sl k (dz w pk sl z (lN 0)).2).1 + 1, (dn w pk sl k (dz w pk sl z (lN 0)).2).2) else (0, z) := rfl
theorem m_whyNight0 {d : Nat} {sc : Nat → Value} {A : Nat → Nat} {v : rd_V} {mo ni : Nat} {bs : List Nat} {hp : az_Hp} {Q : Option Value → az_Hp → Prop} (hd : 6 ≤ d) (hgd : rd_good v) (hb : ln_by (rd_w v) bs) (h64 : hp.2 64 = some (mo_o sc)) (h65 : hp.2 65 = some (az_I 3318 (fun j => nI (A j)))) (hT : mT A v (mo, ni, bs)) (hk : mk hp) (hQ : ∀ h' sc', h'.2 64 = some (mo_o sc') → sc' 22 = .int (ln_opt (mpk v (mo, ni, bs) 0)) → (∀ j, j ≠ 18 → j ≠ 22 → sc' j = sc j) → mk h' → mf hp h' [64, 70, 72, 73] → Q (some (.int (nI (dz (rd_w v) v.2.2.2.2.2.2.2.1 v.2.2.2.2.2.2.2.2 (mo, ni, bs) (lN 0)).1))) h') : az_M mX12_whyNight d 0 0 [.ref 64, .long (lN 0)] hp Q := by
  refine m_whyNight hd hgd hb h64 h65 hT hk (fun hno => absurd rfl (hno 0 (Nat.zero_le _))) (fun n hx hn h' sc' b1 b2 b3 b4 b5 => ?_)
  obtain rfl : n = 0 := by
    have q := congrArg Int64.toInt hx
    have h3 := hgd.1.2.1
    rw [lN_toI (by omega), lN_toI (by omega)] at q
    omega
  have e : wcode (rd_w v) (mo, ni, bs) (mpk v (mo, ni, bs) 0) = (dz (rd_w v) v.2.2.2.2.2.2.2.1 v.2.2.2.2.2.2.2.2 (mo, ni, bs) (lN 0)).1 := by rw [dz_mpk hgd.1 (mo, ni, bs) hn]
  rw [e]
  exact hQ h' sc' b1 b2 b3 b4 b5
theorem push_0 {U : ln_U} {k : Nat} {m : Nat × Nat × Nat} (h : k = 0) : cs_push U k m = U := if_pos h
theorem push_1 {U : ln_U} {k : Nat} {m : Nat × Nat × Nat} (h : ¬ k = 0) : cs_push U k m = ln_push U m := if_neg h
set_option maxHeartbeats 4000000 in
set_option maxRecDepth 100000 in
theorem m_nightsW {d n : Nat} {sc : Nat → Value} {A tf : Nat → Nat} {hI rs rm : Nat → Int32} {nu : Nat → Int64} {wn : Nat → Nat} {h1 hb2 : az_Hp} {tp fk mo ni : Nat} {bt : Nat → Nat} {fp : Int32} {v : rd_V} {bs : List Nat} {U : ln_U} {im : Nat → Option (rd_V × ln_Z)} {tr : Nat → Option (Nat × List Int64)} {hp : az_Hp} {Q : Option Value → az_Hp → Prop} (hgd : rd_good v) (hb : ln_by (rd_w v) bs) (hd : 9 ≤ d) (hok : cs_ok ((tp, bt), (fk, fp), v, (mo, ni, bs), U, im, tr)) (a2 : sc 5 = .int (nI tp) ∧ sc 13 = .int (nI fk) ∧ sc 14 = .int fp) (a6 : h1.2 66 = some (az_Z 2 hI)) (a7 : mI A hI im) (a8 : h1.2 67 = some (az_I 900 (fun j => nI (tf j)))) (a9 : ∀ j, j < tp → tf j = bt j) (a10 : h1.2 90 = some (az_I 4 rs)) (a11 : h1.2 91 = some (az_I 4 rm)) (a12 : h1.2 92 = some (az_J 160 nu)) (a13 : mR rs rm nu tr) (a4 : mT A v (mo, ni, bs)) (a5 : mU A U) (hf1 : az_fr hp h1 64 93) (hn60 : n ≤ 60) (hw3 : (wn 2, wn 1, wn 0) = (bs.length, ni, mo)) (c64 : hb2.2 64 = some (mo_o sc)) (c65 : hb2.2 65 = some (az_I 3318 (fun j => nI (A j)))) (c74 : hb2.2 74 = some (az_I 3 (fun j => nI (wn j)))) (cmk : mk hb2) (cmf : mf h1 hb2 [64, 65, 70, 72, 73, 74]) (hQ : ∀ h', mm h' ((tp, bt), (fk, fp), v, (dn (rd_w v) v.2.2.2.2.2.2.2.1 v.2.2.2.2.2.2.2.2 n (mo, ni, bs)).2, cs_push U (dn (rd_w v) v.2.2.2.2.2.2.2.1 v.2.2.2.2.2.2.2.2 n (mo, ni, bs)).1 (bs.length, ni, mo), im, tr) → az_fr hp h' 64 93 → Q (some (.int (nI (dn (rd_w v) v.2.2.2.2.2.2.2.1 v.2.2.2.2.2.2.2.2 n (mo, ni, bs)).1))) h') : az_W mX12_nights d 0 0 26 [(0, .ref 64), (1, .int (nI n)), (2, .int (nI 0))] [] hb2 Q := by
  have hw : ln_ok (rd_w v) := hgd.1
  have ht1 := hw.1
  have ht3 := hw.2.1
  have hU10 : U.length ≤ 10 := hok.2.2.2.2.1
  have loop : ∀ (k : Nat) (i m9 n9 : Nat) (b9 : List Nat) (h' : az_Hp) (sc1 : Nat → Value) (A1 : Nat → Nat), n - i = k → (i ≤ n) → (ln_by (rd_w v) b9) → (h'.2 64 = some (mo_o sc1)) → (∀ j, j ≠ 18 → j ≠ 22 → sc1 j = sc j) → (h'.2 65 = some (az_I 3318 (fun j => nI (A1 j)))) → (mT A1 v (m9, n9, b9)) → ((∀ j, (j < 111 ∨ (114 ≤ j ∧ j < 145) ∨ 205 ≤ j) → A1 j = A j)) → (h'.2 74 = some (az_I 3 (fun j => nI (wn j)))) → (mk h') → (mf hb2 h' [64, 65, 70, 72, 73]) → (dn (rd_w v) v.2.2.2.2.2.2.2.1 v.2.2.2.2.2.2.2.2 n (mo, ni, bs) = (i + (dn (rd_w v) v.2.2.2.2.2.2.2.1 v.2.2.2.2.2.2.2.2 (n - i) (m9, n9, b9)).1, (dn (rd_w v) v.2.2.2.2.2.2.2.1 v.2.2.2.2.2.2.2.2 (n - i) (m9, n9, b9)).2)) → az_W mX12_nights d 0 0 26 [(0, .ref 64), (1, .int (nI n)), (2, .int (nI i))] [] h' Q := by
    intro k
    induction k using Nat.strongRecOn with
    | _ k ih =>
    intro i m9 n9 b9 h' sc1 A1 hk hi hby b64 hs1 b65 hT1 hA1 b74 mk1' mf1 hD
    refine az_iload_n dX12_nights_26 ?_
    refine az_iload_n dX12_nights_27 ?_
    refine az_icmp_geN (tgt := 49) dX12_nights_28 (fun c28 => ?_) (fun c28 => ?_)
    · have hDi : dn (rd_w v) v.2.2.2.2.2.2.2.1 v.2.2.2.2.2.2.2.2 n (mo, ni, bs) = (i, (m9, n9, b9)) := (by first | (rw [show n - i = 0 by omega] at hD; exact hD) | (rw [if_neg (by omega)] at hD; exact hD))
      refine az_iload_n dX12_nights_49 ?_
      refine az_if_leN (tgt := 57) dX12_nights_50 (fun c50 => ?_) (fun c50 => ?_)
      · refine az_iload_n dX12_nights_57 ?_
        exact az_iret dX12_nights_58 (by first | (rw [hDi, push_1 (by show ¬ i = 0; omega)] at hQ; first | exact hQ _ (mm.go a2 a6 a7 a8 a9 a10 a11 a12 a13 (L := [64, 65, 70, 72, 73, 74]) ((cmf.tr (mf1.wk (L' := [64, 65, 70, 72, 73, 74])) (by decide)).up (by decide)) (by decide) (mk.uA mk1') b64 ⟨hs1 5 (by decide) (by decide), hs1 13 (by decide) (by decide), hs1 14 (by decide) (by decide)⟩ b65 (hT1.keepN hw k3) k4 (fun j hj => (k3 j (by omega)).trans (hA1 j (by omega)))) (hf1.tr (mf.fr (L := [64, 65, 70, 72, 73, 74]) ((cmf.tr (mf1.wk (L' := [64, 65, 70, 72, 73, 74])) (by decide)).up (by decide)))) | exact hQ _ (mm.go a2 a6 a7 a8 a9 a10 a11 a12 a13 (L := [64, 65, 70, 72, 73, 74]) (((cmf.tr (mf1.wk (L' := [64, 65, 70, 72, 73, 74])) (by decide)).tr (mf2.wk (L' := [64, 65, 70, 72, 73, 74])) (by decide)).up (by decide)) (by decide) (mk.uA mk2) b64 ⟨(hs2 5 (by decide) (by decide)).trans (hs1 5 (by decide) (by decide)), (hs2 13 (by decide) (by decide)).trans (hs1 13 (by decide) (by decide)), (hs2 14 (by decide) (by decide)).trans (hs1 14 (by decide) (by decide))⟩ b65 (hT1.keepN hw k3) k4 (fun j hj => (k3 j (by omega)).trans (hA1 j (by omega)))) (hf1.tr (mf.fr (L := [64, 65, 70, 72, 73, 74]) (((cmf.tr (mf1.wk (L' := [64, 65, 70, 72, 73, 74])) (by decide)).tr (mf2.wk (L' := [64, 65, 70, 72, 73, 74])) (by decide)).up (by decide))))) | (rw [hDi, push_0 (by show i = 0; omega)] at hQ; first | exact hQ _ (mm.go a2 a6 a7 a8 a9 a10 a11 a12 a13 (L := [64, 65, 70, 72, 73, 74]) (cmf.tr (mf1.wk (L' := [64, 65, 70, 72, 73, 74])) (by decide)) (by decide) mk1' b64 ⟨hs1 5 (by decide) (by decide), hs1 13 (by decide) (by decide), hs1 14 (by decide) (by decide)⟩ b65 hT1 (a5.keep hU10 hA1) (fun j hj => hA1 j (by omega))) (hf1.tr (mf.fr (L := [64, 65, 70, 72, 73, 74]) (cmf.tr (mf1.wk (L' := [64, 65, 70, 72, 73, 74])) (by decide)))) | exact hQ _ (mm.go a2 a6 a7 a8 a9 a10 a11 a12 a13 (L := [64, 65, 70, 72, 73, 74]) ((cmf.tr (mf1.wk (L' := [64, 65, 70, 72, 73, 74])) (by decide)).tr (mf2.wk (L' := [64, 65, 70, 72, 73, 74])) (by decide)) (by decide) mk2 d64 ⟨(hs2 5 (by decide) (by decide)).trans (hs1 5 (by decide) (by decide)), (hs2 13 (by decide) (by decide)).trans (hs1 13 (by decide) (by decide)), (hs2 14 (by decide) (by decide)).trans (hs1 14 (by decide) (by decide))⟩ (mf2.at b65) hT1 (a5.keep hU10 hA1) (fun j hj => hA1 j (by omega))) (hf1.tr (mf.fr (L := [64, 65, 70, 72, 73, 74]) ((cmf.tr (mf1.wk (L' := [64, 65, 70, 72, 73, 74])) (by decide)).tr (mf2.wk (L' := [64, 65, 70, 72, 73, 74])) (by decide))))))
      · refine az_aload_n dX12_nights_53 ?_
        refine az_cV0 (st := []) dX12_nights_54 ml_X12_327 b64 (m_notes (d := d - 1) (U := U) (wn := wn) b64 b65 b74 (a5.keep hU10 hA1) hU10 ?_)
        intro A3 k3 k4
        rw [hw3] at k4
        refine az_iload_n dX12_nights_57 ?_
        exact az_iret dX12_nights_58 (by first | (rw [hDi, push_1 (by show ¬ i = 0; omega)] at hQ; first | exact hQ _ (mm.go a2 a6 a7 a8 a9 a10 a11 a12 a13 (L := [64, 65, 70, 72, 73, 74]) ((cmf.tr (mf1.wk (L' := [64, 65, 70, 72, 73, 74])) (by decide)).up (by decide)) (by decide) (mk.uA mk1') (az_up_ne b64) ⟨hs1 5 (by decide) (by decide), hs1 13 (by decide) (by decide), hs1 14 (by decide) (by decide)⟩ az_up_eq (hT1.keepN hw k3) k4 (fun j hj => (k3 j (by omega)).trans (hA1 j (by omega)))) (hf1.tr (mf.fr (L := [64, 65, 70, 72, 73, 74]) ((cmf.tr (mf1.wk (L' := [64, 65, 70, 72, 73, 74])) (by decide)).up (by decide)))) | exact hQ _ (mm.go a2 a6 a7 a8 a9 a10 a11 a12 a13 (L := [64, 65, 70, 72, 73, 74]) (((cmf.tr (mf1.wk (L' := [64, 65, 70, 72, 73, 74])) (by decide)).tr (mf2.wk (L' := [64, 65, 70, 72, 73, 74])) (by decide)).up (by decide)) (by decide) (mk.uA mk2) (az_up_ne b64) ⟨(hs2 5 (by decide) (by decide)).trans (hs1 5 (by decide) (by decide)), (hs2 13 (by decide) (by decide)).trans (hs1 13 (by decide) (by decide)), (hs2 14 (by decide) (by decide)).trans (hs1 14 (by decide) (by decide))⟩ az_up_eq (hT1.keepN hw k3) k4 (fun j hj => (k3 j (by omega)).trans (hA1 j (by omega)))) (hf1.tr (mf.fr (L := [64, 65, 70, 72, 73, 74]) (((cmf.tr (mf1.wk (L' := [64, 65, 70, 72, 73, 74])) (by decide)).tr (mf2.wk (L' := [64, 65, 70, 72, 73, 74])) (by decide)).up (by decide))))) | (rw [hDi, push_0 (by show i = 0; omega)] at hQ; first | exact hQ _ (mm.go a2 a6 a7 a8 a9 a10 a11 a12 a13 (L := [64, 65, 70, 72, 73, 74]) (cmf.tr (mf1.wk (L' := [64, 65, 70, 72, 73, 74])) (by decide)) (by decide) mk1' b64 ⟨hs1 5 (by decide) (by decide), hs1 13 (by decide) (by decide), hs1 14 (by decide) (by decide)⟩ b65 hT1 (a5.keep hU10 hA1) (fun j hj => hA1 j (by omega))) (hf1.tr (mf.fr (L := [64, 65, 70, 72, 73, 74]) (cmf.tr (mf1.wk (L' := [64, 65, 70, 72, 73, 74])) (by decide)))) | exact hQ _ (mm.go a2 a6 a7 a8 a9 a10 a11 a12 a13 (L := [64, 65, 70, 72, 73, 74]) ((cmf.tr (mf1.wk (L' := [64, 65, 70, 72, 73, 74])) (by decide)).tr (mf2.wk (L' := [64, 65, 70, 72, 73, 74])) (by decide)) (by decide) mk2 d64 ⟨(hs2 5 (by decide) (by decide)).trans (hs1 5 (by decide) (by decide)), (hs2 13 (by decide) (by decide)).trans (hs1 13 (by decide) (by decide)), (hs2 14 (by decide) (by decide)).trans (hs1 14 (by decide) (by decide))⟩ (mf2.at b65) hT1 (a5.keep hU10 hA1) (fun j hj => hA1 j (by omega))) (hf1.tr (mf.fr (L := [64, 65, 70, 72, 73, 74]) ((cmf.tr (mf1.wk (L' := [64, 65, 70, 72, 73, 74])) (by decide)).tr (mf2.wk (L' := [64, 65, 70, 72, 73, 74])) (by decide))))))
    · refine az_aload_n dX12_nights_31 ?_
      refine az_lconst (v := lN 0) dX12_nights_32 ?_
      refine az_cV0 (st := []) dX12_nights_33 ml_X12_318 b64 (m_whyNight0 (d := d - 1) (by omega) hgd hby b64 b65 hT1 mk1' ?_)
      intro h2 sc2 d64 b22 hs2 mk2 mf2
      have hco := dz_co (rd_w v) v.2.2.2.2.2.2.2.1 v.2.2.2.2.2.2.2.2 (m9, n9, b9) (lN 0)
      have hby2 := dz_by (pk := v.2.2.2.2.2.2.2.1) (sl := v.2.2.2.2.2.2.2.2) (z := (m9, n9, b9)) (v := lN 0) hw hby
      obtain ⟨r9, hr9⟩ : ∃ r9, n - i = r9 + 1 := ⟨n - i - 1, by omega⟩
      rw [hr9, dn_step] at hD
      refine az_if_neN (tgt := 49) dX12_nights_36 (fun c36 => ?_) (fun c36 => ?_)
      · have hDi : dn (rd_w v) v.2.2.2.2.2.2.2.1 v.2.2.2.2.2.2.2.2 n (mo, ni, bs) = (i, (m9, n9, b9)) := (by first | (rw [show n - i = 0 by omega] at hD; exact hD) | (rw [if_neg (by omega)] at hD; exact hD))
        refine az_iload_n dX12_nights_49 ?_
        refine az_if_leN (tgt := 57) dX12_nights_50 (fun c50 => ?_) (fun c50 => ?_)
        · refine az_iload_n dX12_nights_57 ?_
          exact az_iret dX12_nights_58 (by first | (rw [hDi, push_1 (by show ¬ i = 0; omega)] at hQ; first | exact hQ _ (mm.go a2 a6 a7 a8 a9 a10 a11 a12 a13 (L := [64, 65, 70, 72, 73, 74]) ((cmf.tr (mf1.wk (L' := [64, 65, 70, 72, 73, 74])) (by decide)).up (by decide)) (by decide) (mk.uA mk1') d64 ⟨hs1 5 (by decide) (by decide), hs1 13 (by decide) (by decide), hs1 14 (by decide) (by decide)⟩ (mf2.at b65) (hT1.keepN hw k3) k4 (fun j hj => (k3 j (by omega)).trans (hA1 j (by omega)))) (hf1.tr (mf.fr (L := [64, 65, 70, 72, 73, 74]) ((cmf.tr (mf1.wk (L' := [64, 65, 70, 72, 73, 74])) (by decide)).up (by decide)))) | exact hQ _ (mm.go a2 a6 a7 a8 a9 a10 a11 a12 a13 (L := [64, 65, 70, 72, 73, 74]) (((cmf.tr (mf1.wk (L' := [64, 65, 70, 72, 73, 74])) (by decide)).tr (mf2.wk (L' := [64, 65, 70, 72, 73, 74])) (by decide)).up (by decide)) (by decide) (mk.uA mk2) d64 ⟨(hs2 5 (by decide) (by decide)).trans (hs1 5 (by decide) (by decide)), (hs2 13 (by decide) (by decide)).trans (hs1 13 (by decide) (by decide)), (hs2 14 (by decide) (by decide)).trans (hs1 14 (by decide) (by decide))⟩ (mf2.at b65) (hT1.keepN hw k3) k4 (fun j hj => (k3 j (by omega)).trans (hA1 j (by omega)))) (hf1.tr (mf.fr (L := [64, 65, 70, 72, 73, 74]) (((cmf.tr (mf1.wk (L' := [64, 65, 70, 72, 73, 74])) (by decide)).tr (mf2.wk (L' := [64, 65, 70, 72, 73, 74])) (by decide)).up (by decide))))) | (rw [hDi, push_0 (by show i = 0; omega)] at hQ; first | exact hQ _ (mm.go a2 a6 a7 a8 a9 a10 a11 a12 a13 (L := [64, 65, 70, 72, 73, 74]) (cmf.tr (mf1.wk (L' := [64, 65, 70, 72, 73, 74])) (by decide)) (by decide) mk1' b64 ⟨hs1 5 (by decide) (by decide), hs1 13 (by decide) (by decide), hs1 14 (by decide) (by decide)⟩ b65 hT1 (a5.keep hU10 hA1) (fun j hj => hA1 j (by omega))) (hf1.tr (mf.fr (L := [64, 65, 70, 72, 73, 74]) (cmf.tr (mf1.wk (L' := [64, 65, 70, 72, 73, 74])) (by decide)))) | exact hQ _ (mm.go a2 a6 a7 a8 a9 a10 a11 a12 a13 (L := [64, 65, 70, 72, 73, 74]) ((cmf.tr (mf1.wk (L' := [64, 65, 70, 72, 73, 74])) (by decide)).tr (mf2.wk (L' := [64, 65, 70, 72, 73, 74])) (by decide)) (by decide) mk2 d64 ⟨(hs2 5 (by decide) (by decide)).trans (hs1 5 (by decide) (by decide)), (hs2 13 (by decide) (by decide)).trans (hs1 13 (by decide) (by decide)), (hs2 14 (by decide) (by decide)).trans (hs1 14 (by decide) (by decide))⟩ (mf2.at b65) hT1 (a5.keep hU10 hA1) (fun j hj => hA1 j (by omega))) (hf1.tr (mf.fr (L := [64, 65, 70, 72, 73, 74]) ((cmf.tr (mf1.wk (L' := [64, 65, 70, 72, 73, 74])) (by decide)).tr (mf2.wk (L' := [64, 65, 70, 72, 73, 74])) (by decide))))))
        · refine az_aload_n dX12_nights_53 ?_
          refine az_cV0 (st := []) dX12_nights_54 ml_X12_327 d64 (m_notes (d := d - 1) (U := U) (wn := wn) d64 (mf2.at b65) (mf2.at b74) (a5.keep hU10 hA1) hU10 ?_)
          intro A3 k3 k4
          rw [hw3] at k4
          refine az_iload_n dX12_nights_57 ?_
          exact az_iret dX12_nights_58 (by first | (rw [hDi, push_1 (by show ¬ i = 0; omega)] at hQ; first | exact hQ _ (mm.go a2 a6 a7 a8 a9 a10 a11 a12 a13 (L := [64, 65, 70, 72, 73, 74]) ((cmf.tr (mf1.wk (L' := [64, 65, 70, 72, 73, 74])) (by decide)).up (by decide)) (by decide) (mk.uA mk1') (az_up_ne d64) ⟨hs1 5 (by decide) (by decide), hs1 13 (by decide) (by decide), hs1 14 (by decide) (by decide)⟩ az_up_eq (hT1.keepN hw k3) k4 (fun j hj => (k3 j (by omega)).trans (hA1 j (by omega)))) (hf1.tr (mf.fr (L := [64, 65, 70, 72, 73, 74]) ((cmf.tr (mf1.wk (L' := [64, 65, 70, 72, 73, 74])) (by decide)).up (by decide)))) | exact hQ _ (mm.go a2 a6 a7 a8 a9 a10 a11 a12 a13 (L := [64, 65, 70, 72, 73, 74]) (((cmf.tr (mf1.wk (L' := [64, 65, 70, 72, 73, 74])) (by decide)).tr (mf2.wk (L' := [64, 65, 70, 72, 73, 74])) (by decide)).up (by decide)) (by decide) (mk.uA mk2) (az_up_ne d64) ⟨(hs2 5 (by decide) (by decide)).trans (hs1 5 (by decide) (by decide)), (hs2 13 (by decide) (by decide)).trans (hs1 13 (by decide) (by decide)), (hs2 14 (by decide) (by decide)).trans (hs1 14 (by decide) (by decide))⟩ az_up_eq (hT1.keepN hw k3) k4 (fun j hj => (k3 j (by omega)).trans (hA1 j (by omega)))) (hf1.tr (mf.fr (L := [64, 65, 70, 72, 73, 74]) (((cmf.tr (mf1.wk (L' := [64, 65, 70, 72, 73, 74])) (by decide)).tr (mf2.wk (L' := [64, 65, 70, 72, 73, 74])) (by decide)).up (by decide))))) | (rw [hDi, push_0 (by show i = 0; omega)] at hQ; first | exact hQ _ (mm.go a2 a6 a7 a8 a9 a10 a11 a12 a13 (L := [64, 65, 70, 72, 73, 74]) (cmf.tr (mf1.wk (L' := [64, 65, 70, 72, 73, 74])) (by decide)) (by decide) mk1' b64 ⟨hs1 5 (by decide) (by decide), hs1 13 (by decide) (by decide), hs1 14 (by decide) (by decide)⟩ b65 hT1 (a5.keep hU10 hA1) (fun j hj => hA1 j (by omega))) (hf1.tr (mf.fr (L := [64, 65, 70, 72, 73, 74]) (cmf.tr (mf1.wk (L' := [64, 65, 70, 72, 73, 74])) (by decide)))) | exact hQ _ (mm.go a2 a6 a7 a8 a9 a10 a11 a12 a13 (L := [64, 65, 70, 72, 73, 74]) ((cmf.tr (mf1.wk (L' := [64, 65, 70, 72, 73, 74])) (by decide)).tr (mf2.wk (L' := [64, 65, 70, 72, 73, 74])) (by decide)) (by decide) mk2 d64 ⟨(hs2 5 (by decide) (by decide)).trans (hs1 5 (by decide) (by decide)), (hs2 13 (by decide) (by decide)).trans (hs1 13 (by decide) (by decide)), (hs2 14 (by decide) (by decide)).trans (hs1 14 (by decide) (by decide))⟩ (mf2.at b65) hT1 (a5.keep hU10 hA1) (fun j hj => hA1 j (by omega))) (hf1.tr (mf.fr (L := [64, 65, 70, 72, 73, 74]) ((cmf.tr (mf1.wk (L' := [64, 65, 70, 72, 73, 74])) (by decide)).tr (mf2.wk (L' := [64, 65, 70, 72, 73, 74])) (by decide))))))
      · refine az_aload_n dX12_nights_39 ?_
        refine az_cV0 (st := []) dX12_nights_40 ml_X12_324 d64 (m_goesNight (d := d - 1) (p := mpk v (m9, n9, b9) 0) hw hby d64 b22 (mf2.at b65) hT1 (fun tb h => (by have := mpk_lt hw (Nat.zero_le _) h; omega)) (fun tb h => wnext_60 hw (Nat.zero_le _) (by omega) h) ?_)
        intro A2 k1 k2
        rw [wnext_dz hw (Nat.zero_le _) (by omega)] at k1
        refine az_iincN (n := 1) (ls' := [(0, .ref 64), (1, .int (nI n)), (2, .int (nI (i + 1)))]) dX12_nights_43 ?_
        refine az_goto (tgt := 26) dX12_nights_46 ?_
        rw [if_pos (by omega)] at hD
        exact ih _ (by omega) (i + 1) (dz (rd_w v) v.2.2.2.2.2.2.2.1 v.2.2.2.2.2.2.2.2 (m9, n9, b9) (lN 0)).2.1 (dz (rd_w v) v.2.2.2.2.2.2.2.1 v.2.2.2.2.2.2.2.2 (m9, n9, b9) (lN 0)).2.2.1 (dz (rd_w v) v.2.2.2.2.2.2.2.1 v.2.2.2.2.2.2.2.2 (m9, n9, b9) (lN 0)).2.2.2 _ sc2 A2 rfl (by omega) hby2 (az_up_ne d64) (fun j e1 e2 => (hs2 j e1 e2).trans (hs1 j e1 e2)) az_up_eq k1 (fun j hj => (k2 j hj).trans (hA1 j hj)) (az_up_ne (mf2.at b74)) (mk.uA mk2) ((mf1.tr (mf2.wk (L' := [64, 65, 70, 72, 73])) (by decide)).up (by decide)) (by rw [hD, show n - (i + 1) = r9 by omega]; exact Prod.ext (show i + ((dn (rd_w v) v.2.2.2.2.2.2.2.1 v.2.2.2.2.2.2.2.2 r9 (dz (rd_w v) v.2.2.2.2.2.2.2.1 v.2.2.2.2.2.2.2.2 (m9, n9, b9) (lN 0)).2).1 + 1) = i + 1 + (dn (rd_w v) v.2.2.2.2.2.2.2.1 v.2.2.2.2.2.2.2.2 r9 (dz (rd_w v) v.2.2.2.2.2.2.2.1 v.2.2.2.2.2.2.2.2 (m9, n9, b9) (lN 0)).2).1 by omega) rfl)
  exact loop _ 0 mo ni bs hb2 sc A rfl (Nat.zero_le _) hb c64 (fun _ _ _ => rfl) c65 a4 (fun _ _ => rfl) c74 cmk mf.rf (by rw [Nat.sub_zero]; exact Prod.ext (show (dn (rd_w v) v.2.2.2.2.2.2.2.1 v.2.2.2.2.2.2.2.2 n (mo, ni, bs)).1 = 0 + (dn (rd_w v) v.2.2.2.2.2.2.2.1 v.2.2.2.2.2.2.2.2 n (mo, ni, bs)).1 by omega) rfl)
set_option maxHeartbeats 4000000 in
set_option maxRecDepth 100000 in
theorem q_nights {d : Nat} {x : Int32} {tp fk mo ni : Nat} {bt : Nat → Nat} {fp : Int32} {v : rd_V} {bs : List Nat} {U : ln_U} {im : Nat → Option (rd_V × ln_Z)} {tr : Nat → Option (Nat × List Int64)} {hp : az_Hp} {Q : Option Value → az_Hp → Prop} (hd : 9 ≤ d) (hok : cs_ok ((tp, bt), (fk, fp), v, (mo, ni, bs), U, im, tr)) (hM : mm hp ((tp, bt), (fk, fp), v, (mo, ni, bs), U, im, tr)) (hQ3 : (∀ n, 1 ≤ n → n ≤ 60 → x ≠ nI n) → ∀ h', mm h' ((tp, bt), (fk, fp), v, (mo, ni, bs), U, im, tr) → az_fr hp h' 64 93 → Q (some (.int (-3))) h') (hQ : ∀ n, x = nI n → 1 ≤ n → n ≤ 60 → ∀ h', mm h' ((tp, bt), (fk, fp), v, (dn (rd_w v) v.2.2.2.2.2.2.2.1 v.2.2.2.2.2.2.2.2 n (mo, ni, bs)).2, cs_push U (dn (rd_w v) v.2.2.2.2.2.2.2.1 v.2.2.2.2.2.2.2.2 n (mo, ni, bs)).1 (bs.length, ni, mo), im, tr) → az_fr hp h' 64 93 → Q (some (.int (nI (dn (rd_w v) v.2.2.2.2.2.2.2.1 v.2.2.2.2.2.2.2.2 n (mo, ni, bs)).1))) h') : az_M mX12_nights d 0 0 [.ref 64, .int x] hp Q := by
  obtain ⟨sc0, A0, tf0, hI0, rs0, rm0, nu0, o1, o2, -⟩ := id hM
  have hgd : rd_good v := hok.2.2.1
  have hw : ln_ok (rd_w v) := hgd.1
  have hba : ln_ba (rd_w v) bs := hok.2.2.2.1
  have hb : ln_by (rd_w v) bs := hba.b
  have hlen := hb.2.2
  have h60 := hb.1
  have hU10 : U.length ≤ 10 := hok.2.2.2.2.1
  have ht1 := hw.1
  have ht3 := hw.2.1
  refine az_M.of rfl (Nat.le_of_ble_eq_true rfl) ?_
  show az_W _ _ _ _ 0 [(0, .ref 64), (1, .int x)] [] _ _
  refine az_aload_n dX12_nights_0 ?_
  refine az_iconst (v := nI 0) dX12_nights_1 ?_
  refine az_putf (fs' := [.int (nI 0), .ref 65, .ref 66, .ref 67, .ref 68, sc0 5, fI (sc0 6), sc0 7, sc0 8, fI (sc0 9), fI (sc0 10), sc0 11, fI (sc0 12), sc0 13, sc0 14, .ref 69, .ref 70, .ref 71, sc0 18, .ref 72, .ref 73, .ref 74, sc0 22, sc0 23, .ref 75, sc0 25, .ref 76, .ref 77, .ref 78, sc0 29, .ref 79, .ref 80, .ref 81, .ref 82, .ref 83, .ref 84, .ref 85, sc0 37, .ref 86, .ref 87, .ref 88, .ref 89, .ref 90, .ref 91, .ref 92]) dX12_nights_2 fl_X12_1 o1 ?_
  obtain ⟨h1, hf1, hM1, hh1⟩ : ∃ h1, az_fr hp h1 64 93 ∧ mm h1 ((tp, bt), (fk, fp), v, (mo, ni, bs), U, im, tr) ∧ h1 = az_up hp 64 (mo_o (su sc0 0 (.int (nI 0)))) := ⟨_, az_fr.rf.up, hM.O (sc := su sc0 0 (.int (nI 0))) o2.1 o2.2.1 o2.2.2, rfl⟩
  rw [show (az_up hp 64 (az_O 11 [.int (nI 0), .ref 65, .ref 66, .ref 67, .ref 68, sc0 5, fI (sc0 6), sc0 7, sc0 8, fI (sc0 9), fI (sc0 10), sc0 11, fI (sc0 12), sc0 13, sc0 14, .ref 69, .ref 70, .ref 71, sc0 18, .ref 72, .ref 73, .ref 74, sc0 22, sc0 23, .ref 75, sc0 25, .ref 76, .ref 77, .ref 78, sc0 29, .ref 79, .ref 80, .ref 81, .ref 82, .ref 83, .ref 84, .ref 85, sc0 37, .ref 86, .ref 87, .ref 88, .ref 89, .ref 90, .ref 91, .ref 92])) = h1 from hh1.symm]
  obtain ⟨sc, A, tf, hI, rs, rm, nu, a1, a2, a3, a4, a5, a6, a7, a8, a9, a10, a11, a12, a13, a14⟩ := id hM1
  have a4 : mT A v (mo, ni, bs) := a4
  have a5 : mU A U := a5
  have a7 : mI A hI im := a7
  have a9 : ∀ j, j < tp → tf j = bt j := a9
  have a13 : mR rs rm nu tr := a13
  obtain ⟨f74, e74⟩ := a14.I (q := 74) (n := 3)
  refine az_iload_n dX12_nights_5 ?_
  refine az_i2l dX12_nights_6 ?_
  refine az_lconst (v := lN 1) dX12_nights_7 ?_
  refine az_ldc2 (v := lN 60) dX12_nights_8 cn_X12_330 ?_
  refine az_cS0 (st := []) dX12_nights_11 ml_X12_169 (m_withinI (d := d - 1) (lo := 1) (hi := 60) (by decide) (by decide) ?_ ?_)
  · intro n hx hn1 hn60
    subst hx
    refine az_if_neN (tgt := 20) dX12_nights_14 (fun c14 => ?_) (fun c14 => ?_)
    · skip
      refine az_aload_n dX12_nights_20 ?_
      refine az_cV0 (st := []) dX12_nights_21 ml_X12_321 a1 (m_stores (d := d - 1) a1 a3 e74 ?_)
      intro wn hwn
      have hw3 : (wn 2, wn 1, wn 0) = (bs.length, ni, mo) := (by rw [hwn 2 (by decide), hwn 1 (by decide), hwn 0 (by decide)]; exact Prod.ext a4.2.2.2.1 (Prod.ext a4.2.2.1 a4.2.1))
      refine az_iconst (v := nI 0) dX12_nights_24 ?_
      refine az_istore_n (ls' := [(0, .ref 64), (1, .int (nI n)), (2, .int (nI 0))]) dX12_nights_25 ?_
      obtain ⟨hb2, hhb⟩ : ∃ hb2, hb2 = az_up h1 74 (az_I 3 (fun j => nI (wn j))) := ⟨_, rfl⟩
      have c64 : hb2.2 64 = some (mo_o sc) := (by rw [hhb]; exact az_up_ne a1)
      have c65 : hb2.2 65 = some (az_I 3318 (fun j => nI (A j))) := (by rw [hhb]; exact az_up_ne a3)
      have c74 : hb2.2 74 = some (az_I 3 (fun j => nI (wn j))) := (by rw [hhb]; exact az_up_eq)
      have cmk : mk hb2 := (by rw [hhb]; exact mk.uI a14 rfl)
      have cmf : mf h1 hb2 [64, 65, 70, 72, 73, 74] := (by rw [hhb]; exact mf.rf.up (by decide))
      rw [← hhb]
      exact m_nightsW hgd hb hd hok a2 a6 a7 a8 a9 a10 a11 a12 a13 a4 a5 hf1 hn60 hw3 c64 c65 c74 cmk cmf (fun h' b1 b2 => hQ n rfl hn1 hn60 h' b1 b2)
    · exact absurd c14 (by omega)
  · intro hx
    refine az_if_neN (tgt := 20) dX12_nights_14 (fun c14 => ?_) (fun c14 => ?_)
    · exact absurd c14 (by omega)
    · refine az_bipush (v := (-3)) dX12_nights_17 ?_
      exact az_iret dX12_nights_19 (hQ3 hx h1 hM1 hf1)

