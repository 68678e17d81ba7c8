/-! LetterNights: letters into a tray -/
/-- so many letters from a place on, into a row of numbers -/
def ls (l : List Int64) (s : List Nat) (p : Nat) : Nat → List Int64
  | 0 => l
  | k + 1 => (ls l s p k).set k (lN (s.getD (p + k) 0))
theorem ls_len (l : List Int64) (s : List Nat) (p k : Nat) : (ls l s p k).length = l.length := by
  induction k with
  | zero => rfl
  | succ k ih => rw [ls, List.length_set]; exact ih
theorem ln_cutF : ∀ (so : Fin 4) (c : Fin 6), ln_cut so.val (lN c.val) = lN c.val := by decide +kernel
theorem ln_cut_small {so c : Nat} (hs : so ≤ 3) (hc : c < 6) : ln_cut so (lN c) = lN c := ln_cutF ⟨so, by omega⟩ ⟨c, hc⟩
def az_f2 (h h' : az_Hp) (a b c e : Nat) : Prop := h'.1 = h.1 ∧ ∀ q, (q < a ∨ b ≤ q) → (q < c ∨ e ≤ q) → h'.2 q = h.2 q
theorem az_f2.l {h h' h'' : az_Hp} {a b c e : Nat} (H : az_f2 h h' a b c e) (hf : az_fr h' h'' a b) : az_f2 h h'' a b c e := ⟨hf.1.trans H.1, fun q h1 h2 => (hf.2 q h1).trans (H.2 q h1 h2)⟩
theorem az_f2.r {h h' h'' : az_Hp} {a b c e : Nat} (H : az_f2 h h' a b c e) (hf : az_fr h' h'' c e) : az_f2 h h'' a b c e := ⟨hf.1.trans H.1, fun q h1 h2 => (hf.2 q h2).trans (H.2 q h1 h2)⟩
theorem az_fr.f2 {h h' : az_Hp} {a b c e : Nat} (hf : az_fr h h' a b) : az_f2 h h' a b c e := ⟨hf.1, fun q h1 _ => hf.2 q h1⟩
theorem az_f2.mid {h h' : az_Hp} {a b c e : Nat} (H : az_f2 h h' a b c e) (hbc : b ≤ c) : ∃ hA : az_Hp, az_fr h hA a b ∧ az_fr hA h' c e ∧ az_fr h' hA c e := by
  refine ⟨(h.1, fun q => if a ≤ q ∧ q < b then h'.2 q else h.2 q), ⟨rfl, fun q hq => if_neg (by omega)⟩, ⟨H.1, fun q hq => ?_⟩, ⟨H.1.symm, fun q hq => ?_⟩⟩
  · show h'.2 q = if a ≤ q ∧ q < b then h'.2 q else h.2 q
    split
    · rfl
    · exact H.2 q (by omega) hq
  · show (if a ≤ q ∧ q < b then h'.2 q else h.2 q) = h'.2 q
    split
    · rfl
    · exact (H.2 q (by omega) hq).symm
theorem ln_SurvM.fr {h h' : az_Hp} {s lo hi : Nat} {w : ln_W} {bs : List Nat} (H : ln_SurvM h s w bs) (hf : az_fr h h' lo hi) (hs : hi ≤ s ∨ s + 3 ≤ lo) : ln_SurvM h' s w bs := by
  obtain ⟨v3, v4, g9, f2, h0, h1, hc, h2⟩ := H
  exact ⟨v3, v4, g9, f2, (hf.2 _ (by omega)).trans h0, (hf.2 _ (by omega)).trans h1, hc, (hf.2 _ (by omega)).trans h2⟩
set_option maxHeartbeats 4000000 in
set_option maxRecDepth 100000 in
theorem p_lists {d : Nat} {x : Int32} {xp : Int64} {tp fk mo ni K : Nat} {bt : Nat → Nat} {fp : Int32} {v : rd_V} {bs : List Nat} {U : ln_U} {im : Nat → Option (rd_V × ln_Z)} {tr : Nat → Option (Nat × List Int64)} {hp : az_Hp} {Q : Option Value → az_Hp → Prop} (hd : 6 ≤ d) (hC : cs hp ((tp, bt), (fk, fp), v, (mo, ni, bs), U, im, tr) K) (hQ2 : (∀ n, n < 4 → x ≠ nI n) → Q (some (.int (-2))) hp) (hQ6 : ∀ n, x = nI n → n < 4 → tr n = none → Q (some (.int (-6))) hp) (hQ3 : ∀ n y, x = nI n → n < 4 → tr n = some y → (∀ p, p ≤ (ln_str (rd_w v) bs).length → xp ≠ lN p) → Q (some (.int (-3))) hp) (hQ : ∀ n y p9, x = nI n → n < 4 → tr n = some y → xp = lN p9 → p9 ≤ (ln_str (rd_w v) bs).length → ∀ h', cs h' ((tp, bt), (fk, fp), v, (mo, ni, bs), U, im, fun j9 => if j9 = n then some (y.1, ls y.2 (ln_str (rd_w v) bs) p9 (min y.2.length ((ln_str (rd_w v) bs).length - p9))) else tr j9) K → cs_f hp h' → Q (some (.int (nI (min y.2.length ((ln_str (rd_w v) bs).length - p9))))) h') : az_M mX11_lists d 0 0 [.ref 0, .int x, .long xp] hp Q := by
  obtain ⟨hok, t, F, ia, kk, kt, x1, x2, x3, x4, x5, x6, x7, x8, x9, x10, x11, x12, x13, x14⟩ := id hC
  have hw : ln_ok (rd_w v) := hok.2.2.1.1
  have hlaw : ln_law (rd_w v) v.2.2.2.2.2.2.2.1 v.2.2.2.2.2.2.2.2 := hok.2.2.1.2
  have hba : ln_ba (rd_w v) bs := hok.2.2.2.1
  have hb : ln_by (rd_w v) bs := hba.b
  have x4 : ln_Past hp 6 U := x4
  have x5 : cs_im hp im ia F := x5
  have x6 : cs_tr hp tr := x6
  have x10 : ln_Scene hp 30 t (rd_w v) mo ni bs := x10
  have x13 : ln_Tf hp t (rd_w v) F := x13
  have x14 : cs_ad hp im F ia kk kt := x14
  obtain ⟨hi, fr, la, no, wa, nc, g0, -⟩ := id x10
  obtain ⟨g, hg, hgt⟩ := id x6
  obtain ⟨sv3, sv4, sf1, sf2, sv0, -⟩ := id (show ln_Surv hp 12 from x7)
  have hlen := hb.2.2
  have loop : ∀ (k : Nat) (n : Nat) (y : Nat × List Int64) (p9 : Nat) (hx : x = nI n) (hn : n < 4) (hy : tr n = some y) (hp9 : xp = lN p9) (hpl : p9 ≤ (ln_str (rd_w v) bs).length) (i : Nat) (h' : az_Hp), (min y.2.length ((ln_str (rd_w v) bs).length - p9)) - i = k → (i ≤ (min y.2.length ((ln_str (rd_w v) bs).length - p9))) → (ln_SurvM h' 12 (rd_w v) bs) → (az_f2 hp h' 12 15 (56 + 2 * n) (56 + 2 * n + 2)) → (ln_Tray h' (56 + 2 * n) (some (y.1, (ls y.2 (ln_str (rd_w v) bs) p9 i)))) → az_W mX11_lists d 0 0 79 [(0, .ref 0), (1, .int (nI n)), (2, .long (lN p9)), (4, .int (nI 0)), (5, .ref (56 + 2 * n)), (6, .int (nI ((min y.2.length ((ln_str (rd_w v) bs).length - p9))))), (7, .int (nI i))] [] h' Q := by
    intro k
    induction k using Nat.strongRecOn with
    | _ k ih =>
    intro n y p9 hx hn hy hp9 hpl i h' hk hi hV9 hf9 hR9
    have e0 := (hf9.2 0 (by omega) (by omega)).trans x1
    have e30 := (hf9.2 30 (by omega) (by omega)).trans g0
    obtain ⟨mv3, mv4, mg, mf, mv0, -⟩ := id hV9
    obtain ⟨hl40, hs3, f, q9, -⟩ := id hR9
    have hl9 : y.2.length ≤ 40 := (by have h9 : (ls y.2 (ln_str (rd_w v) bs) p9 i).length ≤ 40 := hl40; rw [ls_len] at h9; exact h9)
    refine az_iload dX11_lists_79 ?_
    refine az_iload dX11_lists_81 ?_
    refine az_icmp_geN (tgt := 116) dX11_lists_83 (fun c83 => ?_) (fun c83 => ?_)
    · refine az_iload dX11_lists_116 ?_
      exact az_iret dX11_lists_118 (by have hi : i = (min y.2.length ((ln_str (rd_w v) bs).length - p9)) := (by omega); rw [hi] at hR9; obtain ⟨hA, fA, fB, fC⟩ := hf9.mid (by omega); have hHA : cs_H hA ((tp, bt), (fk, fp), v, (mo, ni, bs), U, im, tr) t F ia kk kt K := ⟨(fA.at x1), (x2.fr fA), (x3.fr fA), (ln_PastX.fr x4 fA (by omega)), (x5.fr fA x14), (x6.fr fA), (hV9.s.fr fC), (x8.fr fA), (x9.fr fA), (ln_Scene.fr x10 fA (by omega)), (x11.fr fA), (x12.fr fA (by omega) (by have := x14.2.1; omega) (by have := x14.2.2.1; omega)), (x13.fr fA (fun q hq => (by have := x14.2.2.2.2.2.1 q hq; omega))), (x14.fr fA)⟩; obtain ⟨y1, y2, y3, y4, y5, y6, y7, y8, y9, y10, y11, y12, y13, y14⟩ := hHA; have y5 : cs_im hA im ia F := y5; have y6 : cs_tr hA tr := y6; have y14 : cs_ad hA im F ia kk kt := y14; have y13 : ln_Tf hA t (rd_w v) F := y13; exact hQ n y p9 hx hn hy hp9 hpl h' ⟨hok, ⟨t, F, ia, kk, kt, (fB.at y1), (y2.fr fB), (y3.fr fB), (ln_PastX.fr y4 fB (by omega)), (y5.fr fB y14), (y6.set fB hR9), (y7.fr fB), (y8.fr fB), (y9.fr fB), (ln_Scene.fr y10 fB (by omega)), (y11.fr fB), (y12.fr fB (by omega) (by have := y14.2.1; omega) (by have := y14.2.2.1; omega)), (y13.fr fB (fun q hq => (by have := y14.2.2.2.2.2.1 q hq; omega))), (y14.fr fB)⟩⟩ (fA.cs.tr fB.cs))
    · refine az_aload dX11_lists_86 ?_
      refine az_iload dX11_lists_88 ?_
      refine az_aload_n dX11_lists_90 ?_
      refine az_getf (v := .ref 12) dX11_lists_91 fl_X11_42 e0 ?_
      refine az_aload_n dX11_lists_94 ?_
      refine az_getf (v := .ref 30) dX11_lists_95 fl_X11_66 e0 ?_
      refine az_lload_n dX11_lists_98 ?_
      refine az_iload dX11_lists_99 ?_
      refine az_i2lN dX11_lists_101 ?_
      refine az_laddN dX11_lists_102 ?_
      refine az_cV0 (st := [.int (nI i), .ref (56 + 2 * n)]) dX11_lists_103 ml_X11_144 mv0 (s_letterAt (d := d - 1) (s := 12) (a := 30) (t := t) (w := (rd_w v)) (bs := bs) (k := p9 + i) (by omega) hw hb ((x13.eqv (fun q hq => (by have := x14.2.2.2.2.2.1 q hq; exact hf9.2 q (by omega) (by omega))) (fun _ q => q)).to (lo := 12) (hi := 15) (fun q hq => (by have := x14.2.2.2.2.2.1 q hq; omega))) (ln_Scene.eqv x10 (fun z b1 b2 => hf9.2 z (by omega) (by omega))) (by omega) hV9 (by omega) ?_)
      intro h2 hV2 hf2
      have hR2 := hR9.eqv (h' := h2) (hf2.2 _ (by omega)) (hf2.2 _ (by omega))
      have hc6 : (ln_str (rd_w v) bs).getD (p9 + i) 0 < 6 := ln_str_lt hw bs _ (by rw [List.getD_eq_getElem?_getD, List.getElem?_eq_getElem (by omega)]; exact List.getElem_mem _)
      refine az_i2lN dX11_lists_106 ?_
      refine az_cV0 (st := []) dX11_lists_107 ml_X11_325 (hf2.at q9) (s_put (d := d - 1) (i := i) (by omega) hR2 (by rw [ls_len]; omega) ?_)
      intro h3 hR3 hf3
      rw [ln_cut_small (by omega) hc6] at hR3
      refine az_iincN (n := 1) (ls' := [(0, .ref 0), (1, .int (nI n)), (2, .long (lN p9)), (4, .int (nI 0)), (5, .ref (56 + 2 * n)), (6, .int (nI ((min y.2.length ((ln_str (rd_w v) bs).length - p9))))), (7, .int (nI (i + 1)))]) dX11_lists_110 ?_
      refine az_goto (tgt := 79) dX11_lists_113 ?_
      exact ih _ (by omega) n y p9 hx hn hy hp9 hpl (i + 1) h3 rfl (by omega) (hV2.fr hf3 (by omega)) ((hf9.l hf2).r hf3) hR3
  refine az_M.of rfl (Nat.le_of_ble_eq_true rfl) ?_
  show az_W _ _ _ _ 0 [(0, .ref 0), (1, .int x), (2, .long xp)] [] _ _
  refine az_aload_n dX11_lists_0 ?_
  refine az_iload_n dX11_lists_1 ?_
  refine az_cV0 (st := []) dX11_lists_2 ml_X11_211 x1 (p_refT (d := d - 1) (by omega) hC ?_ ?_ ?_)
  · intro hno
    refine az_istore (ls' := [(0, .ref 0), (1, .int x), (2, .long xp), (4, .int ((-2)))]) dX11_lists_5 ?_
    refine az_iload dX11_lists_7 ?_
    refine az_if_eq (tgt := 15) dX11_lists_9 (fun c9 => ?_) (fun c9 => ?_)
    · exact absurd c9 (by decide)
    · refine az_iload dX11_lists_12 ?_
      exact az_iret dX11_lists_14 (by first | exact hQ2 hno | exact hQ6 n hx hn hno)
  · intro n hx hn hno
    refine az_istore (ls' := [(0, .ref 0), (1, .int x), (2, .long xp), (4, .int ((-6)))]) dX11_lists_5 ?_
    refine az_iload dX11_lists_7 ?_
    refine az_if_eq (tgt := 15) dX11_lists_9 (fun c9 => ?_) (fun c9 => ?_)
    · exact absurd c9 (by decide)
    · refine az_iload dX11_lists_12 ?_
      exact az_iret dX11_lists_14 (by first | exact hQ2 hno | exact hQ6 n hx hn hno)
  · intro n y hx hn hy
    have hgn := (hgt n hn).1
    have hgR := (hgt n hn).2
    rw [hy] at hgR
    obtain ⟨hl40, hs3, f, q0, -⟩ := id hgR
    refine az_istore (ls' := [(0, .ref 0), (1, .int x), (2, .long xp), (4, .int (nI 0))]) dX11_lists_5 ?_
    refine az_iload dX11_lists_7 ?_
    refine az_if_eqN (tgt := 15) dX11_lists_9 (fun c9 => ?_) (fun c9 => ?_)
    · rw [hx]
      refine az_lload_n dX11_lists_15 ?_
      refine az_lconst (v := lN 0) dX11_lists_16 ?_
      refine az_lcmp_lt (tgt := 33) dX11_lists_17 dX11_lists_18 (fun c17 => ?_) (fun c17 => ?_)
      · refine az_bipush (v := (-3)) dX11_lists_33 ?_
        exact az_iret dX11_lists_35 (hQ3 n y hx hn hy (fun p9 hp9 q9 => (by first | (rw [q9] at c17; exact absurd ((lN_ltN (by omega) (by omega)).mp c17) (by omega)) | (rw [q9] at c29; exact c29 ((lN_leN (by omega) (by omega)).mpr hp9)))))
      · refine az_lload_n dX11_lists_21 ?_
        refine az_aload_n dX11_lists_22 ?_
        refine az_getf (v := .ref 30) dX11_lists_23 fl_X11_66 x1 ?_
        refine az_getf (v := .long (lN ((ln_str (rd_w v) bs).length))) dX11_lists_26 fl_X11_136 g0 ?_
        refine az_lcmp_le (tgt := 36) dX11_lists_29 dX11_lists_30 (fun c29 => ?_) (fun c29 => ?_)
        · obtain ⟨p9, hp63, hp9⟩ := J_of c17
          have hpl : p9 ≤ (ln_str (rd_w v) bs).length := (by rw [hp9] at c29; exact (lN_leN (by omega) (by omega)).mp c29)
          rw [hp9]
          refine az_aload_n dX11_lists_36 ?_
          refine az_getf (v := .ref 11) dX11_lists_37 fl_X11_35 x1 ?_
          refine az_iload_n dX11_lists_40 ?_
          refine az_aaldN (j := n) dX11_lists_41 hg ?_
          rw [hgn]
          refine az_astore (ls' := [(0, .ref 0), (1, .int (nI n)), (2, .long (lN p9)), (4, .int (nI 0)), (5, .ref (56 + 2 * n))]) dX11_lists_42 ?_
          refine az_aload dX11_lists_44 ?_
          refine az_getf (v := .int (nI y.2.length)) dX11_lists_46 fl_X11_199 q0 ?_
          refine az_i2lN dX11_lists_49 ?_
          refine az_aload_n dX11_lists_50 ?_
          refine az_getf (v := .ref 30) dX11_lists_51 fl_X11_66 x1 ?_
          refine az_getf (v := .long (lN ((ln_str (rd_w v) bs).length))) dX11_lists_54 fl_X11_136 g0 ?_
          refine az_lload_n dX11_lists_57 ?_
          refine az_lsubN dX11_lists_58 (by omega) ?_
          refine az_lminN dX11_lists_59 ml_X11_329 ?_
          refine az_l2iN dX11_lists_62 ?_
          refine az_istore (ls' := [(0, .ref 0), (1, .int (nI n)), (2, .long (lN p9)), (4, .int (nI 0)), (5, .ref (56 + 2 * n)), (6, .int (nI (min y.2.length (((ln_str (rd_w v) bs).length) - p9))))]) dX11_lists_63 ?_
          refine az_aload_n dX11_lists_65 ?_
          refine az_getf (v := .ref 12) dX11_lists_66 fl_X11_42 x1 ?_
          refine az_aload_n dX11_lists_69 ?_
          refine az_getf (v := .ref 30) dX11_lists_70 fl_X11_66 x1 ?_
          refine az_cV0 (st := []) dX11_lists_73 ml_X11_140 sv0 (s_measure (d := d - 1) (s := 12) (a := 30) (by omega) hw hb (x13.to (lo := 12) (hi := 15) (fun q hq => (by have := x14.2.2.2.2.2.1 q hq; omega))) x10 (by omega) x7 ?_)
          intro h1 hV1 hf1
          refine az_iconst (v := nI 0) dX11_lists_76 ?_
          refine az_istore (ls' := [(0, .ref 0), (1, .int (nI n)), (2, .long (lN p9)), (4, .int (nI 0)), (5, .ref (56 + 2 * n)), (6, .int (nI (min y.2.length (((ln_str (rd_w v) bs).length) - p9)))), (7, .int (nI 0))]) dX11_lists_77 ?_
          exact loop _ n y p9 hx hn hy hp9 hpl 0 h1 rfl (Nat.zero_le _) hV1 hf1.f2 (hgR.eqv (hf1.2 _ (by omega)) (hf1.2 _ (by omega)))
        · refine az_bipush (v := (-3)) dX11_lists_33 ?_
          exact az_iret dX11_lists_35 (hQ3 n y hx hn hy (fun p9 hp9 q9 => (by first | (rw [q9] at c17; exact absurd ((lN_ltN (by omega) (by omega)).mp c17) (by omega)) | (rw [q9] at c29; exact c29 ((lN_leN (by omega) (by omega)).mpr hp9)))))
    · exact absurd c9 (by omega)

