/-! Futures: rows of nothing -/
def fu_pr (u wn wx : Nat) : Prop := (wn = u + 8 ∧ wx = u + 9) ∨ (wn = u + 9 ∧ wx = u + 8)
theorem fu_pr.b {u wn wx : Nat} (h : fu_pr u wn wx) : u + 8 ≤ wn ∧ wn ≤ u + 9 ∧ u + 8 ≤ wx ∧ wx ≤ u + 9 ∧ wn ≠ wx := by unfold fu_pr at h; omega
theorem fu_pr.sw {u wn wx : Nat} (h : fu_pr u wn wx) : fu_pr u wx wn := by unfold fu_pr at *; omega
set_option maxHeartbeats 4000000 in
set_option maxRecDepth 100000 in
theorem s_rowsOfNothing {d u a t n wn wx mo ni : Nat} {w : ln_W} {bs : List Nat} {t0 tl : Value} {f0 g9 : Nat → Int32} {hp : az_Hp} {Q : Option Value → az_Hp → Prop} (hd : 5 ≤ d) (hw : ln_ok w) (hb : ln_by w bs) (hT : ln_To hp t w u (u + 10)) (hS : ln_Scene hp a t w mo ni bs) (hua : u + 10 ≤ a ∨ a + 8 ≤ u) (hn : n ≤ 12) (hpr : fu_pr u wn wx) (h0 : hp.2 u = some (az_O 1 [t0, .ref (u + 1), .ref (u + 2), .ref (u + 3), .ref (u + 4), tl, .ref wn, .ref wx])) (h1 : hp.2 wn = some (az_I 64 f0)) (h2 : hp.2 wx = some (az_I 64 g9)) (hQ : ∀ (h' : az_Hp) (wn wx : Nat) (f g : Nat → Int32), fu_pr u wn wx → h'.2 u = some (az_O 1 [t0, .ref (u + 1), .ref (u + 2), .ref (u + 3), .ref (u + 4), tl, .ref wn, .ref wx]) → h'.2 wn = some (az_I 64 f) → h'.2 wx = some (az_I 64 g) → az_fr hp h' u (u + 10) → (∀ j, u + 1 ≤ j → j ≤ u + 7 → h'.2 j = hp.2 j) → Q (some (.long (lN (fu_wy w (ln_sb (ln_str w bs) 6) n 0)))) h') : az_M mX1_rowsOfNothing d 0 0 [.ref u, .ref a, .int (nI n)] hp Q := by
  have hs0 := ln_sb_lt (ln_str w bs) (Nat.le_refl 6)
  obtain ⟨hi, fr, la, no, wa, nc, g0, -⟩ := id hS
  have inner : ∀ (k : Nat) (i ks wn wx : Nat) (f g : Nat → Int32) (h' : az_Hp) (hin : i < n) (hK : ∀ (f g : Nat → Int32) (h' : az_Hp), fu_pr u wn wx → h'.2 u = some (az_O 1 [t0, .ref (u + 1), .ref (u + 2), .ref (u + 3), .ref (u + 4), tl, .ref wn, .ref wx]) → h'.2 wn = some (az_I 64 f) → h'.2 wx = some (az_I 64 g) → (∀ j, j < 64 → f j = nI (fu_wy w (ln_sb (ln_str w bs) 6) i j)) → (∀ j, j < 64 → g j = nI (sm (fun ks => fu_ws w ks (fu_wy w (ln_sb (ln_str w bs) 6) i ks) j (ln_tb w)) 64)) → az_fr hp h' u (u + 10) → (∀ j, u + 1 ≤ j → j ≤ u + 7 → h'.2 j = hp.2 j) → az_W mX1_rowsOfNothing d 0 0 72 [(0, .ref u), (1, .ref a), (2, .int (nI n)), (3, .int (nI i)), (4, .int (nI 64))] [] h' Q), 64 - ks = k → (ks ≤ 64) → (fu_pr u wn wx) → (h'.2 u = some (az_O 1 [t0, .ref (u + 1), .ref (u + 2), .ref (u + 3), .ref (u + 4), tl, .ref wn, .ref wx])) → (h'.2 wn = some (az_I 64 f)) → (h'.2 wx = some (az_I 64 g)) → (∀ j, j < 64 → f j = nI (fu_wy w (ln_sb (ln_str w bs) 6) i j)) → (∀ j, j < 64 → g j = nI (sm (fun ks => fu_ws w ks (fu_wy w (ln_sb (ln_str w bs) 6) i ks) j (ln_tb w)) ks)) → (az_fr hp h' u (u + 10)) → (∀ j, u + 1 ≤ j → j ≤ u + 7 → h'.2 j = hp.2 j) → az_W mX1_rowsOfNothing d 0 0 36 [(0, .ref u), (1, .ref a), (2, .int (nI n)), (3, .int (nI i)), (4, .int (nI ks))] [] h' Q := by
    intro k
    induction k using Nat.strongRecOn with
    | _ k ih =>
    intro i ks wn wx f g h' hin hK hk hks hpr e0 e1 e2 hf hg hfr hkp
    have hp9 := hpr.b
    have hT' : ln_To h' t w u (u + 10) := hT.fr hfr
    have g0' := hfr.at g0
    refine az_iload dX1_rowsOfNothing_36 ?_
    refine az_aload_n dX1_rowsOfNothing_38 ?_
    refine az_getf (v := .ref wn) dX1_rowsOfNothing_39 fl_X1_29 e0 ?_
    refine az_alen dX1_rowsOfNothing_42 e1 ?_
    refine az_icmp_geN (tgt := 72) dX1_rowsOfNothing_43 (fun c43 => ?_) (fun c43 => ?_)
    · obtain rfl : ks = 64 := by omega
      exact hK f g h' hpr e0 e1 e2 hf hg hfr hkp
    · refine az_aload_n dX1_rowsOfNothing_46 ?_
      refine az_getf (v := .ref wn) dX1_rowsOfNothing_47 fl_X1_29 e0 ?_
      refine az_iload dX1_rowsOfNothing_50 ?_
      refine az_ialdN (j := ks) dX1_rowsOfNothing_52 e1 ?_
      rw [hf ks (by omega)]
      have hb9 := fu_wy_le hw hs0 (i := i) (j := ks) (by omega) (by omega)
      refine az_if_eqN (tgt := 66) dX1_rowsOfNothing_53 (fun c53 => ?_) (fun c53 => ?_)
      · refine az_iincN (n := 1) (ls' := [(0, .ref u), (1, .ref a), (2, .int (nI n)), (3, .int (nI i)), (4, .int (nI (ks + 1)))]) dX1_rowsOfNothing_66 ?_
        refine az_goto (tgt := 36) dX1_rowsOfNothing_69 ?_
        first | exact ih _ (by omega) i (ks + 1) wn wx f g2 _ hin hK rfl (by omega) hpr e0 e1 e2 hf (fun j q => hg2 j q) hfr.up (fun j q1 q2 => (by rw [az_up_ne rfl]; exact hkp j q1 q2)) | exact ih _ (by omega) i (ks + 1) wn wx f g _ hin hK rfl (by omega) hpr e0 e1 e2 hf (fun j q => (by rw [hg j q, show sm (fun ks => fu_ws w ks (fu_wy w (ln_sb (ln_str w bs) 6) i ks) j (ln_tb w)) (ks + 1) = sm (fun ks => fu_ws w ks (fu_wy w (ln_sb (ln_str w bs) 6) i ks) j (ln_tb w)) ks + fu_ws w ks (fu_wy w (ln_sb (ln_str w bs) 6) i ks) j (ln_tb w) from rfl, c53, fu_ws_0]; rfl)) hfr hkp
      · refine az_aload_n dX1_rowsOfNothing_56 ?_
        refine az_aload_n dX1_rowsOfNothing_57 ?_
        refine az_getf (v := .ref t) dX1_rowsOfNothing_58 fl_X1_39 g0' ?_
        refine az_iload dX1_rowsOfNothing_61 ?_
        refine az_cV0 (st := []) dX1_rowsOfNothing_63 ml_X1_142 e0 (s_spreadWays (d := d - 1) (by omega) hw (hT'.nar (by omega) (by omega)) (by omega) (by omega) e0 e1 e2 (ks := ks) (by omega) (v := fu_wy w (ln_sb (ln_str w bs) 6) i ks) (hf ks (by omega)) hg ?_)
        intro g2 hg2
        refine az_iincN (n := 1) (ls' := [(0, .ref u), (1, .ref a), (2, .int (nI n)), (3, .int (nI i)), (4, .int (nI (ks + 1)))]) dX1_rowsOfNothing_66 ?_
        refine az_goto (tgt := 36) dX1_rowsOfNothing_69 ?_
        first | exact ih _ (by omega) i (ks + 1) wn wx f g2 _ hin hK rfl (by omega) hpr (az_up_ne e0) (az_up_ne e1) az_up_eq hf (fun j q => hg2 j q) hfr.up (fun j q1 q2 => (by rw [az_up_ne rfl]; exact hkp j q1 q2)) | exact ih _ (by omega) i (ks + 1) wn wx f g _ hin hK rfl (by omega) hpr (az_up_ne e0) (az_up_ne e1) az_up_eq hf (fun j q => (by rw [hg j q, show sm (fun ks => fu_ws w ks (fu_wy w (ln_sb (ln_str w bs) 6) i ks) j (ln_tb w)) (ks + 1) = sm (fun ks => fu_ws w ks (fu_wy w (ln_sb (ln_str w bs) 6) i ks) j (ln_tb w)) ks + fu_ws w ks (fu_wy w (ln_sb (ln_str w bs) 6) i ks) j (ln_tb w) from rfl, c53, fu_ws_0]; rfl)) hfr hkp
  have outer : ∀ (k : Nat) (i wn wx : Nat) (f g : Nat → Int32) (h' : az_Hp), n - i = k → (i ≤ n) → (fu_pr u wn wx) → (h'.2 u = some (az_O 1 [t0, .ref (u + 1), .ref (u + 2), .ref (u + 3), .ref (u + 4), tl, .ref wn, .ref wx])) → (h'.2 wn = some (az_I 64 f)) → (h'.2 wx = some (az_I 64 g)) → (∀ j, j < 64 → f j = nI (fu_wy w (ln_sb (ln_str w bs) 6) i j)) → (az_fr hp h' u (u + 10)) → (∀ j, u + 1 ≤ j → j ≤ u + 7 → h'.2 j = hp.2 j) → az_W mX1_rowsOfNothing d 0 0 20 [(0, .ref u), (1, .ref a), (2, .int (nI n)), (3, .int (nI i))] [] h' Q := by
    intro k
    induction k using Nat.strongRecOn with
    | _ k ih =>
    intro i wn wx f g h' hk hin hpr e0 e1 e2 hf hfr hkp
    have hp9 := hpr.b
    have hT' : ln_To h' t w u (u + 10) := hT.fr hfr
    have g0' := hfr.at g0
    refine az_iload_n dX1_rowsOfNothing_20 ?_
    refine az_iload_n dX1_rowsOfNothing_21 ?_
    refine az_icmp_geN (tgt := 98) dX1_rowsOfNothing_22 (fun c22 => ?_) (fun c22 => ?_)
    · refine az_aload_n dX1_rowsOfNothing_98 ?_
      refine az_getf (v := .ref wn) dX1_rowsOfNothing_99 fl_X1_29 e0 ?_
      refine az_iconst (v := nI 0) dX1_rowsOfNothing_102 ?_
      refine az_ialdN (j := 0) dX1_rowsOfNothing_103 e1 ?_
      rw [hf 0 (by omega)]
      have hb9 := fu_wy_le hw hs0 (i := i) (j := 0) (by omega) (by omega)
      refine az_i2lN dX1_rowsOfNothing_104 ?_
      exact az_lret dX1_rowsOfNothing_105 (by rw [show i = n by omega]; exact hQ h' wn wx f g hpr e0 e1 e2 hfr hkp)
    · refine az_aload_n dX1_rowsOfNothing_25 ?_
      refine az_getf (v := .ref wx) dX1_rowsOfNothing_26 fl_X1_32 e0 ?_
      refine az_iconst (v := nI 0) dX1_rowsOfNothing_29 ?_
      refine az_cS0 (st := []) dX1_rowsOfNothing_30 ml_X1_102 (s_fillI (d := d - 1) (by decide) e2 ?_)
      refine az_iconst (v := nI 0) dX1_rowsOfNothing_33 ?_
      refine az_istore (ls' := [(0, .ref u), (1, .ref a), (2, .int (nI n)), (3, .int (nI i)), (4, .int (nI 0))]) dX1_rowsOfNothing_34 ?_
      refine inner _ i 0 wn wx f (fun _ => nI 0) _ (by omega) ?_ rfl (Nat.zero_le _) hpr (az_up_ne e0) (az_up_ne e1) az_up_eq hf (fun _ _ => rfl) hfr.up (fun j q1 q2 => (by rw [az_up_ne rfl]; exact hkp j q1 q2))
      intro f g h' hpr e0 e1 e2 hf hg hfr hkp
      have hp9 := hpr.b
      have hT' : ln_To h' t w u (u + 10) := hT.fr hfr
      have g0' := hfr.at g0
      refine az_aload_n dX1_rowsOfNothing_72 ?_
      refine az_getf (v := .ref wn) dX1_rowsOfNothing_73 fl_X1_29 e0 ?_
      refine az_astore (ls' := [(0, .ref u), (1, .ref a), (2, .int (nI n)), (3, .int (nI i)), (4, .ref wn)]) dX1_rowsOfNothing_76 ?_
      refine az_aload_n dX1_rowsOfNothing_78 ?_
      refine az_aload_n dX1_rowsOfNothing_79 ?_
      refine az_getf (v := .ref wx) dX1_rowsOfNothing_80 fl_X1_32 e0 ?_
      refine az_putf (fs' := [t0, .ref (u + 1), .ref (u + 2), .ref (u + 3), .ref (u + 4), tl, .ref wx, .ref wx]) dX1_rowsOfNothing_83 fl_X1_29 e0 ?_
      refine az_aload_n dX1_rowsOfNothing_86 ?_
      refine az_aload dX1_rowsOfNothing_87 ?_
      refine az_putf (fs' := [t0, .ref (u + 1), .ref (u + 2), .ref (u + 3), .ref (u + 4), tl, .ref wx, .ref wn]) dX1_rowsOfNothing_89 fl_X1_32 az_up_eq ?_
      refine az_iincN (n := 1) (ls' := [(0, .ref u), (1, .ref a), (2, .int (nI n)), (3, .int (nI (i + 1))), (4, .ref wn)]) dX1_rowsOfNothing_92 ?_
      refine az_goto (tgt := 20) dX1_rowsOfNothing_95 ?_
      refine az_W.keep (ls' := [(0, .ref u), (1, .ref a), (2, .int (nI n)), (3, .int (nI (i + 1)))]) [0, 1, 2, 3] rfl ?_
      exact ih _ (by omega) (i + 1) wx wn g f _ rfl (by omega) hpr.sw az_up_eq (az_up_ne (az_up_ne e2)) (az_up_ne (az_up_ne e1)) hg hfr.up.up (fun j q1 q2 => (by rw [az_up_ne rfl, az_up_ne rfl]; exact hkp j q1 q2))
  refine az_M.of rfl (Nat.le_of_ble_eq_true rfl) ?_
  show az_W _ _ _ _ 0 [(0, .ref u), (1, .ref a), (2, .int (nI n))] [] _ _
  have hp9 := hpr.b
  refine az_aload_n dX1_rowsOfNothing_0 ?_
  refine az_getf (v := .ref wn) dX1_rowsOfNothing_1 fl_X1_29 h0 ?_
  refine az_iconst (v := nI 0) dX1_rowsOfNothing_4 ?_
  refine az_cS0 (st := []) dX1_rowsOfNothing_5 ml_X1_102 (s_fillI (d := d - 1) (by decide) h1 ?_)
  refine az_aload_n dX1_rowsOfNothing_8 ?_
  refine az_getf (v := .ref wn) dX1_rowsOfNothing_9 fl_X1_29 (az_up_ne h0) ?_
  refine az_aload_n dX1_rowsOfNothing_12 ?_
  refine az_cV0 (st := [.ref wn]) dX1_rowsOfNothing_13 ml_X1_138 (az_up_ne g0) (s_standingBits (d := d - 1) hb (hS.fr (lo := u) (hi := u + 10) az_fr.rf.up (by omega)) ?_)
  refine az_iconst (v := nI 1) dX1_rowsOfNothing_16 ?_
  refine az_iastN (j := (ln_sb (ln_str w bs) 6)) dX1_rowsOfNothing_17 az_up_eq ?_
  refine az_iconst (v := nI 0) dX1_rowsOfNothing_18 ?_
  refine az_istore_n (ls' := [(0, .ref u), (1, .ref a), (2, .int (nI n)), (3, .int (nI 0))]) dX1_rowsOfNothing_19 ?_
  exact outer _ 0 wn wx (az_s (fun _ => nI 0) (ln_sb (ln_str w bs) 6) (nI 1)) g9 _ rfl (Nat.zero_le _) hpr (az_up_ne (az_up_ne h0)) az_up_eq (az_up_ne (az_up_ne h2)) (fun j q => if e9 : j = (ln_sb (ln_str w bs) 6) then (by rw [e9, az_s_eq]; show _ = nI (if _ then _ else _); rw [if_pos rfl]) else (by rw [az_s_ne e9]; show _ = nI (if _ then _ else _); rw [if_neg e9])) az_fr.rf.up.up (fun j q1 q2 => (by rw [az_up_ne rfl, az_up_ne rfl]))
