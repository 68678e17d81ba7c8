/-! Kin: learn, doubles, fateOf -/
def kn_st (f : Nat → Nat) (ov x : Nat) : Nat → Nat := if kb f x ov = 0 then f else az_s f x (f x ||| f ov)
def kn_rw (f : Nat → Nat) (ov : Nat) : Nat → (Nat → Nat)
  | 0 => f
  | k + 1 => kn_st (kn_rw f ov k) ov k
def kn_al (f : Nat → Nat) : Nat → (Nat → Nat)
  | 0 => f
  | n + 1 => kn_rw (kn_al f n) n 6
def kn_0 (w : ln_W) (tb x : Nat) : Nat := ln_cb w (tb * 6 + x) (ln_sz w (tb * 6 + x))
theorem kn_0_lt {w : ln_W} (hw : ln_ok w) (tb x : Nat) : kn_0 w tb x < 64 := ln_cb_lt hw _ _
theorem kn_st_lt {f : Nat → Nat} (h : ∀ y, f y < 64) (ov x : Nat) : ∀ y, kn_st f ov x y < 64 := by
  intro y
  unfold kn_st
  split
  · exact h y
  · by_cases e : y = x
    · rw [e, az_s_eq]; exact or_lt64 (h _) (h _)
    · rw [az_s_ne e]; exact h y
theorem kn_rw_lt {f : Nat → Nat} (h : ∀ y, f y < 64) (ov k : Nat) : ∀ y, kn_rw f ov k y < 64 := by
  induction k with
  | zero => exact h
  | succ k ih => exact kn_st_lt ih ov k
theorem kn_al_lt {f : Nat → Nat} (h : ∀ y, f y < 64) (n : Nat) : ∀ y, kn_al f n y < 64 := by
  induction n with
  | zero => exact h
  | succ n ih => exact kn_rw_lt ih n 6
set_option maxHeartbeats 4000000 in
set_option maxRecDepth 100000 in
theorem s_learn2 {d q t tb : Nat} {w : ln_W} {f0 c0 : Nat → Int32} {hp : az_Hp} {Q : Option Value → az_Hp → Prop} (hd : 3 ≤ d) (hw : ln_ok w) (hT : ln_To hp t w q (q + 3)) (h3 : tb < 3) (h0 : hp.2 q = some (az_O 2 [.ref (q + 1), .ref (q + 2)])) (h1 : hp.2 (q + 1) = some (az_I 6 f0)) (h2 : hp.2 (q + 2) = some (az_I 6 c0)) (hQ : ∀ h', h'.2 q = some (az_O 2 [.ref (q + 1), .ref (q + 2)]) → h'.2 (q + 1) = some (az_I 6 (fun j => nI (kn_al (kn_0 w tb) 6 j))) → h'.2 (q + 2) = some (az_I 6 (fun j => nI (kc_al (kn_al (kn_0 w tb) 6) 6 j))) → az_fr hp h' q (q + 3) → Q none h') : az_M mX2_learn d 0 0 [.ref q, .ref t, .int (nI tb)] hp Q := by
  have hlt := kn_0_lt hw tb
  obtain ⟨a4, a5, hT0, -⟩ := id hT
  have inner : ∀ (k : Nat) (ov x : Nat) (h' : az_Hp) (hov : ov < 6) (hK : ∀ h' : az_Hp, h' = az_up hp (q + 1) (az_I 6 (fun j => nI (kn_al (kn_0 w tb) (ov + 1) j))) → az_W mX2_learn d 0 0 76 [(0, .ref q), (1, .ref t), (2, .int (nI tb)), (3, .int (nI ov)), (4, .int (nI 6))] [] h' Q), 6 - x = k → (x ≤ 6) → (h' = az_up hp (q + 1) (az_I 6 (fun j => nI ((kn_rw (kn_al (kn_0 w tb) ov) ov x) j)))) → az_W mX2_learn d 0 0 37 [(0, .ref q), (1, .ref t), (2, .int (nI tb)), (3, .int (nI ov)), (4, .int (nI x))] [] h' Q := by
    intro k
    induction k using Nat.strongRecOn with
    | _ k ih =>
    intro ov x h' hov hK hk hx6 he
    refine az_iload dX2_learn_37 ?_
    refine az_bipush (v := nI 6) dX2_learn_39 ?_
    refine az_icmp_geN (tgt := 76) dX2_learn_41 (fun c41 => ?_) (fun c41 => ?_)
    · obtain rfl : x = 6 := by omega
      exact hK h' he
    · refine az_aload_n dX2_learn_44 ?_
      refine az_iload dX2_learn_45 ?_
      refine az_iload_n dX2_learn_47 ?_
      refine az_cV0 (st := []) dX2_learn_48 ml_X2_24 (by rw [he]; exact az_up_ne h0) (s_reaches (d := d - 1) (by rw [he]; exact az_up_ne h0) (by rw [he]; exact az_up_eq) (kn_rw_lt (kn_al_lt hlt ov) ov x _) (x := x) (by omega) (y := ov) (by omega) ?_)
      have hkb := kb_le (kn_rw (kn_al (kn_0 w tb) ov) ov x) x ov
      refine az_if_eqN (tgt := 70) dX2_learn_51 (fun c51 => ?_) (fun c51 => ?_)
      · refine az_iincN (n := 1) (ls' := [(0, .ref q), (1, .ref t), (2, .int (nI tb)), (3, .int (nI ov)), (4, .int (nI (x + 1)))]) dX2_learn_70 ?_
        refine az_goto (tgt := 37) dX2_learn_73 ?_
        first | exact ih _ (by omega) ov (x + 1) _ hov hK rfl (by omega) (by rw [he, az_up_up, show kn_rw (kn_al (kn_0 w tb) ov) ov (x + 1) = az_s (kn_rw (kn_al (kn_0 w tb) ov) ov x) x ((kn_rw (kn_al (kn_0 w tb) ov) ov x) x ||| (kn_rw (kn_al (kn_0 w tb) ov) ov x) ov) by rw [kn_rw, kn_st, if_neg c51]]) | exact ih _ (by omega) ov (x + 1) _ hov hK rfl (by omega) (by rw [he, show kn_rw (kn_al (kn_0 w tb) ov) ov (x + 1) = (kn_rw (kn_al (kn_0 w tb) ov) ov x) by rw [kn_rw, kn_st, if_pos c51]])
      · refine az_aload_n dX2_learn_54 ?_
        refine az_getf (v := .ref (q + 1)) dX2_learn_55 fl_X2_9 (by rw [he]; exact az_up_ne h0) ?_
        refine az_iload dX2_learn_58 ?_
        refine az_dup2_11 dX2_learn_60 ?_
        refine az_ialdN (j := x) dX2_learn_61 (by rw [he]; exact az_up_eq) ?_
        refine az_aload_n dX2_learn_62 ?_
        refine az_getf (v := .ref (q + 1)) dX2_learn_63 fl_X2_9 (by rw [he]; exact az_up_ne h0) ?_
        refine az_iload_n dX2_learn_66 ?_
        refine az_ialdN (j := ov) dX2_learn_67 (by rw [he]; exact az_up_eq) ?_
        refine az_iorN dX2_learn_68 ?_
        refine az_iastN (j := x) dX2_learn_69 (by rw [he]; exact az_up_eq) ?_
        rw [az_s_nI]
        refine az_iincN (n := 1) (ls' := [(0, .ref q), (1, .ref t), (2, .int (nI tb)), (3, .int (nI ov)), (4, .int (nI (x + 1)))]) dX2_learn_70 ?_
        refine az_goto (tgt := 37) dX2_learn_73 ?_
        first | exact ih _ (by omega) ov (x + 1) _ hov hK rfl (by omega) (by rw [he, az_up_up, show kn_rw (kn_al (kn_0 w tb) ov) ov (x + 1) = az_s (kn_rw (kn_al (kn_0 w tb) ov) ov x) x ((kn_rw (kn_al (kn_0 w tb) ov) ov x) x ||| (kn_rw (kn_al (kn_0 w tb) ov) ov x) ov) by rw [kn_rw, kn_st, if_neg c51]]) | exact ih _ (by omega) ov (x + 1) _ hov hK rfl (by omega) (by rw [he, show kn_rw (kn_al (kn_0 w tb) ov) ov (x + 1) = (kn_rw (kn_al (kn_0 w tb) ov) ov x) by rw [kn_rw, kn_st, if_pos c51]])
  have outer : ∀ (k : Nat) (ov : Nat) (h' : az_Hp), 6 - ov = k → (ov ≤ 6) → (h' = az_up hp (q + 1) (az_I 6 (fun j => nI ((kn_al (kn_0 w tb) ov) j)))) → az_W mX2_learn d 0 0 28 [(0, .ref q), (1, .ref t), (2, .int (nI tb)), (3, .int (nI ov))] [] h' Q := by
    intro k
    induction k using Nat.strongRecOn with
    | _ k ih =>
    intro ov h' hk hr6 he
    refine az_iload_n dX2_learn_28 ?_
    refine az_bipush (v := nI 6) dX2_learn_29 ?_
    refine az_icmp_geN (tgt := 82) dX2_learn_31 (fun c31 => ?_) (fun c31 => ?_)
    · have hov6 : ov = 6 := by omega
      subst hov6
      refine az_aload_n dX2_learn_82 ?_
      refine az_cV0 (st := []) dX2_learn_83 ml_X2_28 (by rw [he]; exact az_up_ne h0) (s_learnChains (d := d - 1) (by omega) (by rw [he]; exact az_up_ne h0) (by rw [he]; exact az_up_eq) (by rw [he]; exact az_up_ne h2) (kn_al_lt hlt 6) ?_)
      exact az_vret dX2_learn_86 (hQ _ (az_up_ne (by rw [he]; exact az_up_ne h0)) (az_up_ne (by rw [he]; exact az_up_eq)) az_up_eq (by rw [he]; exact az_fr.rf.up.up))
    · refine az_iconst (v := nI 0) dX2_learn_34 ?_
      refine az_istore (ls' := [(0, .ref q), (1, .ref t), (2, .int (nI tb)), (3, .int (nI ov)), (4, .int (nI 0))]) dX2_learn_35 ?_
      refine inner _ ov 0 h' (by omega) ?_ rfl (Nat.zero_le _) he
      intro h' he
      refine az_iincN (n := 1) (ls' := [(0, .ref q), (1, .ref t), (2, .int (nI tb)), (3, .int (nI (ov + 1))), (4, .int (nI 6))]) dX2_learn_76 ?_
      refine az_goto (tgt := 28) dX2_learn_79 ?_
      refine az_W.keep (ls' := [(0, .ref q), (1, .ref t), (2, .int (nI tb)), (3, .int (nI (ov + 1)))]) [0, 1, 2, 3] rfl ?_
      exact ih _ (by omega) (ov + 1) h' rfl (by omega) he
  have first9 : ∀ (k : Nat) (x : Nat) (f9 : Nat → Int32) (h' : az_Hp), 6 - x = k → (x ≤ 6) → (∀ j, j < x → f9 j = nI (kn_0 w tb j)) → (h' = az_up hp (q + 1) (az_I 6 f9)) → az_W mX2_learn d 0 0 2 [(0, .ref q), (1, .ref t), (2, .int (nI tb)), (3, .int (nI x))] [] h' Q := by
    intro k
    induction k using Nat.strongRecOn with
    | _ k ih =>
    intro x f9 h' hk hx6 hg he
    have hT' : ln_Town h' t w := (hT.fr (by rw [he]; exact az_fr.rf.up)).town
    obtain ⟨a4', a5', hT0', -⟩ := id hT'
    refine az_iload_n dX2_learn_2 ?_
    refine az_bipush (v := nI 6) dX2_learn_3 ?_
    refine az_icmp_geN (tgt := 26) dX2_learn_5 (fun c5 => ?_) (fun c5 => ?_)
    · refine az_W.reI (g := fun j => nI (kn_0 w tb j)) (by rw [he]; exact az_up_eq) (fun j hj => hg j (by omega)) ?_
      rw [he, az_up_up]
      generalize hgen : az_up hp (q + 1) (az_I 6 (fun j => nI (kn_0 w tb j))) = h9
      have he := hgen.symm
      refine az_iconst (v := nI 0) dX2_learn_26 ?_
      refine az_istore_n (ls' := [(0, .ref q), (1, .ref t), (2, .int (nI tb)), (3, .int (nI 0))]) dX2_learn_27 ?_
      exact outer _ 0 h9 rfl (Nat.zero_le _) he
    · refine az_aload_n dX2_learn_8 ?_
      refine az_getf (v := .ref (q + 1)) dX2_learn_9 fl_X2_9 (by rw [he]; exact az_up_ne h0) ?_
      refine az_iload_n dX2_learn_12 ?_
      refine az_aload_n dX2_learn_13 ?_
      refine az_iload_n dX2_learn_14 ?_
      refine az_iload_n dX2_learn_15 ?_
      refine az_cV0 (st := [.int (nI x), .ref (q + 1)]) dX2_learn_16 ml_X2_18 hT0' (s_childBits (d := d - 1) (by omega) hT' hw h3 (lt := x) (by omega) ?_)
      refine az_iastN (j := x) dX2_learn_19 (by rw [he]; exact az_up_eq) ?_
      refine az_iincN (n := 1) (ls' := [(0, .ref q), (1, .ref t), (2, .int (nI tb)), (3, .int (nI (x + 1)))]) dX2_learn_20 ?_
      refine az_goto (tgt := 2) dX2_learn_23 ?_
      exact ih _ (by omega) (x + 1) (az_s f9 x (nI (kn_0 w tb x))) _ rfl (by omega) (fun j hj => if e : j = x then (by rw [e, az_s_eq]) else (by rw [az_s_ne e]; exact hg j (by omega))) (by rw [he, az_up_up]; rfl)
  refine az_M.of rfl (Nat.le_of_ble_eq_true rfl) ?_
  show az_W _ _ _ _ 0 [(0, .ref q), (1, .ref t), (2, .int (nI tb))] [] _ _
  refine az_iconst (v := nI 0) dX2_learn_0 ?_
  refine az_istore_n (ls' := [(0, .ref q), (1, .ref t), (2, .int (nI tb)), (3, .int (nI 0))]) dX2_learn_1 ?_
  exact first9 _ 0 f0 _ rfl (Nat.zero_le _) (fun j hj => absurd hj (by omega)) (az_up_same h1).symm
