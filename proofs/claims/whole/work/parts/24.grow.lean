/-! Scene: a night -/
theorem az_s_nI {g : Nat → Nat} {c v : Nat} : az_s (fun j => nI (g j)) c (nI v) = fun j => nI (az_s g c v j) := by
  funext j; unfold az_s; split <;> rfl
theorem az_s_lN {g : Nat → Nat} {c v : Nat} : az_s (fun j => lN (g j)) c (lN v) = fun j => lN (az_s g c v j) := by
  funext j; unfold az_s; split <;> rfl
theorem tk_count {l : List Nat} {i : Nat} (h : i < l.length) (y : Nat) : (l.take (i + 1)).count y = (l.take i).count y + (if y = l.getD i 0 then 1 else 0) := by
  rw [List.take_succ, List.getElem?_eq_getElem h, List.count_append]
  rw [List.getD_eq_getElem?_getD, List.getElem?_eq_getElem h]
  show _ + List.count y [l[i]] = _ + if y = l[i] then 1 else 0
  rw [cnt_cons]
  simp
theorem sub_getD {w : ln_W} {tb x i : Nat} (h : i < ln_sz w (tb * 6 + x)) : (ln_sub w tb x).getD i 0 = ln_ch w ((tb * 6 + x) * 4 + i) := by
  rw [List.getD_eq_getElem?_getD, ln_sub_get _ _ _ _ h]; rfl
/-- how many of y there are behind the night, of the letters below x and of the first i children of x -/
def ln_nc (w : ln_W) (tb : Nat) (l : List Nat) (x i y : Nat) : Nat := sm (fun z => l.count z * (ln_sub w tb z).count y) x + l.count x * ((ln_sub w tb x).take i).count y
theorem ln_nc_0 (w : ln_W) (tb : Nat) (l : List Nat) (x y : Nat) : ln_nc w tb l x 0 y = sm (fun z => l.count z * (ln_sub w tb z).count y) x := by simp [ln_nc]
theorem ln_nc_full (w : ln_W) (tb : Nat) (l : List Nat) (x y : Nat) : ln_nc w tb l x (ln_sz w (tb * 6 + x)) y = sm (fun z => l.count z * (ln_sub w tb z).count y) (x + 1) := by
  rw [ln_nc, ← ln_sub_len, List.take_length, sm]
theorem ln_nc_step {w : ln_W} {tb : Nat} {l : List Nat} {x i : Nat} (h : i < ln_sz w (tb * 6 + x)) (y : Nat) : ln_nc w tb l x (i + 1) y = ln_nc w tb l x i y + (if y = ln_ch w ((tb * 6 + x) * 4 + i) then l.count x else 0) := by
  rw [ln_nc, ln_nc, tk_count (by rw [ln_sub_len]; exact h), sub_getD h, Nat.mul_add]
  split <;> omega
/-- a town whose cells all lie outside lo .. hi -/
def ln_To (h : az_Hp) (t : Nat) (w : ln_W) (lo hi : Nat) : Prop := ∃ a4 a5 : Nat,
  h.2 t = some (az_O 8 [.int (nI (ln_tb w)), .int (nI (ln_mo w)), .int (nI (ln_li w)), .int (nI (ln_sd w)), .ref (t + 1), .ref (t + 2), .ref (t + 3), .ref a4, .ref a5]) ∧ h.2 (t + 1) = some (az_I 12 (fun j => nI (ln_st w j))) ∧ h.2 (t + 2) = some (az_I 18 (fun j => nI (ln_sz w j))) ∧ h.2 (t + 3) = some (az_I 72 (fun j => nI (ln_ch w j))) ∧ h.2 a4 = some (az_I (ln_pk w).1 (ln_pk w).2) ∧ h.2 a5 = some (az_I (ln_sl w).1 (ln_sl w).2) ∧ (t + 4 ≤ lo ∨ hi ≤ t) ∧ (a4 < lo ∨ hi ≤ a4) ∧ (a5 < lo ∨ hi ≤ a5)
theorem ln_To.town {h : az_Hp} {t : Nat} {w : ln_W} {lo hi : Nat} (H : ln_To h t w lo hi) : ln_Town h t w := by
  obtain ⟨a4, a5, h0, h1, h2, h3, h4, h5, -⟩ := H
  exact ⟨a4, a5, h0, h1, h2, h3, h4, h5⟩
theorem ln_To.fr {h h' : az_Hp} {t : Nat} {w : ln_W} {lo hi : Nat} (H : ln_To h t w lo hi) (hf : az_fr h h' lo hi) : ln_To h' t w lo hi := by
  obtain ⟨a4, a5, h0, h1, h2, h3, h4, h5, o, o4, o5⟩ := H
  exact ⟨a4, a5, hf.at h0, hf.at h1, hf.at h2, hf.at h3, hf.at h4 o4, hf.at h5 o5, o, o4, o5⟩
set_option maxRecDepth 100000 in
theorem s_growCounts {d a t tb : Nat} {w : ln_W} {l : List Nat} {v1 v2 v3 v4 v5 : Value} {nc : Nat → Int64} {hp : az_Hp} {Q : Option Value → az_Hp → Prop} (hd : 1 ≤ d) (hw : ln_ok w) (hl : ∀ y ∈ l, y < 6) (hT : ln_To hp t w a (a + 8)) (hS0 : hp.2 a = some (az_O 5 [.ref t, v1, v2, v3, v4, v5, .ref (a + 1), .ref (a + 2), .ref (a + 3), .ref (a + 4), .ref (a + 5), .ref (a + 6), .ref (a + 7)])) (hS1 : hp.2 (a + 1) = some (az_J 6 (fun x => lN (l.count x)))) (hS6 : hp.2 (a + 6) = some (az_J 6 nc)) (h3 : tb < 3) (hQ : ∀ nc', Q none (az_up (az_up hp (a + 6) (az_J 6 nc')) (a + 1) (az_J 6 (fun y => lN ((l.flatMap (ln_sub w tb)).count y))))) : az_M mX6_growCounts d 0 0 [.ref a, .int (nI tb)] hp Q := by
  have inner : ∀ (k : Nat) (x i : Nat) (g : Nat → Nat) (h' : az_Hp) (hx : x < 6) (hK : ∀ (g' : Nat → Nat) (h'' : az_Hp), (∀ y, y < 6 → g' y = sm (fun z => l.count z * (ln_sub w tb z).count y) (x + 1)) → h'' = az_up hp (a + 6) (az_J 6 (fun y => lN (g' y))) → az_W mX6_growCounts d 0 0 66 [(0, .ref a), (1, .int (nI tb)), (2, .int (nI x)), (3, .int (nI (ln_sz w (tb * 6 + x)))), (4, .int (nI (ln_sz w (tb * 6 + x))))] [] h'' Q), ln_sz w (tb * 6 + x) - i = k → (i ≤ ln_sz w (tb * 6 + x)) → (∀ y, y < 6 → g y = ln_nc w tb l x i y) → (h' = az_up hp (a + 6) (az_J 6 (fun y => lN (g y)))) → az_W mX6_growCounts d 0 0 29 [(0, .ref a), (1, .int (nI tb)), (2, .int (nI x)), (3, .int (nI (ln_sz w (tb * 6 + x)))), (4, .int (nI i))] [] h' Q := by
    intro k
    induction k using Nat.strongRecOn with
    | _ k ih =>
    intro x i g h' hx hK hk hi hg he
    have hT' : ln_Town h' t w := (hT.fr (by rw [he]; exact az_fr.rf.up)).town
    obtain ⟨a4', a5', hT0', -⟩ := id hT'
    have hz4 := hw.2.2.2.2.2.2.1 (tb * 6 + x)
    refine az_iload dX6_growCounts_29 ?_
    refine az_iload_n dX6_growCounts_31 ?_
    refine az_icmp_geN (tgt := 66) dX6_growCounts_32 (fun c32 => ?_) (fun c32 => ?_)
    · obtain rfl : i = ln_sz w (tb * 6 + x) := by omega
      exact hK g h' (fun y hy => by rw [hg y hy, ln_nc_full]) he
    · refine az_aload_n dX6_growCounts_35 ?_
      refine az_getf (v := .ref (a + 6)) dX6_growCounts_36 fl_X6_28 (by rw [he]; exact az_up_ne hS0) ?_
      refine az_aload_n dX6_growCounts_39 ?_
      refine az_getf (v := .ref t) dX6_growCounts_40 fl_X6_40 (by rw [he]; exact az_up_ne hS0) ?_
      refine az_iload_n dX6_growCounts_43 ?_
      refine az_iload_n dX6_growCounts_44 ?_
      refine az_iload dX6_growCounts_45 ?_
      refine az_cV0 (st := [.ref (a + 6)]) dX6_growCounts_47 ml_X6_147 hT0' (s_childOf (d := d - 1) hT' h3 (lt := x) (by omega) (i := i) (by omega) ?_)
      refine az_dup2_11 dX6_growCounts_50 ?_
      have hc6 := hw.2.2.2.2.2.2.2.1 ((tb * 6 + x) * 4 + i)
      refine az_laldN (j := ln_ch w ((tb * 6 + x) * 4 + i)) dX6_growCounts_51 (by rw [he]; exact az_up_eq) ?_
      refine az_aload_n dX6_growCounts_52 ?_
      refine az_getf (v := .ref (a + 1)) dX6_growCounts_53 fl_X6_9 (by rw [he]; exact az_up_ne hS0) ?_
      refine az_iload_n dX6_growCounts_56 ?_
      refine az_laldN (j := x) dX6_growCounts_57 (by rw [he]; exact az_up_ne hS1) ?_
      refine az_laddN dX6_growCounts_58 ?_
      refine az_lastN (j := ln_ch w ((tb * 6 + x) * 4 + i)) dX6_growCounts_59 (by rw [he]; exact az_up_eq) ?_
      rw [az_s_lN]
      refine az_iincN (n := 1) (ls' := [(0, .ref a), (1, .int (nI tb)), (2, .int (nI x)), (3, .int (nI (ln_sz w (tb * 6 + x)))), (4, .int (nI (i + 1)))]) dX6_growCounts_60 ?_
      refine az_goto (tgt := 29) dX6_growCounts_63 ?_
      exact ih _ (by omega) x (i + 1) (az_s g (ln_ch w ((tb * 6 + x) * 4 + i)) (g (ln_ch w ((tb * 6 + x) * 4 + i)) + l.count x)) _ hx hK rfl (by omega) (fun y hy => by rw [ln_nc_step (by omega) y]; by_cases e : y = ln_ch w ((tb * 6 + x) * 4 + i); rw [e, az_s_eq, if_pos rfl, hg _ hc6]; rw [az_s_ne e, if_neg e, hg y hy]; rfl) (by rw [he, az_up_up])
  have outer : ∀ (k : Nat) (x : Nat) (g : Nat → Nat) (h' : az_Hp), 6 - x = k → (x ≤ 6) → (∀ y, y < 6 → g y = sm (fun z => l.count z * (ln_sub w tb z).count y) x) → (h' = az_up hp (a + 6) (az_J 6 (fun y => lN (g y)))) → az_W mX6_growCounts d 0 0 10 [(0, .ref a), (1, .int (nI tb)), (2, .int (nI x))] [] h' Q := by
    intro k
    induction k using Nat.strongRecOn with
    | _ k ih =>
    intro x g h' hk h6 hg he
    have hT' : ln_Town h' t w := (hT.fr (by rw [he]; exact az_fr.rf.up)).town
    obtain ⟨a4', a5', hT0', -⟩ := id hT'
    refine az_iload_n dX6_growCounts_10 ?_
    refine az_bipush (v := nI 6) dX6_growCounts_11 ?_
    refine az_icmp_geN (tgt := 72) dX6_growCounts_13 (fun c13 => ?_) (fun c13 => ?_)
    · refine az_aload_n dX6_growCounts_72 ?_
      refine az_getf (v := .ref (a + 6)) dX6_growCounts_73 fl_X6_28 (by rw [he]; exact az_up_ne hS0) ?_
      refine az_iconst (v := nI 0) dX6_growCounts_76 ?_
      refine az_aload_n dX6_growCounts_77 ?_
      refine az_getf (v := .ref (a + 1)) dX6_growCounts_78 fl_X6_9 (by rw [he]; exact az_up_ne hS0) ?_
      refine az_iconst (v := nI 0) dX6_growCounts_81 ?_
      refine az_bipush (v := nI 6) dX6_growCounts_82 ?_
      refine az_copyl dX6_growCounts_84 al_X6_67 (a0 := a + 6) (a := a + 1) (n0 := 6) (n1 := 6) (f := fun y => lN (g y)) (g := fun x => lN (l.count x)) (by rw [he]; exact az_up_eq) (by rw [he]; exact az_up_ne hS1) (az_ix_nI (j := 0) (by decide)) (az_ix_nI (j := 0) (by decide)) (az_ix_nI (j := 6) (by decide)) (by decide) (by decide) ?_
      refine az_W.reJ (g := fun y => lN ((l.flatMap (ln_sub w tb)).count y)) az_up_eq (fun j hj => ?_) ?_
      · show (if 0 ≤ j ∧ j < 0 + 6 then lN (g (0 + (j - 0))) else _) = _
        rw [if_pos ⟨Nat.zero_le _, by omega⟩, show 0 + (j - 0) = j by omega, hg j hj, cnt_flat _ _ _ hl, show x = 6 by omega]
      exact az_vret dX6_growCounts_87 (by rw [az_up_up, he]; exact hQ _)
    · have hx6 : x < 6 := by omega
      refine az_aload_n dX6_growCounts_16 ?_
      refine az_getf (v := .ref t) dX6_growCounts_17 fl_X6_40 (by rw [he]; exact az_up_ne hS0) ?_
      refine az_iload_n dX6_growCounts_20 ?_
      refine az_iload_n dX6_growCounts_21 ?_
      refine az_cV0 (st := []) dX6_growCounts_22 ml_X6_137 hT0' (s_sizeOf (d := d - 1) hT' h3 (lt := x) (by omega) ?_)
      refine az_istore_n (ls' := [(0, .ref a), (1, .int (nI tb)), (2, .int (nI x)), (3, .int (nI (ln_sz w (tb * 6 + x))))]) dX6_growCounts_25 ?_
      refine az_iconst (v := nI 0) dX6_growCounts_26 ?_
      refine az_istore (ls' := [(0, .ref a), (1, .int (nI tb)), (2, .int (nI x)), (3, .int (nI (ln_sz w (tb * 6 + x)))), (4, .int (nI 0))]) dX6_growCounts_27 ?_
      refine inner _ x 0 g h' hx6 ?_ rfl (Nat.zero_le _) (fun y hy => by rw [ln_nc_0]; exact hg y hy) he
      intro g h' hg he
      refine az_iincN (n := 1) (ls' := [(0, .ref a), (1, .int (nI tb)), (2, .int (nI (x + 1))), (3, .int (nI (ln_sz w (tb * 6 + x)))), (4, .int (nI (ln_sz w (tb * 6 + x))))]) dX6_growCounts_66 ?_
      refine az_goto (tgt := 10) dX6_growCounts_69 ?_
      refine az_W.keep (ls' := [(0, .ref a), (1, .int (nI tb)), (2, .int (nI (x + 1)))]) [0, 1, 2] rfl ?_
      exact ih _ (by omega) (x + 1) g h' rfl (by omega) hg he
  refine az_M.of rfl (Nat.le_of_ble_eq_true rfl) ?_
  show az_W _ _ _ _ 0 [(0, .ref a), (1, .int (nI tb))] [] _ _
  refine az_aload_n dX6_growCounts_0 ?_
  refine az_getf (v := .ref (a + 6)) dX6_growCounts_1 fl_X6_28 hS0 ?_
  refine az_lconst (v := lN 0) dX6_growCounts_4 ?_
  refine az_cS0 (st := []) dX6_growCounts_5 ml_X6_83 (s_fillJ (d := d - 1) (by decide) hS6 ?_)
  refine az_iconst (v := nI 0) dX6_growCounts_8 ?_
  refine az_istore_n (ls' := [(0, .ref a), (1, .int (nI tb)), (2, .int (nI 0))]) dX6_growCounts_9 ?_
  exact outer _ 0 (fun _ => 0) _ rfl (Nat.zero_le _) (fun y hy => rfl) rfl
