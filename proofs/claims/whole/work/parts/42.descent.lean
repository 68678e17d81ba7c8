/-! Survey.descend -/
/-- night by night down: the letter, what is left of the weight, what went by -/
def ln_go (w : ln_W) (bs : List Nat) (F F2 : Nat → Nat → Nat) : Nat → Nat → Option Nat → Nat → Nat → Option Nat × Nat × Nat
  | 0, _, c, k, p => (c, k, p)
  | _ + 1, _, none, k, p => (none, k, p)
  | n + 1, lv, some x, k, p => ln_go w bs F F2 n (lv + 1) (ln_scan (F (lv + 1)) (F2 (lv + 1)) (ln_sub w (bs.getD lv 0) x) k p).1 (ln_scan (F (lv + 1)) (F2 (lv + 1)) (ln_sub w (bs.getD lv 0) x) k p).2.1 (ln_scan (F (lv + 1)) (F2 (lv + 1)) (ln_sub w (bs.getD lv 0) x) k p).2.2
theorem go_none (w : ln_W) (bs : List Nat) (F F2 : Nat → Nat → Nat) (n lv k p : Nat) : ln_go w bs F F2 n lv none k p = (none, k, p) := by cases n <;> rfl
theorem scan_mem {F F2 : Nat → Nat} {l : List Nat} : ∀ {k p x : Nat}, (ln_scan F F2 l k p).1 = some x → x ∈ l := by
  induction l with
  | nil => intro k p x h; cases h
  | cons y l ih =>
    intro k p x h
    unfold ln_scan at h
    split at h
    · cases h; exact List.mem_cons_self
    · exact List.mem_cons_of_mem _ (ih h)
theorem scan_le {F F2 : Nat → Nat} {l : List Nat} : ∀ {k p : Nat}, (ln_scan F F2 l k p).2.1 ≤ k := by
  induction l with
  | nil => intro k p; exact Nat.le_refl _
  | cons y l ih =>
    intro k p
    unfold ln_scan
    split
    · exact Nat.le_refl _
    · exact Nat.le_trans ih (Nat.sub_le _ _)
theorem opt_some {c : Option Nat} (h : ¬ ln_opt c = (-1)) : ∃ x, c = some x := by
  cases c with
  | none => exact absurd rfl h
  | some x => exact ⟨x, rfl⟩
theorem opt_none {c : Option Nat} (hc : ∀ x, c = some x → x < 6) (h : ln_opt c = (-1)) : c = none := by
  cases c with
  | none => rfl
  | some x =>
    have h6 := hc x rfl
    have := congrArg Int32.toInt (show nI x = (-1) from h)
    rw [nI_toInt (by omega)] at this
    have h9 : (-1 : Int32).toInt = -1 := by decide
    omega
set_option maxHeartbeats 4000000 in
set_option maxRecDepth 100000 in
theorem s_descend {d s o1 o2 a t mo ni k0 : Nat} {v3 v4 : Value} {f1 f2 : Nat → Nat} {w : ln_W} {bs : List Nat} {r1 r : Option Nat × Nat × Nat} {hp : az_Hp} {Q : Option Value → az_Hp → Prop} (hd : 2 ≤ d) (hw : ln_ok w) (hb : ln_by w bs) (hT : ln_To hp t w s (s + 1)) (hS : ln_Scene hp a t w mo ni bs) (hsa : s < a ∨ a + 8 ≤ s) (h0 : hp.2 s = some (az_O 6 [.ref (s + 1), .ref (s + 2), v3, v4])) (h1 : hp.2 o1 = some (az_J 366 (fun j => lN (f1 j)))) (h2 : hp.2 o2 = some (az_J 366 (fun j => lN (f2 j)))) (hk : k0 < 2 ^ 63) (hf : ∀ j, j < (bs.length + 1) * 6 → f1 j < 2 ^ 63) (hs1 : o1 ≠ s) (hs2 : o2 ≠ s) (hr1 : ln_scan f1 f2 (ln_word w) k0 0 = r1) (hr : ln_go w bs (fun k y => f1 (k * 6 + y)) (fun k y => f2 (k * 6 + y)) bs.length 0 r1.1 r1.2.1 r1.2.2 = r) (hQ : Q (some (.int (ln_opt r.1))) (az_up hp s (az_O 6 [.ref (s + 1), .ref (s + 2), .long (lN r.2.1), .long (lN r.2.2)]))) : az_M mX7_descend d 0 0 [.ref s, .ref a, .ref o1, .ref o2, .long (lN k0)] hp Q := by
  obtain ⟨hi, fr, la, no, wa, nc, g0, -, g2, t2, -⟩ := id hS
  have h60 := hb.1
  have hsd := hw.2.2.2.2.1
  have phase : ∀ (k : Nat) (lv : Nat) (c : Option Nat) (k9 p9 : Nat) (h' : az_Hp), bs.length - lv = k → (lv ≤ bs.length) → (∀ x, c = some x → x < 6) → (k9 < 2 ^ 63) → (ln_go w bs (fun k y => f1 (k * 6 + y)) (fun k y => f2 (k * 6 + y)) (bs.length - lv) lv c k9 p9 = r) → (h' = az_up hp s (az_O 6 [.ref (s + 1), .ref (s + 2), .long (lN k9), .long (lN p9)])) → az_W mX7_descend d 0 0 75 [(0, .ref s), (1, .ref a), (2, .ref o1), (3, .ref o2), (4, .long (lN k0)), (6, .int (ln_opt c)), (7, .int (nI lv))] [] h' Q := by
    intro k
    induction k using Nat.strongRecOn with
    | _ k ih =>
    intro lv c k9 p9 h' hk hlv hc hk9 hgo he
    obtain ⟨a4', a5', hT0', hT1', -⟩ := hT.fr (show az_fr hp h' s (s + 1) by rw [he]; exact az_fr.rf.up)
    have hS' : ∀ cc, ln_Scene (az_up hp s cc) a t w mo ni bs := fun cc => (by obtain ⟨hi, fr, la, no, wa, nc, q0, q1, q2, u2, q3, u3, q4, u4, q5, q6, q7⟩ := hS; exact ⟨hi, fr, la, no, wa, nc, az_up_ne q0, az_up_ne q1, az_up_ne q2, u2, az_up_ne q3, u3, az_up_ne q4, u4, az_up_ne q5, az_up_ne q6, az_up_ne q7⟩)
    have hS' := hS' (az_O 6 [.ref (s + 1), .ref (s + 2), .long (lN k9), .long (lN p9)])
    refine az_iload dX7_descend_75 ?_
    refine az_aload_n dX7_descend_77 ?_
    refine az_getf (v := .int (nI bs.length)) dX7_descend_78 fl_X7_36 (by rw [he]; exact az_up_ne g0) ?_
    refine az_icmp_geN (tgt := 109) dX7_descend_81 (fun c81 => ?_) (fun c81 => ?_)
    · have hfin : (c, k9, p9) = r := by first | (rw [show bs.length - lv = 0 by omega] at hgo; exact hgo) | (rw [opt_none hc c87, go_none] at hgo; rw [opt_none hc c87]; exact hgo)
      rw [← hfin] at hQ
      refine az_iload dX7_descend_109 ?_
      exact az_iret dX7_descend_111 (by rw [he]; exact hQ)
    · refine az_iload dX7_descend_84 ?_
      refine az_iconst (v := (-1)) dX7_descend_86 ?_
      refine az_icmp_eq (tgt := 109) dX7_descend_87 (fun c87 => ?_) (fun c87 => ?_)
      · have hfin : (c, k9, p9) = r := by first | (rw [show bs.length - lv = 0 by omega] at hgo; exact hgo) | (rw [opt_none hc c87, go_none] at hgo; rw [opt_none hc c87]; exact hgo)
        rw [← hfin] at hQ
        refine az_iload dX7_descend_109 ?_
        exact az_iret dX7_descend_111 (by rw [he]; exact hQ)
      · obtain ⟨x9, rfl⟩ := opt_some c87
        have hx6 := hc x9 rfl
        obtain ⟨n9, hn9⟩ : ∃ n, bs.length - lv = n + 1 := ⟨bs.length - lv - 1, by omega⟩
        rw [hn9, ln_go] at hgo
        obtain ⟨r9, hr9⟩ : ∃ r, ln_scan (fun y => f1 ((lv + 1) * 6 + y)) (fun y => f2 ((lv + 1) * 6 + y)) (ln_sub w (bs.getD lv 0) x9) k9 p9 = r := ⟨_, rfl⟩
        rw [hr9] at hgo
        have hm9 : ∀ x, r9.1 = some x → x < 6 := fun x hx => ln_sub_lt hw (scan_mem (by rw [hr9]; exact hx))
        have hl9 : r9.2.1 ≤ k9 := by rw [← hr9]; exact scan_le
        refine az_aload_n dX7_descend_90 ?_
        refine az_aload_n dX7_descend_91 ?_
        refine az_iload dX7_descend_92 ?_
        refine az_iload dX7_descend_94 ?_
        refine az_aload_n dX7_descend_96 ?_
        refine az_aload_n dX7_descend_97 ?_
        refine az_cV0 (st := []) dX7_descend_98 ml_X7_75 (by rw [he]; exact az_up_eq) (s_childWithin (x := x9) (d := d - 1) (by omega) hw hb (hT.fr (show az_fr hp h' s (s + 1) by rw [he]; exact az_fr.rf.up)) (by rw [he]; exact hS') hsa (by rw [he]; exact az_up_eq) (by rw [he]; exact az_up_ne h1 hs1) (by rw [he]; exact az_up_ne h2 hs2) hk9 hf hs1 hs2 (by omega) hx6 hr9 ?_)
        refine az_istore (ls' := [(0, .ref s), (1, .ref a), (2, .ref o1), (3, .ref o2), (4, .long (lN k0)), (6, .int (ln_opt r9.1)), (7, .int (nI lv))]) dX7_descend_101 ?_
        refine az_iincN (n := 1) (ls' := [(0, .ref s), (1, .ref a), (2, .ref o1), (3, .ref o2), (4, .long (lN k0)), (6, .int (ln_opt r9.1)), (7, .int (nI (lv + 1)))]) dX7_descend_103 ?_
        refine az_goto (tgt := 75) dX7_descend_106 ?_
        exact ih _ (by omega) (lv + 1) r9.1 r9.2.1 r9.2.2 _ rfl (by omega) hm9 (by omega) (by rw [show bs.length - (lv + 1) = n9 by omega]; exact hgo) (by rw [he, az_up_up])
  have found : ∀ (k : Nat) (i x k9 p9 : Nat) (h' : az_Hp), i = k → (i ≤ 13) → (x < 6) → (k9 < 2 ^ 63) → (r1 = (some x, k9, p9)) → (h' = az_up hp s (az_O 6 [.ref (s + 1), .ref (s + 2), .long (lN k9), .long (lN p9)])) → az_W mX7_descend d 0 0 17 [(0, .ref s), (1, .ref a), (2, .ref o1), (3, .ref o2), (4, .long (lN k0)), (6, .int (nI x)), (7, .int (nI i))] [] h' Q := by
    intro k
    induction k using Nat.strongRecOn with
    | _ k ih =>
    intro i x k9 p9 h' hk hi13 hx6 hk9 hfr he
    obtain ⟨a4', a5', hT0', hT1', -⟩ := hT.fr (show az_fr hp h' s (s + 1) by rw [he]; exact az_fr.rf.up)
    refine az_iload dX7_descend_17 ?_
    refine az_aload_n dX7_descend_19 ?_
    refine az_getf (v := .ref t) dX7_descend_20 fl_X7_30 (by rw [he]; exact az_up_ne g0) ?_
    refine az_getf (v := .int (nI (ln_sd w))) dX7_descend_23 fl_X7_65 hT0' ?_
    refine az_icmp_geN (tgt := 72) dX7_descend_26 (fun c26 => ?_) (fun c26 => ?_)
    · refine az_iconst (v := nI 0) dX7_descend_72 ?_
      refine az_istore (ls' := [(0, .ref s), (1, .ref a), (2, .ref o1), (3, .ref o2), (4, .long (lN k0)), (6, .int (nI x)), (7, .int (nI 0))]) dX7_descend_73 ?_
      exact phase _ 0 (some x) k9 p9 h' rfl (Nat.zero_le _) (fun y hy => by cases hy; exact hx6) hk9 (by rw [hfr] at hr; exact hr) he
    · refine az_iload dX7_descend_29 ?_
      refine az_iconst (v := (-1)) dX7_descend_31 ?_
      refine az_icmp_ne (tgt := 72) dX7_descend_32 (fun c32 => ?_) (fun c32 => ?_)
      · refine az_iconst (v := nI 0) dX7_descend_72 ?_
        refine az_istore (ls' := [(0, .ref s), (1, .ref a), (2, .ref o1), (3, .ref o2), (4, .long (lN k0)), (6, .int (nI x)), (7, .int (nI 0))]) dX7_descend_73 ?_
        exact phase _ 0 (some x) k9 p9 h' rfl (Nat.zero_le _) (fun y hy => by cases hy; exact hx6) hk9 (by rw [hfr] at hr; exact hr) he
      · exact absurd (opt_none (c := some x) (fun y hy => by cases hy; exact hx6) c32) (by simp)
  have scan : ∀ (k : Nat) (i k9 p9 : Nat) (h' : az_Hp), ln_sd w - i = k → (i ≤ ln_sd w) → (k9 < 2 ^ 63) → (ln_scan f1 f2 ((ln_word w).drop i) k9 p9 = r1) → (h' = az_up hp s (az_O 6 [.ref (s + 1), .ref (s + 2), .long (lN k9), .long (lN p9)])) → az_W mX7_descend d 0 0 17 [(0, .ref s), (1, .ref a), (2, .ref o1), (3, .ref o2), (4, .long (lN k0)), (6, .int ((-1))), (7, .int (nI i))] [] h' Q := by
    intro k
    induction k using Nat.strongRecOn with
    | _ k ih =>
    intro i k9 p9 h' hk hi9 hk9 hsc he
    obtain ⟨a4', a5', hT0', hT1', -⟩ := hT.fr (show az_fr hp h' s (s + 1) by rw [he]; exact az_fr.rf.up)
    refine az_iload dX7_descend_17 ?_
    refine az_aload_n dX7_descend_19 ?_
    refine az_getf (v := .ref t) dX7_descend_20 fl_X7_30 (by rw [he]; exact az_up_ne g0) ?_
    refine az_getf (v := .int (nI (ln_sd w))) dX7_descend_23 fl_X7_65 hT0' ?_
    refine az_icmp_geN (tgt := 72) dX7_descend_26 (fun c26 => ?_) (fun c26 => ?_)
    · have hnone : r1 = (none, k9, p9) := by rw [List.drop_eq_nil_of_le (by rw [word_len]; omega)] at hsc; exact hsc.symm
      refine az_iconst (v := nI 0) dX7_descend_72 ?_
      refine az_istore (ls' := [(0, .ref s), (1, .ref a), (2, .ref o1), (3, .ref o2), (4, .long (lN k0)), (6, .int ((-1))), (7, .int (nI 0))]) dX7_descend_73 ?_
      exact phase _ 0 none k9 p9 h' rfl (Nat.zero_le _) (fun y hy => by cases hy) hk9 (by rw [hnone] at hr; exact hr) he
    · refine az_iload dX7_descend_29 ?_
      refine az_iconst (v := (-1)) dX7_descend_31 ?_
      refine az_icmp_ne (tgt := 72) dX7_descend_32 (fun c32 => ?_) (fun c32 => ?_)
      · exact absurd rfl c32
      · refine az_aload_n dX7_descend_35 ?_
        refine az_getf (v := .ref t) dX7_descend_36 fl_X7_30 (by rw [he]; exact az_up_ne g0) ?_
        refine az_getf (v := .ref (t + 1)) dX7_descend_39 fl_X7_68 hT0' ?_
        refine az_iload dX7_descend_42 ?_
        have hx6 := hw.2.2.2.2.2.1 i
        have hcg := word_getD (w := w) (i := i) (by omega)
        rw [scan_drop (by rw [word_len]; omega), hcg] at hsc
        refine az_ialdN (j := i) dX7_descend_44 hT1' ?_
        refine az_istore (ls' := [(0, .ref s), (1, .ref a), (2, .ref o1), (3, .ref o2), (4, .long (lN k0)), (6, .int ((-1))), (7, .int (nI i)), (8, .int (nI (ln_st w i)))]) dX7_descend_45 ?_
        refine az_aload_n dX7_descend_47 ?_
        refine az_aload_n dX7_descend_48 ?_
        refine az_aload_n dX7_descend_49 ?_
        refine az_iload dX7_descend_50 ?_
        refine az_cV0 (st := []) dX7_descend_52 ml_X7_71 (by rw [he]; exact az_up_eq) (s_isWithin (j := ln_st w i) (d := d - 1) (by rw [he]; exact az_up_eq) (by rw [he]; exact az_up_ne h1 hs1) (by rw [he]; exact az_up_ne h2 hs2) (by omega) hk9 (hf _ (by omega)) hs1 hs2 (fun hlt => ?_) (fun hge => ?_))
        · rw [if_pos hlt] at hsc
          refine az_if_eqN (tgt := 63) dX7_descend_55 (fun c55 => ?_) (fun c55 => ?_)
          · refine az_iconst (v := (-1)) dX7_descend_63 ?_
            refine az_istore (ls' := [(0, .ref s), (1, .ref a), (2, .ref o1), (3, .ref o2), (4, .long (lN k0)), (6, .int ((-1))), (7, .int (nI i)), (8, .int (nI (ln_st w i)))]) dX7_descend_64 ?_
            refine az_iincN (n := 1) (ls' := [(0, .ref s), (1, .ref a), (2, .ref o1), (3, .ref o2), (4, .long (lN k0)), (6, .int ((-1))), (7, .int (nI (i + 1))), (8, .int (nI (ln_st w i)))]) dX7_descend_66 ?_
            refine az_goto (tgt := 17) dX7_descend_69 ?_
            refine az_W.keep (ls' := [(0, .ref s), (1, .ref a), (2, .ref o1), (3, .ref o2), (4, .long (lN k0)), (6, .int ((-1))), (7, .int (nI (i + 1)))]) [0, 1, 2, 3, 4, 6, 7] rfl ?_
            first | exact absurd c55 (by decide) | exact absurd rfl c55 | exact found _ (i + 1) (ln_st w i) k9 p9 h' rfl (by omega) hx6 hk9 hsc.symm he | exact ih _ (by omega) (i + 1) _ _ _ rfl (by omega) (by omega) hsc (by rw [he, az_up_up])
          · refine az_iload dX7_descend_58 ?_
            refine az_goto (tgt := 64) dX7_descend_60 ?_
            refine az_istore (ls' := [(0, .ref s), (1, .ref a), (2, .ref o1), (3, .ref o2), (4, .long (lN k0)), (6, .int (nI (ln_st w i))), (7, .int (nI i)), (8, .int (nI (ln_st w i)))]) dX7_descend_64 ?_
            refine az_iincN (n := 1) (ls' := [(0, .ref s), (1, .ref a), (2, .ref o1), (3, .ref o2), (4, .long (lN k0)), (6, .int (nI (ln_st w i))), (7, .int (nI (i + 1))), (8, .int (nI (ln_st w i)))]) dX7_descend_66 ?_
            refine az_goto (tgt := 17) dX7_descend_69 ?_
            refine az_W.keep (ls' := [(0, .ref s), (1, .ref a), (2, .ref o1), (3, .ref o2), (4, .long (lN k0)), (6, .int (nI (ln_st w i))), (7, .int (nI (i + 1)))]) [0, 1, 2, 3, 4, 6, 7] rfl ?_
            first | exact absurd c55 (by decide) | exact absurd rfl c55 | exact found _ (i + 1) (ln_st w i) k9 p9 h' rfl (by omega) hx6 hk9 hsc.symm he | exact ih _ (by omega) (i + 1) _ _ _ rfl (by omega) (by omega) hsc (by rw [he, az_up_up])
        · rw [if_neg hge] at hsc
          refine az_if_eqN (tgt := 63) dX7_descend_55 (fun c55 => ?_) (fun c55 => ?_)
          · refine az_iconst (v := (-1)) dX7_descend_63 ?_
            refine az_istore (ls' := [(0, .ref s), (1, .ref a), (2, .ref o1), (3, .ref o2), (4, .long (lN k0)), (6, .int ((-1))), (7, .int (nI i)), (8, .int (nI (ln_st w i)))]) dX7_descend_64 ?_
            refine az_iincN (n := 1) (ls' := [(0, .ref s), (1, .ref a), (2, .ref o1), (3, .ref o2), (4, .long (lN k0)), (6, .int ((-1))), (7, .int (nI (i + 1))), (8, .int (nI (ln_st w i)))]) dX7_descend_66 ?_
            refine az_goto (tgt := 17) dX7_descend_69 ?_
            refine az_W.keep (ls' := [(0, .ref s), (1, .ref a), (2, .ref o1), (3, .ref o2), (4, .long (lN k0)), (6, .int ((-1))), (7, .int (nI (i + 1)))]) [0, 1, 2, 3, 4, 6, 7] rfl ?_
            first | exact absurd c55 (by decide) | exact absurd rfl c55 | exact found _ (i + 1) (ln_st w i) k9 p9 h' rfl (by omega) hx6 hk9 hsc.symm he | exact ih _ (by omega) (i + 1) _ _ _ rfl (by omega) (by omega) hsc (by rw [he, az_up_up])
          · refine az_iload dX7_descend_58 ?_
            refine az_goto (tgt := 64) dX7_descend_60 ?_
            refine az_istore (ls' := [(0, .ref s), (1, .ref a), (2, .ref o1), (3, .ref o2), (4, .long (lN k0)), (6, .int (nI (ln_st w i))), (7, .int (nI i)), (8, .int (nI (ln_st w i)))]) dX7_descend_64 ?_
            refine az_iincN (n := 1) (ls' := [(0, .ref s), (1, .ref a), (2, .ref o1), (3, .ref o2), (4, .long (lN k0)), (6, .int (nI (ln_st w i))), (7, .int (nI (i + 1))), (8, .int (nI (ln_st w i)))]) dX7_descend_66 ?_
            refine az_goto (tgt := 17) dX7_descend_69 ?_
            refine az_W.keep (ls' := [(0, .ref s), (1, .ref a), (2, .ref o1), (3, .ref o2), (4, .long (lN k0)), (6, .int (nI (ln_st w i))), (7, .int (nI (i + 1)))]) [0, 1, 2, 3, 4, 6, 7] rfl ?_
            first | exact absurd c55 (by decide) | exact absurd rfl c55 | exact found _ (i + 1) (ln_st w i) k9 p9 h' rfl (by omega) hx6 hk9 hsc.symm he | exact ih _ (by omega) (i + 1) _ _ _ rfl (by omega) (by omega) hsc (by rw [he, az_up_up])
  refine az_M.of rfl (Nat.le_of_ble_eq_true rfl) ?_
  show az_W _ _ _ _ 0 [(0, .ref s), (1, .ref a), (2, .ref o1), (3, .ref o2), (4, .long (lN k0))] [] _ _
  refine az_aload_n dX7_descend_0 ?_
  refine az_lload dX7_descend_1 ?_
  refine az_putf (fs' := [.ref (s + 1), .ref (s + 2), .long (lN k0), v4]) dX7_descend_3 fl_X7_62 h0 ?_
  refine az_aload_n dX7_descend_6 ?_
  refine az_lconst (v := lN 0) dX7_descend_7 ?_
  refine az_putf (fs' := [.ref (s + 1), .ref (s + 2), .long (lN k0), .long (lN 0)]) dX7_descend_8 fl_X7_26 az_up_eq ?_
  rw [az_up_up]
  refine az_iconst (v := (-1)) dX7_descend_11 ?_
  refine az_istore (ls' := [(0, .ref s), (1, .ref a), (2, .ref o1), (3, .ref o2), (4, .long (lN k0)), (6, .int ((-1)))]) dX7_descend_12 ?_
  refine az_iconst (v := nI 0) dX7_descend_14 ?_
  refine az_istore (ls' := [(0, .ref s), (1, .ref a), (2, .ref o1), (3, .ref o2), (4, .long (lN k0)), (6, .int ((-1))), (7, .int (nI 0))]) dX7_descend_15 ?_
  exact scan _ 0 k0 0 _ rfl (Nat.zero_le _) hk hr1 rfl
