/-! Finder: search whole -/
theorem fd_E_last {w : ln_W} {bs : List Nat} {g : Nat → Nat} {n : Nat} {sG : Nat → Int32} {hN : Nat → Nat} {y s : Nat} (h1 : sG ((bs.length * 6 + y) * 6 + s) = nI (fd_d g n s y)) (h2 : hN ((bs.length * 6 + y) * 6 + s) = fd_h g n s y) : fd_E w bs g n sG hN bs.length y s := by
  refine ⟨?_, ?_⟩
  · rw [h1, List.drop_length]; rfl
  · have := fd_h_le g n s y
    rw [h2, List.drop_length, show fa_h g n s (ln_run w [] [y]) = fd_h g n s y + 0 from rfl, Nat.add_zero, Nat.min_eq_left (by omega)]
theorem fd_E_cong {w : ln_W} {bs : List Nat} {g : Nat → Nat} {n : Nat} {sG sG' : Nat → Int32} {hN hN' : Nat → Nat} {k y s : Nat} (h : fd_E w bs g n sG hN k y s) (e : sG' ((k * 6 + y) * 6 + s) = sG ((k * 6 + y) * 6 + s) ∧ hN' ((k * 6 + y) * 6 + s) = hN ((k * 6 + y) * 6 + s)) : fd_E w bs g n sG' hN' k y s := by
  unfold fd_E at *
  rw [e.1, e.2]
  exact h
/-- the whole street is searched -/
def fd_T (h : az_Hp) (q : Nat) (w : ln_W) (bs : List Nat) (g : Nat → Nat) (n : Nat) : Prop := ∃ (sG : Nat → Int32) (hN : Nat → Nat), h.2 (q + 3) = some (az_Y 2196 sG) ∧ h.2 (q + 4) = some (az_J 2196 (fun j => lN (hN j))) ∧ ∀ k y s, k ≤ bs.length → y < 6 → s < n → fd_E w bs g n sG hN k y s
set_option maxHeartbeats 4000000 in
set_option maxRecDepth 100000 in
theorem s_search {d q a t n mo ni : Nat} {g : Nat → Nat} {w : ln_W} {bs : List Nat} {v5 v6 : Value} {sG0 : Nat → Int32} {f4 : Nat → Int64} {hp : az_Hp} {Q : Option Value → az_Hp → Prop} (hd : 2 ≤ d) (hw : ln_ok w) (hb : ln_by w bs) (hT : ln_To hp t w q (q + 6)) (hS : ln_Scene hp a t w mo ni bs) (hqa : q + 6 ≤ a ∨ a + 8 ≤ q) (hn1 : 1 ≤ n) (hn6 : n ≤ 6) (hg : ∀ i, i < n → g i < 6) (hW : fd_W hp q n g v5 v6) (h3 : hp.2 (q + 3) = some (az_Y 2196 sG0)) (h4 : hp.2 (q + 4) = some (az_J 2196 f4)) (hQ : ∀ h', fd_T h' q w bs g n → az_fr hp h' (q + 3) (q + 5) → Q none h') : az_M mX0_search d 0 0 [.ref q, .ref a] hp Q := by
  obtain ⟨hi, fr, la, no, wa, nc, g0, -⟩ := id hS
  obtain ⟨f, fb, h0, h1, h2, hf, hfb⟩ := hW
  obtain ⟨hN0, hf9⟩ := lN_ex f4
  subst hf9
  have h60 := hb.1
  have mid : ∀ (k : Nat) (lv x : Nat) (h' : az_Hp) (sG : Nat → Int32) (hN : Nat → Nat) (hlv : lv < bs.length) (hK : ∀ (h' : az_Hp) (sG : Nat → Int32) (hN : Nat → Nat), h'.2 (q + 3) = some (az_Y 2196 sG) → h'.2 (q + 4) = some (az_J 2196 (fun j => lN (hN j))) → az_fr hp h' (q + 3) (q + 5) → (∀ k y s, lv ≤ k → k ≤ bs.length → y < 6 → s < n → fd_E w bs g n sG hN k y s) → az_W mX0_search d 0 0 133 [(0, .ref q), (1, .ref a), (2, .int (nI lv)), (3, .int (nI 6))] [] h' Q), 6 - x = k → (x ≤ 6) → (h'.2 (q + 3) = some (az_Y 2196 sG)) → (h'.2 (q + 4) = some (az_J 2196 (fun j => lN (hN j)))) → (az_fr hp h' (q + 3) (q + 5)) → (∀ k y s, lv + 1 ≤ k → k ≤ bs.length → y < 6 → s < n → fd_E w bs g n sG hN k y s) → (∀ y s, y < x → s < n → fd_E w bs g n sG hN lv y s) → az_W mX0_search d 0 0 114 [(0, .ref q), (1, .ref a), (2, .int (nI lv)), (3, .int (nI x))] [] h' Q := by
    intro k
    induction k using Nat.strongRecOn with
    | _ k ih =>
    intro lv x h' sG hN hlv hK hk hx6 e3 e4 hfr hF hM
    refine az_iload_n dX0_search_114 ?_
    refine az_bipush (v := nI 6) dX0_search_115 ?_
    refine az_icmp_geN (tgt := 133) dX0_search_117 (fun c117 => ?_) (fun c117 => ?_)
    · obtain rfl : x = 6 := by omega
      exact hK h' sG hN e3 e4 hfr (fun k y s q1 q2 q3 q4 => if e : k = lv then (by rw [e]; exact hM y s q3 q4) else hF k y s (by omega) q2 q3 q4)
    · refine az_aload_n dX0_search_120 ?_
      refine az_aload_n dX0_search_121 ?_
      refine az_iload_n dX0_search_122 ?_
      refine az_iload_n dX0_search_123 ?_
      refine az_cV0 (st := []) dX0_search_124 ml_X0_58 (hfr.at h0) (s_searchLetter (d := d - 1) (by omega) hw hb (hT.fr (hfr.wide (lo' := q) (hi' := q + 6))) (ln_Scene.fr hS hfr (by omega)) hqa hn6 (hfr.at h0) (by omega) (x := x) (by omega) e3 e4 (fun k y s q1 => hF k y s (by omega)) ?_)
      intro h2 sG2 hN2 e32 e42 hfr2 hM2 hO2
      refine az_iincN (n := 1) (ls' := [(0, .ref q), (1, .ref a), (2, .int (nI lv)), (3, .int (nI (x + 1)))]) dX0_search_127 ?_
      refine az_goto (tgt := 114) dX0_search_130 ?_
      exact ih _ (by omega) lv (x + 1) h2 sG2 hN2 hlv hK rfl (by omega) e32 e42 (hfr.tr hfr2) (fun k y s q1 q2 q3 q4 => fd_E_cong (hF k y s q1 q2 q3 q4) (hO2 _ (by omega))) (fun y s q1 q2 => if e : y = x then (by rw [e]; exact hM2 s q2) else fd_E_cong (hM y s (by omega) q2) (hO2 _ (by omega)))
  have down : ∀ (k : Nat) (L : Nat) (h' : az_Hp) (sG : Nat → Int32) (hN : Nat → Nat), L = k → (L ≤ bs.length) → (h'.2 (q + 3) = some (az_Y 2196 sG)) → (h'.2 (q + 4) = some (az_J 2196 (fun j => lN (hN j)))) → (az_fr hp h' (q + 3) (q + 5)) → (∀ k y s, L ≤ k → k ≤ bs.length → y < 6 → s < n → fd_E w bs g n sG hN k y s) → az_W mX0_search d 0 0 108 [(0, .ref q), (1, .ref a), (2, .int (nI L - nI 1))] [] h' Q := by
    intro k
    induction k using Nat.strongRecOn with
    | _ k ih =>
    intro L h' sG hN hk hL e3 e4 hfr hF
    refine az_iload_n dX0_search_108 ?_
    refine az_if_lt (tgt := 139) dX0_search_109 (fun c109 => ?_) (fun c109 => ?_)
    · have hl0 : L = 0 := by by_cases q : L = 0; exact q; exact absurd c109 (by rw [nI_subN (by omega)]; exact nI_pos (by omega))
      exact az_vret dX0_search_139 (hQ h' ⟨sG, hN, e3, e4, fun k y s q1 => hF k y s (by omega) q1⟩ hfr)
    · obtain ⟨lv, rfl⟩ : ∃ l, L = l + 1 := ⟨L - 1, by by_cases q : L = 0; rw [q] at c109; exact absurd (by decide) c109; omega⟩
      rw [show nI (lv + 1) - nI 1 = nI lv from nI_subN (by omega)]
      refine az_iconst (v := nI 0) dX0_search_112 ?_
      refine az_istore_n (ls' := [(0, .ref q), (1, .ref a), (2, .int (nI lv)), (3, .int (nI 0))]) dX0_search_113 ?_
      refine mid _ lv 0 h' sG hN (by omega) ?_ rfl (Nat.zero_le _) e3 e4 hfr hF (fun y s q1 => absurd q1 (by omega))
      intro h' sG hN e3 e4 hfr hF
      refine az_iinc (v := nI lv - nI 1) (ls' := [(0, .ref q), (1, .ref a), (2, .int (nI lv - nI 1)), (3, .int (nI 6))]) dX0_search_133 ?_ (hx := (by rw [show Int32.ofInt (-1) = -(nI 1) by decide, Int32.sub_eq_add_neg]))
      refine az_goto (tgt := 108) dX0_search_136 ?_
      refine az_W.keep (ls' := [(0, .ref q), (1, .ref a), (2, .int (nI lv - nI 1))]) [0, 1, 2] rfl ?_
      exact ih _ (by omega) lv h' sG hN rfl (by omega) e3 e4 hfr hF
  have ini : ∀ (k : Nat) (x s : Nat) (h' : az_Hp) (sG : Nat → Int32) (hN : Nat → Nat) (hx6 : x < 6) (hK : ∀ (h' : az_Hp) (sG : Nat → Int32) (hN : Nat → Nat), h'.2 (q + 3) = some (az_Y 2196 sG) → h'.2 (q + 4) = some (az_J 2196 (fun j => lN (hN j))) → az_fr hp h' (q + 3) (q + 5) → (∀ y s, y < x + 1 → s < n → fd_E w bs g n sG hN bs.length y s) → az_W mX0_search d 0 0 95 [(0, .ref q), (1, .ref a), (2, .int (nI x)), (3, .int (nI n))] [] h' Q), n - s = k → (s ≤ n) → (h'.2 (q + 3) = some (az_Y 2196 sG)) → (h'.2 (q + 4) = some (az_J 2196 (fun j => lN (hN j)))) → (az_fr hp h' (q + 3) (q + 5)) → (∀ y s, y < x → s < n → fd_E w bs g n sG hN bs.length y s) → (∀ s9, s9 < s → fd_E w bs g n sG hN bs.length x s9) → az_W mX0_search d 0 0 10 [(0, .ref q), (1, .ref a), (2, .int (nI x)), (3, .int (nI s))] [] h' Q := by
    intro k
    induction k using Nat.strongRecOn with
    | _ k ih =>
    intro x s h' sG hN hx6 hK hk hsn e3 e4 hfr hF hM
    refine az_iload_n dX0_search_10 ?_
    refine az_aload_n dX0_search_11 ?_
    refine az_getf (v := .int (nI n)) dX0_search_12 fl_X0_41 (hfr.at h0) ?_
    refine az_icmp_geN (tgt := 95) dX0_search_15 (fun c15 => ?_) (fun c15 => ?_)
    · obtain rfl : s = n := by omega
      exact hK h' sG hN e3 e4 hfr (fun y s q1 q2 => if e : y = x then (by rw [e]; exact hM s q2) else hF y s (by omega) q2)
    · have hs : s < n := by omega
      refine az_aload_n dX0_search_18 ?_
      refine az_iload_n dX0_search_19 ?_
      refine az_iload_n dX0_search_20 ?_
      refine az_cV0 (st := []) dX0_search_21 ml_X0_46 (hfr.at h0) (s_behind (d := d - 1) (by omega) hn6 (n := n) (s := s) (by omega) (by omega) (hfr.at h0) (hfr.at h1) (hfr.at h2) hg hf (fun i q1 q2 => hfb i q1 (by omega)) ?_)
      have hkp := kp_le g s x (s + 1)
      have hdl := fd_d_lt (g := g) x hs
      have hd2 := fd_d_is (g := g) (x := x) hs
      have hd3 := fd_h_is (g := g) (x := x) hs
      refine az_istore (ls' := [(0, .ref q), (1, .ref a), (2, .int (nI x)), (3, .int (nI s)), (4, .int (nI (kp g s x (s + 1))))]) dX0_search_24 ?_
      have hbn := fb_g_lt (g := g) (m := n) (by omega)
      refine az_aload_n dX0_search_26 ?_
      refine az_getf (v := .int (nI bs.length)) dX0_search_27 fl_X0_49 (hfr.at g0) ?_
      refine az_iload_n dX0_search_30 ?_
      refine az_iload_n dX0_search_31 ?_
      refine az_cS0 (st := []) dX0_search_32 ml_X0_54 (s_cellOf (d := d - 1) (k := bs.length) (x := x) (s := s) (by omega) (by omega) (by omega) ?_)
      refine az_istore (ls' := [(0, .ref q), (1, .ref a), (2, .int (nI x)), (3, .int (nI s)), (4, .int (nI (kp g s x (s + 1)))), (5, .int (nI ((bs.length * 6 + x) * 6 + s)))]) dX0_search_35 ?_
      refine az_aload_n dX0_search_37 ?_
      refine az_getf (v := .ref (q + 3)) dX0_search_38 fl_X0_18 (hfr.at h0) ?_
      refine az_iload dX0_search_41 ?_
      refine az_iload dX0_search_43 ?_
      refine az_aload_n dX0_search_45 ?_
      refine az_getf (v := .int (nI n)) dX0_search_46 fl_X0_41 (hfr.at h0) ?_
      refine az_icmp_neN (tgt := 64) dX0_search_49 (fun c49 => ?_) (fun c49 => ?_)
      · refine az_iload dX0_search_64 ?_
        refine az_i2b dX0_search_66 ?_
        first | rw [show (nI (kp g s x (s + 1))).toInt8.toInt32 = nI (fd_d g n s x) by (rw [byte6 (by omega), ← hd2, if_neg (by omega)])] | rw [byte6 (by omega)]
        refine az_bastN (j := (bs.length * 6 + x) * 6 + s) dX0_search_67 e3 ?_
        rw [byte6 (by omega)]
        refine az_aload_n dX0_search_68 ?_
        refine az_getf (v := .ref (q + 4)) dX0_search_69 fl_X0_22 (az_up_ne (hfr.at h0)) ?_
        refine az_iload dX0_search_72 ?_
        refine az_iload dX0_search_74 ?_
        refine az_aload_n dX0_search_76 ?_
        refine az_getf (v := .int (nI n)) dX0_search_77 fl_X0_41 (az_up_ne (hfr.at h0)) ?_
        refine az_icmp_neN (tgt := 87) dX0_search_80 (fun c80 => ?_) (fun c80 => ?_)
        · refine az_lconst (v := lN 0) dX0_search_87 ?_
          refine az_lastN (j := (bs.length * 6 + x) * 6 + s) dX0_search_88 (az_up_ne e4) ?_
          rw [az_s_lN]
          refine az_iincN (n := 1) (ls' := [(0, .ref q), (1, .ref a), (2, .int (nI x)), (3, .int (nI (s + 1))), (4, .int (nI (kp g s x (s + 1)))), (5, .int (nI ((bs.length * 6 + x) * 6 + s)))]) dX0_search_89 ?_
          refine az_goto (tgt := 10) dX0_search_92 ?_
          refine az_W.keep (ls' := [(0, .ref q), (1, .ref a), (2, .int (nI x)), (3, .int (nI (s + 1)))]) [0, 1, 2, 3] rfl ?_
          first | exact ih _ (by omega) x (s + 1) _ (az_s sG ((bs.length * 6 + x) * 6 + s) (nI (fd_d g n s x))) (az_s hN ((bs.length * 6 + x) * 6 + s) 0) hx6 hK rfl (by omega) (az_up_ne az_up_eq) az_up_eq hfr.up.up (fun y s9 q1 q2 => fd_E_cong (hF y s9 q1 q2) ⟨az_s_ne (by omega), az_s_ne (by omega)⟩) (fun s9 q1 => if e : s9 = s then (by rw [e]; exact fd_E_last az_s_eq (by rw [az_s_eq, ← hd3, if_neg (by omega)])) else fd_E_cong (hM s9 (by omega)) ⟨az_s_ne (by omega), az_s_ne (by omega)⟩) | exact ih _ (by omega) x (s + 1) _ (az_s sG ((bs.length * 6 + x) * 6 + s) (nI (fd_d g n s x))) (az_s hN ((bs.length * 6 + x) * 6 + s) 1) hx6 hK rfl (by omega) (az_up_ne az_up_eq) az_up_eq hfr.up.up (fun y s9 q1 q2 => fd_E_cong (hF y s9 q1 q2) ⟨az_s_ne (by omega), az_s_ne (by omega)⟩) (fun s9 q1 => if e : s9 = s then (by rw [e]; exact fd_E_last az_s_eq (by rw [az_s_eq, ← hd3, if_pos (by omega)])) else fd_E_cong (hM s9 (by omega)) ⟨az_s_ne (by omega), az_s_ne (by omega)⟩)
        · refine az_lconst (v := lN 1) dX0_search_83 ?_
          refine az_goto (tgt := 88) dX0_search_84 ?_
          refine az_lastN (j := (bs.length * 6 + x) * 6 + s) dX0_search_88 (az_up_ne e4) ?_
          rw [az_s_lN]
          refine az_iincN (n := 1) (ls' := [(0, .ref q), (1, .ref a), (2, .int (nI x)), (3, .int (nI (s + 1))), (4, .int (nI (kp g s x (s + 1)))), (5, .int (nI ((bs.length * 6 + x) * 6 + s)))]) dX0_search_89 ?_
          refine az_goto (tgt := 10) dX0_search_92 ?_
          refine az_W.keep (ls' := [(0, .ref q), (1, .ref a), (2, .int (nI x)), (3, .int (nI (s + 1)))]) [0, 1, 2, 3] rfl ?_
          first | exact ih _ (by omega) x (s + 1) _ (az_s sG ((bs.length * 6 + x) * 6 + s) (nI (fd_d g n s x))) (az_s hN ((bs.length * 6 + x) * 6 + s) 0) hx6 hK rfl (by omega) (az_up_ne az_up_eq) az_up_eq hfr.up.up (fun y s9 q1 q2 => fd_E_cong (hF y s9 q1 q2) ⟨az_s_ne (by omega), az_s_ne (by omega)⟩) (fun s9 q1 => if e : s9 = s then (by rw [e]; exact fd_E_last az_s_eq (by rw [az_s_eq, ← hd3, if_neg (by omega)])) else fd_E_cong (hM s9 (by omega)) ⟨az_s_ne (by omega), az_s_ne (by omega)⟩) | exact ih _ (by omega) x (s + 1) _ (az_s sG ((bs.length * 6 + x) * 6 + s) (nI (fd_d g n s x))) (az_s hN ((bs.length * 6 + x) * 6 + s) 1) hx6 hK rfl (by omega) (az_up_ne az_up_eq) az_up_eq hfr.up.up (fun y s9 q1 q2 => fd_E_cong (hF y s9 q1 q2) ⟨az_s_ne (by omega), az_s_ne (by omega)⟩) (fun s9 q1 => if e : s9 = s then (by rw [e]; exact fd_E_last az_s_eq (by rw [az_s_eq, ← hd3, if_pos (by omega)])) else fd_E_cong (hM s9 (by omega)) ⟨az_s_ne (by omega), az_s_ne (by omega)⟩)
      · refine az_aload_n dX0_search_52 ?_
        refine az_getf (v := .ref (q + 2)) dX0_search_53 fl_X0_15 (hfr.at h0) ?_
        refine az_aload_n dX0_search_56 ?_
        refine az_getf (v := .int (nI n)) dX0_search_57 fl_X0_41 (hfr.at h0) ?_
        refine az_ialdN (j := n) dX0_search_60 (hfr.at h2) ?_
        rw [hfb n (by omega) (Nat.le_refl _), show fbk g n = fd_d g n s x by rw [← hd2, if_pos (by omega)]]
        refine az_goto (tgt := 66) dX0_search_61 ?_
        refine az_i2b dX0_search_66 ?_
        first | rw [show (nI (kp g s x (s + 1))).toInt8.toInt32 = nI (fd_d g n s x) by (rw [byte6 (by omega), ← hd2, if_neg (by omega)])] | rw [byte6 (by omega)]
        refine az_bastN (j := (bs.length * 6 + x) * 6 + s) dX0_search_67 e3 ?_
        rw [byte6 (by omega)]
        refine az_aload_n dX0_search_68 ?_
        refine az_getf (v := .ref (q + 4)) dX0_search_69 fl_X0_22 (az_up_ne (hfr.at h0)) ?_
        refine az_iload dX0_search_72 ?_
        refine az_iload dX0_search_74 ?_
        refine az_aload_n dX0_search_76 ?_
        refine az_getf (v := .int (nI n)) dX0_search_77 fl_X0_41 (az_up_ne (hfr.at h0)) ?_
        refine az_icmp_neN (tgt := 87) dX0_search_80 (fun c80 => ?_) (fun c80 => ?_)
        · refine az_lconst (v := lN 0) dX0_search_87 ?_
          refine az_lastN (j := (bs.length * 6 + x) * 6 + s) dX0_search_88 (az_up_ne e4) ?_
          rw [az_s_lN]
          refine az_iincN (n := 1) (ls' := [(0, .ref q), (1, .ref a), (2, .int (nI x)), (3, .int (nI (s + 1))), (4, .int (nI (kp g s x (s + 1)))), (5, .int (nI ((bs.length * 6 + x) * 6 + s)))]) dX0_search_89 ?_
          refine az_goto (tgt := 10) dX0_search_92 ?_
          refine az_W.keep (ls' := [(0, .ref q), (1, .ref a), (2, .int (nI x)), (3, .int (nI (s + 1)))]) [0, 1, 2, 3] rfl ?_
          first | exact ih _ (by omega) x (s + 1) _ (az_s sG ((bs.length * 6 + x) * 6 + s) (nI (fd_d g n s x))) (az_s hN ((bs.length * 6 + x) * 6 + s) 0) hx6 hK rfl (by omega) (az_up_ne az_up_eq) az_up_eq hfr.up.up (fun y s9 q1 q2 => fd_E_cong (hF y s9 q1 q2) ⟨az_s_ne (by omega), az_s_ne (by omega)⟩) (fun s9 q1 => if e : s9 = s then (by rw [e]; exact fd_E_last az_s_eq (by rw [az_s_eq, ← hd3, if_neg (by omega)])) else fd_E_cong (hM s9 (by omega)) ⟨az_s_ne (by omega), az_s_ne (by omega)⟩) | exact ih _ (by omega) x (s + 1) _ (az_s sG ((bs.length * 6 + x) * 6 + s) (nI (fd_d g n s x))) (az_s hN ((bs.length * 6 + x) * 6 + s) 1) hx6 hK rfl (by omega) (az_up_ne az_up_eq) az_up_eq hfr.up.up (fun y s9 q1 q2 => fd_E_cong (hF y s9 q1 q2) ⟨az_s_ne (by omega), az_s_ne (by omega)⟩) (fun s9 q1 => if e : s9 = s then (by rw [e]; exact fd_E_last az_s_eq (by rw [az_s_eq, ← hd3, if_pos (by omega)])) else fd_E_cong (hM s9 (by omega)) ⟨az_s_ne (by omega), az_s_ne (by omega)⟩)
        · refine az_lconst (v := lN 1) dX0_search_83 ?_
          refine az_goto (tgt := 88) dX0_search_84 ?_
          refine az_lastN (j := (bs.length * 6 + x) * 6 + s) dX0_search_88 (az_up_ne e4) ?_
          rw [az_s_lN]
          refine az_iincN (n := 1) (ls' := [(0, .ref q), (1, .ref a), (2, .int (nI x)), (3, .int (nI (s + 1))), (4, .int (nI (kp g s x (s + 1)))), (5, .int (nI ((bs.length * 6 + x) * 6 + s)))]) dX0_search_89 ?_
          refine az_goto (tgt := 10) dX0_search_92 ?_
          refine az_W.keep (ls' := [(0, .ref q), (1, .ref a), (2, .int (nI x)), (3, .int (nI (s + 1)))]) [0, 1, 2, 3] rfl ?_
          first | exact ih _ (by omega) x (s + 1) _ (az_s sG ((bs.length * 6 + x) * 6 + s) (nI (fd_d g n s x))) (az_s hN ((bs.length * 6 + x) * 6 + s) 0) hx6 hK rfl (by omega) (az_up_ne az_up_eq) az_up_eq hfr.up.up (fun y s9 q1 q2 => fd_E_cong (hF y s9 q1 q2) ⟨az_s_ne (by omega), az_s_ne (by omega)⟩) (fun s9 q1 => if e : s9 = s then (by rw [e]; exact fd_E_last az_s_eq (by rw [az_s_eq, ← hd3, if_neg (by omega)])) else fd_E_cong (hM s9 (by omega)) ⟨az_s_ne (by omega), az_s_ne (by omega)⟩) | exact ih _ (by omega) x (s + 1) _ (az_s sG ((bs.length * 6 + x) * 6 + s) (nI (fd_d g n s x))) (az_s hN ((bs.length * 6 + x) * 6 + s) 1) hx6 hK rfl (by omega) (az_up_ne az_up_eq) az_up_eq hfr.up.up (fun y s9 q1 q2 => fd_E_cong (hF y s9 q1 q2) ⟨az_s_ne (by omega), az_s_ne (by omega)⟩) (fun s9 q1 => if e : s9 = s then (by rw [e]; exact fd_E_last az_s_eq (by rw [az_s_eq, ← hd3, if_pos (by omega)])) else fd_E_cong (hM s9 (by omega)) ⟨az_s_ne (by omega), az_s_ne (by omega)⟩)
  have out : ∀ (k : Nat) (x : Nat) (h' : az_Hp) (sG : Nat → Int32) (hN : Nat → Nat), 6 - x = k → (x ≤ 6) → (h'.2 (q + 3) = some (az_Y 2196 sG)) → (h'.2 (q + 4) = some (az_J 2196 (fun j => lN (hN j)))) → (az_fr hp h' (q + 3) (q + 5)) → (∀ y s, y < x → s < n → fd_E w bs g n sG hN bs.length y s) → az_W mX0_search d 0 0 2 [(0, .ref q), (1, .ref a), (2, .int (nI x))] [] h' Q := by
    intro k
    induction k using Nat.strongRecOn with
    | _ k ih =>
    intro x h' sG hN hk hx6 e3 e4 hfr hF
    refine az_iload_n dX0_search_2 ?_
    refine az_bipush (v := nI 6) dX0_search_3 ?_
    refine az_icmp_geN (tgt := 101) dX0_search_5 (fun c5 => ?_) (fun c5 => ?_)
    · refine az_aload_n dX0_search_101 ?_
      refine az_getf (v := .int (nI bs.length)) dX0_search_102 fl_X0_49 (hfr.at g0) ?_
      refine az_iconst (v := nI 1) dX0_search_105 ?_
      refine az_isub dX0_search_106 ?_
      refine az_istore_n (ls' := [(0, .ref q), (1, .ref a), (2, .int ((nI bs.length) - (nI 1)))]) dX0_search_107 ?_
      exact down _ bs.length h' sG hN rfl (Nat.le_refl _) e3 e4 hfr (fun k y s q1 q2 q3 q4 => (by rw [show k = bs.length by omega]; exact hF y s (by omega) q4))
    · refine az_iconst (v := nI 0) dX0_search_8 ?_
      refine az_istore_n (ls' := [(0, .ref q), (1, .ref a), (2, .int (nI x)), (3, .int (nI 0))]) dX0_search_9 ?_
      refine ini _ x 0 h' sG hN (by omega) ?_ rfl (Nat.zero_le _) e3 e4 hfr hF (fun s9 q1 => absurd q1 (by omega))
      intro h' sG hN e3 e4 hfr hF
      refine az_iincN (n := 1) (ls' := [(0, .ref q), (1, .ref a), (2, .int (nI (x + 1))), (3, .int (nI n))]) dX0_search_95 ?_
      refine az_goto (tgt := 2) dX0_search_98 ?_
      refine az_W.keep (ls' := [(0, .ref q), (1, .ref a), (2, .int (nI (x + 1)))]) [0, 1, 2] rfl ?_
      exact ih _ (by omega) (x + 1) h' sG hN rfl (by omega) e3 e4 hfr hF
  refine az_M.of rfl (Nat.le_of_ble_eq_true rfl) ?_
  show az_W _ _ _ _ 0 [(0, .ref q), (1, .ref a)] [] _ _
  refine az_iconst (v := nI 0) dX0_search_0 ?_
  refine az_istore_n (ls' := [(0, .ref q), (1, .ref a), (2, .int (nI 0))]) dX0_search_1 ?_
  exact out _ 0 hp sG0 hN0 rfl (Nat.zero_le _) h3 h4 az_fr.rf (fun y s q1 => absurd q1 (by omega))
