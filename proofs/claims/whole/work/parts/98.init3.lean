/-! The class's constructor -/
def cs_0 : cs_S := ((0, fun _ => 0), (0, (-1)), rd_v0, (0, 0, []), [], fun _ => none, fun _ => none)
theorem rd_good_0 : rd_good rd_v0 := by
  refine ⟨⟨Nat.le_refl 1, by decide, by decide, Nat.le_refl 1, by decide, fun j => (by decide : (0 : Nat) < 6), fun j => ?_, fun j => ?_, Nat.zero_le _, Nat.zero_le _⟩, ⟨rfl, fun i hi => absurd hi (Nat.not_lt_zero _), Or.inl rfl⟩, ⟨rfl, fun i hi => absurd hi (Nat.not_lt_zero _), Or.inl rfl⟩⟩
  · show (if j < 18 then 1 else 0) ≤ 4
    split <;> omega
  · show (if j % 4 = 0 ∧ j / 4 < 18 then j / 4 % 6 else 0) < 6
    split <;> omega
theorem ln_by_new {w : ln_W} (hw : ln_ok w) : ln_by w [] := by
  refine ⟨Nat.zero_le _, fun b hb => absurd hb (by simp), ?_⟩
  show (ln_word w).length ≤ _
  rw [ln_word, List.length_map, List.length_range]
  have := hw.2.2.2.2.1
  omega
theorem cs_0_ok : cs_ok cs_0 := ⟨Nat.zero_le _, fun _ => (by decide : (0 : Nat) < 256), rd_good_0, (fun k => (by rw [show (cs_0.2.2.2.1.2.2).take k = [] from List.take_nil]; exact ln_by_new rd_good_0.1)), Nat.zero_le _, ⟨fun u hu => absurd hu (by simp [cs_0]), List.Pairwise.nil⟩, fun i v z _ h => by cases h⟩
theorem ln_Scene.eqv {h h' : az_Hp} {a t mo ni : Nat} {w : ln_W} {bs : List Nat} (H : ln_Scene h a t w mo ni bs) (hf : ∀ z, a ≤ z → z < a + 8 → h'.2 z = h.2 z) : ln_Scene h' a t w mo ni bs := by
  obtain ⟨hi', fr, la, no, wa, nc, q0, q1, q2, u2, q3, u3, q4, u4, q5, q6, q7⟩ := H
  exact ⟨hi', fr, la, no, wa, nc, (hf _ (by omega) (by omega)).trans q0, (hf _ (by omega) (by omega)).trans q1, (hf _ (by omega) (by omega)).trans q2, u2, (hf _ (by omega) (by omega)).trans q3, u3, (hf _ (by omega) (by omega)).trans q4, u4, (hf _ (by omega) (by omega)).trans q5, (hf _ (by omega) (by omega)).trans q6, (hf _ (by omega) (by omega)).trans q7⟩
theorem ln_Scene.q {h : az_Hp} {a t mo ni : Nat} {w : ln_W} {bs : List Nat} (H : ln_Scene h a t w mo ni bs) : ∃ (t0 : Nat) (v1 v2 v3 v4 v5 : Value) (c : Nat → Int64) (c2 c3 c4 : Nat → Int32), sc_Q h a t0 v1 v2 v3 v4 v5 c c2 c3 c4 := by
  obtain ⟨hi', fr, la, no, wa, nc, q0, q1, q2, u2, q3, u3, q4, u4, q5, q6, q7⟩ := H
  exact ⟨t, _, _, _, _, _, _, hi', fr, la, no, wa, nc, q0, q1, q2, q3, q4, q5, q6, q7⟩
theorem fu_U.eqv {h h' : az_Hp} {u K : Nat} (H : fu_U h u (u + 5) (u + 6) K) (hf : ∀ z, u ≤ z → z < u + 10 → h'.2 z = h.2 z) : fu_U h' u (u + 5) (u + 6) K := by
  obtain ⟨t0, tl, wn, wx, S, f, r, s, a, b, L, g0, g1, g2, g3, ta, pr, g4, g5, k9⟩ := H
  have hp := pr.b
  exact ⟨t0, tl, wn, wx, S, f, r, s, a, b, L, (hf _ (by omega) (by omega)).trans g0, (hf _ (by omega) (by omega)).trans g1, (hf _ (by omega) (by omega)).trans g2, (hf _ (by omega) (by omega)).trans g3, ta.eqv (hf _ (by omega) (by omega)) (hf _ (by omega) (by omega)) (hf _ (by omega) (by omega)) (hf _ (by omega) (by omega)), pr, (hf _ (by omega) (by omega)).trans g4, (hf _ (by omega) (by omega)).trans g5, k9⟩
set_option maxHeartbeats 4000000 in
set_option maxRecDepth 100000 in
theorem s_initTrays {d rc rs : Nat} {f9 : Nat → Option az_C} {Q : Option Value → az_Hp → Prop} (hd : 4 ≤ d) (hrc : 8 ≤ rc) (hrs : 172 ≤ rs) (h0 : f9 0 = some (az_O 10 [.ref 1, .int 0, .ref 2, .ref 30, .ref 38, .ref 6, .ref 10, .ref 11, .ref 12, .ref 15, .ref 21, .ref 46])) (h11 : f9 11 = some (az_Q RX10 4 (fun _ => .null))) (hQ : ∀ (f' : Nat → Option az_C) (g : Nat → Value), f' 0 = some (az_O 10 [.ref 1, .int 0, .ref 2, .ref 30, .ref 38, .ref 6, .ref 10, .ref 11, .ref 12, .ref 15, .ref 21, .ref 46]) → f' 11 = some (az_Q RX10 4 g) → (∀ j, j < 4 → g j = .ref (56 + 2 * j)) → (∀ j, j < 4 → ln_Tray ((64, f') : az_Hp) (56 + 2 * j) none) → (∀ z, z ≠ 11 → z < 56 → f' z = f9 z) → Q none ((64, f') : az_Hp)) : az_W mX11_init d rc rs 130 [(0, .ref 0), (2, .int (nI 0))] [] ((56, f9) : az_Hp) Q := by
  have loop : ∀ (k : Nat) (rc9 rs9 i : Nat) (g : Nat → Value) (f' : Nat → Option az_C), 4 - i = k → (i ≤ 4) → (f' 0 = some (az_O 10 [.ref 1, .int 0, .ref 2, .ref 30, .ref 38, .ref 6, .ref 10, .ref 11, .ref 12, .ref 15, .ref 21, .ref 46])) → (f' 11 = some (az_Q RX10 4 g)) → (∀ j, j < i → g j = .ref (56 + 2 * j)) → (∀ j, j < i → ln_Tray ((64, f') : az_Hp) (56 + 2 * j) none) → (∀ z, z ≠ 11 → z < 56 → f' z = f9 z) → (8 - 2 * i ≤ rc9) → (172 - 43 * i ≤ rs9) → az_W mX11_init d rc9 rs9 130 [(0, .ref 0), (2, .int (nI i))] [] ((56 + 2 * i, f') : az_Hp) Q := by
    intro k
    induction k using Nat.strongRecOn with
    | _ k ih =>
    intro rc9 rs9 i g f' hk hi9 e0 e11 hg htr hkz hrc9 hrs9
    refine az_iload_n dX11_init_130 ?_
    refine az_iconst (v := nI 4) dX11_init_131 ?_
    refine az_icmp_geN (tgt := 154) dX11_init_132 (fun c132 => ?_) (fun c132 => ?_)
    · exact az_vret dX11_init_154 (by obtain rfl : i = 4 := (by omega); exact hQ f' g e0 e11 hg htr hkz)
    · refine az_aload_n dX11_init_135 ?_
      refine az_getf (v := .ref 11) dX11_init_136 fl_X11_35 e0 ?_
      refine az_iload_n dX11_init_139 ?_
      refine az_newK (k := 3) dX11_init_140 nw_X11_33 ?_
      show az_W _ _ _ _ 143 [(0, .ref 0), (2, .int (nI i))] [.ref (56 + 2 * i), .int (nI i), .ref 11] _ _
      refine az_dup dX11_init_143 ?_
      have hk1 : ∀ z, z ≠ 56 + 2 * i → (az_nw ((56 + 2 * i, f') : az_Hp) (az_O 9 [.int 0, .int 0, .null])).2 z = f' z := (fun z hz => (by rw [az_nw_neN (N := 56 + 2 * i) rfl]))
      refine az_cN (st := [.ref (56 + 2 * i), .int (nI i), .ref 11]) dX11_init_144 ml_X11_80 rfl (s_initTray (d := d - 1) (t := 56 + 2 * i) (by omega) az_nw_eqN ?_)
      intro h2 v1 v2 v3 v4
      obtain ⟨nn, f2⟩ := h2
      obtain rfl : nn = 56 + 2 * i + 2 := v1
      have hk2 : ∀ z, z < 56 + 2 * i → f2 z = f' z := (fun z hz => (show f2 z = (az_nw ((56 + 2 * i, f') : az_Hp) (az_O 9 [.int 0, .int 0, .null])).2 z from v2 z hz).trans (hk1 z (by omega)))
      refine az_aast (r := (RX10, TX10, 3)) (ci := 9) (j := i) dX11_init_147 ((hk2 11 (by omega)).trans e11) v3 rfl (az_ix_nI (by omega)) (by omega) ?_
      refine az_iincN (n := 1) (ls' := [(0, .ref 0), (2, .int (nI (i + 1)))]) dX11_init_148 ?_
      refine az_goto (tgt := 130) dX11_init_151 ?_
      exact ih _ (by omega) _ _ (i + 1) (az_s g i (.ref (56 + 2 * i))) ((az_up ((56 + 2 * i + 2, f2) : az_Hp) 11 (az_Q RX10 4 (az_s g i (.ref (56 + 2 * i))))).2) rfl (by omega) (az_up_ne ((hk2 0 (by omega)).trans e0)) az_up_eq (fun j hj => if e : j = i then (by rw [e, az_s_eq]) else (by rw [az_s_ne e]; exact hg j (by omega))) (fun j hj => if e : j = i then (by rw [e]; exact ⟨0, fun _ => lN 0, az_up_ne v3, az_up_ne v4⟩) else ((htr j (by omega)).eqv ((az_up_ne rfl).trans (hk2 _ (by omega))) ((az_up_ne rfl).trans (hk2 _ (by omega))))) (fun z u1 u2 => (az_up_ne rfl).trans ((hk2 z (by omega)).trans (hkz z u1 u2))) (by omega) (by omega)
  exact loop _ rc rs 0 _ f9 rfl (Nat.zero_le _) h0 h11 (fun j hj => absurd hj (by omega)) (fun j hj => absurd hj (by omega)) (fun z _ _ => rfl) hrc hrs
set_option maxHeartbeats 16000000 in
set_option maxRecDepth 100000 in
theorem s_initClass {d : Nat} {f9 : Nat → Option az_C} {Q : Option Value → az_Hp → Prop} (hd : 8 ≤ d) (h0 : ((1, f9) : az_Hp).2 0 = some (az_O 10 [.null, .int 0, .null, .null, .null, .null, .null, .null, .null, .null, .null, .null])) (hQ : ∀ h' : az_Hp, h'.1 = 64 → (93 ≤ h'.1 + 29 → ∃ F ia, cs_H (93, h'.2) cs_0 24 F ia 51 52 64) → Q none h') : az_M mX11_init d 63 9000 [.ref 0] ((1, f9) : az_Hp) Q := by
  refine az_M.of rfl (Nat.le_of_ble_eq_true rfl) ?_
  show az_W _ _ _ _ 0 [(0, .ref 0)] [] _ _
  refine az_aload_n dX11_init_0 ?_
  refine az_oinit dX11_init_1 ol_X11_1 ?_
  refine az_aload_n dX11_init_4 ?_
  refine az_sipush (v := nI 900) dX11_init_5 ?_
  refine az_newY (n := 900) dX11_init_8 ?_
  show az_W _ _ _ _ 10 [(0, .ref 0)] [.ref 1, .ref 0] _ _
  refine az_putF (fs' := [.ref 1, .int 0, .null, .null, .null, .null, .null, .null, .null, .null, .null, .null]) dX11_init_10 fl_X11_9 (az_nw_neN (N := 1) h0) ?_
  refine az_aload_n dX11_init_13 ?_
  refine az_newK (k := 11) dX11_init_14 nw_X11_13 ?_
  show az_W _ _ _ _ 17 [(0, .ref 0)] [.ref 2, .ref 0] _ _
  refine az_dup dX11_init_17 ?_
  refine az_cN (st := [.ref 2, .ref 0]) dX11_init_18 ml_X11_15 rfl (s_initReader (d := d - 1) (t := 2) (by omega) az_nw_eqN ?_)
  intro hh v1_1 v1_2 v1_3 v1_4 v1_5 v1_6
  obtain ⟨nn, f1⟩ := hh
  obtain rfl : nn = 6 := v1_1
  have k1 : ∀ z, z ≠ 0 → z < 1 → f1 z = ((0, f9) : az_Hp).2 z := (fun z hz0 hz => (show f1 z = (az_nw (az_up (az_nw ((1, f9) : az_Hp) (az_Y 900 (fun _ => nI 0))) 0 (az_O 10 [.ref 1, .int 0, .null, .null, .null, .null, .null, .null, .null, .null, .null, .null])) (az_O 4 [.int 0, .int 0, .null, .int 0, .int 0, .int 0, .int 0, .int 0, .null, .null, .int 0])).2 z from v1_2 z (by omega)).trans (by rw [az_nw_neN (N := 2) rfl, az_up_ne rfl, az_nw_neN (N := 1) rfl]))
  have m1 : f1 1 = some (az_Y 900 (fun _ => nI 0)) := (show f1 1 = (az_nw (az_up (az_nw ((1, f9) : az_Hp) (az_Y 900 (fun _ => nI 0))) 0 (az_O 10 [.ref 1, .int 0, .null, .null, .null, .null, .null, .null, .null, .null, .null, .null])) (az_O 4 [.int 0, .int 0, .null, .int 0, .int 0, .int 0, .int 0, .int 0, .null, .null, .int 0])).2 1 from v1_2 1 (by omega)).trans (az_nw_neN (N := 2) (az_up_ne az_nw_eqN))
  refine az_putF (fs' := [.ref 1, .int 0, .ref 2, .null, .null, .null, .null, .null, .null, .null, .null, .null]) dX11_init_21 fl_X11_16 ((show f1 0 = (az_nw (az_up (az_nw ((1, f9) : az_Hp) (az_Y 900 (fun _ => nI 0))) 0 (az_O 10 [.ref 1, .int 0, .null, .null, .null, .null, .null, .null, .null, .null, .null, .null])) (az_O 4 [.int 0, .int 0, .null, .int 0, .int 0, .int 0, .int 0, .int 0, .null, .null, .int 0])).2 0 from v1_2 0 (by omega)).trans (az_nw_neN (N := 2) az_up_eq)) ?_
  refine az_aload_n dX11_init_24 ?_
  refine az_newK (k := 4) dX11_init_25 nw_X11_20 ?_
  show az_W _ _ _ _ 28 [(0, .ref 0)] [.ref 6, .ref 0] _ _
  refine az_dup dX11_init_28 ?_
  refine az_cN (st := [.ref 6, .ref 0]) dX11_init_29 ml_X11_22 rfl (s_initPast (d := d - 1) (t := 6) (by omega) az_nw_eqN ?_)
  intro hh v2_1 v2_2 v2_3 v2_4 v2_5 v2_6
  obtain ⟨nn, f2⟩ := hh
  obtain rfl : nn = 10 := v2_1
  have k2 : ∀ z, z ≠ 0 → z < 6 → f2 z = ((0, f1) : az_Hp).2 z := (fun z hz0 hz => (show f2 z = (az_nw (az_up ((6, f1) : az_Hp) 0 (az_O 10 [.ref 1, .int 0, .ref 2, .null, .null, .null, .null, .null, .null, .null, .null, .null])) (az_O 3 [.int 0, .null, .null, .null])).2 z from v2_2 z (by omega)).trans (by rw [az_nw_neN (N := 6) rfl, az_up_ne rfl]))
  refine az_putF (fs' := [.ref 1, .int 0, .ref 2, .null, .null, .ref 6, .null, .null, .null, .null, .null, .null]) dX11_init_32 fl_X11_23 ((show f2 0 = (az_nw (az_up ((6, f1) : az_Hp) 0 (az_O 10 [.ref 1, .int 0, .ref 2, .null, .null, .null, .null, .null, .null, .null, .null, .null])) (az_O 3 [.int 0, .null, .null, .null])).2 0 from v2_2 0 (by omega)).trans (az_nw_neN (N := 6) az_up_eq)) ?_
  refine az_aload_n dX11_init_35 ?_
  refine az_iconst (v := nI 2) dX11_init_36 ?_
  refine az_anew (ci := 0) (r := (RX6, TX6, 13)) (n := 2) dX11_init_37 ck_X11_27 (by first | exact Or.inl rfl | exact Or.inr rfl) (az_ixN (by omega)) (by omega) (by omega) (by omega) ?_
  show az_W _ _ _ _ 40 [(0, .ref 0)] [.ref 10, .ref 0] _ _
  refine az_putF (fs' := [.ref 1, .int 0, .ref 2, .null, .null, .ref 6, .ref 10, .null, .null, .null, .null, .null]) dX11_init_40 fl_X11_29 (az_nw_neN (N := 10) az_up_eq) ?_
  refine az_aload_n dX11_init_43 ?_
  refine az_iconst (v := nI 4) dX11_init_44 ?_
  refine az_anew (ci := 0) (r := (RX10, TX10, 3)) (n := 4) dX11_init_45 ck_X11_33 (by first | exact Or.inl rfl | exact Or.inr rfl) (az_ixN (by omega)) (by omega) (by omega) (by omega) ?_
  show az_W _ _ _ _ 48 [(0, .ref 0)] [.ref 11, .ref 0] _ _
  refine az_putF (fs' := [.ref 1, .int 0, .ref 2, .null, .null, .ref 6, .ref 10, .ref 11, .null, .null, .null, .null]) dX11_init_48 fl_X11_35 (az_nw_neN (N := 11) az_up_eq) ?_
  refine az_aload_n dX11_init_51 ?_
  refine az_newK (k := 4) dX11_init_52 nw_X11_39 ?_
  show az_W _ _ _ _ 55 [(0, .ref 0)] [.ref 12, .ref 0] _ _
  refine az_dup dX11_init_55 ?_
  refine az_cN (st := [.ref 12, .ref 0]) dX11_init_56 ml_X11_41 rfl (s_initSurvey (d := d - 1) (t := 12) (by omega) az_nw_eqN ?_)
  intro hh v3_1 v3_2 v3_3 v3_4 v3_5
  obtain ⟨nn, f3⟩ := hh
  obtain rfl : nn = 15 := v3_1
  have k3 : ∀ z, z ≠ 0 → z < 10 → f3 z = ((0, f2) : az_Hp).2 z := (fun z hz0 hz => (show f3 z = (az_nw (az_up (az_nw (az_up (az_nw (az_up ((10, f2) : az_Hp) 0 (az_O 10 [.ref 1, .int 0, .ref 2, .null, .null, .ref 6, .null, .null, .null, .null, .null, .null])) (az_Q RX6 2 (fun _ => .null))) 0 (az_O 10 [.ref 1, .int 0, .ref 2, .null, .null, .ref 6, .ref 10, .null, .null, .null, .null, .null])) (az_Q RX10 4 (fun _ => .null))) 0 (az_O 10 [.ref 1, .int 0, .ref 2, .null, .null, .ref 6, .ref 10, .ref 11, .null, .null, .null, .null])) (az_O 6 [.null, .null, .long 0, .long 0])).2 z from v3_2 z (by omega)).trans (by rw [az_nw_neN (N := 12) rfl, az_up_ne rfl, az_nw_neN (N := 11) rfl, az_up_ne rfl, az_nw_neN (N := 10) rfl, az_up_ne rfl]))
  have m10 : f3 10 = some (az_Q RX6 2 (fun _ => .null)) := (show f3 10 = (az_nw (az_up (az_nw (az_up (az_nw (az_up ((10, f2) : az_Hp) 0 (az_O 10 [.ref 1, .int 0, .ref 2, .null, .null, .ref 6, .null, .null, .null, .null, .null, .null])) (az_Q RX6 2 (fun _ => .null))) 0 (az_O 10 [.ref 1, .int 0, .ref 2, .null, .null, .ref 6, .ref 10, .null, .null, .null, .null, .null])) (az_Q RX10 4 (fun _ => .null))) 0 (az_O 10 [.ref 1, .int 0, .ref 2, .null, .null, .ref 6, .ref 10, .ref 11, .null, .null, .null, .null])) (az_O 6 [.null, .null, .long 0, .long 0])).2 10 from v3_2 10 (by omega)).trans (az_nw_neN (N := 12) (az_up_ne (az_nw_neN (N := 11) (az_up_ne az_nw_eqN))))
  refine az_putF (fs' := [.ref 1, .int 0, .ref 2, .null, .null, .ref 6, .ref 10, .ref 11, .ref 12, .null, .null, .null]) dX11_init_59 fl_X11_42 ((show f3 0 = (az_nw (az_up (az_nw (az_up (az_nw (az_up ((10, f2) : az_Hp) 0 (az_O 10 [.ref 1, .int 0, .ref 2, .null, .null, .ref 6, .null, .null, .null, .null, .null, .null])) (az_Q RX6 2 (fun _ => .null))) 0 (az_O 10 [.ref 1, .int 0, .ref 2, .null, .null, .ref 6, .ref 10, .null, .null, .null, .null, .null])) (az_Q RX10 4 (fun _ => .null))) 0 (az_O 10 [.ref 1, .int 0, .ref 2, .null, .null, .ref 6, .ref 10, .ref 11, .null, .null, .null, .null])) (az_O 6 [.null, .null, .long 0, .long 0])).2 0 from v3_2 0 (by omega)).trans (az_nw_neN (N := 12) az_up_eq)) ?_
  refine az_aload_n dX11_init_62 ?_
  refine az_newK (k := 8) dX11_init_63 nw_X11_46 ?_
  show az_W _ _ _ _ 66 [(0, .ref 0)] [.ref 15, .ref 0] _ _
  refine az_dup dX11_init_66 ?_
  refine az_cN (st := [.ref 15, .ref 0]) dX11_init_67 ml_X11_48 rfl (s_initFinder (d := d - 1) (t := 15) (by omega) az_nw_eqN ?_)
  intro hh v4_1 v4_2 v4_3 v4_4 v4_5 v4_6 v4_7 v4_8
  obtain ⟨nn, f4⟩ := hh
  obtain rfl : nn = 21 := v4_1
  have k4 : ∀ z, z ≠ 0 → z < 15 → f4 z = ((0, f3) : az_Hp).2 z := (fun z hz0 hz => (show f4 z = (az_nw (az_up ((15, f3) : az_Hp) 0 (az_O 10 [.ref 1, .int 0, .ref 2, .null, .null, .ref 6, .ref 10, .ref 11, .ref 12, .null, .null, .null])) (az_O 0 [.null, .int 0, .null, .null, .null, .int 0, .long 0, .null])).2 z from v4_2 z (by omega)).trans (by rw [az_nw_neN (N := 15) rfl, az_up_ne rfl]))
  refine az_putF (fs' := [.ref 1, .int 0, .ref 2, .null, .null, .ref 6, .ref 10, .ref 11, .ref 12, .ref 15, .null, .null]) dX11_init_70 fl_X11_49 ((show f4 0 = (az_nw (az_up ((15, f3) : az_Hp) 0 (az_O 10 [.ref 1, .int 0, .ref 2, .null, .null, .ref 6, .ref 10, .ref 11, .ref 12, .null, .null, .null])) (az_O 0 [.null, .int 0, .null, .null, .null, .int 0, .long 0, .null])).2 0 from v4_2 0 (by omega)).trans (az_nw_neN (N := 15) az_up_eq)) ?_
  refine az_aload_n dX11_init_73 ?_
  refine az_newK (k := 2) dX11_init_74 nw_X11_53 ?_
  show az_W _ _ _ _ 77 [(0, .ref 0)] [.ref 21, .ref 0] _ _
  refine az_dup dX11_init_77 ?_
  refine az_cN (st := [.ref 21, .ref 0]) dX11_init_78 ml_X11_55 rfl (s_initKin (d := d - 1) (t := 21) (by omega) az_nw_eqN ?_)
  intro hh v5_1 v5_2 v5_3 v5_4 v5_5
  obtain ⟨nn, f5⟩ := hh
  obtain rfl : nn = 24 := v5_1
  have k5 : ∀ z, z ≠ 0 → z < 21 → f5 z = ((0, f4) : az_Hp).2 z := (fun z hz0 hz => (show f5 z = (az_nw (az_up ((21, f4) : az_Hp) 0 (az_O 10 [.ref 1, .int 0, .ref 2, .null, .null, .ref 6, .ref 10, .ref 11, .ref 12, .ref 15, .null, .null])) (az_O 2 [.null, .null])).2 z from v5_2 z (by omega)).trans (by rw [az_nw_neN (N := 21) rfl, az_up_ne rfl]))
  refine az_putF (fs' := [.ref 1, .int 0, .ref 2, .null, .null, .ref 6, .ref 10, .ref 11, .ref 12, .ref 15, .ref 21, .null]) dX11_init_81 fl_X11_56 ((show f5 0 = (az_nw (az_up ((21, f4) : az_Hp) 0 (az_O 10 [.ref 1, .int 0, .ref 2, .null, .null, .ref 6, .ref 10, .ref 11, .ref 12, .ref 15, .null, .null])) (az_O 2 [.null, .null])).2 0 from v5_2 0 (by omega)).trans (az_nw_neN (N := 21) az_up_eq)) ?_
  refine az_newK (k := 9) dX11_init_84 nw_X11_60 ?_
  show az_W _ _ _ _ 87 [(0, .ref 0)] [.ref 24] _ _
  refine az_dup dX11_init_87 ?_
  refine az_cI (st := [.ref 24]) dX11_init_88 ml_X11_62 rfl (s_initTown (d := d - 1) (t := 24) (by omega) az_nw_eqN ?_)
  intro hh v6_1 v6_2 v6_3 v6_4 v6_5 v6_6 v6_7 v6_8
  obtain ⟨nn, f6⟩ := hh
  obtain rfl : nn = 30 := v6_1
  have k6 : ∀ z, z ≠ 0 → z < 24 → f6 z = ((0, f5) : az_Hp).2 z := (fun z hz0 hz => (show f6 z = (az_nw (az_up ((24, f5) : az_Hp) 0 (az_O 10 [.ref 1, .int 0, .ref 2, .null, .null, .ref 6, .ref 10, .ref 11, .ref 12, .ref 15, .ref 21, .null])) (az_O 8 [.int 0, .int 0, .int 0, .int 0, .null, .null, .null, .null, .null])).2 z from v6_2 z (by omega)).trans (by rw [az_nw_neN (N := 24) rfl, az_up_ne rfl]))
  have hT6 : ∀ (h : az_Hp) (lo hi : Nat), 30 ≤ lo → (∀ z, 24 ≤ z → z < 30 → h.2 z = f6 z) → ln_To h 24 (rd_w rd_v0) lo hi := (fun h lo hi hl hk => ⟨28, 29, (hk 24 (by omega) (by omega)).trans v6_3, (hk 25 (by omega) (by omega)).trans v6_4, (hk 26 (by omega) (by omega)).trans v6_5, (hk 27 (by omega) (by omega)).trans v6_6, (hk 28 (by omega) (by omega)).trans v6_7, (hk 29 (by omega) (by omega)).trans v6_8, by omega, by omega, by omega⟩)
  refine az_astore_n (ls' := [(0, .ref 0), (1, .ref 24)]) dX11_init_91 ?_
  refine az_aload_n dX11_init_92 ?_
  refine az_newK (k := 13) dX11_init_93 nw_X11_27 ?_
  show az_W _ _ _ _ 96 [(0, .ref 0), (1, .ref 24)] [.ref 30, .ref 0] _ _
  refine az_dup dX11_init_96 ?_
  refine az_aload_n dX11_init_97 ?_
  refine az_cI (st := [.ref 30, .ref 0]) dX11_init_98 ml_X11_63 rfl (s_initScene (d := d - 1) (a := 30) (t := 24) (by omega) rd_good_0.1 (hT6 _ _ _ (by omega) (fun z u1 u2 => (show (az_nw ((30, f6) : az_Hp) (az_O 5 [.null, .int 0, .int 0, .int 0, .long 0, .int 0, .null, .null, .null, .null, .null, .null, .null])).2 z = f6 z from (by rw [az_nw_neN (N := 30) rfl])))) az_nw_eqN ?_)
  intro hh v7_1 v7_2 v7_3
  obtain ⟨nn, f7⟩ := hh
  obtain rfl : nn = 38 := v7_1
  have k7 : ∀ z, z ≠ 0 → z < 30 → f7 z = ((0, f6) : az_Hp).2 z := (fun z hz0 hz => (show f7 z = (az_nw ((30, f6) : az_Hp) (az_O 5 [.null, .int 0, .int 0, .int 0, .long 0, .int 0, .null, .null, .null, .null, .null, .null, .null])).2 z from v7_2 z (by omega)).trans (by rw [az_nw_neN (N := 30) rfl]))
  refine az_putF (fs' := [.ref 1, .int 0, .ref 2, .ref 30, .null, .ref 6, .ref 10, .ref 11, .ref 12, .ref 15, .ref 21, .null]) dX11_init_101 fl_X11_66 ((show f7 0 = (az_nw ((30, f6) : az_Hp) (az_O 5 [.null, .int 0, .int 0, .int 0, .long 0, .int 0, .null, .null, .null, .null, .null, .null, .null])).2 0 from v7_2 0 (by omega)).trans (az_nw_neN (N := 30) ((show f6 0 = (az_nw (az_up ((24, f5) : az_Hp) 0 (az_O 10 [.ref 1, .int 0, .ref 2, .null, .null, .ref 6, .ref 10, .ref 11, .ref 12, .ref 15, .ref 21, .null])) (az_O 8 [.int 0, .int 0, .int 0, .int 0, .null, .null, .null, .null, .null])).2 0 from v6_2 0 (by omega)).trans (az_nw_neN (N := 24) az_up_eq)))) ?_
  refine az_aload_n dX11_init_104 ?_
  refine az_newK (k := 13) dX11_init_105 nw_X11_27 ?_
  show az_W _ _ _ _ 108 [(0, .ref 0), (1, .ref 24)] [.ref 38, .ref 0] _ _
  refine az_dup dX11_init_108 ?_
  refine az_aload_n dX11_init_109 ?_
  refine az_cI (st := [.ref 38, .ref 0]) dX11_init_110 ml_X11_63 rfl (s_initScene (d := d - 1) (a := 38) (t := 24) (by omega) rd_good_0.1 (hT6 _ _ _ (by omega) (fun z u1 u2 => (show (az_nw (az_up ((38, f7) : az_Hp) 0 (az_O 10 [.ref 1, .int 0, .ref 2, .ref 30, .null, .ref 6, .ref 10, .ref 11, .ref 12, .ref 15, .ref 21, .null])) (az_O 5 [.null, .int 0, .int 0, .int 0, .long 0, .int 0, .null, .null, .null, .null, .null, .null, .null])).2 z = f6 z from (by rw [az_nw_neN (N := 38) rfl, az_up_ne rfl]; exact k7 z (by omega) (by omega))))) az_nw_eqN ?_)
  intro hh v8_1 v8_2 v8_3
  obtain ⟨nn, f8⟩ := hh
  obtain rfl : nn = 46 := v8_1
  have k8 : ∀ z, z ≠ 0 → z < 38 → f8 z = ((0, f7) : az_Hp).2 z := (fun z hz0 hz => (show f8 z = (az_nw (az_up ((38, f7) : az_Hp) 0 (az_O 10 [.ref 1, .int 0, .ref 2, .ref 30, .null, .ref 6, .ref 10, .ref 11, .ref 12, .ref 15, .ref 21, .null])) (az_O 5 [.null, .int 0, .int 0, .int 0, .long 0, .int 0, .null, .null, .null, .null, .null, .null, .null])).2 z from v8_2 z (by omega)).trans (by rw [az_nw_neN (N := 38) rfl, az_up_ne rfl]))
  refine az_putF (fs' := [.ref 1, .int 0, .ref 2, .ref 30, .ref 38, .ref 6, .ref 10, .ref 11, .ref 12, .ref 15, .ref 21, .null]) dX11_init_113 fl_X11_70 ((show f8 0 = (az_nw (az_up ((38, f7) : az_Hp) 0 (az_O 10 [.ref 1, .int 0, .ref 2, .ref 30, .null, .ref 6, .ref 10, .ref 11, .ref 12, .ref 15, .ref 21, .null])) (az_O 5 [.null, .int 0, .int 0, .int 0, .long 0, .int 0, .null, .null, .null, .null, .null, .null, .null])).2 0 from v8_2 0 (by omega)).trans (az_nw_neN (N := 38) az_up_eq)) ?_
  refine az_aload_n dX11_init_116 ?_
  refine az_newK (k := 8) dX11_init_117 nw_X11_73 ?_
  show az_W _ _ _ _ 120 [(0, .ref 0), (1, .ref 24)] [.ref 46, .ref 0] _ _
  refine az_dup dX11_init_120 ?_
  refine az_aload_n dX11_init_121 ?_
  refine az_cI (st := [.ref 46, .ref 0]) dX11_init_122 ml_X11_75 rfl (s_initFutures (d := d - 1) (u := 46) (by omega) az_nw_eqN ?_)
  intro hh v9_1 v9_2 v9_3
  obtain ⟨nn, f9⟩ := hh
  obtain rfl : nn = 56 := v9_1
  have k9 : ∀ z, z ≠ 0 → z < 46 → f9 z = ((0, f8) : az_Hp).2 z := (fun z hz0 hz => (show f9 z = (az_nw (az_up ((46, f8) : az_Hp) 0 (az_O 10 [.ref 1, .int 0, .ref 2, .ref 30, .ref 38, .ref 6, .ref 10, .ref 11, .ref 12, .ref 15, .ref 21, .null])) (az_O 1 [.null, .null, .null, .null, .null, .int 0, .null, .null])).2 z from v9_2 z (by omega)).trans (by rw [az_nw_neN (N := 46) rfl, az_up_ne rfl]))
  refine az_putF (fs' := [.ref 1, .int 0, .ref 2, .ref 30, .ref 38, .ref 6, .ref 10, .ref 11, .ref 12, .ref 15, .ref 21, .ref 46]) dX11_init_125 fl_X11_76 ((show f9 0 = (az_nw (az_up ((46, f8) : az_Hp) 0 (az_O 10 [.ref 1, .int 0, .ref 2, .ref 30, .ref 38, .ref 6, .ref 10, .ref 11, .ref 12, .ref 15, .ref 21, .null])) (az_O 1 [.null, .null, .null, .null, .null, .int 0, .null, .null])).2 0 from v9_2 0 (by omega)).trans (az_nw_neN (N := 46) az_up_eq)) ?_
  refine az_iconst (v := nI 0) dX11_init_128 ?_
  refine az_istore_n (ls' := [(0, .ref 0), (1, .ref 24), (2, .int (nI 0))]) dX11_init_129 ?_
  refine az_W.keep (ls' := [(0, .ref 0), (2, .int (nI 0))]) [0, 2] rfl ?_
  refine s_initTrays (f9 := ((az_up ((56, f9) : az_Hp) 0 (az_O 10 [.ref 1, .int 0, .ref 2, .ref 30, .ref 38, .ref 6, .ref 10, .ref 11, .ref 12, .ref 15, .ref 21, .ref 46]))).2) (by omega) (by omega) (by omega) az_up_eq (az_up_ne ((show f9 11 = (az_nw (az_up ((46, f8) : az_Hp) 0 (az_O 10 [.ref 1, .int 0, .ref 2, .ref 30, .ref 38, .ref 6, .ref 10, .ref 11, .ref 12, .ref 15, .ref 21, .null])) (az_O 1 [.null, .null, .null, .null, .null, .int 0, .null, .null])).2 11 from v9_2 11 (by omega)).trans (az_nw_neN (N := 46) (az_up_ne ((show f8 11 = (az_nw (az_up ((38, f7) : az_Hp) 0 (az_O 10 [.ref 1, .int 0, .ref 2, .ref 30, .null, .ref 6, .ref 10, .ref 11, .ref 12, .ref 15, .ref 21, .null])) (az_O 5 [.null, .int 0, .int 0, .int 0, .long 0, .int 0, .null, .null, .null, .null, .null, .null, .null])).2 11 from v8_2 11 (by omega)).trans (az_nw_neN (N := 38) (az_up_ne ((show f7 11 = (az_nw ((30, f6) : az_Hp) (az_O 5 [.null, .int 0, .int 0, .int 0, .long 0, .int 0, .null, .null, .null, .null, .null, .null, .null])).2 11 from v7_2 11 (by omega)).trans (az_nw_neN (N := 30) ((show f6 11 = (az_nw (az_up ((24, f5) : az_Hp) 0 (az_O 10 [.ref 1, .int 0, .ref 2, .null, .null, .ref 6, .ref 10, .ref 11, .ref 12, .ref 15, .ref 21, .null])) (az_O 8 [.int 0, .int 0, .int 0, .int 0, .null, .null, .null, .null, .null])).2 11 from v6_2 11 (by omega)).trans (az_nw_neN (N := 24) (az_up_ne ((show f5 11 = (az_nw (az_up ((21, f4) : az_Hp) 0 (az_O 10 [.ref 1, .int 0, .ref 2, .null, .null, .ref 6, .ref 10, .ref 11, .ref 12, .ref 15, .null, .null])) (az_O 2 [.null, .null])).2 11 from v5_2 11 (by omega)).trans (az_nw_neN (N := 21) (az_up_ne ((show f4 11 = (az_nw (az_up ((15, f3) : az_Hp) 0 (az_O 10 [.ref 1, .int 0, .ref 2, .null, .null, .ref 6, .ref 10, .ref 11, .ref 12, .null, .null, .null])) (az_O 0 [.null, .int 0, .null, .null, .null, .int 0, .long 0, .null])).2 11 from v4_2 11 (by omega)).trans (az_nw_neN (N := 15) (az_up_ne ((show f3 11 = (az_nw (az_up (az_nw (az_up (az_nw (az_up ((10, f2) : az_Hp) 0 (az_O 10 [.ref 1, .int 0, .ref 2, .null, .null, .ref 6, .null, .null, .null, .null, .null, .null])) (az_Q RX6 2 (fun _ => .null))) 0 (az_O 10 [.ref 1, .int 0, .ref 2, .null, .null, .ref 6, .ref 10, .null, .null, .null, .null, .null])) (az_Q RX10 4 (fun _ => .null))) 0 (az_O 10 [.ref 1, .int 0, .ref 2, .null, .null, .ref 6, .ref 10, .ref 11, .null, .null, .null, .null])) (az_O 6 [.null, .null, .long 0, .long 0])).2 11 from v3_2 11 (by omega)).trans (az_nw_neN (N := 12) (az_up_ne az_nw_eqN))))))))))))))))))))) (fun f' g9 hx0 hx11 hg9 ht9 hk10 => ?_)
  have k10 : ∀ z, z ≠ 0 → z ≠ 11 → z < 56 → f' z = f9 z := (fun z a b c => (hk10 z b c).trans (az_up_ne rfl))
  have E9 := k10
  have E8 : ∀ z, z ≠ 0 → z ≠ 11 → z < 46 → f' z = f8 z := (fun z a b c => (E9 z a b (by omega)).trans (k9 z a c))
  have E7 : ∀ z, z ≠ 0 → z ≠ 11 → z < 38 → f' z = f7 z := (fun z a b c => (E8 z a b (by omega)).trans (k8 z a c))
  have E6 : ∀ z, z ≠ 0 → z ≠ 11 → z < 30 → f' z = f6 z := (fun z a b c => (E7 z a b (by omega)).trans (k7 z a c))
  have E5 : ∀ z, z ≠ 0 → z ≠ 11 → z < 24 → f' z = f5 z := (fun z a b c => (E6 z a b (by omega)).trans (k6 z a c))
  have E4 : ∀ z, z ≠ 0 → z ≠ 11 → z < 21 → f' z = f4 z := (fun z a b c => (E5 z a b (by omega)).trans (k5 z a c))
  have E3 : ∀ z, z ≠ 0 → z ≠ 11 → z < 15 → f' z = f3 z := (fun z a b c => (E4 z a b (by omega)).trans (k4 z a c))
  have E2 : ∀ z, z ≠ 0 → z ≠ 11 → z < 10 → f' z = f2 z := (fun z a b c => (E3 z a b (by omega)).trans (k3 z a c))
  have E1 : ∀ z, z ≠ 0 → z ≠ 11 → z < 6 → f' z = f1 z := (fun z a b c => (E2 z a b (by omega)).trans (k2 z a c))
  exact hQ _ rfl (fun _ => ⟨fun q => 24 ≤ q ∧ q < 30, fun _ => (0, 0), ⟨hx0, ⟨fun _ => nI 0, ((E1 1 (by omega) (by omega) (by omega)).trans m1), fun j hj => absurd hj (Nat.not_lt_zero _)⟩, ⟨_, _, _, _, _, 0, 0, _, _, ((E1 2 (by omega) (by omega) (by omega)).trans v1_3), Nat.zero_le _, ((E1 5 (by omega) (by omega) (by omega)).trans v1_6), ((E1 4 (by omega) (by omega) (by omega)).trans v1_5)⟩, ⟨_, _, _, ((E2 6 (by omega) (by omega) (by omega)).trans v2_3), ((E2 7 (by omega) (by omega) (by omega)).trans v2_4), ((E2 8 (by omega) (by omega) (by omega)).trans v2_5), ((E2 9 (by omega) (by omega) (by omega)).trans v2_6), fun i hi => absurd hi (Nat.not_lt_zero _), fun i hi => absurd hi (Nat.not_lt_zero _), fun i hi => absurd hi (Nat.not_lt_zero _)⟩, ⟨_, ((E3 10 (by omega) (by omega) (by omega)).trans m10), fun i _ => rfl⟩, ⟨g9, hx11, fun i hi => ⟨hg9 i hi, ht9 i hi⟩⟩, ⟨_, _, _, _, ((E3 12 (by omega) (by omega) (by omega)).trans v3_3), ((E3 13 (by omega) (by omega) (by omega)).trans v3_4), ((E3 14 (by omega) (by omega) (by omega)).trans v3_5)⟩, ⟨_, _, _, _, _, _, _, _, ((E4 15 (by omega) (by omega) (by omega)).trans v4_3), ((E4 16 (by omega) (by omega) (by omega)).trans v4_4), ((E4 17 (by omega) (by omega) (by omega)).trans v4_5), ((E4 18 (by omega) (by omega) (by omega)).trans v4_6), ((E4 19 (by omega) (by omega) (by omega)).trans v4_7), ((E4 20 (by omega) (by omega) (by omega)).trans v4_8)⟩, ⟨_, _, ((E5 21 (by omega) (by omega) (by omega)).trans v5_3), ((E5 22 (by omega) (by omega) (by omega)).trans v5_4), ((E5 23 (by omega) (by omega) (by omega)).trans v5_5)⟩, (ln_Scene.eqv v7_3 (fun z u1 u2 => E7 z (by omega) (by omega) (by omega))), (ln_Scene.eqv v8_3 (fun z u1 u2 => E8 z (by omega) (by omega) (by omega))).q, (fu_U.eqv v9_3 (fun z u1 u2 => E9 z (by omega) (by omega) (by omega))), ⟨28, 29, ((E6 24 (by omega) (by omega) (by omega)).trans v6_3), ((E6 25 (by omega) (by omega) (by omega)).trans v6_4), ((E6 26 (by omega) (by omega) (by omega)).trans v6_5), ((E6 27 (by omega) (by omega) (by omega)).trans v6_6), ((E6 28 (by omega) (by omega) (by omega)).trans v6_7), ((E6 29 (by omega) (by omega) (by omega)).trans v6_8), by omega, by omega, by omega, by omega, by omega, by omega⟩, ⟨Nat.le_refl _, Or.inl rfl, Or.inl rfl, (show 51 < 93 by omega), (show 52 < 93 by omega), fun q hq => (by omega), fun i _ hi => absurd rfl hi, fun hi _ => absurd rfl hi⟩⟩⟩)
