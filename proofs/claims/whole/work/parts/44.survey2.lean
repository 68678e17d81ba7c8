/-! Survey's face -/
theorem ln_To.nar {h : az_Hp} {t : Nat} {w : ln_W} {lo hi lo' hi' : Nat} (H : ln_To h t w lo hi) (h1 : lo ≤ lo') (h2 : hi' ≤ hi) : ln_To h t w lo' hi' := by
  obtain ⟨a4, a5, g0, g1, g2, g3, g4, g5, o, o4, o5⟩ := H
  exact ⟨a4, a5, g0, g1, g2, g3, g4, g5, by omega, by omega, by omega⟩
theorem ln_Scene.fr {h h' : az_Hp} {a t mo ni : Nat} {w : ln_W} {bs : List Nat} {lo hi : Nat} (H : ln_Scene h a t w mo ni bs) (hf : az_fr h h' lo hi) (ho : a + 8 ≤ lo ∨ hi ≤ a) : ln_Scene h' a t w mo ni bs := by
  obtain ⟨hi', fr, la, no, wa, nc, q0, q1, q2, u2, q3, u3, q4, u4, q5, q6, q7⟩ := H
  exact ⟨hi', fr, la, no, wa, nc, hf.at q0, hf.at q1, hf.at q2, u2, hf.at q3, u3, hf.at q4, u4, hf.at q5, hf.at q6, hf.at q7⟩
def ln_Surv (h : az_Hp) (s : Nat) : Prop := ∃ (v3 v4 : Value) (f1 f2 : Nat → Int64), h.2 s = some (az_O 6 [.ref (s + 1), .ref (s + 2), v3, v4]) ∧ h.2 (s + 1) = some (az_J 366 f1) ∧ h.2 (s + 2) = some (az_J 366 f2)
/-- a row tells weights, each kept below 2,000,000,000,001 -/
def ln_caps (w : ln_W) (bs : List Nat) (g : Nat → Nat) (g9 : Nat → Nat) : Prop := ∀ k x, k ≤ bs.length → x < 6 → g9 (k * 6 + x) = min (ln_wT w bs g k x) 2000000000000
theorem ln_caps.lt {w : ln_W} {bs : List Nat} {g g9 : Nat → Nat} (H : ln_caps w bs g g9) : ∀ j, j < (bs.length + 1) * 6 → g9 j < 2 ^ 63 := by
  intro j hj
  have := H (j / 6) (j % 6) (by omega) (by omega)
  rw [show j / 6 * 6 + j % 6 = j by omega] at this
  rw [this]
  have := Nat.min_le_right (ln_wT w bs g (j / 6) (j % 6)) 2000000000000
  omega
/-- the lengths are laid -/
def ln_SurvM (h : az_Hp) (s : Nat) (w : ln_W) (bs : List Nat) : Prop := ∃ (v3 v4 : Value) (g9 : Nat → Nat) (f2 : Nat → Int64), h.2 s = some (az_O 6 [.ref (s + 1), .ref (s + 2), v3, v4]) ∧ h.2 (s + 1) = some (az_J 366 (fun j => lN (g9 j))) ∧ ln_caps w bs (fun _ => 1) g9 ∧ h.2 (s + 2) = some (az_J 366 f2)
theorem ln_SurvM.S {h : az_Hp} {s : Nat} {w : ln_W} {bs : List Nat} (H : ln_SurvM h s w bs) : ln_Surv h s := by
  obtain ⟨v3, v4, g9, f2, h0, h1, -, h2⟩ := H
  exact ⟨v3, v4, _, f2, h0, h1, h2⟩
set_option maxRecDepth 100000 in
theorem s_measure {d s a t mo ni : Nat} {w : ln_W} {bs : List Nat} {hp : az_Hp} {Q : Option Value → az_Hp → Prop} (hd : 3 ≤ d) (hw : ln_ok w) (hb : ln_by w bs) (hT : ln_To hp t w s (s + 3)) (hS : ln_Scene hp a t w mo ni bs) (hsa : s + 3 ≤ a ∨ a + 8 ≤ s) (hV : ln_Surv hp s) (hQ : ∀ h', ln_SurvM h' s w bs → az_fr hp h' s (s + 3) → Q none h') : az_M mX7_measure d 0 0 [.ref s, .ref a] hp Q := by
  obtain ⟨v3, v4, f1, f2, h0, h1, h2⟩ := hV
  refine az_M.of rfl (Nat.le_of_ble_eq_true rfl) ?_
  show az_W _ _ _ _ 0 [(0, .ref s), (1, .ref a)] [] _ _
  refine az_aload_n dX7_measure_0 ?_
  refine az_aload_n dX7_measure_1 ?_
  refine az_getf (v := .ref (s + 1)) dX7_measure_2 fl_X7_9 h0 ?_
  refine az_iconst (v := (-1)) dX7_measure_5 ?_
  refine az_cS0 (st := []) dX7_measure_6 ml_X7_18 (s_fill (g := fun _ => 1) (d := d - 1) (by omega) hw hb (hT.nar (by omega) (by omega)) hS (by omega) h1 (fun _ _ _ => rfl) (fun _ _ q => absurd rfl q) (fun _ _ q => absurd rfl q) (fun g9 hg9 => ?_))
  exact az_vret dX7_measure_9 (hQ _ ⟨v3, v4, g9, f2, az_up_ne h0, az_up_eq, hg9, az_up_ne h2⟩ az_fr.rf.up)
theorem str_wl (w : ln_W) (bs : List Nat) : ln_run w (bs.drop 0) (ln_word w) = ln_str w bs := by rw [List.drop_zero]; rfl
set_option maxRecDepth 100000 in
theorem s_letterAt {k : Nat} {d s a t mo ni : Nat} {w : ln_W} {bs : List Nat} {hp : az_Hp} {Q : Option Value → az_Hp → Prop} (hd : 3 ≤ d) (hw : ln_ok w) (hb : ln_by w bs) (hT : ln_To hp t w s (s + 3)) (hS : ln_Scene hp a t w mo ni bs) (hsa : s + 3 ≤ a ∨ a + 8 ≤ s) (hV : ln_SurvM hp s w bs) (hk : k < (ln_str w bs).length) (hQ : ∀ h', ln_SurvM h' s w bs → az_fr hp h' s (s + 3) → Q (some (.int (nI ((ln_str w bs).getD k 0)))) h') : az_M mX7_letterAt d 0 0 [.ref s, .ref a, .long (lN k)] hp Q := by
  obtain ⟨v3, v4, g9, f2, h0, h1, hc, h2⟩ := hV
  have hlen := hb.2.2
  have key := go_eq (F := fun k y => g9 (k * 6 + y)) (F2 := fun k y => g9 (k * 6 + y)) hc hc hw bs.length 0 rfl (ln_word w) k 0 (fun x hx => ln_word_lt hw hx) (by rw [str_wl, wl_len]; omega) (by rw [str_wl, wl_len]; omega) (by rw [str_wl, wl_len]; exact hk)
  rw [str_wl, scan_one _ hk] at key
  simp only [Nat.zero_mul, Nat.zero_add] at key
  refine az_M.of rfl (Nat.le_of_ble_eq_true rfl) ?_
  show az_W _ _ _ _ 0 [(0, .ref s), (1, .ref a), (2, .long (lN k))] [] _ _
  refine az_aload_n dX7_letterAt_0 ?_
  refine az_aload_n dX7_letterAt_1 ?_
  refine az_aload_n dX7_letterAt_2 ?_
  refine az_getf (v := .ref (s + 1)) dX7_letterAt_3 fl_X7_9 h0 ?_
  refine az_aload_n dX7_letterAt_6 ?_
  refine az_getf (v := .ref (s + 1)) dX7_letterAt_7 fl_X7_9 h0 ?_
  refine az_lload_n dX7_letterAt_10 ?_
  refine az_cV0 (st := []) dX7_letterAt_11 ml_X7_22 h0 (s_descend (d := d - 1) (by omega) hw hb (hT.nar (by omega) (by omega)) hS (by omega) h0 h1 h1 (by omega) hc.lt (by omega) (by omega) rfl key ?_)
  exact az_iret dX7_letterAt_14 (hQ _ ⟨_, _, g9, f2, az_up_eq, az_up_ne h1, hc, az_up_ne h2⟩ az_fr.rf.up)
theorem ind_hyps {c : Nat} (hc : c < 6) : (∀ x, x < 6 → nI c = (-1) → (fun x => if x = c then 1 else 0) x = 1) ∧ (∀ x, x < 6 → ¬ nI c = (-1) → nI c = nI x → (fun x => if x = c then 1 else 0) x = 1) ∧ (∀ x, x < 6 → ¬ nI c = (-1) → ¬ nI c = nI x → (fun x => if x = c then 1 else 0) x = 0) := by
  have hn : ¬ nI c = (-1) := by
    intro q
    have := congrArg Int32.toInt q
    rw [nI_toInt (by omega)] at this
    have h9 : (-1 : Int32).toInt = -1 := by decide
    omega
  refine ⟨fun x _ q => absurd q hn, fun x hx _ q => ?_, fun x hx _ q => ?_⟩
  · have := (nI_eq (by omega) (by omega)).mp q
    simp [this]
  · have : ¬ x = c := fun e => q (by rw [e])
    simp [this]
set_option maxRecDepth 100000 in
theorem s_countAhead {c k : Nat} {d s a t mo ni : Nat} {w : ln_W} {bs : List Nat} {hp : az_Hp} {Q : Option Value → az_Hp → Prop} (hd : 3 ≤ d) (hw : ln_ok w) (hb : ln_by w bs) (hT : ln_To hp t w s (s + 3)) (hS : ln_Scene hp a t w mo ni bs) (hsa : s + 3 ≤ a ∨ a + 8 ≤ s) (hV : ln_SurvM hp s w bs) (hc6 : c < 6) (hk : k < (ln_str w bs).length) (hQ : ∀ h', ln_SurvM h' s w bs → az_fr hp h' s (s + 3) → Q (some (.long (lN (((ln_str w bs).take k).count c)))) h') : az_M mX7_countAhead d 0 0 [.ref s, .ref a, .int (nI c), .long (lN k)] hp Q := by
  obtain ⟨v3, v4, g9, f2, h0, h1, hc, h2⟩ := hV
  have hlen := hb.2.2
  obtain ⟨i1, i2, i3⟩ := ind_hyps hc6
  refine az_M.of rfl (Nat.le_of_ble_eq_true rfl) ?_
  show az_W _ _ _ _ 0 [(0, .ref s), (1, .ref a), (2, .int (nI c)), (3, .long (lN k))] [] _ _
  refine az_aload_n dX7_countAhead_0 ?_
  refine az_aload_n dX7_countAhead_1 ?_
  refine az_getf (v := .ref (s + 2)) dX7_countAhead_2 fl_X7_15 h0 ?_
  refine az_iload_n dX7_countAhead_5 ?_
  refine az_cS0 (st := []) dX7_countAhead_6 ml_X7_18 (s_fill (g := (fun x => if x = c then 1 else 0)) (d := d - 1) (by omega) hw hb (hT.nar (by omega) (by omega)) hS (by omega) h2 i1 i2 i3 (fun g8 hg8 => ?_))
  have key := go_eq (F := fun k y => g9 (k * 6 + y)) (F2 := fun k y => g8 (k * 6 + y)) hc hg8 hw bs.length 0 rfl (ln_word w) k 0 (fun x hx => ln_word_lt hw hx) (by rw [str_wl, wl_len]; omega) (by rw [str_wl, wl_cnt]; have := cnt_le (ln_str w bs) c; omega) (by rw [str_wl, wl_len]; exact hk)
  rw [str_wl, scan_one _ hk, wl_cnt] at key
  simp only [Nat.zero_mul, Nat.zero_add] at key
  refine az_aload_n dX7_countAhead_9 ?_
  refine az_aload_n dX7_countAhead_10 ?_
  refine az_aload_n dX7_countAhead_11 ?_
  refine az_getf (v := .ref (s + 1)) dX7_countAhead_12 fl_X7_9 (az_up_ne h0) ?_
  refine az_aload_n dX7_countAhead_15 ?_
  refine az_getf (v := .ref (s + 2)) dX7_countAhead_16 fl_X7_15 (az_up_ne h0) ?_
  refine az_lload_n dX7_countAhead_19 ?_
  refine az_cV0 (st := []) dX7_countAhead_20 ml_X7_22 (az_up_ne h0) (s_descend (d := d - 1) (by omega) hw hb ((hT.fr az_fr.rf.up).nar (by omega) (by omega)) (hS.fr (lo := s) (hi := s + 3) az_fr.rf.up (by omega)) (by omega) (az_up_ne h0) (az_up_ne h1) az_up_eq (by omega) hc.lt (by omega) (by omega) rfl key ?_)
  refine az_pop dX7_countAhead_23 ?_
  refine az_aload_n dX7_countAhead_24 ?_
  refine az_getf (v := .long (lN (((ln_str w bs).take k).count c))) dX7_countAhead_25 fl_X7_26 az_up_eq ?_
  exact az_lret dX7_countAhead_28 (hQ _ ⟨_, _, g9, _, az_up_eq, az_up_ne (az_up_ne h1), hc, az_up_ne az_up_eq⟩ az_fr.rf.up.up)
/-- the place of a letter that has k of its kind ahead of it -/
def ln_pos (c : Nat) (l : List Nat) (k : Nat) : Nat := (ln_scan (fun x => if x = c then 1 else 0) (fun _ => 1) l k 0).2.2
set_option maxRecDepth 100000 in
theorem s_placeOf {c k : Nat} {d s a t mo ni : Nat} {w : ln_W} {bs : List Nat} {hp : az_Hp} {Q : Option Value → az_Hp → Prop} (hd : 3 ≤ d) (hw : ln_ok w) (hb : ln_by w bs) (hT : ln_To hp t w s (s + 3)) (hS : ln_Scene hp a t w mo ni bs) (hsa : s + 3 ≤ a ∨ a + 8 ≤ s) (hV : ln_SurvM hp s w bs) (hc6 : c < 6) (hk : k < (ln_str w bs).count c) (hQ : ∀ h', ln_SurvM h' s w bs → az_fr hp h' s (s + 3) → Q (some (.long (lN (ln_pos c (ln_str w bs) k)))) h') : az_M mX7_placeOf d 0 0 [.ref s, .ref a, .int (nI c), .long (lN k)] hp Q := by
  obtain ⟨v3, v4, g9, f2, h0, h1, hc, h2⟩ := hV
  have hlen := hb.2.2
  have hcl := cnt_le (ln_str w bs) c
  obtain ⟨i1, i2, i3⟩ := ind_hyps hc6
  refine az_M.of rfl (Nat.le_of_ble_eq_true rfl) ?_
  show az_W _ _ _ _ 0 [(0, .ref s), (1, .ref a), (2, .int (nI c)), (3, .long (lN k))] [] _ _
  refine az_aload_n dX7_placeOf_0 ?_
  refine az_aload_n dX7_placeOf_1 ?_
  refine az_getf (v := .ref (s + 2)) dX7_placeOf_2 fl_X7_15 h0 ?_
  refine az_iload_n dX7_placeOf_5 ?_
  refine az_cS0 (st := []) dX7_placeOf_6 ml_X7_18 (s_fill (g := (fun x => if x = c then 1 else 0)) (d := d - 1) (by omega) hw hb (hT.nar (by omega) (by omega)) hS (by omega) h2 i1 i2 i3 (fun g8 hg8 => ?_))
  have key := go_eq (F := fun k y => g8 (k * 6 + y)) (F2 := fun k y => g9 (k * 6 + y)) hg8 hc hw bs.length 0 rfl (ln_word w) k 0 (fun x hx => ln_word_lt hw hx) (by rw [str_wl, wl_cnt]; omega) (by rw [str_wl, wl_len]; omega) (by rw [str_wl, wl_cnt]; exact hk)
  rw [str_wl] at key
  simp only [Nat.zero_mul, Nat.zero_add] at key
  refine az_aload_n dX7_placeOf_9 ?_
  refine az_aload_n dX7_placeOf_10 ?_
  refine az_aload_n dX7_placeOf_11 ?_
  refine az_getf (v := .ref (s + 2)) dX7_placeOf_12 fl_X7_15 (az_up_ne h0) ?_
  refine az_aload_n dX7_placeOf_15 ?_
  refine az_getf (v := .ref (s + 1)) dX7_placeOf_16 fl_X7_9 (az_up_ne h0) ?_
  refine az_lload_n dX7_placeOf_19 ?_
  refine az_cV0 (st := []) dX7_placeOf_20 ml_X7_22 (az_up_ne h0) (s_descend (d := d - 1) (by omega) hw hb ((hT.fr az_fr.rf.up).nar (by omega) (by omega)) (hS.fr (lo := s) (hi := s + 3) az_fr.rf.up (by omega)) (by omega) (az_up_ne h0) az_up_eq (az_up_ne h1) (by omega) (ln_caps.lt hg8) (by omega) (by omega) rfl key ?_)
  refine az_pop dX7_placeOf_23 ?_
  refine az_aload_n dX7_placeOf_24 ?_
  refine az_getf (v := .long (lN ((ln_scan (fun x => if x = c then 1 else 0) (fun _ => 1) (ln_str w bs) k 0).2.2))) dX7_placeOf_25 fl_X7_26 az_up_eq ?_
  exact az_lret dX7_placeOf_28 (hQ _ ⟨_, _, g9, _, az_up_eq, az_up_ne (az_up_ne h1), hc, az_up_ne az_up_eq⟩ az_fr.rf.up.up)
