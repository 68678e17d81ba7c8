/-! Scene: what is picked, whether all sleeps, a deed -/
theorem nonneg_msb (a : Int32) : 0 ≤ a ↔ a.toBitVec.msb = false := by
  rw [BitVec.msb_eq_toInt, Int32.le_iff_toInt_le]
  show (0 : Int32).toInt ≤ a.toBitVec.toInt ↔ _
  rw [show (0 : Int32).toInt = 0 from rfl]
  simp
theorem xor_sign {x y : Int32} (hy : 0 ≤ y) : 0 ≤ x ^^^ y ↔ 0 ≤ x := by
  rw [nonneg_msb] at hy
  rw [nonneg_msb, nonneg_msb, Int32.toBitVec_xor, BitVec.msb_xor, hy]
  simp
/-- the table that a law's number tells -/
def ln_pt (v : Int32) (T : Nat) : Nat := (v.toInt % (T : Int)).toNat
theorem ln_pt_lt {v : Int32} {T : Nat} (h : 0 < T) : ln_pt v T < T := by
  unfold ln_pt
  have h1 := Int.emod_nonneg v.toInt (show (T : Int) ≠ 0 by omega)
  have h2 := Int.emod_lt_of_pos v.toInt (show (0 : Int) < T by omega)
  omega
theorem fm_pt {v : Int32} {T : Nat} (h1 : 1 ≤ T) (h3 : T ≤ 3) : az_fm v (nI T) = nI (ln_pt v T) := by
  have hlt := ln_pt_lt (v := v) (T := T) (by omega)
  have hT : (nI T).toInt = T := nI_toInt (by omega)
  have hr := rem_toInt v (nI T)
  rw [hT] at hr
  have hb := tmod_bounds (a := v.toInt) (M := (T : Int)) (by omega)
  have he : ((ln_pt v T : Nat) : Int) = v.toInt % (T : Int) := by
    unfold ln_pt
    exact Int.toNat_of_nonneg (Int.emod_nonneg _ (by omega))
  apply Int32.toInt_inj.mp
  rw [nI_toInt (show ln_pt v T < 2 ^ 31 by omega), he]
  unfold az_fm
  have hx := xor_sign (x := v) (y := nI T) (nI_pos' (by omega))
  by_cases hv : 0 ≤ v
  · rw [if_pos (hx.mpr hv), hr]
    rw [Int32.le_iff_toInt_le] at hv
    exact Int.tmod_eq_emod_of_nonneg hv
  · rw [if_neg (fun q => hv (hx.mp q))]
    rw [Int32.le_iff_toInt_le] at hv
    have hv0 : v.toInt < 0 := by
      have : (0 : Int32).toInt = 0 := rfl
      omega
    have key : v.toInt % (T : Int) = if v.toInt.tmod T = 0 then 0 else v.toInt.tmod T + T := by
      have h5 := Int.emod_nonneg v.toInt (show (T : Int) ≠ 0 by omega)
      have h6 := Int.emod_lt_of_pos v.toInt (show (0 : Int) < T by omega)
      have h7 := Int.tmod_def v.toInt (T : Int)
      have h8 := Int.emod_def v.toInt (T : Int)
      have h9 : v.toInt.tmod T ≤ 0 := by
        have := Int.neg_tmod (-v.toInt) (T : Int)
        rw [Int.neg_neg] at this
        rw [this]
        have := Int.tmod_nonneg (T : Int) (show 0 ≤ -v.toInt by omega)
        omega
      have hT3 : T = 1 ∨ T = 2 ∨ T = 3 := by omega
      rcases hT3 with rfl | rfl | rfl
      · split <;> omega
      · split <;> omega
      · split <;> omega
    by_cases h0 : v - v / nI T * nI T = 0
    · rw [if_pos h0]
      rw [h0] at hr ⊢
      rw [key, if_pos (show v.toInt.tmod T = 0 from hr.symm)]
      rfl
    · rw [if_neg h0]
      have hne : ¬ v.toInt.tmod T = 0 := fun q => h0 (by
        apply Int32.toInt_inj.mp
        rw [hr, q]; rfl)
      rw [key, if_neg hne, Int32.toInt_add, hr, hT]
      exact Int.bmod_eq_of_le (by omega) (by omega)
/-- the laws of a town, as lists of words in the model's numbers -/
def ln_law (w : ln_W) (pk sl : List Nat) : Prop := ((ln_pk w).1 = pk.length ∧ (∀ i, i < pk.length → (ln_pk w).2 i = lw_phi (pk.getD i 0)) ∧ (pk = [] ∨ lw_wf pk = some [false])) ∧ ((ln_sl w).1 = sl.length ∧ (∀ i, i < sl.length → (ln_sl w).2 i = lw_phi (sl.getD i 0)) ∧ (sl = [] ∨ lw_wf sl = some [true]))
/-- whether all sleeps, 1 or 0; the table that is picked -/
def ln_as (en : Nat → Int32) (sl : List Nat) : Nat := if sl = [] then 0 else if (lw_ev en sl).headD 0 = 0 then 0 else 1
def ln_pi (en : Nat → Int32) (pk : List Nat) (T : Nat) : Nat := if pk = [] then 0 else ln_pt ((lw_ev en pk).headD 0) T
theorem ln_pi_lt {en : Nat → Int32} {pk : List Nat} {T : Nat} (h : 0 < T) : ln_pi en pk T < T := by
  unfold ln_pi
  split
  · exact h
  · exact ln_pt_lt h
theorem ln_as0 {en : Nat → Int32} {sl : List Nat} {v : Int32} (hne : ¬ sl = []) (hv : lw_ev en sl = [v]) (h : v = 0) : ln_as en sl = 0 := by rw [ln_as, if_neg hne, if_pos (by rw [hv]; exact h)]
theorem ln_as1 {en : Nat → Int32} {sl : List Nat} {v : Int32} (hne : ¬ sl = []) (hv : lw_ev en sl = [v]) (h : ¬ v = 0) : ln_as en sl = 1 := by rw [ln_as, if_neg hne, if_neg (by rw [hv]; exact h)]
set_option maxRecDepth 100000 in
theorem s_asleep {d a t mo ni : Nat} {w : ln_W} {bs pk sl : List Nat} {hp : az_Hp} {Q : Option Value → az_Hp → Prop} (hd : 4 ≤ d) (hw : ln_ok w) (hlaw : ln_law w pk sl) (hT : ln_To hp t w a (a + 8)) (hS : ln_Scene hp a t w mo ni bs) (hQ : ∀ h', ln_Scene h' a t w mo ni bs → az_fr hp h' a (a + 8) → Q (some (.int (nI (ln_as (ln_env w bs mo ni) sl)))) h') : az_M mX6_asleep d 0 0 [.ref a] hp Q := by
  obtain ⟨hi, fr, la, no, wa, nc, g0, -⟩ := id hS
  obtain ⟨a4, a5, hT0, -, -, -, hT4, hT5, -, o4, o5⟩ := id hT
  obtain ⟨-, l1, l2, l3⟩ := hlaw
  have l9 := hw.2.2.2.2.2.2.2.2.2
  refine az_M.of rfl (Nat.le_of_ble_eq_true rfl) ?_
  show az_W _ _ _ _ 0 [(0, .ref a)] [] _ _
  refine az_aload_n dX6_asleep_0 ?_
  refine az_getf (v := .ref t) dX6_asleep_1 fl_X6_40 g0 ?_
  refine az_getf (v := .ref a5) dX6_asleep_4 fl_X6_124 hT0 ?_
  refine az_alen dX6_asleep_7 hT5 ?_
  refine az_if_leN (tgt := 29) dX6_asleep_8 (fun c8 => ?_) (fun c8 => ?_)
  · first | (have hz : sl = [] := List.length_eq_zero_iff.mp (by omega); rw [ln_as, if_pos hz] at hQ) | (rw [ln_as0 hne hv c22] at hQ)
    refine az_iconst (v := nI 0) dX6_asleep_29 ?_
    exact az_iret dX6_asleep_30 (by first | exact hQ _ hS (az_fr.rf) | exact hQ _ hS' hf)
  · have hne : ¬ sl = [] := fun q => by rw [q] at l1; simp at l1; omega
    have hwf := l3.resolve_left hne
    refine az_aload_n dX6_asleep_11 ?_
    refine az_getf (v := .ref t) dX6_asleep_12 fl_X6_40 g0 ?_
    refine az_getf (v := .ref a5) dX6_asleep_15 fl_X6_124 hT0 ?_
    refine az_aload_n dX6_asleep_18 ?_
    refine az_cS0 (st := []) dX6_asleep_19 ml_X6_127 (s_valueOf (d := d - 1) (by omega) hw hS hT5 o5 l1.symm l9 (fun i hi => l2 i (by omega)) hwf rfl (fun v h' hv hS' hf => ?_))
    refine az_if_eq (tgt := 29) dX6_asleep_22 (fun c22 => ?_) (fun c22 => ?_)
    · first | (have hz : sl = [] := List.length_eq_zero_iff.mp (by omega); rw [ln_as, if_pos hz] at hQ) | (rw [ln_as0 hne hv c22] at hQ)
      refine az_iconst (v := nI 0) dX6_asleep_29 ?_
      exact az_iret dX6_asleep_30 (by first | exact hQ _ hS (az_fr.rf) | exact hQ _ hS' hf)
    · rw [ln_as1 hne hv c22] at hQ
      refine az_iconst (v := nI 1) dX6_asleep_25 ?_
      refine az_goto (tgt := 30) dX6_asleep_26 ?_
      exact az_iret dX6_asleep_30 (by first | exact hQ _ hS (az_fr.rf) | exact hQ _ hS' hf)
set_option maxRecDepth 100000 in
theorem s_pickedTable {d a t mo ni : Nat} {w : ln_W} {bs pk sl : List Nat} {hp : az_Hp} {Q : Option Value → az_Hp → Prop} (hd : 4 ≤ d) (hw : ln_ok w) (hlaw : ln_law w pk sl) (hT : ln_To hp t w a (a + 8)) (hS : ln_Scene hp a t w mo ni bs) (hQ : ∀ h', ln_Scene h' a t w mo ni bs → az_fr hp h' a (a + 8) → Q (some (.int (nI (ln_pi (ln_env w bs mo ni) pk (ln_tb w))))) h') : az_M mX6_pickedTable d 0 0 [.ref a] hp Q := by
  obtain ⟨hi, fr, la, no, wa, nc, g0, -⟩ := id hS
  obtain ⟨a4, a5, hT0, -, -, -, hT4, hT5, -, o4, o5⟩ := id hT
  obtain ⟨⟨l1, l2, l3⟩, -⟩ := hlaw
  have l9 := hw.2.2.2.2.2.2.2.2.1
  have ht1 := hw.1
  have ht3 := hw.2.1
  refine az_M.of rfl (Nat.le_of_ble_eq_true rfl) ?_
  show az_W _ _ _ _ 0 [(0, .ref a)] [] _ _
  refine az_aload_n dX6_pickedTable_0 ?_
  refine az_getf (v := .ref t) dX6_pickedTable_1 fl_X6_40 g0 ?_
  refine az_getf (v := .ref a4) dX6_pickedTable_4 fl_X6_131 hT0 ?_
  refine az_alen dX6_pickedTable_7 hT4 ?_
  refine az_if_eqN (tgt := 22) dX6_pickedTable_8 (fun c8 => ?_) (fun c8 => ?_)
  · have hz : pk = [] := List.length_eq_zero_iff.mp (by omega)
    rw [ln_pi, if_pos hz] at hQ
    refine az_iconst (v := nI 0) dX6_pickedTable_22 ?_
    exact az_iret dX6_pickedTable_23 (hQ _ hS az_fr.rf)
  · refine az_aload_n dX6_pickedTable_11 ?_
    refine az_getf (v := .ref t) dX6_pickedTable_12 fl_X6_40 g0 ?_
    refine az_getf (v := .int (nI (ln_tb w))) dX6_pickedTable_15 fl_X6_111 hT0 ?_
    refine az_iconst (v := nI 1) dX6_pickedTable_18 ?_
    refine az_icmp_geN (tgt := 24) dX6_pickedTable_19 (fun c19 => ?_) (fun c19 => ?_)
    · have hne : ¬ pk = [] := fun q => by rw [q] at l1; simp at l1; omega
      have hwf := l3.resolve_left hne
      refine az_aload_n dX6_pickedTable_24 ?_
      refine az_getf (v := .ref t) dX6_pickedTable_25 fl_X6_40 g0 ?_
      refine az_getf (v := .ref a4) dX6_pickedTable_28 fl_X6_131 hT0 ?_
      refine az_aload_n dX6_pickedTable_31 ?_
      refine az_cS0 (st := []) dX6_pickedTable_32 ml_X6_127 (s_valueOf (d := d - 1) (by omega) hw hS hT4 o4 l1.symm l9 (fun i hi => l2 i (by omega)) hwf rfl (fun v h' hv hS' hf => ?_))
      obtain ⟨a4', a5', hT0', -⟩ := hT.fr hf
      obtain ⟨hi', fr', la', no', wa', nc', g0', -⟩ := id hS'
      refine az_aload_n dX6_pickedTable_35 ?_
      refine az_getf (v := .ref t) dX6_pickedTable_36 fl_X6_40 g0' ?_
      refine az_getf (v := .int (nI (ln_tb w))) dX6_pickedTable_39 fl_X6_111 hT0' ?_
      refine az_cS0 (st := []) dX6_pickedTable_42 ml_X6_134 (s_floorMod (d := d - 1) (nI_ne0 (n := ln_tb w) ht1 (by omega)) ?_)
      rw [fm_pt ht1 ht3]
      rw [ln_pi, if_neg hne, hv] at hQ
      exact az_iret dX6_pickedTable_45 (hQ _ hS' hf)
    · exact absurd c19 (by omega)
