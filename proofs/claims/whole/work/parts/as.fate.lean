/-! The model: fate, degree, begins; kinds -/
theorem cb_bit {w : ln_W} {r i k : Nat} (h : i < k) : (ln_cb w r k).testBit (ln_ch w (r * 4 + i)) = true := by
  induction k with
  | zero => omega
  | succ k ih =>
    rw [ln_cb, Nat.testBit_or, Bool.or_eq_true]
    by_cases e : i = k
    · right; rw [e, Nat.testBit_two_pow]; simp
    · exact Or.inl (ih (by omega))
theorem ag_ex {w : ln_W} {f : Nat → Nat} {tb x : Nat} : ∀ k, 0 < kn_ag w f tb x k → ∃ i, i < k ∧ (ln_ch w ((tb * 6 + x) * 4 + i) = x ∨ kb f (ln_ch w ((tb * 6 + x) * 4 + i)) x = 1) := by
  intro k
  induction k with
  | zero => intro h; exact absurd h (by rw [kn_ag]; omega)
  | succ k ih =>
    intro h
    by_cases q1 : ln_ch w ((tb * 6 + x) * 4 + k) = x
    · exact ⟨k, by omega, Or.inl q1⟩
    · by_cases q2 : kb f (ln_ch w ((tb * 6 + x) * 4 + k)) x = 0
      · rw [kn_ag, if_neg q1, if_pos q2] at h
        obtain ⟨i, hi, hq⟩ := ih h
        exact ⟨i, by omega, hq⟩
      · exact ⟨k, by omega, Or.inr (kb_01 q2)⟩
theorem db_cyc {w : ln_W} (hw : ln_ok w) {tb x : Nat} (hx : x < 6) (h : kn_db w (kn_al (kn_0 w tb) 6) tb x = 1) : kb (kn_al (kn_0 w tb) 6) x x = 1 := by
  have h2 : ¬ kn_ag w (kn_al (kn_0 w tb) 6) tb x (ln_sz w (tb * 6 + x)) < 2 := by
    intro q
    rw [kn_db, if_pos q] at h
    cases h
  obtain ⟨i, hi, hq⟩ := ag_ex (w := w) (f := kn_al (kn_0 w tb) 6) (tb := tb) (x := x) (ln_sz w (tb * 6 + x)) (by omega)
  have hc6 := hw.2.2.2.2.2.2.2.1 ((tb * 6 + x) * 4 + i)
  have h1 : kb (kn_al (kn_0 w tb) 6) x (ln_ch w ((tb * 6 + x) * 4 + i)) = 1 := by
    rw [kb_1]
    exact kn_al_M _ hx 6 (cb_bit hi)
  rcases hq with e | e
  · rw [e] at h1; exact h1
  · exact kT_al _ x _ x hx hc6 hx h1 e
theorem an_ex {w : ln_W} {f : Nat → Nat} {tb x : Nat} : ∀ k, kn_an w f tb x k = 1 → ∃ y, y < k ∧ (y = x ∨ kb f x y = 1) ∧ kn_db w f tb y = 1 := by
  intro k
  induction k with
  | zero => intro h; cases h
  | succ k ih =>
    intro h
    rw [kn_an] at h
    by_cases q1 : kn_an w f tb x k = 1
    · obtain ⟨y, hy, hq⟩ := ih q1
      exact ⟨y, by omega, hq⟩
    · rw [if_neg q1] at h
      by_cases q2 : k = x ∨ kb f x k = 1
      · rw [if_pos q2] at h
        exact ⟨k, by omega, q2, h⟩
      · rw [if_neg q2] at h
        cases h
theorem cf_ge {f c : Nat → Nat} {x y : Nat} : ∀ k, (y = x ∨ (y < k ∧ kb f x y = 1)) → c y ≤ kn_cf f c x k := by
  intro k
  induction k with
  | zero => intro h; rcases h with e | e; rw [e]; exact Nat.le_refl _; omega
  | succ k ih =>
    intro h
    rw [kn_cf]
    by_cases e : y = k ∧ ¬ y = x
    · have : kb f x k = 1 := by rw [← e.1]; exact (h.resolve_left e.2).2
      rw [if_neg (by omega), e.1]
      omega
    · have i := ih (by rcases h with q | q; exact Or.inl q; (by_cases e2 : y = x; exact Or.inl e2; exact Or.inr ⟨by omega, q.2⟩))
      split
      · exact i
      · omega
theorem an_cf {w : ln_W} (hw : ln_ok w) {tb x : Nat} (hx : x < 6) (h : kn_an w (kn_al (kn_0 w tb) 6) tb x 6 = 1) : ¬ kn_cf (kn_al (kn_0 w tb) 6) (kc_al (kn_al (kn_0 w tb) 6) 6) x 6 = 0 := by
  obtain ⟨y, hy, h1, h2⟩ := an_ex 6 h
  have hc := db_cyc hw hy h2
  have h3 := kc_fix (kT_al (kn_0 w tb)) hy hc
  have h4 := cf_ge (f := kn_al (kn_0 w tb) 6) (c := kc_al (kn_al (kn_0 w tb) 6) 6) (x := x) (y := y) 6 (h1.elim Or.inl (fun q => Or.inr ⟨hy, q⟩))
  omega
set_option maxHeartbeats 4000000 in
set_option maxRecDepth 100000 in
theorem m_fateOf {d tb : Nat} {sc : Nat → Value} {A : Nat → Nat} {v : rd_V} {hp : az_Hp} {Q : Option Value → az_Hp → Prop} {x : Nat} (hd : 9 ≤ d) (hw : ln_ok (rd_w v)) (h64 : hp.2 64 = some (mo_o sc)) (h65 : hp.2 65 = some (az_I 3318 (fun j => nI (A j)))) (hV : mV A v) (h3 : tb < 3) (hk : mk hp) (hx : x < 6) (hQ : ∀ F9 : Nat → Nat, (∀ x, x < 6 → F9 x = (kn_al (kn_0 (rd_w v) tb) 6) x) → Q (some (.int (nI (kn_ft (rd_w v) (kn_al (kn_0 (rd_w v) tb) 6) (kc_al (kn_al (kn_0 (rd_w v) tb) 6) 6) tb x)))) (az_up hp 80 (az_I 6 (fun j => nI (F9 j))))) : az_M mX12_fateOf d 0 0 [.ref 64, .int (nI tb), .int (nI x)] hp Q := by
  obtain ⟨f80, e80⟩ := hk.I (q := 80) (n := 6)
  have hlt := kn_al_lt (kn_0_lt hw tb) 6
  have hT := kT_al (kn_0 (rd_w v) tb)
  have hcf := kn_cf_le (f := (kn_al (kn_0 (rd_w v) tb) 6)) (x := x) (kc_al_le (kn_al (kn_0 (rd_w v) tb) 6) 6) 6
  have loop : ∀ (k : Nat) (i : Nat) (F9 : Nat → Nat), 6 - i = k → (i ≤ 6) → (∀ x, x < 6 → F9 x = (kn_al (kn_0 (rd_w v) tb) 6) x) → (kn_an (rd_w v) (kn_al (kn_0 (rd_w v) tb) 6) tb x i = 0) → az_W mX12_fateOf d 0 0 7 [(0, .ref 64), (1, .int (nI tb)), (2, .int (nI x)), (3, .int (nI i))] [] (az_up hp 80 (az_I 6 (fun j => nI (F9 j)))) Q := by
    intro k
    induction k using Nat.strongRecOn with
    | _ k ih =>
    intro i F9 hk hi hF han
    refine az_iload_n dX12_fateOf_7 ?_
    refine az_bipush (v := nI 6) dX12_fateOf_8 ?_
    refine az_icmp_geN (tgt := 43) dX12_fateOf_10 (fun c10 => ?_) (fun c10 => ?_)
    · have hi6 : i = 6 := (by omega)
      subst hi6
      refine az_aload_n dX12_fateOf_43 ?_
      refine az_iload_n dX12_fateOf_44 ?_
      refine az_cV0 (st := []) dX12_fateOf_45 ml_X12_418 (az_up_ne h64) (m_mostRow (d := d - 1) (x := x) (by omega) (az_up_ne h64) az_up_eq hF hlt hT hx ?_)
      refine az_istore_n (ls' := [(0, .ref 64), (1, .int (nI tb)), (2, .int (nI x)), (3, .int (nI (kn_cf (kn_al (kn_0 (rd_w v) tb) 6) (kc_al (kn_al (kn_0 (rd_w v) tb) 6) 6) x 6)))]) dX12_fateOf_48 ?_
      refine az_iload_n dX12_fateOf_49 ?_
      refine az_if_neN (tgt := 57) dX12_fateOf_50 (fun c50 => ?_) (fun c50 => ?_)
      · refine az_iload_n dX12_fateOf_57 ?_
        refine az_iconst (v := nI 1) dX12_fateOf_58 ?_
        refine az_icmp_neN (tgt := 66) dX12_fateOf_59 (fun c59 => ?_) (fun c59 => ?_)
        · refine az_iconst (v := nI 2) dX12_fateOf_66 ?_
          exact az_iret dX12_fateOf_67 (by have hq := hQ F9 hF; rw [kn_ft] at hq; first | (rw [if_pos (by omega)] at hq; exact hq) | (rw [if_neg (by omega), if_neg (by omega), if_pos (by omega)] at hq; exact hq) | (rw [if_neg (by omega), if_neg (by omega), if_neg (by omega)] at hq; exact hq))
        · refine az_iconst (v := nI 1) dX12_fateOf_62 ?_
          refine az_goto (tgt := 67) dX12_fateOf_63 ?_
          exact az_iret dX12_fateOf_67 (by have hq := hQ F9 hF; rw [kn_ft] at hq; first | (rw [if_pos (by omega)] at hq; exact hq) | (rw [if_neg (by omega), if_neg (by omega), if_pos (by omega)] at hq; exact hq) | (rw [if_neg (by omega), if_neg (by omega), if_neg (by omega)] at hq; exact hq))
      · refine az_iconst (v := nI 0) dX12_fateOf_53 ?_
        refine az_goto (tgt := 67) dX12_fateOf_54 ?_
        exact az_iret dX12_fateOf_67 (by have hq := hQ F9 hF; rw [kn_ft] at hq; first | (rw [if_pos (by omega)] at hq; exact hq) | (rw [if_neg (by omega), if_neg (by omega), if_pos (by omega)] at hq; exact hq) | (rw [if_neg (by omega), if_neg (by omega), if_neg (by omega)] at hq; exact hq))
    · refine az_aload_n dX12_fateOf_13 ?_
      refine az_iload_n dX12_fateOf_14 ?_
      refine az_cV0 (st := []) dX12_fateOf_15 ml_X12_405 (az_up_ne h64) (m_itsAll (d := d - 1) (x := x) (az_up_ne h64) az_up_eq hF hlt hx ?_)
      have hal := all_lt (hlt x) hx
      refine az_i2lN dX12_fateOf_18 ?_
      refine az_iload_n dX12_fateOf_19 ?_
      refine az_cS0 (st := []) dX12_fateOf_20 ml_X12_401 (m_isIn (d := d - 1) (s := (kn_al (kn_0 (rd_w v) tb) 6) x ||| 2 ^ x) (k9 := i) hal (by omega) ?_ ?_)
      · intro hy1
        rw [all_0] at hy1
        have hor : i = x ∨ kb (kn_al (kn_0 (rd_w v) tb) 6) x i = 1 := (by by_cases q : i = x; exact Or.inl q; exact Or.inr (kb_01 (fun q2 => hy1 ⟨q2, q⟩)))
        refine az_if_eqN (tgt := 37) dX12_fateOf_23 (fun c23 => ?_) (fun c23 => ?_)
        · exact absurd c23 (by omega)
        · refine az_aload_n dX12_fateOf_26 ?_
          refine az_iload_n dX12_fateOf_27 ?_
          refine az_iload_n dX12_fateOf_28 ?_
          refine az_cV0 (st := []) dX12_fateOf_29 ml_X12_414 (az_up_ne h64) (m_isDoubled (d := d - 1) (tb := tb) (x := i) (by omega) hw (az_up_ne h64) (az_up_ne h65) hV h3 az_up_eq hF hlt (by omega) ?_)
          have hdl := kn_db_le (rd_w v) (kn_al (kn_0 (rd_w v) tb) 6) tb i
          refine az_if_eqN (tgt := 37) dX12_fateOf_32 (fun c32 => ?_) (fun c32 => ?_)
          · refine az_iincN (n := 1) (ls' := [(0, .ref 64), (1, .int (nI tb)), (2, .int (nI x)), (3, .int (nI (i + 1)))]) dX12_fateOf_37 ?_
            refine az_goto (tgt := 7) dX12_fateOf_40 ?_
            first | (have _g := hn1; exact ih _ (by omega) (i + 1) F9 rfl (by omega) hF (by rw [kn_an, if_neg (by omega), if_neg (fun c => c.elim hn1.2 (fun c => by have := hn1.1; omega))])) | (have _g := hor; exact ih _ (by omega) (i + 1) F9 rfl (by omega) hF (by rw [kn_an, if_neg (by omega), if_pos hor]; omega))
          · refine az_iconst (v := nI 3) dX12_fateOf_35 ?_
            exact az_iret dX12_fateOf_36 (by have ha : kn_an (rd_w v) (kn_al (kn_0 (rd_w v) tb) 6) tb x 6 = 1 := kn_an_mono (k := i + 1) (by rw [kn_an, if_neg (by omega), if_pos hor]; omega) (by omega); have hq := hQ F9 hF; rw [kn_ft, if_neg (an_cf hw hx ha), if_pos ha] at hq; exact hq)
      · intro hn1
        rw [all_0] at hn1
        refine az_if_eqN (tgt := 37) dX12_fateOf_23 (fun c23 => ?_) (fun c23 => ?_)
        · refine az_iincN (n := 1) (ls' := [(0, .ref 64), (1, .int (nI tb)), (2, .int (nI x)), (3, .int (nI (i + 1)))]) dX12_fateOf_37 ?_
          refine az_goto (tgt := 7) dX12_fateOf_40 ?_
          first | (have _g := hn1; exact ih _ (by omega) (i + 1) F9 rfl (by omega) hF (by rw [kn_an, if_neg (by omega), if_neg (fun c => c.elim hn1.2 (fun c => by have := hn1.1; omega))])) | (have _g := hor; exact ih _ (by omega) (i + 1) F9 rfl (by omega) hF (by rw [kn_an, if_neg (by omega), if_pos hor]; omega))
        · exact absurd c23 (by omega)
  refine az_M.of rfl (Nat.le_of_ble_eq_true rfl) ?_
  show az_W _ _ _ _ 0 [(0, .ref 64), (1, .int (nI tb)), (2, .int (nI x))] [] _ _
  refine az_aload_n dX12_fateOf_0 ?_
  refine az_iload_n dX12_fateOf_1 ?_
  refine az_cV0 (st := []) dX12_fateOf_2 ml_X12_411 h64 (m_laysReach (d := d - 1) (by omega) hw h64 h65 hV h3 e80 ?_)
  intro F9 hF
  refine az_iconst (v := nI 0) dX12_fateOf_5 ?_
  refine az_istore_n (ls' := [(0, .ref 64), (1, .int (nI tb)), (2, .int (nI x)), (3, .int (nI 0))]) dX12_fateOf_6 ?_
  exact loop _ 0 F9 rfl (Nat.zero_le _) hF rfl
set_option maxHeartbeats 4000000 in
set_option maxRecDepth 100000 in
theorem q_fate {d : Nat} {xt xl : Int32} {tp fk mo ni : Nat} {bt : Nat → Nat} {fp : Int32} {v : rd_V} {bs : List Nat} {U : ln_U} {im : Nat → Option (rd_V × ln_Z)} {tr : Nat → Option (Nat × List Int64)} {hp : az_Hp} {Q : Option Value → az_Hp → Prop} (hd : 10 ≤ d) (hok : cs_ok ((tp, bt), (fk, fp), v, (mo, ni, bs), U, im, tr)) (hM : mm hp ((tp, bt), (fk, fp), v, (mo, ni, bs), U, im, tr)) (hQ2 : ¬ (cs_in xt (ln_tb (rd_w v)) ∧ cs_in xl 6) → ∀ h', mm h' ((tp, bt), (fk, fp), v, (mo, ni, bs), U, im, tr) → az_fr hp h' 64 93 → Q (some (.int (-2))) h') (hQ : ∀ tn lt, xt = nI tn → tn < ln_tb (rd_w v) → xl = nI lt → lt < 6 → ∀ h', mm h' ((tp, bt), (fk, fp), v, (mo, ni, bs), U, im, tr) → az_fr hp h' 64 93 → Q (some (.int (nI (kn_ft (rd_w v) (kn_al (kn_0 (rd_w v) tn) 6) (kc_al (kn_al (kn_0 (rd_w v) tn) 6) 6) tn lt)))) h') : az_M mX12_fate d 0 0 [.ref 64, .int xt, .int xl] hp Q := by
  obtain ⟨sc0, A0, tf0, hI0, rs0, rm0, nu0, o1, o2, -⟩ := id hM
  have hgd : rd_good v := hok.2.2.1
  have hw : ln_ok (rd_w v) := hgd.1
  have hba : ln_ba (rd_w v) bs := hok.2.2.2.1
  have hb : ln_by (rd_w v) bs := hba.b
  have hlen := hb.2.2
  have h60 := hb.1
  have hU10 : U.length ≤ 10 := hok.2.2.2.2.1
  have ht1 := hw.1
  have ht3 := hw.2.1
  refine az_M.of rfl (Nat.le_of_ble_eq_true rfl) ?_
  show az_W _ _ _ _ 0 [(0, .ref 64), (1, .int xt), (2, .int xl)] [] _ _
  refine az_aload_n dX12_fate_0 ?_
  refine az_iconst (v := nI 0) dX12_fate_1 ?_
  refine az_putf (fs' := [.int (nI 0), .ref 65, .ref 66, .ref 67, .ref 68, sc0 5, fI (sc0 6), sc0 7, sc0 8, fI (sc0 9), fI (sc0 10), sc0 11, fI (sc0 12), sc0 13, sc0 14, .ref 69, .ref 70, .ref 71, sc0 18, .ref 72, .ref 73, .ref 74, sc0 22, sc0 23, .ref 75, sc0 25, .ref 76, .ref 77, .ref 78, sc0 29, .ref 79, .ref 80, .ref 81, .ref 82, .ref 83, .ref 84, .ref 85, sc0 37, .ref 86, .ref 87, .ref 88, .ref 89, .ref 90, .ref 91, .ref 92]) dX12_fate_2 fl_X12_1 o1 ?_
  obtain ⟨h1, hf1, hM1, hh1⟩ : ∃ h1, az_fr hp h1 64 93 ∧ mm h1 ((tp, bt), (fk, fp), v, (mo, ni, bs), U, im, tr) ∧ h1 = az_up hp 64 (mo_o (su sc0 0 (.int (nI 0)))) := ⟨_, az_fr.rf.up, hM.O (sc := su sc0 0 (.int (nI 0))) o2.1 o2.2.1 o2.2.2, rfl⟩
  rw [show (az_up hp 64 (az_O 11 [.int (nI 0), .ref 65, .ref 66, .ref 67, .ref 68, sc0 5, fI (sc0 6), sc0 7, sc0 8, fI (sc0 9), fI (sc0 10), sc0 11, fI (sc0 12), sc0 13, sc0 14, .ref 69, .ref 70, .ref 71, sc0 18, .ref 72, .ref 73, .ref 74, sc0 22, sc0 23, .ref 75, sc0 25, .ref 76, .ref 77, .ref 78, sc0 29, .ref 79, .ref 80, .ref 81, .ref 82, .ref 83, .ref 84, .ref 85, sc0 37, .ref 86, .ref 87, .ref 88, .ref 89, .ref 90, .ref 91, .ref 92])) = h1 from hh1.symm]
  obtain ⟨sc, A, tf, hI, rs, rm, nu, a1, a2, a3, a4, a5, a6, a7, a8, a9, a10, a11, a12, a13, a14⟩ := id hM1
  have a4 : mT A v (mo, ni, bs) := a4
  have a5 : mU A U := a5
  have a7 : mI A hI im := a7
  have a9 : ∀ j, j < tp → tf j = bt j := a9
  have a13 : mR rs rm nu tr := a13
  refine az_aload_n dX12_fate_5 ?_
  refine az_iload_n dX12_fate_6 ?_
  refine az_cV0 (st := []) dX12_fate_7 ml_X12_290 a1 (m_isTable (d := d - 1) (by omega) hw a1 a3 a4.1 ?_ ?_)
  · intro tn hxt htn
    refine az_if_eqN (tgt := 30) dX12_fate_10 (fun c10 => ?_) (fun c10 => ?_)
    · exact absurd c10 (by omega)
    · refine az_iload_n dX12_fate_13 ?_
      refine az_i2l dX12_fate_14 ?_
      refine az_cS0 (st := []) dX12_fate_15 ml_X12_293 (m_isLetterI (d := d - 1) (by omega) ?_ ?_)
      · intro lt hxl hlt6
        refine az_if_eqN (tgt := 30) dX12_fate_18 (fun c18 => ?_) (fun c18 => ?_)
        · exact absurd c18 (by omega)
        · subst hxt
          subst hxl
          refine az_aload_n dX12_fate_21 ?_
          refine az_iload_n dX12_fate_22 ?_
          refine az_iload_n dX12_fate_23 ?_
          refine az_cV0 (st := []) dX12_fate_24 ml_X12_421 a1 (m_fateOf (d := d - 1) (tb := tn) (x := lt) (by omega) hw a1 a3 a4.1 (by omega) a14 hlt6 ?_)
          intro F9 hF
          refine az_goto (tgt := 32) dX12_fate_27 ?_
          exact az_iret dX12_fate_32 (by first | (have _g := hF; exact hQ tn lt rfl htn rfl hlt6 _ hM1.I hf1.up) | exact hQ2 (fun q => cs_in_no hxt q.1) h1 hM1 hf1 | exact hQ2 (fun q => cs_in_no hxl q.2) h1 hM1 hf1)
      · intro hxl
        refine az_if_eqN (tgt := 30) dX12_fate_18 (fun c18 => ?_) (fun c18 => ?_)
        · refine az_bipush (v := (-2)) dX12_fate_30 ?_
          exact az_iret dX12_fate_32 (by first | (have _g := hF; exact hQ tn lt rfl htn rfl hlt6 _ hM1.I hf1.up) | exact hQ2 (fun q => cs_in_no hxt q.1) h1 hM1 hf1 | exact hQ2 (fun q => cs_in_no hxl q.2) h1 hM1 hf1)
        · exact absurd c18 (by omega)
  · intro hxt
    refine az_if_eqN (tgt := 30) dX12_fate_10 (fun c10 => ?_) (fun c10 => ?_)
    · refine az_bipush (v := (-2)) dX12_fate_30 ?_
      exact az_iret dX12_fate_32 (by first | (have _g := hF; exact hQ tn lt rfl htn rfl hlt6 _ hM1.I hf1.up) | exact hQ2 (fun q => cs_in_no hxt q.1) h1 hM1 hf1 | exact hQ2 (fun q => cs_in_no hxl q.2) h1 hM1 hf1)
    · exact absurd c10 (by omega)
set_option maxHeartbeats 4000000 in
set_option maxRecDepth 100000 in
theorem q_degree {d : Nat} {xt xl : Int32} {tp fk mo ni : Nat} {bt : Nat → Nat} {fp : Int32} {v : rd_V} {bs : List Nat} {U : ln_U} {im : Nat → Option (rd_V × ln_Z)} {tr : Nat → Option (Nat × List Int64)} {hp : az_Hp} {Q : Option Value → az_Hp → Prop} (hd : 10 ≤ d) (hok : cs_ok ((tp, bt), (fk, fp), v, (mo, ni, bs), U, im, tr)) (hM : mm hp ((tp, bt), (fk, fp), v, (mo, ni, bs), U, im, tr)) (hQ2 : ¬ (cs_in xt (ln_tb (rd_w v)) ∧ cs_in xl 6) → ∀ h', mm h' ((tp, bt), (fk, fp), v, (mo, ni, bs), U, im, tr) → az_fr hp h' 64 93 → Q (some (.int (-2))) h') (hQ : ∀ tn lt, xt = nI tn → tn < ln_tb (rd_w v) → xl = nI lt → lt < 6 → ∀ h', mm h' ((tp, bt), (fk, fp), v, (mo, ni, bs), U, im, tr) → az_fr hp h' 64 93 → Q (some (.int (if (kn_ft (rd_w v) (kn_al (kn_0 (rd_w v) tn) 6) (kc_al (kn_al (kn_0 (rd_w v) tn) 6) 6) tn lt) = 2 then nI (kn_cf (kn_al (kn_0 (rd_w v) tn) 6) (kc_al (kn_al (kn_0 (rd_w v) tn) 6) 6) lt 6 - 1) else (-1)))) h') : az_M mX12_degree d 0 0 [.ref 64, .int xt, .int xl] hp Q := by
  obtain ⟨sc0, A0, tf0, hI0, rs0, rm0, nu0, o1, o2, -⟩ := id hM
  have hgd : rd_good v := hok.2.2.1
  have hw : ln_ok (rd_w v) := hgd.1
  have hba : ln_ba (rd_w v) bs := hok.2.2.2.1
  have hb : ln_by (rd_w v) bs := hba.b
  have hlen := hb.2.2
  have h60 := hb.1
  have hU10 : U.length ≤ 10 := hok.2.2.2.2.1
  have ht1 := hw.1
  have ht3 := hw.2.1
  refine az_M.of rfl (Nat.le_of_ble_eq_true rfl) ?_
  show az_W _ _ _ _ 0 [(0, .ref 64), (1, .int xt), (2, .int xl)] [] _ _
  refine az_aload_n dX12_degree_0 ?_
  refine az_iconst (v := nI 0) dX12_degree_1 ?_
  refine az_putf (fs' := [.int (nI 0), .ref 65, .ref 66, .ref 67, .ref 68, sc0 5, fI (sc0 6), sc0 7, sc0 8, fI (sc0 9), fI (sc0 10), sc0 11, fI (sc0 12), sc0 13, sc0 14, .ref 69, .ref 70, .ref 71, sc0 18, .ref 72, .ref 73, .ref 74, sc0 22, sc0 23, .ref 75, sc0 25, .ref 76, .ref 77, .ref 78, sc0 29, .ref 79, .ref 80, .ref 81, .ref 82, .ref 83, .ref 84, .ref 85, sc0 37, .ref 86, .ref 87, .ref 88, .ref 89, .ref 90, .ref 91, .ref 92]) dX12_degree_2 fl_X12_1 o1 ?_
  obtain ⟨h1, hf1, hM1, hh1⟩ : ∃ h1, az_fr hp h1 64 93 ∧ mm h1 ((tp, bt), (fk, fp), v, (mo, ni, bs), U, im, tr) ∧ h1 = az_up hp 64 (mo_o (su sc0 0 (.int (nI 0)))) := ⟨_, az_fr.rf.up, hM.O (sc := su sc0 0 (.int (nI 0))) o2.1 o2.2.1 o2.2.2, rfl⟩
  rw [show (az_up hp 64 (az_O 11 [.int (nI 0), .ref 65, .ref 66, .ref 67, .ref 68, sc0 5, fI (sc0 6), sc0 7, sc0 8, fI (sc0 9), fI (sc0 10), sc0 11, fI (sc0 12), sc0 13, sc0 14, .ref 69, .ref 70, .ref 71, sc0 18, .ref 72, .ref 73, .ref 74, sc0 22, sc0 23, .ref 75, sc0 25, .ref 76, .ref 77, .ref 78, sc0 29, .ref 79, .ref 80, .ref 81, .ref 82, .ref 83, .ref 84, .ref 85, sc0 37, .ref 86, .ref 87, .ref 88, .ref 89, .ref 90, .ref 91, .ref 92])) = h1 from hh1.symm]
  obtain ⟨sc, A, tf, hI, rs, rm, nu, a1, a2, a3, a4, a5, a6, a7, a8, a9, a10, a11, a12, a13, a14⟩ := id hM1
  have a4 : mT A v (mo, ni, bs) := a4
  have a5 : mU A U := a5
  have a7 : mI A hI im := a7
  have a9 : ∀ j, j < tp → tf j = bt j := a9
  have a13 : mR rs rm nu tr := a13
  refine az_aload_n dX12_degree_5 ?_
  refine az_iload_n dX12_degree_6 ?_
  refine az_cV0 (st := []) dX12_degree_7 ml_X12_290 a1 (m_isTable (d := d - 1) (by omega) hw a1 a3 a4.1 ?_ ?_)
  · intro tn hxt htn
    refine az_if_eqN (tgt := 21) dX12_degree_10 (fun c10 => ?_) (fun c10 => ?_)
    · exact absurd c10 (by omega)
    · refine az_iload_n dX12_degree_13 ?_
      refine az_i2l dX12_degree_14 ?_
      refine az_cS0 (st := []) dX12_degree_15 ml_X12_293 (m_isLetterI (d := d - 1) (by omega) ?_ ?_)
      · intro lt hxl hlt6
        refine az_if_neN (tgt := 24) dX12_degree_18 (fun c18 => ?_) (fun c18 => ?_)
        · subst hxt
          subst hxl
          have hftl : (kn_ft (rd_w v) (kn_al (kn_0 (rd_w v) tn) 6) (kc_al (kn_al (kn_0 (rd_w v) tn) 6) 6) tn lt) ≤ 3 := (by unfold kn_ft; split; omega; split; omega; split <;> omega)
          have hlt := kn_al_lt (kn_0_lt hw tn) 6
          refine az_aload_n dX12_degree_24 ?_
          refine az_iload_n dX12_degree_25 ?_
          refine az_iload_n dX12_degree_26 ?_
          refine az_cV0 (st := []) dX12_degree_27 ml_X12_421 a1 (m_fateOf (d := d - 1) (tb := tn) (x := lt) (by omega) hw a1 a3 a4.1 (by omega) a14 hlt6 ?_)
          intro F9 hF
          have hq := hQ tn lt rfl htn rfl hlt6 _ (hM1.I (q := 80) (n := 6) (f := fun j => nI (F9 j))) hf1.up
          refine az_iconst (v := nI 2) dX12_degree_30 ?_
          refine az_icmp_neN (tgt := 44) dX12_degree_31 (fun c31 => ?_) (fun c31 => ?_)
          · refine az_iconst (v := (-1)) dX12_degree_44 ?_
            exact az_iret dX12_degree_45 (by first | (rw [if_pos c31] at hq; exact hq) | (rw [if_neg c31] at hq; exact hq))
          · refine az_aload_n dX12_degree_34 ?_
            refine az_iload_n dX12_degree_35 ?_
            refine az_cV0 (st := []) dX12_degree_36 ml_X12_418 (az_up_ne a1) (m_mostRow (d := d - 1) (x := lt) (by omega) (az_up_ne a1) az_up_eq hF hlt (kT_al _) hlt6 ?_)
            have hc1 : ¬ kn_cf (kn_al (kn_0 (rd_w v) tn) 6) (kc_al (kn_al (kn_0 (rd_w v) tn) 6) 6) lt 6 = 0 := (fun q => by rw [kn_ft, if_pos q] at c31; cases c31)
            refine az_iconst (v := nI 1) dX12_degree_39 ?_
            refine az_isubN dX12_degree_40 (by omega) ?_
            refine az_goto (tgt := 45) dX12_degree_41 ?_
            exact az_iret dX12_degree_45 (by first | (rw [if_pos c31] at hq; exact hq) | (rw [if_neg c31] at hq; exact hq))
        · exact absurd c18 (by omega)
      · intro hxl
        refine az_if_neN (tgt := 24) dX12_degree_18 (fun c18 => ?_) (fun c18 => ?_)
        · exact absurd c18 (by omega)
        · refine az_bipush (v := (-2)) dX12_degree_21 ?_
          exact az_iret dX12_degree_23 (by first | exact hQ2 (fun q => cs_in_no hxt q.1) h1 hM1 hf1 | exact hQ2 (fun q => cs_in_no hxl q.2) h1 hM1 hf1)
  · intro hxt
    refine az_if_eqN (tgt := 21) dX12_degree_10 (fun c10 => ?_) (fun c10 => ?_)
    · refine az_bipush (v := (-2)) dX12_degree_21 ?_
      exact az_iret dX12_degree_23 (by first | exact hQ2 (fun q => cs_in_no hxt q.1) h1 hM1 hf1 | exact hQ2 (fun q => cs_in_no hxl q.2) h1 hM1 hf1)
    · exact absurd c10 (by omega)
theorem bg_lt {w : ln_W} (hw : ln_ok w) (tb : Nat) {k : Nat} (h : k ≤ 6) : bg w tb k < 64 := by
  induction k with
  | zero => exact (by decide : 0 < 64)
  | succ k ih =>
    rw [bg]
    split
    · exact or_lt64 (ih (by omega)) (two_lt64 (by omega))
    · exact ih (by omega)
set_option maxHeartbeats 4000000 in
set_option maxRecDepth 100000 in
theorem m_beginsW {d tb : Nat} {sc : Nat → Value} {A : Nat → Nat} {v : rd_V} {hp : az_Hp} {Q : Option Value → az_Hp → Prop} (hd : 1 ≤ d) (hw : ln_ok (rd_w v)) (h64 : hp.2 64 = some (mo_o sc)) (h65 : hp.2 65 = some (az_I 3318 (fun j => nI (A j)))) (hV : mV A v) (h3 : tb < 3) (hQ : Q (some (.int (nI (bg (rd_w v) tb 6)))) hp) : az_W mX12_begins d 0 0 16 [(0, .ref 64), (1, .int (nI tb))] [] hp Q := by
  have loop : ∀ (k : Nat) (i : Nat), 6 - i = k → (i ≤ 6) → (bg (rd_w v) tb i < 64) → az_W mX12_begins d 0 0 20 [(0, .ref 64), (1, .int (nI tb)), (2, .int (nI (bg (rd_w v) tb i))), (3, .int (nI i))] [] hp Q := by
    intro k
    induction k using Nat.strongRecOn with
    | _ k ih =>
    intro i hk hi hbl
    refine az_iload_n dX12_begins_20 ?_
    refine az_bipush (v := nI 6) dX12_begins_21 ?_
    refine az_icmp_geN (tgt := 63) dX12_begins_23 (fun c23 => ?_) (fun c23 => ?_)
    · refine az_iload_n dX12_begins_63 ?_
      exact az_iret dX12_begins_64 (by obtain rfl : i = 6 := (by omega); exact hQ)
    · refine az_iload_n dX12_begins_26 ?_
      refine az_aload_n dX12_begins_27 ?_
      refine az_iload_n dX12_begins_28 ?_
      refine az_iload_n dX12_begins_29 ?_
      refine az_cV0 (st := [.int (nI (bg (rd_w v) tb i))]) dX12_begins_30 ml_X12_239 h64 (m_becomeMany (d := d - 1) (v := v) (tb := tb) (x := i) h64 h65 hV h3 (by omega) ?_)
      have hz4 := hw.2.2.2.2.2.2.1 (tb * 6 + i)
      refine az_iconst (v := nI 1) dX12_begins_33 ?_
      refine az_icmp_leN (tgt := 54) dX12_begins_34 (fun c34 => ?_) (fun c34 => ?_)
      · refine az_iconst (v := nI 0) dX12_begins_54 ?_
        refine az_iorN dX12_begins_55 ?_
        refine az_istore_n (ls' := [(0, .ref 64), (1, .int (nI tb)), (2, .int (nI ((bg (rd_w v) tb i) ||| 0))), (3, .int (nI i))]) dX12_begins_56 ?_
        refine az_iincN (n := 1) (ls' := [(0, .ref 64), (1, .int (nI tb)), (2, .int (nI ((bg (rd_w v) tb i) ||| 0))), (3, .int (nI (i + 1)))]) dX12_begins_57 ?_
        refine az_goto (tgt := 20) dX12_begins_60 ?_
        first | (rw [show bg (rd_w v) tb i ||| 2 ^ i = bg (rd_w v) tb (i + 1) from (by rw [bg, if_pos ⟨by omega, by omega⟩])]; exact ih _ (by omega) (i + 1) rfl (by omega) (bg_lt hw tb (by omega))) | (rw [show bg (rd_w v) tb i ||| 0 = bg (rd_w v) tb (i + 1) from (by rw [bg, if_neg (fun q => by omega), Nat.or_zero])]; exact ih _ (by omega) (i + 1) rfl (by omega) (bg_lt hw tb (by omega)))
      · refine az_aload_n dX12_begins_37 ?_
        refine az_iload_n dX12_begins_38 ?_
        refine az_iload_n dX12_begins_39 ?_
        refine az_iconst (v := nI 0) dX12_begins_40 ?_
        refine az_cV0 (st := [.int (nI (bg (rd_w v) tb i))]) dX12_begins_41 ml_X12_242 h64 (m_becomeOf (d := d - 1) (v := v) (tb := tb) (x := i) (i := 0) h64 h65 hV hw h3 (by omega) (by omega) ?_)
        have hc6 := hw.2.2.2.2.2.2.2.1 ((tb * 6 + i) * 4 + 0)
        refine az_iload_n dX12_begins_44 ?_
        refine az_icmp_neN (tgt := 54) dX12_begins_45 (fun c45 => ?_) (fun c45 => ?_)
        · refine az_iconst (v := nI 0) dX12_begins_54 ?_
          refine az_iorN dX12_begins_55 ?_
          refine az_istore_n (ls' := [(0, .ref 64), (1, .int (nI tb)), (2, .int (nI ((bg (rd_w v) tb i) ||| 0))), (3, .int (nI i))]) dX12_begins_56 ?_
          refine az_iincN (n := 1) (ls' := [(0, .ref 64), (1, .int (nI tb)), (2, .int (nI ((bg (rd_w v) tb i) ||| 0))), (3, .int (nI (i + 1)))]) dX12_begins_57 ?_
          refine az_goto (tgt := 20) dX12_begins_60 ?_
          first | (rw [show bg (rd_w v) tb i ||| 2 ^ i = bg (rd_w v) tb (i + 1) from (by rw [bg, if_pos ⟨by omega, by omega⟩])]; exact ih _ (by omega) (i + 1) rfl (by omega) (bg_lt hw tb (by omega))) | (rw [show bg (rd_w v) tb i ||| 0 = bg (rd_w v) tb (i + 1) from (by rw [bg, if_neg (fun q => by omega), Nat.or_zero])]; exact ih _ (by omega) (i + 1) rfl (by omega) (bg_lt hw tb (by omega)))
        · have h2l := two_lt64 (show i < 6 by omega)
          refine az_iconst (v := nI 1) dX12_begins_48 ?_
          refine az_iload_n dX12_begins_49 ?_
          refine az_ishl1N dX12_begins_50 ?_
          refine az_goto (tgt := 55) dX12_begins_51 ?_
          refine az_iorN dX12_begins_55 ?_
          refine az_istore_n (ls' := [(0, .ref 64), (1, .int (nI tb)), (2, .int (nI ((bg (rd_w v) tb i) ||| (2 ^ i)))), (3, .int (nI i))]) dX12_begins_56 ?_
          refine az_iincN (n := 1) (ls' := [(0, .ref 64), (1, .int (nI tb)), (2, .int (nI ((bg (rd_w v) tb i) ||| (2 ^ i)))), (3, .int (nI (i + 1)))]) dX12_begins_57 ?_
          refine az_goto (tgt := 20) dX12_begins_60 ?_
          first | (rw [show bg (rd_w v) tb i ||| 2 ^ i = bg (rd_w v) tb (i + 1) from (by rw [bg, if_pos ⟨by omega, by omega⟩])]; exact ih _ (by omega) (i + 1) rfl (by omega) (bg_lt hw tb (by omega))) | (rw [show bg (rd_w v) tb i ||| 0 = bg (rd_w v) tb (i + 1) from (by rw [bg, if_neg (fun q => by omega), Nat.or_zero])]; exact ih _ (by omega) (i + 1) rfl (by omega) (bg_lt hw tb (by omega)))
  refine az_iconst (v := nI 0) dX12_begins_16 ?_
  refine az_istore_n (ls' := [(0, .ref 64), (1, .int (nI tb)), (2, .int (nI 0))]) dX12_begins_17 ?_
  refine az_iconst (v := nI 0) dX12_begins_18 ?_
  refine az_istore_n (ls' := [(0, .ref 64), (1, .int (nI tb)), (2, .int (nI 0)), (3, .int (nI 0))]) dX12_begins_19 ?_
  exact loop _ 0 rfl (Nat.zero_le _) (by show 0 < 64; decide)
set_option maxHeartbeats 4000000 in
set_option maxRecDepth 100000 in
theorem q_begins {d : Nat} {xt : Int32} {tp fk mo ni : Nat} {bt : Nat → Nat} {fp : Int32} {v : rd_V} {bs : List Nat} {U : ln_U} {im : Nat → Option (rd_V × ln_Z)} {tr : Nat → Option (Nat × List Int64)} {hp : az_Hp} {Q : Option Value → az_Hp → Prop} (hd : 2 ≤ d) (hok : cs_ok ((tp, bt), (fk, fp), v, (mo, ni, bs), U, im, tr)) (hM : mm hp ((tp, bt), (fk, fp), v, (mo, ni, bs), U, im, tr)) (hQ2 : ¬ cs_in xt (ln_tb (rd_w v)) → ∀ h', mm h' ((tp, bt), (fk, fp), v, (mo, ni, bs), U, im, tr) → az_fr hp h' 64 93 → Q (some (.int (-2))) h') (hQ : ∀ tn, xt = nI tn → tn < ln_tb (rd_w v) → ∀ h', mm h' ((tp, bt), (fk, fp), v, (mo, ni, bs), U, im, tr) → az_fr hp h' 64 93 → Q (some (.int (nI (bg (rd_w v) tn 6)))) h') : az_M mX12_begins d 0 0 [.ref 64, .int xt] hp Q := by
  obtain ⟨sc0, A0, tf0, hI0, rs0, rm0, nu0, o1, o2, -⟩ := id hM
  have hgd : rd_good v := hok.2.2.1
  have hw : ln_ok (rd_w v) := hgd.1
  have hba : ln_ba (rd_w v) bs := hok.2.2.2.1
  have hb : ln_by (rd_w v) bs := hba.b
  have hlen := hb.2.2
  have h60 := hb.1
  have hU10 : U.length ≤ 10 := hok.2.2.2.2.1
  have ht1 := hw.1
  have ht3 := hw.2.1
  refine az_M.of rfl (Nat.le_of_ble_eq_true rfl) ?_
  show az_W _ _ _ _ 0 [(0, .ref 64), (1, .int xt)] [] _ _
  refine az_aload_n dX12_begins_0 ?_
  refine az_iconst (v := nI 0) dX12_begins_1 ?_
  refine az_putf (fs' := [.int (nI 0), .ref 65, .ref 66, .ref 67, .ref 68, sc0 5, fI (sc0 6), sc0 7, sc0 8, fI (sc0 9), fI (sc0 10), sc0 11, fI (sc0 12), sc0 13, sc0 14, .ref 69, .ref 70, .ref 71, sc0 18, .ref 72, .ref 73, .ref 74, sc0 22, sc0 23, .ref 75, sc0 25, .ref 76, .ref 77, .ref 78, sc0 29, .ref 79, .ref 80, .ref 81, .ref 82, .ref 83, .ref 84, .ref 85, sc0 37, .ref 86, .ref 87, .ref 88, .ref 89, .ref 90, .ref 91, .ref 92]) dX12_begins_2 fl_X12_1 o1 ?_
  obtain ⟨h1, hf1, hM1, hh1⟩ : ∃ h1, az_fr hp h1 64 93 ∧ mm h1 ((tp, bt), (fk, fp), v, (mo, ni, bs), U, im, tr) ∧ h1 = az_up hp 64 (mo_o (su sc0 0 (.int (nI 0)))) := ⟨_, az_fr.rf.up, hM.O (sc := su sc0 0 (.int (nI 0))) o2.1 o2.2.1 o2.2.2, rfl⟩
  rw [show (az_up hp 64 (az_O 11 [.int (nI 0), .ref 65, .ref 66, .ref 67, .ref 68, sc0 5, fI (sc0 6), sc0 7, sc0 8, fI (sc0 9), fI (sc0 10), sc0 11, fI (sc0 12), sc0 13, sc0 14, .ref 69, .ref 70, .ref 71, sc0 18, .ref 72, .ref 73, .ref 74, sc0 22, sc0 23, .ref 75, sc0 25, .ref 76, .ref 77, .ref 78, sc0 29, .ref 79, .ref 80, .ref 81, .ref 82, .ref 83, .ref 84, .ref 85, sc0 37, .ref 86, .ref 87, .ref 88, .ref 89, .ref 90, .ref 91, .ref 92])) = h1 from hh1.symm]
  obtain ⟨sc, A, tf, hI, rs, rm, nu, a1, a2, a3, a4, a5, a6, a7, a8, a9, a10, a11, a12, a13, a14⟩ := id hM1
  have a4 : mT A v (mo, ni, bs) := a4
  have a5 : mU A U := a5
  have a7 : mI A hI im := a7
  have a9 : ∀ j, j < tp → tf j = bt j := a9
  have a13 : mR rs rm nu tr := a13
  refine az_aload_n dX12_begins_5 ?_
  refine az_iload_n dX12_begins_6 ?_
  refine az_cV0 (st := []) dX12_begins_7 ml_X12_290 a1 (m_isTable (d := d - 1) (by omega) hw a1 a3 a4.1 ?_ ?_)
  · intro tn hxt htn
    refine az_if_neN (tgt := 16) dX12_begins_10 (fun c10 => ?_) (fun c10 => ?_)
    · subst hxt
      exact m_beginsW (by omega) hw a1 a3 a4.1 (by omega) (hQ tn rfl htn h1 hM1 hf1)
    · exact absurd c10 (by omega)
  · intro hxt
    refine az_if_neN (tgt := 16) dX12_begins_10 (fun c10 => ?_) (fun c10 => ?_)
    · exact absurd c10 (by omega)
    · refine az_bipush (v := (-2)) dX12_begins_13 ?_
      exact az_iret dX12_begins_15 (hQ2 (cs_in_no hxt) h1 hM1 hf1)
set_option maxHeartbeats 4000000 in
set_option maxRecDepth 100000 in
theorem m_kindsIn {d : Nat} {sc : Nat → Value} {l9 : List Nat} {gm : Nat → Nat} {hp : az_Hp} {Q : Option Value → az_Hp → Prop} (h64 : hp.2 64 = some (mo_o sc)) (h81 : hp.2 81 = some (az_J 84 (fun j => lN (gm j)))) (hF : ∀ c, c < 6 → gm c = l9.count c) (hl9 : l9.length < 2 ^ 62) (hQ : Q (some (.int (nI (ln_sb l9 6)))) hp) : az_M mX12_kindsIn d 0 0 [.ref 64] hp Q := by
  have loop : ∀ (k : Nat) (i : Nat), 6 - i = k → (i ≤ 6) → az_W mX12_kindsIn d 0 0 4 [(0, .ref 64), (1, .int (nI (ln_sb l9 i))), (2, .int (nI i))] [] hp Q := by
    intro k
    induction k using Nat.strongRecOn with
    | _ k ih =>
    intro i hk hi
    refine az_iload_n dX12_kindsIn_4 ?_
    refine az_bipush (v := nI 6) dX12_kindsIn_5 ?_
    refine az_icmp_geN (tgt := 37) dX12_kindsIn_7 (fun c7 => ?_) (fun c7 => ?_)
    · refine az_iload_n dX12_kindsIn_37 ?_
      exact az_iret dX12_kindsIn_38 (by obtain rfl : i = 6 := (by omega); exact hQ)
    · have hsl := ln_sb_lt l9 (show i ≤ 6 by omega)
      refine az_iload_n dX12_kindsIn_10 ?_
      refine az_aload_n dX12_kindsIn_11 ?_
      refine az_getf (v := .ref 81) dX12_kindsIn_12 fl_X12_67 h64 ?_
      refine az_iload_n dX12_kindsIn_15 ?_
      refine az_laldN (j := i) dX12_kindsIn_16 h81 ?_
      rw [hF i (by omega)]
      have hcl : l9.count i ≤ l9.length := List.count_le_length
      refine az_lconst (v := lN 0) dX12_kindsIn_17 ?_
      refine az_lcmp_leN (tgt := 28) dX12_kindsIn_18 dX12_kindsIn_19 (fun c18 => ?_) (fun c18 => ?_)
      · refine az_iconst (v := nI 0) dX12_kindsIn_28 ?_
        refine az_iorN dX12_kindsIn_29 ?_
        refine az_istore_n (ls' := [(0, .ref 64), (1, .int (nI ((ln_sb l9 i) ||| 0))), (2, .int (nI i))]) dX12_kindsIn_30 ?_
        refine az_iincN (n := 1) (ls' := [(0, .ref 64), (1, .int (nI ((ln_sb l9 i) ||| 0))), (2, .int (nI (i + 1)))]) dX12_kindsIn_31 ?_
        refine az_goto (tgt := 4) dX12_kindsIn_34 ?_
        first | (rw [show ln_sb l9 i ||| 2 ^ i = ln_sb l9 (i + 1) from (by rw [ln_sb, if_pos (by omega)])]; exact ih _ (by omega) (i + 1) rfl (by omega)) | (rw [show ln_sb l9 i ||| 0 = ln_sb l9 (i + 1) from (by rw [ln_sb, if_neg (by omega)])]; exact ih _ (by omega) (i + 1) rfl (by omega))
      · have h2l := two_lt64 (show i < 6 by omega)
        refine az_iconst (v := nI 1) dX12_kindsIn_22 ?_
        refine az_iload_n dX12_kindsIn_23 ?_
        refine az_ishl1N dX12_kindsIn_24 ?_
        refine az_goto (tgt := 29) dX12_kindsIn_25 ?_
        refine az_iorN dX12_kindsIn_29 ?_
        refine az_istore_n (ls' := [(0, .ref 64), (1, .int (nI ((ln_sb l9 i) ||| (2 ^ i)))), (2, .int (nI i))]) dX12_kindsIn_30 ?_
        refine az_iincN (n := 1) (ls' := [(0, .ref 64), (1, .int (nI ((ln_sb l9 i) ||| (2 ^ i)))), (2, .int (nI (i + 1)))]) dX12_kindsIn_31 ?_
        refine az_goto (tgt := 4) dX12_kindsIn_34 ?_
        first | (rw [show ln_sb l9 i ||| 2 ^ i = ln_sb l9 (i + 1) from (by rw [ln_sb, if_pos (by omega)])]; exact ih _ (by omega) (i + 1) rfl (by omega)) | (rw [show ln_sb l9 i ||| 0 = ln_sb l9 (i + 1) from (by rw [ln_sb, if_neg (by omega)])]; exact ih _ (by omega) (i + 1) rfl (by omega))
  refine az_M.of rfl (Nat.le_of_ble_eq_true rfl) ?_
  show az_W _ _ _ _ 0 [(0, .ref 64)] [] _ _
  refine az_iconst (v := nI 0) dX12_kindsIn_0 ?_
  refine az_istore_n (ls' := [(0, .ref 64), (1, .int (nI 0))]) dX12_kindsIn_1 ?_
  refine az_iconst (v := nI 0) dX12_kindsIn_2 ?_
  refine az_istore_n (ls' := [(0, .ref 64), (1, .int (nI 0)), (2, .int (nI 0))]) dX12_kindsIn_3 ?_
  exact loop _ 0 rfl (Nat.zero_le _)
theorem ca_s {w : ln_W} {tb s c : Nat} : ln_ca w tb s (c + 1) = if s >>> c &&& 1 = 0 then ln_ca w tb s c else ln_ca w tb s c ||| ln_cb w (tb * 6 + c) (ln_sz w (tb * 6 + c)) := rfl
def kx (w : ln_W) (tb s c i : Nat) : Nat := if s >>> c &&& 1 = 0 then ln_ca w tb s c else ln_ca w tb s c ||| ln_cb w (tb * 6 + c) i
theorem kx_0 {w : ln_W} {tb s c : Nat} : kx w tb s c 0 = ln_ca w tb s c := by
  rw [kx]
  split
  · rfl
  · rw [ln_cb, Nat.or_zero]
set_option maxHeartbeats 4000000 in
set_option maxRecDepth 100000 in
theorem m_kindsTo {d tb : Nat} {sc : Nat → Value} {A : Nat → Nat} {v : rd_V} {hp : az_Hp} {Q : Option Value → az_Hp → Prop} {s : Nat} (hd : 1 ≤ d) (hw : ln_ok (rd_w v)) (h64 : hp.2 64 = some (mo_o sc)) (h65 : hp.2 65 = some (az_I 3318 (fun j => nI (A j)))) (hV : mV A v) (h3 : tb < 3) (hs : s < 64) (hQ : Q (some (.int (nI (ln_ca (rd_w v) tb s 6)))) hp) : az_M mX12_kindsTo d 0 0 [.ref 64, .int (nI s), .int (nI tb)] hp Q := by
  have loop : ∀ (k : Nat) (c i to : Nat), (6 - c) * 10 + (4 - i) = k → (c < 6) → (i ≤ ln_sz (rd_w v) (tb * 6 + c)) → (to = kx (rd_w v) tb s c i) → (to < 64) → az_W mX12_kindsTo d 0 0 15 [(0, .ref 64), (1, .int (nI s)), (2, .int (nI tb)), (3, .int (nI to)), (4, .int (nI c)), (5, .int (nI i))] [] hp Q := by
    intro k
    induction k using Nat.strongRecOn with
    | _ k ih =>
    intro c i to hk hc hi hto htl
    have hz4 := hw.2.2.2.2.2.2.1 (tb * 6 + c)
    refine az_iload dX12_kindsTo_15 ?_
    refine az_aload_n dX12_kindsTo_17 ?_
    refine az_iload_n dX12_kindsTo_18 ?_
    refine az_iload dX12_kindsTo_19 ?_
    refine az_cV0 (st := [.int (nI i)]) dX12_kindsTo_21 ml_X12_239 h64 (m_becomeMany (d := d - 1) (v := v) (tb := tb) (x := c) h64 h65 hV h3 (by omega) ?_)
    refine az_icmp_geN (tgt := 57) dX12_kindsTo_24 (fun c24 => ?_) (fun c24 => ?_)
    · refine az_iincN (n := 1) (ls' := [(0, .ref 64), (1, .int (nI s)), (2, .int (nI tb)), (3, .int (nI to)), (4, .int (nI (c + 1))), (5, .int (nI i))]) dX12_kindsTo_57 ?_
      refine az_goto (tgt := 5) dX12_kindsTo_60 ?_
      refine az_iload dX12_kindsTo_5 ?_
      refine az_bipush (v := nI 6) dX12_kindsTo_7 ?_
      refine az_icmp_geN (tgt := 63) dX12_kindsTo_9 (fun c9 => ?_) (fun c9 => ?_)
      · refine az_iload_n dX12_kindsTo_63 ?_
        exact az_iret dX12_kindsTo_64 (by obtain rfl : c = 5 := (by omega); first | (have _g := hno; rw [ca_s, if_pos hno] at hQ; rw [hto, kx, if_pos hno]; exact hQ) | (rw [hto, show i = ln_sz (rd_w v) (tb * 6 + 5) by omega]; exact hQ))
      · refine az_iconst (v := nI 0) dX12_kindsTo_12 ?_
        refine az_istore (ls' := [(0, .ref 64), (1, .int (nI s)), (2, .int (nI tb)), (3, .int (nI to)), (4, .int (nI (c + 1))), (5, .int (nI 0))]) dX12_kindsTo_13 ?_
        first | (have _g := hyes; exact ih _ (by omega) c (i + 1) (to ||| 2 ^ ln_ch (rd_w v) ((tb * 6 + c) * 4 + i)) rfl hc (by omega) (by rw [hto, kx, kx, if_neg hyes, if_neg hyes, ln_cb, Nat.or_assoc]) (or_lt64 htl h2l)) | (have _g := hno; exact ih _ (by omega) (c + 1) 0 to rfl (by omega) (by omega) (by rw [hto, kx_0, kx, if_pos hno, ca_s, if_pos hno]) htl) | exact ih _ (by omega) (c + 1) 0 to rfl (by omega) (by omega) (by rw [hto, show i = ln_sz (rd_w v) (tb * 6 + c) by omega, kx_0]; rfl) htl
    · refine az_iload_n dX12_kindsTo_27 ?_
      refine az_i2lN dX12_kindsTo_28 ?_
      refine az_iload dX12_kindsTo_29 ?_
      refine az_cS0 (st := []) dX12_kindsTo_31 ml_X12_401 (m_isIn (d := d - 1) (s := s) (k9 := c) hs (by omega) ?_ ?_)
      · intro hyes
        refine az_if_eqN (tgt := 57) dX12_kindsTo_34 (fun c34 => ?_) (fun c34 => ?_)
        · exact absurd c34 (by omega)
        · refine az_iload_n dX12_kindsTo_37 ?_
          refine az_iconst (v := nI 1) dX12_kindsTo_38 ?_
          refine az_aload_n dX12_kindsTo_39 ?_
          refine az_iload_n dX12_kindsTo_40 ?_
          refine az_iload dX12_kindsTo_41 ?_
          refine az_iload dX12_kindsTo_43 ?_
          refine az_cV0 (st := [.int (nI 1), .int (nI to)]) dX12_kindsTo_45 ml_X12_242 h64 (m_becomeOf (d := d - 1) (v := v) (tb := tb) (x := c) (i := i) h64 h65 hV hw h3 (by omega) (by omega) ?_)
          have hc6 := hw.2.2.2.2.2.2.2.1 ((tb * 6 + c) * 4 + i)
          have h2l := two_lt64 hc6
          refine az_ishl1N dX12_kindsTo_48 ?_
          refine az_iorN dX12_kindsTo_49 ?_
          refine az_istore_n (ls' := [(0, .ref 64), (1, .int (nI s)), (2, .int (nI tb)), (3, .int (nI (to ||| (2 ^ (ln_ch (rd_w v) ((tb * 6 + c) * 4 + i)))))), (4, .int (nI c)), (5, .int (nI i))]) dX12_kindsTo_50 ?_
          refine az_iincN (n := 1) (ls' := [(0, .ref 64), (1, .int (nI s)), (2, .int (nI tb)), (3, .int (nI (to ||| (2 ^ (ln_ch (rd_w v) ((tb * 6 + c) * 4 + i)))))), (4, .int (nI c)), (5, .int (nI (i + 1)))]) dX12_kindsTo_51 ?_
          refine az_goto (tgt := 15) dX12_kindsTo_54 ?_
          first | (have _g := hyes; exact ih _ (by omega) c (i + 1) (to ||| 2 ^ ln_ch (rd_w v) ((tb * 6 + c) * 4 + i)) rfl hc (by omega) (by rw [hto, kx, kx, if_neg hyes, if_neg hyes, ln_cb, Nat.or_assoc]) (or_lt64 htl h2l)) | (have _g := hno; exact ih _ (by omega) (c + 1) 0 to rfl (by omega) (by omega) (by rw [hto, kx_0, kx, if_pos hno, ca_s, if_pos hno]) htl) | exact ih _ (by omega) (c + 1) 0 to rfl (by omega) (by omega) (by rw [hto, show i = ln_sz (rd_w v) (tb * 6 + c) by omega, kx_0]; rfl) htl
      · intro hno
        refine az_if_eqN (tgt := 57) dX12_kindsTo_34 (fun c34 => ?_) (fun c34 => ?_)
        · refine az_iincN (n := 1) (ls' := [(0, .ref 64), (1, .int (nI s)), (2, .int (nI tb)), (3, .int (nI to)), (4, .int (nI (c + 1))), (5, .int (nI i))]) dX12_kindsTo_57 ?_
          refine az_goto (tgt := 5) dX12_kindsTo_60 ?_
          refine az_iload dX12_kindsTo_5 ?_
          refine az_bipush (v := nI 6) dX12_kindsTo_7 ?_
          refine az_icmp_geN (tgt := 63) dX12_kindsTo_9 (fun c9 => ?_) (fun c9 => ?_)
          · refine az_iload_n dX12_kindsTo_63 ?_
            exact az_iret dX12_kindsTo_64 (by obtain rfl : c = 5 := (by omega); first | (have _g := hno; rw [ca_s, if_pos hno] at hQ; rw [hto, kx, if_pos hno]; exact hQ) | (rw [hto, show i = ln_sz (rd_w v) (tb * 6 + 5) by omega]; exact hQ))
          · refine az_iconst (v := nI 0) dX12_kindsTo_12 ?_
            refine az_istore (ls' := [(0, .ref 64), (1, .int (nI s)), (2, .int (nI tb)), (3, .int (nI to)), (4, .int (nI (c + 1))), (5, .int (nI 0))]) dX12_kindsTo_13 ?_
            first | (have _g := hyes; exact ih _ (by omega) c (i + 1) (to ||| 2 ^ ln_ch (rd_w v) ((tb * 6 + c) * 4 + i)) rfl hc (by omega) (by rw [hto, kx, kx, if_neg hyes, if_neg hyes, ln_cb, Nat.or_assoc]) (or_lt64 htl h2l)) | (have _g := hno; exact ih _ (by omega) (c + 1) 0 to rfl (by omega) (by omega) (by rw [hto, kx_0, kx, if_pos hno, ca_s, if_pos hno]) htl) | exact ih _ (by omega) (c + 1) 0 to rfl (by omega) (by omega) (by rw [hto, show i = ln_sz (rd_w v) (tb * 6 + c) by omega, kx_0]; rfl) htl
        · exact absurd c34 (by omega)
  refine az_M.of rfl (Nat.le_of_ble_eq_true rfl) ?_
  show az_W _ _ _ _ 0 [(0, .ref 64), (1, .int (nI s)), (2, .int (nI tb))] [] _ _
  refine az_iconst (v := nI 0) dX12_kindsTo_0 ?_
  refine az_istore_n (ls' := [(0, .ref 64), (1, .int (nI s)), (2, .int (nI tb)), (3, .int (nI 0))]) dX12_kindsTo_1 ?_
  refine az_iconst (v := nI 0) dX12_kindsTo_2 ?_
  refine az_istore (ls' := [(0, .ref 64), (1, .int (nI s)), (2, .int (nI tb)), (3, .int (nI 0)), (4, .int (nI 0))]) dX12_kindsTo_3 ?_
  refine az_iload dX12_kindsTo_5 ?_
  refine az_bipush (v := nI 6) dX12_kindsTo_7 ?_
  refine az_icmp_geN (tgt := 63) dX12_kindsTo_9 (fun c9 => ?_) (fun c9 => ?_)
  · exact absurd c9 (by omega)
  · refine az_iconst (v := nI 0) dX12_kindsTo_12 ?_
    refine az_istore (ls' := [(0, .ref 64), (1, .int (nI s)), (2, .int (nI tb)), (3, .int (nI 0)), (4, .int (nI 0)), (5, .int (nI 0))]) dX12_kindsTo_13 ?_
    exact loop _ 0 0 0 rfl (by decide) (Nat.zero_le _) (by rw [kx_0]; rfl) (by decide)

