/-! The model: longBy, tables -/
set_option maxHeartbeats 4000000 in
set_option maxRecDepth 100000 in
theorem m_laysLongRows {d : Nat} {sc : Nat → Value} {A : Nat → Nat} {v : rd_V} {mo ni : Nat} {bs : List Nat} {hp : az_Hp} {Q : Option Value → az_Hp → Prop} {n : Nat} {y : Nat × List Int64} {rm : Nat → Int32} {nu : Nat → Int64} (hd : 14 ≤ d) (hw : ln_ok (rd_w v)) (hb : ln_by (rd_w v) bs) (h64 : hp.2 64 = some (mo_o sc)) (h65 : hp.2 65 = some (az_I 3318 (fun j => nI (A j)))) (hT : mT A v (mo, ni, bs)) (hk : mk hp) (h91 : hp.2 91 = some (az_I 4 rm)) (h92 : hp.2 92 = some (az_J 160 nu)) (hn : n < 4) (r2 : rm n = nI y.2.length) (hy8 : y.2.length ≤ 8) (r5 : ∀ j, j < y.2.length → nu (40 * n + j) = y.2.getD j 0) (hQ : ∀ (h' : az_Hp) (ti bh : Nat → Nat), h'.2 64 = some (mo_o (su sc 37 (.int (nI (fu_lg (rd_w v) (fun j => y.2.getD j 0) y.2.length 0 (fun x => (ln_str (rd_w v) bs).count x)).length)))) → h'.2 84 = some (az_I 8 (fun j => nI (ti j))) → h'.2 85 = some (az_J 19683 (fun j => lN (bh j))) → mlR ti bh (rd_w v) (fun x => (ln_str (rd_w v) bs).count x) (fu_lg (rd_w v) (fun j => y.2.getD j 0) y.2.length 0 (fun x => (ln_str (rd_w v) bs).count x)) → mk h' → mf hp h' [64, 71, 81, 83, 84, 85] → Q (some (.int (nI (fu_lg (rd_w v) (fun j => y.2.getD j 0) y.2.length 0 (fun x => (ln_str (rd_w v) bs).count x)).length))) h') : az_M mX12_laysLongRows d 0 0 [.ref 64, .int (nI n)] hp Q := by
  have hr3 : 3 ^ y.2.length ≤ 3 ^ 8 := Nat.pow_le_pow_right (by decide) hy8
  have hr9 : 3 ^ 8 = 6561 := rfl
  have loop : ∀ (k : Nat) (g1 b9 : Nat → Nat) (fd : Nat → Int32) (hg1 : ∀ c, c < 6 → g1 c = (ln_str (rd_w v) bs).count c) (i : Nat) (t9 : Nat → Nat) (h' : az_Hp), 8 - i = k → (i ≤ 8) → (h'.2 64 = some (mo_o (su sc 37 (.int (nI 0))))) → (h'.2 81 = some (az_J 84 (fun j => lN (g1 j)))) → (h'.2 83 = some (az_I 8 fd)) → (h'.2 84 = some (az_I 8 (fun j => nI (t9 j)))) → (h'.2 85 = some (az_J 19683 (fun j => lN (b9 j)))) → (∀ j, j < i → t9 j = 0) → (mf hp h' [64, 71, 81, 83, 84, 85]) → (mk h') → az_W mX12_laysLongRows d 0 0 11 [(0, .ref 64), (1, .int (nI n)), (2, .int (nI i))] [] h' Q := by
    intro k
    induction k using Nat.strongRecOn with
    | _ k ih =>
    intro g1 b9 fd hg1 i t9 h' hk hi b64 b81 b83 b84 b85 hF mf1 mk1'
    refine az_iload_n dX12_laysLongRows_11 ?_
    refine az_bipush (v := nI 8) dX12_laysLongRows_12 ?_
    refine az_icmp_geN (tgt := 30) dX12_laysLongRows_14 (fun c14 => ?_) (fun c14 => ?_)
    · refine az_aload_n dX12_laysLongRows_30 ?_
      refine az_iload_n dX12_laysLongRows_31 ?_
      refine az_iconst (v := nI 0) dX12_laysLongRows_32 ?_
      refine az_cV0 (st := []) dX12_laysLongRows_33 ml_X12_459 b64 (m_goesLong (sc := sc) (A := A) (v := v) (n := n) (y := y) (wa := fun j => y.2.getD j 0) (C := (fun x => (ln_str (rd_w v) bs).count x)) hw hT.1 hn (fun _ => rfl) r2 hy8 r5 y.2.length (d := d - 1) (gone := 0) (p := []) (R := []) (gm := g1) (fd := fd) (ti := t9) (bh := b9) (cf := (fun x => (ln_str (rd_w v) bs).count x)) (by omega) (Nat.zero_add _) rfl (fun j hj => absurd hj (by omega)) rfl (by show 0 + _ ≤ _; omega) b64 (mf1.at h65) b81 (fun c hc => (by rw [show 6 * 0 + c = c by omega]; exact hg1 c hc)) b83 b84 b85 (mf1.at h91) (mf1.at h92) ⟨fun j hj => (by rw [hF j (by omega)]; rfl), fun tb j h1 h2 => absurd h2 (by show ¬ j < 0; omega)⟩ (str_cap hw hb (by omega)) ?_)
      intro h3 g3 fd3 t3 b3 d64 d81 p1 d83 p2 d84 d85 dm m3 k3
      rw [List.nil_append, List.map_congr_left (g := id) (fun r _ => List.nil_append r), List.map_id] at d64 dm
      refine az_aload_n dX12_laysLongRows_36 ?_
      refine az_getf (v := .int (nI ((fu_lg (rd_w v) (fun j => y.2.getD j 0) y.2.length 0 (fun x => (ln_str (rd_w v) bs).count x)).length))) dX12_laysLongRows_37 fl_X12_456 d64 ?_
      exact az_iret dX12_laysLongRows_40 (hQ h3 t3 b3 d64 d84 d85 dm (k3 mk1') (mf1.tr (m3.wk (L' := [64, 71, 81, 83, 84, 85])) (by decide)))
    · refine az_aload_n dX12_laysLongRows_17 ?_
      refine az_getf (v := .ref 84) dX12_laysLongRows_18 fl_X12_76 b64 ?_
      refine az_iload_n dX12_laysLongRows_21 ?_
      refine az_iconst (v := nI 0) dX12_laysLongRows_22 ?_
      refine az_iastN (j := i) dX12_laysLongRows_23 b84 ?_
      rw [az_s_nI]
      refine az_iincN (n := 1) (ls' := [(0, .ref 64), (1, .int (nI n)), (2, .int (nI (i + 1)))]) dX12_laysLongRows_24 ?_
      refine az_goto (tgt := 11) dX12_laysLongRows_27 ?_
      exact ih _ (by omega) g1 b9 fd hg1 (i + 1) (az_s t9 i 0) _ rfl (by omega) (az_up_ne b64) (az_up_ne b81) (az_up_ne b83) az_up_eq (az_up_ne b85) (fun j hj => (by by_cases e : j = i; rw [e, az_s_eq]; rw [az_s_ne e]; exact hF j (by omega))) (mf1.up (by decide)) (mk.uI mk1' rfl)
  refine az_M.of rfl (Nat.le_of_ble_eq_true rfl) ?_
  show az_W _ _ _ _ 0 [(0, .ref 64), (1, .int (nI n))] [] _ _
  refine az_aload_n dX12_laysLongRows_0 ?_
  refine az_cV0 (st := []) dX12_laysLongRows_1 ml_X12_424 h64 (m_laysMany (d := d - 1) (by omega) hw hb h64 h65 hT hk ?_)
  intro h2 gm c81 hgm mk2 mf2
  obtain ⟨f83, c83⟩ := mk2.I (q := 83) (n := 8)
  obtain ⟨f84, c84⟩ := mk2.I (q := 84) (n := 8)
  obtain ⟨g84, rfl⟩ := nI_ex f84
  obtain ⟨f85, c85⟩ := mk2.J (q := 85) (n := 19683)
  obtain ⟨g85, rfl⟩ := lN_ex f85
  refine az_aload_n dX12_laysLongRows_4 ?_
  refine az_iconst (v := nI 0) dX12_laysLongRows_5 ?_
  refine az_putf (fs' := [sc 0, .ref 65, .ref 66, .ref 67, .ref 68, sc 5, fI (sc 6), sc 7, sc 8, fI (sc 9), fI (sc 10), sc 11, fI (sc 12), sc 13, sc 14, .ref 69, .ref 70, .ref 71, sc 18, .ref 72, .ref 73, .ref 74, sc 22, sc 23, .ref 75, sc 25, .ref 76, .ref 77, .ref 78, sc 29, .ref 79, .ref 80, .ref 81, .ref 82, .ref 83, .ref 84, .ref 85, .int (nI 0), .ref 86, .ref 87, .ref 88, .ref 89, .ref 90, .ref 91, .ref 92]) dX12_laysLongRows_6 fl_X12_456 (mf2.at h64) ?_
  refine az_iconst (v := nI 0) dX12_laysLongRows_9 ?_
  refine az_istore_n (ls' := [(0, .ref 64), (1, .int (nI n)), (2, .int (nI 0))]) dX12_laysLongRows_10 ?_
  exact loop _ gm g85 f83 hgm 0 g84 _ rfl (Nat.zero_le _) az_up_eq (az_up_ne c81) (az_up_ne c83) (az_up_ne c84) (az_up_ne c85) (fun j hj => absurd hj (by omega)) ((mf2.wk (L' := [64, 71, 81, 83, 84, 85])).up (by decide)) (mk.uO mk2)

set_option maxHeartbeats 4000000 in
set_option maxRecDepth 100000 in
theorem q_longBy {d : Nat} {x : Int32} {tp fk mo ni : Nat} {bt : Nat → Nat} {fp : Int32} {v : rd_V} {bs : List Nat} {U : ln_U} {im : Nat → Option (rd_V × ln_Z)} {tr : Nat → Option (Nat × List Int64)} {hp : az_Hp} {Q : Option Value → az_Hp → Prop} (hd : 16 ≤ d) (hok : cs_ok ((tp, bt), (fk, fp), v, (mo, ni, bs), U, im, tr)) (hM : mm hp ((tp, bt), (fk, fp), v, (mo, ni, bs), U, im, tr)) (hQ2 : (∀ n, n < 4 → x ≠ nI n) → ∀ h', mm h' ((tp, bt), (fk, fp), v, (mo, ni, bs), U, im, tr) → az_fr hp h' 64 93 → Q (some (.int (-2))) h') (hQ6 : ∀ n, x = nI n → n < 4 → tr n = none → ∀ h', mm h' ((tp, bt), (fk, fp), v, (mo, ni, bs), U, im, tr) → az_fr hp h' 64 93 → Q (some (.int (-6))) h') (hQ4 : ∀ n y, x = nI n → n < 4 → tr n = some y → ¬ (1 ≤ y.2.length ∧ y.2.length ≤ 8) → ∀ h', mm h' ((tp, bt), (fk, fp), v, (mo, ni, bs), U, im, tr) → az_fr hp h' 64 93 → Q (some (.int (-4))) h') (hQ3 : ∀ n y, x = nI n → n < 4 → tr n = some y → 1 ≤ y.2.length → y.2.length ≤ 8 → ¬ cs_ln y.2 (-1) → ∀ h', mm h' ((tp, bt), (fk, fp), v, (mo, ni, bs), U, im, tr) → az_fr hp h' 64 93 → Q (some (.int (-3))) h') (hQ : ∀ n y, x = nI n → n < 4 → tr n = some y → 1 ≤ y.2.length → y.2.length ≤ 8 → cs_ln y.2 (-1) → ∀ h', mm h' ((tp, bt), (fk, fp), v, (mo, ni, bs), U, im, tr) → az_fr hp h' 64 93 → Q (some (.int (nI (fu_lg (rd_w v) (fun j => y.2.getD j 0) y.2.length 0 (fun x => (ln_str (rd_w v) bs).count x)).length))) h') : az_M mX12_longBy d 0 0 [.ref 64, .int x] hp Q := by
  obtain ⟨sc0, A0, tf0, hI0, rs0, rm0, nu0, o1, o2, -⟩ := id hM
  have hgd : rd_good v := hok.2.2.1
  have hw : ln_ok (rd_w v) := hgd.1
  have hba : ln_ba (rd_w v) bs := hok.2.2.2.1
  have hb : ln_by (rd_w v) bs := hba.b
  have hlen := hb.2.2
  have h60 := hb.1
  have hU10 : U.length ≤ 10 := hok.2.2.2.2.1
  have ht1 := hw.1
  have ht3 := hw.2.1
  refine az_M.of rfl (Nat.le_of_ble_eq_true rfl) ?_
  show az_W _ _ _ _ 0 [(0, .ref 64), (1, .int x)] [] _ _
  refine az_aload_n dX12_longBy_0 ?_
  refine az_iconst (v := nI 0) dX12_longBy_1 ?_
  refine az_putf (fs' := [.int (nI 0), .ref 65, .ref 66, .ref 67, .ref 68, sc0 5, fI (sc0 6), sc0 7, sc0 8, fI (sc0 9), fI (sc0 10), sc0 11, fI (sc0 12), sc0 13, sc0 14, .ref 69, .ref 70, .ref 71, sc0 18, .ref 72, .ref 73, .ref 74, sc0 22, sc0 23, .ref 75, sc0 25, .ref 76, .ref 77, .ref 78, sc0 29, .ref 79, .ref 80, .ref 81, .ref 82, .ref 83, .ref 84, .ref 85, sc0 37, .ref 86, .ref 87, .ref 88, .ref 89, .ref 90, .ref 91, .ref 92]) dX12_longBy_2 fl_X12_1 o1 ?_
  obtain ⟨h1, hf1, hM1, hh1⟩ : ∃ h1, az_fr hp h1 64 93 ∧ mm h1 ((tp, bt), (fk, fp), v, (mo, ni, bs), U, im, tr) ∧ h1 = az_up hp 64 (mo_o (su sc0 0 (.int (nI 0)))) := ⟨_, az_fr.rf.up, hM.O (sc := su sc0 0 (.int (nI 0))) o2.1 o2.2.1 o2.2.2, rfl⟩
  rw [show (az_up hp 64 (az_O 11 [.int (nI 0), .ref 65, .ref 66, .ref 67, .ref 68, sc0 5, fI (sc0 6), sc0 7, sc0 8, fI (sc0 9), fI (sc0 10), sc0 11, fI (sc0 12), sc0 13, sc0 14, .ref 69, .ref 70, .ref 71, sc0 18, .ref 72, .ref 73, .ref 74, sc0 22, sc0 23, .ref 75, sc0 25, .ref 76, .ref 77, .ref 78, sc0 29, .ref 79, .ref 80, .ref 81, .ref 82, .ref 83, .ref 84, .ref 85, sc0 37, .ref 86, .ref 87, .ref 88, .ref 89, .ref 90, .ref 91, .ref 92])) = h1 from hh1.symm]
  obtain ⟨sc, A, tf, hI, rs, rm, nu, a1, a2, a3, a4, a5, a6, a7, a8, a9, a10, a11, a12, a13, a14⟩ := id hM1
  have a4 : mT A v (mo, ni, bs) := a4
  have a5 : mU A U := a5
  have a7 : mI A hI im := a7
  have a9 : ∀ j, j < tp → tf j = bt j := a9
  have a13 : mR rs rm nu tr := a13
  refine az_aload_n dX12_longBy_5 ?_
  refine az_iload_n dX12_longBy_6 ?_
  refine az_iconst (v := (-1)) dX12_longBy_7 ?_
  refine az_cV0 (st := []) dX12_longBy_8 ml_X12_462 a1 (m_noLong (d := d - 1) (lo := -1) (by omega) a1 a10 a11 a12 a13 ?_ ?_ ?_ ?_ ?_)
  · intro hno
    refine az_istore_n (ls' := [(0, .ref 64), (1, .int x), (2, .int ((-2)))]) dX12_longBy_11 ?_
    refine az_iload_n dX12_longBy_12 ?_
    refine az_if_eq (tgt := 20) dX12_longBy_13 (fun c13 => ?_) (fun c13 => ?_)
    · exact absurd c13 (by decide)
    · refine az_iload_n dX12_longBy_16 ?_
      refine az_goto (tgt := 25) dX12_longBy_17 ?_
      exact az_iret dX12_longBy_25 (by first | (have _g := mk2; exact hQ n y rfl hn hy h1' h8' hln h2 (hM1.of (L := [64, 71, 81, 83, 84, 85]) mf2 (by decide) mk2 c64 a2.1 a2.2.1 a2.2.2) (hf1.tr mf2.fr)) | exact hQ2 hno h1 hM1 hf1 | exact hQ6 n hx hn hno h1 hM1 hf1 | exact hQ4 n y hx hn hy hno h1 hM1 hf1 | exact hQ3 n y hx hn hy h1' h8' hno h1 hM1 hf1)
  · intro n hx hn hno
    refine az_istore_n (ls' := [(0, .ref 64), (1, .int x), (2, .int ((-6)))]) dX12_longBy_11 ?_
    refine az_iload_n dX12_longBy_12 ?_
    refine az_if_eq (tgt := 20) dX12_longBy_13 (fun c13 => ?_) (fun c13 => ?_)
    · exact absurd c13 (by decide)
    · refine az_iload_n dX12_longBy_16 ?_
      refine az_goto (tgt := 25) dX12_longBy_17 ?_
      exact az_iret dX12_longBy_25 (by first | (have _g := mk2; exact hQ n y rfl hn hy h1' h8' hln h2 (hM1.of (L := [64, 71, 81, 83, 84, 85]) mf2 (by decide) mk2 c64 a2.1 a2.2.1 a2.2.2) (hf1.tr mf2.fr)) | exact hQ2 hno h1 hM1 hf1 | exact hQ6 n hx hn hno h1 hM1 hf1 | exact hQ4 n y hx hn hy hno h1 hM1 hf1 | exact hQ3 n y hx hn hy h1' h8' hno h1 hM1 hf1)
  · intro n y hx hn hy hno
    refine az_istore_n (ls' := [(0, .ref 64), (1, .int x), (2, .int ((-4)))]) dX12_longBy_11 ?_
    refine az_iload_n dX12_longBy_12 ?_
    refine az_if_eq (tgt := 20) dX12_longBy_13 (fun c13 => ?_) (fun c13 => ?_)
    · exact absurd c13 (by decide)
    · refine az_iload_n dX12_longBy_16 ?_
      refine az_goto (tgt := 25) dX12_longBy_17 ?_
      exact az_iret dX12_longBy_25 (by first | (have _g := mk2; exact hQ n y rfl hn hy h1' h8' hln h2 (hM1.of (L := [64, 71, 81, 83, 84, 85]) mf2 (by decide) mk2 c64 a2.1 a2.2.1 a2.2.2) (hf1.tr mf2.fr)) | exact hQ2 hno h1 hM1 hf1 | exact hQ6 n hx hn hno h1 hM1 hf1 | exact hQ4 n y hx hn hy hno h1 hM1 hf1 | exact hQ3 n y hx hn hy h1' h8' hno h1 hM1 hf1)
  · intro n y hx hn hy h1' h8' hno
    rw [show (-1 : Int32).toInt64 = -1 from (by decide)] at hno
    refine az_istore_n (ls' := [(0, .ref 64), (1, .int x), (2, .int ((-3)))]) dX12_longBy_11 ?_
    refine az_iload_n dX12_longBy_12 ?_
    refine az_if_eq (tgt := 20) dX12_longBy_13 (fun c13 => ?_) (fun c13 => ?_)
    · exact absurd c13 (by decide)
    · refine az_iload_n dX12_longBy_16 ?_
      refine az_goto (tgt := 25) dX12_longBy_17 ?_
      exact az_iret dX12_longBy_25 (by first | (have _g := mk2; exact hQ n y rfl hn hy h1' h8' hln h2 (hM1.of (L := [64, 71, 81, 83, 84, 85]) mf2 (by decide) mk2 c64 a2.1 a2.2.1 a2.2.2) (hf1.tr mf2.fr)) | exact hQ2 hno h1 hM1 hf1 | exact hQ6 n hx hn hno h1 hM1 hf1 | exact hQ4 n y hx hn hy hno h1 hM1 hf1 | exact hQ3 n y hx hn hy h1' h8' hno h1 hM1 hf1)
  · intro n y hx hn hy h1' h8' hln
    rw [show (-1 : Int32).toInt64 = -1 from (by decide)] at hln
    have h3 := a13 n hn
    rw [hy] at h3
    obtain ⟨r1, r2, r3, r4, r5⟩ := h3
    refine az_istore_n (ls' := [(0, .ref 64), (1, .int x), (2, .int (nI 0))]) dX12_longBy_11 ?_
    refine az_iload_n dX12_longBy_12 ?_
    refine az_if_eqN (tgt := 20) dX12_longBy_13 (fun c13 => ?_) (fun c13 => ?_)
    · subst hx
      refine az_aload_n dX12_longBy_20 ?_
      refine az_iload_n dX12_longBy_21 ?_
      refine az_cV0 (st := []) dX12_longBy_22 ml_X12_465 a1 (m_laysLongRows (d := d - 1) (n := n) (y := y) (by omega) hw hb a1 a3 a4 a14 a11 a12 hn r2 h8' r5 ?_)
      intro h2 ti bh c64 c84 c85 hml mk2 mf2
      exact az_iret dX12_longBy_25 (by first | (have _g := mk2; exact hQ n y rfl hn hy h1' h8' hln h2 (hM1.of (L := [64, 71, 81, 83, 84, 85]) mf2 (by decide) mk2 c64 a2.1 a2.2.1 a2.2.2) (hf1.tr mf2.fr)) | exact hQ2 hno h1 hM1 hf1 | exact hQ6 n hx hn hno h1 hM1 hf1 | exact hQ4 n y hx hn hy hno h1 hM1 hf1 | exact hQ3 n y hx hn hy h1' h8' hno h1 hM1 hf1)
    · exact absurd c13 (by omega)
set_option maxHeartbeats 4000000 in
set_option maxRecDepth 100000 in
theorem q_tables {d : Nat} {x xi : Int32} {tp fk mo ni : Nat} {bt : Nat → Nat} {fp : Int32} {v : rd_V} {bs : List Nat} {U : ln_U} {im : Nat → Option (rd_V × ln_Z)} {tr : Nat → Option (Nat × List Int64)} {hp : az_Hp} {Q : Option Value → az_Hp → Prop} (hd : 16 ≤ d) (hok : cs_ok ((tp, bt), (fk, fp), v, (mo, ni, bs), U, im, tr)) (hM : mm hp ((tp, bt), (fk, fp), v, (mo, ni, bs), U, im, tr)) (hQ2 : (∀ n, n < 4 → x ≠ nI n) → ∀ h', mm h' ((tp, bt), (fk, fp), v, (mo, ni, bs), U, im, tr) → az_fr hp h' 64 93 → Q (some (.int (-2))) h') (hQ6 : ∀ n, x = nI n → n < 4 → tr n = none → ∀ h', mm h' ((tp, bt), (fk, fp), v, (mo, ni, bs), U, im, tr) → az_fr hp h' 64 93 → Q (some (.int (-6))) h') (hQ4 : ∀ n y, x = nI n → n < 4 → tr n = some y → ¬ (1 ≤ y.2.length ∧ y.2.length ≤ 8) → ∀ h', mm h' ((tp, bt), (fk, fp), v, (mo, ni, bs), U, im, tr) → az_fr hp h' 64 93 → Q (some (.int (-4))) h') (hQ3 : ∀ n y, x = nI n → n < 4 → tr n = some y → 1 ≤ y.2.length → y.2.length ≤ 8 → ¬ cs_ln y.2 (-1) → ∀ h', mm h' ((tp, bt), (fk, fp), v, (mo, ni, bs), U, im, tr) → az_fr hp h' 64 93 → Q (some (.int (-3))) h') (hQi : ∀ n y, x = nI n → n < 4 → tr n = some y → 1 ≤ y.2.length → y.2.length ≤ 8 → cs_ln y.2 (-1) → xi < 0 → ∀ h', mm h' ((tp, bt), (fk, fp), v, (mo, ni, bs), U, im, tr) → az_fr hp h' 64 93 → Q (some (.int (-3))) h') (hQ7 : ∀ n y i, x = nI n → n < 4 → tr n = some y → 1 ≤ y.2.length → y.2.length ≤ 8 → cs_ln y.2 (-1) → xi = nI i → i < 2 ^ 31 → y.2.length ≤ i → ∀ h', mm h' ((tp, bt), (fk, fp), v, (mo, ni, bs), U, im, tr) → az_fr hp h' 64 93 → Q (some (.int (-7))) h') (hQ : ∀ n y i, x = nI n → n < 4 → tr n = some y → 1 ≤ y.2.length → y.2.length ≤ 8 → cs_ln y.2 (-1) → xi = nI i → i < y.2.length → ∀ h', mm h' ((tp, bt), (fk, fp), v, (mo, ni, bs), U, im, tr) → az_fr hp h' 64 93 → Q (some (.int (nI (fu_or i (fu_lg (rd_w v) (fun j => y.2.getD j 0) y.2.length 0 (fun x => (ln_str (rd_w v) bs).count x)))))) h') : az_M mX12_tables d 0 0 [.ref 64, .int x, .int xi] hp Q := by
  obtain ⟨sc0, A0, tf0, hI0, rs0, rm0, nu0, o1, o2, -⟩ := id hM
  have hgd : rd_good v := hok.2.2.1
  have hw : ln_ok (rd_w v) := hgd.1
  have hba : ln_ba (rd_w v) bs := hok.2.2.2.1
  have hb : ln_by (rd_w v) bs := hba.b
  have hlen := hb.2.2
  have h60 := hb.1
  have hU10 : U.length ≤ 10 := hok.2.2.2.2.1
  have ht1 := hw.1
  have ht3 := hw.2.1
  refine az_M.of rfl (Nat.le_of_ble_eq_true rfl) ?_
  show az_W _ _ _ _ 0 [(0, .ref 64), (1, .int x), (2, .int xi)] [] _ _
  refine az_aload_n dX12_tables_0 ?_
  refine az_iconst (v := nI 0) dX12_tables_1 ?_
  refine az_putf (fs' := [.int (nI 0), .ref 65, .ref 66, .ref 67, .ref 68, sc0 5, fI (sc0 6), sc0 7, sc0 8, fI (sc0 9), fI (sc0 10), sc0 11, fI (sc0 12), sc0 13, sc0 14, .ref 69, .ref 70, .ref 71, sc0 18, .ref 72, .ref 73, .ref 74, sc0 22, sc0 23, .ref 75, sc0 25, .ref 76, .ref 77, .ref 78, sc0 29, .ref 79, .ref 80, .ref 81, .ref 82, .ref 83, .ref 84, .ref 85, sc0 37, .ref 86, .ref 87, .ref 88, .ref 89, .ref 90, .ref 91, .ref 92]) dX12_tables_2 fl_X12_1 o1 ?_
  obtain ⟨h1, hf1, hM1, hh1⟩ : ∃ h1, az_fr hp h1 64 93 ∧ mm h1 ((tp, bt), (fk, fp), v, (mo, ni, bs), U, im, tr) ∧ h1 = az_up hp 64 (mo_o (su sc0 0 (.int (nI 0)))) := ⟨_, az_fr.rf.up, hM.O (sc := su sc0 0 (.int (nI 0))) o2.1 o2.2.1 o2.2.2, rfl⟩
  rw [show (az_up hp 64 (az_O 11 [.int (nI 0), .ref 65, .ref 66, .ref 67, .ref 68, sc0 5, fI (sc0 6), sc0 7, sc0 8, fI (sc0 9), fI (sc0 10), sc0 11, fI (sc0 12), sc0 13, sc0 14, .ref 69, .ref 70, .ref 71, sc0 18, .ref 72, .ref 73, .ref 74, sc0 22, sc0 23, .ref 75, sc0 25, .ref 76, .ref 77, .ref 78, sc0 29, .ref 79, .ref 80, .ref 81, .ref 82, .ref 83, .ref 84, .ref 85, sc0 37, .ref 86, .ref 87, .ref 88, .ref 89, .ref 90, .ref 91, .ref 92])) = h1 from hh1.symm]
  obtain ⟨sc, A, tf, hI, rs, rm, nu, a1, a2, a3, a4, a5, a6, a7, a8, a9, a10, a11, a12, a13, a14⟩ := id hM1
  have a4 : mT A v (mo, ni, bs) := a4
  have a5 : mU A U := a5
  have a7 : mI A hI im := a7
  have a9 : ∀ j, j < tp → tf j = bt j := a9
  have a13 : mR rs rm nu tr := a13
  refine az_aload_n dX12_tables_5 ?_
  refine az_iload_n dX12_tables_6 ?_
  refine az_iconst (v := (-1)) dX12_tables_7 ?_
  refine az_cV0 (st := []) dX12_tables_8 ml_X12_462 a1 (m_noLong (d := d - 1) (lo := -1) (by omega) a1 a10 a11 a12 a13 ?_ ?_ ?_ ?_ ?_)
  · intro hno
    refine az_istore_n (ls' := [(0, .ref 64), (1, .int x), (2, .int xi), (3, .int ((-2)))]) dX12_tables_11 ?_
    refine az_iload_n dX12_tables_12 ?_
    refine az_if_eq (tgt := 18) dX12_tables_13 (fun c13 => ?_) (fun c13 => ?_)
    · exact absurd c13 (by decide)
    · refine az_iload_n dX12_tables_16 ?_
      exact az_iret dX12_tables_17 (by first | exact hQ2 hno h1 hM1 hf1 | exact hQ6 n hx hn hno h1 hM1 hf1 | exact hQ4 n y hx hn hy hno h1 hM1 hf1 | exact hQ3 n y hx hn hy h1' h8' hno h1 hM1 hf1)
  · intro n hx hn hno
    refine az_istore_n (ls' := [(0, .ref 64), (1, .int x), (2, .int xi), (3, .int ((-6)))]) dX12_tables_11 ?_
    refine az_iload_n dX12_tables_12 ?_
    refine az_if_eq (tgt := 18) dX12_tables_13 (fun c13 => ?_) (fun c13 => ?_)
    · exact absurd c13 (by decide)
    · refine az_iload_n dX12_tables_16 ?_
      exact az_iret dX12_tables_17 (by first | exact hQ2 hno h1 hM1 hf1 | exact hQ6 n hx hn hno h1 hM1 hf1 | exact hQ4 n y hx hn hy hno h1 hM1 hf1 | exact hQ3 n y hx hn hy h1' h8' hno h1 hM1 hf1)
  · intro n y hx hn hy hno
    refine az_istore_n (ls' := [(0, .ref 64), (1, .int x), (2, .int xi), (3, .int ((-4)))]) dX12_tables_11 ?_
    refine az_iload_n dX12_tables_12 ?_
    refine az_if_eq (tgt := 18) dX12_tables_13 (fun c13 => ?_) (fun c13 => ?_)
    · exact absurd c13 (by decide)
    · refine az_iload_n dX12_tables_16 ?_
      exact az_iret dX12_tables_17 (by first | exact hQ2 hno h1 hM1 hf1 | exact hQ6 n hx hn hno h1 hM1 hf1 | exact hQ4 n y hx hn hy hno h1 hM1 hf1 | exact hQ3 n y hx hn hy h1' h8' hno h1 hM1 hf1)
  · intro n y hx hn hy h1' h8' hno
    rw [show (-1 : Int32).toInt64 = -1 from (by decide)] at hno
    refine az_istore_n (ls' := [(0, .ref 64), (1, .int x), (2, .int xi), (3, .int ((-3)))]) dX12_tables_11 ?_
    refine az_iload_n dX12_tables_12 ?_
    refine az_if_eq (tgt := 18) dX12_tables_13 (fun c13 => ?_) (fun c13 => ?_)
    · exact absurd c13 (by decide)
    · refine az_iload_n dX12_tables_16 ?_
      exact az_iret dX12_tables_17 (by first | exact hQ2 hno h1 hM1 hf1 | exact hQ6 n hx hn hno h1 hM1 hf1 | exact hQ4 n y hx hn hy hno h1 hM1 hf1 | exact hQ3 n y hx hn hy h1' h8' hno h1 hM1 hf1)
  · intro n y hx hn hy h1' h8' hln
    rw [show (-1 : Int32).toInt64 = -1 from (by decide)] at hln
    have h3 := a13 n hn
    rw [hy] at h3
    obtain ⟨r1, r2, r3, r4, r5⟩ := h3
    refine az_istore_n (ls' := [(0, .ref 64), (1, .int x), (2, .int xi), (3, .int (nI 0))]) dX12_tables_11 ?_
    refine az_iload_n dX12_tables_12 ?_
    refine az_if_eqN (tgt := 18) dX12_tables_13 (fun c13 => ?_) (fun c13 => ?_)
    · refine az_iload_n dX12_tables_18 ?_
      refine az_if_ge (tgt := 25) dX12_tables_19 (fun c19 => ?_) (fun c19 => ?_)
      · subst hx
        obtain ⟨i, hi31, hxi⟩ := I_of (x := xi) (Int32.not_lt.mpr c19)
        subst hxi
        refine az_iload_n dX12_tables_25 ?_
        refine az_aload_n dX12_tables_26 ?_
        refine az_getf (v := .ref 91) dX12_tables_27 fl_X12_97 a1 ?_
        refine az_iload_n dX12_tables_30 ?_
        refine az_ialdN (j := n) dX12_tables_31 a11 ?_
        rw [r2]
        refine az_icmp_ltN (tgt := 38) dX12_tables_32 (fun c32 => ?_) (fun c32 => ?_)
        · refine az_aload_n dX12_tables_38 ?_
          refine az_iload_n dX12_tables_39 ?_
          refine az_cV0 (st := []) dX12_tables_40 ml_X12_465 a1 (m_laysLongRows (d := d - 1) (n := n) (y := y) (by omega) hw hb a1 a3 a4 a14 a11 a12 hn r2 h8' r5 ?_)
          intro h2 ti bh c64 c84 c85 hml mk2 mf2
          refine az_pop dX12_tables_43 ?_
          refine az_aload_n dX12_tables_44 ?_
          refine az_getf (v := .ref 84) dX12_tables_45 fl_X12_76 c64 ?_
          refine az_iload_n dX12_tables_48 ?_
          refine az_ialdN (j := i) dX12_tables_49 c84 ?_
          rw [hml.1 i (by omega)]
          exact az_iret dX12_tables_50 (hQ n y i rfl hn hy h1' h8' hln rfl (by omega) h2 (hM1.of (L := [64, 71, 81, 83, 84, 85]) mf2 (by decide) mk2 c64 a2.1 a2.2.1 a2.2.2) (hf1.tr mf2.fr))
        · refine az_bipush (v := (-7)) dX12_tables_35 ?_
          exact az_iret dX12_tables_37 (hQ7 n y i rfl hn hy h1' h8' hln rfl hi31 (by omega) h1 hM1 hf1)
      · refine az_bipush (v := (-3)) dX12_tables_22 ?_
        exact az_iret dX12_tables_24 (hQi n y hx hn hy h1' h8' hln (Int32.not_le.mp c19) h1 hM1 hf1)
    · exact absurd c13 (by omega)

