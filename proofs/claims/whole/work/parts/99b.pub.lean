/-! LetterNights: what is refused; becomes, picks -/
set_option maxHeartbeats 4000000 in
set_option maxRecDepth 100000 in
theorem p_isTable {d : Nat} {x : Int32} {tp fk mo ni K : Nat} {bt : Nat → Nat} {fp : Int32} {v : rd_V} {bs : List Nat} {U : ln_U} {im : Nat → Option (rd_V × ln_Z)} {tr : Nat → Option (Nat × List Int64)} {hp : az_Hp} {Q : Option Value → az_Hp → Prop} (hC : cs hp ((tp, bt), (fk, fp), v, (mo, ni, bs), U, im, tr) K) (hQ1 : ∀ n, x = nI n → n < ln_tb (rd_w v) → Q (some (.int (nI 1))) hp) (hQ0 : (∀ n, n < ln_tb (rd_w v) → x ≠ nI n) → Q (some (.int (nI 0))) hp) : az_M mX11_isTable d 0 0 [.ref 0, .int x] hp Q := by
  obtain ⟨hok, t, F, ia, kk, kt, x1, x2, x3, x4, x5, x6, x7, x8, x9, x10, x11, x12, x13, x14⟩ := id hC
  have hw : ln_ok (rd_w v) := hok.2.2.1.1
  have hlaw : ln_law (rd_w v) v.2.2.2.2.2.2.2.1 v.2.2.2.2.2.2.2.2 := hok.2.2.1.2
  have hba : ln_ba (rd_w v) bs := hok.2.2.2.1
  have hb : ln_by (rd_w v) bs := hba.b
  have x4 : ln_Past hp 6 U := x4
  have x5 : cs_im hp im ia F := x5
  have x6 : cs_tr hp tr := x6
  have x10 : ln_Scene hp 30 t (rd_w v) mo ni bs := x10
  have x13 : ln_Tf hp t (rd_w v) F := x13
  have x14 : cs_ad hp im F ia kk kt := x14
  obtain ⟨hi, fr, la, no, wa, nc, g0, -⟩ := id x10
  obtain ⟨a4, a5, t0, -⟩ := id x13
  have htb : ln_tb (rd_w v) ≤ 3 := hw.2.1
  refine az_M.of rfl (Nat.le_of_ble_eq_true rfl) ?_
  show az_W _ _ _ _ 0 [(0, .ref 0), (1, .int x)] [] _ _
  refine az_iload_n dX11_isTable_0 ?_
  refine az_if_lt (tgt := 22) dX11_isTable_1 (fun c1 => ?_) (fun c1 => ?_)
  · refine az_iconst (v := nI 0) dX11_isTable_22 ?_
    exact az_iret dX11_isTable_23 (by first | exact hQ0 (fun n hn hx => (by rw [hx] at c1; exact absurd c1 (by rw [show (0 : Int32) = nI 0 from rfl, nI_ltI (by omega) (by omega)]; omega))) | (obtain ⟨n, hn, hx⟩ := I_of c1; exact hQ1 n hx (by rw [hx] at c15; have h9 := Int32.not_le.mp c15; exact (nI_ltI hn (by omega)).mp h9)) | exact hQ0 (fun n hn hx => (by rw [hx] at c1; exact absurd c1 (by rw [show (0 : Int32) = nI 0 from rfl, nI_ltI (by omega) (by omega)]; omega))) | exact hQ0 (fun n hn hx => (by rw [hx] at c15; have h9 := (nI_leI (by omega) (by omega)).mp c15; omega)))
  · refine az_iload_n dX11_isTable_4 ?_
    refine az_aload_n dX11_isTable_5 ?_
    refine az_getf (v := .ref 30) dX11_isTable_6 fl_X11_66 x1 ?_
    refine az_getf (v := .ref t) dX11_isTable_9 fl_X11_116 g0 ?_
    refine az_getf (v := .int (nI (ln_tb (rd_w v)))) dX11_isTable_12 fl_X11_268 t0 ?_
    refine az_icmp_ge (tgt := 22) dX11_isTable_15 (fun c15 => ?_) (fun c15 => ?_)
    · refine az_iconst (v := nI 0) dX11_isTable_22 ?_
      exact az_iret dX11_isTable_23 (by first | exact hQ0 (fun n hn hx => (by rw [hx] at c1; exact absurd c1 (by rw [show (0 : Int32) = nI 0 from rfl, nI_ltI (by omega) (by omega)]; omega))) | (obtain ⟨n, hn, hx⟩ := I_of c1; exact hQ1 n hx (by rw [hx] at c15; have h9 := Int32.not_le.mp c15; exact (nI_ltI hn (by omega)).mp h9)) | exact hQ0 (fun n hn hx => (by rw [hx] at c1; exact absurd c1 (by rw [show (0 : Int32) = nI 0 from rfl, nI_ltI (by omega) (by omega)]; omega))) | exact hQ0 (fun n hn hx => (by rw [hx] at c15; have h9 := (nI_leI (by omega) (by omega)).mp c15; omega)))
    · refine az_iconst (v := nI 1) dX11_isTable_18 ?_
      refine az_goto (tgt := 23) dX11_isTable_19 ?_
      exact az_iret dX11_isTable_23 (by first | exact hQ0 (fun n hn hx => (by rw [hx] at c1; exact absurd c1 (by rw [show (0 : Int32) = nI 0 from rfl, nI_ltI (by omega) (by omega)]; omega))) | (obtain ⟨n, hn, hx⟩ := I_of c1; exact hQ1 n hx (by rw [hx] at c15; have h9 := Int32.not_le.mp c15; exact (nI_ltI hn (by omega)).mp h9)) | exact hQ0 (fun n hn hx => (by rw [hx] at c1; exact absurd c1 (by rw [show (0 : Int32) = nI 0 from rfl, nI_ltI (by omega) (by omega)]; omega))) | exact hQ0 (fun n hn hx => (by rw [hx] at c15; have h9 := (nI_leI (by omega) (by omega)).mp c15; omega)))
set_option maxHeartbeats 4000000 in
set_option maxRecDepth 100000 in
theorem p_isLetter {d : Nat} {x : Int64} {hp : az_Hp} {Q : Option Value → az_Hp → Prop} (hQ1 : ∀ n, x = lN n → n < 6 → Q (some (.int (nI 1))) hp) (hQ0 : (∀ n, n < 6 → x ≠ lN n) → Q (some (.int (nI 0))) hp) : az_M mX11_isLetter d 0 0 [.long x] hp Q := by
  refine az_M.of rfl (Nat.le_of_ble_eq_true rfl) ?_
  show az_W _ _ _ _ 0 [(0, .long x)] [] _ _
  refine az_lload_n dX11_isLetter_0 ?_
  refine az_lconst (v := lN 0) dX11_isLetter_1 ?_
  refine az_lcmp_lt (tgt := 18) dX11_isLetter_2 dX11_isLetter_3 (fun c2 => ?_) (fun c2 => ?_)
  · refine az_iconst (v := nI 0) dX11_isLetter_18 ?_
    exact az_iret dX11_isLetter_19 (by first | (have h1 : (0 : Int) ≤ x.toInt := (by have h9 := Int64.not_lt.mp c2; exact Int64.le_iff_toInt_le.mp h9); have h2 : x.toInt < 6 := (by have h9 := Int64.not_le.mp c10; exact Int64.lt_iff_toInt_lt.mp h9); exact hQ1 x.toInt.toNat (by apply Int64.toInt_inj.mp; rw [lN_toI (by omega)]; omega) (by omega)) | exact hQ0 (fun n hn hx => (by rw [hx] at c2; exact absurd ((lN_ltN (by omega) (by omega)).mp c2) (by omega))) | exact hQ0 (fun n hn hx => (by rw [hx] at c10; exact absurd ((lN_leN (by omega) (by omega)).mp c10) (by omega))))
  · refine az_lload_n dX11_isLetter_6 ?_
    refine az_ldc2 (v := lN 6) dX11_isLetter_7 cn_X11_347 ?_
    refine az_lcmp_ge (tgt := 18) dX11_isLetter_10 dX11_isLetter_11 (fun c10 => ?_) (fun c10 => ?_)
    · refine az_iconst (v := nI 0) dX11_isLetter_18 ?_
      exact az_iret dX11_isLetter_19 (by first | (have h1 : (0 : Int) ≤ x.toInt := (by have h9 := Int64.not_lt.mp c2; exact Int64.le_iff_toInt_le.mp h9); have h2 : x.toInt < 6 := (by have h9 := Int64.not_le.mp c10; exact Int64.lt_iff_toInt_lt.mp h9); exact hQ1 x.toInt.toNat (by apply Int64.toInt_inj.mp; rw [lN_toI (by omega)]; omega) (by omega)) | exact hQ0 (fun n hn hx => (by rw [hx] at c2; exact absurd ((lN_ltN (by omega) (by omega)).mp c2) (by omega))) | exact hQ0 (fun n hn hx => (by rw [hx] at c10; exact absurd ((lN_leN (by omega) (by omega)).mp c10) (by omega))))
    · refine az_iconst (v := nI 1) dX11_isLetter_14 ?_
      refine az_goto (tgt := 19) dX11_isLetter_15 ?_
      exact az_iret dX11_isLetter_19 (by first | (have h1 : (0 : Int) ≤ x.toInt := (by have h9 := Int64.not_lt.mp c2; exact Int64.le_iff_toInt_le.mp h9); have h2 : x.toInt < 6 := (by have h9 := Int64.not_le.mp c10; exact Int64.lt_iff_toInt_lt.mp h9); exact hQ1 x.toInt.toNat (by apply Int64.toInt_inj.mp; rw [lN_toI (by omega)]; omega) (by omega)) | exact hQ0 (fun n hn hx => (by rw [hx] at c2; exact absurd ((lN_ltN (by omega) (by omega)).mp c2) (by omega))) | exact hQ0 (fun n hn hx => (by rw [hx] at c10; exact absurd ((lN_leN (by omega) (by omega)).mp c10) (by omega))))
set_option maxHeartbeats 4000000 in
set_option maxRecDepth 100000 in
theorem p_isTray {d : Nat} {x : Int32} {hp : az_Hp} {Q : Option Value → az_Hp → Prop} (hQ1 : ∀ n, x = nI n → n < 4 → Q (some (.int (nI 1))) hp) (hQ0 : (∀ n, n < 4 → x ≠ nI n) → Q (some (.int (nI 0))) hp) : az_M mX11_isTray d 0 0 [.int x] hp Q := by
  refine az_M.of rfl (Nat.le_of_ble_eq_true rfl) ?_
  show az_W _ _ _ _ 0 [(0, .int x)] [] _ _
  refine az_iload_n dX11_isTray_0 ?_
  refine az_if_lt (tgt := 13) dX11_isTray_1 (fun c1 => ?_) (fun c1 => ?_)
  · refine az_iconst (v := nI 0) dX11_isTray_13 ?_
    exact az_iret dX11_isTray_14 (by first | (obtain ⟨n, hn, hx⟩ := I_of c1; exact hQ1 n hx (by rw [hx] at c6; have h9 := Int32.not_le.mp c6; exact (nI_ltI hn (by omega)).mp h9)) | exact hQ0 (fun n hn hx => (by rw [hx] at c1; exact absurd c1 (by rw [show (0 : Int32) = nI 0 from rfl, nI_ltI (by omega) (by omega)]; omega))) | exact hQ0 (fun n hn hx => (by rw [hx] at c6; have h9 := (nI_leI (by omega) (by omega)).mp c6; omega)))
  · refine az_iload_n dX11_isTray_4 ?_
    refine az_iconst (v := nI 4) dX11_isTray_5 ?_
    refine az_icmp_ge (tgt := 13) dX11_isTray_6 (fun c6 => ?_) (fun c6 => ?_)
    · refine az_iconst (v := nI 0) dX11_isTray_13 ?_
      exact az_iret dX11_isTray_14 (by first | (obtain ⟨n, hn, hx⟩ := I_of c1; exact hQ1 n hx (by rw [hx] at c6; have h9 := Int32.not_le.mp c6; exact (nI_ltI hn (by omega)).mp h9)) | exact hQ0 (fun n hn hx => (by rw [hx] at c1; exact absurd c1 (by rw [show (0 : Int32) = nI 0 from rfl, nI_ltI (by omega) (by omega)]; omega))) | exact hQ0 (fun n hn hx => (by rw [hx] at c6; have h9 := (nI_leI (by omega) (by omega)).mp c6; omega)))
    · refine az_iconst (v := nI 1) dX11_isTray_9 ?_
      refine az_goto (tgt := 14) dX11_isTray_10 ?_
      exact az_iret dX11_isTray_14 (by first | (obtain ⟨n, hn, hx⟩ := I_of c1; exact hQ1 n hx (by rw [hx] at c6; have h9 := Int32.not_le.mp c6; exact (nI_ltI hn (by omega)).mp h9)) | exact hQ0 (fun n hn hx => (by rw [hx] at c1; exact absurd c1 (by rw [show (0 : Int32) = nI 0 from rfl, nI_ltI (by omega) (by omega)]; omega))) | exact hQ0 (fun n hn hx => (by rw [hx] at c6; have h9 := (nI_leI (by omega) (by omega)).mp c6; omega)))
theorem ln_as_le (en : Nat → Int32) (sl : List Nat) : ln_as en sl ≤ 1 := by
  unfold ln_as
  split
  · omega
  · split <;> omega
def cs_picks (v : rd_V) (mo ni : Nat) (bs : List Nat) : Int32 := if ln_as (ln_env (rd_w v) bs mo ni) v.2.2.2.2.2.2.2.2 = 0 then nI (ln_pi (ln_env (rd_w v) bs mo ni) v.2.2.2.2.2.2.2.1 (ln_tb (rd_w v))) else (-1)
set_option maxHeartbeats 4000000 in
set_option maxRecDepth 100000 in
theorem p_picks {d : Nat} {tp fk mo ni K : Nat} {bt : Nat → Nat} {fp : Int32} {v : rd_V} {bs : List Nat} {U : ln_U} {im : Nat → Option (rd_V × ln_Z)} {tr : Nat → Option (Nat × List Int64)} {hp : az_Hp} {Q : Option Value → az_Hp → Prop} (hd : 6 ≤ d) (hC : cs hp ((tp, bt), (fk, fp), v, (mo, ni, bs), U, im, tr) K) (hQ : ∀ h', cs h' ((tp, bt), (fk, fp), v, (mo, ni, bs), U, im, tr) K → cs_f hp h' → Q (some (.int (cs_picks v mo ni bs))) h') : az_M mX11_picks d 0 0 [.ref 0] hp Q := by
  obtain ⟨hok, t, F, ia, kk, kt, x1, x2, x3, x4, x5, x6, x7, x8, x9, x10, x11, x12, x13, x14⟩ := id hC
  have hw : ln_ok (rd_w v) := hok.2.2.1.1
  have hlaw : ln_law (rd_w v) v.2.2.2.2.2.2.2.1 v.2.2.2.2.2.2.2.2 := hok.2.2.1.2
  have hba : ln_ba (rd_w v) bs := hok.2.2.2.1
  have hb : ln_by (rd_w v) bs := hba.b
  have x4 : ln_Past hp 6 U := x4
  have x5 : cs_im hp im ia F := x5
  have x6 : cs_tr hp tr := x6
  have x10 : ln_Scene hp 30 t (rd_w v) mo ni bs := x10
  have x13 : ln_Tf hp t (rd_w v) F := x13
  have x14 : cs_ad hp im F ia kk kt := x14
  obtain ⟨hi, fr, la, no, wa, nc, g0, -⟩ := id x10
  have hT := x13.to (lo := 30) (hi := 38) (fun q hq => (by have := x14.2.2.2.2.2.1 q hq; omega))
  refine az_M.of rfl (Nat.le_of_ble_eq_true rfl) ?_
  show az_W _ _ _ _ 0 [(0, .ref 0)] [] _ _
  refine az_aload_n dX11_picks_0 ?_
  refine az_getf (v := .ref 30) dX11_picks_1 fl_X11_66 x1 ?_
  refine az_cV0 (st := []) dX11_picks_4 ml_X11_128 g0 (s_asleep (d := d - 1) (by omega) hw hlaw hT x10 ?_)
  intro h1 hS1 hf1
  obtain ⟨hi1, fr1, la1, no1, wa1, nc1, g1, -⟩ := id hS1
  have hle := ln_as_le (ln_env (rd_w v) bs mo ni) v.2.2.2.2.2.2.2.2
  refine az_if_eqN (tgt := 14) dX11_picks_7 (fun c7 => ?_) (fun c7 => ?_)
  · refine az_aload_n dX11_picks_14 ?_
    refine az_getf (v := .ref 30) dX11_picks_15 fl_X11_66 (hf1.at x1) ?_
    refine az_cV0 (st := []) dX11_picks_18 ml_X11_132 g1 (s_pickedTable (d := d - 1) (by omega) hw hlaw (hT.fr hf1) hS1 ?_)
    intro h2 hS2 hf2
    exact az_iret dX11_picks_21 (by first | (have hf := hf1.tr hf2; rw [cs_picks, if_pos c7] at hQ; exact hQ h2 ⟨hok, ⟨t, F, ia, kk, kt, (hf.at x1), (x2.fr hf), (x3.fr hf), (ln_PastX.fr x4 hf (by omega)), (x5.fr hf x14), (x6.fr hf), (x7.fr hf), (x8.fr hf), (x9.fr hf), hS2, (x11.fr hf), (x12.fr hf (by omega) (by have := x14.2.1; omega) (by have := x14.2.2.1; omega)), (x13.fr hf (fun q hq => (by have := x14.2.2.2.2.2.1 q hq; omega))), (x14.fr hf)⟩⟩ hf.cs) | (rw [cs_picks, if_neg c7] at hQ; exact hQ h1 ⟨hok, ⟨t, F, ia, kk, kt, (hf1.at x1), (x2.fr hf1), (x3.fr hf1), (ln_PastX.fr x4 hf1 (by omega)), (x5.fr hf1 x14), (x6.fr hf1), (x7.fr hf1), (x8.fr hf1), (x9.fr hf1), hS1, (x11.fr hf1), (x12.fr hf1 (by omega) (by have := x14.2.1; omega) (by have := x14.2.2.1; omega)), (x13.fr hf1 (fun q hq => (by have := x14.2.2.2.2.2.1 q hq; omega))), (x14.fr hf1)⟩⟩ hf1.cs))
  · refine az_iconst (v := (-1)) dX11_picks_10 ?_
    refine az_goto (tgt := 21) dX11_picks_11 ?_
    exact az_iret dX11_picks_21 (by first | (have hf := hf1.tr hf2; rw [cs_picks, if_pos c7] at hQ; exact hQ h2 ⟨hok, ⟨t, F, ia, kk, kt, (hf.at x1), (x2.fr hf), (x3.fr hf), (ln_PastX.fr x4 hf (by omega)), (x5.fr hf x14), (x6.fr hf), (x7.fr hf), (x8.fr hf), (x9.fr hf), hS2, (x11.fr hf), (x12.fr hf (by omega) (by have := x14.2.1; omega) (by have := x14.2.2.1; omega)), (x13.fr hf (fun q hq => (by have := x14.2.2.2.2.2.1 q hq; omega))), (x14.fr hf)⟩⟩ hf.cs) | (rw [cs_picks, if_neg c7] at hQ; exact hQ h1 ⟨hok, ⟨t, F, ia, kk, kt, (hf1.at x1), (x2.fr hf1), (x3.fr hf1), (ln_PastX.fr x4 hf1 (by omega)), (x5.fr hf1 x14), (x6.fr hf1), (x7.fr hf1), (x8.fr hf1), (x9.fr hf1), hS1, (x11.fr hf1), (x12.fr hf1 (by omega) (by have := x14.2.1; omega) (by have := x14.2.2.1; omega)), (x13.fr hf1 (fun q hq => (by have := x14.2.2.2.2.2.1 q hq; omega))), (x14.fr hf1)⟩⟩ hf1.cs))

