/-! LetterNights: becomes, told -/
abbrev cs_in (x : Int32) (k : Nat) : Prop := 0 ≤ x.toInt ∧ x.toInt < (k : Int)
def cs_n (x : Int32) : Nat := x.toInt.toNat
theorem cs_in_n {n k : Nat} (h : n < k) (hk : k < 2 ^ 31) : cs_in (nI n) k ∧ cs_n (nI n) = n := by
  unfold cs_in cs_n
  rw [nI_toI (by omega)]
  omega
theorem cs_in_of {x : Int32} {k : Nat} (h : cs_in x k) : x = nI (cs_n x) ∧ cs_n x < k := by
  unfold cs_in at h
  have hx : x.toInt < 2 ^ 31 := Int32.toInt_lt x
  refine ⟨?_, by unfold cs_n; omega⟩
  apply Int32.toInt_inj.mp
  unfold cs_n
  rw [nI_toI (by omega)]
  omega
theorem cs_no {x : Int32} {k : Nat} (h : ∀ n, n < k → x ≠ nI n) : ¬ cs_in x k := fun q => h _ (cs_in_of q).2 (cs_in_of q).1
theorem I_J {x : Int32} {n : Nat} (hn : n < 2 ^ 31) (h : x.toInt64 = lN n) : x = nI n := by
  apply Int32.toInt_inj.mp
  rw [nI_toI hn]
  have h1 := congrArg Int64.toInt h
  rw [Int32.toInt_toInt64, lN_toI (by omega)] at h1
  exact h1
theorem J_I {n : Nat} (hn : n < 2 ^ 31) : (nI n).toInt64 = lN n := nI_lN hn
def cs_becomes (w : ln_W) (xt xl xi : Int32) : Int32 := if ¬ (cs_in xt (ln_tb w) ∧ cs_in xl 6) then (-2) else if xi < (-1) then (-3) else if xi = (-1) then nI (ln_sz w (cs_n xt * 6 + cs_n xl)) else if xi < nI (ln_sz w (cs_n xt * 6 + cs_n xl)) then nI (ln_ch w ((cs_n xt * 6 + cs_n xl) * 4 + cs_n xi)) else (-1)
set_option maxHeartbeats 4000000 in
set_option maxRecDepth 100000 in
theorem p_becomes {d : Nat} {xt xl xi : Int32} {tp fk mo ni K : Nat} {bt : Nat → Nat} {fp : Int32} {v : rd_V} {bs : List Nat} {U : ln_U} {im : Nat → Option (rd_V × ln_Z)} {tr : Nat → Option (Nat × List Int64)} {hp : az_Hp} {Q : Option Value → az_Hp → Prop} (hd : 2 ≤ d) (hC : cs hp ((tp, bt), (fk, fp), v, (mo, ni, bs), U, im, tr) K) (hQ : Q (some (.int (cs_becomes (rd_w v) xt xl xi))) hp) : az_M mX11_becomes d 0 0 [.ref 0, .int xt, .int xl, .int xi] hp Q := by
  obtain ⟨hok, t, F, ia, kk, kt, x1, x2, x3, x4, x5, x6, x7, x8, x9, x10, x11, x12, x13, x14⟩ := id hC
  have hw : ln_ok (rd_w v) := hok.2.2.1.1
  have hlaw : ln_law (rd_w v) v.2.2.2.2.2.2.2.1 v.2.2.2.2.2.2.2.2 := hok.2.2.1.2
  have hba : ln_ba (rd_w v) bs := hok.2.2.2.1
  have hb : ln_by (rd_w v) bs := hba.b
  have x4 : ln_Past hp 6 U := x4
  have x5 : cs_im hp im ia F := x5
  have x6 : cs_tr hp tr := x6
  have x10 : ln_Scene hp 30 t (rd_w v) mo ni bs := x10
  have x13 : ln_Tf hp t (rd_w v) F := x13
  have x14 : cs_ad hp im F ia kk kt := x14
  obtain ⟨hi, fr, la, no, wa, nc, g0, -⟩ := id x10
  obtain ⟨a4, a5, t0, -⟩ := id x13
  have htb : ln_tb (rd_w v) ≤ 3 := hw.2.1
  refine az_M.of rfl (Nat.le_of_ble_eq_true rfl) ?_
  show az_W _ _ _ _ 0 [(0, .ref 0), (1, .int xt), (2, .int xl), (3, .int xi)] [] _ _
  refine az_aload_n dX11_becomes_0 ?_
  refine az_iload_n dX11_becomes_1 ?_
  refine az_cV0 (st := []) dX11_becomes_2 ml_X11_108 x1 (p_isTable (d := d - 1) hC ?_ ?_)
  · intro tn hxt htn
    refine az_if_eqN (tgt := 16) dX11_becomes_5 (fun c5 => ?_) (fun c5 => ?_)
    · exact absurd c5 (by omega)
    · refine az_iload_n dX11_becomes_8 ?_
      refine az_i2l dX11_becomes_9 ?_
      refine az_cS0 (st := []) dX11_becomes_10 ml_X11_112 (p_isLetter (d := d - 1) ?_ ?_)
      · intro lt hxl hlt
        have hxl2 := I_J (by omega) hxl
        have e1 := cs_in_n htn (by omega)
        have e2 := cs_in_n hlt (by omega)
        rw [← hxt] at e1
        rw [← hxl2] at e2
        rw [cs_becomes, if_neg (fun q9 => q9 ⟨e1.1, e2.1⟩), e1.2, e2.2] at hQ
        refine az_if_neN (tgt := 19) dX11_becomes_13 (fun c13 => ?_) (fun c13 => ?_)
        · refine az_iload_n dX11_becomes_19 ?_
          refine az_iconst (v := (-1)) dX11_becomes_20 ?_
          refine az_icmp_ge (tgt := 27) dX11_becomes_21 (fun c21 => ?_) (fun c21 => ?_)
          · rw [hxt, hxl2]
            rw [if_neg (Int32.not_lt.mpr c21)] at hQ
            have hsz := hw.2.2.2.2.2.2.1 (tn * 6 + lt)
            refine az_aload_n dX11_becomes_27 ?_
            refine az_getf (v := .ref 30) dX11_becomes_28 fl_X11_66 x1 ?_
            refine az_getf (v := .ref t) dX11_becomes_31 fl_X11_116 g0 ?_
            refine az_iload_n dX11_becomes_34 ?_
            refine az_iload_n dX11_becomes_35 ?_
            refine az_cV0 (st := []) dX11_becomes_36 ml_X11_120 t0 (s_sizeOf (d := d - 1) x13.town (tb := tn) (lt := lt) (by omega) (by omega) ?_)
            refine az_istore (ls' := [(0, .ref 0), (1, .int (nI tn)), (2, .int (nI lt)), (3, .int xi), (4, .int (nI (ln_sz (rd_w v) (tn * 6 + lt))))]) dX11_becomes_39 ?_
            refine az_iload_n dX11_becomes_41 ?_
            refine az_iconst (v := (-1)) dX11_becomes_42 ?_
            refine az_icmp_ne (tgt := 49) dX11_becomes_43 (fun c43 => ?_) (fun c43 => ?_)
            · refine az_iload_n dX11_becomes_49 ?_
              refine az_iload dX11_becomes_50 ?_
              refine az_icmp_ge (tgt := 71) dX11_becomes_52 (fun c52 => ?_) (fun c52 => ?_)
              · refine az_iconst (v := (-1)) dX11_becomes_71 ?_
                exact az_iret dX11_becomes_72 (by first | exact hQ | (rw [if_neg c43, if_neg (Int32.not_lt.mpr c52)] at hQ; exact hQ))
              · have h0x : ¬ xi < 0 := (fun q9 => (by have q1 := Int32.le_iff_toInt_le.mp c21; have q2 := Int32.lt_iff_toInt_lt.mp q9; have q3 : (-1 : Int32).toInt = -1 := (by decide); have q4 : (0 : Int32).toInt = 0 := (by decide); exact c43 (Int32.toInt_inj.mp (by omega))))
                obtain ⟨ii, hi31, hxi⟩ := I_of h0x
                have hlt9 := Int32.not_le.mp c52
                have hi9 : ii < ln_sz (rd_w v) (tn * 6 + lt) := (by rw [hxi] at hlt9; exact (nI_ltI (by omega) (by omega)).mp hlt9)
                have e3 := cs_in_n (k := 4) (show ii < 4 by omega) (by omega)
                rw [← hxi] at e3
                rw [if_neg c43, if_pos hlt9, e3.2] at hQ
                rw [hxi]
                refine az_aload_n dX11_becomes_55 ?_
                refine az_getf (v := .ref 30) dX11_becomes_56 fl_X11_66 x1 ?_
                refine az_getf (v := .ref t) dX11_becomes_59 fl_X11_116 g0 ?_
                refine az_iload_n dX11_becomes_62 ?_
                refine az_iload_n dX11_becomes_63 ?_
                refine az_iload_n dX11_becomes_64 ?_
                refine az_cV0 (st := []) dX11_becomes_65 ml_X11_124 t0 (s_childOf (d := d - 1) x13.town (tb := tn) (lt := lt) (i := ii) (by omega) (by omega) (by omega) ?_)
                refine az_goto (tgt := 72) dX11_becomes_68 ?_
                exact az_iret dX11_becomes_72 (by first | exact hQ | (rw [if_neg c43, if_neg (Int32.not_lt.mpr c52)] at hQ; exact hQ))
            · refine az_iload dX11_becomes_46 ?_
              exact az_iret dX11_becomes_48 (by rw [if_pos c43] at hQ; exact hQ)
          · refine az_bipush (v := (-3)) dX11_becomes_24 ?_
            exact az_iret dX11_becomes_26 (by rw [if_pos (Int32.not_le.mp c21)] at hQ; exact hQ)
        · exact absurd c13 (by omega)
      · intro hnl
        refine az_if_neN (tgt := 19) dX11_becomes_13 (fun c13 => ?_) (fun c13 => ?_)
        · exact absurd c13 (by omega)
        · refine az_bipush (v := (-2)) dX11_becomes_16 ?_
          exact az_iret dX11_becomes_18 (by first | (rw [cs_becomes, if_pos (fun q9 => cs_no hno q9.1)] at hQ; exact hQ) | (rw [cs_becomes, if_pos (fun q9 => cs_no (fun n hn hx => hnl n hn (by rw [hx]; exact J_I (by omega))) q9.2)] at hQ; exact hQ))
  · intro hno
    refine az_if_eqN (tgt := 16) dX11_becomes_5 (fun c5 => ?_) (fun c5 => ?_)
    · refine az_bipush (v := (-2)) dX11_becomes_16 ?_
      exact az_iret dX11_becomes_18 (by first | (rw [cs_becomes, if_pos (fun q9 => cs_no hno q9.1)] at hQ; exact hQ) | (rw [cs_becomes, if_pos (fun q9 => cs_no (fun n hn hx => hnl n hn (by rw [hx]; exact J_I (by omega))) q9.2)] at hQ; exact hQ))
    · exact absurd c5 (by omega)

