/-! The model: which letters come to which -/
theorem isIn_F : ∀ a : Fin 64, ∀ k : Fin 6, (lN a.val >>> ((nI k.val).toInt64 &&& 63)) &&& lN 1 = lN (a.val >>> k.val &&& 1) := by decide +kernel
theorem isIn_N {a k : Nat} (ha : a < 64) (hk : k < 6) : (lN a >>> ((nI k).toInt64 &&& 63)) &&& lN 1 = lN (a >>> k &&& 1) := isIn_F ⟨a, ha⟩ ⟨k, hk⟩
set_option maxHeartbeats 4000000 in
set_option maxRecDepth 100000 in
theorem m_isIn {d s k9 : Nat} {hp : az_Hp} {Q : Option Value → az_Hp → Prop} (hs : s < 64) (hk6 : k9 < 6) (hQ1 : ¬ s >>> k9 &&& 1 = 0 → Q (some (.int (nI 1))) hp) (hQ0 : s >>> k9 &&& 1 = 0 → Q (some (.int (nI 0))) hp) : az_M mX12_isIn d 0 0 [.long (lN s), .int (nI k9)] hp Q := by
  have hle : s >>> k9 &&& 1 ≤ 1 := Nat.and_le_right
  refine az_M.of rfl (Nat.le_of_ble_eq_true rfl) ?_
  show az_W _ _ _ _ 0 [(0, .long (lN s)), (2, .int (nI k9))] [] _ _
  refine az_lload_n dX12_isIn_0 ?_
  refine az_iload_n dX12_isIn_1 ?_
  refine az_lshr dX12_isIn_2 ?_
  refine az_lconst (v := lN 1) dX12_isIn_3 ?_
  refine az_land dX12_isIn_4 ?_
  rw [isIn_N hs hk6]
  refine az_lconst (v := lN 1) dX12_isIn_5 ?_
  refine az_lcmp_neN (tgt := 14) dX12_isIn_6 dX12_isIn_7 (fun c6 => ?_) (fun c6 => ?_)
  · refine az_iconst (v := nI 0) dX12_isIn_14 ?_
    exact az_iret dX12_isIn_15 (by first | exact hQ1 (by omega) | exact hQ0 (by omega))
  · refine az_iconst (v := nI 1) dX12_isIn_10 ?_
    refine az_goto (tgt := 15) dX12_isIn_11 ?_
    exact az_iret dX12_isIn_15 (by first | exact hQ1 (by omega) | exact hQ0 (by omega))
set_option maxHeartbeats 4000000 in
set_option maxRecDepth 100000 in
theorem m_laysReach {d tb : Nat} {sc : Nat → Value} {A : Nat → Nat} {v : rd_V} {hp : az_Hp} {Q : Option Value → az_Hp → Prop} {f0 : Nat → Int32} (hd : 1 ≤ d) (hw : ln_ok (rd_w v)) (h64 : hp.2 64 = some (mo_o sc)) (h65 : hp.2 65 = some (az_I 3318 (fun j => nI (A j)))) (hV : mV A v) (h3 : tb < 3) (h80 : hp.2 80 = some (az_I 6 f0)) (hQ : ∀ f : Nat → Nat, (∀ x, x < 6 → f x = kn_al (kn_0 (rd_w v) tb) 6 x) → Q none (az_up hp 80 (az_I 6 (fun j => nI (f j))))) : az_M mX12_laysReach d 0 0 [.ref 64, .int (nI tb)] hp Q := by
  obtain ⟨g0, rfl⟩ := nI_ex f0
  have loop2 : ∀ (k : Nat) (b c : Nat) (f FF : Nat → Nat) (h' : az_Hp), (6 - b) * 10 + (6 - c) = k → (b < 6) → (c ≤ 6) → (FF = kn_rw (kn_al (kn_0 (rd_w v) tb) b) b c) → (∀ y, FF y < 64) → (∀ y, y < 6 → f y = FF y) → (h' = az_up hp 80 (az_I 6 (fun j => nI (f j)))) → az_W mX12_laysReach d 0 0 67 [(0, .ref 64), (1, .int (nI tb)), (2, .int (nI b)), (3, .int (nI c))] [] h' Q := by
    intro k
    induction k using Nat.strongRecOn with
    | _ k ih =>
    intro b c f FF h' hk hb6 hc6 hFF hlt hF he
    refine az_iload_n dX12_laysReach_67 ?_
    refine az_bipush (v := nI 6) dX12_laysReach_68 ?_
    refine az_icmp_geN (tgt := 108) dX12_laysReach_70 (fun c70 => ?_) (fun c70 => ?_)
    · refine az_iincN (n := 1) (ls' := [(0, .ref 64), (1, .int (nI tb)), (2, .int (nI (b + 1))), (3, .int (nI c))]) dX12_laysReach_108 ?_
      refine az_goto (tgt := 59) dX12_laysReach_111 ?_
      refine az_iload_n dX12_laysReach_59 ?_
      refine az_bipush (v := nI 6) dX12_laysReach_60 ?_
      refine az_icmp_geN (tgt := 114) dX12_laysReach_62 (fun c62 => ?_) (fun c62 => ?_)
      · exact az_vret dX12_laysReach_114 (by rw [he]; exact hQ f (fun x hx => (by rw [hF x hx, hFF, show c = 6 by omega, show b = 5 by omega]; rfl)))
      · refine az_iconst (v := nI 0) dX12_laysReach_65 ?_
        refine az_istore_n (ls' := [(0, .ref 64), (1, .int (nI tb)), (2, .int (nI (b + 1))), (3, .int (nI 0))]) dX12_laysReach_66 ?_
        first | exact ih _ (by omega) b (c + 1) (az_s f c (FF c ||| FF b)) (kn_st FF b c) _ rfl (by omega) (by omega) (by rw [hFF, kn_rw]) (kn_st_lt hlt b c) (fun y hy => (by rw [hkF]; by_cases e : y = c; rw [e, az_s_eq, if_pos rfl, if_neg hyes]; rw [az_s_ne e, if_neg e]; exact hF y hy)) (by rw [he, az_up_up]) | exact ih _ (by omega) b (c + 1) f (kn_st FF b c) _ rfl (by omega) (by omega) (by rw [hFF, kn_rw]) (kn_st_lt hlt b c) (fun y hy => (by rw [hkF]; by_cases e : y = c; rw [e, if_pos rfl, if_pos hno]; exact hF c (by omega); rw [if_neg e]; exact hF y hy)) he | exact ih _ (by omega) (b + 1) 0 f FF h' rfl (by omega) (by omega) (by rw [hFF, show c = 6 by omega]; rfl) hlt hF he
    · have hkF : ∀ y, (kn_st FF b c) y = if y = c then (if FF c >>> b &&& 1 = 0 then FF c else FF c ||| FF b) else FF y := (fun y => (by unfold kn_st kb; by_cases q : FF c >>> b &&& 1 = 0; rw [if_pos (by rw [if_pos q]), if_pos q]; (by_cases e : y = c; rw [if_pos e, e]; rw [if_neg e]); rw [if_neg (by rw [if_neg q]; decide), if_neg q]; (by_cases e : y = c; rw [if_pos e, e, az_s_eq]; rw [if_neg e, az_s_ne e])))
      refine az_aload_n dX12_laysReach_73 ?_
      refine az_getf (v := .ref 80) dX12_laysReach_74 fl_X12_64 (by rw [he]; exact az_up_ne h64) ?_
      refine az_iload_n dX12_laysReach_77 ?_
      refine az_ialdN (j := c) dX12_laysReach_78 (by rw [he]; exact az_up_eq) ?_
      rw [hF c (by omega)]
      have hl0 := hlt c
      refine az_i2lN dX12_laysReach_79 ?_
      refine az_iload_n dX12_laysReach_80 ?_
      refine az_cS0 (st := []) dX12_laysReach_81 ml_X12_401 (m_isIn (d := d - 1) (s := FF c) (k9 := b) (hlt c) (by omega) ?_ ?_)
      · intro hyes
        refine az_if_eqN (tgt := 102) dX12_laysReach_84 (fun c84 => ?_) (fun c84 => ?_)
        · exact absurd c84 (by omega)
        · refine az_aload_n dX12_laysReach_87 ?_
          refine az_getf (v := .ref 80) dX12_laysReach_88 fl_X12_64 (by rw [he]; exact az_up_ne h64) ?_
          refine az_iload_n dX12_laysReach_91 ?_
          refine az_dup2_11 dX12_laysReach_92 ?_
          refine az_ialdN (j := c) dX12_laysReach_93 (by rw [he]; exact az_up_eq) ?_
          rw [hF c (by omega)]
          refine az_aload_n dX12_laysReach_94 ?_
          refine az_getf (v := .ref 80) dX12_laysReach_95 fl_X12_64 (by rw [he]; exact az_up_ne h64) ?_
          refine az_iload_n dX12_laysReach_98 ?_
          refine az_ialdN (j := b) dX12_laysReach_99 (by rw [he]; exact az_up_eq) ?_
          rw [hF b (by omega)]
          have hl1 := hlt c
          have hl2 := hlt b
          refine az_iorN dX12_laysReach_100 ?_
          refine az_iastN (j := c) dX12_laysReach_101 (by rw [he]; exact az_up_eq) ?_
          rw [az_s_nI]
          refine az_iincN (n := 1) (ls' := [(0, .ref 64), (1, .int (nI tb)), (2, .int (nI b)), (3, .int (nI (c + 1)))]) dX12_laysReach_102 ?_
          refine az_goto (tgt := 67) dX12_laysReach_105 ?_
          first | exact ih _ (by omega) b (c + 1) (az_s f c (FF c ||| FF b)) (kn_st FF b c) _ rfl (by omega) (by omega) (by rw [hFF, kn_rw]) (kn_st_lt hlt b c) (fun y hy => (by rw [hkF]; by_cases e : y = c; rw [e, az_s_eq, if_pos rfl, if_neg hyes]; rw [az_s_ne e, if_neg e]; exact hF y hy)) (by rw [he, az_up_up]) | exact ih _ (by omega) b (c + 1) f (kn_st FF b c) _ rfl (by omega) (by omega) (by rw [hFF, kn_rw]) (kn_st_lt hlt b c) (fun y hy => (by rw [hkF]; by_cases e : y = c; rw [e, if_pos rfl, if_pos hno]; exact hF c (by omega); rw [if_neg e]; exact hF y hy)) he | exact ih _ (by omega) (b + 1) 0 f FF h' rfl (by omega) (by omega) (by rw [hFF, show c = 6 by omega]; rfl) hlt hF he
      · intro hno
        refine az_if_eqN (tgt := 102) dX12_laysReach_84 (fun c84 => ?_) (fun c84 => ?_)
        · refine az_iincN (n := 1) (ls' := [(0, .ref 64), (1, .int (nI tb)), (2, .int (nI b)), (3, .int (nI (c + 1)))]) dX12_laysReach_102 ?_
          refine az_goto (tgt := 67) dX12_laysReach_105 ?_
          first | exact ih _ (by omega) b (c + 1) (az_s f c (FF c ||| FF b)) (kn_st FF b c) _ rfl (by omega) (by omega) (by rw [hFF, kn_rw]) (kn_st_lt hlt b c) (fun y hy => (by rw [hkF]; by_cases e : y = c; rw [e, az_s_eq, if_pos rfl, if_neg hyes]; rw [az_s_ne e, if_neg e]; exact hF y hy)) (by rw [he, az_up_up]) | exact ih _ (by omega) b (c + 1) f (kn_st FF b c) _ rfl (by omega) (by omega) (by rw [hFF, kn_rw]) (kn_st_lt hlt b c) (fun y hy => (by rw [hkF]; by_cases e : y = c; rw [e, if_pos rfl, if_pos hno]; exact hF c (by omega); rw [if_neg e]; exact hF y hy)) he | exact ih _ (by omega) (b + 1) 0 f FF h' rfl (by omega) (by omega) (by rw [hFF, show c = 6 by omega]; rfl) hlt hF he
        · exact absurd c84 (by omega)
  have loop1 : ∀ (k : Nat) (c i : Nat) (f : Nat → Nat) (h' : az_Hp), (6 - c) * 10 + (4 - i) = k → (c < 6) → (i ≤ ln_sz (rd_w v) (tb * 6 + c)) → (f c = ln_cb (rd_w v) (tb * 6 + c) i) → (∀ y, y < c → f y = kn_0 (rd_w v) tb y) → (h' = az_up hp 80 (az_I 6 (fun j => nI (f j)))) → az_W mX12_laysReach d 0 0 17 [(0, .ref 64), (1, .int (nI tb)), (2, .int (nI c)), (3, .int (nI i))] [] h' Q := by
    intro k
    induction k using Nat.strongRecOn with
    | _ k ih =>
    intro c i f h' hk hc hi9 hfc hF he
    have b64 : h'.2 64 = some (mo_o sc) := (by rw [he]; exact az_up_ne h64)
    have b65 : h'.2 65 = some (az_I 3318 (fun j => nI (A j))) := (by rw [he]; exact az_up_ne h65)
    have hz44 := hw.2.2.2.2.2.2.1 (tb * 6 + c)
    refine az_iload_n dX12_laysReach_17 ?_
    refine az_aload_n dX12_laysReach_18 ?_
    refine az_iload_n dX12_laysReach_19 ?_
    refine az_iload_n dX12_laysReach_20 ?_
    refine az_cV0 (st := [.int (nI i)]) dX12_laysReach_21 ml_X12_239 b64 (m_becomeMany (d := d - 1) (v := v) (tb := tb) (x := c) b64 b65 hV h3 (by omega) ?_)
    have hz4 := hw.2.2.2.2.2.2.1 (tb * 6 + c)
    refine az_icmp_geN (tgt := 51) dX12_laysReach_24 (fun c24 => ?_) (fun c24 => ?_)
    · refine az_iincN (n := 1) (ls' := [(0, .ref 64), (1, .int (nI tb)), (2, .int (nI (c + 1))), (3, .int (nI i))]) dX12_laysReach_51 ?_
      refine az_goto (tgt := 2) dX12_laysReach_54 ?_
      refine az_iload_n dX12_laysReach_2 ?_
      refine az_bipush (v := nI 6) dX12_laysReach_3 ?_
      refine az_icmp_geN (tgt := 57) dX12_laysReach_5 (fun c5 => ?_) (fun c5 => ?_)
      · have hF : ∀ y, y < 6 → f y = kn_0 (rd_w v) tb y := (fun y hy => (by by_cases e : y = c; rw [e, hfc, show i = ln_sz (rd_w v) (tb * 6 + c) by omega]; rfl; exact hF y (by omega)))
        refine az_iconst (v := nI 0) dX12_laysReach_57 ?_
        refine az_istore_n (ls' := [(0, .ref 64), (1, .int (nI tb)), (2, .int (nI 0)), (3, .int (nI i))]) dX12_laysReach_58 ?_
        refine az_iload_n dX12_laysReach_59 ?_
        refine az_bipush (v := nI 6) dX12_laysReach_60 ?_
        refine az_icmp_geN (tgt := 114) dX12_laysReach_62 (fun c62 => ?_) (fun c62 => ?_)
        · exact absurd c62 (by omega)
        · refine az_iconst (v := nI 0) dX12_laysReach_65 ?_
          refine az_istore_n (ls' := [(0, .ref 64), (1, .int (nI tb)), (2, .int (nI 0)), (3, .int (nI 0))]) dX12_laysReach_66 ?_
          exact loop2 _ 0 0 f (kn_0 (rd_w v) tb) h' rfl (by decide) (by decide) rfl (kn_0_lt hw tb) (fun y hy => hF y (by omega)) he
      · refine az_aload_n dX12_laysReach_8 ?_
        refine az_getf (v := .ref 80) dX12_laysReach_9 fl_X12_64 b64 ?_
        refine az_iload_n dX12_laysReach_12 ?_
        refine az_iconst (v := nI 0) dX12_laysReach_13 ?_
        refine az_iastN (j := c + 1) dX12_laysReach_14 (by rw [he]; exact az_up_eq) ?_
        rw [az_s_nI]
        refine az_iconst (v := nI 0) dX12_laysReach_15 ?_
        refine az_istore_n (ls' := [(0, .ref 64), (1, .int (nI tb)), (2, .int (nI (c + 1))), (3, .int (nI 0))]) dX12_laysReach_16 ?_
        first | exact ih _ (by omega) c (i + 1) (az_s f c (ln_cb (rd_w v) (tb * 6 + c) i ||| 2 ^ ln_ch (rd_w v) ((tb * 6 + c) * 4 + i))) _ rfl hc (by omega) (by rw [az_s_eq]; rfl) (fun y hy => (by rw [az_s_ne (by omega)]; exact hF y hy)) (by rw [he, az_up_up]) | exact ih _ (by omega) (c + 1) 0 (az_s f (c + 1) 0) _ rfl (by omega) (by omega) (by rw [az_s_eq]; rfl) (fun y hy => (by rw [az_s_ne (by omega)]; by_cases e : y = c; rw [e, hfc, show i = ln_sz (rd_w v) (tb * 6 + c) by omega]; rfl; exact hF y (by omega))) (by rw [he, az_up_up])
    · refine az_aload_n dX12_laysReach_27 ?_
      refine az_getf (v := .ref 80) dX12_laysReach_28 fl_X12_64 b64 ?_
      refine az_iload_n dX12_laysReach_31 ?_
      refine az_dup2_11 dX12_laysReach_32 ?_
      refine az_ialdN (j := c) dX12_laysReach_33 (by rw [he]; exact az_up_eq) ?_
      rw [hfc]
      refine az_iconst (v := nI 1) dX12_laysReach_34 ?_
      refine az_aload_n dX12_laysReach_35 ?_
      refine az_iload_n dX12_laysReach_36 ?_
      refine az_iload_n dX12_laysReach_37 ?_
      refine az_iload_n dX12_laysReach_38 ?_
      refine az_cV0 (st := [.int (nI 1), .int (nI (ln_cb (rd_w v) (tb * 6 + c) i)), .int (nI c), .ref 80]) dX12_laysReach_39 ml_X12_242 b64 (m_becomeOf (d := d - 1) (v := v) (tb := tb) (x := c) (i := i) b64 b65 hV hw h3 (by omega) (by omega) ?_)
      have hc6' := hw.2.2.2.2.2.2.2.1 ((tb * 6 + c) * 4 + i)
      have hcl := ln_cb_lt hw (tb * 6 + c) i
      have h2l := two_lt64 hc6'
      refine az_ishl1N dX12_laysReach_42 ?_
      refine az_iorN dX12_laysReach_43 ?_
      refine az_iastN (j := c) dX12_laysReach_44 (by rw [he]; exact az_up_eq) ?_
      rw [az_s_nI]
      refine az_iincN (n := 1) (ls' := [(0, .ref 64), (1, .int (nI tb)), (2, .int (nI c)), (3, .int (nI (i + 1)))]) dX12_laysReach_45 ?_
      refine az_goto (tgt := 17) dX12_laysReach_48 ?_
      first | exact ih _ (by omega) c (i + 1) (az_s f c (ln_cb (rd_w v) (tb * 6 + c) i ||| 2 ^ ln_ch (rd_w v) ((tb * 6 + c) * 4 + i))) _ rfl hc (by omega) (by rw [az_s_eq]; rfl) (fun y hy => (by rw [az_s_ne (by omega)]; exact hF y hy)) (by rw [he, az_up_up]) | exact ih _ (by omega) (c + 1) 0 (az_s f (c + 1) 0) _ rfl (by omega) (by omega) (by rw [az_s_eq]; rfl) (fun y hy => (by rw [az_s_ne (by omega)]; by_cases e : y = c; rw [e, hfc, show i = ln_sz (rd_w v) (tb * 6 + c) by omega]; rfl; exact hF y (by omega))) (by rw [he, az_up_up])
  refine az_M.of rfl (Nat.le_of_ble_eq_true rfl) ?_
  show az_W _ _ _ _ 0 [(0, .ref 64), (1, .int (nI tb))] [] _ _
  refine az_iconst (v := nI 0) dX12_laysReach_0 ?_
  refine az_istore_n (ls' := [(0, .ref 64), (1, .int (nI tb)), (2, .int (nI 0))]) dX12_laysReach_1 ?_
  refine az_iload_n dX12_laysReach_2 ?_
  refine az_bipush (v := nI 6) dX12_laysReach_3 ?_
  refine az_icmp_geN (tgt := 57) dX12_laysReach_5 (fun c5 => ?_) (fun c5 => ?_)
  · exact absurd c5 (by omega)
  · refine az_aload_n dX12_laysReach_8 ?_
    refine az_getf (v := .ref 80) dX12_laysReach_9 fl_X12_64 h64 ?_
    refine az_iload_n dX12_laysReach_12 ?_
    refine az_iconst (v := nI 0) dX12_laysReach_13 ?_
    refine az_iastN (j := 0) dX12_laysReach_14 h80 ?_
    rw [az_s_nI]
    refine az_iconst (v := nI 0) dX12_laysReach_15 ?_
    refine az_istore_n (ls' := [(0, .ref 64), (1, .int (nI tb)), (2, .int (nI 0)), (3, .int (nI 0))]) dX12_laysReach_16 ?_
    exact loop1 _ 0 0 (az_s g0 0 0) _ rfl (by decide) (Nat.zero_le _) az_s_eq (fun y hy => absurd hy (by omega)) rfl

