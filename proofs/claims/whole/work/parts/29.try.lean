/-! Scene: rewind, tryTable -/
theorem str_take {w : ln_W} {bs : List Nat} {i : Nat} (h : i < bs.length) : (ln_str w (bs.take i)).flatMap (ln_sub w (bs.getD i 0)) = ln_str w (bs.take (i + 1)) := by
  rw [take_getD h, ln_str_snoc]
theorem take_getD_lt {bs : List Nat} {i k : Nat} (h : i < k) : (bs.take k).getD i 0 = bs.getD i 0 := by
  rw [List.getD_eq_getElem?_getD, List.getD_eq_getElem?_getD, List.getElem?_take_of_lt h]
theorem tells_take {f : Nat → Int32} {bs : List Nat} (k : Nat) (h : tells f bs) : tells f (bs.take k) := by
  intro i hi
  rw [List.length_take] at hi
  rw [take_getD_lt (by omega)]
  exact h i (by omega)
set_option maxRecDepth 100000 in
theorem s_rewind {d a t k9 ni' mo' mo ni : Nat} {w : ln_W} {bs : List Nat} {hp : az_Hp} {Q : Option Value → az_Hp → Prop} (hd : 3 ≤ d) (hw : ln_ok w) (hb : ln_by w bs) (hT : ln_To hp t w a (a + 8)) (hS : ln_Scene hp a t w mo ni bs) (hk9 : k9 ≤ bs.length) (hQ : ∀ h', ln_Scene h' a t w mo' ni' (bs.take k9) → az_fr hp h' a (a + 8) → Q none h') : az_M mX6_rewind d 0 0 [.ref a, .int (nI k9), .int (nI ni'), .int (nI mo')] hp Q := by
  obtain ⟨hi, hR, ht⟩ := sc_of hS
  obtain ⟨fr0, la0, hq0, -, -⟩ := hR.Q
  obtain ⟨fr, la, no, wa, nc, hS0, -⟩ := id hR
  have h60 := hb.1
  have loop : ∀ (k : Nat) (i : Nat) (h' : az_Hp), k9 - i = k → (i ≤ k9) → (az_fr hp h' a (a + 8)) → (sc_R h' a t (.int (nI mo)) (.int (nI ni)) (.int (nI k9)) (ln_str w (bs.take i)) hi) → az_W mX6_rewind d 0 0 19 [(0, .ref a), (1, .int (nI k9)), (2, .int (nI ni')), (3, .int (nI mo')), (4, .int (nI i))] [] h' Q := by
    intro k
    induction k using Nat.strongRecOn with
    | _ k ih =>
    intro i h' hk hi9 hf hr
    obtain ⟨fr2, la2, no2, wa2, nc2, g0, g1, g2, g3, tg3, g4, tg4, g5, g6, g7⟩ := id hr
    refine az_iload dX6_rewind_19 ?_
    refine az_aload_n dX6_rewind_21 ?_
    refine az_getf (v := .int (nI k9)) dX6_rewind_22 fl_X6_54 g0 ?_
    refine az_icmp_geN (tgt := 45) dX6_rewind_25 (fun c25 => ?_) (fun c25 => ?_)
    · refine az_aload_n dX6_rewind_45 ?_
      refine az_iload_n dX6_rewind_46 ?_
      refine az_putf (fs' := [.ref t, .int (nI mo), .int (nI ni'), .int (nI k9), .long (lN ((ln_str w (bs.take i)).length)), .int (nI ((ln_dd (ln_str w (bs.take i))).length)), .ref (a + 1), .ref (a + 2), .ref (a + 3), .ref (a + 4), .ref (a + 5), .ref (a + 6), .ref (a + 7)]) dX6_rewind_47 fl_X6_51 g0 ?_
      refine az_aload_n dX6_rewind_50 ?_
      refine az_iload_n dX6_rewind_51 ?_
      refine az_putf (fs' := [.ref t, .int (nI mo'), .int (nI ni'), .int (nI k9), .long (lN ((ln_str w (bs.take i)).length)), .int (nI ((ln_dd (ln_str w (bs.take i))).length)), .ref (a + 1), .ref (a + 2), .ref (a + 3), .ref (a + 4), .ref (a + 5), .ref (a + 6), .ref (a + 7)]) dX6_rewind_52 fl_X6_50 az_up_eq ?_
      rw [az_up_up]
      obtain rfl : i = k9 := by omega
      exact az_vret dX6_rewind_55 (hQ _ (sc_to (hi := hi) (by rw [show (bs.take i).length = i by rw [List.length_take]; omega]; exact ⟨fr2, la2, no2, wa2, nc2, az_up_eq, az_up_ne g1, az_up_ne g2, az_up_ne g3, tg3, az_up_ne g4, tg4, az_up_ne g5, az_up_ne g6, az_up_ne g7⟩) (tells_take _ ht)) hf.up)
    · refine az_aload_n dX6_rewind_28 ?_
      refine az_aload_n dX6_rewind_29 ?_
      refine az_getf (v := .ref (a + 2)) dX6_rewind_30 fl_X6_15 g0 ?_
      refine az_iload dX6_rewind_33 ?_
      refine az_ialdN (j := i) dX6_rewind_35 g2 ?_
      rw [ht i (by omega)]
      have hb3 : bs.getD i 0 < 3 := Nat.lt_of_lt_of_le (hb.2.1 _ (getD_mem (show i < bs.length by omega))) hw.2.1
      refine az_cV0 (st := []) dX6_rewind_36 ml_X6_79 g0 (s_grow (d := d - 1) (by omega) hw (ln_str_lt hw _) (hT.fr hf) hr hb3 (fun h2 r2 f2 => ?_))
      refine az_iincN (n := 1) (ls' := [(0, .ref a), (1, .int (nI k9)), (2, .int (nI ni')), (3, .int (nI mo')), (4, .int (nI (i + 1)))]) dX6_rewind_39 ?_
      refine az_goto (tgt := 19) dX6_rewind_42 ?_
      rw [str_take (by omega)] at r2
      exact ih _ (by omega) (i + 1) h2 rfl (by omega) (hf.tr f2) r2
  refine az_M.of rfl (Nat.le_of_ble_eq_true rfl) ?_
  show az_W _ _ _ _ 0 [(0, .ref a), (1, .int (nI k9)), (2, .int (nI ni')), (3, .int (nI mo'))] [] _ _
  refine az_aload_n dX6_rewind_0 ?_
  refine az_cV0 (st := []) dX6_rewind_1 ml_X6_57 hS0 (s_layStart (d := d - 1) (by omega) hw hT hq0 (fun h1 r1 f1 => ?_))
  obtain ⟨fr1, la1, no1, wa1, nc1, g0, g1, g2, g3, tg3, g4, tg4, g5, g6, g7⟩ := id r1
  refine az_aload_n dX6_rewind_4 ?_
  refine az_iload_n dX6_rewind_5 ?_
  refine az_aload_n dX6_rewind_6 ?_
  refine az_getf (v := .int (nI bs.length)) dX6_rewind_7 fl_X6_54 g0 ?_
  refine az_mminN dX6_rewind_10 ml_X6_73 ?_
  rw [Nat.min_eq_left hk9]
  refine az_putf (fs' := [.ref t, .int (nI mo), .int (nI ni), .int (nI k9), .long (lN ((ln_word w).length)), .int (nI ((ln_dd (ln_word w)).length)), .ref (a + 1), .ref (a + 2), .ref (a + 3), .ref (a + 4), .ref (a + 5), .ref (a + 6), .ref (a + 7)]) dX6_rewind_13 fl_X6_54 g0 ?_
  refine az_iconst (v := nI 0) dX6_rewind_16 ?_
  refine az_istore (ls' := [(0, .ref a), (1, .int (nI k9)), (2, .int (nI ni')), (3, .int (nI mo')), (4, .int (nI 0))]) dX6_rewind_17 ?_
  exact loop _ 0 _ rfl (Nat.zero_le _) f1.up ⟨fr1, la1, no1, wa1, nc1, az_up_eq, az_up_ne g1, az_up_ne g2, az_up_ne g3, tg3, az_up_ne g4, tg4, az_up_ne g5, az_up_ne g6, az_up_ne g7⟩
theorem flat_le {w : ln_W} (hw : ln_ok w) (tb : Nat) (l : List Nat) : (l.flatMap (ln_sub w tb)).length ≤ 4 * l.length := by
  induction l with
  | nil => simp
  | cons x l ih =>
    rw [List.flatMap_cons, List.length_append, List.length_cons, ln_sub_len]
    have := hw.2.2.2.2.2.2.1 (tb * 6 + x)
    omega
set_option maxRecDepth 100000 in
theorem s_tryTable {d a t tb mo ni : Nat} {w : ln_W} {bs : List Nat} {hp : az_Hp} {Q : Option Value → az_Hp → Prop} (hd : 3 ≤ d) (hw : ln_ok w) (hb : ln_by w bs) (hT : ln_To hp t w a (a + 8)) (hS : ln_Scene hp a t w mo ni bs) (htb : tb < ln_tb w) (hQ2 : 60 ≤ bs.length → Q (some (.int (nI 2))) hp) (hQ3 : bs.length < 60 → 1000000000000 < (ln_str w (bs ++ [tb])).length → Q (some (.int (nI 3))) hp) (hQ0 : bs.length < 60 → (ln_str w (bs ++ [tb])).length ≤ 1000000000000 → ∀ h', ln_Scene h' a t w mo (ni + 1) (bs ++ [tb]) → az_fr hp h' a (a + 8) → Q (some (.int (nI 0))) h') : az_M mX6_tryTable d 0 0 [.ref a, .int (nI tb)] hp Q := by
  obtain ⟨hi, hR, ht⟩ := sc_of hS
  obtain ⟨fr, la, no, wa, nc, g0, g1, g2, g3, tg3, g4, tg4, g5, g6, g7⟩ := id hR
  have h60 := hb.1
  have htb3 : tb < 3 := Nat.lt_of_lt_of_le htb hw.2.1
  have hlen := flat_le hw tb (ln_str w bs)
  have hlen2 := hb.2.2
  rw [ln_str_snoc] at hQ3 hQ0
  refine az_M.of rfl (Nat.le_of_ble_eq_true rfl) ?_
  show az_W _ _ _ _ 0 [(0, .ref a), (1, .int (nI tb))] [] _ _
  refine az_aload_n dX6_tryTable_0 ?_
  refine az_getf (v := .int (nI bs.length)) dX6_tryTable_1 fl_X6_54 g0 ?_
  refine az_bipush (v := nI 60) dX6_tryTable_4 ?_
  refine az_icmp_ltN (tgt := 11) dX6_tryTable_6 (fun c6 => ?_) (fun c6 => ?_)
  · refine az_aload_n dX6_tryTable_11 ?_
    refine az_iload_n dX6_tryTable_12 ?_
    refine az_cV0 (st := []) dX6_tryTable_13 ml_X6_118 g0 (s_spanBy2 (d := d - 1) (by omega) hw (ln_str_lt hw bs) hT.town g0 g1 htb3 ?_)
    refine az_ldc2 (v := lN 1000000000000) dX6_tryTable_16 cn_X6_122 ?_
    refine az_lcmp_leN (tgt := 25) dX6_tryTable_19 dX6_tryTable_20 (fun c19 => ?_) (fun c19 => ?_)
    · refine az_aload_n dX6_tryTable_25 ?_
      refine az_getf (v := .ref (a + 2)) dX6_tryTable_26 fl_X6_15 g0 ?_
      refine az_aload_n dX6_tryTable_29 ?_
      refine az_getf (v := .int (nI bs.length)) dX6_tryTable_30 fl_X6_54 g0 ?_
      refine az_iload_n dX6_tryTable_33 ?_
      refine az_iastN (j := bs.length) dX6_tryTable_34 g2 ?_
      refine az_aload_n dX6_tryTable_35 ?_
      refine az_dup dX6_tryTable_36 ?_
      refine az_getf (v := .int (nI bs.length)) dX6_tryTable_37 fl_X6_54 (az_up_ne g0) ?_
      refine az_iconst (v := nI 1) dX6_tryTable_40 ?_
      refine az_iaddN dX6_tryTable_41 ?_
      refine az_putf (fs' := [.ref t, .int (nI mo), .int (nI ni), .int (nI (bs.length + 1)), .long (lN ((ln_str w bs).length)), .int (nI ((ln_dd (ln_str w bs)).length)), .ref (a + 1), .ref (a + 2), .ref (a + 3), .ref (a + 4), .ref (a + 5), .ref (a + 6), .ref (a + 7)]) dX6_tryTable_42 fl_X6_54 (az_up_ne g0) ?_
      refine az_aload_n dX6_tryTable_45 ?_
      refine az_dup dX6_tryTable_46 ?_
      refine az_getf (v := .int (nI ni)) dX6_tryTable_47 fl_X6_51 az_up_eq ?_
      refine az_iconst (v := nI 1) dX6_tryTable_50 ?_
      refine az_iaddN dX6_tryTable_51 ?_
      refine az_putf (fs' := [.ref t, .int (nI mo), .int (nI (ni + 1)), .int (nI (bs.length + 1)), .long (lN ((ln_str w bs).length)), .int (nI ((ln_dd (ln_str w bs)).length)), .ref (a + 1), .ref (a + 2), .ref (a + 3), .ref (a + 4), .ref (a + 5), .ref (a + 6), .ref (a + 7)]) dX6_tryTable_52 fl_X6_51 az_up_eq ?_
      rw [az_up_up]
      refine az_aload_n dX6_tryTable_55 ?_
      refine az_iload_n dX6_tryTable_56 ?_
      refine az_cV0 (st := []) dX6_tryTable_57 ml_X6_79 az_up_eq (s_grow (hi := az_s hi bs.length (nI tb)) (d := d - 1) (by omega) hw (ln_str_lt hw bs) (hT.fr az_fr.rf.up.up) ⟨fr, la, no, wa, nc, az_up_eq, az_up_ne (az_up_ne g1), az_up_ne az_up_eq, az_up_ne (az_up_ne g3), tg3, az_up_ne (az_up_ne g4), tg4, az_up_ne (az_up_ne g5), az_up_ne (az_up_ne g6), az_up_ne (az_up_ne g7)⟩ htb3 (fun h2 r2 f2 => ?_))
      refine az_iconst (v := nI 0) dX6_tryTable_60 ?_
      exact az_iret dX6_tryTable_61 (hQ0 (by omega) (by omega) _ (sc_to (by rw [ln_str_snoc, show (bs ++ [tb]).length = bs.length + 1 by simp]; exact r2) (tells_snoc ht)) (az_fr.rf.up.up.tr f2))
    · refine az_iconst (v := nI 3) dX6_tryTable_23 ?_
      exact az_iret dX6_tryTable_24 (hQ3 (by omega) (by omega))
  · refine az_iconst (v := nI 2) dX6_tryTable_9 ?_
    exact az_iret dX6_tryTable_10 (hQ2 (by omega))
