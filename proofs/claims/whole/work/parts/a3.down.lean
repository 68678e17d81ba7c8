/-! The model: down to a place -/
abbrev su (sc : Nat → Value) (k : Nat) (x : Value) : Nat → Value := fun j => if j = k then x else sc j
theorem word_get {w : ln_W} {i : Nat} (h : i < ln_sd w) : (ln_word w)[i]? = some (ln_st w i) := by
  simp [ln_word, h]
theorem word_get0 {w : ln_W} {i : Nat} (h : ln_sd w ≤ i) : (ln_word w)[i]? = none := by
  simp [ln_word, h]
theorem sub_get {w : ln_W} {tb x i : Nat} (h : i < ln_sz w (tb * 6 + x)) : (ln_sub w tb x)[i]? = some (ln_ch w ((tb * 6 + x) * 4 + i)) := by
  simp [ln_sub, h]
theorem sub_get0 {w : ln_W} {tb x i : Nat} (h : ln_sz w (tb * 6 + x) ≤ i) : (ln_sub w tb x)[i]? = none := by
  simp [ln_sub, h]
/-- the letters among which a night's way goes -/
def mP (w : ln_W) (bs : List Nat) : Nat → Option Nat → List Nat
  | 0, _ => ln_word w
  | k + 1, some x => ln_sub w (bs.getD k 0) x
  | _ + 1, none => []
theorem mP_lt {w : ln_W} (hw : ln_ok w) {bs : List Nat} {k : Nat} {c : Option Nat} {x : Nat} (h : x ∈ mP w bs k c) : x < 6 := by
  match k, c, h with
  | 0, _, h => exact ln_word_lt hw h
  | k + 1, some y, h =>
    obtain ⟨i, _, rfl⟩ := List.mem_map.mp (show x ∈ (List.range _).map _ from h)
    exact hw.2.2.2.2.2.2.2.1 _
set_option maxHeartbeats 4000000 in
set_option maxRecDepth 100000 in
theorem m_partOf0 {d : Nat} {sc : Nat → Value} {A : Nat → Nat} {v : rd_V} {hp : az_Hp} {Q : Option Value → az_Hp → Prop} {c : Int32} {i : Nat} (hw : ln_ok (rd_w v)) (hi : i ≤ 12) (h64 : hp.2 64 = some (mo_o sc)) (h65 : hp.2 65 = some (az_I 3318 (fun j => nI (A j)))) (hV : mV A v) (hQ : Q (some (.int (ln_opt (ln_word (rd_w v))[i]?))) hp) : az_M mX12_partOf d 0 0 [.ref 64, .int (nI 0 - nI 1), .int c, .int (nI i)] hp Q := by
  have hA2 : A 2 = ln_sd (rd_w v) := hV.2.2.1
  have hAw : ∀ k, k < ln_sd (rd_w v) → A (3 + k) = ln_st (rd_w v) k := hV.2.2.2.1
  have h12 := hw.2.2.2.2.1
  refine az_M.of rfl (Nat.le_of_ble_eq_true rfl) ?_
  show az_W _ _ _ _ 0 [(0, .ref 64), (1, .int ((nI 0 - nI 1))), (2, .int c), (3, .int (nI i))] [] _ _
  refine az_iload_n dX12_partOf_0 ?_
  refine az_if_ge (tgt := 27) dX12_partOf_1 (fun c1 => ?_) (fun c1 => ?_)
  · exact absurd c1 (by decide)
  · refine az_iload_n dX12_partOf_4 ?_
    refine az_aload_n dX12_partOf_5 ?_
    refine az_getf (v := .ref 65) dX12_partOf_6 fl_X12_13 h64 ?_
    refine az_iconst (v := nI 2) dX12_partOf_9 ?_
    refine az_ialdN (j := 2) dX12_partOf_10 h65 ?_
    rw [hA2]
    refine az_icmp_geN (tgt := 25) dX12_partOf_11 (fun c11 => ?_) (fun c11 => ?_)
    · refine az_iconst (v := (-1)) dX12_partOf_25 ?_
      exact az_iret dX12_partOf_26 (by first | (rw [word_get (by omega)] at hQ; exact hQ) | (rw [word_get0 (by omega)] at hQ; exact hQ))
    · refine az_aload_n dX12_partOf_14 ?_
      refine az_getf (v := .ref 65) dX12_partOf_15 fl_X12_13 h64 ?_
      refine az_iconst (v := nI 3) dX12_partOf_18 ?_
      refine az_iload_n dX12_partOf_19 ?_
      refine az_iaddN dX12_partOf_20 ?_
      refine az_ialdN (j := 3 + i) dX12_partOf_21 h65 ?_
      rw [hAw i (by omega)]
      refine az_goto (tgt := 26) dX12_partOf_22 ?_
      exact az_iret dX12_partOf_26 (by first | (rw [word_get (by omega)] at hQ; exact hQ) | (rw [word_get0 (by omega)] at hQ; exact hQ))
set_option maxHeartbeats 4000000 in
set_option maxRecDepth 100000 in
theorem m_partOf1 {d : Nat} {sc : Nat → Value} {A : Nat → Nat} {v : rd_V} {mo ni : Nat} {bs : List Nat} {hp : az_Hp} {Q : Option Value → az_Hp → Prop} {k x i : Nat} (hd : 1 ≤ d) (hw : ln_ok (rd_w v)) (hb : ln_by (rd_w v) bs) (hk : k < bs.length) (hx : x < 6) (hi : i ≤ 12) (h64 : hp.2 64 = some (mo_o sc)) (h65 : hp.2 65 = some (az_I 3318 (fun j => nI (A j)))) (hT : mT A v (mo, ni, bs)) (hQ : Q (some (.int (ln_opt (ln_sub (rd_w v) (bs.getD k 0) x)[i]?))) hp) : az_M mX12_partOf d 0 0 [.ref 64, .int (nI k), .int (nI x), .int (nI i)] hp Q := by
  have h60 := hb.1
  have hAb : ∀ k, k < bs.length → A (145 + k) = bs.getD k 0 := hT.2.2.2.2
  have hb3 : bs.getD k 0 < 3 := Nat.lt_of_lt_of_le (hb.2.1 _ (getD_mem hk)) hw.2.1
  have hz4 := hw.2.2.2.2.2.2.1 (bs.getD k 0 * 6 + x)
  refine az_M.of rfl (Nat.le_of_ble_eq_true rfl) ?_
  show az_W _ _ _ _ 0 [(0, .ref 64), (1, .int (nI k)), (2, .int (nI x)), (3, .int (nI i))] [] _ _
  refine az_iload_n dX12_partOf_0 ?_
  refine az_if_geN (tgt := 27) dX12_partOf_1 (fun c1 => ?_) (fun c1 => ?_)
  · refine az_aload_n dX12_partOf_27 ?_
    refine az_getf (v := .ref 65) dX12_partOf_28 fl_X12_13 h64 ?_
    refine az_sipush (v := nI 145) dX12_partOf_31 ?_
    refine az_iload_n dX12_partOf_34 ?_
    refine az_iaddN dX12_partOf_35 ?_
    refine az_ialdN (j := 145 + k) dX12_partOf_36 h65 ?_
    rw [hAb k hk]
    refine az_istore (ls' := [(0, .ref 64), (1, .int (nI k)), (2, .int (nI x)), (3, .int (nI i)), (4, .int (nI (bs.getD k 0)))]) dX12_partOf_37 ?_
    refine az_iload_n dX12_partOf_39 ?_
    refine az_aload_n dX12_partOf_40 ?_
    refine az_iload dX12_partOf_41 ?_
    refine az_iload_n dX12_partOf_43 ?_
    refine az_cV0 (st := [.int (nI i)]) dX12_partOf_44 ml_X12_239 h64 (m_becomeMany (d := d - 1) (v := v) (tb := bs.getD k 0) (x := x) h64 h65 hT.1 hb3 hx ?_)
    refine az_icmp_geN (tgt := 61) dX12_partOf_47 (fun c47 => ?_) (fun c47 => ?_)
    · refine az_iconst (v := (-1)) dX12_partOf_61 ?_
      exact az_iret dX12_partOf_62 (by first | (rw [sub_get (by omega)] at hQ; exact hQ) | (rw [sub_get0 (by omega)] at hQ; exact hQ))
    · refine az_aload_n dX12_partOf_50 ?_
      refine az_iload dX12_partOf_51 ?_
      refine az_iload_n dX12_partOf_53 ?_
      refine az_iload_n dX12_partOf_54 ?_
      refine az_cV0 (st := []) dX12_partOf_55 ml_X12_242 h64 (m_becomeOf (d := d - 1) (v := v) (tb := bs.getD k 0) (x := x) (i := i) h64 h65 hT.1 hw hb3 hx (by omega) ?_)
      refine az_goto (tgt := 62) dX12_partOf_58 ?_
      exact az_iret dX12_partOf_62 (by first | (rw [sub_get (by omega)] at hQ; exact hQ) | (rw [sub_get0 (by omega)] at hQ; exact hQ))
  · exact absurd c1 (by omega)
theorem m_partOf {d : Nat} {sc : Nat → Value} {A : Nat → Nat} {v : rd_V} {mo ni : Nat} {bs : List Nat} {hp : az_Hp} {Q : Option Value → az_Hp → Prop} {k i : Nat} {c : Option Nat} (hd : 1 ≤ d) (hw : ln_ok (rd_w v)) (hb : ln_by (rd_w v) bs) (hk : k ≤ bs.length) (hc : ∀ x, c = some x → x < 6) (hc1 : k ≠ 0 → ∃ x, c = some x) (hi : i ≤ 12) (h64 : hp.2 64 = some (mo_o sc)) (h65 : hp.2 65 = some (az_I 3318 (fun j => nI (A j)))) (hT : mT A v (mo, ni, bs)) (hQ : Q (some (.int (ln_opt (mP (rd_w v) bs k c)[i]?))) hp) : az_M mX12_partOf d 0 0 [.ref 64, .int (nI k - nI 1), .int (ln_opt c), .int (nI i)] hp Q := by
  cases k with
  | zero => exact m_partOf0 hw hi h64 h65 hT.1 hQ
  | succ k =>
    obtain ⟨x, rfl⟩ := hc1 (by omega)
    rw [show nI (k + 1) - nI 1 = nI k from nI_subN (by omega)]
    exact m_partOf1 hd hw hb (by omega) (hc x rfl) hi h64 h65 hT hQ
theorem mP_len {w : ln_W} (hw : ln_ok w) {bs : List Nat} {k : Nat} {c : Option Nat} : (mP w bs k c).length ≤ 12 := by
  match k, c with
  | 0, _ => rw [mP, word_len]; exact hw.2.2.2.2.1
  | k + 1, some y => rw [mP, ln_sub_len]; exact Nat.le_trans (hw.2.2.2.2.2.2.1 _) (by decide)
  | k + 1, none => exact Nat.zero_le _
theorem scan_get {F F2 : Nat → Nat} {l : List Nat} {i k p x : Nat} (h : l[i]? = some x) : ln_scan F F2 (l.drop i) k p = if k < F x then (some x, k, p) else ln_scan F F2 (l.drop (i + 1)) (k - F x) (p + F2 x) := by
  obtain ⟨h1, h2⟩ := List.getElem?_eq_some_iff.mp h
  rw [scan_drop h1, List.getD_eq_getElem?_getD, h]
  rfl
set_option maxHeartbeats 4000000 in
set_option maxRecDepth 100000 in
theorem m_comesTo {d : Nat} {sc : Nat → Value} {A : Nat → Nat} {v : rd_V} {mo ni : Nat} {bs : List Nat} {hp : az_Hp} {Q : Option Value → az_Hp → Prop} {p : Nat} {g1 g2 : Nat → Nat} {r : Option Nat × Nat × Nat} (hd : 2 ≤ d) (hw : ln_ok (rd_w v)) (hb : ln_by (rd_w v) bs) (h64 : hp.2 64 = some (mo_o sc)) (h65 : hp.2 65 = some (az_I 3318 (fun j => nI (A j)))) (hT : mT A v (mo, ni, bs)) (h70 : hp.2 70 = some (az_J 366 (fun j => lN (g1 j)))) (h71 : hp.2 71 = some (az_J 366 (fun j => lN (g2 j)))) (hm : ∀ k x, k ≤ bs.length → x < 6 → g1 (6 * k + x) < 2 ^ 63) (hp9 : p < 2 ^ 63) (hr0 : ln_go (rd_w v) bs (fun k x => g1 (6 * k + x)) (fun k x => g2 (6 * k + x)) bs.length 0 (ln_scan ((fun k x => g1 (6 * k + x)) 0) ((fun k x => g2 (6 * k + x)) 0) (ln_word (rd_w v)) p 0).1 (ln_scan ((fun k x => g1 (6 * k + x)) 0) ((fun k x => g2 (6 * k + x)) 0) (ln_word (rd_w v)) p 0).2.1 (ln_scan ((fun k x => g1 (6 * k + x)) 0) ((fun k x => g2 (6 * k + x)) 0) (ln_word (rd_w v)) p 0).2.2 = r) (hQ : Q (some (.int (ln_opt r.1))) (az_up hp 64 (mo_o (su sc 18 (.long (lN r.2.2)))))) : az_M mX12_comesTo d 0 0 [.ref 64, .long (lN p)] hp Q := by
  have h60 := hb.1
  have hA113 : A 113 = bs.length := hT.2.2.2.1
  have inner : ∀ (k : Nat) (k9 i : Nat) (c : Option Nat) (l q : Nat) (S : Option Nat × Nat × Nat) (h' : az_Hp) (hk9 : k9 ≤ bs.length) (hc : ∀ x, c = some x → x < 6) (hc1 : k9 ≠ 0 → ∃ x, c = some x) (hK : ∀ (i : Nat) (h' : az_Hp), h' = az_up hp 64 (mo_o (su sc 18 (.long (lN S.2.2)))) → az_W mX12_comesTo d 0 0 123 [(0, .ref 64), (1, .long (lN p)), (3, .long (lN S.2.1)), (5, .int (ln_opt c)), (6, .int (nI k9)), (7, .int (nI i)), (8, .int (ln_opt S.1))] [] h' Q), 12 - i = k → (i ≤ 12) → (l < 2 ^ 63) → (ln_scan ((fun k x => g1 (6 * k + x)) k9) ((fun k x => g2 (6 * k + x)) k9) ((mP (rd_w v) bs k9 c).drop i) l q = S) → (h' = az_up hp 64 (mo_o (su sc 18 (.long (lN (q)))))) → az_W mX12_comesTo d 0 0 41 [(0, .ref 64), (1, .long (lN p)), (3, .long (lN l)), (5, .int (ln_opt c)), (6, .int (nI k9)), (7, .int (nI i)), (8, .int (ln_opt (mP (rd_w v) bs k9 c)[i]?))] [] h' Q := by
    intro k
    induction k using Nat.strongRecOn with
    | _ k ih =>
    intro k9 i c l q S h' hk9 hc hc1 hK hk hi hl hS he
    have hP12 := mP_len hw (bs := bs) (k := k9) (c := c)
    have e64 : h'.2 64 = some (az_O 11 [sc 0, .ref 65, .ref 66, .ref 67, .ref 68, sc 5, fI (sc 6), sc 7, sc 8, fI (sc 9), fI (sc 10), sc 11, fI (sc 12), sc 13, sc 14, .ref 69, .ref 70, .ref 71, .long (lN (q)), .ref 72, .ref 73, .ref 74, sc 22, sc 23, .ref 75, sc 25, .ref 76, .ref 77, .ref 78, sc 29, .ref 79, .ref 80, .ref 81, .ref 82, .ref 83, .ref 84, .ref 85, sc 37, .ref 86, .ref 87, .ref 88, .ref 89, .ref 90, .ref 91, .ref 92]) := (by rw [he]; exact az_up_eq)
    have e65 : h'.2 65 = some (az_I 3318 (fun j => nI (A j))) := (by rw [he]; exact az_up_ne h65)
    have e70 : h'.2 70 = some (az_J 366 (fun j => lN (g1 j))) := (by rw [he]; exact az_up_ne h70)
    have e71 : h'.2 71 = some (az_J 366 (fun j => lN (g2 j))) := (by rw [he]; exact az_up_ne h71)
    refine az_iload dX12_comesTo_41 ?_
    refine az_iconst (v := (-1)) dX12_comesTo_43 ?_
    refine az_icmp_eq (tgt := 123) dX12_comesTo_44 (fun c44 => ?_) (fun c44 => ?_)
    · first | (rw [if_pos (by omega)] at hS; subst hS; exact hK i h' he) | (have hn := opt_none (fun x hx => mP_lt hw (List.mem_of_getElem? hx)) c44; rw [List.drop_eq_nil_of_le (List.getElem?_eq_none_iff.mp hn)] at hS; subst hS; rw [hn]; exact hK i h' he)
    · obtain ⟨x, hx⟩ := opt_some c44
      have hx6 : x < 6 := mP_lt hw (List.mem_of_getElem? hx)
      have hxm := hm k9 x hk9 hx6
      have hil : i < (mP (rd_w v) bs k9 c).length := (List.getElem?_eq_some_iff.mp hx).1
      rw [hx, show ln_opt (some x) = nI x from rfl]
      rw [scan_get hx] at hS
      refine az_lload_n dX12_comesTo_47 ?_
      refine az_aload_n dX12_comesTo_48 ?_
      refine az_getf (v := .ref 70) dX12_comesTo_49 fl_X12_33 e64 ?_
      refine az_bipush (v := nI 6) dX12_comesTo_52 ?_
      refine az_iload dX12_comesTo_54 ?_
      refine az_imulN dX12_comesTo_56 ?_
      refine az_iload dX12_comesTo_57 ?_
      refine az_iaddN dX12_comesTo_59 ?_
      refine az_laldN (j := (6 * k9) + x) dX12_comesTo_60 e70 ?_
      refine az_lcmp_ltN (tgt := 123) dX12_comesTo_61 dX12_comesTo_62 (fun c61 => ?_) (fun c61 => ?_)
      · first | (rw [if_pos (by omega)] at hS; subst hS; exact hK i h' he) | (have hn := opt_none (fun x hx => mP_lt hw (List.mem_of_getElem? hx)) c44; rw [List.drop_eq_nil_of_le (List.getElem?_eq_none_iff.mp hn)] at hS; subst hS; rw [hn]; exact hK i h' he)
      · refine az_lload_n dX12_comesTo_65 ?_
        refine az_aload_n dX12_comesTo_66 ?_
        refine az_getf (v := .ref 70) dX12_comesTo_67 fl_X12_33 e64 ?_
        refine az_bipush (v := nI 6) dX12_comesTo_70 ?_
        refine az_iload dX12_comesTo_72 ?_
        refine az_imulN dX12_comesTo_74 ?_
        refine az_iload dX12_comesTo_75 ?_
        refine az_iaddN dX12_comesTo_77 ?_
        refine az_laldN (j := (6 * k9) + x) dX12_comesTo_78 e70 ?_
        refine az_lsubN dX12_comesTo_79 (by omega) ?_
        refine az_lstore_n (ls' := [(0, .ref 64), (1, .long (lN p)), (3, .long (lN (l - (g1 ((6 * k9) + x))))), (5, .int (ln_opt c)), (6, .int (nI k9)), (7, .int (nI i)), (8, .int (nI x))]) dX12_comesTo_80 ?_
        refine az_aload_n dX12_comesTo_81 ?_
        refine az_dup dX12_comesTo_82 ?_
        refine az_getf (v := .long (lN q)) dX12_comesTo_83 fl_X12_260 e64 ?_
        refine az_aload_n dX12_comesTo_86 ?_
        refine az_getf (v := .ref 71) dX12_comesTo_87 fl_X12_37 e64 ?_
        refine az_bipush (v := nI 6) dX12_comesTo_90 ?_
        refine az_iload dX12_comesTo_92 ?_
        refine az_imulN dX12_comesTo_94 ?_
        refine az_iload dX12_comesTo_95 ?_
        refine az_iaddN dX12_comesTo_97 ?_
        refine az_laldN (j := (6 * k9) + x) dX12_comesTo_98 e71 ?_
        refine az_laddN dX12_comesTo_99 ?_
        refine az_putf (fs' := [sc 0, .ref 65, .ref 66, .ref 67, .ref 68, sc 5, fI (sc 6), sc 7, sc 8, fI (sc 9), fI (sc 10), sc 11, fI (sc 12), sc 13, sc 14, .ref 69, .ref 70, .ref 71, .long (lN (q + (g2 ((6 * k9) + x)))), .ref 72, .ref 73, .ref 74, sc 22, sc 23, .ref 75, sc 25, .ref 76, .ref 77, .ref 78, sc 29, .ref 79, .ref 80, .ref 81, .ref 82, .ref 83, .ref 84, .ref 85, sc 37, .ref 86, .ref 87, .ref 88, .ref 89, .ref 90, .ref 91, .ref 92]) dX12_comesTo_100 fl_X12_260 e64 ?_
        refine az_iincN (n := 1) (ls' := [(0, .ref 64), (1, .long (lN p)), (3, .long (lN (l - (g1 ((6 * k9) + x))))), (5, .int (ln_opt c)), (6, .int (nI k9)), (7, .int (nI (i + 1))), (8, .int (nI x))]) dX12_comesTo_103 ?_
        refine az_aload_n dX12_comesTo_106 ?_
        refine az_iload dX12_comesTo_107 ?_
        refine az_iconst (v := nI 1) dX12_comesTo_109 ?_
        refine az_isub dX12_comesTo_110 ?_
        refine az_iload dX12_comesTo_111 ?_
        refine az_iload dX12_comesTo_113 ?_
        refine az_cV0 (st := []) dX12_comesTo_115 ml_X12_264 az_up_eq (m_partOf (d := d - 1) (v := v) (k := k9) (c := c) (i := i + 1) (sc := su sc 18 (.long (lN (q + g2 (6 * k9 + x))))) (by omega) hw hb hk9 hc hc1 (by omega) az_up_eq (az_up_ne e65) hT ?_)
        refine az_istore (ls' := [(0, .ref 64), (1, .long (lN p)), (3, .long (lN (l - (g1 ((6 * k9) + x))))), (5, .int (ln_opt c)), (6, .int (nI k9)), (7, .int (nI (i + 1))), (8, .int (ln_opt (mP (rd_w v) bs k9 c)[i + 1]?))]) dX12_comesTo_118 ?_
        refine az_goto (tgt := 41) dX12_comesTo_120 ?_
        rw [if_neg (by omega)] at hS
        exact ih _ (by omega) k9 (i + 1) c (l - g1 (6 * k9 + x)) (q + g2 (6 * k9 + x)) S _ hk9 hc hc1 hK rfl (by omega) (by omega) hS (by rw [he, az_up_up]; rfl)
  have outer : ∀ (k : Nat) (k9 : Nat) (c : Option Nat) (l q : Nat) (h' : az_Hp), bs.length + 1 - k9 = k → (k9 ≤ bs.length + 1) → (l < 2 ^ 63) → (∀ x, c = some x → x < 6) → (k9 ≠ 0 → ∃ x, c = some x) → (k9 ≤ bs.length → ln_go (rd_w v) bs (fun k x => g1 (6 * k + x)) (fun k x => g2 (6 * k + x)) (bs.length - k9) k9 (ln_scan ((fun k x => g1 (6 * k + x)) k9) ((fun k x => g2 (6 * k + x)) k9) (mP (rd_w v) bs k9 c) l q).1 (ln_scan ((fun k x => g1 (6 * k + x)) k9) ((fun k x => g2 (6 * k + x)) k9) (mP (rd_w v) bs k9 c) l q).2.1 (ln_scan ((fun k x => g1 (6 * k + x)) k9) ((fun k x => g2 (6 * k + x)) k9) (mP (rd_w v) bs k9 c) l q).2.2 = r) → (k9 = bs.length + 1 → (c, l, q) = r) → (h' = az_up hp 64 (mo_o (su sc 18 (.long (lN (q)))))) → az_W mX12_comesTo d 0 0 13 [(0, .ref 64), (1, .long (lN p)), (3, .long (lN l)), (5, .int (ln_opt c)), (6, .int (nI k9))] [] h' Q := by
    intro k
    induction k using Nat.strongRecOn with
    | _ k ih =>
    intro k9 c l q h' hk hk9 hl hc hc1 hr1 hr2 he
    have e64 : h'.2 64 = some (az_O 11 [sc 0, .ref 65, .ref 66, .ref 67, .ref 68, sc 5, fI (sc 6), sc 7, sc 8, fI (sc 9), fI (sc 10), sc 11, fI (sc 12), sc 13, sc 14, .ref 69, .ref 70, .ref 71, .long (lN (q)), .ref 72, .ref 73, .ref 74, sc 22, sc 23, .ref 75, sc 25, .ref 76, .ref 77, .ref 78, sc 29, .ref 79, .ref 80, .ref 81, .ref 82, .ref 83, .ref 84, .ref 85, sc 37, .ref 86, .ref 87, .ref 88, .ref 89, .ref 90, .ref 91, .ref 92]) := (by rw [he]; exact az_up_eq)
    have e65 : h'.2 65 = some (az_I 3318 (fun j => nI (A j))) := (by rw [he]; exact az_up_ne h65)
    have e70 : h'.2 70 = some (az_J 366 (fun j => lN (g1 j))) := (by rw [he]; exact az_up_ne h70)
    have e71 : h'.2 71 = some (az_J 366 (fun j => lN (g2 j))) := (by rw [he]; exact az_up_ne h71)
    refine az_iload dX12_comesTo_13 ?_
    refine az_aload_n dX12_comesTo_15 ?_
    refine az_getf (v := .ref 65) dX12_comesTo_16 fl_X12_13 e64 ?_
    refine az_bipush (v := nI 113) dX12_comesTo_19 ?_
    refine az_ialdN (j := 113) dX12_comesTo_21 e65 ?_
    rw [hA113]
    refine az_icmp_gtN (tgt := 141) dX12_comesTo_22 (fun c22 => ?_) (fun c22 => ?_)
    · refine az_iload dX12_comesTo_141 ?_
      exact az_iret dX12_comesTo_143 (by have hr := hr2 (by omega); subst hr; rw [he]; exact hQ)
    · refine az_iconst (v := nI 0) dX12_comesTo_25 ?_
      refine az_istore (ls' := [(0, .ref 64), (1, .long (lN p)), (3, .long (lN l)), (5, .int (ln_opt c)), (6, .int (nI k9)), (7, .int (nI 0))]) dX12_comesTo_26 ?_
      refine az_aload_n dX12_comesTo_28 ?_
      refine az_iload dX12_comesTo_29 ?_
      refine az_iconst (v := nI 1) dX12_comesTo_31 ?_
      refine az_isub dX12_comesTo_32 ?_
      refine az_iload dX12_comesTo_33 ?_
      refine az_iconst (v := nI 0) dX12_comesTo_35 ?_
      refine az_cV0 (st := []) dX12_comesTo_36 ml_X12_264 e64 (m_partOf (d := d - 1) (v := v) (k := k9) (c := c) (i := 0) (sc := su sc 18 (.long (lN q))) (by omega) hw hb (by omega) hc hc1 (by omega) e64 e65 hT ?_)
      refine az_istore (ls' := [(0, .ref 64), (1, .long (lN p)), (3, .long (lN l)), (5, .int (ln_opt c)), (6, .int (nI k9)), (7, .int (nI 0)), (8, .int (ln_opt (mP (rd_w v) bs k9 c)[0]?))]) dX12_comesTo_39 ?_
      obtain ⟨S, hS⟩ : ∃ S, ln_scan ((fun k x => g1 (6 * k + x)) k9) ((fun k x => g2 (6 * k + x)) k9) (mP (rd_w v) bs k9 c) l q = S := ⟨_, rfl⟩
      refine inner _ k9 0 c l q S h' (by omega) hc hc1 ?_ rfl (Nat.zero_le _) hl (by rw [List.drop_zero]; exact hS) he
      intro i h' he
      refine az_iload dX12_comesTo_123 ?_
      refine az_iconst (v := (-1)) dX12_comesTo_125 ?_
      refine az_icmp_ne (tgt := 131) dX12_comesTo_126 (fun c126 => ?_) (fun c126 => ?_)
      · refine az_iload dX12_comesTo_131 ?_
        refine az_istore (ls' := [(0, .ref 64), (1, .long (lN p)), (3, .long (lN S.2.1)), (5, .int (ln_opt S.1)), (6, .int (nI k9)), (7, .int (nI i)), (8, .int (ln_opt S.1))]) dX12_comesTo_133 ?_
        refine az_iincN (n := 1) (ls' := [(0, .ref 64), (1, .long (lN p)), (3, .long (lN S.2.1)), (5, .int (ln_opt S.1)), (6, .int (nI (k9 + 1))), (7, .int (nI i)), (8, .int (ln_opt S.1))]) dX12_comesTo_135 ?_
        refine az_goto (tgt := 13) dX12_comesTo_138 ?_
        refine az_W.keep (ls' := [(0, .ref 64), (1, .long (lN p)), (3, .long (lN S.2.1)), (5, .int (ln_opt S.1)), (6, .int (nI (k9 + 1)))]) [0, 1, 3, 5, 6] rfl ?_
        obtain ⟨x, hx⟩ := opt_some c126
        exact ih _ (by omega) (k9 + 1) S.1 S.2.1 S.2.2 h' rfl (by omega) (by have := scan_le (F := (fun k x => g1 (6 * k + x)) k9) (F2 := (fun k x => g2 (6 * k + x)) k9) (l := (mP (rd_w v) bs k9 c)) (k := l) (p := q); rw [hS] at this; omega) (fun x hx => mP_lt hw (scan_mem (by rw [hS]; exact hx))) (fun _ => ⟨x, hx⟩) (fun hle => (by have hr := hr1 (by omega); rw [hS, hx, show bs.length - k9 = (bs.length - (k9 + 1)) + 1 by omega, ln_go] at hr; rw [hx]; exact hr)) (fun hle => (by have hr := hr1 (by omega); rw [hS, show bs.length - k9 = 0 by omega, ln_go] at hr; exact hr)) he
      · refine az_iconst (v := (-1)) dX12_comesTo_129 ?_
        exact az_iret dX12_comesTo_130 (by have hn := opt_none (fun x hx => mP_lt hw (scan_mem (by rw [hS]; exact hx))) (by first | exact c126 | exact Decidable.byContradiction c126); have hr := hr1 (by omega); rw [hS, hn, go_none] at hr; subst hr; rw [he]; exact hQ)
  refine az_M.of rfl (Nat.le_of_ble_eq_true rfl) ?_
  show az_W _ _ _ _ 0 [(0, .ref 64), (1, .long (lN p))] [] _ _
  refine az_lload_n dX12_comesTo_0 ?_
  refine az_lstore_n (ls' := [(0, .ref 64), (1, .long (lN p)), (3, .long (lN p))]) dX12_comesTo_1 ?_
  refine az_iconst (v := (-1)) dX12_comesTo_2 ?_
  refine az_istore (ls' := [(0, .ref 64), (1, .long (lN p)), (3, .long (lN p)), (5, .int ((-1)))]) dX12_comesTo_3 ?_
  refine az_aload_n dX12_comesTo_5 ?_
  refine az_lconst (v := lN 0) dX12_comesTo_6 ?_
  refine az_putf (fs' := [sc 0, .ref 65, .ref 66, .ref 67, .ref 68, sc 5, fI (sc 6), sc 7, sc 8, fI (sc 9), fI (sc 10), sc 11, fI (sc 12), sc 13, sc 14, .ref 69, .ref 70, .ref 71, .long (lN 0), .ref 72, .ref 73, .ref 74, sc 22, sc 23, .ref 75, sc 25, .ref 76, .ref 77, .ref 78, sc 29, .ref 79, .ref 80, .ref 81, .ref 82, .ref 83, .ref 84, .ref 85, sc 37, .ref 86, .ref 87, .ref 88, .ref 89, .ref 90, .ref 91, .ref 92]) dX12_comesTo_7 fl_X12_260 h64 ?_
  refine az_iconst (v := nI 0) dX12_comesTo_10 ?_
  refine az_istore (ls' := [(0, .ref 64), (1, .long (lN p)), (3, .long (lN p)), (5, .int ((-1))), (6, .int (nI 0))]) dX12_comesTo_11 ?_
  exact outer _ 0 none p 0 _ rfl (Nat.zero_le _) hp9 (fun x hx => by cases hx) (fun h => absurd rfl h) (fun _ => hr0) (fun h => by omega) rfl
set_option maxHeartbeats 4000000 in
set_option maxRecDepth 100000 in
theorem m_letterAt {d : Nat} {sc : Nat → Value} {A : Nat → Nat} {v : rd_V} {mo ni : Nat} {bs : List Nat} {hp : az_Hp} {Q : Option Value → az_Hp → Prop} {p : Nat} {g1 g2 : Nat → Nat} {r : Option Nat × Nat × Nat} (hd : 3 ≤ d) (hw : ln_ok (rd_w v)) (hb : ln_by (rd_w v) bs) (h64 : hp.2 64 = some (mo_o sc)) (h65 : hp.2 65 = some (az_I 3318 (fun j => nI (A j)))) (hT : mT A v (mo, ni, bs)) (h70 : hp.2 70 = some (az_J 366 (fun j => lN (g1 j)))) (h71 : hp.2 71 = some (az_J 366 (fun j => lN (g2 j)))) (hm : mc (rd_w v) bs (fun _ => 1) g1) (hp9 : p < 2 ^ 63) (hr6 : ∀ x, r.1 = some x → x < 6) (hr0 : ln_go (rd_w v) bs (fun k x => g1 (6 * k + x)) (fun k x => g2 (6 * k + x)) bs.length 0 (ln_scan ((fun k x => g1 (6 * k + x)) 0) ((fun k x => g2 (6 * k + x)) 0) (ln_word (rd_w v)) p 0).1 (ln_scan ((fun k x => g1 (6 * k + x)) 0) ((fun k x => g2 (6 * k + x)) 0) (ln_word (rd_w v)) p 0).2.1 (ln_scan ((fun k x => g1 (6 * k + x)) 0) ((fun k x => g2 (6 * k + x)) 0) (ln_word (rd_w v)) p 0).2.2 = r) (hQ : Q (some (.int (nI (r.1.getD 6)))) (az_up hp 64 (mo_o (su sc 18 (.long (lN r.2.2)))))) : az_M mX12_letterAt d 0 0 [.ref 64, .long (lN p)] hp Q := by
  refine az_M.of rfl (Nat.le_of_ble_eq_true rfl) ?_
  show az_W _ _ _ _ 0 [(0, .ref 64), (1, .long (lN p))] [] _ _
  refine az_aload_n dX12_letterAt_0 ?_
  refine az_lload_n dX12_letterAt_1 ?_
  refine az_cV0 (st := []) dX12_letterAt_2 ml_X12_267 h64 (m_comesTo (d := d - 1) (r := r) (by omega) hw hb h64 h65 hT h70 h71 (fun k x hk hx => hm.lt hk hx) hp9 hr0 ?_)
  refine az_istore_n (ls' := [(0, .ref 64), (1, .long (lN p)), (3, .int (ln_opt r.1))]) dX12_letterAt_5 ?_
  refine az_iload_n dX12_letterAt_6 ?_
  refine az_iconst (v := (-1)) dX12_letterAt_7 ?_
  refine az_icmp_ne (tgt := 16) dX12_letterAt_8 (fun c8 => ?_) (fun c8 => ?_)
  · refine az_iload_n dX12_letterAt_16 ?_
    exact az_iret dX12_letterAt_17 (by first | (have hn := opt_none hr6 (by first | exact c8 | exact Decidable.byContradiction c8); rw [hn] at hQ; exact hQ) | (obtain ⟨x, hx⟩ := opt_some c8; rw [hx] at hQ ⊢; exact hQ))
  · refine az_bipush (v := nI 6) dX12_letterAt_11 ?_
    refine az_goto (tgt := 17) dX12_letterAt_13 ?_
    exact az_iret dX12_letterAt_17 (by first | (have hn := opt_none hr6 (by first | exact c8 | exact Decidable.byContradiction c8); rw [hn] at hQ; exact hQ) | (obtain ⟨x, hx⟩ := opt_some c8; rw [hx] at hQ ⊢; exact hQ))

