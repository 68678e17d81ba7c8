/-! The model: nights ahead -/
set_option maxHeartbeats 4000000 in
set_option maxRecDepth 100000 in
theorem m_goesMany {d gone tb : Nat} {sc : Nat → Value} {A : Nat → Nat} {v : rd_V} {gm cf : Nat → Nat} {hp : az_Hp} {Q : Option Value → az_Hp → Prop} (hd : 1 ≤ d) (hw : ln_ok (rd_w v)) (h64 : hp.2 64 = some (mo_o sc)) (h65 : hp.2 65 = some (az_I 3318 (fun j => nI (A j)))) (hV : mV A v) (h3 : tb < 3) (hg : gone ≤ 12) (h81 : hp.2 81 = some (az_J 84 (fun j => lN (gm j)))) (hrow : ∀ c, c < 6 → gm (6 * gone + c) = cf c) (hQ : ∀ gm' : Nat → Nat, (∀ j, (j < 6 * (gone + 1) ∨ 6 * (gone + 1) + 6 ≤ j) → gm' j = gm j) → (∀ c, c < 6 → gm' (6 * (gone + 1) + c) = fu_n (rd_w v) tb cf c) → Q none (az_up hp 81 (az_J 84 (fun j => lN (gm' j))))) : az_M mX12_goesMany d 0 0 [.ref 64, .int (nI gone), .int (nI tb)] hp Q := by
  have loop2 : ∀ (k : Nat) (c i : Nat) (g9 : Nat → Nat) (h' : az_Hp), (6 - c) * 10 + (4 - i) = k → (c < 6) → (i ≤ ln_sz (rd_w v) (tb * 6 + c)) → (∀ y, y < 6 → g9 (6 * (gone + 1) + y) = fu_p (rd_w v) tb cf c i y) → (∀ j, (j < 6 * (gone + 1) ∨ 6 * (gone + 1) + 6 ≤ j) → g9 j = gm j) → (h' = az_up hp 81 (az_J 84 (fun j => lN (g9 j)))) → az_W mX12_goesMany d 0 0 46 [(0, .ref 64), (1, .int (nI gone)), (2, .int (nI tb)), (3, .int (nI (6 * (gone + 1)))), (4, .int (nI c)), (5, .int (nI i))] [] h' Q := by
    intro k
    induction k using Nat.strongRecOn with
    | _ k ih =>
    intro c i g9 h' hk hc hi hF hG he
    have b64 : h'.2 64 = some (mo_o sc) := (by rw [he]; exact az_up_ne h64)
    have b65 : h'.2 65 = some (az_I 3318 (fun j => nI (A j))) := (by rw [he]; exact az_up_ne h65)
    have hz4 := hw.2.2.2.2.2.2.1 (tb * 6 + c)
    refine az_iload dX12_goesMany_46 ?_
    refine az_aload_n dX12_goesMany_48 ?_
    refine az_iload_n dX12_goesMany_49 ?_
    refine az_iload dX12_goesMany_50 ?_
    refine az_cV0 (st := [.int (nI i)]) dX12_goesMany_52 ml_X12_239 b64 (m_becomeMany (d := d - 1) (v := v) (tb := tb) (x := c) b64 b65 hV h3 (by omega) ?_)
    refine az_icmp_geN (tgt := 95) dX12_goesMany_55 (fun c55 => ?_) (fun c55 => ?_)
    · refine az_iincN (n := 1) (ls' := [(0, .ref 64), (1, .int (nI gone)), (2, .int (nI tb)), (3, .int (nI (6 * (gone + 1)))), (4, .int (nI (c + 1))), (5, .int (nI i))]) dX12_goesMany_95 ?_
      refine az_goto (tgt := 36) dX12_goesMany_98 ?_
      refine az_iload dX12_goesMany_36 ?_
      refine az_bipush (v := nI 6) dX12_goesMany_38 ?_
      refine az_icmp_geN (tgt := 101) dX12_goesMany_40 (fun c40 => ?_) (fun c40 => ?_)
      · exact az_vret dX12_goesMany_101 (by rw [he]; exact hQ g9 hG (fun y hy => (by rw [hF y hy, show i = ln_sz (rd_w v) (tb * 6 + c) by omega, fu_p_full, show c + 1 = 6 by omega]; rfl)))
      · refine az_iconst (v := nI 0) dX12_goesMany_43 ?_
        refine az_istore (ls' := [(0, .ref 64), (1, .int (nI gone)), (2, .int (nI tb)), (3, .int (nI (6 * (gone + 1)))), (4, .int (nI (c + 1))), (5, .int (nI 0))]) dX12_goesMany_44 ?_
        first | exact ih _ (by omega) c (i + 1) (az_s g9 (6 * (gone + 1) + ln_ch (rd_w v) ((tb * 6 + c) * 4 + i)) (fu_p (rd_w v) tb cf c i (ln_ch (rd_w v) ((tb * 6 + c) * 4 + i)) + cf c)) _ rfl hc (by omega) (fun y hy => (by rw [fu_p_step (by omega)]; by_cases e : y = ln_ch (rd_w v) ((tb * 6 + c) * 4 + i); rw [e, az_s_eq, if_pos rfl]; rw [az_s_ne (by omega), if_neg e, Nat.add_zero]; exact hF y hy)) (fun j hj => (az_s_ne (by omega)).trans (hG j hj)) (by rw [he, az_up_up]) | exact ih _ (by omega) (c + 1) 0 g9 h' rfl (by omega) (Nat.zero_le _) (fun y hy => (by rw [hF y hy, show i = ln_sz (rd_w v) (tb * 6 + c) by omega, fu_p_full, fu_p_0])) hG he
    · refine az_aload_n dX12_goesMany_58 ?_
      refine az_getf (v := .ref 81) dX12_goesMany_59 fl_X12_67 b64 ?_
      refine az_iload_n dX12_goesMany_62 ?_
      refine az_aload_n dX12_goesMany_63 ?_
      refine az_iload_n dX12_goesMany_64 ?_
      refine az_iload dX12_goesMany_65 ?_
      refine az_iload dX12_goesMany_67 ?_
      refine az_cV0 (st := [.int (nI (6 * (gone + 1))), .ref 81]) dX12_goesMany_69 ml_X12_242 b64 (m_becomeOf (d := d - 1) (v := v) (tb := tb) (x := c) (i := i) b64 b65 hV hw h3 (by omega) (by omega) ?_)
      have hc6 := hw.2.2.2.2.2.2.2.1 ((tb * 6 + c) * 4 + i)
      refine az_iaddN dX12_goesMany_72 ?_
      refine az_dup2_11 dX12_goesMany_73 ?_
      refine az_laldN (j := (6 * (gone + 1)) + (ln_ch (rd_w v) ((tb * 6 + c) * 4 + i))) dX12_goesMany_74 (by rw [he]; exact az_up_eq) ?_
      rw [hF (ln_ch (rd_w v) ((tb * 6 + c) * 4 + i)) hc6]
      refine az_aload_n dX12_goesMany_75 ?_
      refine az_getf (v := .ref 81) dX12_goesMany_76 fl_X12_67 b64 ?_
      refine az_bipush (v := nI 6) dX12_goesMany_79 ?_
      refine az_iload_n dX12_goesMany_81 ?_
      refine az_imulN dX12_goesMany_82 ?_
      refine az_iload dX12_goesMany_83 ?_
      refine az_iaddN dX12_goesMany_85 ?_
      refine az_laldN (j := (6 * gone) + c) dX12_goesMany_86 (by rw [he]; exact az_up_eq) ?_
      rw [hG (6 * gone + c) (by omega), hrow c (by omega)]
      refine az_laddN dX12_goesMany_87 ?_
      refine az_lastN (j := (6 * (gone + 1)) + (ln_ch (rd_w v) ((tb * 6 + c) * 4 + i))) dX12_goesMany_88 (by rw [he]; exact az_up_eq) ?_
      rw [az_s_lN]
      refine az_iincN (n := 1) (ls' := [(0, .ref 64), (1, .int (nI gone)), (2, .int (nI tb)), (3, .int (nI (6 * (gone + 1)))), (4, .int (nI c)), (5, .int (nI (i + 1)))]) dX12_goesMany_89 ?_
      refine az_goto (tgt := 46) dX12_goesMany_92 ?_
      first | exact ih _ (by omega) c (i + 1) (az_s g9 (6 * (gone + 1) + ln_ch (rd_w v) ((tb * 6 + c) * 4 + i)) (fu_p (rd_w v) tb cf c i (ln_ch (rd_w v) ((tb * 6 + c) * 4 + i)) + cf c)) _ rfl hc (by omega) (fun y hy => (by rw [fu_p_step (by omega)]; by_cases e : y = ln_ch (rd_w v) ((tb * 6 + c) * 4 + i); rw [e, az_s_eq, if_pos rfl]; rw [az_s_ne (by omega), if_neg e, Nat.add_zero]; exact hF y hy)) (fun j hj => (az_s_ne (by omega)).trans (hG j hj)) (by rw [he, az_up_up]) | exact ih _ (by omega) (c + 1) 0 g9 h' rfl (by omega) (Nat.zero_le _) (fun y hy => (by rw [hF y hy, show i = ln_sz (rd_w v) (tb * 6 + c) by omega, fu_p_full, fu_p_0])) hG he
  have loop1 : ∀ (k : Nat) (i : Nat) (g9 : Nat → Nat) (h' : az_Hp), 6 - i = k → (i ≤ 6) → (∀ y, y < i → g9 (6 * (gone + 1) + y) = 0) → (∀ j, (j < 6 * (gone + 1) ∨ 6 * (gone + 1) + 6 ≤ j) → g9 j = gm j) → (h' = az_up hp 81 (az_J 84 (fun j => lN (g9 j)))) → az_W mX12_goesMany d 0 0 10 [(0, .ref 64), (1, .int (nI gone)), (2, .int (nI tb)), (3, .int (nI (6 * (gone + 1)))), (4, .int (nI i))] [] h' Q := by
    intro k
    induction k using Nat.strongRecOn with
    | _ k ih =>
    intro i g9 h' hk hi hF hG he
    refine az_iload dX12_goesMany_10 ?_
    refine az_bipush (v := nI 6) dX12_goesMany_12 ?_
    refine az_icmp_geN (tgt := 33) dX12_goesMany_14 (fun c14 => ?_) (fun c14 => ?_)
    · refine az_iconst (v := nI 0) dX12_goesMany_33 ?_
      refine az_istore (ls' := [(0, .ref 64), (1, .int (nI gone)), (2, .int (nI tb)), (3, .int (nI (6 * (gone + 1)))), (4, .int (nI 0))]) dX12_goesMany_34 ?_
      refine az_iload dX12_goesMany_36 ?_
      refine az_bipush (v := nI 6) dX12_goesMany_38 ?_
      refine az_icmp_geN (tgt := 101) dX12_goesMany_40 (fun c40 => ?_) (fun c40 => ?_)
      · exact absurd c40 (by omega)
      · refine az_iconst (v := nI 0) dX12_goesMany_43 ?_
        refine az_istore (ls' := [(0, .ref 64), (1, .int (nI gone)), (2, .int (nI tb)), (3, .int (nI (6 * (gone + 1)))), (4, .int (nI 0)), (5, .int (nI 0))]) dX12_goesMany_44 ?_
        exact loop2 _ 0 0 g9 h' rfl (by decide) (Nat.zero_le _) (fun y hy => (by rw [fu_p_0]; exact hF y (by omega))) hG he
    · refine az_aload_n dX12_goesMany_17 ?_
      refine az_getf (v := .ref 81) dX12_goesMany_18 fl_X12_67 (by rw [he]; exact az_up_ne h64) ?_
      refine az_iload_n dX12_goesMany_21 ?_
      refine az_iload dX12_goesMany_22 ?_
      refine az_iaddN dX12_goesMany_24 ?_
      refine az_lconst (v := lN 0) dX12_goesMany_25 ?_
      refine az_lastN (j := (6 * (gone + 1)) + i) dX12_goesMany_26 (by rw [he]; exact az_up_eq) ?_
      rw [az_s_lN]
      refine az_iincN (n := 1) (ls' := [(0, .ref 64), (1, .int (nI gone)), (2, .int (nI tb)), (3, .int (nI (6 * (gone + 1)))), (4, .int (nI (i + 1)))]) dX12_goesMany_27 ?_
      refine az_goto (tgt := 10) dX12_goesMany_30 ?_
      exact ih _ (by omega) (i + 1) (az_s g9 (6 * (gone + 1) + i) 0) _ rfl (by omega) (fun y hy => by by_cases e : y = i; rw [e, az_s_eq]; rw [az_s_ne (by omega)]; exact hF y (by omega)) (fun j hj => (az_s_ne (by omega)).trans (hG j hj)) (by rw [he, az_up_up])
  refine az_M.of rfl (Nat.le_of_ble_eq_true rfl) ?_
  show az_W _ _ _ _ 0 [(0, .ref 64), (1, .int (nI gone)), (2, .int (nI tb))] [] _ _
  refine az_bipush (v := nI 6) dX12_goesMany_0 ?_
  refine az_iload_n dX12_goesMany_2 ?_
  refine az_iconst (v := nI 1) dX12_goesMany_3 ?_
  refine az_iaddN dX12_goesMany_4 ?_
  refine az_imulN dX12_goesMany_5 ?_
  refine az_istore_n (ls' := [(0, .ref 64), (1, .int (nI gone)), (2, .int (nI tb)), (3, .int (nI (6 * (gone + 1))))]) dX12_goesMany_6 ?_
  refine az_iconst (v := nI 0) dX12_goesMany_7 ?_
  refine az_istore (ls' := [(0, .ref 64), (1, .int (nI gone)), (2, .int (nI tb)), (3, .int (nI (6 * (gone + 1)))), (4, .int (nI 0))]) dX12_goesMany_8 ?_
  exact loop1 _ 0 gm _ rfl (Nat.zero_le _) (fun y hy => absurd hy (by omega)) (fun _ _ => rfl) (az_up_same h81).symm
set_option maxHeartbeats 4000000 in
set_option maxRecDepth 100000 in
theorem m_longIn {d gone : Nat} {sc : Nat → Value} {gm cf : Nat → Nat} {hp : az_Hp} {Q : Option Value → az_Hp → Prop} (h64 : hp.2 64 = some (mo_o sc)) (hg : gone ≤ 13) (h81 : hp.2 81 = some (az_J 84 (fun j => lN (gm j)))) (hrow : ∀ c, c < 6 → gm (6 * gone + c) = cf c) (hQ : Q (some (.long (lN (fu_l cf)))) hp) : az_M mX12_longIn d 0 0 [.ref 64, .int (nI gone)] hp Q := by
  have loop : ∀ (k : Nat) (i : Nat), 6 - i = k → (i ≤ 6) → az_W mX12_longIn d 0 0 5 [(0, .ref 64), (1, .int (nI gone)), (2, .long (lN (sm cf i))), (4, .int (nI i))] [] hp Q := by
    intro k
    induction k using Nat.strongRecOn with
    | _ k ih =>
    intro i hk hi
    refine az_iload dX12_longIn_5 ?_
    refine az_bipush (v := nI 6) dX12_longIn_7 ?_
    refine az_icmp_geN (tgt := 33) dX12_longIn_9 (fun c9 => ?_) (fun c9 => ?_)
    · refine az_lload_n dX12_longIn_33 ?_
      exact az_lret dX12_longIn_34 (by obtain rfl : i = 6 := (by omega); exact hQ)
    · refine az_lload_n dX12_longIn_12 ?_
      refine az_aload_n dX12_longIn_13 ?_
      refine az_getf (v := .ref 81) dX12_longIn_14 fl_X12_67 h64 ?_
      refine az_bipush (v := nI 6) dX12_longIn_17 ?_
      refine az_iload_n dX12_longIn_19 ?_
      refine az_imulN dX12_longIn_20 ?_
      refine az_iload dX12_longIn_21 ?_
      refine az_iaddN dX12_longIn_23 ?_
      refine az_laldN (j := (6 * gone) + i) dX12_longIn_24 h81 ?_
      rw [hrow i (by omega)]
      refine az_laddN dX12_longIn_25 ?_
      rw [show sm cf i + cf i = sm cf (i + 1) from rfl]
      refine az_lstore_n (ls' := [(0, .ref 64), (1, .int (nI gone)), (2, .long (lN (sm cf (i + 1)))), (4, .int (nI i))]) dX12_longIn_26 ?_
      refine az_iincN (n := 1) (ls' := [(0, .ref 64), (1, .int (nI gone)), (2, .long (lN (sm cf (i + 1)))), (4, .int (nI (i + 1)))]) dX12_longIn_27 ?_
      refine az_goto (tgt := 5) dX12_longIn_30 ?_
      exact ih _ (by omega) (i + 1) rfl (by omega)
  refine az_M.of rfl (Nat.le_of_ble_eq_true rfl) ?_
  show az_W _ _ _ _ 0 [(0, .ref 64), (1, .int (nI gone))] [] _ _
  refine az_lconst (v := lN 0) dX12_longIn_0 ?_
  refine az_lstore_n (ls' := [(0, .ref 64), (1, .int (nI gone)), (2, .long (lN 0))]) dX12_longIn_1 ?_
  refine az_iconst (v := nI 0) dX12_longIn_2 ?_
  refine az_istore (ls' := [(0, .ref 64), (1, .int (nI gone)), (2, .long (lN 0)), (4, .int (nI 0))]) dX12_longIn_3 ?_
  exact loop _ 0 rfl (Nat.zero_le _)
theorem fl_c {k : Nat} {c : Nat → Nat} (h : fu_l c * 4 ^ k < 2 ^ 62) : fu_l c < 2 ^ 62 := fu_l_lt h
set_option maxHeartbeats 4000000 in
set_option maxRecDepth 100000 in
theorem m_finds {sc : Nat → Value} {A : Nat → Nat} {v : rd_V} {n : Nat} (hw : ln_ok (rd_w v)) (hV : mV A v) (hn : n < 2 ^ 63) : ∀ (kn : Nat) {d gone nn : Nat} {gm cf : Nat → Nat} {fd : Nat → Int32} {hp : az_Hp} {Q : Option Value → az_Hp → Prop}, kn + 2 ≤ d → gone + kn = nn → nn ≤ 7 → hp.2 64 = some (mo_o sc) → hp.2 65 = some (az_I 3318 (fun j => nI (A j))) → hp.2 81 = some (az_J 84 (fun j => lN (gm j))) → (∀ c, c < 6 → gm (6 * gone + c) = cf c) → hp.2 83 = some (az_I 8 fd) → fu_l cf * 4 ^ kn < 2 ^ 62 → (∀ (h' : az_Hp) (gm' : Nat → Nat) (fd' : Nat → Int32), h'.2 81 = some (az_J 84 (fun j => lN (gm' j))) → (∀ j, j < 6 * (gone + 1) → gm' j = gm j) → h'.2 83 = some (az_I 8 fd') → (∀ j, j < gone → fd' j = fd j) → (∀ l, fu_find (rd_w v) n kn cf = some l → ∀ j, j < kn → fd' (gone + j) = nI (l.getD j 0)) → mf hp h' [81, 83] → (mk hp → mk h') → Q (some (.int (nI (if (fu_find (rd_w v) n kn cf).isSome then 1 else 0)))) h') → az_M mX12_finds d 0 0 [.ref 64, .long (lN n), .int (nI gone), .int (nI nn)] hp Q := by
  have ht3 := hw.2.1
  have ht1 := hw.1
  have hA1 : A 1 = ln_tb (rd_w v) := hV.2.1
  intro kn
  induction kn with
  | zero =>
    intro d gone nn gm cf fd hp Q hd hnn hgk h64 h65 h81 hrow h83 hcap hQ
    have hfl := fl_c hcap
    refine az_M.of rfl (Nat.le_of_ble_eq_true rfl) ?_
    show az_W _ _ _ _ 0 [(0, .ref 64), (1, .long (lN n)), (3, .int (nI gone)), (4, .int (nI nn))] [] _ _
    refine az_iload_n dX12_finds_0 ?_
    refine az_iload dX12_finds_1 ?_
    refine az_icmp_neN (tgt := 22) dX12_finds_3 (fun c3 => ?_) (fun c3 => ?_)
    · exact absurd hnn (by omega)
    · refine az_aload_n dX12_finds_6 ?_
      refine az_iload_n dX12_finds_7 ?_
      refine az_cV0 (st := []) dX12_finds_8 ml_X12_434 h64 (m_longIn (d := d - 1) (cf := cf) h64 (by omega) h81 hrow ?_)
      refine az_lload_n dX12_finds_11 ?_
      refine az_lcmp_neN (tgt := 20) dX12_finds_12 dX12_finds_13 (fun c12 => ?_) (fun c12 => ?_)
      · refine az_iconst (v := nI 0) dX12_finds_20 ?_
        exact az_iret dX12_finds_21 (by have e : fu_find (rd_w v) n 0 cf = if fu_l cf = n then some [] else none := rfl; first | (rw [if_pos (by omega)] at e; have hq := hQ hp gm fd h81 (fun _ _ => rfl) h83 (fun _ _ => rfl) (fun l _ j hj => absurd hj (by omega)) mf.rf (fun q => q); rw [e] at hq; exact hq) | (rw [if_neg (by omega)] at e; have hq := hQ hp gm fd h81 (fun _ _ => rfl) h83 (fun _ _ => rfl) (fun l _ j hj => absurd hj (by omega)) mf.rf (fun q => q); rw [e] at hq; exact hq))
      · refine az_iconst (v := nI 1) dX12_finds_16 ?_
        refine az_goto (tgt := 21) dX12_finds_17 ?_
        exact az_iret dX12_finds_21 (by have e : fu_find (rd_w v) n 0 cf = if fu_l cf = n then some [] else none := rfl; first | (rw [if_pos (by omega)] at e; have hq := hQ hp gm fd h81 (fun _ _ => rfl) h83 (fun _ _ => rfl) (fun l _ j hj => absurd hj (by omega)) mf.rf (fun q => q); rw [e] at hq; exact hq) | (rw [if_neg (by omega)] at e; have hq := hQ hp gm fd h81 (fun _ _ => rfl) h83 (fun _ _ => rfl) (fun l _ j hj => absurd hj (by omega)) mf.rf (fun q => q); rw [e] at hq; exact hq))
  | succ kn ihN =>
    intro d gone nn gm cf fd hp Q hd hnn hgk h64 h65 h81 hrow h83 hcap hQ
    have loop : ∀ (k : Nat) (tb : Nat) (h' : az_Hp) (g1 : Nat → Nat) (fd1 : Nat → Int32), ln_tb (rd_w v) - tb = k → (tb ≤ ln_tb (rd_w v)) → (h'.2 81 = some (az_J 84 (fun j => lN (g1 j)))) → (∀ j, j < 6 * (gone + 1) → g1 j = gm j) → (h'.2 83 = some (az_I 8 fd1)) → (∀ j, j < gone → fd1 j = fd j) → (mf hp h' [81, 83]) → (mk hp → mk h') → (fu_find (rd_w v) n (kn + 1) cf = fu_f1 (fun tb => fu_find (rd_w v) n kn (fu_n (rd_w v) tb cf)) tb (ln_tb (rd_w v) - tb)) → az_W mX12_finds d 0 0 25 [(0, .ref 64), (1, .long (lN n)), (3, .int (nI gone)), (4, .int (nI nn)), (5, .int (nI tb))] [] h' Q := by
      intro k
      induction k using Nat.strongRecOn with
      | _ k ih =>
      intro tb h' g1 fd1 hk htb b81 hg1 b83 hd1 mf1 mk1' hD
      have b64 : h'.2 64 = some (mo_o sc) := mf1.at h64
      have b65 : h'.2 65 = some (az_I 3318 (fun j => nI (A j))) := mf1.at h65
      refine az_iload dX12_finds_25 ?_
      refine az_aload_n dX12_finds_27 ?_
      refine az_getf (v := .ref 65) dX12_finds_28 fl_X12_13 b64 ?_
      refine az_iconst (v := nI 1) dX12_finds_31 ?_
      refine az_ialdN (j := 1) dX12_finds_32 b65 ?_
      rw [hA1]
      refine az_icmp_geN (tgt := 72) dX12_finds_33 (fun c33 => ?_) (fun c33 => ?_)
      · refine az_iconst (v := nI 0) dX12_finds_72 ?_
        exact az_iret dX12_finds_73 (by have e : fu_find (rd_w v) n (kn + 1) cf = none := (by rw [hD, show ln_tb (rd_w v) - tb = 0 by omega]; rfl); have hq := hQ h' g1 fd1 b81 hg1 b83 hd1 (fun l hl => (by rw [e] at hl; cases hl)) mf1 mk1'; rw [e] at hq; exact hq)
      · refine az_aload_n dX12_finds_36 ?_
        refine az_getf (v := .ref 83) dX12_finds_37 fl_X12_73 b64 ?_
        refine az_iload_n dX12_finds_40 ?_
        refine az_iload dX12_finds_41 ?_
        refine az_iastN (j := gone) dX12_finds_43 b83 ?_
        refine az_aload_n dX12_finds_44 ?_
        refine az_iload_n dX12_finds_45 ?_
        refine az_iload dX12_finds_46 ?_
        refine az_cV0 (st := []) dX12_finds_48 ml_X12_437 (az_up_ne b64) (m_goesMany (d := d - 1) (gone := gone) (tb := tb) (cf := cf) (by omega) hw (az_up_ne b64) (az_up_ne b65) hV (by omega) (by omega) (az_up_ne b81) (fun c hc => (by rw [hg1 _ (by omega)]; exact hrow c hc)) ?_)
        intro g2 q1 q2
        refine az_aload_n dX12_finds_51 ?_
        refine az_lload_n dX12_finds_52 ?_
        refine az_iload_n dX12_finds_53 ?_
        refine az_iconst (v := nI 1) dX12_finds_54 ?_
        refine az_iaddN dX12_finds_55 ?_
        refine az_iload dX12_finds_56 ?_
        refine az_cV0 (st := []) dX12_finds_58 ml_X12_441 (az_up_ne (az_up_ne b64)) (ihN (d := d - 1) (gone := gone + 1) (gm := g2) (cf := fu_n (rd_w v) tb cf) (fd := az_s fd1 gone (nI tb)) (by omega) (show gone + 1 + kn = nn by omega) hgk (az_up_ne (az_up_ne b64)) (az_up_ne (az_up_ne b65)) az_up_eq q2 (az_up_ne az_up_eq) (fu_n_l hw hcap) ?_)
        intro h3 g3 fd3 e81 p1 e83 p2 p3 m3 k3
        have hif : (if (fu_find (rd_w v) n kn (fu_n (rd_w v) tb cf)).isSome then 1 else 0) < 2 ^ 31 := (by split <;> decide)
        have hfr : mf hp h3 [81, 83] := mf.tr (mf.up (mf.up mf1 (by decide)) (by decide)) m3 (by decide)
        refine az_if_eqN (tgt := 66) dX12_finds_61 (fun c61 => ?_) (fun c61 => ?_)
        · refine az_iincN (n := 1) (ls' := [(0, .ref 64), (1, .long (lN n)), (3, .int (nI gone)), (4, .int (nI nn)), (5, .int (nI (tb + 1)))]) dX12_finds_66 ?_
          refine az_goto (tgt := 25) dX12_finds_69 ?_
          have hno := none01 c61
          exact ih _ (by omega) (tb + 1) h3 g3 fd3 rfl (by omega) e81 (fun j hj => (by rw [p1 j (by omega), q1 j (by omega)]; exact hg1 j hj)) e83 (fun j hj => (by rw [p2 j (by omega), az_s_ne (by omega)]; exact hd1 j hj)) hfr (fun q => k3 (mk.uJ (mk.uI (mk1' q) rfl) rfl)) (by rw [hD, fu_f1_none hno (by omega), show ln_tb (rd_w v) - (tb + 1) = ln_tb (rd_w v) - tb - 1 by omega])
        · refine az_iconst (v := nI 1) dX12_finds_64 ?_
          exact az_iret dX12_finds_65 (by obtain ⟨l, hl⟩ := some01 c61; have hf1 : fu_f1 (fun tb => fu_find (rd_w v) n kn (fu_n (rd_w v) tb cf)) tb (ln_tb (rd_w v) - tb) = some (tb :: l) := fu_f1_some hl (by omega); have e : fu_find (rd_w v) n (kn + 1) cf = some (tb :: l) := hD.trans hf1; have hq := hQ h3 g3 fd3 e81 (fun j hj => (by rw [p1 j (by omega), q1 j (by omega)]; exact hg1 j hj)) e83 (fun j hj => (by rw [p2 j (by omega), az_s_ne (by omega)]; exact hd1 j hj)) (fun l2 hl2 j hj => (by rw [e] at hl2; cases hl2; cases j with | zero => rw [Nat.add_zero, p2 gone (by omega), az_s_eq]; rfl | succ j => rw [show gone + (j + 1) = gone + 1 + j by omega, p3 l hl j (by omega)]; rfl)) hfr (fun q => k3 (mk.uJ (mk.uI (mk1' q) rfl) rfl)); rw [e] at hq; exact hq)
    refine az_M.of rfl (Nat.le_of_ble_eq_true rfl) ?_
    show az_W _ _ _ _ 0 [(0, .ref 64), (1, .long (lN n)), (3, .int (nI gone)), (4, .int (nI nn))] [] _ _
    refine az_iload_n dX12_finds_0 ?_
    refine az_iload dX12_finds_1 ?_
    refine az_icmp_neN (tgt := 22) dX12_finds_3 (fun c3 => ?_) (fun c3 => ?_)
    · refine az_iconst (v := nI 0) dX12_finds_22 ?_
      refine az_istore (ls' := [(0, .ref 64), (1, .long (lN n)), (3, .int (nI gone)), (4, .int (nI nn)), (5, .int (nI 0))]) dX12_finds_23 ?_
      exact loop _ 0 hp gm fd rfl (Nat.zero_le _) h81 (fun _ _ => rfl) h83 (fun _ _ => rfl) mf.rf (fun q => q) rfl
    · exact absurd c3 (by omega)

