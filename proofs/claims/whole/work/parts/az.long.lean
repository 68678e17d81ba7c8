/-! The model: by lengths -/
def mlR (ti bh : Nat → Nat) (w : ln_W) (C : Nat → Nat) (R : List (List Nat)) : Prop := (∀ i, i < 8 → ti i = fu_or i R) ∧ ∀ tb j, tb < ln_tb w → j < R.length → bh (6561 * tb + j) = fu_b w tb (fu_to w (R.getD j []) C)
def orS (ti : Nat → Nat) (p : List Nat) (i j : Nat) : Nat := if j < i then ti j ||| 2 ^ p.getD j 0 else ti j
theorem orS_lt {ti : Nat → Nat} {p : List Nat} {i j : Nat} (h : i ≤ j) : orS ti p i j = ti j := if_neg (by omega)
theorem orS_s {ti : Nat → Nat} {p : List Nat} {i : Nat} : az_s (orS ti p i) i (ti i ||| 2 ^ p.getD i 0) = orS ti p (i + 1) := funext (fun j => by
  by_cases e : j = i
  · rw [e, az_s_eq]; exact (if_pos (by omega)).symm
  · rw [az_s_ne e]
    unfold orS
    by_cases h : j < i
    · rw [if_pos h, if_pos (by omega)]
    · rw [if_neg h, if_neg (by omega)])
theorem orS_0 {ti : Nat → Nat} {p : List Nat} : orS ti p 0 = ti := funext (fun j => if_neg (by omega))
theorem or_leaf {ti : Nat → Nat} {p : List Nat} {R : List (List Nat)} {j : Nat} (h : ti j = fu_or j R) : orS ti p p.length j = fu_or j (R ++ [p]) := by
  rw [fu_or_app]
  show orS ti p p.length j = fu_or j R ||| ((match p[j]? with | some t => 2 ^ t | none => 0) ||| 0)
  rw [Nat.or_zero]
  unfold orS
  by_cases e : j < p.length
  · rw [if_pos e, h, List.getElem?_eq_getElem e]
    simp [List.getD, e]
  · rw [if_neg e, h, List.getElem?_eq_none (by omega), Nat.or_zero]
theorem mlR_leaf {ti bh b' : Nat → Nat} {w : ln_W} {C : Nat → Nat} {R : List (List Nat)} {p : List Nat} (H : mlR ti bh w C R) (hT : ln_tb w ≤ 3) (hR : R.length < 6561) (h1 : ∀ t, t < ln_tb w → b' (6561 * t + R.length) = fu_b w t (fu_to w p C)) (h2 : ∀ q, (∀ t, q ≠ 6561 * t + R.length) → b' q = bh q) : mlR (orS ti p p.length) b' w C (R ++ [p]) := by
  refine ⟨fun i hi => or_leaf (H.1 i hi), fun tb j ht hj => ?_⟩
  have hj : j < R.length + 1 := by simpa using hj
  by_cases e : j = R.length
  · rw [e, h1 tb ht]
    simp [List.getD]
  · rw [h2 _ (fun t => by omega), H.2 tb j ht (by omega)]
    congr 1
    simp only [List.getD, List.getElem?_append_left (show j < R.length by omega)]
def lgP (w : ln_W) (wa : Nat → Int64) (km gone : Nat) (cf : Nat → Nat) (p : List Nat) (R : List (List Nat)) (tb : Nat) : List (List Nat) := R ++ (fu_cat (fun tb => if wa gone = -1 ∨ wa gone = lN (fu_b w tb cf) then (fu_lg w wa km (gone + 1) (fu_n w tb cf)).map (List.cons tb) else []) tb).map (fun r => p ++ r)
section
variable {w : ln_W} {wa : Nat → Int64} {km gone tb : Nat} {cf : Nat → Nat} {p : List Nat} {R : List (List Nat)}
theorem lgP_0 : lgP w wa km gone cf p R 0 = R := List.append_nil R
theorem lgP_yes (h : (wa gone = -1 ∨ wa gone = lN (fu_b w tb cf))) : lgP w wa km gone cf p R (tb + 1) = lgP w wa km gone cf p R tb ++ (fu_lg w wa km (gone + 1) (fu_n w tb cf)).map (fun r => (p ++ [tb]) ++ r) := by
  unfold lgP
  rw [fu_FF h, List.map_append, List.append_assoc, List.map_map]
  congr 2
  apply List.map_congr_left
  intro r _
  simp
theorem lgP_no (h : ¬ (wa gone = -1 ∨ wa gone = lN (fu_b w tb cf))) : lgP w wa km gone cf p R (tb + 1) = lgP w wa km gone cf p R tb := by
  unfold lgP
  rw [fu_FN h]
theorem lgP_len (hw : ln_ok w) : (lgP w wa km gone cf p R tb).length ≤ R.length + tb * 3 ^ km := by
  unfold lgP
  rw [List.length_append, List.length_map]
  refine Nat.add_le_add_left (fu_cat_len (B := 3 ^ km) (fun t => ?_) tb) _
  show (if _ then _ else _ : List (List Nat)).length ≤ _
  split
  · rw [List.length_map]; exact fu_lg_len hw _ _ _ _
  · exact Nat.zero_le _
theorem lgP_end : lgP w wa km gone cf p R (ln_tb w) = R ++ (fu_lg w wa (km + 1) gone cf).map (fun r => p ++ r) := rfl
theorem lgP_cap (hw : ln_ok w) (hR : R.length + 3 ^ (km + 1) ≤ 6561) (ht : tb < ln_tb w) : (lgP w wa km gone cf p R tb).length + 3 ^ km ≤ 6561 := by
  have h1 := lgP_len (wa := wa) (km := km) (gone := gone) (tb := tb) (cf := cf) (p := p) (R := R) hw
  have h2 := hw.2.1
  have h3 : tb * 3 ^ km ≤ 2 * 3 ^ km := Nat.mul_le_mul_right _ (by omega)
  rw [Nat.pow_succ] at hR
  omega
end
theorem fu_to_app (w : ln_W) (p : List Nat) (tb : Nat) (C : Nat → Nat) : fu_to w (p ++ [tb]) C = fu_n w tb (fu_to w p C) := by
  unfold fu_to
  rw [List.foldl_append]
  rfl

set_option maxHeartbeats 4000000 in
set_option maxRecDepth 100000 in
theorem m_goesLong {sc : Nat → Value} {A : Nat → Nat} {v : rd_V} {n : Nat} {y : Nat × List Int64} {wa : Nat → Int64} {rm : Nat → Int32} {nu : Nat → Int64} {C : Nat → Nat} (hw : ln_ok (rd_w v)) (hV : mV A v) (hn : n < 4) (hwa : ∀ j, wa j = y.2.getD j 0) (r2 : rm n = nI y.2.length) (hy8 : y.2.length ≤ 8) (r5 : ∀ j, j < y.2.length → nu (40 * n + j) = y.2.getD j 0) : ∀ (kn : Nat) {d gone : Nat} {p : List Nat} {R : List (List Nat)} {gm : Nat → Nat} {fd : Nat → Int32} {ti bh cf : Nat → Nat} {hp : az_Hp} {Q : Option Value → az_Hp → Prop}, kn + 3 ≤ d → gone + kn = y.2.length → p.length = gone → (∀ j, j < gone → fd j = nI (p.getD j 0) ∧ p.getD j 0 < 3) → fu_to (rd_w v) p C = cf → R.length + 3 ^ kn ≤ 6561 → hp.2 64 = some (mo_o (su sc 37 (.int (nI R.length)))) → hp.2 65 = some (az_I 3318 (fun j => nI (A j))) → hp.2 81 = some (az_J 84 (fun j => lN (gm j))) → (∀ c, c < 6 → gm (6 * gone + c) = cf c) → hp.2 83 = some (az_I 8 fd) → hp.2 84 = some (az_I 8 (fun j => nI (ti j))) → hp.2 85 = some (az_J 19683 (fun j => lN (bh j))) → hp.2 91 = some (az_I 4 rm) → hp.2 92 = some (az_J 160 nu) → mlR ti bh (rd_w v) C R → fu_l cf * 4 ^ (kn + 1) < 2 ^ 62 → (∀ (h' : az_Hp) (gm' : Nat → Nat) (fd' : Nat → Int32) (ti' bh' : Nat → Nat), h'.2 64 = some (mo_o (su sc 37 (.int (nI ((R ++ (fu_lg (rd_w v) wa kn gone cf).map (fun r => p ++ r))).length)))) → h'.2 81 = some (az_J 84 (fun j => lN (gm' j))) → (∀ j, j < 6 * (gone + 1) → gm' j = gm j) → h'.2 83 = some (az_I 8 fd') → (∀ j, j < gone → fd' j = fd j) → h'.2 84 = some (az_I 8 (fun j => nI (ti' j))) → h'.2 85 = some (az_J 19683 (fun j => lN (bh' j))) → mlR ti' bh' (rd_w v) C (R ++ (fu_lg (rd_w v) wa kn gone cf).map (fun r => p ++ r)) → mf hp h' [64, 81, 83, 84, 85] → (mk hp → mk h') → Q none h') → az_M mX12_goesLong d 0 0 [.ref 64, .int (nI n), .int (nI gone)] hp Q := by
  have ht3 := hw.2.1
  have ht1 := hw.1
  have hA1 : A 1 = ln_tb (rd_w v) := hV.2.1
  intro kn
  induction kn with
  | zero =>
    intro d gone p R gm fd ti bh cf hp Q hd hgk hpl hfd hto hR h64 h65 h81 hrow h83 h84 h85 h91 h92 hml hcap hQ
    have hR : R.length + 1 ≤ 6561 := hR
    subst hpl
    have loop1 : ∀ (k : Nat) (i : Nat) (h' : az_Hp) (hK : ∀ h2, h2 = az_up hp 84 (az_I 8 (fun j => nI (orS ti p p.length j))) → ∀ i : Nat, az_W mX12_goesLong d 0 0 40 [(0, .ref 64), (1, .int (nI n)), (2, .int (nI p.length)), (3, .int (nI i))] [] h2 Q), p.length - i = k → (i ≤ p.length) → (h' = az_up hp 84 (az_I 8 (fun j => nI (orS ti p i j)))) → az_W mX12_goesLong d 0 0 12 [(0, .ref 64), (1, .int (nI n)), (2, .int (nI p.length)), (3, .int (nI i))] [] h' Q := by
      intro k
      induction k using Nat.strongRecOn with
      | _ k ih =>
      intro i h' hK hk hi he
      refine az_iload_n dX12_goesLong_12 ?_
      refine az_iload_n dX12_goesLong_13 ?_
      refine az_icmp_geN (tgt := 40) dX12_goesLong_14 (fun c14 => ?_) (fun c14 => ?_)
      · exact hK h' (by rw [he, show i = p.length by omega]) i
      · refine az_aload_n dX12_goesLong_17 ?_
        refine az_getf (v := .ref 84) dX12_goesLong_18 fl_X12_76 (by rw [he]; exact az_up_ne h64) ?_
        refine az_iload_n dX12_goesLong_21 ?_
        refine az_dup2_11 dX12_goesLong_22 ?_
        refine az_ialdN (j := i) dX12_goesLong_23 (by rw [he]; exact az_up_eq) ?_
        rw [orS_lt (Nat.le_refl _)]
        refine az_iconst (v := nI 1) dX12_goesLong_24 ?_
        refine az_aload_n dX12_goesLong_25 ?_
        refine az_getf (v := .ref 83) dX12_goesLong_26 fl_X12_73 (by rw [he]; exact az_up_ne h64) ?_
        refine az_iload_n dX12_goesLong_29 ?_
        refine az_ialdN (j := i) dX12_goesLong_30 (by rw [he]; exact az_up_ne h83) ?_
        rw [(hfd i (by omega)).1]
        have hp3 := (hfd i (by omega)).2
        refine az_ishl1N dX12_goesLong_31 ?_
        refine az_iorN dX12_goesLong_32 ?_
        refine az_iastN (j := i) dX12_goesLong_33 (by rw [he]; exact az_up_eq) ?_
        rw [az_s_nI]
        refine az_iincN (n := 1) (ls' := [(0, .ref 64), (1, .int (nI n)), (2, .int (nI p.length)), (3, .int (nI (i + 1)))]) dX12_goesLong_34 ?_
        refine az_goto (tgt := 12) dX12_goesLong_37 ?_
        exact ih _ (by omega) (i + 1) _ hK rfl (by omega) (by rw [he, az_up_up, orS_s])
    have loop2 : ∀ (k : Nat) (tb : Nat) (h' : az_Hp) (g1 b9 : Nat → Nat), ln_tb (rd_w v) - tb = k → (tb ≤ ln_tb (rd_w v)) → (h'.2 81 = some (az_J 84 (fun j => lN (g1 j)))) → (∀ j, j < 6 * (p.length + 1) → g1 j = gm j) → (h'.2 85 = some (az_J 19683 (fun j => lN (b9 j)))) → (∀ t, t < tb → b9 (6561 * t + R.length) = fu_b (rd_w v) t cf) → (∀ q, (∀ t, q ≠ 6561 * t + R.length) → b9 q = bh q) → (h'.2 84 = some (az_I 8 (fun j => nI (orS ti p p.length j)))) → (mf hp h' [81, 84, 85]) → (mk hp → mk h') → az_W mX12_goesLong d 0 0 42 [(0, .ref 64), (1, .int (nI n)), (2, .int (nI p.length)), (3, .int (nI tb))] [] h' Q := by
      intro k
      induction k using Nat.strongRecOn with
      | _ k ih =>
      intro tb h' g1 b9 hk htb b81 hg1 b85 hb1 hb2 b84 mf1 mk1'
      have b64 : h'.2 64 = some (mo_o (su sc 37 (.int (nI R.length)))) := mf1.at h64
      have b65 : h'.2 65 = some (az_I 3318 (fun j => nI (A j))) := mf1.at h65
      refine az_iload_n dX12_goesLong_42 ?_
      refine az_aload_n dX12_goesLong_43 ?_
      refine az_getf (v := .ref 65) dX12_goesLong_44 fl_X12_13 b64 ?_
      refine az_iconst (v := nI 1) dX12_goesLong_47 ?_
      refine az_ialdN (j := 1) dX12_goesLong_48 b65 ?_
      rw [hA1]
      refine az_icmp_geN (tgt := 86) dX12_goesLong_49 (fun c49 => ?_) (fun c49 => ?_)
      · refine az_aload_n dX12_goesLong_86 ?_
        refine az_dup dX12_goesLong_87 ?_
        refine az_getf (v := .int (nI R.length)) dX12_goesLong_88 fl_X12_456 b64 ?_
        refine az_iconst (v := nI 1) dX12_goesLong_91 ?_
        refine az_iaddN dX12_goesLong_92 ?_
        refine az_putf (fs' := [sc 0, .ref 65, .ref 66, .ref 67, .ref 68, sc 5, fI (sc 6), sc 7, sc 8, fI (sc 9), fI (sc 10), sc 11, fI (sc 12), sc 13, sc 14, .ref 69, .ref 70, .ref 71, sc 18, .ref 72, .ref 73, .ref 74, sc 22, sc 23, .ref 75, sc 25, .ref 76, .ref 77, .ref 78, sc 29, .ref 79, .ref 80, .ref 81, .ref 82, .ref 83, .ref 84, .ref 85, .int (nI (R.length + 1)), .ref 86, .ref 87, .ref 88, .ref 89, .ref 90, .ref 91, .ref 92]) dX12_goesLong_93 fl_X12_456 b64 ?_
        exact az_vret dX12_goesLong_96 (by obtain rfl : tb = ln_tb (rd_w v) := (by omega); refine hQ _ g1 fd (orS ti p p.length) b9 (by rw [show (R ++ (fu_lg (rd_w v) wa 0 p.length cf).map (fun r => p ++ r)).length = R.length + 1 from (by rw [List.length_append, List.length_map]; rfl)]; exact az_up_eq) (az_up_ne b81) hg1 (az_up_ne (mf1.at h83)) (fun _ _ => rfl) (az_up_ne b84) (az_up_ne b85) (by rw [show R ++ (fu_lg (rd_w v) wa 0 p.length cf).map (fun r => p ++ r) = R ++ [p] from (by rw [show fu_lg (rd_w v) wa 0 p.length cf = [[]] from rfl]; simp)]; exact mlR_leaf hml ht3 (by omega) (fun t ht => (by rw [hto]; exact hb1 t ht)) hb2) ((mf1.wk (L' := [64, 81, 83, 84, 85])).up (by decide)) (fun q => mk.uO (mk1' q)))
      · refine az_aload_n dX12_goesLong_52 ?_
        refine az_iload_n dX12_goesLong_53 ?_
        refine az_iload_n dX12_goesLong_54 ?_
        refine az_cV0 (st := []) dX12_goesLong_55 ml_X12_437 b64 (m_goesMany (sc := su sc 37 (.int (nI R.length))) (d := d - 1) (gone := p.length) (tb := tb) (cf := cf) (by omega) hw b64 b65 hV (by omega) (by omega) b81 (fun c hc => (by rw [hg1 _ (by omega)]; exact hrow c hc)) ?_)
        intro g2 q1 q2
        refine az_aload_n dX12_goesLong_58 ?_
        refine az_getf (v := .ref 85) dX12_goesLong_59 fl_X12_79 (az_up_ne b64) ?_
        refine az_sipush (v := nI 6561) dX12_goesLong_62 ?_
        refine az_iload_n dX12_goesLong_65 ?_
        refine az_imulN dX12_goesLong_66 ?_
        refine az_aload_n dX12_goesLong_67 ?_
        refine az_getf (v := .int (nI R.length)) dX12_goesLong_68 fl_X12_456 (az_up_ne b64) ?_
        refine az_iaddN dX12_goesLong_71 ?_
        refine az_aload_n dX12_goesLong_72 ?_
        refine az_iload_n dX12_goesLong_73 ?_
        refine az_iconst (v := nI 1) dX12_goesLong_74 ?_
        refine az_iaddN dX12_goesLong_75 ?_
        refine az_cV0 (st := [.int (nI ((6561 * tb) + R.length)), .ref 85]) dX12_goesLong_76 ml_X12_434 (az_up_ne b64) (m_longIn (sc := su sc 37 (.int (nI R.length))) (d := d - 1) (gone := p.length + 1) (cf := fu_n (rd_w v) tb cf) (az_up_ne b64) (by omega) az_up_eq q2 ?_)
        refine az_lastN (j := (6561 * tb) + R.length) dX12_goesLong_79 (az_up_ne b85) ?_
        rw [az_s_lN]
        refine az_iincN (n := 1) (ls' := [(0, .ref 64), (1, .int (nI n)), (2, .int (nI p.length)), (3, .int (nI (tb + 1)))]) dX12_goesLong_80 ?_
        refine az_goto (tgt := 42) dX12_goesLong_83 ?_
        exact ih _ (by omega) (tb + 1) _ g2 (az_s b9 (6561 * tb + R.length) (fu_l (fu_n (rd_w v) tb cf))) rfl (by omega) (az_up_ne az_up_eq) (fun j hj => (by rw [q1 j (by omega)]; exact hg1 j hj)) az_up_eq (fun t ht => (by by_cases e : t = tb; rw [e, az_s_eq, fu_b_is hw]; rw [az_s_ne (by omega)]; exact hb1 t (by omega))) (fun q hq => (by rw [az_s_ne (hq tb)]; exact hb2 q hq)) (az_up_ne (az_up_ne b84)) ((mf1.up (by decide)).up (by decide)) (fun q => mk.uJ (mk.uJ (mk1' q) rfl) rfl)
    refine az_M.of rfl (Nat.le_of_ble_eq_true rfl) ?_
    show az_W _ _ _ _ 0 [(0, .ref 64), (1, .int (nI n)), (2, .int (nI p.length))] [] _ _
    refine az_iload_n dX12_goesLong_0 ?_
    refine az_aload_n dX12_goesLong_1 ?_
    refine az_getf (v := .ref 91) dX12_goesLong_2 fl_X12_97 h64 ?_
    refine az_iload_n dX12_goesLong_5 ?_
    refine az_ialdN (j := n) dX12_goesLong_6 h91 ?_
    rw [r2]
    refine az_icmp_neN (tgt := 97) dX12_goesLong_7 (fun c7 => ?_) (fun c7 => ?_)
    · exact absurd c7 (by omega)
    · refine az_iconst (v := nI 0) dX12_goesLong_10 ?_
      refine az_istore_n (ls' := [(0, .ref 64), (1, .int (nI n)), (2, .int (nI p.length)), (3, .int (nI 0))]) dX12_goesLong_11 ?_
      refine loop1 _ 0 hp ?_ rfl (Nat.zero_le _) (by rw [orS_0]; exact (az_up_same h84).symm)
      intro h2 e2 i
      refine az_iconst (v := nI 0) dX12_goesLong_40 ?_
      refine az_istore_n (ls' := [(0, .ref 64), (1, .int (nI n)), (2, .int (nI p.length)), (3, .int (nI 0))]) dX12_goesLong_41 ?_
      exact loop2 _ 0 h2 gm bh rfl (Nat.zero_le _) (by rw [e2]; exact az_up_ne h81) (fun _ _ => rfl) (by rw [e2]; exact az_up_ne h85) (fun t ht => absurd ht (by omega)) (fun _ _ => rfl) (by rw [e2]; exact az_up_eq) (by rw [e2]; exact mf.rf.up (by decide)) (fun q => (by rw [e2]; exact mk.uI q rfl))
  | succ km ihN =>
    intro d gone p R gm fd ti bh cf hp Q hd hgk hpl hfd hto hR h64 h65 h81 hrow h83 h84 h85 h91 h92 hml hcap hQ
    have loop : ∀ (k : Nat) (tb : Nat) (h' : az_Hp) (g1 : Nat → Nat) (fd9 : Nat → Int32) (t9 b9 : Nat → Nat), ln_tb (rd_w v) - tb = k → (tb ≤ ln_tb (rd_w v)) → (h'.2 64 = some (mo_o (su sc 37 (.int (nI (lgP (rd_w v) wa km gone cf p R tb).length))))) → (h'.2 81 = some (az_J 84 (fun j => lN (g1 j)))) → (∀ j, j < 6 * (gone + 1) → g1 j = gm j) → (h'.2 83 = some (az_I 8 fd9)) → (∀ j, j < gone → fd9 j = fd j) → (h'.2 84 = some (az_I 8 (fun j => nI (t9 j)))) → (h'.2 85 = some (az_J 19683 (fun j => lN (b9 j)))) → (mlR t9 b9 (rd_w v) C (lgP (rd_w v) wa km gone cf p R tb)) → (mf hp h' [64, 81, 83, 84, 85]) → (mk hp → mk h') → az_W mX12_goesLong d 0 0 99 [(0, .ref 64), (1, .int (nI n)), (2, .int (nI gone)), (3, .int (nI tb))] [] h' Q := by
      intro k
      induction k using Nat.strongRecOn with
      | _ k ih =>
      intro tb h' g1 fd9 t9 b9 hk htb b64 b81 hg1 b83 hfd9 b84 b85 hm9 mf1 mk1'
      refine az_iload_n dX12_goesLong_99 ?_
      refine az_aload_n dX12_goesLong_100 ?_
      refine az_getf (v := .ref 65) dX12_goesLong_101 fl_X12_13 b64 ?_
      refine az_iconst (v := nI 1) dX12_goesLong_104 ?_
      refine az_ialdN (j := 1) dX12_goesLong_105 (mf1.at h65) ?_
      rw [hA1]
      refine az_icmp_geN (tgt := 171) dX12_goesLong_106 (fun c106 => ?_) (fun c106 => ?_)
      · exact az_vret dX12_goesLong_171 (by obtain rfl : tb = ln_tb (rd_w v) := (by omega); exact hQ h' g1 fd9 t9 b9 b64 b81 hg1 b83 hfd9 b84 b85 hm9 mf1 mk1')
      · refine az_aload_n dX12_goesLong_109 ?_
        refine az_getf (v := .ref 83) dX12_goesLong_110 fl_X12_73 b64 ?_
        refine az_iload_n dX12_goesLong_113 ?_
        refine az_iload_n dX12_goesLong_114 ?_
        refine az_iastN (j := gone) dX12_goesLong_115 b83 ?_
        refine az_aload_n dX12_goesLong_116 ?_
        refine az_iload_n dX12_goesLong_117 ?_
        refine az_iload_n dX12_goesLong_118 ?_
        refine az_cV0 (st := []) dX12_goesLong_119 ml_X12_437 (az_up_ne b64) (m_goesMany (sc := su sc 37 (.int (nI (lgP (rd_w v) wa km gone cf p R tb).length))) (d := d - 1) (gone := gone) (tb := tb) (cf := cf) (by omega) hw (az_up_ne b64) (az_up_ne (mf1.at h65)) hV (by omega) (by omega) (az_up_ne b81) (fun c hc => (by rw [hg1 _ (by omega)]; exact hrow c hc)) ?_)
        intro g2 q1 q2
        refine az_aload_n dX12_goesLong_122 ?_
        refine az_getf (v := .ref 92) dX12_goesLong_123 fl_X12_100 (az_up_ne (az_up_ne b64)) ?_
        refine az_bipush (v := nI 40) dX12_goesLong_126 ?_
        refine az_iload_n dX12_goesLong_128 ?_
        refine az_imulN dX12_goesLong_129 ?_
        refine az_iload_n dX12_goesLong_130 ?_
        refine az_iaddN dX12_goesLong_131 ?_
        refine az_laldN (j := (40 * n) + gone) dX12_goesLong_132 (az_up_ne (az_up_ne (mf1.at h92))) ?_
        rw [r5 gone (by omega), ← hwa]
        refine az_lstore (ls' := [(0, .ref 64), (1, .int (nI n)), (2, .int (nI gone)), (3, .int (nI tb)), (4, .long (wa gone))]) dX12_goesLong_133 ?_
        refine az_lload dX12_goesLong_135 ?_
        refine az_ldc2 (v := (-1)) dX12_goesLong_137 cn_X12_307 ?_
        refine az_lcmp_eq (tgt := 157) dX12_goesLong_140 dX12_goesLong_141 (fun c140 => ?_) (fun c140 => ?_)
        · have hcd : wa gone = -1 ∨ wa gone = lN (fu_b (rd_w v) tb cf) := (by first | exact Or.inl c140 | exact Or.inr c153)
          refine az_aload_n dX12_goesLong_157 ?_
          refine az_iload_n dX12_goesLong_158 ?_
          refine az_iload_n dX12_goesLong_159 ?_
          refine az_iconst (v := nI 1) dX12_goesLong_160 ?_
          refine az_iaddN dX12_goesLong_161 ?_
          refine az_cV0 (st := []) dX12_goesLong_162 ml_X12_459 (az_up_ne (az_up_ne b64)) (ihN (d := d - 1) (gone := gone + 1) (p := p ++ [tb]) (R := lgP (rd_w v) wa km gone cf p R tb) (gm := g2) (fd := az_s fd9 gone (nI tb)) (ti := t9) (bh := b9) (cf := fu_n (rd_w v) tb cf) (by omega) (by omega) (by rw [List.length_append, hpl]; rfl) (fun j hj => if e : j = gone then (by rw [e, az_s_eq, ← hpl]; simp [List.getD]; omega) else (by rw [az_s_ne e, hfd9 j (by omega), show (p ++ [tb]).getD j 0 = p.getD j 0 from (by simp only [List.getD, List.getElem?_append_left (show j < p.length by omega)])]; exact hfd j (by omega))) (by rw [fu_to_app, hto]) (lgP_cap hw hR (by omega)) (az_up_ne (az_up_ne b64)) (az_up_ne (az_up_ne (mf1.at h65))) az_up_eq q2 (az_up_ne az_up_eq) (az_up_ne (az_up_ne b84)) (az_up_ne (az_up_ne b85)) (az_up_ne (az_up_ne (mf1.at h91))) (az_up_ne (az_up_ne (mf1.at h92))) hm9 (fu_n_l hw hcap) ?_)
          intro h3 g3 fd3 t3 b3 d64 d81 p1 d83 p2 d84 d85 dm m3 k3
          rw [← lgP_yes hcd] at d64 dm
          have hfr : mf hp h3 [64, 81, 83, 84, 85] := (mf.tr ((mf1.up (by decide)).up (by decide)) m3 (by decide))
          refine az_iincN (n := 1) (ls' := [(0, .ref 64), (1, .int (nI n)), (2, .int (nI gone)), (3, .int (nI (tb + 1))), (4, .long (wa gone))]) dX12_goesLong_165 ?_
          refine az_goto (tgt := 99) dX12_goesLong_168 ?_
          refine az_W.keep (ls' := [(0, .ref 64), (1, .int (nI n)), (2, .int (nI gone)), (3, .int (nI (tb + 1)))]) [0, 1, 2, 3] rfl ?_
          first | (have _g := hcd; exact ih _ (by omega) (tb + 1) h3 g3 fd3 t3 b3 rfl (by omega) d64 d81 (fun j hj => (by rw [p1 j (by omega), q1 j (by omega)]; exact hg1 j hj)) d83 (fun j hj => (by rw [p2 j (by omega), az_s_ne (by omega)]; exact hfd9 j hj)) d84 d85 dm hfr (fun q => k3 (mk.uJ (mk.uI (mk1' q) rfl) rfl))) | (have hno : ¬ (wa gone = -1 ∨ wa gone = lN (fu_b (rd_w v) tb cf)) := (fun q => q.elim c140 c153); have hl := lgP_no (km := km) (p := p) (R := R) hno; exact ih _ (by omega) (tb + 1) _ g2 (az_s fd9 gone (nI tb)) t9 b9 rfl (by omega) (by rw [hl]; exact az_up_ne (az_up_ne b64)) az_up_eq (fun j hj => (by rw [q1 j (by omega)]; exact hg1 j hj)) (az_up_ne az_up_eq) (fun j hj => (by rw [az_s_ne (by omega)]; exact hfd9 j hj)) (az_up_ne (az_up_ne b84)) (az_up_ne (az_up_ne b85)) (by rw [hl]; exact hm9) ((mf1.up (by decide)).up (by decide)) (fun q => mk.uJ (mk.uI (mk1' q) rfl) rfl))
        · refine az_lload dX12_goesLong_144 ?_
          refine az_aload_n dX12_goesLong_146 ?_
          refine az_iload_n dX12_goesLong_147 ?_
          refine az_iconst (v := nI 1) dX12_goesLong_148 ?_
          refine az_iaddN dX12_goesLong_149 ?_
          refine az_cV0 (st := [.long (wa gone)]) dX12_goesLong_150 ml_X12_434 (az_up_ne (az_up_ne b64)) (m_longIn (sc := su sc 37 (.int (nI (lgP (rd_w v) wa km gone cf p R tb).length))) (d := d - 1) (gone := gone + 1) (cf := fu_n (rd_w v) tb cf) (az_up_ne (az_up_ne b64)) (by omega) az_up_eq q2 ?_)
          rw [fu_b_is hw]
          refine az_lcmp_ne (tgt := 165) dX12_goesLong_153 dX12_goesLong_154 (fun c153 => ?_) (fun c153 => ?_)
          · refine az_iincN (n := 1) (ls' := [(0, .ref 64), (1, .int (nI n)), (2, .int (nI gone)), (3, .int (nI (tb + 1))), (4, .long (wa gone))]) dX12_goesLong_165 ?_
            refine az_goto (tgt := 99) dX12_goesLong_168 ?_
            refine az_W.keep (ls' := [(0, .ref 64), (1, .int (nI n)), (2, .int (nI gone)), (3, .int (nI (tb + 1)))]) [0, 1, 2, 3] rfl ?_
            first | (have _g := hcd; exact ih _ (by omega) (tb + 1) h3 g3 fd3 t3 b3 rfl (by omega) d64 d81 (fun j hj => (by rw [p1 j (by omega), q1 j (by omega)]; exact hg1 j hj)) d83 (fun j hj => (by rw [p2 j (by omega), az_s_ne (by omega)]; exact hfd9 j hj)) d84 d85 dm hfr (fun q => k3 (mk.uJ (mk.uI (mk1' q) rfl) rfl))) | (have hno : ¬ (wa gone = -1 ∨ wa gone = lN (fu_b (rd_w v) tb cf)) := (fun q => q.elim c140 c153); have hl := lgP_no (km := km) (p := p) (R := R) hno; exact ih _ (by omega) (tb + 1) _ g2 (az_s fd9 gone (nI tb)) t9 b9 rfl (by omega) (by rw [hl]; exact az_up_ne (az_up_ne b64)) az_up_eq (fun j hj => (by rw [q1 j (by omega)]; exact hg1 j hj)) (az_up_ne az_up_eq) (fun j hj => (by rw [az_s_ne (by omega)]; exact hfd9 j hj)) (az_up_ne (az_up_ne b84)) (az_up_ne (az_up_ne b85)) (by rw [hl]; exact hm9) ((mf1.up (by decide)).up (by decide)) (fun q => mk.uJ (mk.uI (mk1' q) rfl) rfl))
          · have hcd : wa gone = -1 ∨ wa gone = lN (fu_b (rd_w v) tb cf) := (by first | exact Or.inl c140 | exact Or.inr c153)
            refine az_aload_n dX12_goesLong_157 ?_
            refine az_iload_n dX12_goesLong_158 ?_
            refine az_iload_n dX12_goesLong_159 ?_
            refine az_iconst (v := nI 1) dX12_goesLong_160 ?_
            refine az_iaddN dX12_goesLong_161 ?_
            refine az_cV0 (st := []) dX12_goesLong_162 ml_X12_459 (az_up_ne (az_up_ne b64)) (ihN (d := d - 1) (gone := gone + 1) (p := p ++ [tb]) (R := lgP (rd_w v) wa km gone cf p R tb) (gm := g2) (fd := az_s fd9 gone (nI tb)) (ti := t9) (bh := b9) (cf := fu_n (rd_w v) tb cf) (by omega) (by omega) (by rw [List.length_append, hpl]; rfl) (fun j hj => if e : j = gone then (by rw [e, az_s_eq, ← hpl]; simp [List.getD]; omega) else (by rw [az_s_ne e, hfd9 j (by omega), show (p ++ [tb]).getD j 0 = p.getD j 0 from (by simp only [List.getD, List.getElem?_append_left (show j < p.length by omega)])]; exact hfd j (by omega))) (by rw [fu_to_app, hto]) (lgP_cap hw hR (by omega)) (az_up_ne (az_up_ne b64)) (az_up_ne (az_up_ne (mf1.at h65))) az_up_eq q2 (az_up_ne az_up_eq) (az_up_ne (az_up_ne b84)) (az_up_ne (az_up_ne b85)) (az_up_ne (az_up_ne (mf1.at h91))) (az_up_ne (az_up_ne (mf1.at h92))) hm9 (fu_n_l hw hcap) ?_)
            intro h3 g3 fd3 t3 b3 d64 d81 p1 d83 p2 d84 d85 dm m3 k3
            rw [← lgP_yes hcd] at d64 dm
            have hfr : mf hp h3 [64, 81, 83, 84, 85] := (mf.tr ((mf1.up (by decide)).up (by decide)) m3 (by decide))
            refine az_iincN (n := 1) (ls' := [(0, .ref 64), (1, .int (nI n)), (2, .int (nI gone)), (3, .int (nI (tb + 1))), (4, .long (wa gone))]) dX12_goesLong_165 ?_
            refine az_goto (tgt := 99) dX12_goesLong_168 ?_
            refine az_W.keep (ls' := [(0, .ref 64), (1, .int (nI n)), (2, .int (nI gone)), (3, .int (nI (tb + 1)))]) [0, 1, 2, 3] rfl ?_
            first | (have _g := hcd; exact ih _ (by omega) (tb + 1) h3 g3 fd3 t3 b3 rfl (by omega) d64 d81 (fun j hj => (by rw [p1 j (by omega), q1 j (by omega)]; exact hg1 j hj)) d83 (fun j hj => (by rw [p2 j (by omega), az_s_ne (by omega)]; exact hfd9 j hj)) d84 d85 dm hfr (fun q => k3 (mk.uJ (mk.uI (mk1' q) rfl) rfl))) | (have hno : ¬ (wa gone = -1 ∨ wa gone = lN (fu_b (rd_w v) tb cf)) := (fun q => q.elim c140 c153); have hl := lgP_no (km := km) (p := p) (R := R) hno; exact ih _ (by omega) (tb + 1) _ g2 (az_s fd9 gone (nI tb)) t9 b9 rfl (by omega) (by rw [hl]; exact az_up_ne (az_up_ne b64)) az_up_eq (fun j hj => (by rw [q1 j (by omega)]; exact hg1 j hj)) (az_up_ne az_up_eq) (fun j hj => (by rw [az_s_ne (by omega)]; exact hfd9 j hj)) (az_up_ne (az_up_ne b84)) (az_up_ne (az_up_ne b85)) (by rw [hl]; exact hm9) ((mf1.up (by decide)).up (by decide)) (fun q => mk.uJ (mk.uI (mk1' q) rfl) rfl))
    refine az_M.of rfl (Nat.le_of_ble_eq_true rfl) ?_
    show az_W _ _ _ _ 0 [(0, .ref 64), (1, .int (nI n)), (2, .int (nI gone))] [] _ _
    refine az_iload_n dX12_goesLong_0 ?_
    refine az_aload_n dX12_goesLong_1 ?_
    refine az_getf (v := .ref 91) dX12_goesLong_2 fl_X12_97 h64 ?_
    refine az_iload_n dX12_goesLong_5 ?_
    refine az_ialdN (j := n) dX12_goesLong_6 h91 ?_
    rw [r2]
    refine az_icmp_neN (tgt := 97) dX12_goesLong_7 (fun c7 => ?_) (fun c7 => ?_)
    · refine az_iconst (v := nI 0) dX12_goesLong_97 ?_
      refine az_istore_n (ls' := [(0, .ref 64), (1, .int (nI n)), (2, .int (nI gone)), (3, .int (nI 0))]) dX12_goesLong_98 ?_
      exact loop _ 0 hp gm fd ti bh rfl (Nat.zero_le _) (by rw [lgP_0]; exact h64) h81 (fun _ _ => rfl) h83 (fun _ _ => rfl) h84 h85 (by rw [lgP_0]; exact hml) mf.rf (fun q => q)
    · exact absurd c7 (by omega)

