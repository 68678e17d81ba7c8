/-! The model: a night -/
/-- what a night goes by: a table, or none if all sleeps -/
def mpk (v : rd_V) (z : ln_Z) (n : Nat) : Option Nat := if n = 0 then (if ln_as (ln_env (rd_w v) z.2.2 z.1 z.2.1) v.2.2.2.2.2.2.2.2 = 0 then some (ln_pi (ln_env (rd_w v) z.2.2 z.1 z.2.1) v.2.2.2.2.2.2.2.1 (ln_tb (rd_w v))) else none) else some (n - 1)
def wcode (w : ln_W) (z : ln_Z) : Option Nat → Nat
  | none => 0
  | some tb => (dt w z tb).1
def wnext (z : ln_Z) : Option Nat → ln_Z
  | none => (z.1, z.2.1 + 1, z.2.2)
  | some tb => (z.1, z.2.1 + 1, z.2.2 ++ [tb])
theorem mpk_0 (v : rd_V) (mo ni : Nat) (bs : List Nat) : ln_opt (mpk v (mo, ni, bs) 0) = cs_picks v mo ni bs := by
  unfold mpk cs_picks
  rw [if_pos rfl]
  by_cases h : ln_as (ln_env (rd_w v) bs mo ni) v.2.2.2.2.2.2.2.2 = 0
  · rw [if_pos h, if_pos h]; rfl
  · rw [if_neg h, if_neg h]; rfl
theorem mpk_lt {v : rd_V} (hw : ln_ok (rd_w v)) {z : ln_Z} {n tb : Nat} (hn : n ≤ ln_tb (rd_w v)) (h : mpk v z n = some tb) : tb < ln_tb (rd_w v) := by
  unfold mpk at h
  have h1 := hw.1
  split at h
  · split at h
    · cases h
      exact ln_pi_lt (by omega)
    · cases h
  · cases h
    omega
theorem dz_mpk {v : rd_V} (hw : ln_ok (rd_w v)) (z : ln_Z) {n : Nat} (hn : n ≤ ln_tb (rd_w v)) : dz (rd_w v) v.2.2.2.2.2.2.2.1 v.2.2.2.2.2.2.2.2 z (lN n) = (wcode (rd_w v) z (mpk v z n), if wcode (rd_w v) z (mpk v z n) = 0 then wnext z (mpk v z n) else z) := by
  have h3 := hw.2.1
  have key : ∀ tb, dt (rd_w v) z tb = ((dt (rd_w v) z tb).1, if (dt (rd_w v) z tb).1 = 0 then (z.1, z.2.1 + 1, z.2.2 ++ [tb]) else z) := by
    intro tb
    unfold dt
    split
    · rfl
    · split
      · rfl
      · rfl
  unfold dz mpk
  by_cases h0 : n = 0
  · subst h0
    rw [if_pos rfl, if_pos rfl]
    have hle := ln_as_le (ln_env (rd_w v) z.2.2 z.1 z.2.1) v.2.2.2.2.2.2.2.2
    by_cases ha : ln_as (ln_env (rd_w v) z.2.2 z.1 z.2.1) v.2.2.2.2.2.2.2.2 = 0
    · rw [if_neg (by omega), if_pos ha]
      exact key _
    · rw [if_pos (by omega), if_neg ha]
      rfl
  · rw [if_neg (fun c => h0 (by have := congrArg Int64.toInt c; rw [lN_toI (by omega), lN_toI (by omega)] at this; omega)), if_pos ⟨(lN_ltN (by omega) (by omega)).mpr (by omega), (lN_leN (by omega) (by omega)).mpr hn⟩, if_neg h0]
    rw [show (lN n).toInt.toNat = n by rw [lN_toI (by omega)]; rfl]
    exact key _
theorem mV.keep {A A' : Nat → Nat} {v : rd_V} (H : mV A v) (hw : ln_ok (rd_w v)) (h : ∀ j, (j < 111 ∨ (114 ≤ j ∧ j < 145) ∨ 205 ≤ j) → A' j = A j) : mV A' v := by
  obtain ⟨h0, h1, h2, h3, h4, h5, h6, h7⟩ := H
  have h12 : v.2.2.2.1 ≤ 12 := hw.2.2.2.2.1
  have hz : ∀ r, v.2.2.2.2.2.1 r ≤ 4 := hw.2.2.2.2.2.2.1
  have hL : ∀ l k, l < 2 → mL A l k → mL A' l k := by
    intro l k hl H
    refine ⟨fun q => (h _ (by omega)).trans (H.1 q), fun q => ?_⟩
    obtain ⟨g1, g2, g3, g4⟩ := H.2 q
    have e7 : A' (107 + l) = A (107 + l) := h _ (by omega)
    refine ⟨(h _ (by omega)).trans g1, (h _ (by omega)).trans g2, by rw [e7]; exact g3, fun i hi => ?_⟩
    rw [e7]
    exact (h _ (by omega)).trans (g4 i hi)
  refine ⟨(h _ (by omega)).trans h0, (h _ (by omega)).trans h1, (h _ (by omega)).trans h2, fun k hk => (h _ (by omega)).trans (h3 k hk), fun r hr => (h _ (by omega)).trans (h4 r hr), fun r i hr hi => (h _ (by have := hz r; omega)).trans (h5 r i hr hi), hL 0 _ (by decide) h6, hL 1 _ (by decide) h7⟩
theorem mU.keep {A A' : Nat → Nat} {U : ln_U} (H : mU A U) (hU : U.length ≤ 10) (h : ∀ j, (j < 111 ∨ (114 ≤ j ∧ j < 145) ∨ 205 ≤ j) → A' j = A j) : mU A' U := by
  obtain ⟨h0, h1⟩ := H
  refine ⟨(h _ (by omega)).trans h0, fun k hk => ?_⟩
  obtain ⟨g1, g2, g3⟩ := h1 k hk
  exact ⟨(h _ (by omega)).trans g1, (h _ (by omega)).trans g2, (h _ (by omega)).trans g3⟩
theorem mI.keep {A A' : Nat → Nat} {hI : Nat → Int32} {im : Nat → Option (rd_V × ln_Z)} (H : mI A hI im) (h : ∀ j, 1106 ≤ j → A' j = A j) : mI A' hI im := by
  intro i hi
  have h3 := H i hi
  have e : (fun k => A' (1106 * (i + 1) + k)) = fun k => A (1106 * (i + 1) + k) := by
    funext k
    exact h _ (by have : 1 ≤ i + 1 := by omega
                  have := Nat.mul_le_mul_left 1106 this
                  omega)
  cases hm : im i with
  | none => rw [hm] at h3; exact h3
  | some x => rw [hm] at h3; exact ⟨h3.1, by rw [e]; exact h3.2⟩
theorem getD_app {bs : List Nat} {tb k : Nat} : (bs ++ [tb]).getD k 0 = if k < bs.length then bs.getD k 0 else if k = bs.length then tb else 0 := by
  by_cases h : k < bs.length
  · rw [if_pos h, List.getD_eq_getElem?_getD, List.getElem?_append_left h, List.getD_eq_getElem?_getD]
  · rw [if_neg h, List.getD_eq_getElem?_getD, List.getElem?_append_right (by omega)]
    by_cases h2 : k = bs.length
    · rw [if_pos h2, h2, Nat.sub_self]; rfl
    · rw [if_neg h2, List.getElem?_eq_none (by simp; omega)]; rfl
set_option maxHeartbeats 4000000 in
set_option maxRecDepth 100000 in
theorem m_goesNight {d : Nat} {sc : Nat → Value} {A : Nat → Nat} {v : rd_V} {mo ni : Nat} {bs : List Nat} {hp : az_Hp} {Q : Option Value → az_Hp → Prop} {p : Option Nat} (hw : ln_ok (rd_w v)) (hb : ln_by (rd_w v) bs) (h64 : hp.2 64 = some (mo_o sc)) (h22 : sc 22 = .int (ln_opt p)) (h65 : hp.2 65 = some (az_I 3318 (fun j => nI (A j)))) (hT : mT A v (mo, ni, bs)) (hp6 : ∀ tb, p = some tb → tb < 6) (h59 : ∀ tb, p = some tb → bs.length < 60) (hQ : ∀ A', mT A' v (wnext (mo, ni, bs) p) → (∀ j, (j < 111 ∨ (114 ≤ j ∧ j < 145) ∨ 205 ≤ j) → A' j = A j) → Q none (az_up hp 65 (az_I 3318 (fun j => nI (A' j))))) : az_M mX12_goesNight d 0 0 [.ref 64] hp Q := by
  have h60 := hb.1
  have hA112 : A 112 = ni := hT.2.2.1
  have hA113 : A 113 = bs.length := hT.2.2.2.1
  have hAb : ∀ k, k < bs.length → A (145 + k) = bs.getD k 0 := hT.2.2.2.2
  have e64 : hp.2 64 = some (az_O 11 [sc 0, .ref 65, .ref 66, .ref 67, .ref 68, sc 5, fI (sc 6), sc 7, sc 8, fI (sc 9), fI (sc 10), sc 11, fI (sc 12), sc 13, sc 14, .ref 69, .ref 70, .ref 71, sc 18, .ref 72, .ref 73, .ref 74, .int (ln_opt p), sc 23, .ref 75, sc 25, .ref 76, .ref 77, .ref 78, sc 29, .ref 79, .ref 80, .ref 81, .ref 82, .ref 83, .ref 84, .ref 85, sc 37, .ref 86, .ref 87, .ref 88, .ref 89, .ref 90, .ref 91, .ref 92]) := by rw [← h22]; exact h64
  refine az_M.of rfl (Nat.le_of_ble_eq_true rfl) ?_
  show az_W _ _ _ _ 0 [(0, .ref 64)] [] _ _
  refine az_aload_n dX12_goesNight_0 ?_
  refine az_getf (v := .ref 65) dX12_goesNight_1 fl_X12_13 e64 ?_
  refine az_bipush (v := nI 112) dX12_goesNight_4 ?_
  refine az_dup2_11 dX12_goesNight_6 ?_
  refine az_ialdN (j := 112) dX12_goesNight_7 h65 ?_
  rw [hA112]
  refine az_iconst (v := nI 1) dX12_goesNight_8 ?_
  refine az_iaddN dX12_goesNight_9 ?_
  refine az_iastN (j := 112) dX12_goesNight_10 h65 ?_
  rw [az_s_nI]
  refine az_aload_n dX12_goesNight_11 ?_
  refine az_getf (v := .int (ln_opt p)) dX12_goesNight_12 fl_X12_309 (az_up_ne e64) ?_
  refine az_iconst (v := (-1)) dX12_goesNight_15 ?_
  refine az_icmp_ne (tgt := 20) dX12_goesNight_16 (fun c16 => ?_) (fun c16 => ?_)
  · obtain ⟨tb, hpt⟩ := opt_some c16
    have htb := h59 tb hpt
    have htb6 := hp6 tb hpt
    refine az_aload_n dX12_goesNight_20 ?_
    refine az_getf (v := .ref 65) dX12_goesNight_21 fl_X12_13 (az_up_ne e64) ?_
    refine az_sipush (v := nI 145) dX12_goesNight_24 ?_
    refine az_aload_n dX12_goesNight_27 ?_
    refine az_getf (v := .ref 65) dX12_goesNight_28 fl_X12_13 (az_up_ne e64) ?_
    refine az_bipush (v := nI 113) dX12_goesNight_31 ?_
    refine az_ialdN (j := 113) dX12_goesNight_33 az_up_eq ?_
    rw [show az_s A 112 (ni + 1) 113 = bs.length from (az_s_ne (by decide)).trans hA113]
    refine az_iaddN dX12_goesNight_34 ?_
    refine az_aload_n dX12_goesNight_35 ?_
    refine az_getf (v := .int (ln_opt p)) dX12_goesNight_36 fl_X12_309 (az_up_ne e64) ?_
    rw [hpt, show ln_opt (some tb) = nI tb from rfl]
    refine az_iastN (j := 145 + bs.length) dX12_goesNight_39 az_up_eq ?_
    rw [az_s_nI]
    rw [az_up_up]
    refine az_aload_n dX12_goesNight_40 ?_
    refine az_getf (v := .ref 65) dX12_goesNight_41 fl_X12_13 (az_up_ne e64) ?_
    refine az_bipush (v := nI 113) dX12_goesNight_44 ?_
    refine az_dup2_11 dX12_goesNight_46 ?_
    refine az_ialdN (j := 113) dX12_goesNight_47 az_up_eq ?_
    rw [show az_s (az_s A 112 (ni + 1)) (145 + bs.length) tb 113 = bs.length from (az_s_ne (by omega)).trans ((az_s_ne (by decide)).trans hA113)]
    refine az_iconst (v := nI 1) dX12_goesNight_48 ?_
    refine az_iaddN dX12_goesNight_49 ?_
    refine az_iastN (j := 113) dX12_goesNight_50 az_up_eq ?_
    rw [az_s_nI]
    rw [az_up_up]
    exact az_vret dX12_goesNight_51 (by subst hpt; exact hQ _ ⟨hT.1.keep hw (fun j hj => (az_s_ne (by omega)).trans ((az_s_ne (by omega)).trans (az_s_ne (by omega)))), ⟨(az_s_ne (by decide)).trans ((az_s_ne (by omega)).trans ((az_s_ne (by decide)).trans hT.2.1)), (az_s_ne (by decide)).trans ((az_s_ne (by omega)).trans az_s_eq), (by rw [az_s_eq]; simp [wnext]), fun k hk => (by rw [az_s_ne (by omega)]; show _ = (bs ++ [tb]).getD k 0; rw [getD_app]; have hk2 : k < bs.length + 1 := (by have := hk; simp [wnext] at this; exact this); by_cases e9 : k = bs.length; rw [if_neg (by omega), if_pos e9, e9, az_s_eq]; rw [if_pos (by omega), az_s_ne (by omega), az_s_ne (by omega)]; exact hAb k (by omega))⟩⟩ (fun j hj => (az_s_ne (by omega)).trans ((az_s_ne (by omega)).trans (az_s_ne (by omega)))))
  · exact az_vret dX12_goesNight_19 (by have hn := opt_none hp6 (by first | exact c16 | exact Decidable.byContradiction c16); subst hn; exact hQ _ ⟨hT.1.keep hw (fun j hj => az_s_ne (by omega)), ⟨(az_s_ne (by decide)).trans hT.2.1, az_s_eq, (az_s_ne (by decide)).trans hA113, fun k hk => (az_s_ne (by omega)).trans (hAb k hk)⟩⟩ (fun j hj => az_s_ne (by omega)))
set_option maxHeartbeats 4000000 in
set_option maxRecDepth 100000 in
theorem m_why35 {d : Nat} {sc : Nat → Value} {A : Nat → Nat} {v : rd_V} {mo ni : Nat} {bs : List Nat} {hp : az_Hp} {Q : Option Value → az_Hp → Prop} {n : Nat} {h1 : az_Hp} {sc1 : Nat → Value} (hgd : rd_good v) (hb : ln_by (rd_w v) bs) (hd : 4 ≤ d) (h65 : hp.2 65 = some (az_I 3318 (fun j => nI (A j)))) (hT : mT A v (mo, ni, bs)) (hn : n ≤ ln_tb (rd_w v)) (a1 : h1.2 64 = some (mo_o sc1)) (hs1 : ∀ j, j ≠ 18 → j ≠ 22 → sc1 j = sc j) (hk : mk h1) (mf1 : mf hp h1 [64, 70, 72, 73]) (hQ : ∀ h' sc', h'.2 64 = some (mo_o sc') → sc' 22 = .int (ln_opt (mpk v (mo, ni, bs) n)) → (∀ j, j ≠ 18 → j ≠ 22 → sc' j = sc j) → mk h' → mf hp h' [64, 70, 72, 73] → Q (some (.int (nI (wcode (rd_w v) (mo, ni, bs) (mpk v (mo, ni, bs) n))))) h') : az_W mX12_whyNight d 0 0 35 [(0, .ref 64), (1, .long (lN n))] [.int (ln_opt (mpk v (mo, ni, bs) n)), .ref 64] h1 Q := by
  have hw : ln_ok (rd_w v) := hgd.1
  have h60 := hb.1
  have hlen := hb.2.2
  have hA113 : A 113 = bs.length := hT.2.2.2.1
  have ht3 := hw.2.1
  obtain ⟨f70, e70⟩ := hk.J (q := 70) (n := 366)
  refine az_putf (fs' := [sc1 0, .ref 65, .ref 66, .ref 67, .ref 68, sc1 5, fI (sc1 6), sc1 7, sc1 8, fI (sc1 9), fI (sc1 10), sc1 11, fI (sc1 12), sc1 13, sc1 14, .ref 69, .ref 70, .ref 71, sc1 18, .ref 72, .ref 73, .ref 74, .int (ln_opt (mpk v (mo, ni, bs) n)), sc1 23, .ref 75, sc1 25, .ref 76, .ref 77, .ref 78, sc1 29, .ref 79, .ref 80, .ref 81, .ref 82, .ref 83, .ref 84, .ref 85, sc1 37, .ref 86, .ref 87, .ref 88, .ref 89, .ref 90, .ref 91, .ref 92]) dX12_whyNight_35 fl_X12_309 a1 ?_
  refine az_aload_n dX12_whyNight_38 ?_
  refine az_getf (v := .int (ln_opt (mpk v (mo, ni, bs) n))) dX12_whyNight_39 fl_X12_309 az_up_eq ?_
  refine az_iconst (v := (-1)) dX12_whyNight_42 ?_
  refine az_icmp_ne (tgt := 48) dX12_whyNight_43 (fun c43 => ?_) (fun c43 => ?_)
  · obtain ⟨tb, hq⟩ := opt_some c43
    have htb := mpk_lt hw hn hq
    rw [hq] at hQ
    rw [hq, show ln_opt (some tb) = nI tb from rfl]
    refine az_aload_n dX12_whyNight_48 ?_
    refine az_getf (v := .ref 65) dX12_whyNight_49 fl_X12_13 az_up_eq ?_
    refine az_bipush (v := nI 113) dX12_whyNight_52 ?_
    refine az_ialdN (j := 113) dX12_whyNight_54 (az_up_ne (mf1.at h65)) ?_
    rw [hA113]
    refine az_bipush (v := nI 60) dX12_whyNight_55 ?_
    refine az_icmp_neN (tgt := 64) dX12_whyNight_57 (fun c57 => ?_) (fun c57 => ?_)
    · refine az_aload_n dX12_whyNight_64 ?_
      refine az_aload_n dX12_whyNight_65 ?_
      refine az_getf (v := .int (nI tb)) dX12_whyNight_66 fl_X12_309 az_up_eq ?_
      refine az_cV0 (st := []) dX12_whyNight_69 ml_X12_312 az_up_eq (m_longBehind (d := d - 1) (tb := tb) (sc := su sc1 22 (.int (nI tb))) (by omega) hw hb (by omega) az_up_eq (az_up_ne (mf1.at h65)) hT (az_up_ne e70) ?_)
      intro g9
      have hfl := flat_le hw tb (ln_str (rd_w v) bs)
      rw [← ln_str_snoc] at hfl
      refine az_ldc2 (v := lN 1000000000000) dX12_whyNight_72 cn_X12_316 ?_
      refine az_lcmp_leN (tgt := 83) dX12_whyNight_75 dX12_whyNight_76 (fun c75 => ?_) (fun c75 => ?_)
      · refine az_iconst (v := nI 0) dX12_whyNight_83 ?_
        exact az_iret dX12_whyNight_84 (by first | (rw [show wcode (rd_w v) (mo, ni, bs) (some tb) = 2 from (by show (dt _ _ _).1 = 2; rw [dt, if_pos (by show 60 ≤ bs.length; omega)])] at hQ; exact hQ _ (su sc1 22 (.int (nI tb))) az_up_eq rfl (fun j h18 h22 => by simp only [su, if_neg h22]; exact hs1 j h18 h22) (mk.uO hk) (mf1.up (by decide))) | (rw [show wcode (rd_w v) (mo, ni, bs) (some tb) = 3 from (by show (dt _ _ _).1 = 3; rw [dt, if_neg (by show ¬ 60 ≤ bs.length; omega), if_pos (by show _ < (ln_str (rd_w v) (bs ++ [tb])).length; omega)])] at hQ; exact hQ _ (su sc1 22 (.int (nI tb))) (az_up_ne az_up_eq) rfl (fun j h18 h22 => by simp only [su, if_neg h22]; exact hs1 j h18 h22) (mk.uJ (mk.uO hk) rfl) ((mf1.up (by decide)).up (by decide))) | (rw [show wcode (rd_w v) (mo, ni, bs) (some tb) = 0 from (by show (dt _ _ _).1 = 0; rw [dt, if_neg (by show ¬ 60 ≤ bs.length; omega), if_neg (by show ¬ _ < (ln_str (rd_w v) (bs ++ [tb])).length; omega)])] at hQ; exact hQ _ (su sc1 22 (.int (nI tb))) (az_up_ne az_up_eq) rfl (fun j h18 h22 => by simp only [su, if_neg h22]; exact hs1 j h18 h22) (mk.uJ (mk.uO hk) rfl) ((mf1.up (by decide)).up (by decide))))
      · refine az_iconst (v := nI 3) dX12_whyNight_79 ?_
        refine az_goto (tgt := 84) dX12_whyNight_80 ?_
        exact az_iret dX12_whyNight_84 (by first | (rw [show wcode (rd_w v) (mo, ni, bs) (some tb) = 2 from (by show (dt _ _ _).1 = 2; rw [dt, if_pos (by show 60 ≤ bs.length; omega)])] at hQ; exact hQ _ (su sc1 22 (.int (nI tb))) az_up_eq rfl (fun j h18 h22 => by simp only [su, if_neg h22]; exact hs1 j h18 h22) (mk.uO hk) (mf1.up (by decide))) | (rw [show wcode (rd_w v) (mo, ni, bs) (some tb) = 3 from (by show (dt _ _ _).1 = 3; rw [dt, if_neg (by show ¬ 60 ≤ bs.length; omega), if_pos (by show _ < (ln_str (rd_w v) (bs ++ [tb])).length; omega)])] at hQ; exact hQ _ (su sc1 22 (.int (nI tb))) (az_up_ne az_up_eq) rfl (fun j h18 h22 => by simp only [su, if_neg h22]; exact hs1 j h18 h22) (mk.uJ (mk.uO hk) rfl) ((mf1.up (by decide)).up (by decide))) | (rw [show wcode (rd_w v) (mo, ni, bs) (some tb) = 0 from (by show (dt _ _ _).1 = 0; rw [dt, if_neg (by show ¬ 60 ≤ bs.length; omega), if_neg (by show ¬ _ < (ln_str (rd_w v) (bs ++ [tb])).length; omega)])] at hQ; exact hQ _ (su sc1 22 (.int (nI tb))) (az_up_ne az_up_eq) rfl (fun j h18 h22 => by simp only [su, if_neg h22]; exact hs1 j h18 h22) (mk.uJ (mk.uO hk) rfl) ((mf1.up (by decide)).up (by decide))))
    · refine az_iconst (v := nI 2) dX12_whyNight_60 ?_
      refine az_goto (tgt := 84) dX12_whyNight_61 ?_
      exact az_iret dX12_whyNight_84 (by first | (rw [show wcode (rd_w v) (mo, ni, bs) (some tb) = 2 from (by show (dt _ _ _).1 = 2; rw [dt, if_pos (by show 60 ≤ bs.length; omega)])] at hQ; exact hQ _ (su sc1 22 (.int (nI tb))) az_up_eq rfl (fun j h18 h22 => by simp only [su, if_neg h22]; exact hs1 j h18 h22) (mk.uO hk) (mf1.up (by decide))) | (rw [show wcode (rd_w v) (mo, ni, bs) (some tb) = 3 from (by show (dt _ _ _).1 = 3; rw [dt, if_neg (by show ¬ 60 ≤ bs.length; omega), if_pos (by show _ < (ln_str (rd_w v) (bs ++ [tb])).length; omega)])] at hQ; exact hQ _ (su sc1 22 (.int (nI tb))) (az_up_ne az_up_eq) rfl (fun j h18 h22 => by simp only [su, if_neg h22]; exact hs1 j h18 h22) (mk.uJ (mk.uO hk) rfl) ((mf1.up (by decide)).up (by decide))) | (rw [show wcode (rd_w v) (mo, ni, bs) (some tb) = 0 from (by show (dt _ _ _).1 = 0; rw [dt, if_neg (by show ¬ 60 ≤ bs.length; omega), if_neg (by show ¬ _ < (ln_str (rd_w v) (bs ++ [tb])).length; omega)])] at hQ; exact hQ _ (su sc1 22 (.int (nI tb))) (az_up_ne az_up_eq) rfl (fun j h18 h22 => by simp only [su, if_neg h22]; exact hs1 j h18 h22) (mk.uJ (mk.uO hk) rfl) ((mf1.up (by decide)).up (by decide))))
  · refine az_iconst (v := nI 0) dX12_whyNight_46 ?_
    exact az_iret dX12_whyNight_47 (by have hq := opt_none (fun x hx => Nat.lt_of_lt_of_le (mpk_lt hw hn hx) (by omega)) (by first | exact c43 | exact Decidable.byContradiction c43); rw [hq] at hQ; rw [hq]; exact hQ _ (su sc1 22 (.int (ln_opt none))) az_up_eq rfl (fun j h18 h22 => by simp only [su, if_neg h22]; exact hs1 j h18 h22) (mk.uO hk) (mf1.up (by decide)))
set_option maxHeartbeats 4000000 in
set_option maxRecDepth 100000 in
theorem m_whyNight {d : Nat} {sc : Nat → Value} {A : Nat → Nat} {v : rd_V} {mo ni : Nat} {bs : List Nat} {hp : az_Hp} {Q : Option Value → az_Hp → Prop} {x : Int64} (hd : 6 ≤ d) (hgd : rd_good v) (hb : ln_by (rd_w v) bs) (h64 : hp.2 64 = some (mo_o sc)) (h65 : hp.2 65 = some (az_I 3318 (fun j => nI (A j)))) (hT : mT A v (mo, ni, bs)) (hk : mk hp) (hQ1 : (∀ n, n ≤ ln_tb (rd_w v) → x ≠ lN n) → Q (some (.int (nI 1))) hp) (hQ : ∀ n, x = lN n → n ≤ ln_tb (rd_w v) → ∀ h' sc', h'.2 64 = some (mo_o sc') → sc' 22 = .int (ln_opt (mpk v (mo, ni, bs) n)) → (∀ j, j ≠ 18 → j ≠ 22 → sc' j = sc j) → mk h' → mf hp h' [64, 70, 72, 73] → Q (some (.int (nI (wcode (rd_w v) (mo, ni, bs) (mpk v (mo, ni, bs) n))))) h') : az_M mX12_whyNight d 0 0 [.ref 64, .long x] hp Q := by
  have hw : ln_ok (rd_w v) := hgd.1
  have h60 := hb.1
  have hlen := hb.2.2
  have hA1 : A 1 = ln_tb (rd_w v) := hT.1.2.1
  have hA113 : A 113 = bs.length := hT.2.2.2.1
  have ht3 := hw.2.1
  refine az_M.of rfl (Nat.le_of_ble_eq_true rfl) ?_
  show az_W _ _ _ _ 0 [(0, .ref 64), (1, .long x)] [] _ _
  refine az_lload_n dX12_whyNight_0 ?_
  refine az_lconst (v := lN 0) dX12_whyNight_1 ?_
  refine az_aload_n dX12_whyNight_2 ?_
  refine az_getf (v := .ref 65) dX12_whyNight_3 fl_X12_13 h64 ?_
  refine az_iconst (v := nI 1) dX12_whyNight_6 ?_
  refine az_ialdN (j := 1) dX12_whyNight_7 h65 ?_
  rw [hA1]
  refine az_i2lN dX12_whyNight_8 ?_
  refine az_cS0 (st := []) dX12_whyNight_9 ml_X12_169 (m_withinJ (d := d - 1) (lo := 0) (hi := ln_tb (rd_w v)) (by omega) (by decide) ?_ ?_)
  · intro n hx hn0 hn
    subst hx
    refine az_if_neN (tgt := 17) dX12_whyNight_12 (fun c12 => ?_) (fun c12 => ?_)
    · skip
      refine az_aload_n dX12_whyNight_17 ?_
      refine az_lload_n dX12_whyNight_18 ?_
      refine az_lconst (v := lN 0) dX12_whyNight_19 ?_
      refine az_lcmp_neN (tgt := 31) dX12_whyNight_20 dX12_whyNight_21 (fun c20 => ?_) (fun c20 => ?_)
      · refine az_lload_n dX12_whyNight_31 ?_
        refine az_l2iN dX12_whyNight_32 ?_
        refine az_iconst (v := nI 1) dX12_whyNight_33 ?_
        refine az_isubN dX12_whyNight_34 (by omega) ?_
        first | (rw [show nI (n - 1) = ln_opt (mpk v (mo, ni, bs) n) from (by rw [mpk, if_neg (by omega)]; rfl)]; exact m_why35 hgd hb (by omega) h65 hT hn h64 (fun _ _ _ => rfl) hk mf.rf (fun h' sc' b1 b2 b3 b4 b5 => hQ n rfl hn h' sc' b1 b2 b3 b4 b5)) | (subst hn00; rw [← mpk_0]; exact m_why35 hgd hb (by omega) h65 hT hn a1 (fun j hj _ => hs1 j hj) mk1' mf1 (fun h' sc' b1 b2 b3 b4 b5 => hQ 0 rfl hn h' sc' b1 b2 b3 b4 b5))
      · have hn00 : n = 0 := (by omega)
        refine az_aload_n dX12_whyNight_24 ?_
        refine az_cV0 (st := [.ref 64]) dX12_whyNight_25 ml_X12_297 h64 (m_pickedNow (d := d - 1) (by omega) hgd hb h64 h65 hT hk ?_)
        intro h1 sc1 a1 hs1 mk1' mf1
        refine az_goto (tgt := 35) dX12_whyNight_28 ?_
        first | (rw [show nI (n - 1) = ln_opt (mpk v (mo, ni, bs) n) from (by rw [mpk, if_neg (by omega)]; rfl)]; exact m_why35 hgd hb (by omega) h65 hT hn h64 (fun _ _ _ => rfl) hk mf.rf (fun h' sc' b1 b2 b3 b4 b5 => hQ n rfl hn h' sc' b1 b2 b3 b4 b5)) | (subst hn00; rw [← mpk_0]; exact m_why35 hgd hb (by omega) h65 hT hn a1 (fun j hj _ => hs1 j hj) mk1' mf1 (fun h' sc' b1 b2 b3 b4 b5 => hQ 0 rfl hn h' sc' b1 b2 b3 b4 b5))
    · exact absurd c12 (by omega)
  · intro hx
    refine az_if_neN (tgt := 17) dX12_whyNight_12 (fun c12 => ?_) (fun c12 => ?_)
    · exact absurd c12 (by omega)
    · refine az_iconst (v := nI 1) dX12_whyNight_15 ?_
      exact az_iret dX12_whyNight_16 (hQ1 (fun n hn => hx n (Nat.zero_le _) hn))

