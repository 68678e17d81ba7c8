/-! Futures.tableToTry -/
def fu_lv (G : Nat → Nat) : Nat → Nat
  | 0 => 0
  | k + 1 => if G k < G (fu_lv G k) then k else fu_lv G k
theorem fu_lv_lt (G : Nat → Nat) (k : Nat) : fu_lv G k ≤ k - 1 := by
  induction k with
  | zero => exact Nat.le_refl _
  | succ k ih =>
    rw [fu_lv]
    split <;> omega
theorem fu_lv_1 (G : Nat → Nat) : fu_lv G 1 = 0 := by
  rw [fu_lv, fu_lv]; split <;> rfl
set_option maxHeartbeats 8000000 in
set_option maxRecDepth 100000 in
theorem s_tableToTry {d u a t kk kt r n mo ni rs : Nat} {x : Nat × List Int64} {w : ln_W} {bs : List Nat} {F : Nat → Prop} {hp : az_Hp} {Q : Option Value → az_Hp → Prop} (hd : 20 ≤ d) (hw : ln_ok w) (hb : ln_by w bs) (hF : ∀ q, F q → (q < u ∨ u + 10 ≤ q) ∧ q ≠ kk ∧ q ≠ kt ∧ q < hp.1) (hrd : fu_rd u kk kt r) (hT : ln_Tf hp t w F) (hS : ln_Scene hp a t w mo ni bs) (hua : u + 4 ≤ a ∨ a + 8 ≤ u) (hx1 : 1 ≤ x.2.length) (hx8 : x.2.length ≤ 8) (hR : ln_Tray hp r (some x)) (hU : fu_U hp u kk kt n) (hlt : u + 10 ≤ hp.1 ∧ kk < hp.1 ∧ kt < hp.1 ∧ r + 2 ≤ hp.1) (hr : (fu_lg w (fun j => x.2.getD j 0) x.2.length 0 (fun x => (ln_str w bs).count x)).length ≠ 0 → n < ta_sl ((fu_lg w (fun j => x.2.getD j 0) x.2.length 0 (fun x => (ln_str w bs).count x)).length * ln_tb w) → 2 * ta_sl ((fu_lg w (fun j => x.2.getD j 0) x.2.length 0 (fun x => (ln_str w bs).count x)).length * ln_tb w) ≤ rs) (hQ0 : (fu_lg w (fun j => x.2.getD j 0) x.2.length 0 (fun x => (ln_str w bs).count x)).length = 0 → ∀ h', fu_U h' u kk kt n → fu_o u kk kt hp h' → Q (some (.int (-1))) h') (hQ1 : (fu_lg w (fun j => x.2.getD j 0) x.2.length 0 (fun x => (ln_str w bs).count x)).length ≠ 0 → ∀ h' n' kk' kt', ta_cl hp ((fu_lg w (fun j => x.2.getD j 0) x.2.length 0 (fun x => (ln_str w bs).count x)).length * ln_tb w) n kk kt n' kk' kt' → fu_U h' u kk' kt' n' → (hp.1 ≤ h'.1 ∧ kk' < h'.1 ∧ kt' < h'.1) → (∀ q, q < hp.1 → (q < u ∨ u + 10 ≤ q) → q ≠ kk → q ≠ kt → h'.2 q = hp.2 q) → Q (some (.int (nI (fu_lv (fun tb => ta_mx tb (fu_ads w ((fu_lg w (fun j => x.2.getD j 0) x.2.length 0 (fun x => (ln_str w bs).count x)).map (fun r => fu_to w r (fun x => (ln_str w bs).count x))) [])) (ln_tb w))))) h') : az_M mX1_tableToTry d 2 rs [.ref u, .ref a, .ref r] hp Q := by
  obtain ⟨t0, tl, wn, wx, S, f, ro, s, wa, wb, L, h0, h1, h2, h3, hta, hpr, hwa, hwb, hk9⟩ := id hU
  obtain ⟨hk1, hk2⟩ := id hk9
  obtain ⟨hr1, hr2, hr3⟩ := id hrd
  obtain ⟨hl1, hl2, hl3, hl4⟩ := hlt
  have hp9 := hpr.b
  have htb := hw.2.1
  have htb1 := hw.1
  have hml := fu_lg_len hw (fun j => x.2.getD j 0) x.2.length 0 (fun x => (ln_str w bs).count x)
  have hp3 : 3 ^ x.2.length ≤ 3 ^ 8 := Nat.pow_le_pow_right (by decide) hx8
  have hp4 : 3 ^ 8 = 6561 := rfl
  obtain ⟨LG, hLG⟩ : ∃ LG, LG = (fu_lg w (fun j => x.2.getD j 0) x.2.length 0 (fun x => (ln_str w bs).count x)) := ⟨_, rfl⟩
  rw [← hLG] at hr hQ0 hQ1 hml
  obtain ⟨LF, hLF⟩ : ∃ LF, LF = fu_ads w (LG.map (fun r => fu_to w r (fun x => (ln_str w bs).count x))) [] := ⟨_, rfl⟩
  rw [← hLF] at hQ1
  obtain ⟨G, hG⟩ : ∃ G : Nat → Nat, G = fun tb => ta_mx tb LF := ⟨_, rfl⟩
  rw [← hG] at hQ1
  have hGb : ∀ tb, G tb ≤ 19683 := by
    intro tb
    rw [hG]
    refine Nat.le_trans (ta_mx_le tb LF) ?_
    rw [hLF, fu_ads_len, List.length_map]
    show 0 + _ ≤ _
    have := Nat.mul_le_mul htb (show LG.length ≤ 6561 by omega)
    omega
  have hGt : ∀ tb, ta_mx tb LF = G tb := fun tb => by rw [hG]
  have hen : LG.length * ln_tb w ≤ 19683 := by
    have := Nat.mul_le_mul (show LG.length ≤ 6561 by omega) htb
    omega
  obtain ⟨en, hen9⟩ : ∃ en, en = LG.length * ln_tb w := ⟨_, rfl⟩
  rw [← hen9] at hr hQ1 hen
  have loop : ∀ (k : Nat) (rc9 rs9 n' kk' kt' tb lv : Nat) (h' : az_Hp), ln_tb w - tb = k → (tb ≤ ln_tb w) → (1 ≤ tb) → (lv = fu_lv G tb) → (ta_In h' (u + 4) (ta_sl en) n' kk' kt' LF) → (h'.2 u = some (az_O 1 [.ref t, .ref (u + 1), .ref (u + 2), .ref (u + 3), .ref (u + 4), .int (nI 1), .ref wn, .ref wx])) → (ln_Town h' t w) → (Q (some (.int (nI (fu_lv G (ln_tb w))))) h') → az_W mX1_tableToTry d rc9 rs9 47 [(0, .ref u), (1, .ref a), (2, .ref r), (4, .int (nI lv)), (5, .int (nI tb))] [] h' Q := by
    intro k
    induction k using Nat.strongRecOn with
    | _ k ih =>
    intro rc9 rs9 n' kk' kt' tb lv h' hk htl ht1 hlv ht9 e0 hT' hK
    obtain ⟨a4', a5', hT0', -⟩ := id hT'
    obtain ⟨-, -, kss, tis, y0, -⟩ := id ht9
    have hlt9 := fu_lv_lt G tb
    refine az_iload dX1_tableToTry_47 ?_
    refine az_aload_n dX1_tableToTry_49 ?_
    refine az_getf (v := .ref t) dX1_tableToTry_50 fl_X1_35 e0 ?_
    refine az_getf (v := .int (nI (ln_tb w))) dX1_tableToTry_53 fl_X1_83 hT0' ?_
    refine az_icmp_geN (tgt := 90) dX1_tableToTry_56 (fun c56 => ?_) (fun c56 => ?_)
    · refine az_iload dX1_tableToTry_90 ?_
      exact az_iret dX1_tableToTry_92 (by rw [show tb = ln_tb w by omega] at hlv; rw [hlv]; exact hK)
    · refine az_aload_n dX1_tableToTry_59 ?_
      refine az_getf (v := .ref (u + 4)) dX1_tableToTry_60 fl_X1_25 e0 ?_
      refine az_iload dX1_tableToTry_63 ?_
      refine az_cV0 (st := []) dX1_tableToTry_65 ml_X1_131 y0 (s_greatest (d := d - 1) ht9 (tb := tb) (by omega) ?_)
      rw [hGt]
      refine az_aload_n dX1_tableToTry_68 ?_
      refine az_getf (v := .ref (u + 4)) dX1_tableToTry_69 fl_X1_25 e0 ?_
      refine az_iload dX1_tableToTry_72 ?_
      refine az_cV0 (st := [.int (nI (G tb))]) dX1_tableToTry_74 ml_X1_131 y0 (s_greatest (d := d - 1) ht9 (tb := lv) (by omega) ?_)
      rw [hGt]
      have m1 := hGb tb
      have m2 := hGb lv
      refine az_icmp_geN (tgt := 84) dX1_tableToTry_77 (fun c77 => ?_) (fun c77 => ?_)
      · refine az_iincN (n := 1) (ls' := [(0, .ref u), (1, .ref a), (2, .ref r), (4, .int (nI lv)), (5, .int (nI (tb + 1)))]) dX1_tableToTry_84 ?_
        refine az_goto (tgt := 47) dX1_tableToTry_87 ?_
        exact ih _ (by omega) rc9 rs9 n' kk' kt' (tb + 1) _ h' rfl (by omega) (by omega) (by rw [fu_lv, ← hlv]; first | rw [if_pos (by omega)] | rw [if_neg (by omega)]) ht9 e0 hT' hK
      · refine az_iload dX1_tableToTry_80 ?_
        refine az_istore (ls' := [(0, .ref u), (1, .ref a), (2, .ref r), (4, .int (nI tb)), (5, .int (nI tb))]) dX1_tableToTry_82 ?_
        refine az_iincN (n := 1) (ls' := [(0, .ref u), (1, .ref a), (2, .ref r), (4, .int (nI tb)), (5, .int (nI (tb + 1)))]) dX1_tableToTry_84 ?_
        refine az_goto (tgt := 47) dX1_tableToTry_87 ?_
        exact ih _ (by omega) rc9 rs9 n' kk' kt' (tb + 1) _ h' rfl (by omega) (by omega) (by rw [fu_lv, ← hlv]; first | rw [if_pos (by omega)] | rw [if_neg (by omega)]) ht9 e0 hT' hK
  refine az_M.of rfl (Nat.le_of_ble_eq_true rfl) ?_
  show az_W _ _ _ _ 0 [(0, .ref u), (1, .ref a), (2, .ref r)] [] _ _
  refine az_aload_n dX1_tableToTry_0 ?_
  refine az_aload_n dX1_tableToTry_1 ?_
  refine az_aload_n dX1_tableToTry_2 ?_
  refine az_cV0 (st := []) dX1_tableToTry_3 ml_X1_126 h0 (s_rowsOfLong (d := d - 1) (by omega) hw hb hk9 hrd (hT.fu (fun q hq => ⟨(hF q hq).1, (hF q hq).2.1, (hF q hq).2.2.1⟩)) hS hua hx1 hx8 hR h0 h1 h3 hta ?_)
  intro h1' f1 s1 e0 e1 hc1 e3 hs1 hta1 fr1
  rw [← hLG]
  have hfo : ∀ q, (q < u ∨ u + 10 ≤ q) → q ≠ kk → q ≠ kt → h1'.2 q = hp.2 q := (fun q b1 b2 b3 => (fr1.at (az_up_ne rfl)))
  have hT1 : ln_Tf h1' t w F := hT.eqv (fun q hq => hfo q (hF q hq).1 (hF q hq).2.1 (hF q hq).2.2.1) (fun _ q => q)
  obtain ⟨a4, a5, hT0, -⟩ := id hT1
  obtain ⟨-, -, kss, tis, y0, -⟩ := id hta1
  refine az_istore_n (ls' := [(0, .ref u), (1, .ref a), (2, .ref r), (3, .int (nI LG.length))]) dX1_tableToTry_6 ?_
  refine az_iload_n dX1_tableToTry_7 ?_
  refine az_if_neN (tgt := 13) dX1_tableToTry_8 (fun c8 => ?_) (fun c8 => ?_) (by omega)
  · refine az_aload_n dX1_tableToTry_13 ?_
    refine az_getf (v := .ref (u + 4)) dX1_tableToTry_14 fl_X1_25 e0 ?_
    refine az_iload_n dX1_tableToTry_17 ?_
    refine az_aload_n dX1_tableToTry_18 ?_
    refine az_getf (v := .ref t) dX1_tableToTry_19 fl_X1_35 e0 ?_
    refine az_getf (v := .int (nI (ln_tb w))) dX1_tableToTry_22 fl_X1_83 hT0 ?_
    refine az_imulN dX1_tableToTry_25 ?_
    rw [← hen9]
    have hh1 : h1'.1 = hp.1 := fr1.1
    refine az_cV (st := []) dX1_tableToTry_26 ml_X1_130 y0 (s_clearT (d := d - 1) (rs := rs) (by omega) hta1 hen (by rw [hh1]; omega) (hr c8) ?_)
    intro h2' n' kk' kt' hcl hta2 hup2 hkp2
    rw [hh1] at hup2 hkp2
    have hcl' : ta_cl hp en n kk kt n' kk' kt' := (by unfold ta_cl at *; rw [hh1] at hcl; exact hcl)
    have hkx : fu_k u kk' kt' := (by unfold ta_cl at hcl'; unfold fu_k; omega)
    have hrx : fu_rd u kk' kt' r := (by unfold ta_cl at hcl'; unfold fu_rd; omega)
    have e02 : h2'.2 u = some (az_O 1 [.ref t, .ref (u + 1), .ref (u + 2), .ref (u + 3), .ref (u + 4), .int (nI 0), .ref wn, .ref wx]) := (hkp2 u (by omega) (by omega) (by omega) (by omega)).trans e0
    have e12 : h2'.2 (u + 1) = some (az_J 54 f1) := (hkp2 (u + 1) (by omega) (by omega) (by omega) (by omega)).trans e1
    have e32 : h2'.2 (u + 3) = some (az_I 8 s1) := (hkp2 (u + 3) (by omega) (by omega) (by omega) (by omega)).trans e3
    refine az_aload_n dX1_tableToTry_29 ?_
    refine az_iconst (v := nI 1) dX1_tableToTry_30 ?_
    refine az_putf (fs' := [.ref t, .ref (u + 1), .ref (u + 2), .ref (u + 3), .ref (u + 4), .int (nI 1), .ref wn, .ref wx]) dX1_tableToTry_31 fl_X1_98 e02 ?_
    refine az_aload_n dX1_tableToTry_34 ?_
    refine az_aload_n dX1_tableToTry_35 ?_
    refine az_iconst (v := nI 0) dX1_tableToTry_36 ?_
    obtain ⟨hkx1, hkx2⟩ := id hkx
    obtain ⟨hrx1, hrx2, hrx3⟩ := id hrx
    have hfo2 : ∀ q, q < hp.1 → (q < u ∨ u + 10 ≤ q) → q ≠ kk → q ≠ kt → (az_up h2' u (az_O 1 [.ref t, .ref (u + 1), .ref (u + 2), .ref (u + 3), .ref (u + 4), .int (nI 1), .ref wn, .ref wx])).2 q = hp.2 q := (fun q b0 b1 b2 b3 => (by rw [az_up_ne rfl, hkp2 q (by omega) (by omega) (by omega) (by omega)]; exact hfo q b1 b2 b3))
    have hT2 : ln_Tf (az_up h2' u (az_O 1 [.ref t, .ref (u + 1), .ref (u + 2), .ref (u + 3), .ref (u + 4), .int (nI 1), .ref wn, .ref wx])) t w F := hT.eqv (fun q hq => hfo2 q (hF q hq).2.2.2 (hF q hq).1 (hF q hq).2.1 (hF q hq).2.2.1) (fun _ q => q)
    have hFx : ∀ q, F q → (q < u ∨ u + 10 ≤ q) ∧ q ≠ kk' ∧ q ≠ kt' := (fun q hq => (by have := hF q hq; unfold ta_cl at hcl'; omega))
    have hta3 : ta_In (az_up h2' u (az_O 1 [.ref t, .ref (u + 1), .ref (u + 2), .ref (u + 3), .ref (u + 4), .int (nI 1), .ref wn, .ref wx])) (u + 4) (ta_sl en) n' kk' kt' [] := hta2.eqv (az_up_ne rfl) (az_up_ne rfl) (az_up_ne rfl) (az_up_ne rfl)
    refine az_cV0 (st := []) dX1_tableToTry_37 ml_X1_105 az_up_eq (s_longFrom hw (tv := 1) (wa := fun j => x.2.getD j 0) (fun _ => rfl) (by omega) hkx hrx hx8 x.2.length (d := d - 1) (by omega) hx1 (dp := 0) (by omega) (hT2.fu hFx) (hR.eqv (hfo2 _ (by omega) (by omega) (by omega) (by omega)) (hfo2 _ (by omega) (by omega) (by omega) (by omega))) az_up_eq (az_up_ne e12) (az_up_ne e32) (sb := fun j => fu_or j LG) (by rw [hLG]; exact hs1) hta3 (fun q => (by rw [← hLG]; show 0 + _ ≤ _; rw [Nat.zero_add, Nat.mul_comm, ← hen9]; exact (ta_sl_ok hen).2.2.1)) (c := (fun x => (ln_str w bs).count x)) hc1 (str_cap10 hw hb (by omega)) ?_)
    intro h3' f3 s3 e13 ho3 e33 hs3 hta4 fr3
    rw [← hLG]
    refine az_pop dX1_tableToTry_40 ?_
    refine az_iconst (v := nI 0) dX1_tableToTry_41 ?_
    refine az_istore (ls' := [(0, .ref u), (1, .ref a), (2, .ref r), (3, .int (nI LG.length)), (4, .int (nI 0))]) dX1_tableToTry_42 ?_
    refine az_iconst (v := nI 1) dX1_tableToTry_44 ?_
    refine az_istore (ls' := [(0, .ref u), (1, .ref a), (2, .ref r), (3, .int (nI LG.length)), (4, .int (nI 0)), (5, .int (nI 1))]) dX1_tableToTry_45 ?_
    refine az_W.keep (ls' := [(0, .ref u), (1, .ref a), (2, .ref r), (4, .int (nI 0)), (5, .int (nI 1))]) [0, 1, 2, 4, 5] rfl ?_
    have ht9 : ta_In h3' (u + 4) (ta_sl en) n' kk' kt' LF := (by rw [if_neg (by omega), ← hLG, ← hLF] at hta4; exact hta4)
    have e0' : h3'.2 u = some (az_O 1 [.ref t, .ref (u + 1), .ref (u + 2), .ref (u + 3), .ref (u + 4), .int (nI 1), .ref wn, .ref wx]) := fr3.at az_up_eq
    have hg1 : ∀ q x, q < hp.1 → q ≠ u + 1 → q ≠ u + 3 → q ≠ u + 4 → q ≠ u + 4 + 3 → q ≠ u → q ≠ kk → q ≠ kt → hp.2 q = x → h3'.2 q = x := (fun q x b0 b1 b2 b3 b4 b5 b6 b7 hx => (fr3.at (az_up_ne ((hkp2 q b0 b3 b4 b7).trans (fr1.at (az_up_ne hx)))) b1 b2 b4 (by unfold ta_cl at hcl'; omega) (by unfold ta_cl at hcl'; omega)))
    exact loop _ _ _ n' kk' kt' 1 0 h3' rfl (by omega) (Nat.le_refl _) (fu_lv_1 G).symm ht9 e0' ((hT2.fu hFx).fr fr3).to.town (hQ1 c8 h3' n' kk' kt' hcl' ⟨_, _, wn, wx, ta_sl en, f3, ro, s3, wa, wb, LF, e0', e13, hg1 _ _ (by omega) (by omega) (by omega) (by omega) (by omega) (by omega) (by omega) (by omega) h2, e33, ht9, hpr, hg1 _ _ (by omega) (by omega) (by omega) (by omega) (by omega) (by omega) (by omega) (by omega) hwa, hg1 _ _ (by omega) (by omega) (by omega) (by omega) (by omega) (by omega) (by omega) (by omega) hwb, hkx⟩ (by rw [show h3'.1 = h2'.1 from fr3.1]; exact hup2) (fun q b0 b1 b2 b3 => hg1 q _ b0 (by omega) (by omega) (by omega) (by omega) (by omega) b2 b3 rfl))
  · refine az_iconst (v := (-1)) dX1_tableToTry_11 ?_
    exact az_iret dX1_tableToTry_12 (hQ0 c8 h1' ⟨_, _, wn, wx, S, f1, ro, s1, wa, wb, L, e0, e1, fr1.at (az_up_ne h2), e3, hta1, hpr, fr1.at (az_up_ne hwa), fr1.at (az_up_ne hwb), hk9⟩ ⟨fr1.1, hfo⟩)
