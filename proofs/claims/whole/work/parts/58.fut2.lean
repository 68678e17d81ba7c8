/-! Futures: the soonest row -/
set_option maxRecDepth 100000 in
theorem s_passNight {d u t wn wx dp tb : Nat} {w : ln_W} {tl : Value} {c : Nat → Nat} {f : Nat → Int64} {hp : az_Hp} {Q : Option Value → az_Hp → Prop} (hd : 3 ≤ d) (hw : ln_ok w) (hT : ln_To hp t w u (u + 4)) (h0 : hp.2 u = some (az_O 1 [.ref t, .ref (u + 1), .ref (u + 2), .ref (u + 3), .ref (u + 4), tl, .ref wn, .ref wx])) (h1 : hp.2 (u + 1) = some (az_J 54 f)) (hdp : dp ≤ 7) (h3 : tb < 3) (hc : ∀ x, x < 6 → f (dp * 6 + x) = lN (c x)) (hcb : ∀ x, x < 6 → c x < 2 ^ 63) (hQ : ∀ g, (∀ j, j < dp * 6 + 6 → g j = f j) → (∀ x, x < 6 → g (dp * 6 + 6 + x) = lN (fu_n w tb c x)) → Q none (az_up hp (u + 1) (az_J 54 g))) : az_M mX1_passNight d 0 0 [.ref u, .int (nI dp), .int (nI tb)] hp Q := by
  refine az_M.of rfl (Nat.le_of_ble_eq_true rfl) ?_
  show az_W _ _ _ _ 0 [(0, .ref u), (1, .int (nI dp)), (2, .int (nI tb))] [] _ _
  refine az_aload_n dX1_passNight_0 ?_
  refine az_iload_n dX1_passNight_1 ?_
  refine az_iconst (v := nI 1) dX1_passNight_2 ?_
  refine az_iaddN dX1_passNight_3 ?_
  refine az_cV0 (st := []) dX1_passNight_4 ml_X1_63 h0 (s_clearF (d := d - 1) (by omega) h0 h1 (dp := dp + 1) (by omega) ?_)
  intro g q1 q2
  refine az_aload_n dX1_passNight_7 ?_
  refine az_iload_n dX1_passNight_8 ?_
  refine az_iload_n dX1_passNight_9 ?_
  refine az_cV0 (st := []) dX1_passNight_10 ml_X1_67 (az_up_ne h0) (s_addNight (d := d - 1) hw (hT.fr az_fr.rf.up) (az_up_ne h0) az_up_eq hdp h3 (c := c) (fun x q => (by rw [q1 _ (by omega)]; exact hc x q)) hcb (e := fun _ => 0) (fun x q => q2 _ (by omega) (by omega)) ?_)
  intro g2 q3 q4
  rw [az_up_up]
  exact az_vret dX1_passNight_13 (hQ g2 (fun j q => (by rw [q3 j q, q1 j (by omega)])) (fun x q => (by rw [q4 x q, Nat.zero_add])))
def fu_f1 (F : Nat → Option (List Nat)) : Nat → Nat → Option (List Nat)
  | _, 0 => none
  | tb, j + 1 => match F tb with
    | some l => some (tb :: l)
    | none => fu_f1 F (tb + 1) j
/-- the first row of k tables by which it is just so long -/
def fu_find (w : ln_W) (n : Nat) : Nat → (Nat → Nat) → Option (List Nat)
  | 0, c => if fu_l c = n then some [] else none
  | k + 1, c => fu_f1 (fun tb => fu_find w n k (fu_n w tb c)) 0 (ln_tb w)
theorem fu_f1_some {F : Nat → Option (List Nat)} {tb j : Nat} {l : List Nat} (h : F tb = some l) (hj : 0 < j) : fu_f1 F tb j = some (tb :: l) := by
  obtain ⟨m, rfl⟩ : ∃ m, j = m + 1 := ⟨j - 1, by omega⟩
  rw [fu_f1, h]
theorem fu_f1_none {F : Nat → Option (List Nat)} {tb j : Nat} (h : F tb = none) (hj : 0 < j) : fu_f1 F tb j = fu_f1 F (tb + 1) (j - 1) := by
  obtain ⟨m, rfl⟩ : ∃ m, j = m + 1 := ⟨j - 1, by omega⟩
  rw [fu_f1, h]
  rfl
theorem fu_n_l {w : ln_W} (hw : ln_ok w) {tb k : Nat} {c : Nat → Nat} (h : fu_l c * 4 ^ (k + 1) < 2 ^ 62) : fu_l (fu_n w tb c) * 4 ^ k < 2 ^ 62 := by
  have h1 := fu_b_le hw tb c
  rw [← fu_b_is hw] at h1
  have h2 := Nat.mul_le_mul_right (4 ^ k) h1
  rw [Nat.pow_succ] at h
  have h3 : fu_l c * (4 ^ k * 4) = 4 * fu_l c * 4 ^ k := by rw [Nat.mul_comm (4 ^ k) 4, ← Nat.mul_assoc, Nat.mul_comm (fu_l c) 4]
  omega
theorem fu_l_lt {k B : Nat} {c : Nat → Nat} (h : fu_l c * 4 ^ k < B) : fu_l c < B := by
  have : 1 ≤ 4 ^ k := Nat.le_trans Nat.one_le_two_pow (Nat.pow_le_pow_left (by decide) k)
  have := Nat.mul_le_mul_left (fu_l c) this
  omega
theorem fu_c_lt {c : Nat → Nat} {B : Nat} (h : fu_l c < B) : ∀ x, x < 6 → c x < B := fun x q => Nat.lt_of_le_of_lt (sm_ge q) h
set_option maxRecDepth 100000 in
theorem s_findRow0 {d u t wn wx dp n : Nat} {w : ln_W} {tl : Value} {c : Nat → Nat} {f : Nat → Int64} {r : Nat → Int32} {hp : az_Hp} {Q : Option Value → az_Hp → Prop} (hd : 1 ≤ d) (h0 : hp.2 u = some (az_O 1 [.ref t, .ref (u + 1), .ref (u + 2), .ref (u + 3), .ref (u + 4), tl, .ref wn, .ref wx])) (h1 : hp.2 (u + 1) = some (az_J 54 f)) (h2 : hp.2 (u + 2) = some (az_I 8 r)) (hdp : dp ≤ 7) (hc : ∀ x, x < 6 → f (dp * 6 + x) = lN (c x)) (hb : fu_l c < 2 ^ 62) (hn : n < 2 ^ 63) (hQ : Q (some (.int (nI (if (fu_find w n 0 c).isSome then 1 else 0)))) hp) : az_M mX1_findRow d 0 0 [.ref u, .long (lN n), .int (nI dp), .int (nI dp)] hp Q := by
  refine az_M.of rfl (Nat.le_of_ble_eq_true rfl) ?_
  show az_W _ _ _ _ 0 [(0, .ref u), (1, .long (lN n)), (3, .int (nI dp)), (4, .int (nI dp))] [] _ _
  refine az_iload dX1_findRow_0 ?_
  refine az_iload_n dX1_findRow_2 ?_
  refine az_icmp_geN (tgt := 13) dX1_findRow_3 (fun c3 => ?_) (fun c3 => ?_)
  · refine az_aload_n dX1_findRow_13 ?_
    refine az_iload dX1_findRow_14 ?_
    refine az_cV0 (st := []) dX1_findRow_16 ml_X1_79 h0 (s_spanAt (d := d - 1) h0 h1 (by omega) hc ?_)
    refine az_lload_n dX1_findRow_19 ?_
    refine az_lcmp_neN (tgt := 28) dX1_findRow_20 dX1_findRow_21 (fun c20 => ?_) (fun c20 => ?_)
    · refine az_iconst (v := nI 0) dX1_findRow_28 ?_
      exact az_iret dX1_findRow_29 (by first | (rw [fu_find, if_pos c20] at hQ; exact hQ) | (rw [fu_find, if_neg c20] at hQ; exact hQ))
    · refine az_iconst (v := nI 1) dX1_findRow_24 ?_
      refine az_goto (tgt := 29) dX1_findRow_25 ?_
      exact az_iret dX1_findRow_29 (by first | (rw [fu_find, if_pos c20] at hQ; exact hQ) | (rw [fu_find, if_neg c20] at hQ; exact hQ))
  · exact absurd (Nat.le_refl dp) (by omega)

set_option maxHeartbeats 4000000 in
set_option maxRecDepth 100000 in
theorem s_findRow {w : ln_W} (hw : ln_ok w) {u t wn wx n : Nat} {tl : Value} (hn : n < 2 ^ 63) : ∀ (kn : Nat) {d dp : Nat} {c : Nat → Nat} {f : Nat → Int64} {r : Nat → Int32} {hp : az_Hp} {Q : Option Value → az_Hp → Prop} (hd : kn + 4 ≤ d) (hT : ln_To hp t w u (u + 4)) (h0 : hp.2 u = some (az_O 1 [.ref t, .ref (u + 1), .ref (u + 2), .ref (u + 3), .ref (u + 4), tl, .ref wn, .ref wx])) (h1 : hp.2 (u + 1) = some (az_J 54 f)) (h2 : hp.2 (u + 2) = some (az_I 8 r)) (hdp : dp + kn ≤ 7) (hc : ∀ x, x < 6 → f (dp * 6 + x) = lN (c x)) (hb : fu_l c * 4 ^ kn < 2 ^ 62) (hQ : ∀ (h' : az_Hp) (f' : Nat → Int64) (r' : Nat → Int32), h'.2 (u + 1) = some (az_J 54 f') → (∀ j, j < dp * 6 + 6 → f' j = f j) → h'.2 (u + 2) = some (az_I 8 r') → (∀ j, j < dp → r' j = r j) → (∀ l, fu_find w n kn c = some l → ∀ i, i < l.length → r' (dp + i) = nI (l.getD i 0)) → az_fr hp h' (u + 1) (u + 3) → Q (some (.int (nI (if (fu_find w n kn c).isSome then 1 else 0)))) h'), az_M mX1_findRow d 0 0 [.ref u, .long (lN n), .int (nI (dp + kn)), .int (nI dp)] hp Q := by
  intro kn
  induction kn with
  | zero =>
    intro d dp c f r hp Q hd hT h0 h1 h2 hdp hc hb hQ
    refine s_findRow0 (w := w) (by omega) h0 h1 h2 hdp hc (fu_l_lt hb) hn (hQ hp f r h1 (fun j _ => rfl) h2 (fun j _ => rfl) (fun l hl i hi => ?_) az_fr.rf)
    rw [fu_find] at hl
    split at hl
    · rw [← Option.some.inj hl] at hi; exact absurd hi (Nat.not_lt_zero _)
    · exact absurd hl (by simp)
  | succ kn IH =>
  intro d dp c f r hp Q hd hT h0 h1 h2 hdp hc hb hQ
  have htb := hw.2.1
  have hbk := fun tb => fu_n_l hw (tb := tb) hb
  have hcb := fu_c_lt (fu_l_lt hb)
  have loop : ∀ (k : Nat) (tb : Nat) (f' : Nat → Int64) (r' : Nat → Int32) (h' : az_Hp), ln_tb w - tb = k → (tb ≤ ln_tb w) → (fu_find w n (kn + 1) c = fu_f1 (fun tb => fu_find w n kn (fu_n w tb c)) tb (ln_tb w - tb)) → (h'.2 (u + 1) = some (az_J 54 f')) → (∀ j, j < dp * 6 + 6 → f' j = f j) → (h'.2 (u + 2) = some (az_I 8 r')) → (∀ j, j < dp → r' j = r j) → (az_fr hp h' (u + 1) (u + 3)) → az_W mX1_findRow d 0 0 33 [(0, .ref u), (1, .long (lN n)), (3, .int (nI (dp + (kn + 1)))), (4, .int (nI dp)), (5, .int (nI tb))] [] h' Q := by
    intro k
    induction k using Nat.strongRecOn with
    | _ k ih =>
    intro tb f' r' h' hk htl hgo e1 ho e2 hr hfr
    have hT' : ln_To h' t w u (u + 4) := hT.fr (hfr.wide (lo' := u) (hi' := u + 4))
    obtain ⟨a4', a5', hT0', -⟩ := id hT'
    refine az_iload dX1_findRow_33 ?_
    refine az_aload_n dX1_findRow_35 ?_
    refine az_getf (v := .ref t) dX1_findRow_36 fl_X1_35 (hfr.at h0) ?_
    refine az_getf (v := .int (nI (ln_tb w))) dX1_findRow_39 fl_X1_83 hT0' ?_
    refine az_icmp_geN (tgt := 106) dX1_findRow_42 (fun c42 => ?_) (fun c42 => ?_)
    · refine az_iconst (v := nI 0) dX1_findRow_106 ?_
      exact az_iret dX1_findRow_107 (by rw [show ln_tb w - tb = 0 by omega, fu_f1] at hgo; have h9 := hQ _ _ _ e1 ho e2 hr (fun l hl => absurd hl (by rw [hgo]; exact fun q => nomatch q)) hfr; rw [hgo] at h9; exact h9)
    · refine az_aload_n dX1_findRow_45 ?_
      refine az_getf (v := .ref (u + 2)) dX1_findRow_46 fl_X1_15 (hfr.at h0) ?_
      refine az_iload dX1_findRow_49 ?_
      refine az_iload dX1_findRow_51 ?_
      refine az_iastN (j := dp) dX1_findRow_53 e2 ?_
      refine az_iload dX1_findRow_54 ?_
      refine az_iload_n dX1_findRow_56 ?_
      refine az_iconst (v := nI 1) dX1_findRow_57 ?_
      refine az_isubN dX1_findRow_58 (by omega) ?_
      refine az_icmp_neN (tgt := 77) dX1_findRow_59 (fun c59 => ?_) (fun c59 => ?_)
      · refine az_aload_n dX1_findRow_77 ?_
        refine az_iload dX1_findRow_78 ?_
        refine az_iload dX1_findRow_80 ?_
        refine az_cV0 (st := []) dX1_findRow_82 ml_X1_91 (az_up_ne (hfr.at h0)) (s_passNight (d := d - 1) (by omega) hw (hT'.fr az_fr.rf.up) (az_up_ne (hfr.at h0)) (az_up_ne e1) (dp := dp) (by omega) (tb := tb) (by omega) (c := c) (fun x q => (by rw [ho _ (by omega)]; exact hc x q)) (fun x q => Nat.lt_of_lt_of_le (hcb x q) (by decide)) ?_)
        intro g q1 q2
        refine az_aload_n dX1_findRow_85 ?_
        refine az_lload_n dX1_findRow_86 ?_
        refine az_iload_n dX1_findRow_87 ?_
        refine az_iload dX1_findRow_88 ?_
        refine az_iconst (v := nI 1) dX1_findRow_90 ?_
        refine az_iaddN dX1_findRow_91 ?_
        rw [show dp + (kn + 1) = dp + 1 + kn by omega]
        refine az_cV0 (st := []) dX1_findRow_92 ml_X1_75 (az_up_ne (az_up_ne (hfr.at h0))) (IH (d := d - 1) (by omega) ((hT'.fr az_fr.rf.up).fr az_fr.rf.up) (az_up_ne (az_up_ne (hfr.at h0))) az_up_eq (az_up_ne az_up_eq) (dp := dp + 1) (by omega) (c := fu_n w tb c) (fun x q => (by rw [show (dp + 1) * 6 + x = dp * 6 + 6 + x by omega]; exact q2 x q)) (hbk tb) ?_)
        intro h2' f2 r2 e12 ho2 e22 hr2 hl2 fr2
        rw [show dp + 1 + kn = dp + (kn + 1) by omega]
        have hfi : (if (fu_find w n kn (fu_n w tb c)).isSome then 1 else 0) < 2 := by split <;> omega
        refine az_if_eqN (tgt := 100) dX1_findRow_95 (fun c95 => ?_) (fun c95 => ?_)
        · refine az_iincN (n := 1) (ls' := [(0, .ref u), (1, .long (lN n)), (3, .int (nI (dp + (kn + 1)))), (4, .int (nI dp)), (5, .int (nI (tb + 1)))]) dX1_findRow_100 ?_
          refine az_goto (tgt := 33) dX1_findRow_103 ?_
          first | (have hk0 : kn = 0 := (by omega); have hF : (fun tb => fu_find w n kn (fu_n w tb c)) tb = none := (by show fu_find w n kn _ = _; rw [hk0, fu_find, if_neg (by rw [fu_b_is hw]; exact c71)]); exact ih _ (by omega) (tb + 1) f' (az_s r' dp (nI tb)) _ rfl (by omega) (by rw [hgo, fu_f1_none hF (by omega), show ln_tb w - tb - 1 = ln_tb w - (tb + 1) by omega]) e12 ho e22 (fun j q => (by rw [az_s_ne (by omega)]; exact hr j q)) hfr.up) | (have hF : (fun tb => fu_find w n kn (fu_n w tb c)) tb = none := (by cases h : (fu_find w n kn (fu_n w tb c)) with | none => exact h | some l => (rw [h] at c95; exact absurd (show (1 : Nat) = 0 from c95) (by decide))); exact ih _ (by omega) (tb + 1) f2 r2 h2' rfl (by omega) (by rw [hgo, fu_f1_none hF (by omega), show ln_tb w - tb - 1 = ln_tb w - (tb + 1) by omega]) e12 (fun j q => (by rw [ho2 j (by omega), q1 j q]; exact ho j q)) e22 (fun j q => (by rw [hr2 j (by omega), az_s_ne (by omega)]; exact hr j q)) ((hfr.up.up).tr fr2))
        · refine az_iconst (v := nI 1) dX1_findRow_98 ?_
          exact az_iret dX1_findRow_99 (by obtain ⟨l9, hl9⟩ : ∃ l, (fu_find w n kn (fu_n w tb c)) = some l := (by cases h : (fu_find w n kn (fu_n w tb c)) with | some l => exact ⟨l, rfl⟩ | none => (rw [h] at c95; exact absurd rfl c95)); have hF : (fun tb => fu_find w n kn (fu_n w tb c)) tb = some l9 := hl9; rw [fu_f1_some hF (by omega)] at hgo; have h9 := hQ _ _ _ e12 (fun j q => (by rw [ho2 j (by omega), q1 j q]; exact ho j q)) e22 (fun j q => (by rw [hr2 j (by omega), az_s_ne (by omega)]; exact hr j q)) (fun l hl i hi => (by rw [hgo] at hl; rw [← Option.some.inj hl] at hi ⊢; cases i with | zero => (show r2 dp = nI tb; rw [hr2 dp (by omega)]; exact az_s_eq) | succ i => (rw [show dp + (i + 1) = dp + 1 + i by omega, hl2 l9 hl9 i (by simp at hi; omega)]; rfl))) ((hfr.up.up).tr fr2); rw [hgo] at h9; exact h9)
      · refine az_aload_n dX1_findRow_62 ?_
        refine az_iload dX1_findRow_63 ?_
        refine az_iload dX1_findRow_65 ?_
        refine az_cV0 (st := []) dX1_findRow_67 ml_X1_87 (az_up_ne (hfr.at h0)) (s_spanByF (d := d - 1) hw (hT'.fr az_fr.rf.up).town (az_up_ne (hfr.at h0)) (az_up_ne e1) (dp := dp) (by omega) (tb := tb) (by omega) (c := c) (fun x q => (by rw [ho _ (by omega)]; exact hc x q)) ?_)
        have hbs := fu_l_lt (hbk tb)
        rw [fu_b_is hw] at hbs
        refine az_lload_n dX1_findRow_70 ?_
        refine az_lcmp_neN (tgt := 100) dX1_findRow_71 dX1_findRow_72 (fun c71 => ?_) (fun c71 => ?_)
        · refine az_iincN (n := 1) (ls' := [(0, .ref u), (1, .long (lN n)), (3, .int (nI (dp + (kn + 1)))), (4, .int (nI dp)), (5, .int (nI (tb + 1)))]) dX1_findRow_100 ?_
          refine az_goto (tgt := 33) dX1_findRow_103 ?_
          first | (have hk0 : kn = 0 := (by omega); have hF : (fun tb => fu_find w n kn (fu_n w tb c)) tb = none := (by show fu_find w n kn _ = _; rw [hk0, fu_find, if_neg (by rw [fu_b_is hw]; exact c71)]); exact ih _ (by omega) (tb + 1) f' (az_s r' dp (nI tb)) _ rfl (by omega) (by rw [hgo, fu_f1_none hF (by omega), show ln_tb w - tb - 1 = ln_tb w - (tb + 1) by omega]) (az_up_ne e1) ho az_up_eq (fun j q => (by rw [az_s_ne (by omega)]; exact hr j q)) hfr.up) | (have hF : (fun tb => fu_find w n kn (fu_n w tb c)) tb = none := (by cases h : (fu_find w n kn (fu_n w tb c)) with | none => exact h | some l => (rw [h] at c95; exact absurd (show (1 : Nat) = 0 from c95) (by decide))); exact ih _ (by omega) (tb + 1) f2 r2 h2' rfl (by omega) (by rw [hgo, fu_f1_none hF (by omega), show ln_tb w - tb - 1 = ln_tb w - (tb + 1) by omega]) e12 (fun j q => (by rw [ho2 j (by omega), q1 j q]; exact ho j q)) e22 (fun j q => (by rw [hr2 j (by omega), az_s_ne (by omega)]; exact hr j q)) ((hfr.up.up).tr fr2))
        · refine az_iconst (v := nI 1) dX1_findRow_75 ?_
          exact az_iret dX1_findRow_76 (by have hk0 : kn = 0 := (by omega); have hF : (fun tb => fu_find w n kn (fu_n w tb c)) tb = some [] := (by show fu_find w n kn _ = _; rw [hk0, fu_find, if_pos (by rw [fu_b_is hw]; exact c71)]); rw [fu_f1_some hF (by omega)] at hgo; have h9 := hQ _ f' (az_s r' dp (nI tb)) (az_up_ne e1) ho az_up_eq (fun j q => (by rw [az_s_ne (by omega)]; exact hr j q)) (fun l hl i hi => (by rw [hgo] at hl; rw [← Option.some.inj hl] at hi ⊢; rw [show i = 0 by simp at hi; omega]; show az_s r' dp (nI tb) dp = nI tb; exact az_s_eq)) (hfr.up); rw [hgo] at h9; exact h9)
  refine az_M.of rfl (Nat.le_of_ble_eq_true rfl) ?_
  show az_W _ _ _ _ 0 [(0, .ref u), (1, .long (lN n)), (3, .int (nI (dp + (kn + 1)))), (4, .int (nI dp))] [] _ _
  refine az_iload dX1_findRow_0 ?_
  refine az_iload_n dX1_findRow_2 ?_
  refine az_icmp_geN (tgt := 13) dX1_findRow_3 (fun c3 => ?_) (fun c3 => ?_)
  · exact absurd c3 (by omega)
  · refine az_iload dX1_findRow_6 ?_
    refine az_bipush (v := nI 8) dX1_findRow_8 ?_
    refine az_icmp_ltN (tgt := 30) dX1_findRow_10 (fun c10 => ?_) (fun c10 => ?_)
    · refine az_iconst (v := nI 0) dX1_findRow_30 ?_
      refine az_istore (ls' := [(0, .ref u), (1, .long (lN n)), (3, .int (nI (dp + (kn + 1)))), (4, .int (nI dp)), (5, .int (nI 0))]) dX1_findRow_31 ?_
      exact loop _ 0 f r hp rfl (Nat.zero_le _) rfl h1 (fun j _ => rfl) h2 (fun j _ => rfl) az_fr.rf
    · exact absurd c10 (by omega)
