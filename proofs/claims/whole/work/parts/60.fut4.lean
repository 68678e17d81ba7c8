/-! Futures: rows, turns, all rows -/
/-- how many rows of k tables make it just so long -/
def fu_rows (w : ln_W) (n : Nat) : Nat → (Nat → Nat) → Nat
  | 0, c => if fu_l c = n then 1 else 0
  | k + 1, c => sm (fun tb => fu_rows w n k (fu_n w tb c)) (ln_tb w)
set_option maxRecDepth 100000 in
theorem s_rowsFrom0 {d u t wn wx dp n : Nat} {w : ln_W} {tl : Value} {c : Nat → Nat} {f : Nat → Int64} {hp : az_Hp} {Q : Option Value → az_Hp → Prop} (hd : 1 ≤ d) (h0 : hp.2 u = some (az_O 1 [.ref t, .ref (u + 1), .ref (u + 2), .ref (u + 3), .ref (u + 4), tl, .ref wn, .ref wx])) (h1 : hp.2 (u + 1) = some (az_J 54 f)) (hdp : dp ≤ 7) (hc : ∀ x, x < 6 → f (dp * 6 + x) = lN (c x)) (hb : fu_l c < 2 ^ 62) (hn : n < 2 ^ 63) (hQ : Q (some (.int (nI (fu_rows w n 0 c)))) hp) : az_M mX1_rowsFrom d 0 0 [.ref u, .long (lN n), .int (nI dp), .int (nI dp)] hp Q := by
  refine az_M.of rfl (Nat.le_of_ble_eq_true rfl) ?_
  show az_W _ _ _ _ 0 [(0, .ref u), (1, .long (lN n)), (3, .int (nI dp)), (4, .int (nI dp))] [] _ _
  refine az_iload dX1_rowsFrom_0 ?_
  refine az_iload_n dX1_rowsFrom_2 ?_
  refine az_icmp_geN (tgt := 13) dX1_rowsFrom_3 (fun c3 => ?_) (fun c3 => ?_)
  · refine az_aload_n dX1_rowsFrom_13 ?_
    refine az_iload dX1_rowsFrom_14 ?_
    refine az_cV0 (st := []) dX1_rowsFrom_16 ml_X1_79 h0 (s_spanAt (d := d - 1) h0 h1 (by omega) hc ?_)
    refine az_lload_n dX1_rowsFrom_19 ?_
    refine az_lcmp_neN (tgt := 28) dX1_rowsFrom_20 dX1_rowsFrom_21 (fun c20 => ?_) (fun c20 => ?_)
    · refine az_iconst (v := nI 0) dX1_rowsFrom_28 ?_
      exact az_iret dX1_rowsFrom_29 (by first | (rw [fu_rows, if_pos c20] at hQ; exact hQ) | (rw [fu_rows, if_neg c20] at hQ; exact hQ))
    · refine az_iconst (v := nI 1) dX1_rowsFrom_24 ?_
      refine az_goto (tgt := 29) dX1_rowsFrom_25 ?_
      exact az_iret dX1_rowsFrom_29 (by first | (rw [fu_rows, if_pos c20] at hQ; exact hQ) | (rw [fu_rows, if_neg c20] at hQ; exact hQ))
  · exact absurd (Nat.le_refl dp) (by omega)
set_option maxHeartbeats 4000000 in
set_option maxRecDepth 100000 in
theorem s_rowsFrom {w : ln_W} (hw : ln_ok w) {u t wn wx n : Nat} {tl : Value} (hn : n < 2 ^ 63) : ∀ (kn : Nat) {d dp : Nat} {c : Nat → Nat} {f : Nat → Int64} {hp : az_Hp} {Q : Option Value → az_Hp → Prop} (hd : kn + 4 ≤ d) (hT : ln_To hp t w u (u + 4)) (h0 : hp.2 u = some (az_O 1 [.ref t, .ref (u + 1), .ref (u + 2), .ref (u + 3), .ref (u + 4), tl, .ref wn, .ref wx])) (h1 : hp.2 (u + 1) = some (az_J 54 f)) (hdp : dp + kn ≤ 7) (hc : ∀ x, x < 6 → f (dp * 6 + x) = lN (c x)) (hb : fu_l c * 4 ^ kn < 2 ^ 62) (hQ : ∀ (h' : az_Hp) (f' : Nat → Int64), h'.2 (u + 1) = some (az_J 54 f') → (∀ j, j < dp * 6 + 6 → f' j = f j) → az_fr hp h' (u + 1) (u + 2) → Q (some (.int (nI (fu_rows w n kn c)))) h'), az_M mX1_rowsFrom d 0 0 [.ref u, .long (lN n), .int (nI (dp + kn)), .int (nI dp)] hp Q := by
  intro kn
  induction kn with
  | zero =>
    intro d dp c f hp Q hd hT h0 h1 hdp hc hb hQ
    exact s_rowsFrom0 (w := w) (by omega) h0 h1 hdp hc (fu_l_lt hb) hn (hQ hp f h1 (fun j _ => rfl) az_fr.rf)
  | succ kn IH =>
  intro d dp c f hp Q hd hT h0 h1 hdp hc hb hQ
  have htb := hw.2.1
  have hbk := fun tb => fu_n_l hw (tb := tb) hb
  have hcb := fu_c_lt (fu_l_lt hb)
  have loop : ∀ (k : Nat) (tb : Nat) (f' : Nat → Int64) (h' : az_Hp), ln_tb w - tb = k → (tb ≤ ln_tb w) → (h'.2 (u + 1) = some (az_J 54 f')) → (∀ j, j < dp * 6 + 6 → f' j = f j) → (az_fr hp h' (u + 1) (u + 2)) → az_W mX1_rowsFrom d 0 0 36 [(0, .ref u), (1, .long (lN n)), (3, .int (nI (dp + (kn + 1)))), (4, .int (nI dp)), (5, .int (nI (sm (fun tb => fu_rows w n kn (fu_n w tb c)) tb))), (6, .int (nI tb))] [] h' Q := by
    intro k
    induction k using Nat.strongRecOn with
    | _ k ih =>
    intro tb f' h' hk htl e1 ho hfr
    have hT' : ln_To h' t w u (u + 4) := hT.fr (hfr.wide (lo' := u) (hi' := u + 4))
    obtain ⟨a4', a5', hT0', -⟩ := id hT'
    refine az_iload dX1_rowsFrom_36 ?_
    refine az_aload_n dX1_rowsFrom_38 ?_
    refine az_getf (v := .ref t) dX1_rowsFrom_39 fl_X1_35 (hfr.at h0) ?_
    refine az_getf (v := .int (nI (ln_tb w))) dX1_rowsFrom_42 fl_X1_83 hT0' ?_
    refine az_icmp_geN (tgt := 111) dX1_rowsFrom_45 (fun c45 => ?_) (fun c45 => ?_)
    · refine az_iload dX1_rowsFrom_111 ?_
      exact az_iret dX1_rowsFrom_113 (by rw [show tb = ln_tb w by omega]; exact hQ h' f' e1 ho hfr)
    · refine az_iload dX1_rowsFrom_48 ?_
      refine az_iload_n dX1_rowsFrom_50 ?_
      refine az_iconst (v := nI 1) dX1_rowsFrom_51 ?_
      refine az_isubN dX1_rowsFrom_52 (by omega) ?_
      refine az_icmp_neN (tgt := 82) dX1_rowsFrom_53 (fun c53 => ?_) (fun c53 => ?_)
      · refine az_aload_n dX1_rowsFrom_82 ?_
        refine az_iload dX1_rowsFrom_83 ?_
        refine az_iload dX1_rowsFrom_85 ?_
        refine az_cV0 (st := []) dX1_rowsFrom_87 ml_X1_91 (hfr.at h0) (s_passNight (d := d - 1) (by omega) hw hT' (hfr.at h0) e1 (dp := dp) (by omega) (tb := tb) (by omega) (c := c) (fun x q => (by rw [ho _ (by omega)]; exact hc x q)) (fun x q => Nat.lt_of_lt_of_le (hcb x q) (by decide)) ?_)
        intro g q1 q2
        refine az_iload dX1_rowsFrom_90 ?_
        refine az_aload_n dX1_rowsFrom_92 ?_
        refine az_lload_n dX1_rowsFrom_93 ?_
        refine az_iload_n dX1_rowsFrom_94 ?_
        refine az_iload dX1_rowsFrom_95 ?_
        refine az_iconst (v := nI 1) dX1_rowsFrom_97 ?_
        refine az_iaddN dX1_rowsFrom_98 ?_
        rw [show dp + (kn + 1) = dp + 1 + kn by omega]
        refine az_cV0 (st := [.int (nI (sm (fun tb => fu_rows w n kn (fu_n w tb c)) tb))]) dX1_rowsFrom_99 ml_X1_94 (az_up_ne (hfr.at h0)) (IH (d := d - 1) (by omega) (hT'.fr az_fr.rf.up) (az_up_ne (hfr.at h0)) az_up_eq (dp := dp + 1) (by omega) (c := fu_n w tb c) (fun x q => (by rw [show (dp + 1) * 6 + x = dp * 6 + 6 + x by omega]; exact q2 x q)) (hbk tb) ?_)
        intro h2' f2 e12 ho2 fr2
        rw [show dp + 1 + kn = dp + (kn + 1) by omega]
        show az_W _ _ _ _ _ _ (.int (nI ((fun tb => fu_rows w n kn (fu_n w tb c)) tb)) :: _) _ _
        refine az_iaddN dX1_rowsFrom_102 ?_
        refine az_istore (ls' := [(0, .ref u), (1, .long (lN n)), (3, .int (nI (dp + (kn + 1)))), (4, .int (nI dp)), (5, .int (nI ((sm (fun tb => fu_rows w n kn (fu_n w tb c)) tb) + ((fun tb => fu_rows w n kn (fu_n w tb c)) tb)))), (6, .int (nI tb))]) dX1_rowsFrom_103 ?_
        refine az_iincN (n := 1) (ls' := [(0, .ref u), (1, .long (lN n)), (3, .int (nI (dp + (kn + 1)))), (4, .int (nI dp)), (5, .int (nI ((sm (fun tb => fu_rows w n kn (fu_n w tb c)) tb) + ((fun tb => fu_rows w n kn (fu_n w tb c)) tb)))), (6, .int (nI (tb + 1)))]) dX1_rowsFrom_105 ?_
        refine az_goto (tgt := 36) dX1_rowsFrom_108 ?_
        first | (have hk0 : kn = 0 := (by omega); rw [show sm (fun tb => fu_rows w n kn (fu_n w tb c)) tb + 1 = sm (fun tb => fu_rows w n kn (fu_n w tb c)) (tb + 1) by (rw [sm]; show _ = _ + fu_rows w n kn _; rw [hk0, fu_rows, if_pos (by rw [fu_b_is hw]; exact c67)])]; exact ih _ (by omega) (tb + 1) f' h' rfl (by omega) e1 ho hfr) | (have hk0 : kn = 0 := (by omega); rw [show sm (fun tb => fu_rows w n kn (fu_n w tb c)) tb + 0 = sm (fun tb => fu_rows w n kn (fu_n w tb c)) (tb + 1) by (rw [sm]; show _ = _ + fu_rows w n kn _; rw [hk0, fu_rows, if_neg (by rw [fu_b_is hw]; exact c67)])]; exact ih _ (by omega) (tb + 1) f' h' rfl (by omega) e1 ho hfr) | exact ih _ (by omega) (tb + 1) f2 h2' rfl (by omega) e12 (fun j q => (by rw [ho2 j (by omega), q1 j q]; exact ho j q)) ((hfr.up).tr fr2)
      · refine az_iload dX1_rowsFrom_56 ?_
        refine az_aload_n dX1_rowsFrom_58 ?_
        refine az_iload dX1_rowsFrom_59 ?_
        refine az_iload dX1_rowsFrom_61 ?_
        refine az_cV0 (st := [.int (nI (sm (fun tb => fu_rows w n kn (fu_n w tb c)) tb))]) dX1_rowsFrom_63 ml_X1_87 (hfr.at h0) (s_spanByF (d := d - 1) hw hT'.town (hfr.at h0) e1 (dp := dp) (by omega) (tb := tb) (by omega) (c := c) (fun x q => (by rw [ho _ (by omega)]; exact hc x q)) ?_)
        have hbs := fu_l_lt (hbk tb)
        rw [fu_b_is hw] at hbs
        refine az_lload_n dX1_rowsFrom_66 ?_
        refine az_lcmp_neN (tgt := 75) dX1_rowsFrom_67 dX1_rowsFrom_68 (fun c67 => ?_) (fun c67 => ?_)
        · refine az_iconst (v := nI 0) dX1_rowsFrom_75 ?_
          refine az_iaddN dX1_rowsFrom_76 ?_
          refine az_istore (ls' := [(0, .ref u), (1, .long (lN n)), (3, .int (nI (dp + (kn + 1)))), (4, .int (nI dp)), (5, .int (nI ((sm (fun tb => fu_rows w n kn (fu_n w tb c)) tb) + 0))), (6, .int (nI tb))]) dX1_rowsFrom_77 ?_
          refine az_goto (tgt := 105) dX1_rowsFrom_79 ?_
          refine az_iincN (n := 1) (ls' := [(0, .ref u), (1, .long (lN n)), (3, .int (nI (dp + (kn + 1)))), (4, .int (nI dp)), (5, .int (nI ((sm (fun tb => fu_rows w n kn (fu_n w tb c)) tb) + 0))), (6, .int (nI (tb + 1)))]) dX1_rowsFrom_105 ?_
          refine az_goto (tgt := 36) dX1_rowsFrom_108 ?_
          first | (have hk0 : kn = 0 := (by omega); rw [show sm (fun tb => fu_rows w n kn (fu_n w tb c)) tb + 1 = sm (fun tb => fu_rows w n kn (fu_n w tb c)) (tb + 1) by (rw [sm]; show _ = _ + fu_rows w n kn _; rw [hk0, fu_rows, if_pos (by rw [fu_b_is hw]; exact c67)])]; exact ih _ (by omega) (tb + 1) f' h' rfl (by omega) e1 ho hfr) | (have hk0 : kn = 0 := (by omega); rw [show sm (fun tb => fu_rows w n kn (fu_n w tb c)) tb + 0 = sm (fun tb => fu_rows w n kn (fu_n w tb c)) (tb + 1) by (rw [sm]; show _ = _ + fu_rows w n kn _; rw [hk0, fu_rows, if_neg (by rw [fu_b_is hw]; exact c67)])]; exact ih _ (by omega) (tb + 1) f' h' rfl (by omega) e1 ho hfr) | exact ih _ (by omega) (tb + 1) f2 h2' rfl (by omega) e12 (fun j q => (by rw [ho2 j (by omega), q1 j q]; exact ho j q)) ((hfr.up).tr fr2)
        · refine az_iconst (v := nI 1) dX1_rowsFrom_71 ?_
          refine az_goto (tgt := 76) dX1_rowsFrom_72 ?_
          refine az_iaddN dX1_rowsFrom_76 ?_
          refine az_istore (ls' := [(0, .ref u), (1, .long (lN n)), (3, .int (nI (dp + (kn + 1)))), (4, .int (nI dp)), (5, .int (nI ((sm (fun tb => fu_rows w n kn (fu_n w tb c)) tb) + 1))), (6, .int (nI tb))]) dX1_rowsFrom_77 ?_
          refine az_goto (tgt := 105) dX1_rowsFrom_79 ?_
          refine az_iincN (n := 1) (ls' := [(0, .ref u), (1, .long (lN n)), (3, .int (nI (dp + (kn + 1)))), (4, .int (nI dp)), (5, .int (nI ((sm (fun tb => fu_rows w n kn (fu_n w tb c)) tb) + 1))), (6, .int (nI (tb + 1)))]) dX1_rowsFrom_105 ?_
          refine az_goto (tgt := 36) dX1_rowsFrom_108 ?_
          first | (have hk0 : kn = 0 := (by omega); rw [show sm (fun tb => fu_rows w n kn (fu_n w tb c)) tb + 1 = sm (fun tb => fu_rows w n kn (fu_n w tb c)) (tb + 1) by (rw [sm]; show _ = _ + fu_rows w n kn _; rw [hk0, fu_rows, if_pos (by rw [fu_b_is hw]; exact c67)])]; exact ih _ (by omega) (tb + 1) f' h' rfl (by omega) e1 ho hfr) | (have hk0 : kn = 0 := (by omega); rw [show sm (fun tb => fu_rows w n kn (fu_n w tb c)) tb + 0 = sm (fun tb => fu_rows w n kn (fu_n w tb c)) (tb + 1) by (rw [sm]; show _ = _ + fu_rows w n kn _; rw [hk0, fu_rows, if_neg (by rw [fu_b_is hw]; exact c67)])]; exact ih _ (by omega) (tb + 1) f' h' rfl (by omega) e1 ho hfr) | exact ih _ (by omega) (tb + 1) f2 h2' rfl (by omega) e12 (fun j q => (by rw [ho2 j (by omega), q1 j q]; exact ho j q)) ((hfr.up).tr fr2)
  refine az_M.of rfl (Nat.le_of_ble_eq_true rfl) ?_
  show az_W _ _ _ _ 0 [(0, .ref u), (1, .long (lN n)), (3, .int (nI (dp + (kn + 1)))), (4, .int (nI dp))] [] _ _
  refine az_iload dX1_rowsFrom_0 ?_
  refine az_iload_n dX1_rowsFrom_2 ?_
  refine az_icmp_geN (tgt := 13) dX1_rowsFrom_3 (fun c3 => ?_) (fun c3 => ?_)
  · exact absurd c3 (by omega)
  · refine az_iload dX1_rowsFrom_6 ?_
    refine az_bipush (v := nI 8) dX1_rowsFrom_8 ?_
    refine az_icmp_ltN (tgt := 30) dX1_rowsFrom_10 (fun c10 => ?_) (fun c10 => ?_)
    · refine az_iconst (v := nI 0) dX1_rowsFrom_30 ?_
      refine az_istore (ls' := [(0, .ref u), (1, .long (lN n)), (3, .int (nI (dp + (kn + 1)))), (4, .int (nI dp)), (5, .int (nI 0))]) dX1_rowsFrom_31 ?_
      refine az_iconst (v := nI 0) dX1_rowsFrom_33 ?_
      refine az_istore (ls' := [(0, .ref u), (1, .long (lN n)), (3, .int (nI (dp + (kn + 1)))), (4, .int (nI dp)), (5, .int (nI 0)), (6, .int (nI 0))]) dX1_rowsFrom_34 ?_
      exact loop _ 0 f hp rfl (Nat.zero_le _) h1 (fun j _ => rfl) az_fr.rf
    · exact absurd c10 (by omega)
theorem s_rowsFromA {w : ln_W} (hw : ln_ok w) {u t wn wx n : Nat} {tl : Value} (hn : n < 2 ^ 63) (k : Nat) {d : Nat} {c : Nat → Nat} {f : Nat → Int64} {hp : az_Hp} {Q : Option Value → az_Hp → Prop} (hd : k + 4 ≤ d) (hT : ln_To hp t w u (u + 4)) (h0 : hp.2 u = some (az_O 1 [.ref t, .ref (u + 1), .ref (u + 2), .ref (u + 3), .ref (u + 4), tl, .ref wn, .ref wx])) (h1 : hp.2 (u + 1) = some (az_J 54 f)) (hdp : k ≤ 7) (hc : ∀ x, x < 6 → f (0 * 6 + x) = lN (c x)) (hb : fu_l c * 4 ^ k < 2 ^ 62) (hQ : ∀ (h' : az_Hp) (f' : Nat → Int64), h'.2 (u + 1) = some (az_J 54 f') → az_fr hp h' (u + 1) (u + 2) → Q (some (.int (nI (fu_rows w n k c)))) h') : az_M mX1_rowsFrom d 0 0 [.ref u, .long (lN n), .int (nI k), .int (nI 0)] hp Q := by
  have := s_rowsFrom hw hn k (d := d) (dp := 0) (Q := Q) hd hT h0 h1 (by omega) hc hb (fun h' f' q1 _ q3 => hQ h' f' q1 q3)
  rw [Nat.zero_add] at this
  exact this
set_option maxRecDepth 100000 in
theorem s_rowsOf {d u a t wn wx mo ni n k : Nat} {w : ln_W} {bs : List Nat} {t0 tl : Value} {f : Nat → Int64} {hp : az_Hp} {Q : Option Value → az_Hp → Prop} (hd : 12 ≤ d) (hw : ln_ok w) (hb : ln_by w bs) (hT : ln_To hp t w u (u + 4)) (hS : ln_Scene hp a t w mo ni bs) (hua : u + 4 ≤ a ∨ a + 8 ≤ u) (hn : n < 2 ^ 63) (hk : k ≤ 7) (h0 : hp.2 u = some (az_O 1 [t0, .ref (u + 1), .ref (u + 2), .ref (u + 3), .ref (u + 4), tl, .ref wn, .ref wx])) (h1 : hp.2 (u + 1) = some (az_J 54 f)) (hQ : ∀ (h' : az_Hp) (f' : Nat → Int64), h'.2 u = some (az_O 1 [.ref t, .ref (u + 1), .ref (u + 2), .ref (u + 3), .ref (u + 4), tl, .ref wn, .ref wx]) → h'.2 (u + 1) = some (az_J 54 f') → az_fr hp h' u (u + 2) → Q (some (.int (nI (fu_rows w n k (fun x => (ln_str w bs).count x))))) h') : az_M mX1_rowsOf d 0 0 [.ref u, .ref a, .long (lN n), .int (nI k)] hp Q := by
  refine az_M.of rfl (Nat.le_of_ble_eq_true rfl) ?_
  show az_W _ _ _ _ 0 [(0, .ref u), (1, .ref a), (2, .long (lN n)), (4, .int (nI k))] [] _ _
  refine az_aload_n dX1_rowsOf_0 ?_
  refine az_aload_n dX1_rowsOf_1 ?_
  refine az_cV0 (st := []) dX1_rowsOf_2 ml_X1_71 h0 (s_beginF (d := d - 1) (by omega) hS hua h0 h1 ?_)
  intro g hg
  refine az_aload_n dX1_rowsOf_5 ?_
  refine az_lload_n dX1_rowsOf_6 ?_
  refine az_iload dX1_rowsOf_7 ?_
  refine az_iconst (v := nI 0) dX1_rowsOf_9 ?_
  refine az_cV0 (st := []) dX1_rowsOf_10 ml_X1_94 (az_up_ne az_up_eq) (s_rowsFromA hw hn k (d := d - 1) (by omega) (hT.fr az_fr.rf.up.up) (az_up_ne az_up_eq) az_up_eq hk (c := (fun x => (ln_str w bs).count x)) hg (str_cap hw hb (by omega)) ?_)
  intro h2' f2 e12 fr2
  exact az_iret dX1_rowsOf_13 (hQ h2' f2 (fr2.at (az_up_ne az_up_eq)) e12 (az_fr.tr az_fr.rf.up.up fr2.wide))
/-- of the spans of k tables: the best, and the first table that has it -/
def fu_tb (F : Nat → Nat) (od : Nat) : Nat → Nat × Nat
  | 0 => (0, 0)
  | tb + 1 => if tb = 0 ∨ (od = 0 ∧ (fu_tb F od tb).1 < F tb) ∨ (od ≠ 0 ∧ F tb < (fu_tb F od tb).1) then (F tb, tb) else fu_tb F od tb
def fu_t (w : ln_W) : Nat → Nat → (Nat → Nat) → Nat × Nat
  | 0, _, c => (fu_l c, 0)
  | k + 1, dp, c => fu_tb (fun tb => (fu_t w k (dp + 1) (fu_n w tb c)).1) (dp % 2) (ln_tb w)
theorem fu_tb_le {F : Nat → Nat} {od B : Nat} (h : ∀ tb, F tb ≤ B) (k : Nat) : (fu_tb F od k).1 ≤ B := by
  induction k with
  | zero => exact Nat.zero_le _
  | succ k ih =>
    rw [fu_tb]
    split
    · exact h k
    · exact ih
theorem fu_tb_lt {F : Nat → Nat} {od : Nat} (k : Nat) : (fu_tb F od k).2 ≤ k := by
  induction k with
  | zero => exact Nat.le_refl _
  | succ k ih =>
    rw [fu_tb]
    split
    · exact Nat.le_succ k
    · exact Nat.le_trans ih (Nat.le_succ k)
theorem fu_t_le {w : ln_W} (hw : ln_ok w) (k : Nat) : ∀ (dp : Nat) (c : Nat → Nat), (fu_t w k dp c).1 ≤ fu_l c * 4 ^ k := by
  induction k with
  | zero => intro dp c; rw [Nat.pow_zero, Nat.mul_one]; exact Nat.le_refl _
  | succ k ih =>
    intro dp c
    rw [fu_t]
    refine fu_tb_le (fun tb => ?_) _
    refine Nat.le_trans (ih _ _) ?_
    have h1 := fu_b_le hw tb c
    rw [← fu_b_is hw] at h1
    have h2 := Nat.mul_le_mul_right (4 ^ k) h1
    rw [Nat.pow_succ]
    have h3 : fu_l c * (4 ^ k * 4) = 4 * fu_l c * 4 ^ k := by rw [Nat.mul_comm (4 ^ k) 4, ← Nat.mul_assoc, Nat.mul_comm (fu_l c) 4]
    omega
theorem irem2 {k : Nat} (h : k < 8) : nI k - nI k / nI 2 * nI 2 = nI (k % 2) := by revert k; decide
set_option maxRecDepth 100000 in
theorem s_spanByTurns0 {d u t wn wx dp : Nat} {w : ln_W} {tl : Value} {c : Nat → Nat} {f : Nat → Int64} {hp : az_Hp} {Q : Option Value → az_Hp → Prop} (hd : 1 ≤ d) (h0 : hp.2 u = some (az_O 1 [.ref t, .ref (u + 1), .ref (u + 2), .ref (u + 3), .ref (u + 4), tl, .ref wn, .ref wx])) (h1 : hp.2 (u + 1) = some (az_J 54 f)) (hdp : dp ≤ 7) (hc : ∀ x, x < 6 → f (dp * 6 + x) = lN (c x)) (hQ : Q (some (.long (lN (fu_t w 0 dp c).1))) hp) : az_M mX1_spanByTurns d 0 0 [.ref u, .int (nI dp), .int (nI dp)] hp Q := by
  refine az_M.of rfl (Nat.le_of_ble_eq_true rfl) ?_
  show az_W _ _ _ _ 0 [(0, .ref u), (1, .int (nI dp)), (2, .int (nI dp))] [] _ _
  refine az_iload_n dX1_spanByTurns_0 ?_
  refine az_iload_n dX1_spanByTurns_1 ?_
  refine az_icmp_geN (tgt := 11) dX1_spanByTurns_2 (fun c2 => ?_) (fun c2 => ?_)
  · refine az_aload_n dX1_spanByTurns_11 ?_
    refine az_iload_n dX1_spanByTurns_12 ?_
    refine az_cV0 (st := []) dX1_spanByTurns_13 ml_X1_79 h0 (s_spanAt (d := d - 1) h0 h1 (by omega) hc ?_)
    exact az_lret dX1_spanByTurns_16 (hQ)
  · exact absurd (Nat.le_refl dp) (by omega)
set_option maxHeartbeats 4000000 in
set_option maxRecDepth 100000 in
theorem s_spanByTurns {w : ln_W} (hw : ln_ok w) {u t wn wx : Nat} {tl : Value} : ∀ (kn : Nat) {d dp : Nat} {c : Nat → Nat} {f : Nat → Int64} {r : Nat → Int32} {hp : az_Hp} {Q : Option Value → az_Hp → Prop} (hd : kn + 4 ≤ d) (hT : ln_To hp t w u (u + 4)) (h0 : hp.2 u = some (az_O 1 [.ref t, .ref (u + 1), .ref (u + 2), .ref (u + 3), .ref (u + 4), tl, .ref wn, .ref wx])) (h1 : hp.2 (u + 1) = some (az_J 54 f)) (h2 : hp.2 (u + 2) = some (az_I 8 r)) (hdp : dp + kn ≤ 7) (hc : ∀ x, x < 6 → f (dp * 6 + x) = lN (c x)) (hb : fu_l c * 4 ^ kn < 2 ^ 62) (hQ : ∀ (h' : az_Hp) (f' : Nat → Int64) (r' : Nat → Int32), h'.2 (u + 1) = some (az_J 54 f') → (∀ j, j < dp * 6 + 6 → f' j = f j) → h'.2 (u + 2) = some (az_I 8 r') → (∀ j, j < dp → r' j = r j) → (0 < kn → r' dp = nI (fu_t w kn dp c).2) → az_fr hp h' (u + 1) (u + 3) → Q (some (.long (lN (fu_t w kn dp c).1))) h'), az_M mX1_spanByTurns d 0 0 [.ref u, .int (nI (dp + kn)), .int (nI dp)] hp Q := by
  intro kn
  induction kn with
  | zero =>
    intro d dp c f r hp Q hd hT h0 h1 h2 hdp hc hb hQ
    exact s_spanByTurns0 (w := w) (by omega) h0 h1 hdp hc (hQ hp f r h1 (fun j _ => rfl) h2 (fun j _ => rfl) (fun q => absurd q (by omega)) az_fr.rf)
  | succ kn IH =>
  intro d dp c f r hp Q hd hT h0 h1 h2 hdp hc hb hQ
  have htb := hw.2.1
  have hbk := fun tb => fu_n_l hw (tb := tb) hb
  have hcb := fu_c_lt (fu_l_lt hb)
  have hFb : ∀ tb, (fun tb => (fu_t w kn (dp + 1) (fu_n w tb c)).1) tb ≤ 2 ^ 62 := fun tb => Nat.le_of_lt (Nat.lt_of_le_of_lt (fu_t_le hw kn (dp + 1) _) (hbk tb))
  have upd : ∀ (k : Nat) (tb b9 t9 sp : Nat) (h' : az_Hp) (hK : ∀ b t9', (if tb = 0 ∨ (dp % 2 = 0 ∧ b9 < sp) ∨ (dp % 2 ≠ 0 ∧ sp < b9) then (sp, tb) else (b9, t9)) = (b, t9') → az_W mX1_spanByTurns d 0 0 38 [(0, .ref u), (1, .int (nI (dp + (kn + 1)))), (2, .int (nI dp)), (3, .int (nI (1 - dp % 2))), (4, .long (lN b)), (6, .int (nI t9')), (7, .int (nI (tb + 1)))] [] h' Q), 0 = k → (sp ≤ 2 ^ 62) → (b9 ≤ 2 ^ 62) → (tb < 3) → az_W mX1_spanByTurns d 0 0 86 [(0, .ref u), (1, .int (nI (dp + (kn + 1)))), (2, .int (nI dp)), (3, .int (nI (1 - dp % 2))), (4, .long (lN b9)), (6, .int (nI t9)), (7, .int (nI tb)), (8, .long (lN sp))] [] h' Q := by
    intro k
    induction k using Nat.strongRecOn with
    | _ k ih =>
    intro tb b9 t9 sp h' hK hk hsp hbb ht3
    refine az_iload dX1_spanByTurns_86 ?_
    refine az_if_eqN (tgt := 114) dX1_spanByTurns_88 (fun c88 => ?_) (fun c88 => ?_)
    · refine az_lload dX1_spanByTurns_114 ?_
      refine az_lstore (ls' := [(0, .ref u), (1, .int (nI (dp + (kn + 1)))), (2, .int (nI dp)), (3, .int (nI (1 - dp % 2))), (4, .long (lN sp)), (6, .int (nI t9)), (7, .int (nI tb)), (8, .long (lN sp))]) dX1_spanByTurns_116 ?_
      refine az_iload dX1_spanByTurns_118 ?_
      refine az_istore (ls' := [(0, .ref u), (1, .int (nI (dp + (kn + 1)))), (2, .int (nI dp)), (3, .int (nI (1 - dp % 2))), (4, .long (lN sp)), (6, .int (nI tb)), (7, .int (nI tb)), (8, .long (lN sp))]) dX1_spanByTurns_120 ?_
      refine az_iincN (n := 1) (ls' := [(0, .ref u), (1, .int (nI (dp + (kn + 1)))), (2, .int (nI dp)), (3, .int (nI (1 - dp % 2))), (4, .long (lN sp)), (6, .int (nI tb)), (7, .int (nI (tb + 1))), (8, .long (lN sp))]) dX1_spanByTurns_122 ?_
      refine az_goto (tgt := 38) dX1_spanByTurns_125 ?_
      refine az_W.keep (ls' := [(0, .ref u), (1, .int (nI (dp + (kn + 1)))), (2, .int (nI dp)), (3, .int (nI (1 - dp % 2))), (4, .long (lN sp)), (6, .int (nI tb)), (7, .int (nI (tb + 1)))]) [0, 1, 2, 3, 4, 6, 7] rfl ?_
      first | exact hK _ _ (if_pos (Or.inl c88)) | exact hK _ _ (if_pos (Or.inr (Or.inl ⟨by omega, by omega⟩))) | exact hK _ _ (if_pos (Or.inr (Or.inr ⟨by omega, by omega⟩))) | exact hK _ _ (if_neg (fun q => (by rcases q with q | q | q <;> omega)))
    · refine az_iload_n dX1_spanByTurns_91 ?_
      refine az_if_eqN (tgt := 106) dX1_spanByTurns_92 (fun c92 => ?_) (fun c92 => ?_)
      · refine az_lload dX1_spanByTurns_106 ?_
        refine az_lload dX1_spanByTurns_108 ?_
        refine az_lcmp_geN (tgt := 122) dX1_spanByTurns_110 dX1_spanByTurns_111 (fun c110 => ?_) (fun c110 => ?_)
        · refine az_iincN (n := 1) (ls' := [(0, .ref u), (1, .int (nI (dp + (kn + 1)))), (2, .int (nI dp)), (3, .int (nI (1 - dp % 2))), (4, .long (lN b9)), (6, .int (nI t9)), (7, .int (nI (tb + 1))), (8, .long (lN sp))]) dX1_spanByTurns_122 ?_
          refine az_goto (tgt := 38) dX1_spanByTurns_125 ?_
          refine az_W.keep (ls' := [(0, .ref u), (1, .int (nI (dp + (kn + 1)))), (2, .int (nI dp)), (3, .int (nI (1 - dp % 2))), (4, .long (lN b9)), (6, .int (nI t9)), (7, .int (nI (tb + 1)))]) [0, 1, 2, 3, 4, 6, 7] rfl ?_
          first | exact hK _ _ (if_pos (Or.inl c88)) | exact hK _ _ (if_pos (Or.inr (Or.inl ⟨by omega, by omega⟩))) | exact hK _ _ (if_pos (Or.inr (Or.inr ⟨by omega, by omega⟩))) | exact hK _ _ (if_neg (fun q => (by rcases q with q | q | q <;> omega)))
        · refine az_lload dX1_spanByTurns_114 ?_
          refine az_lstore (ls' := [(0, .ref u), (1, .int (nI (dp + (kn + 1)))), (2, .int (nI dp)), (3, .int (nI (1 - dp % 2))), (4, .long (lN sp)), (6, .int (nI t9)), (7, .int (nI tb)), (8, .long (lN sp))]) dX1_spanByTurns_116 ?_
          refine az_iload dX1_spanByTurns_118 ?_
          refine az_istore (ls' := [(0, .ref u), (1, .int (nI (dp + (kn + 1)))), (2, .int (nI dp)), (3, .int (nI (1 - dp % 2))), (4, .long (lN sp)), (6, .int (nI tb)), (7, .int (nI tb)), (8, .long (lN sp))]) dX1_spanByTurns_120 ?_
          refine az_iincN (n := 1) (ls' := [(0, .ref u), (1, .int (nI (dp + (kn + 1)))), (2, .int (nI dp)), (3, .int (nI (1 - dp % 2))), (4, .long (lN sp)), (6, .int (nI tb)), (7, .int (nI (tb + 1))), (8, .long (lN sp))]) dX1_spanByTurns_122 ?_
          refine az_goto (tgt := 38) dX1_spanByTurns_125 ?_
          refine az_W.keep (ls' := [(0, .ref u), (1, .int (nI (dp + (kn + 1)))), (2, .int (nI dp)), (3, .int (nI (1 - dp % 2))), (4, .long (lN sp)), (6, .int (nI tb)), (7, .int (nI (tb + 1)))]) [0, 1, 2, 3, 4, 6, 7] rfl ?_
          first | exact hK _ _ (if_pos (Or.inl c88)) | exact hK _ _ (if_pos (Or.inr (Or.inl ⟨by omega, by omega⟩))) | exact hK _ _ (if_pos (Or.inr (Or.inr ⟨by omega, by omega⟩))) | exact hK _ _ (if_neg (fun q => (by rcases q with q | q | q <;> omega)))
      · refine az_lload dX1_spanByTurns_95 ?_
        refine az_lload dX1_spanByTurns_97 ?_
        refine az_lcmp_leN (tgt := 122) dX1_spanByTurns_99 dX1_spanByTurns_100 (fun c99 => ?_) (fun c99 => ?_)
        · refine az_iincN (n := 1) (ls' := [(0, .ref u), (1, .int (nI (dp + (kn + 1)))), (2, .int (nI dp)), (3, .int (nI (1 - dp % 2))), (4, .long (lN b9)), (6, .int (nI t9)), (7, .int (nI (tb + 1))), (8, .long (lN sp))]) dX1_spanByTurns_122 ?_
          refine az_goto (tgt := 38) dX1_spanByTurns_125 ?_
          refine az_W.keep (ls' := [(0, .ref u), (1, .int (nI (dp + (kn + 1)))), (2, .int (nI dp)), (3, .int (nI (1 - dp % 2))), (4, .long (lN b9)), (6, .int (nI t9)), (7, .int (nI (tb + 1)))]) [0, 1, 2, 3, 4, 6, 7] rfl ?_
          first | exact hK _ _ (if_pos (Or.inl c88)) | exact hK _ _ (if_pos (Or.inr (Or.inl ⟨by omega, by omega⟩))) | exact hK _ _ (if_pos (Or.inr (Or.inr ⟨by omega, by omega⟩))) | exact hK _ _ (if_neg (fun q => (by rcases q with q | q | q <;> omega)))
        · refine az_goto (tgt := 114) dX1_spanByTurns_103 ?_
          refine az_lload dX1_spanByTurns_114 ?_
          refine az_lstore (ls' := [(0, .ref u), (1, .int (nI (dp + (kn + 1)))), (2, .int (nI dp)), (3, .int (nI (1 - dp % 2))), (4, .long (lN sp)), (6, .int (nI t9)), (7, .int (nI tb)), (8, .long (lN sp))]) dX1_spanByTurns_116 ?_
          refine az_iload dX1_spanByTurns_118 ?_
          refine az_istore (ls' := [(0, .ref u), (1, .int (nI (dp + (kn + 1)))), (2, .int (nI dp)), (3, .int (nI (1 - dp % 2))), (4, .long (lN sp)), (6, .int (nI tb)), (7, .int (nI tb)), (8, .long (lN sp))]) dX1_spanByTurns_120 ?_
          refine az_iincN (n := 1) (ls' := [(0, .ref u), (1, .int (nI (dp + (kn + 1)))), (2, .int (nI dp)), (3, .int (nI (1 - dp % 2))), (4, .long (lN sp)), (6, .int (nI tb)), (7, .int (nI (tb + 1))), (8, .long (lN sp))]) dX1_spanByTurns_122 ?_
          refine az_goto (tgt := 38) dX1_spanByTurns_125 ?_
          refine az_W.keep (ls' := [(0, .ref u), (1, .int (nI (dp + (kn + 1)))), (2, .int (nI dp)), (3, .int (nI (1 - dp % 2))), (4, .long (lN sp)), (6, .int (nI tb)), (7, .int (nI (tb + 1)))]) [0, 1, 2, 3, 4, 6, 7] rfl ?_
          first | exact hK _ _ (if_pos (Or.inl c88)) | exact hK _ _ (if_pos (Or.inr (Or.inl ⟨by omega, by omega⟩))) | exact hK _ _ (if_pos (Or.inr (Or.inr ⟨by omega, by omega⟩))) | exact hK _ _ (if_neg (fun q => (by rcases q with q | q | q <;> omega)))
  have loop : ∀ (k : Nat) (tb : Nat) (f' : Nat → Int64) (r' : Nat → Int32) (h' : az_Hp) (b9 t9 : Nat), ln_tb w - tb = k → (tb ≤ ln_tb w) → (fu_tb (fun tb => (fu_t w kn (dp + 1) (fu_n w tb c)).1) (dp % 2) tb = (b9, t9)) → (h'.2 (u + 1) = some (az_J 54 f')) → (∀ j, j < dp * 6 + 6 → f' j = f j) → (h'.2 (u + 2) = some (az_I 8 r')) → (∀ j, j < dp → r' j = r j) → (az_fr hp h' (u + 1) (u + 3)) → az_W mX1_spanByTurns d 0 0 38 [(0, .ref u), (1, .int (nI (dp + (kn + 1)))), (2, .int (nI dp)), (3, .int (nI (1 - dp % 2))), (4, .long (lN b9)), (6, .int (nI t9)), (7, .int (nI tb))] [] h' Q := by
    intro k
    induction k using Nat.strongRecOn with
    | _ k ih =>
    intro tb f' r' h' b9 t9 hk htl hb9 e1 ho e2 hr hfr
    have hT' : ln_To h' t w u (u + 4) := hT.fr (hfr.wide (lo' := u) (hi' := u + 4))
    obtain ⟨a4', a5', hT0', -⟩ := id hT'
    have hbb : b9 ≤ 2 ^ 62 := (by have := fu_tb_le (od := dp % 2) hFb tb; rw [hb9] at this; exact this)
    refine az_iload dX1_spanByTurns_38 ?_
    refine az_aload_n dX1_spanByTurns_40 ?_
    refine az_getf (v := .ref t) dX1_spanByTurns_41 fl_X1_35 (hfr.at h0) ?_
    refine az_getf (v := .int (nI (ln_tb w))) dX1_spanByTurns_44 fl_X1_83 hT0' ?_
    refine az_icmp_geN (tgt := 128) dX1_spanByTurns_47 (fun c47 => ?_) (fun c47 => ?_)
    · refine az_aload_n dX1_spanByTurns_128 ?_
      refine az_getf (v := .ref (u + 2)) dX1_spanByTurns_129 fl_X1_15 (hfr.at h0) ?_
      refine az_iload_n dX1_spanByTurns_132 ?_
      refine az_iload dX1_spanByTurns_133 ?_
      refine az_iastN (j := dp) dX1_spanByTurns_135 e2 ?_
      refine az_lload dX1_spanByTurns_136 ?_
      exact az_lret dX1_spanByTurns_138 (by have hX : fu_t w (kn + 1) dp c = (b9, t9) := (by rw [fu_t, ← hb9, show tb = ln_tb w by omega]); have h9 := hQ _ f' (az_s r' dp (nI t9)) (az_up_ne e1) ho az_up_eq (fun j q => (by rw [az_s_ne (by omega)]; exact hr j q)) (fun _ => (by rw [az_s_eq, hX])) hfr.up; rw [hX] at h9; exact h9)
    · refine az_iload_n dX1_spanByTurns_50 ?_
      refine az_iload_n dX1_spanByTurns_51 ?_
      refine az_iconst (v := nI 1) dX1_spanByTurns_52 ?_
      refine az_isubN dX1_spanByTurns_53 (by omega) ?_
      refine az_icmp_neN (tgt := 69) dX1_spanByTurns_54 (fun c54 => ?_) (fun c54 => ?_)
      · refine az_aload_n dX1_spanByTurns_69 ?_
        refine az_iload_n dX1_spanByTurns_70 ?_
        refine az_iload dX1_spanByTurns_71 ?_
        refine az_cV0 (st := []) dX1_spanByTurns_73 ml_X1_91 (hfr.at h0) (s_passNight (d := d - 1) (by omega) hw hT' (hfr.at h0) e1 (dp := dp) (by omega) (tb := tb) (by omega) (c := c) (fun x q => (by rw [ho _ (by omega)]; exact hc x q)) (fun x q => Nat.lt_of_lt_of_le (hcb x q) (by decide)) ?_)
        intro g q1 q2
        refine az_aload_n dX1_spanByTurns_76 ?_
        refine az_iload_n dX1_spanByTurns_77 ?_
        refine az_iload_n dX1_spanByTurns_78 ?_
        refine az_iconst (v := nI 1) dX1_spanByTurns_79 ?_
        refine az_iaddN dX1_spanByTurns_80 ?_
        rw [show dp + (kn + 1) = dp + 1 + kn by omega]
        refine az_cV0 (st := []) dX1_spanByTurns_81 ml_X1_135 (az_up_ne (hfr.at h0)) (IH (d := d - 1) (by omega) (hT'.fr az_fr.rf.up) (az_up_ne (hfr.at h0)) az_up_eq (az_up_ne e2) (dp := dp + 1) (by omega) (c := fu_n w tb c) (fun x q => (by rw [show (dp + 1) * 6 + x = dp * 6 + 6 + x by omega]; exact q2 x q)) (hbk tb) ?_)
        intro h2' f2 r2 e12 ho2 e22 hr2 hl2 fr2
        rw [show dp + 1 + kn = dp + (kn + 1) by omega]
        show az_W _ _ _ _ _ _ (.long (lN ((fun tb => (fu_t w kn (dp + 1) (fu_n w tb c)).1) tb)) :: _) _ _
        refine az_lstore (ls' := [(0, .ref u), (1, .int (nI (dp + (kn + 1)))), (2, .int (nI dp)), (3, .int (nI (1 - dp % 2))), (4, .long (lN b9)), (6, .int (nI t9)), (7, .int (nI tb)), (8, .long (lN ((fun tb => (fu_t w kn (dp + 1) (fu_n w tb c)).1) tb)))]) dX1_spanByTurns_84 ?_
        refine upd _ tb b9 t9 ((fun tb => (fu_t w kn (dp + 1) (fu_n w tb c)).1) tb) _ ?_ rfl (hFb tb) hbb (by omega)
        intro b2 t2 hbt
        have hs9 : fu_tb (fun tb => (fu_t w kn (dp + 1) (fu_n w tb c)).1) (dp % 2) (tb + 1) = (b2, t2) := (by rw [fu_tb, hb9]; exact hbt)
        first | exact ih _ (by omega) (tb + 1) f2 r2 h2' b2 t2 rfl (by omega) hs9 e12 (fun j q => (by rw [ho2 j (by omega), q1 j q]; exact ho j q)) e22 (fun j q => (by rw [hr2 j (by omega)]; exact hr j q)) ((hfr.up).tr fr2) | exact ih _ (by omega) (tb + 1) f' r' h' b2 t2 rfl (by omega) hs9 e1 ho e2 hr hfr
      · refine az_aload_n dX1_spanByTurns_57 ?_
        refine az_iload_n dX1_spanByTurns_58 ?_
        refine az_iload dX1_spanByTurns_59 ?_
        refine az_cV0 (st := []) dX1_spanByTurns_61 ml_X1_87 (hfr.at h0) (s_spanByF (d := d - 1) hw hT'.town (hfr.at h0) e1 (dp := dp) (by omega) (tb := tb) (by omega) (c := c) (fun x q => (by rw [ho _ (by omega)]; exact hc x q)) ?_)
        rw [show fu_b w tb c = (fun tb => (fu_t w kn (dp + 1) (fu_n w tb c)).1) tb by (have hk0 : kn = 0 := (by omega); show _ = (fu_t w kn (dp + 1) (fu_n w tb c)).1; rw [hk0, fu_t, fu_b_is hw])]
        refine az_lstore (ls' := [(0, .ref u), (1, .int (nI (dp + (kn + 1)))), (2, .int (nI dp)), (3, .int (nI (1 - dp % 2))), (4, .long (lN b9)), (6, .int (nI t9)), (7, .int (nI tb)), (8, .long (lN ((fun tb => (fu_t w kn (dp + 1) (fu_n w tb c)).1) tb)))]) dX1_spanByTurns_64 ?_
        refine az_goto (tgt := 86) dX1_spanByTurns_66 ?_
        refine upd _ tb b9 t9 ((fun tb => (fu_t w kn (dp + 1) (fu_n w tb c)).1) tb) _ ?_ rfl (hFb tb) hbb (by omega)
        intro b2 t2 hbt
        have hs9 : fu_tb (fun tb => (fu_t w kn (dp + 1) (fu_n w tb c)).1) (dp % 2) (tb + 1) = (b2, t2) := (by rw [fu_tb, hb9]; exact hbt)
        first | exact ih _ (by omega) (tb + 1) f2 r2 h2' b2 t2 rfl (by omega) hs9 e12 (fun j q => (by rw [ho2 j (by omega), q1 j q]; exact ho j q)) e22 (fun j q => (by rw [hr2 j (by omega)]; exact hr j q)) ((hfr.up).tr fr2) | exact ih _ (by omega) (tb + 1) f' r' h' b2 t2 rfl (by omega) hs9 e1 ho e2 hr hfr
  refine az_M.of rfl (Nat.le_of_ble_eq_true rfl) ?_
  show az_W _ _ _ _ 0 [(0, .ref u), (1, .int (nI (dp + (kn + 1)))), (2, .int (nI dp))] [] _ _
  refine az_iload_n dX1_spanByTurns_0 ?_
  refine az_iload_n dX1_spanByTurns_1 ?_
  refine az_icmp_geN (tgt := 11) dX1_spanByTurns_2 (fun c2 => ?_) (fun c2 => ?_)
  · exact absurd c2 (by omega)
  · refine az_iload_n dX1_spanByTurns_5 ?_
    refine az_bipush (v := nI 8) dX1_spanByTurns_6 ?_
    refine az_icmp_ltN (tgt := 17) dX1_spanByTurns_8 (fun c8 => ?_) (fun c8 => ?_)
    · refine az_iload_n dX1_spanByTurns_17 ?_
      refine az_iconst (v := nI 2) dX1_spanByTurns_18 ?_
      refine az_irem dX1_spanByTurns_19 (by decide) ?_
      rw [irem2 (by omega)]
      refine az_if_neN (tgt := 27) dX1_spanByTurns_20 (fun c20 => ?_) (fun c20 => ?_)
      · refine az_iconst (v := nI 0) dX1_spanByTurns_27 ?_
        first | rw [show nI 0 = nI (1 - dp % 2) by rw [show 1 - dp % 2 = 0 by omega]] | rw [show nI 1 = nI (1 - dp % 2) by rw [show 1 - dp % 2 = 1 by omega]]
        refine az_istore_n (ls' := [(0, .ref u), (1, .int (nI (dp + (kn + 1)))), (2, .int (nI dp)), (3, .int (nI (1 - dp % 2)))]) dX1_spanByTurns_28 ?_
        refine az_lconst (v := lN 0) dX1_spanByTurns_29 ?_
        refine az_lstore (ls' := [(0, .ref u), (1, .int (nI (dp + (kn + 1)))), (2, .int (nI dp)), (3, .int (nI (1 - dp % 2))), (4, .long (lN 0))]) dX1_spanByTurns_30 ?_
        refine az_iconst (v := nI 0) dX1_spanByTurns_32 ?_
        refine az_istore (ls' := [(0, .ref u), (1, .int (nI (dp + (kn + 1)))), (2, .int (nI dp)), (3, .int (nI (1 - dp % 2))), (4, .long (lN 0)), (6, .int (nI 0))]) dX1_spanByTurns_33 ?_
        refine az_iconst (v := nI 0) dX1_spanByTurns_35 ?_
        refine az_istore (ls' := [(0, .ref u), (1, .int (nI (dp + (kn + 1)))), (2, .int (nI dp)), (3, .int (nI (1 - dp % 2))), (4, .long (lN 0)), (6, .int (nI 0)), (7, .int (nI 0))]) dX1_spanByTurns_36 ?_
        exact loop _ 0 f r hp 0 0 rfl (Nat.zero_le _) rfl h1 (fun j _ => rfl) h2 (fun j _ => rfl) az_fr.rf
      · refine az_iconst (v := nI 1) dX1_spanByTurns_23 ?_
        refine az_goto (tgt := 28) dX1_spanByTurns_24 ?_
        first | rw [show nI 0 = nI (1 - dp % 2) by rw [show 1 - dp % 2 = 0 by omega]] | rw [show nI 1 = nI (1 - dp % 2) by rw [show 1 - dp % 2 = 1 by omega]]
        refine az_istore_n (ls' := [(0, .ref u), (1, .int (nI (dp + (kn + 1)))), (2, .int (nI dp)), (3, .int (nI (1 - dp % 2)))]) dX1_spanByTurns_28 ?_
        refine az_lconst (v := lN 0) dX1_spanByTurns_29 ?_
        refine az_lstore (ls' := [(0, .ref u), (1, .int (nI (dp + (kn + 1)))), (2, .int (nI dp)), (3, .int (nI (1 - dp % 2))), (4, .long (lN 0))]) dX1_spanByTurns_30 ?_
        refine az_iconst (v := nI 0) dX1_spanByTurns_32 ?_
        refine az_istore (ls' := [(0, .ref u), (1, .int (nI (dp + (kn + 1)))), (2, .int (nI dp)), (3, .int (nI (1 - dp % 2))), (4, .long (lN 0)), (6, .int (nI 0))]) dX1_spanByTurns_33 ?_
        refine az_iconst (v := nI 0) dX1_spanByTurns_35 ?_
        refine az_istore (ls' := [(0, .ref u), (1, .int (nI (dp + (kn + 1)))), (2, .int (nI dp)), (3, .int (nI (1 - dp % 2))), (4, .long (lN 0)), (6, .int (nI 0)), (7, .int (nI 0))]) dX1_spanByTurns_36 ?_
        exact loop _ 0 f r hp 0 0 rfl (Nat.zero_le _) rfl h1 (fun j _ => rfl) h2 (fun j _ => rfl) az_fr.rf
    · exact absurd c8 (by omega)

theorem s_spanByTurnsA {w : ln_W} (hw : ln_ok w) {u t wn wx : Nat} {tl : Value} (k : Nat) {d : Nat} {c : Nat → Nat} {f : Nat → Int64} {r : Nat → Int32} {hp : az_Hp} {Q : Option Value → az_Hp → Prop} (hd : k + 4 ≤ d) (hT : ln_To hp t w u (u + 4)) (h0 : hp.2 u = some (az_O 1 [.ref t, .ref (u + 1), .ref (u + 2), .ref (u + 3), .ref (u + 4), tl, .ref wn, .ref wx])) (h1 : hp.2 (u + 1) = some (az_J 54 f)) (h2 : hp.2 (u + 2) = some (az_I 8 r)) (hdp : k ≤ 7) (hc : ∀ x, x < 6 → f (0 * 6 + x) = lN (c x)) (hb : fu_l c * 4 ^ k < 2 ^ 62) (hQ : ∀ (h' : az_Hp) (f' : Nat → Int64) (r' : Nat → Int32), h'.2 (u + 1) = some (az_J 54 f') → h'.2 (u + 2) = some (az_I 8 r') → (0 < k → r' 0 = nI (fu_t w k 0 c).2) → az_fr hp h' (u + 1) (u + 3) → Q (some (.long (lN (fu_t w k 0 c).1))) h') : az_M mX1_spanByTurns d 0 0 [.ref u, .int (nI k), .int (nI 0)] hp Q := by
  have := s_spanByTurns hw k (d := d) (dp := 0) (Q := Q) hd hT h0 h1 h2 (by omega) hc hb (fun h' f' r' q1 _ q3 _ q5 q6 => hQ h' f' r' q1 q3 q5 q6)
  rw [Nat.zero_add] at this
  exact this
set_option maxRecDepth 100000 in
theorem s_spanOfTurns {d u a t wn wx mo ni k : Nat} {w : ln_W} {bs : List Nat} {t0 tl : Value} {f : Nat → Int64} {r : Nat → Int32} {hp : az_Hp} {Q : Option Value → az_Hp → Prop} (hd : 12 ≤ d) (hw : ln_ok w) (hb : ln_by w bs) (hT : ln_To hp t w u (u + 4)) (hS : ln_Scene hp a t w mo ni bs) (hua : u + 4 ≤ a ∨ a + 8 ≤ u) (hk : k ≤ 7) (h0 : hp.2 u = some (az_O 1 [t0, .ref (u + 1), .ref (u + 2), .ref (u + 3), .ref (u + 4), tl, .ref wn, .ref wx])) (h1 : hp.2 (u + 1) = some (az_J 54 f)) (h2 : hp.2 (u + 2) = some (az_I 8 r)) (hQ : ∀ (h' : az_Hp) (f' : Nat → Int64) (r' : Nat → Int32), h'.2 u = some (az_O 1 [.ref t, .ref (u + 1), .ref (u + 2), .ref (u + 3), .ref (u + 4), tl, .ref wn, .ref wx]) → h'.2 (u + 1) = some (az_J 54 f') → h'.2 (u + 2) = some (az_I 8 r') → (0 < k → r' 0 = nI (fu_t w k 0 (fun x => (ln_str w bs).count x)).2) → az_fr hp h' u (u + 3) → Q (some (.long (lN (fu_t w k 0 (fun x => (ln_str w bs).count x)).1))) h') : az_M mX1_spanOfTurns d 0 0 [.ref u, .ref a, .int (nI k)] hp Q := by
  refine az_M.of rfl (Nat.le_of_ble_eq_true rfl) ?_
  show az_W _ _ _ _ 0 [(0, .ref u), (1, .ref a), (2, .int (nI k))] [] _ _
  refine az_aload_n dX1_spanOfTurns_0 ?_
  refine az_aload_n dX1_spanOfTurns_1 ?_
  refine az_cV0 (st := []) dX1_spanOfTurns_2 ml_X1_71 h0 (s_beginF (d := d - 1) (by omega) hS hua h0 h1 ?_)
  intro g hg
  refine az_aload_n dX1_spanOfTurns_5 ?_
  refine az_iload_n dX1_spanOfTurns_6 ?_
  refine az_iconst (v := nI 0) dX1_spanOfTurns_7 ?_
  refine az_cV0 (st := []) dX1_spanOfTurns_8 ml_X1_135 (az_up_ne az_up_eq) (s_spanByTurnsA hw k (d := d - 1) (by omega) (hT.fr az_fr.rf.up.up) (az_up_ne az_up_eq) az_up_eq (az_up_ne (az_up_ne h2)) hk (c := (fun x => (ln_str w bs).count x)) hg (str_cap hw hb (by omega)) ?_)
  intro h2' f2 r2 e12 e22 hr2 fr2
  exact az_lret dX1_spanOfTurns_11 (hQ h2' f2 r2 (fr2.at (az_up_ne az_up_eq)) e12 e22 hr2 (az_fr.tr az_fr.rf.up.up fr2.wide))
set_option maxRecDepth 100000 in
theorem s_rowsInAll {d u a t k9 mo ni : Nat} {w : ln_W} {bs : List Nat} {hp : az_Hp} {Q : Option Value → az_Hp → Prop} (hw : ln_ok w) (hT : ln_Town hp t w) (hS : ln_Scene hp a t w mo ni bs) (hk : k9 ≤ 12) (hQ : Q (some (.long (lN (ln_tb w ^ k9)))) hp) : az_M mX1_rowsInAll d 0 0 [.ref u, .ref a, .int (nI k9)] hp Q := by
  obtain ⟨hi, fr, la, no, wa, nc, g0, -⟩ := id hS
  obtain ⟨a4, a5, hT0, -⟩ := id hT
  have htb := hw.2.1
  have loop : ∀ (k : Nat) (i : Nat), k9 - i = k → (i ≤ k9) → az_W mX1_rowsInAll d 0 0 5 [(0, .ref u), (1, .ref a), (2, .int (nI k9)), (3, .long (lN (ln_tb w ^ i))), (5, .int (nI i))] [] hp Q := by
    intro k
    induction k using Nat.strongRecOn with
    | _ k ih =>
    intro i hk hik
    refine az_iload dX1_rowsInAll_5 ?_
    refine az_iload_n dX1_rowsInAll_7 ?_
    refine az_icmp_geN (tgt := 28) dX1_rowsInAll_8 (fun c8 => ?_) (fun c8 => ?_)
    · refine az_lload_n dX1_rowsInAll_28 ?_
      exact az_lret dX1_rowsInAll_29 (by rw [show i = k9 by omega]; exact hQ)
    · refine az_lload_n dX1_rowsInAll_11 ?_
      refine az_aload_n dX1_rowsInAll_12 ?_
      refine az_getf (v := .ref t) dX1_rowsInAll_13 fl_X1_39 g0 ?_
      refine az_getf (v := .int (nI (ln_tb w))) dX1_rowsInAll_16 fl_X1_83 hT0 ?_
      refine az_i2lN dX1_rowsInAll_19 ?_
      refine az_lmulN dX1_rowsInAll_20 ?_
      refine az_lstore_n (ls' := [(0, .ref u), (1, .ref a), (2, .int (nI k9)), (3, .long (lN ((ln_tb w ^ i) * (ln_tb w)))), (5, .int (nI i))]) dX1_rowsInAll_21 ?_
      refine az_iincN (n := 1) (ls' := [(0, .ref u), (1, .ref a), (2, .int (nI k9)), (3, .long (lN ((ln_tb w ^ i) * (ln_tb w)))), (5, .int (nI (i + 1)))]) dX1_rowsInAll_22 ?_
      refine az_goto (tgt := 5) dX1_rowsInAll_25 ?_
      rw [← Nat.pow_succ]
      exact ih _ (by omega) (i + 1) rfl (by omega)
  refine az_M.of rfl (Nat.le_of_ble_eq_true rfl) ?_
  show az_W _ _ _ _ 0 [(0, .ref u), (1, .ref a), (2, .int (nI k9))] [] _ _
  refine az_lconst (v := lN 1) dX1_rowsInAll_0 ?_
  refine az_lstore_n (ls' := [(0, .ref u), (1, .ref a), (2, .int (nI k9)), (3, .long (lN 1))]) dX1_rowsInAll_1 ?_
  refine az_iconst (v := nI 0) dX1_rowsInAll_2 ?_
  refine az_istore (ls' := [(0, .ref u), (1, .ref a), (2, .int (nI k9)), (3, .long (lN 1)), (5, .int (nI 0))]) dX1_rowsInAll_3 ?_
  exact loop _ 0 rfl (Nat.zero_le _)
