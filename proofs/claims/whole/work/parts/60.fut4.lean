/-! Futures: rows, turns, all rows -/
/-- how many rows of k tables make it just so long -/
def fu_rows (w : ln_W) (n : Nat) : Nat → (Nat → Nat) → Nat
  | 0, c => if fu_l c = n then 1 else 0
  | k + 1, c => sm (fun tb => fu_rows w n k (fu_n w tb c)) (ln_tb w)
set_option maxRecDepth 100000 in
theorem s_rowsFrom0 {d u t wn wx dp n : Nat} {w : ln_W} {tl : Value} {c : Nat → Nat} {f : Nat → Int64} {hp : az_Hp} {Q : Option Value → az_Hp → Prop} (hd : 1 ≤ d) (h0 : hp.2 u = some (az_O 1 [.ref t, .ref (u + 1), .ref (u + 2), .ref (u + 3), .ref (u + 4), tl, .ref wn, .ref wx])) (h1 : hp.2 (u + 1) = some (az_J 54 f)) (hdp : dp ≤ 7) (hc : ∀ x, x < 6 → f (dp * 6 + x) = lN (c x)) (hb : fu_l c < 2 ^ 62) (hn : n < 2 ^ 63) (hQ : Q (some (.int (nI (fu_rows w n 0 c)))) hp) : az_M mX1_rowsFrom d 0 0 [.ref u, .long (lN n), .int (nI dp), .int (nI dp)] hp Q := by
  refine az_M.of rfl (Nat.le_of_ble_eq_true rfl) ?_
  show az_W _ _ _ _ 0 [(0, .ref u), (1, .long (lN n)), (3, .int (nI dp)), (4, .int (nI dp))] [] _ _
  refine az_iload dX1_rowsFrom_0 ?_
  refine az_iload_n dX1_rowsFrom_2 ?_
  refine az_icmp_geN (tgt := 13) dX1_rowsFrom_3 (fun c3 => ?_) (fun c3 => ?_)
  · refine az_aload_n dX1_rowsFrom_13 ?_
    refine az_iload dX1_rowsFrom_14 ?_
    refine az_cV0 (st := []) dX1_rowsFrom_16 ml_X1_79 h0 (s_spanAt (d := d - 1) h0 h1 (by omega) hc ?_)
    refine az_lload_n dX1_rowsFrom_19 ?_
    refine az_lcmp_neN (tgt := 28) dX1_rowsFrom_20 dX1_rowsFrom_21 (fun c20 => ?_) (fun c20 => ?_)
    · refine az_iconst (v := nI 0) dX1_rowsFrom_28 ?_
      exact az_iret dX1_rowsFrom_29 (by first | (rw [fu_rows, if_pos c20] at hQ; exact hQ) | (rw [fu_rows, if_neg c20] at hQ; exact hQ))
    · refine az_iconst (v := nI 1) dX1_rowsFrom_24 ?_
      refine az_goto (tgt := 29) dX1_rowsFrom_25 ?_
      exact az_iret dX1_rowsFrom_29 (by first | (rw [fu_rows, if_pos c20] at hQ; exact hQ) | (rw [fu_rows, if_neg c20] at hQ; exact hQ))
  · exact absurd (Nat.le_refl dp) (by omega)
set_option maxHeartbeats 4000000 in
set_option maxRecDepth 100000 in
theorem s_rowsFrom {w : ln_W} (hw : ln_ok w) {u t wn wx n : Nat} {tl : Value} (hn : n < 2 ^ 63) : ∀ (kn : Nat) {d dp : Nat} {c : Nat → Nat} {f : Nat → Int64} {hp : az_Hp} {Q : Option Value → az_Hp → Prop} (hd : kn + 4 ≤ d) (hT : ln_To hp t w u (u + 4)) (h0 : hp.2 u = some (az_O 1 [.ref t, .ref (u + 1), .ref (u + 2), .ref (u + 3), .ref (u + 4), tl, .ref wn, .ref wx])) (h1 : hp.2 (u + 1) = some (az_J 54 f)) (hdp : dp + kn ≤ 7) (hc : ∀ x, x < 6 → f (dp * 6 + x) = lN (c x)) (hb : fu_l c * 4 ^ kn < 2 ^ 62) (hQ : ∀ (h' : az_Hp) (f' : Nat → Int64), h'.2 (u + 1) = some (az_J 54 f') → (∀ j, j < dp * 6 + 6 → f' j = f j) → az_fr hp h' (u + 1) (u + 2) → Q (some (.int (nI (fu_rows w n kn c)))) h'), az_M mX1_rowsFrom d 0 0 [.ref u, .long (lN n), .int (nI (dp + kn)), .int (nI dp)] hp Q := by
  intro kn
  induction kn with
  | zero =>
    intro d dp c f hp Q hd hT h0 h1 hdp hc hb hQ
    exact s_rowsFrom0 (w := w) (by omega) h0 h1 hdp hc (fu_l_lt hb) hn (hQ hp f h1 (fun j _ => rfl) az_fr.rf)
  | succ kn IH =>
  intro d dp c f hp Q hd hT h0 h1 hdp hc hb hQ
  have htb := hw.2.1
  have hbk := fun tb => fu_n_l hw (tb := tb) hb
  have hcb := fu_c_lt (fu_l_lt hb)
  have loop : ∀ (k : Nat) (tb : Nat) (f' : Nat → Int64) (h' : az_Hp), ln_tb w - tb = k → (tb ≤ ln_tb w) → (h'.2 (u + 1) = some (az_J 54 f')) → (∀ j, j < dp * 6 + 6 → f' j = f j) → (az_fr hp h' (u + 1) (u + 2)) → az_W mX1_rowsFrom d 0 0 36 [(0, .ref u), (1, .long (lN n)), (3, .int (nI (dp + (kn + 1)))), (4, .int (nI dp)), (5, .int (nI (sm (fun tb => fu_rows w n kn (fu_n w tb c)) tb))), (6, .int (nI tb))] [] h' Q := by
    intro k
    induction k using Nat.strongRecOn with
    | _ k ih =>
    intro tb f' h' hk htl e1 ho hfr
    have hT' : ln_To h' t w u (u + 4) := hT.fr (hfr.wide (lo' := u) (hi' := u + 4))
    obtain ⟨a4', a5', hT0', -⟩ := id hT'
    refine az_iload dX1_rowsFrom_36 ?_
    refine az_aload_n dX1_rowsFrom_38 ?_
    refine az_getf (v := .ref t) dX1_rowsFrom_39 fl_X1_35 (hfr.at h0) ?_
    refine az_getf (v := .int (nI (ln_tb w))) dX1_rowsFrom_42 fl_X1_83 hT0' ?_
    refine az_icmp_geN (tgt := 111) dX1_rowsFrom_45 (fun c45 => ?_) (fun c45 => ?_)
    · refine az_iload dX1_rowsFrom_111 ?_
      exact az_iret dX1_rowsFrom_113 (by rw [show tb = ln_tb w by omega]; exact hQ h' f' e1 ho hfr)
    · refine az_iload dX1_rowsFrom_48 ?_
      refine az_iload_n dX1_rowsFrom_50 ?_
      refine az_iconst (v := nI 1) dX1_rowsFrom_51 ?_
      refine az_isubN dX1_rowsFrom_52 (by omega) ?_
      refine az_icmp_neN (tgt := 82) dX1_rowsFrom_53 (fun c53 => ?_) (fun c53 => ?_)
      · refine az_aload_n dX1_rowsFrom_82 ?_
        refine az_iload dX1_rowsFrom_83 ?_
        refine az_iload dX1_rowsFrom_85 ?_
        refine az_cV0 (st := []) dX1_rowsFrom_87 ml_X1_91 (hfr.at h0) (s_passNight (d := d - 1) (by omega) hw hT' (hfr.at h0) e1 (dp := dp) (by omega) (tb := tb) (by omega) (c := c) (fun x q => (by rw [ho _ (by omega)]; exact hc x q)) (fun x q => Nat.lt_of_lt_of_le (hcb x q) (by decide)) ?_)
        intro g q1 q2
        refine az_iload dX1_rowsFrom_90 ?_
        refine az_aload_n dX1_rowsFrom_92 ?_
        refine az_lload_n dX1_rowsFrom_93 ?_
        refine az_iload_n dX1_rowsFrom_94 ?_
        refine az_iload dX1_rowsFrom_95 ?_
        refine az_iconst (v := nI 1) dX1_rowsFrom_97 ?_
        refine az_iaddN dX1_rowsFrom_98 ?_
        rw [show dp + (kn + 1) = dp + 1 + kn by omega]
        refine az_cV0 (st := [.int (nI (sm (fun tb => fu_rows w n kn (fu_n w tb c)) tb))]) dX1_rowsFrom_99 ml_X1_94 (az_up_ne (hfr.at h0)) (IH (d := d - 1) (by omega) (hT'.fr az_fr.rf.up) (az_up_ne (hfr.at h0)) az_up_eq (dp := dp + 1) (by omega) (c := fu_n w tb c) (fun x q => (by rw [show (dp + 1) * 6 + x = dp * 6 + 6 + x by omega]; exact q2 x q)) (hbk tb) ?_)
        intro h2' f2 e12 ho2 fr2
        rw [show dp + 1 + kn = dp + (kn + 1) by omega]
        show az_W _ _ _ _ _ _ (.int (nI ((fun tb => fu_rows w n kn (fu_n w tb c)) tb)) :: _) _ _
        refine az_iaddN dX1_rowsFrom_102 ?_
        refine az_istore (ls' := [(0, .ref u), (1, .long (lN n)), (3, .int (nI (dp + (kn + 1)))), (4, .int (nI dp)), (5, .int (nI ((sm (fun tb => fu_rows w n kn (fu_n w tb c)) tb) + ((fun tb => fu_rows w n kn (fu_n w tb c)) tb)))), (6, .int (nI tb))]) dX1_rowsFrom_103 ?_
        refine az_iincN (n := 1) (ls' := [(0, .ref u), (1, .long (lN n)), (3, .int (nI (dp + (kn + 1)))), (4, .int (nI dp)), (5, .int (nI ((sm (fun tb => fu_rows w n kn (fu_n w tb c)) tb) + ((fun tb => fu_rows w n kn (fu_n w tb c)) tb)))), (6, .int (nI (tb + 1)))]) dX1_rowsFrom_105 ?_
        refine az_goto (tgt := 36) dX1_rowsFrom_108 ?_
        first | (have hk0 : kn = 0 := (by omega); rw [show sm (fun tb => fu_rows w n kn (fu_n w tb c)) tb + 1 = sm (fun tb => fu_rows w n kn (fu_n w tb c)) (tb + 1) by (rw [sm]; show _ = _ + fu_rows w n kn _; rw [hk0, fu_rows, if_pos (by rw [fu_b_is hw]; exact c67)])]; exact ih _ (by omega) (tb + 1) f' h' rfl (by omega) e1 ho hfr) | (have hk0 : kn = 0 := (by omega); rw [show sm (fun tb => fu_rows w n kn (fu_n w tb c)) tb + 0 = sm (fun tb => fu_rows w n kn (fu_n w tb c)) (tb + 1) by (rw [sm]; show _ = _ + fu_rows w n kn _; rw [hk0, fu_rows, if_neg (by rw [fu_b_is hw]; exact c67)])]; exact ih _ (by omega) (tb + 1) f' h' rfl (by omega) e1 ho hfr) | exact ih _ (by omega) (tb + 1) f2 h2' rfl (by omega) e12 (fun j q => (by rw [ho2 j (by omega), q1 j q]; exact ho j q)) ((hfr.up).tr fr2)
      · refine az_iload dX1_rowsFrom_56 ?_
        refine az_aload_n dX1_rowsFrom_58 ?_
        refine az_iload dX1_rowsFrom_59 ?_
        refine az_iload dX1_rowsFrom_61 ?_
        refine az_cV0 (st := [.int (nI (sm (fun tb => fu_rows w n kn (fu_n w tb c)) tb))]) dX1_rowsFrom_63 ml_X1_87 (hfr.at h0) (s_spanByF (d := d - 1) hw hT'.town (hfr.at h0) e1 (dp := dp) (by omega) (tb := tb) (by omega) (c := c) (fun x q => (by rw [ho _ (by omega)]; exact hc x q)) ?_)
        have hbs := fu_l_lt (hbk tb)
        rw [fu_b_is hw] at hbs
        refine az_lload_n dX1_rowsFrom_66 ?_
        refine az_lcmp_neN (tgt := 75) dX1_rowsFrom_67 dX1_rowsFrom_68 (fun c67 => ?_) (fun c67 => ?_)
        · refine az_iconst (v := nI 0) dX1_rowsFrom_75 ?_
          refine az_iaddN dX1_rowsFrom_76 ?_
          refine az_istore (ls' := [(0, .ref u), (1, .long (lN n)), (3, .int (nI (dp + (kn + 1)))), (4, .int (nI dp)), (5, .int (nI ((sm (fun tb => fu_rows w n kn (fu_n w tb c)) tb) + 0))), (6, .int (nI tb))]) dX1_rowsFrom_77 ?_
          refine az_goto (tgt := 105) dX1_rowsFrom_79 ?_
          refine az_iincN (n := 1) (ls' := [(0, .ref u), (1, .long (lN n)), (3, .int (nI (dp + (kn + 1)))), (4, .int (nI dp)), (5, .int (nI ((sm (fun tb => fu_rows w n kn (fu_n w tb c)) tb) + 0))), (6, .int (nI (tb + 1)))]) dX1_rowsFrom_105 ?_
          refine az_goto (tgt := 36) dX1_rowsFrom_108 ?_
          first | (have hk0 : kn = 0 := (by omega); rw [show sm (fun tb => fu_rows w n kn (fu_n w tb c)) tb + 1 = sm (fun tb => fu_rows w n kn (fu_n w tb c)) (tb + 1) by (rw [sm]; show _ = _ + fu_rows w n kn _; rw [hk0, fu_rows, if_pos (by rw [fu_b_is hw]; exact c67)])]; exact ih _ (by omega) (tb + 1) f' h' rfl (by omega) e1 ho hfr) | (have hk0 : kn = 0 := (by omega); rw [show sm (fun tb => fu_rows w n kn (fu_n w tb c)) tb + 0 = sm (fun tb => fu_rows w n kn (fu_n w tb c)) (tb + 1) by (rw [sm]; show _ = _ + fu_rows w n kn _; rw [hk0, fu_rows, if_neg (by rw [fu_b_is hw]; exact c67)])]; exact ih _ (by omega) (tb + 1) f' h' rfl (by omega) e1 ho hfr) | exact ih _ (by omega) (tb + 1) f2 h2' rfl (by omega) e12 (fun j q => (by rw [ho2 j (by omega), q1 j q]; exact ho j q)) ((hfr.up).tr fr2)
        · refine az_iconst (v := nI 1) dX1_rowsFrom_71 ?_
          refine az_goto (tgt := 76) dX1_rowsFrom_72 ?_
          refine az_iaddN dX1_rowsFrom_76 ?_
          refine az_istore (ls' := [(0, .ref u), (1, .long (lN n)), (3, .int (nI (dp + (kn + 1)))), (4, .int (nI dp)), (5, .int (nI ((sm (fun tb => fu_rows w n kn (fu_n w tb c)) tb) + 1))), (6, .int (nI tb))]) dX1_rowsFrom_77 ?_
          refine az_goto (tgt := 105) dX1_rowsFrom_79 ?_
          refine az_iincN (n := 1) (ls' := [(0, .ref u), (1, .long (lN n)), (3, .int (nI (dp + (kn + 1)))), (4, .int (nI dp)), (5, .int (nI ((sm (fun tb => fu_rows w n kn (fu_n w tb c)) tb) + 1))), (6, .int (nI (tb + 1)))]) dX1_rowsFrom_105 ?_
          refine az_goto (tgt := 36) dX1_rowsFrom_108 ?_
          first | (have hk0 : kn = 0 := (by omega); rw [show sm (fun tb => fu_rows w n kn (fu_n w tb c)) tb + 1 = sm (fun tb => fu_rows w n kn (fu_n w tb c)) (tb + 1) by (rw [sm]; show _ = _ + fu_rows w n kn _; rw [hk0, fu_rows, if_pos (by rw [fu_b_is hw]; exact c67)])]; exact ih _ (by omega) (tb + 1) f' h' rfl (by omega) e1 ho hfr) | (have hk0 : kn = 0 := (by omega); rw [show sm (fun tb => fu_rows w n kn (fu_n w tb c)) tb + 0 = sm (fun tb => fu_rows w n kn (fu_n w tb c)) (tb + 1) by (rw [sm]; show _ = _ + fu_rows w n kn _; rw [hk0, fu_rows, if_neg (by rw [fu_b_is hw]; exact c67)])]; exact ih _ (by omega) (tb + 1) f' h' rfl (by omega) e1 ho hfr) | exact ih _ (by omega) (tb + 1) f2 h2' rfl (by omega) e12 (fun j q => (by rw [ho2 j (by omega), q1 j q]; exact ho j q)) ((hfr.up).tr fr2)
  refine az_M.of rfl (Nat.le_of_ble_eq_true rfl) ?_
  show az_W _ _ _ _ 0 [(0, .ref u), (1, .long (lN n)), (3, .int (nI (dp + (kn + 1)))), (4, .int (nI dp))] [] _ _
  refine az_iload dX1_rowsFrom_0 ?_
  refine az_iload_n dX1_rowsFrom_2 ?_
  refine az_icmp_geN (tgt := 13) dX1_rowsFrom_3 (fun c3 => ?_) (fun c3 => ?_)
  · exact absurd c3 (by omega)
  · refine az_iload dX1_rowsFrom_6 ?_
    refine az_bipush (v := nI 8) dX1_rowsFrom_8 ?_
    refine az_icmp_ltN (tgt := 30) dX1_rowsFrom_10 (fun c10 => ?_) (fun c10 => ?_)
    · refine az_iconst (v := nI 0) dX1_rowsFrom_30 ?_
      refine az_istore (ls' := [(0, .ref u), (1, .long (lN n)), (3, .int (nI (dp + (kn + 1)))), (4, .int (nI dp)), (5, .int (nI 0))]) dX1_rowsFrom_31 ?_
      refine az_iconst (v := nI 0) dX1_rowsFrom_33 ?_
      refine az_istore (ls' := [(0, .ref u), (1, .long (lN n)), (3, .int (nI (dp + (kn + 1)))), (4, .int (nI dp)), (5, .int (nI 0)), (6, .int (nI 0))]) dX1_rowsFrom_34 ?_
      exact loop _ 0 f hp rfl (Nat.zero_le _) h1 (fun j _ => rfl) az_fr.rf
    · exact absurd c10 (by omega)
