/-! Futures: what was laid down -/
set_option maxRecDepth 100000 in
theorem s_tableInRow {d u wn wx i : Nat} {t0 tl : Value} {r : Nat → Int32} {hp : az_Hp} {Q : Option Value → az_Hp → Prop} (h0 : hp.2 u = some (az_O 1 [t0, .ref (u + 1), .ref (u + 2), .ref (u + 3), .ref (u + 4), tl, .ref wn, .ref wx])) (h2 : hp.2 (u + 2) = some (az_I 8 r)) (hi : i < 8) (hQ : Q (some (.int (r i))) hp) : az_M mX1_tableInRow d 0 0 [.ref u, .int (nI i)] hp Q := by
  refine az_M.of rfl (Nat.le_of_ble_eq_true rfl) ?_
  show az_W _ _ _ _ 0 [(0, .ref u), (1, .int (nI i))] [] _ _
  refine az_iload_n dX1_tableInRow_0 ?_
  refine az_if_ltN (tgt := 22) dX1_tableInRow_1 (fun c1 => ?_) (fun c1 => ?_)
  · first | exact c1.elim | exact absurd c1 (by omega)
  · refine az_iload_n dX1_tableInRow_4 ?_
    refine az_aload_n dX1_tableInRow_5 ?_
    refine az_getf (v := .ref (u + 2)) dX1_tableInRow_6 fl_X1_15 h0 ?_
    refine az_alen dX1_tableInRow_9 h2 ?_
    refine az_icmp_geN (tgt := 22) dX1_tableInRow_10 (fun c10 => ?_) (fun c10 => ?_)
    · exact absurd hi (by omega)
    · refine az_aload_n dX1_tableInRow_13 ?_
      refine az_getf (v := .ref (u + 2)) dX1_tableInRow_14 fl_X1_15 h0 ?_
      refine az_iload_n dX1_tableInRow_17 ?_
      refine az_ialdN (j := i) dX1_tableInRow_18 h2 ?_
      refine az_goto (tgt := 23) dX1_tableInRow_19 ?_
      exact az_iret dX1_tableInRow_23 (hQ)
set_option maxRecDepth 100000 in
theorem s_tablesSeen {d u wn wx i : Nat} {t0 tl : Value} {r : Nat → Int32} {hp : az_Hp} {Q : Option Value → az_Hp → Prop} (h0 : hp.2 u = some (az_O 1 [t0, .ref (u + 1), .ref (u + 2), .ref (u + 3), .ref (u + 4), tl, .ref wn, .ref wx])) (h2 : hp.2 (u + 3) = some (az_I 8 r)) (hi : i < 8) (hQ : Q (some (.int (r i))) hp) : az_M mX1_tablesSeen d 0 0 [.ref u, .int (nI i)] hp Q := by
  refine az_M.of rfl (Nat.le_of_ble_eq_true rfl) ?_
  show az_W _ _ _ _ 0 [(0, .ref u), (1, .int (nI i))] [] _ _
  refine az_iload_n dX1_tablesSeen_0 ?_
  refine az_if_ltN (tgt := 22) dX1_tablesSeen_1 (fun c1 => ?_) (fun c1 => ?_)
  · first | exact c1.elim | exact absurd c1 (by omega)
  · refine az_iload_n dX1_tablesSeen_4 ?_
    refine az_aload_n dX1_tablesSeen_5 ?_
    refine az_getf (v := .ref (u + 3)) dX1_tablesSeen_6 fl_X1_19 h0 ?_
    refine az_alen dX1_tablesSeen_9 h2 ?_
    refine az_icmp_geN (tgt := 22) dX1_tablesSeen_10 (fun c10 => ?_) (fun c10 => ?_)
    · exact absurd hi (by omega)
    · refine az_aload_n dX1_tablesSeen_13 ?_
      refine az_getf (v := .ref (u + 3)) dX1_tablesSeen_14 fl_X1_19 h0 ?_
      refine az_iload_n dX1_tablesSeen_17 ?_
      refine az_ialdN (j := i) dX1_tablesSeen_18 h2 ?_
      refine az_goto (tgt := 23) dX1_tablesSeen_19 ?_
      exact az_iret dX1_tablesSeen_23 (hQ)
