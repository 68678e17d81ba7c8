/-! LetterNights: told -/
set_option maxHeartbeats 4000000 in
set_option maxRecDepth 100000 in
theorem p_told0 {d : Nat} {tp fk mo ni K : Nat} {bt : Nat → Nat} {fp : Int32} {v : rd_V} {bs : List Nat} {U : ln_U} {im : Nat → Option (rd_V × ln_Z)} {tr : Nat → Option (Nat × List Int64)} {hp : az_Hp} {Q : Option Value → az_Hp → Prop} (hd : 1 ≤ d) (hC : cs hp ((tp, bt), (fk, fp), v, (mo, ni, bs), U, im, tr) K) (hQ : Q (some (.int (nI (ln_tb (rd_w v))))) hp) : az_M mX11_told d 0 0 [.ref 0, .int (nI 0)] hp Q := by
  obtain ⟨hok, t, F, ia, kk, kt, x1, x2, x3, x4, x5, x6, x7, x8, x9, x10, x11, x12, x13, x14⟩ := id hC
  have hw : ln_ok (rd_w v) := hok.2.2.1.1
  have hlaw : ln_law (rd_w v) v.2.2.2.2.2.2.2.1 v.2.2.2.2.2.2.2.2 := hok.2.2.1.2
  have hba : ln_ba (rd_w v) bs := hok.2.2.2.1
  have hb : ln_by (rd_w v) bs := hba.b
  have x4 : ln_Past hp 6 U := x4
  have x5 : cs_im hp im ia F := x5
  have x6 : cs_tr hp tr := x6
  have x10 : ln_Scene hp 30 t (rd_w v) mo ni bs := x10
  have x13 : ln_Tf hp t (rd_w v) F := x13
  have x14 : cs_ad hp im F ia kk kt := x14
  obtain ⟨hi, fr, la, no, wa, nc, g0, -⟩ := id x10
  obtain ⟨a4, a5, t0, -⟩ := id x13
  obtain ⟨fa, fn, fm, p0, -⟩ := id x4

  refine az_M.of rfl (Nat.le_of_ble_eq_true rfl) ?_
  show az_W _ _ _ _ 0 [(0, .ref 0), (1, .int (nI 0))] [] _ _
  refine az_iload_n dX11_told_0 ?_
  refine az_tswIn (off := 55) (tgt := 56) dX11_told_1 (by decide) (by decide) (by rfl) (by decide) ?_
  refine az_aload_n dX11_told_56 ?_
  refine az_getf (v := .ref 30) dX11_told_57 fl_X11_66 x1 ?_
  refine az_getf (v := .ref t) dX11_told_60 fl_X11_116 g0 ?_
  refine az_getf (v := .int (nI (ln_tb (rd_w v)))) dX11_told_63 fl_X11_268 t0 ?_
  exact az_iret dX11_told_66 (hQ)
set_option maxHeartbeats 4000000 in
set_option maxRecDepth 100000 in
theorem p_told1 {d : Nat} {tp fk mo ni K : Nat} {bt : Nat → Nat} {fp : Int32} {v : rd_V} {bs : List Nat} {U : ln_U} {im : Nat → Option (rd_V × ln_Z)} {tr : Nat → Option (Nat × List Int64)} {hp : az_Hp} {Q : Option Value → az_Hp → Prop} (hd : 1 ≤ d) (hC : cs hp ((tp, bt), (fk, fp), v, (mo, ni, bs), U, im, tr) K) (hQ : Q (some (.int (nI mo))) hp) : az_M mX11_told d 0 0 [.ref 0, .int (nI 1)] hp Q := by
  obtain ⟨hok, t, F, ia, kk, kt, x1, x2, x3, x4, x5, x6, x7, x8, x9, x10, x11, x12, x13, x14⟩ := id hC
  have hw : ln_ok (rd_w v) := hok.2.2.1.1
  have hlaw : ln_law (rd_w v) v.2.2.2.2.2.2.2.1 v.2.2.2.2.2.2.2.2 := hok.2.2.1.2
  have hba : ln_ba (rd_w v) bs := hok.2.2.2.1
  have hb : ln_by (rd_w v) bs := hba.b
  have x4 : ln_Past hp 6 U := x4
  have x5 : cs_im hp im ia F := x5
  have x6 : cs_tr hp tr := x6
  have x10 : ln_Scene hp 30 t (rd_w v) mo ni bs := x10
  have x13 : ln_Tf hp t (rd_w v) F := x13
  have x14 : cs_ad hp im F ia kk kt := x14
  obtain ⟨hi, fr, la, no, wa, nc, g0, -⟩ := id x10
  obtain ⟨a4, a5, t0, -⟩ := id x13
  obtain ⟨fa, fn, fm, p0, -⟩ := id x4

  refine az_M.of rfl (Nat.le_of_ble_eq_true rfl) ?_
  show az_W _ _ _ _ 0 [(0, .ref 0), (1, .int (nI 1))] [] _ _
  refine az_iload_n dX11_told_0 ?_
  refine az_tswIn (off := 66) (tgt := 67) dX11_told_1 (by decide) (by decide) (by rfl) (by decide) ?_
  refine az_aload_n dX11_told_67 ?_
  refine az_getf (v := .ref 30) dX11_told_68 fl_X11_66 x1 ?_
  refine az_getf (v := .int (nI mo)) dX11_told_71 fl_X11_180 g0 ?_
  exact az_iret dX11_told_74 (hQ)
set_option maxHeartbeats 4000000 in
set_option maxRecDepth 100000 in
theorem p_told2 {d : Nat} {tp fk mo ni K : Nat} {bt : Nat → Nat} {fp : Int32} {v : rd_V} {bs : List Nat} {U : ln_U} {im : Nat → Option (rd_V × ln_Z)} {tr : Nat → Option (Nat × List Int64)} {hp : az_Hp} {Q : Option Value → az_Hp → Prop} (hd : 1 ≤ d) (hC : cs hp ((tp, bt), (fk, fp), v, (mo, ni, bs), U, im, tr) K) (hQ : Q (some (.int (nI ni))) hp) : az_M mX11_told d 0 0 [.ref 0, .int (nI 2)] hp Q := by
  obtain ⟨hok, t, F, ia, kk, kt, x1, x2, x3, x4, x5, x6, x7, x8, x9, x10, x11, x12, x13, x14⟩ := id hC
  have hw : ln_ok (rd_w v) := hok.2.2.1.1
  have hlaw : ln_law (rd_w v) v.2.2.2.2.2.2.2.1 v.2.2.2.2.2.2.2.2 := hok.2.2.1.2
  have hba : ln_ba (rd_w v) bs := hok.2.2.2.1
  have hb : ln_by (rd_w v) bs := hba.b
  have x4 : ln_Past hp 6 U := x4
  have x5 : cs_im hp im ia F := x5
  have x6 : cs_tr hp tr := x6
  have x10 : ln_Scene hp 30 t (rd_w v) mo ni bs := x10
  have x13 : ln_Tf hp t (rd_w v) F := x13
  have x14 : cs_ad hp im F ia kk kt := x14
  obtain ⟨hi, fr, la, no, wa, nc, g0, -⟩ := id x10
  obtain ⟨a4, a5, t0, -⟩ := id x13
  obtain ⟨fa, fn, fm, p0, -⟩ := id x4

  refine az_M.of rfl (Nat.le_of_ble_eq_true rfl) ?_
  show az_W _ _ _ _ 0 [(0, .ref 0), (1, .int (nI 2))] [] _ _
  refine az_iload_n dX11_told_0 ?_
  refine az_tswIn (off := 74) (tgt := 75) dX11_told_1 (by decide) (by decide) (by rfl) (by decide) ?_
  refine az_aload_n dX11_told_75 ?_
  refine az_getf (v := .ref 30) dX11_told_76 fl_X11_66 x1 ?_
  refine az_getf (v := .int (nI ni)) dX11_told_79 fl_X11_335 g0 ?_
  exact az_iret dX11_told_82 (hQ)
set_option maxHeartbeats 4000000 in
set_option maxRecDepth 100000 in
theorem p_told3 {d : Nat} {tp fk mo ni K : Nat} {bt : Nat → Nat} {fp : Int32} {v : rd_V} {bs : List Nat} {U : ln_U} {im : Nat → Option (rd_V × ln_Z)} {tr : Nat → Option (Nat × List Int64)} {hp : az_Hp} {Q : Option Value → az_Hp → Prop} (hd : 1 ≤ d) (hC : cs hp ((tp, bt), (fk, fp), v, (mo, ni, bs), U, im, tr) K) (hQ : Q (some (.int (nI bs.length))) hp) : az_M mX11_told d 0 0 [.ref 0, .int (nI 3)] hp Q := by
  obtain ⟨hok, t, F, ia, kk, kt, x1, x2, x3, x4, x5, x6, x7, x8, x9, x10, x11, x12, x13, x14⟩ := id hC
  have hw : ln_ok (rd_w v) := hok.2.2.1.1
  have hlaw : ln_law (rd_w v) v.2.2.2.2.2.2.2.1 v.2.2.2.2.2.2.2.2 := hok.2.2.1.2
  have hba : ln_ba (rd_w v) bs := hok.2.2.2.1
  have hb : ln_by (rd_w v) bs := hba.b
  have x4 : ln_Past hp 6 U := x4
  have x5 : cs_im hp im ia F := x5
  have x6 : cs_tr hp tr := x6
  have x10 : ln_Scene hp 30 t (rd_w v) mo ni bs := x10
  have x13 : ln_Tf hp t (rd_w v) F := x13
  have x14 : cs_ad hp im F ia kk kt := x14
  obtain ⟨hi, fr, la, no, wa, nc, g0, -⟩ := id x10
  obtain ⟨a4, a5, t0, -⟩ := id x13
  obtain ⟨fa, fn, fm, p0, -⟩ := id x4

  refine az_M.of rfl (Nat.le_of_ble_eq_true rfl) ?_
  show az_W _ _ _ _ 0 [(0, .ref 0), (1, .int (nI 3))] [] _ _
  refine az_iload_n dX11_told_0 ?_
  refine az_tswIn (off := 82) (tgt := 83) dX11_told_1 (by decide) (by decide) (by rfl) (by decide) ?_
  refine az_aload_n dX11_told_83 ?_
  refine az_getf (v := .ref 30) dX11_told_84 fl_X11_66 x1 ?_
  refine az_getf (v := .int (nI bs.length)) dX11_told_87 fl_X11_338 g0 ?_
  exact az_iret dX11_told_90 (hQ)
set_option maxHeartbeats 4000000 in
set_option maxRecDepth 100000 in
theorem p_told4 {d : Nat} {tp fk mo ni K : Nat} {bt : Nat → Nat} {fp : Int32} {v : rd_V} {bs : List Nat} {U : ln_U} {im : Nat → Option (rd_V × ln_Z)} {tr : Nat → Option (Nat × List Int64)} {hp : az_Hp} {Q : Option Value → az_Hp → Prop} (hd : 1 ≤ d) (hC : cs hp ((tp, bt), (fk, fp), v, (mo, ni, bs), U, im, tr) K) (hQ : Q (some (.int (nI ((ln_str (rd_w v) bs).head?.getD 6)))) hp) : az_M mX11_told d 0 0 [.ref 0, .int (nI 4)] hp Q := by
  obtain ⟨hok, t, F, ia, kk, kt, x1, x2, x3, x4, x5, x6, x7, x8, x9, x10, x11, x12, x13, x14⟩ := id hC
  have hw : ln_ok (rd_w v) := hok.2.2.1.1
  have hlaw : ln_law (rd_w v) v.2.2.2.2.2.2.2.1 v.2.2.2.2.2.2.2.2 := hok.2.2.1.2
  have hba : ln_ba (rd_w v) bs := hok.2.2.2.1
  have hb : ln_by (rd_w v) bs := hba.b
  have x4 : ln_Past hp 6 U := x4
  have x5 : cs_im hp im ia F := x5
  have x6 : cs_tr hp tr := x6
  have x10 : ln_Scene hp 30 t (rd_w v) mo ni bs := x10
  have x13 : ln_Tf hp t (rd_w v) F := x13
  have x14 : cs_ad hp im F ia kk kt := x14
  obtain ⟨hi, fr, la, no, wa, nc, g0, -⟩ := id x10
  obtain ⟨a4, a5, t0, -⟩ := id x13
  obtain ⟨fa, fn, fm, p0, -⟩ := id x4
  refine az_M.of rfl (Nat.le_of_ble_eq_true rfl) ?_
  show az_W _ _ _ _ 0 [(0, .ref 0), (1, .int (nI 4))] [] _ _
  refine az_iload_n dX11_told_0 ?_
  refine az_tswIn (off := 90) (tgt := 91) dX11_told_1 (by decide) (by decide) (by rfl) (by decide) ?_
  refine az_aload_n dX11_told_91 ?_
  refine az_getf (v := .ref 30) dX11_told_92 fl_X11_66 x1 ?_
  refine az_cV0 (st := []) dX11_told_95 ml_X11_208 g0 (s_frontLetter (d := d - 1) hw x10 ?_)
  exact az_iret dX11_told_98 (hQ)
set_option maxHeartbeats 4000000 in
set_option maxRecDepth 100000 in
theorem p_told5 {d : Nat} {tp fk mo ni K : Nat} {bt : Nat → Nat} {fp : Int32} {v : rd_V} {bs : List Nat} {U : ln_U} {im : Nat → Option (rd_V × ln_Z)} {tr : Nat → Option (Nat × List Int64)} {hp : az_Hp} {Q : Option Value → az_Hp → Prop} (hd : 1 ≤ d) (hC : cs hp ((tp, bt), (fk, fp), v, (mo, ni, bs), U, im, tr) K) (hQ : Q (some (.int (nI ((ln_str (rd_w v) bs).reverse.head?.getD 6)))) hp) : az_M mX11_told d 0 0 [.ref 0, .int (nI 5)] hp Q := by
  obtain ⟨hok, t, F, ia, kk, kt, x1, x2, x3, x4, x5, x6, x7, x8, x9, x10, x11, x12, x13, x14⟩ := id hC
  have hw : ln_ok (rd_w v) := hok.2.2.1.1
  have hlaw : ln_law (rd_w v) v.2.2.2.2.2.2.2.1 v.2.2.2.2.2.2.2.2 := hok.2.2.1.2
  have hba : ln_ba (rd_w v) bs := hok.2.2.2.1
  have hb : ln_by (rd_w v) bs := hba.b
  have x4 : ln_Past hp 6 U := x4
  have x5 : cs_im hp im ia F := x5
  have x6 : cs_tr hp tr := x6
  have x10 : ln_Scene hp 30 t (rd_w v) mo ni bs := x10
  have x13 : ln_Tf hp t (rd_w v) F := x13
  have x14 : cs_ad hp im F ia kk kt := x14
  obtain ⟨hi, fr, la, no, wa, nc, g0, -⟩ := id x10
  obtain ⟨a4, a5, t0, -⟩ := id x13
  obtain ⟨fa, fn, fm, p0, -⟩ := id x4
  refine az_M.of rfl (Nat.le_of_ble_eq_true rfl) ?_
  show az_W _ _ _ _ 0 [(0, .ref 0), (1, .int (nI 5))] [] _ _
  refine az_iload_n dX11_told_0 ?_
  refine az_tswIn (off := 98) (tgt := 99) dX11_told_1 (by decide) (by decide) (by rfl) (by decide) ?_
  refine az_aload_n dX11_told_99 ?_
  refine az_getf (v := .ref 30) dX11_told_100 fl_X11_66 x1 ?_
  refine az_cV0 (st := []) dX11_told_103 ml_X11_341 g0 (s_backLetter (d := d - 1) hw x10 ?_)
  exact az_iret dX11_told_106 (hQ)
set_option maxHeartbeats 4000000 in
set_option maxRecDepth 100000 in
theorem p_told6 {d : Nat} {tp fk mo ni K : Nat} {bt : Nat → Nat} {fp : Int32} {v : rd_V} {bs : List Nat} {U : ln_U} {im : Nat → Option (rd_V × ln_Z)} {tr : Nat → Option (Nat × List Int64)} {hp : az_Hp} {Q : Option Value → az_Hp → Prop} (hd : 1 ≤ d) (hC : cs hp ((tp, bt), (fk, fp), v, (mo, ni, bs), U, im, tr) K) (hQ : Q (some (.int (nI (ln_dd (ln_str (rd_w v) bs)).length))) hp) : az_M mX11_told d 0 0 [.ref 0, .int (nI 6)] hp Q := by
  obtain ⟨hok, t, F, ia, kk, kt, x1, x2, x3, x4, x5, x6, x7, x8, x9, x10, x11, x12, x13, x14⟩ := id hC
  have hw : ln_ok (rd_w v) := hok.2.2.1.1
  have hlaw : ln_law (rd_w v) v.2.2.2.2.2.2.2.1 v.2.2.2.2.2.2.2.2 := hok.2.2.1.2
  have hba : ln_ba (rd_w v) bs := hok.2.2.2.1
  have hb : ln_by (rd_w v) bs := hba.b
  have x4 : ln_Past hp 6 U := x4
  have x5 : cs_im hp im ia F := x5
  have x6 : cs_tr hp tr := x6
  have x10 : ln_Scene hp 30 t (rd_w v) mo ni bs := x10
  have x13 : ln_Tf hp t (rd_w v) F := x13
  have x14 : cs_ad hp im F ia kk kt := x14
  obtain ⟨hi, fr, la, no, wa, nc, g0, -⟩ := id x10
  obtain ⟨a4, a5, t0, -⟩ := id x13
  obtain ⟨fa, fn, fm, p0, -⟩ := id x4

  refine az_M.of rfl (Nat.le_of_ble_eq_true rfl) ?_
  show az_W _ _ _ _ 0 [(0, .ref 0), (1, .int (nI 6))] [] _ _
  refine az_iload_n dX11_told_0 ?_
  refine az_tswIn (off := 106) (tgt := 107) dX11_told_1 (by decide) (by decide) (by rfl) (by decide) ?_
  refine az_aload_n dX11_told_107 ?_
  refine az_getf (v := .ref 30) dX11_told_108 fl_X11_66 x1 ?_
  refine az_getf (v := .int (nI ((ln_dd (ln_str (rd_w v) bs)).length))) dX11_told_111 fl_X11_344 g0 ?_
  exact az_iret dX11_told_114 (hQ)
set_option maxHeartbeats 4000000 in
set_option maxRecDepth 100000 in
theorem p_told7 {d : Nat} {tp fk mo ni K : Nat} {bt : Nat → Nat} {fp : Int32} {v : rd_V} {bs : List Nat} {U : ln_U} {im : Nat → Option (rd_V × ln_Z)} {tr : Nat → Option (Nat × List Int64)} {hp : az_Hp} {Q : Option Value → az_Hp → Prop} (hd : 1 ≤ d) (hC : cs hp ((tp, bt), (fk, fp), v, (mo, ni, bs), U, im, tr) K) (hQ : Q (some (.int (nI U.length))) hp) : az_M mX11_told d 0 0 [.ref 0, .int (nI 7)] hp Q := by
  obtain ⟨hok, t, F, ia, kk, kt, x1, x2, x3, x4, x5, x6, x7, x8, x9, x10, x11, x12, x13, x14⟩ := id hC
  have hw : ln_ok (rd_w v) := hok.2.2.1.1
  have hlaw : ln_law (rd_w v) v.2.2.2.2.2.2.2.1 v.2.2.2.2.2.2.2.2 := hok.2.2.1.2
  have hba : ln_ba (rd_w v) bs := hok.2.2.2.1
  have hb : ln_by (rd_w v) bs := hba.b
  have x4 : ln_Past hp 6 U := x4
  have x5 : cs_im hp im ia F := x5
  have x6 : cs_tr hp tr := x6
  have x10 : ln_Scene hp 30 t (rd_w v) mo ni bs := x10
  have x13 : ln_Tf hp t (rd_w v) F := x13
  have x14 : cs_ad hp im F ia kk kt := x14
  obtain ⟨hi, fr, la, no, wa, nc, g0, -⟩ := id x10
  obtain ⟨a4, a5, t0, -⟩ := id x13
  obtain ⟨fa, fn, fm, p0, -⟩ := id x4

  refine az_M.of rfl (Nat.le_of_ble_eq_true rfl) ?_
  show az_W _ _ _ _ 0 [(0, .ref 0), (1, .int (nI 7))] [] _ _
  refine az_iload_n dX11_told_0 ?_
  refine az_tswIn (off := 114) (tgt := 115) dX11_told_1 (by decide) (by decide) (by rfl) (by decide) ?_
  refine az_aload_n dX11_told_115 ?_
  refine az_getf (v := .ref 6) dX11_told_116 fl_X11_23 x1 ?_
  refine az_getf (v := .int (nI U.length)) dX11_told_119 fl_X11_183 p0 ?_
  exact az_iret dX11_told_122 (hQ)
set_option maxHeartbeats 4000000 in
set_option maxRecDepth 100000 in
theorem p_told8 {d : Nat} {tp fk mo ni K : Nat} {bt : Nat → Nat} {fp : Int32} {v : rd_V} {bs : List Nat} {U : ln_U} {im : Nat → Option (rd_V × ln_Z)} {tr : Nat → Option (Nat × List Int64)} {hp : az_Hp} {Q : Option Value → az_Hp → Prop} (hd : 1 ≤ d) (hC : cs hp ((tp, bt), (fk, fp), v, (mo, ni, bs), U, im, tr) K) (hQ : Q (some (.int (nI tp))) hp) : az_M mX11_told d 0 0 [.ref 0, .int (nI 8)] hp Q := by
  obtain ⟨hok, t, F, ia, kk, kt, x1, x2, x3, x4, x5, x6, x7, x8, x9, x10, x11, x12, x13, x14⟩ := id hC
  have hw : ln_ok (rd_w v) := hok.2.2.1.1
  have hlaw : ln_law (rd_w v) v.2.2.2.2.2.2.2.1 v.2.2.2.2.2.2.2.2 := hok.2.2.1.2
  have hba : ln_ba (rd_w v) bs := hok.2.2.2.1
  have hb : ln_by (rd_w v) bs := hba.b
  have x4 : ln_Past hp 6 U := x4
  have x5 : cs_im hp im ia F := x5
  have x6 : cs_tr hp tr := x6
  have x10 : ln_Scene hp 30 t (rd_w v) mo ni bs := x10
  have x13 : ln_Tf hp t (rd_w v) F := x13
  have x14 : cs_ad hp im F ia kk kt := x14
  obtain ⟨hi, fr, la, no, wa, nc, g0, -⟩ := id x10
  obtain ⟨a4, a5, t0, -⟩ := id x13
  obtain ⟨fa, fn, fm, p0, -⟩ := id x4

  refine az_M.of rfl (Nat.le_of_ble_eq_true rfl) ?_
  show az_W _ _ _ _ 0 [(0, .ref 0), (1, .int (nI 8))] [] _ _
  refine az_iload_n dX11_told_0 ?_
  refine az_tswIn (off := 122) (tgt := 123) dX11_told_1 (by decide) (by decide) (by rfl) (by decide) ?_
  refine az_aload_n dX11_told_123 ?_
  refine az_getf (v := .int (nI tp)) dX11_told_124 fl_X11_81 x1 ?_
  exact az_iret dX11_told_127 (hQ)
set_option maxHeartbeats 4000000 in
set_option maxRecDepth 100000 in
theorem p_told9 {d : Nat} {tp fk mo ni K : Nat} {bt : Nat → Nat} {fp : Int32} {v : rd_V} {bs : List Nat} {U : ln_U} {im : Nat → Option (rd_V × ln_Z)} {tr : Nat → Option (Nat × List Int64)} {hp : az_Hp} {Q : Option Value → az_Hp → Prop} (hd : 1 ≤ d) (hC : cs hp ((tp, bt), (fk, fp), v, (mo, ni, bs), U, im, tr) K) (hQ : Q (some (.int (nI (ln_li (rd_w v))))) hp) : az_M mX11_told d 0 0 [.ref 0, .int (nI 9)] hp Q := by
  obtain ⟨hok, t, F, ia, kk, kt, x1, x2, x3, x4, x5, x6, x7, x8, x9, x10, x11, x12, x13, x14⟩ := id hC
  have hw : ln_ok (rd_w v) := hok.2.2.1.1
  have hlaw : ln_law (rd_w v) v.2.2.2.2.2.2.2.1 v.2.2.2.2.2.2.2.2 := hok.2.2.1.2
  have hba : ln_ba (rd_w v) bs := hok.2.2.2.1
  have hb : ln_by (rd_w v) bs := hba.b
  have x4 : ln_Past hp 6 U := x4
  have x5 : cs_im hp im ia F := x5
  have x6 : cs_tr hp tr := x6
  have x10 : ln_Scene hp 30 t (rd_w v) mo ni bs := x10
  have x13 : ln_Tf hp t (rd_w v) F := x13
  have x14 : cs_ad hp im F ia kk kt := x14
  obtain ⟨hi, fr, la, no, wa, nc, g0, -⟩ := id x10
  obtain ⟨a4, a5, t0, -⟩ := id x13
  obtain ⟨fa, fn, fm, p0, -⟩ := id x4

  refine az_M.of rfl (Nat.le_of_ble_eq_true rfl) ?_
  show az_W _ _ _ _ 0 [(0, .ref 0), (1, .int (nI 9))] [] _ _
  refine az_iload_n dX11_told_0 ?_
  refine az_tswIn (off := 127) (tgt := 128) dX11_told_1 (by decide) (by decide) (by rfl) (by decide) ?_
  refine az_aload_n dX11_told_128 ?_
  refine az_getf (v := .ref 30) dX11_told_129 fl_X11_66 x1 ?_
  refine az_getf (v := .ref t) dX11_told_132 fl_X11_116 g0 ?_
  refine az_getf (v := .int (nI (ln_li (rd_w v)))) dX11_told_135 fl_X11_102 t0 ?_
  exact az_iret dX11_told_138 (hQ)
set_option maxHeartbeats 4000000 in
set_option maxRecDepth 100000 in
theorem p_toldN {d : Nat} {x : Int32} {hp : az_Hp} {Q : Option Value → az_Hp → Prop} (hx : x.toInt < 0 ∨ 9 < x.toInt) (hQ : Q (some (.int (-1))) hp) : az_M mX11_told d 0 0 [.ref 0, .int x] hp Q := by
  refine az_M.of rfl (Nat.le_of_ble_eq_true rfl) ?_
  show az_W _ _ _ _ 0 [(0, .ref 0), (1, .int x)] [] _ _
  refine az_iload_n dX11_told_0 ?_
  refine az_tswOut (tgt := 139) dX11_told_1 hx (by decide) ?_
  refine az_iconst (v := (-1)) dX11_told_139 ?_
  exact az_iret dX11_told_140 (hQ)
def cs_told (s : cs_S) (x : Int32) : Int32 := if cs_in x 10 then (match cs_n x with
  | 0 => nI (ln_tb (rd_w s.2.2.1))
  | 1 => nI s.2.2.2.1.1
  | 2 => nI s.2.2.2.1.2.1
  | 3 => nI s.2.2.2.1.2.2.length
  | 4 => nI ((ln_str (rd_w s.2.2.1) s.2.2.2.1.2.2).head?.getD 6)
  | 5 => nI ((ln_str (rd_w s.2.2.1) s.2.2.2.1.2.2).reverse.head?.getD 6)
  | 6 => nI (ln_dd (ln_str (rd_w s.2.2.1) s.2.2.2.1.2.2)).length
  | 7 => nI s.2.2.2.2.1.length
  | 8 => nI s.1.1
  | _ => nI (ln_li (rd_w s.2.2.1))) else (-1)
theorem p_told {d : Nat} {x : Int32} {tp fk mo ni K : Nat} {bt : Nat → Nat} {fp : Int32} {v : rd_V} {bs : List Nat} {U : ln_U} {im : Nat → Option (rd_V × ln_Z)} {tr : Nat → Option (Nat × List Int64)} {hp : az_Hp} {Q : Option Value → az_Hp → Prop} (hd : 1 ≤ d) (hC : cs hp ((tp, bt), (fk, fp), v, (mo, ni, bs), U, im, tr) K) (hQ : Q (some (.int (cs_told ((tp, bt), (fk, fp), v, (mo, ni, bs), U, im, tr) x))) hp) : az_M mX11_told d 0 0 [.ref 0, .int x] hp Q := by
  unfold cs_told at hQ
  by_cases h : cs_in x 10
  · rw [if_pos h] at hQ
    obtain ⟨h1, h2⟩ := cs_in_of h
    rw [h1]
    generalize cs_n x = m at h2 hQ
    match m, h2, hQ with
    | 0, _, hQ => exact p_told0 hd hC hQ
    | 1, _, hQ => exact p_told1 hd hC hQ
    | 2, _, hQ => exact p_told2 hd hC hQ
    | 3, _, hQ => exact p_told3 hd hC hQ
    | 4, _, hQ => exact p_told4 hd hC hQ
    | 5, _, hQ => exact p_told5 hd hC hQ
    | 6, _, hQ => exact p_told6 hd hC hQ
    | 7, _, hQ => exact p_told7 hd hC hQ
    | 8, _, hQ => exact p_told8 hd hC hQ
    | 9, _, hQ => exact p_told9 hd hC hQ
    | m + 10, h2, _ => omega
  · rw [if_neg h] at hQ
    exact p_toldN (by unfold cs_in at h; omega) hQ

