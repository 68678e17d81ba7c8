/-! LetterNights: a year -/
def yr_n (x : Int32) : Int32 := (nI 1103515245) * x + (nI 12345)
def yr_u (x : Int32) : Int32 := ((x).toUInt32 >>> ((nI 16).toUInt32 &&& Int32.toUInt32 31)).toInt32
def yr_m (x y : Int32) : Int32 := x - x / y * y
def yr_k (x : Int32) : Int32 := yr_m (yr_u x) (nI 5)
/-- what is drawn next -/
def yr_d (x : Int32) : Int32 × Int32 := if yr_k (yr_n x) < nI 2 then (yr_n x, nI 0) else if yr_k (yr_n x) = nI 4 then (yr_n (yr_n x), nI 10 + yr_m (yr_u (yr_n (yr_n x))) (nI 10)) else (yr_n (yr_n x), yr_m (yr_u (yr_n (yr_n x))) (nI 4))
/-- so many draws: how many were done, what is then -/
def dy (w : ln_W) (pk sl : List Nat) : Nat → Int32 → ln_Z → Nat × ln_Z
  | 0, _, z => (0, z)
  | k + 1, x, z => if (dz w pk sl z (yr_d x).2.toInt64).1 = 0 then ((dy w pk sl k (yr_d x).1 (dz w pk sl z (yr_d x).2.toInt64).2).1 + 1, (dy w pk sl k (yr_d x).1 (dz w pk sl z (yr_d x).2.toInt64).2).2) else dy w pk sl k (yr_d x).1 z
theorem s_drawnFrom {d : Nat} {x : Int32} {hp : az_Hp} {Q : Option Value → az_Hp → Prop} (hQ : Q (some (.int (yr_n x))) hp) : az_M mX11_drawnFrom d 0 0 [.int x] hp Q := by
  refine az_M.of rfl (Nat.le_of_ble_eq_true rfl) ?_
  show az_W _ _ _ _ 0 [(0, .int x)] [] _ _
  refine az_ldc (v := nI 1103515245) dX11_drawnFrom_0 cn_X11_218 ?_
  refine az_iload_n dX11_drawnFrom_2 ?_
  refine az_imul dX11_drawnFrom_3 ?_
  refine az_sipush (v := nI 12345) dX11_drawnFrom_4 ?_
  refine az_iadd dX11_drawnFrom_7 ?_
  exact az_iret dX11_drawnFrom_8 (hQ)
set_option maxHeartbeats 4000000 in
set_option maxRecDepth 100000 in
theorem p_year {d : Nat} {xs xt : Int32} {tp fk mo ni K : Nat} {bt : Nat → Nat} {fp : Int32} {v : rd_V} {bs : List Nat} {U : ln_U} {im : Nat → Option (rd_V × ln_Z)} {tr : Nat → Option (Nat × List Int64)} {hp : az_Hp} {Q : Option Value → az_Hp → Prop} (hd : 9 ≤ d) (hC : cs hp ((tp, bt), (fk, fp), v, (mo, ni, bs), U, im, tr) K) (hQ3 : (∀ n, 1 ≤ n → n ≤ 20 → xt ≠ nI n) → Q (some (.int (-3))) hp) (hQ : ∀ n, xt = nI n → 1 ≤ n → n ≤ 20 → ∀ h', cs h' ((tp, bt), (fk, fp), v, (dy (rd_w v) v.2.2.2.2.2.2.2.1 v.2.2.2.2.2.2.2.2 n xs (mo, ni, bs)).2, cs_push U (dy (rd_w v) v.2.2.2.2.2.2.2.1 v.2.2.2.2.2.2.2.2 n xs (mo, ni, bs)).1 (bs.length, ni, mo), im, tr) K → cs_f hp h' → Q (some (.int (nI (dy (rd_w v) v.2.2.2.2.2.2.2.1 v.2.2.2.2.2.2.2.2 n xs (mo, ni, bs)).1))) h') : az_M mX11_year d 0 0 [.ref 0, .int xs, .int xt] hp Q := by
  obtain ⟨hok, t, F, ia, kk, kt, x1, x2, x3, x4, x5, x6, x7, x8, x9, x10, x11, x12, x13, x14⟩ := id hC
  have hw : ln_ok (rd_w v) := hok.2.2.1.1
  have hlaw : ln_law (rd_w v) v.2.2.2.2.2.2.2.1 v.2.2.2.2.2.2.2.2 := hok.2.2.1.2
  have hba : ln_ba (rd_w v) bs := hok.2.2.2.1
  have hb : ln_by (rd_w v) bs := hba.b
  have x4 : ln_Past hp 6 U := x4
  have x5 : cs_im hp im ia F := x5
  have x6 : cs_tr hp tr := x6
  have x10 : ln_Scene hp 30 t (rd_w v) mo ni bs := x10
  have x13 : ln_Tf hp t (rd_w v) F := x13
  have x14 : cs_ad hp im F ia kk kt := x14
  obtain ⟨hi, fr, la, no, wa, nc, g0, -⟩ := id x10
  obtain ⟨fa, fn, fm, p0, -⟩ := id x4
  have hU : U.length ≤ 10 := hok.2.2.2.2.1
  have fin : ∀ (k : Nat) (n : Nat) (h1 : az_Hp) (hx : xt = nI n) (hn1 : 1 ≤ n) (hn20 : n ≤ 20) (hf1 : az_fr hp h1 6 10) (hP1 : ln_PastX h1 6 U.length (U ++ [(bs.length, ni, mo)])) (hH1 : cs_H h1 ((tp, bt), (fk, fp), v, (mo, ni, bs), U, im, tr) t F ia kk kt K) (i dd m9 n9 : Nat) (x9 : Int32) (b9 l9 : List Nat) (h' : az_Hp), 0 = k → (dd ≤ 20) → (b9 = bs ++ l9) → (ln_ba (rd_w v) (bs ++ l9)) → (ln_Scene h' 30 t (rd_w v) m9 n9 b9) → (az_fr h1 h' 30 38) → ((dd, (m9, n9, b9)) = (dy (rd_w v) v.2.2.2.2.2.2.2.1 v.2.2.2.2.2.2.2.2 n xs (mo, ni, bs))) → az_W mX11_year d 0 0 122 [(0, .ref 0), (1, .int xs), (2, .int (nI n)), (3, .int (nI dd)), (4, .int x9), (5, .int (nI i))] [] h' Q := by
    intro k
    induction k using Nat.strongRecOn with
    | _ k ih =>
    intro n h1 hx hn1 hn20 hf1 hP1 hH1 i dd m9 n9 x9 b9 l9 h' hk hi60 hz9 hba9 hS9 hf9 hR
    obtain ⟨y1, y2, y3, y4, y5, y6, y7, y8, y9, y10, y11, y12, y13, y14⟩ := id hH1
    have y5 : cs_im h1 im ia F := y5
    have y13 : ln_Tf h1 t (rd_w v) F := y13
    have y14 : cs_ad h1 im F ia kk kt := y14
    have e0 := hf9.at (hf1.at x1)
    obtain ⟨hi9, fr9, la9, no9, wa9, nc9, g9, -⟩ := id hS9
    refine az_aload_n dX11_year_122 ?_
    refine az_iload_n dX11_year_123 ?_
    refine az_cV0 (st := []) dX11_year_124 ml_X11_177 e0 (p_keepIfDone (d := d - 1) (k9 := dd) (tp := tp) (by omega) (by omega) hU e0 (ln_PastX.fr hP1 hf9 (by omega)) ?_)
    intro h2 hP2 hf2
    refine az_iload_n dX11_year_127 ?_
    exact az_iret dX11_year_128 (by have hH2 : cs_H h' ((tp, bt), (fk, fp), v, (m9, n9, b9), U, im, tr) t F ia kk kt K := ⟨(hf9.at y1), (y2.fr hf9), (y3.fr hf9), (ln_PastX.fr y4 hf9 (by omega)), (y5.fr hf9 y14), (y6.fr hf9), (y7.fr hf9), (y8.fr hf9), (y9.fr hf9), hS9, (y11.fr hf9), (y12.fr hf9 (by omega) (by have := y14.2.1; omega) (by have := y14.2.2.1; omega)), (y13.fr hf9 (fun q hq => (by have := y14.2.2.2.2.2.1 q hq; omega))), (y14.fr hf9)⟩; obtain ⟨w1, w2, w3, w4, w5, w6, w7, w8, w9, w10, w11, w12, w13, w14⟩ := hH2; have w10 : ln_Scene h' 30 t (rd_w v) m9 n9 b9 := w10; have w14 : cs_ad h' im F ia kk kt := w14; have w5 : cs_im h' im ia F := w5; have h8 := hQ n hx hn1 hn20 h2; rw [← hR] at h8; exact h8 ⟨(by rw [hz9]; exact hok.push2 dd m9 n9 l9 hba9), ⟨t, F, ia, kk, kt, (hf2.at w1), (w2.fr hf2), (w3.fr hf2), hP2, (w5.fr hf2 w14), (w6.fr hf2), (w7.fr hf2), (w8.fr hf2), (w9.fr hf2), (ln_Scene.fr w10 hf2 (by omega)), (w11.fr hf2), (w12.fr hf2 (by omega) (by have := w14.2.1; omega) (by have := w14.2.2.1; omega)), (w13.fr hf2 (fun q hq => (by have := w14.2.2.2.2.2.1 q hq; omega))), (w14.fr hf2)⟩⟩ ((hf1.cs.tr hf9.cs).tr hf2.cs))
  have loop : ∀ (k : Nat) (n : Nat) (h1 : az_Hp) (hx : xt = nI n) (hn1 : 1 ≤ n) (hn20 : n ≤ 20) (hf1 : az_fr hp h1 6 10) (hP1 : ln_PastX h1 6 U.length (U ++ [(bs.length, ni, mo)])) (hH1 : cs_H h1 ((tp, bt), (fk, fp), v, (mo, ni, bs), U, im, tr) t F ia kk kt K) (i dd m9 n9 : Nat) (x9 : Int32) (b9 l9 : List Nat) (h' : az_Hp), n - i = k → (dd ≤ i ∧ i ≤ n) → (b9 = bs ++ l9) → (ln_ba (rd_w v) (bs ++ l9)) → (ln_Scene h' 30 t (rd_w v) m9 n9 b9) → (az_fr h1 h' 30 38) → ((dd + (dy (rd_w v) v.2.2.2.2.2.2.2.1 v.2.2.2.2.2.2.2.2 (n - i) x9 (m9, n9, b9)).1, (dy (rd_w v) v.2.2.2.2.2.2.2.1 v.2.2.2.2.2.2.2.2 (n - i) x9 (m9, n9, b9)).2) = (dy (rd_w v) v.2.2.2.2.2.2.2.1 v.2.2.2.2.2.2.2.2 n xs (mo, ni, bs))) → az_W mX11_year d 0 0 33 [(0, .ref 0), (1, .int xs), (2, .int (nI n)), (3, .int (nI dd)), (4, .int x9), (5, .int (nI i))] [] h' Q := by
    intro k
    induction k using Nat.strongRecOn with
    | _ k ih =>
    intro n h1 hx hn1 hn20 hf1 hP1 hH1 i dd m9 n9 x9 b9 l9 h' hk hi60 hz9 hba9 hS9 hf9 hR
    obtain ⟨y1, y2, y3, y4, y5, y6, y7, y8, y9, y10, y11, y12, y13, y14⟩ := id hH1
    have y5 : cs_im h1 im ia F := y5
    have y13 : ln_Tf h1 t (rd_w v) F := y13
    have y14 : cs_ad h1 im F ia kk kt := y14
    have e0 := hf9.at (hf1.at x1)
    obtain ⟨hi9, fr9, la9, no9, wa9, nc9, g9, -⟩ := id hS9
    refine az_iload dX11_year_33 ?_
    refine az_iload_n dX11_year_35 ?_
    refine az_icmp_geN (tgt := 122) dX11_year_36 (fun c36 => ?_) (fun c36 => ?_)
    · have hR2 := hR; rw [show n - i = 0 by omega, dy] at hR2; exact fin _ n h1 hx hn1 hn20 hf1 hP1 hH1 i dd m9 n9 x9 b9 l9 h' rfl (by omega) hz9 hba9 hS9 hf9 hR2
    · refine az_iload dX11_year_39 ?_
      refine az_cS0 (st := []) dX11_year_41 ml_X11_215 (s_drawnFrom (d := d - 1) ?_)
      refine az_istore (ls' := [(0, .ref 0), (1, .int xs), (2, .int (nI n)), (3, .int (nI dd)), (4, .int (yr_n x9)), (5, .int (nI i))]) dX11_year_44 ?_
      refine az_iload dX11_year_46 ?_
      refine az_bipush (v := nI 16) dX11_year_48 ?_
      refine az_iushr dX11_year_50 ?_
      refine az_iconst (v := nI 5) dX11_year_51 ?_
      refine az_irem dX11_year_52 (by decide) ?_
      obtain ⟨K9, hK9⟩ : ∃ K9, K9 = yr_k (yr_n x9) := ⟨_, rfl⟩
      rw [show (((((yr_n x9)).toUInt32 >>> (((nI 16)).toUInt32 &&& Int32.toUInt32 31)).toInt32) - ((((yr_n x9)).toUInt32 >>> (((nI 16)).toUInt32 &&& Int32.toUInt32 31)).toInt32) / (nI 5) * (nI 5)) = K9 from hK9.symm]
      refine az_istore (ls' := [(0, .ref 0), (1, .int xs), (2, .int (nI n)), (3, .int (nI dd)), (4, .int (yr_n x9)), (5, .int (nI i)), (6, .int K9)]) dX11_year_53 ?_
      refine az_iconst (v := nI 0) dX11_year_55 ?_
      refine az_istore (ls' := [(0, .ref 0), (1, .int xs), (2, .int (nI n)), (3, .int (nI dd)), (4, .int (yr_n x9)), (5, .int (nI i)), (6, .int K9), (7, .int (nI 0))]) dX11_year_56 ?_
      refine az_iload dX11_year_58 ?_
      refine az_iconst (v := nI 2) dX11_year_60 ?_
      refine az_icmp_lt (tgt := 100) dX11_year_61 (fun c61 => ?_) (fun c61 => ?_)
      · obtain ⟨q, hq⟩ : ∃ q, q = yr_d x9 := ⟨_, rfl⟩
        have hqe : ((yr_n x9), (nI 0)) = q := (by rw [hq, yr_d, ← hK9]; first | rw [if_pos c61] | (rw [if_neg c61, if_pos c74, hB9]; rfl) | (rw [if_neg c61, if_neg c74, hB9]; rfl))
        rw [show (yr_n x9) = q.1 from congrArg Prod.fst hqe, show (nI 0) = q.2 from congrArg Prod.snd hqe]
        refine az_aload_n dX11_year_100 ?_
        refine az_getf (v := .ref 30) dX11_year_101 fl_X11_66 e0 ?_
        refine az_iload dX11_year_104 ?_
        refine az_i2l dX11_year_106 ?_
        obtain ⟨l2, r1, r2, r3, r4⟩ := dz_ba (pk := v.2.2.2.2.2.2.2.1) (sl := v.2.2.2.2.2.2.2.2) (mo := m9) (ni := n9) (x := q.2.toInt64) hw (by rw [← hz9] at hba9; exact hba9)
        have hT9 := (y13.fr hf9 (fun q hq => (by have := y14.2.2.2.2.2.1 q hq; omega))).to (lo := 30) (hi := 38) (fun q hq => (by have := y14.2.2.2.2.2.1 q hq; omega))
        obtain ⟨D, hD⟩ : ∃ D, D = dz (rd_w v) v.2.2.2.2.2.2.2.1 v.2.2.2.2.2.2.2.2 (m9, n9, b9) q.2.toInt64 := ⟨_, rfl⟩
        rw [← hD] at r1 r3 r4
        refine az_cV0 (st := []) dX11_year_107 ml_X11_170 g9 (s_tryDeed (d := d - 1) (a := 30) (t := t) (w := rd_w v) (z := (m9, n9, b9)) (v := q.2.toInt64) (by omega) hw hlaw (by rw [← hz9] at hba9; exact hba9.b) hT9 hS9 ?_)
        intro h2 hS2 hf2
        rw [← hD] at hS2
        rw [← hD]
        refine az_if_neN (tgt := 116) dX11_year_110 (fun c110 => ?_) (fun c110 => ?_)
        · refine az_iincN (n := 1) (ls' := [(0, .ref 0), (1, .int xs), (2, .int (nI n)), (3, .int (nI dd)), (4, .int q.1), (5, .int (nI (i + 1))), (6, .int K9), (7, .int q.2)]) dX11_year_116 ?_
          refine az_goto (tgt := 33) dX11_year_119 ?_
          refine az_W.keep (ls' := [(0, .ref 0), (1, .int xs), (2, .int (nI n)), (3, .int (nI dd)), (4, .int q.1), (5, .int (nI (i + 1)))]) [0, 1, 2, 3, 4, 5] rfl ?_
          rw [show n - i = (n - (i + 1)) + 1 by omega, dy, ← hq, ← hD] at hR
          first | (rw [if_pos c110] at hR; exact ih _ (by omega) n h1 hx hn1 hn20 hf1 hP1 hH1 (i + 1) (dd + 1) D.2.1 D.2.2.1 q.1 D.2.2.2 (l9 ++ l2) h2 rfl (by omega) (by rw [r1, hz9, List.append_assoc]) (by rw [← List.append_assoc, ← hz9]; exact r2) hS2 (hf9.tr hf2) (by rw [← hR]; show (_, _) = (_, _); rw [show dd + 1 + (dy (rd_w v) v.2.2.2.2.2.2.2.1 v.2.2.2.2.2.2.2.2 (n - (i + 1)) q.1 (D.2.1, D.2.2.1, D.2.2.2)).1 = dd + ((dy (rd_w v) v.2.2.2.2.2.2.2.1 v.2.2.2.2.2.2.2.2 (n - (i + 1)) q.1 D.2).1 + 1) by (show dd + 1 + (dy (rd_w v) v.2.2.2.2.2.2.2.1 v.2.2.2.2.2.2.2.2 (n - (i + 1)) q.1 D.2).1 = _; omega)])) | (rw [if_neg c110] at hR; rw [r3 c110] at hS2; exact ih _ (by omega) n h1 hx hn1 hn20 hf1 hP1 hH1 (i + 1) dd m9 n9 q.1 b9 l9 h2 rfl (by omega) hz9 hba9 hS2 (hf9.tr hf2) hR)
        · refine az_iincN (n := 1) (ls' := [(0, .ref 0), (1, .int xs), (2, .int (nI n)), (3, .int (nI (dd + 1))), (4, .int q.1), (5, .int (nI i)), (6, .int K9), (7, .int q.2)]) dX11_year_113 ?_
          refine az_iincN (n := 1) (ls' := [(0, .ref 0), (1, .int xs), (2, .int (nI n)), (3, .int (nI (dd + 1))), (4, .int q.1), (5, .int (nI (i + 1))), (6, .int K9), (7, .int q.2)]) dX11_year_116 ?_
          refine az_goto (tgt := 33) dX11_year_119 ?_
          refine az_W.keep (ls' := [(0, .ref 0), (1, .int xs), (2, .int (nI n)), (3, .int (nI (dd + 1))), (4, .int q.1), (5, .int (nI (i + 1)))]) [0, 1, 2, 3, 4, 5] rfl ?_
          rw [show n - i = (n - (i + 1)) + 1 by omega, dy, ← hq, ← hD] at hR
          first | (rw [if_pos c110] at hR; exact ih _ (by omega) n h1 hx hn1 hn20 hf1 hP1 hH1 (i + 1) (dd + 1) D.2.1 D.2.2.1 q.1 D.2.2.2 (l9 ++ l2) h2 rfl (by omega) (by rw [r1, hz9, List.append_assoc]) (by rw [← List.append_assoc, ← hz9]; exact r2) hS2 (hf9.tr hf2) (by rw [← hR]; show (_, _) = (_, _); rw [show dd + 1 + (dy (rd_w v) v.2.2.2.2.2.2.2.1 v.2.2.2.2.2.2.2.2 (n - (i + 1)) q.1 (D.2.1, D.2.2.1, D.2.2.2)).1 = dd + ((dy (rd_w v) v.2.2.2.2.2.2.2.1 v.2.2.2.2.2.2.2.2 (n - (i + 1)) q.1 D.2).1 + 1) by (show dd + 1 + (dy (rd_w v) v.2.2.2.2.2.2.2.1 v.2.2.2.2.2.2.2.2 (n - (i + 1)) q.1 D.2).1 = _; omega)])) | (rw [if_neg c110] at hR; rw [r3 c110] at hS2; exact ih _ (by omega) n h1 hx hn1 hn20 hf1 hP1 hH1 (i + 1) dd m9 n9 q.1 b9 l9 h2 rfl (by omega) hz9 hba9 hS2 (hf9.tr hf2) hR)
      · refine az_iload dX11_year_64 ?_
        refine az_cS0 (st := []) dX11_year_66 ml_X11_215 (s_drawnFrom (d := d - 1) ?_)
        refine az_istore (ls' := [(0, .ref 0), (1, .int xs), (2, .int (nI n)), (3, .int (nI dd)), (4, .int (yr_n (yr_n x9))), (5, .int (nI i)), (6, .int K9), (7, .int (nI 0))]) dX11_year_69 ?_
        refine az_iload dX11_year_71 ?_
        refine az_iconst (v := nI 4) dX11_year_73 ?_
        refine az_icmp_ne (tgt := 91) dX11_year_74 (fun c74 => ?_) (fun c74 => ?_)
        · refine az_iload dX11_year_91 ?_
          refine az_bipush (v := nI 16) dX11_year_93 ?_
          refine az_iushr dX11_year_95 ?_
          refine az_iconst (v := nI 4) dX11_year_96 ?_
          refine az_irem dX11_year_97 (by decide) ?_
          obtain ⟨B9, hB9⟩ : ∃ B9, B9 = (((((yr_n (yr_n x9))).toUInt32 >>> (((nI 16)).toUInt32 &&& Int32.toUInt32 31)).toInt32) - ((((yr_n (yr_n x9))).toUInt32 >>> (((nI 16)).toUInt32 &&& Int32.toUInt32 31)).toInt32) / (nI 4) * (nI 4)) := ⟨_, rfl⟩
          rw [← hB9]
          refine az_istore (ls' := [(0, .ref 0), (1, .int xs), (2, .int (nI n)), (3, .int (nI dd)), (4, .int (yr_n (yr_n x9))), (5, .int (nI i)), (6, .int K9), (7, .int B9)]) dX11_year_98 ?_
          obtain ⟨q, hq⟩ : ∃ q, q = yr_d x9 := ⟨_, rfl⟩
          have hqe : ((yr_n (yr_n x9)), B9) = q := (by rw [hq, yr_d, ← hK9]; first | rw [if_pos c61] | (rw [if_neg c61, if_pos c74, hB9]; rfl) | (rw [if_neg c61, if_neg c74, hB9]; rfl))
          rw [show (yr_n (yr_n x9)) = q.1 from congrArg Prod.fst hqe, show B9 = q.2 from congrArg Prod.snd hqe]
          refine az_aload_n dX11_year_100 ?_
          refine az_getf (v := .ref 30) dX11_year_101 fl_X11_66 e0 ?_
          refine az_iload dX11_year_104 ?_
          refine az_i2l dX11_year_106 ?_
          obtain ⟨l2, r1, r2, r3, r4⟩ := dz_ba (pk := v.2.2.2.2.2.2.2.1) (sl := v.2.2.2.2.2.2.2.2) (mo := m9) (ni := n9) (x := q.2.toInt64) hw (by rw [← hz9] at hba9; exact hba9)
          have hT9 := (y13.fr hf9 (fun q hq => (by have := y14.2.2.2.2.2.1 q hq; omega))).to (lo := 30) (hi := 38) (fun q hq => (by have := y14.2.2.2.2.2.1 q hq; omega))
          obtain ⟨D, hD⟩ : ∃ D, D = dz (rd_w v) v.2.2.2.2.2.2.2.1 v.2.2.2.2.2.2.2.2 (m9, n9, b9) q.2.toInt64 := ⟨_, rfl⟩
          rw [← hD] at r1 r3 r4
          refine az_cV0 (st := []) dX11_year_107 ml_X11_170 g9 (s_tryDeed (d := d - 1) (a := 30) (t := t) (w := rd_w v) (z := (m9, n9, b9)) (v := q.2.toInt64) (by omega) hw hlaw (by rw [← hz9] at hba9; exact hba9.b) hT9 hS9 ?_)
          intro h2 hS2 hf2
          rw [← hD] at hS2
          rw [← hD]
          refine az_if_neN (tgt := 116) dX11_year_110 (fun c110 => ?_) (fun c110 => ?_)
          · refine az_iincN (n := 1) (ls' := [(0, .ref 0), (1, .int xs), (2, .int (nI n)), (3, .int (nI dd)), (4, .int q.1), (5, .int (nI (i + 1))), (6, .int K9), (7, .int q.2)]) dX11_year_116 ?_
            refine az_goto (tgt := 33) dX11_year_119 ?_
            refine az_W.keep (ls' := [(0, .ref 0), (1, .int xs), (2, .int (nI n)), (3, .int (nI dd)), (4, .int q.1), (5, .int (nI (i + 1)))]) [0, 1, 2, 3, 4, 5] rfl ?_
            rw [show n - i = (n - (i + 1)) + 1 by omega, dy, ← hq, ← hD] at hR
            first | (rw [if_pos c110] at hR; exact ih _ (by omega) n h1 hx hn1 hn20 hf1 hP1 hH1 (i + 1) (dd + 1) D.2.1 D.2.2.1 q.1 D.2.2.2 (l9 ++ l2) h2 rfl (by omega) (by rw [r1, hz9, List.append_assoc]) (by rw [← List.append_assoc, ← hz9]; exact r2) hS2 (hf9.tr hf2) (by rw [← hR]; show (_, _) = (_, _); rw [show dd + 1 + (dy (rd_w v) v.2.2.2.2.2.2.2.1 v.2.2.2.2.2.2.2.2 (n - (i + 1)) q.1 (D.2.1, D.2.2.1, D.2.2.2)).1 = dd + ((dy (rd_w v) v.2.2.2.2.2.2.2.1 v.2.2.2.2.2.2.2.2 (n - (i + 1)) q.1 D.2).1 + 1) by (show dd + 1 + (dy (rd_w v) v.2.2.2.2.2.2.2.1 v.2.2.2.2.2.2.2.2 (n - (i + 1)) q.1 D.2).1 = _; omega)])) | (rw [if_neg c110] at hR; rw [r3 c110] at hS2; exact ih _ (by omega) n h1 hx hn1 hn20 hf1 hP1 hH1 (i + 1) dd m9 n9 q.1 b9 l9 h2 rfl (by omega) hz9 hba9 hS2 (hf9.tr hf2) hR)
          · refine az_iincN (n := 1) (ls' := [(0, .ref 0), (1, .int xs), (2, .int (nI n)), (3, .int (nI (dd + 1))), (4, .int q.1), (5, .int (nI i)), (6, .int K9), (7, .int q.2)]) dX11_year_113 ?_
            refine az_iincN (n := 1) (ls' := [(0, .ref 0), (1, .int xs), (2, .int (nI n)), (3, .int (nI (dd + 1))), (4, .int q.1), (5, .int (nI (i + 1))), (6, .int K9), (7, .int q.2)]) dX11_year_116 ?_
            refine az_goto (tgt := 33) dX11_year_119 ?_
            refine az_W.keep (ls' := [(0, .ref 0), (1, .int xs), (2, .int (nI n)), (3, .int (nI (dd + 1))), (4, .int q.1), (5, .int (nI (i + 1)))]) [0, 1, 2, 3, 4, 5] rfl ?_
            rw [show n - i = (n - (i + 1)) + 1 by omega, dy, ← hq, ← hD] at hR
            first | (rw [if_pos c110] at hR; exact ih _ (by omega) n h1 hx hn1 hn20 hf1 hP1 hH1 (i + 1) (dd + 1) D.2.1 D.2.2.1 q.1 D.2.2.2 (l9 ++ l2) h2 rfl (by omega) (by rw [r1, hz9, List.append_assoc]) (by rw [← List.append_assoc, ← hz9]; exact r2) hS2 (hf9.tr hf2) (by rw [← hR]; show (_, _) = (_, _); rw [show dd + 1 + (dy (rd_w v) v.2.2.2.2.2.2.2.1 v.2.2.2.2.2.2.2.2 (n - (i + 1)) q.1 (D.2.1, D.2.2.1, D.2.2.2)).1 = dd + ((dy (rd_w v) v.2.2.2.2.2.2.2.1 v.2.2.2.2.2.2.2.2 (n - (i + 1)) q.1 D.2).1 + 1) by (show dd + 1 + (dy (rd_w v) v.2.2.2.2.2.2.2.1 v.2.2.2.2.2.2.2.2 (n - (i + 1)) q.1 D.2).1 = _; omega)])) | (rw [if_neg c110] at hR; rw [r3 c110] at hS2; exact ih _ (by omega) n h1 hx hn1 hn20 hf1 hP1 hH1 (i + 1) dd m9 n9 q.1 b9 l9 h2 rfl (by omega) hz9 hba9 hS2 (hf9.tr hf2) hR)
        · refine az_bipush (v := nI 10) dX11_year_77 ?_
          refine az_iload dX11_year_79 ?_
          refine az_bipush (v := nI 16) dX11_year_81 ?_
          refine az_iushr dX11_year_83 ?_
          refine az_bipush (v := nI 10) dX11_year_84 ?_
          refine az_irem dX11_year_86 (by decide) ?_
          refine az_iadd dX11_year_87 ?_
          refine az_goto (tgt := 98) dX11_year_88 ?_
          obtain ⟨B9, hB9⟩ : ∃ B9, B9 = ((nI 10) + (((((yr_n (yr_n x9))).toUInt32 >>> (((nI 16)).toUInt32 &&& Int32.toUInt32 31)).toInt32) - ((((yr_n (yr_n x9))).toUInt32 >>> (((nI 16)).toUInt32 &&& Int32.toUInt32 31)).toInt32) / (nI 10) * (nI 10))) := ⟨_, rfl⟩
          rw [← hB9]
          refine az_istore (ls' := [(0, .ref 0), (1, .int xs), (2, .int (nI n)), (3, .int (nI dd)), (4, .int (yr_n (yr_n x9))), (5, .int (nI i)), (6, .int K9), (7, .int B9)]) dX11_year_98 ?_
          obtain ⟨q, hq⟩ : ∃ q, q = yr_d x9 := ⟨_, rfl⟩
          have hqe : ((yr_n (yr_n x9)), B9) = q := (by rw [hq, yr_d, ← hK9]; first | rw [if_pos c61] | (rw [if_neg c61, if_pos c74, hB9]; rfl) | (rw [if_neg c61, if_neg c74, hB9]; rfl))
          rw [show (yr_n (yr_n x9)) = q.1 from congrArg Prod.fst hqe, show B9 = q.2 from congrArg Prod.snd hqe]
          refine az_aload_n dX11_year_100 ?_
          refine az_getf (v := .ref 30) dX11_year_101 fl_X11_66 e0 ?_
          refine az_iload dX11_year_104 ?_
          refine az_i2l dX11_year_106 ?_
          obtain ⟨l2, r1, r2, r3, r4⟩ := dz_ba (pk := v.2.2.2.2.2.2.2.1) (sl := v.2.2.2.2.2.2.2.2) (mo := m9) (ni := n9) (x := q.2.toInt64) hw (by rw [← hz9] at hba9; exact hba9)
          have hT9 := (y13.fr hf9 (fun q hq => (by have := y14.2.2.2.2.2.1 q hq; omega))).to (lo := 30) (hi := 38) (fun q hq => (by have := y14.2.2.2.2.2.1 q hq; omega))
          obtain ⟨D, hD⟩ : ∃ D, D = dz (rd_w v) v.2.2.2.2.2.2.2.1 v.2.2.2.2.2.2.2.2 (m9, n9, b9) q.2.toInt64 := ⟨_, rfl⟩
          rw [← hD] at r1 r3 r4
          refine az_cV0 (st := []) dX11_year_107 ml_X11_170 g9 (s_tryDeed (d := d - 1) (a := 30) (t := t) (w := rd_w v) (z := (m9, n9, b9)) (v := q.2.toInt64) (by omega) hw hlaw (by rw [← hz9] at hba9; exact hba9.b) hT9 hS9 ?_)
          intro h2 hS2 hf2
          rw [← hD] at hS2
          rw [← hD]
          refine az_if_neN (tgt := 116) dX11_year_110 (fun c110 => ?_) (fun c110 => ?_)
          · refine az_iincN (n := 1) (ls' := [(0, .ref 0), (1, .int xs), (2, .int (nI n)), (3, .int (nI dd)), (4, .int q.1), (5, .int (nI (i + 1))), (6, .int K9), (7, .int q.2)]) dX11_year_116 ?_
            refine az_goto (tgt := 33) dX11_year_119 ?_
            refine az_W.keep (ls' := [(0, .ref 0), (1, .int xs), (2, .int (nI n)), (3, .int (nI dd)), (4, .int q.1), (5, .int (nI (i + 1)))]) [0, 1, 2, 3, 4, 5] rfl ?_
            rw [show n - i = (n - (i + 1)) + 1 by omega, dy, ← hq, ← hD] at hR
            first | (rw [if_pos c110] at hR; exact ih _ (by omega) n h1 hx hn1 hn20 hf1 hP1 hH1 (i + 1) (dd + 1) D.2.1 D.2.2.1 q.1 D.2.2.2 (l9 ++ l2) h2 rfl (by omega) (by rw [r1, hz9, List.append_assoc]) (by rw [← List.append_assoc, ← hz9]; exact r2) hS2 (hf9.tr hf2) (by rw [← hR]; show (_, _) = (_, _); rw [show dd + 1 + (dy (rd_w v) v.2.2.2.2.2.2.2.1 v.2.2.2.2.2.2.2.2 (n - (i + 1)) q.1 (D.2.1, D.2.2.1, D.2.2.2)).1 = dd + ((dy (rd_w v) v.2.2.2.2.2.2.2.1 v.2.2.2.2.2.2.2.2 (n - (i + 1)) q.1 D.2).1 + 1) by (show dd + 1 + (dy (rd_w v) v.2.2.2.2.2.2.2.1 v.2.2.2.2.2.2.2.2 (n - (i + 1)) q.1 D.2).1 = _; omega)])) | (rw [if_neg c110] at hR; rw [r3 c110] at hS2; exact ih _ (by omega) n h1 hx hn1 hn20 hf1 hP1 hH1 (i + 1) dd m9 n9 q.1 b9 l9 h2 rfl (by omega) hz9 hba9 hS2 (hf9.tr hf2) hR)
          · refine az_iincN (n := 1) (ls' := [(0, .ref 0), (1, .int xs), (2, .int (nI n)), (3, .int (nI (dd + 1))), (4, .int q.1), (5, .int (nI i)), (6, .int K9), (7, .int q.2)]) dX11_year_113 ?_
            refine az_iincN (n := 1) (ls' := [(0, .ref 0), (1, .int xs), (2, .int (nI n)), (3, .int (nI (dd + 1))), (4, .int q.1), (5, .int (nI (i + 1))), (6, .int K9), (7, .int q.2)]) dX11_year_116 ?_
            refine az_goto (tgt := 33) dX11_year_119 ?_
            refine az_W.keep (ls' := [(0, .ref 0), (1, .int xs), (2, .int (nI n)), (3, .int (nI (dd + 1))), (4, .int q.1), (5, .int (nI (i + 1)))]) [0, 1, 2, 3, 4, 5] rfl ?_
            rw [show n - i = (n - (i + 1)) + 1 by omega, dy, ← hq, ← hD] at hR
            first | (rw [if_pos c110] at hR; exact ih _ (by omega) n h1 hx hn1 hn20 hf1 hP1 hH1 (i + 1) (dd + 1) D.2.1 D.2.2.1 q.1 D.2.2.2 (l9 ++ l2) h2 rfl (by omega) (by rw [r1, hz9, List.append_assoc]) (by rw [← List.append_assoc, ← hz9]; exact r2) hS2 (hf9.tr hf2) (by rw [← hR]; show (_, _) = (_, _); rw [show dd + 1 + (dy (rd_w v) v.2.2.2.2.2.2.2.1 v.2.2.2.2.2.2.2.2 (n - (i + 1)) q.1 (D.2.1, D.2.2.1, D.2.2.2)).1 = dd + ((dy (rd_w v) v.2.2.2.2.2.2.2.1 v.2.2.2.2.2.2.2.2 (n - (i + 1)) q.1 D.2).1 + 1) by (show dd + 1 + (dy (rd_w v) v.2.2.2.2.2.2.2.1 v.2.2.2.2.2.2.2.2 (n - (i + 1)) q.1 D.2).1 = _; omega)])) | (rw [if_neg c110] at hR; rw [r3 c110] at hS2; exact ih _ (by omega) n h1 hx hn1 hn20 hf1 hP1 hH1 (i + 1) dd m9 n9 q.1 b9 l9 h2 rfl (by omega) hz9 hba9 hS2 (hf9.tr hf2) hR)
  refine az_M.of rfl (Nat.le_of_ble_eq_true rfl) ?_
  show az_W _ _ _ _ 0 [(0, .ref 0), (1, .int xs), (2, .int xt)] [] _ _
  refine az_iload_n dX11_year_0 ?_
  refine az_iconst (v := nI 1) dX11_year_1 ?_
  refine az_icmp_lt (tgt := 11) dX11_year_2 (fun c2 => ?_) (fun c2 => ?_)
  · refine az_bipush (v := (-3)) dX11_year_11 ?_
    exact az_iret dX11_year_13 (hQ3 (fun n h1 h2 hx => (by first | (rw [hx] at c2; exact absurd ((nI_ltI (by omega) (by omega)).mp c2) (by omega)) | (rw [hx] at c8; exact c8 ((nI_leI (by omega) (by omega)).mpr h2)))))
  · refine az_iload_n dX11_year_5 ?_
    refine az_bipush (v := nI 20) dX11_year_6 ?_
    refine az_icmp_le (tgt := 14) dX11_year_8 (fun c8 => ?_) (fun c8 => ?_)
    · have h0x : ¬ xt < 0 := (fun q9 => c2 (by rw [Int32.lt_iff_toInt_lt] at q9 ⊢; rw [nI_toI (by omega)]; have q4 : (0 : Int32).toInt = 0 := (by decide); omega))
      obtain ⟨n, hn31, hx⟩ := I_of h0x
      have hn1 : 1 ≤ n := (by rw [hx] at c2; have h9 := Int32.not_lt.mp c2; exact (nI_leI (by omega) (by omega)).mp h9)
      have hn60 : n ≤ 20 := (by rw [hx] at c8; exact (nI_leI (by omega) (by omega)).mp c8)
      rw [hx]
      refine az_aload_n dX11_year_14 ?_
      refine az_getf (v := .ref 6) dX11_year_15 fl_X11_23 x1 ?_
      refine az_aload_n dX11_year_18 ?_
      refine az_getf (v := .ref 30) dX11_year_19 fl_X11_66 x1 ?_
      refine az_cV0 (st := []) dX11_year_22 ml_X11_167 p0 (s_mark (d := d - 1) (a := 30) (t := t) (w := rd_w v) (z := (mo, ni, bs)) hU (by omega) x4 x10 ?_)
      intro h1 hP1 hf1
      have hPU : ln_Past h1 6 U := (by have h9 := hP1.cut U.length; rw [List.take_left] at h9; exact h9)
      have hH1 : cs_H h1 ((tp, bt), (fk, fp), v, (mo, ni, bs), U, im, tr) t F ia kk kt K := ⟨(hf1.at x1), (x2.fr hf1), (x3.fr hf1), hPU, (x5.fr hf1 x14), (x6.fr hf1), (x7.fr hf1), (x8.fr hf1), (x9.fr hf1), (ln_Scene.fr x10 hf1 (by omega)), (x11.fr hf1), (x12.fr hf1 (by omega) (by have := x14.2.1; omega) (by have := x14.2.2.1; omega)), (x13.fr hf1 (fun q hq => (by have := x14.2.2.2.2.2.1 q hq; omega))), (x14.fr hf1)⟩
      refine az_iconst (v := nI 0) dX11_year_25 ?_
      refine az_istore_n (ls' := [(0, .ref 0), (1, .int xs), (2, .int (nI n)), (3, .int (nI 0))]) dX11_year_26 ?_
      refine az_iload_n dX11_year_27 ?_
      refine az_istore (ls' := [(0, .ref 0), (1, .int xs), (2, .int (nI n)), (3, .int (nI 0)), (4, .int xs)]) dX11_year_28 ?_
      refine az_iconst (v := nI 0) dX11_year_30 ?_
      refine az_istore (ls' := [(0, .ref 0), (1, .int xs), (2, .int (nI n)), (3, .int (nI 0)), (4, .int xs), (5, .int (nI 0))]) dX11_year_31 ?_
      exact loop _ n h1 hx hn1 hn60 hf1 hP1 hH1 0 0 mo ni xs bs [] h1 rfl (by omega) (List.append_nil _).symm (by rw [List.append_nil]; exact hba) (ln_Scene.fr x10 hf1 (by omega)) az_fr.rf (by rw [Nat.sub_zero, Nat.zero_add])
    · refine az_bipush (v := (-3)) dX11_year_11 ?_
      exact az_iret dX11_year_13 (hQ3 (fun n h1 h2 hx => (by first | (rw [hx] at c2; exact absurd ((nI_ltI (by omega) (by omega)).mp c2) (by omega)) | (rw [hx] at c8; exact c8 ((nI_leI (by omega) (by omega)).mpr h2)))))

