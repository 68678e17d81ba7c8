/-! LetterNights: a street told -/
theorem cs_H.st {tp fk mo ni K t kk kt fk' t' : Nat} {bt : Nat → Nat} {fp fp' : Int32} {v v' : rd_V} {z' : ln_Z} {bs : List Nat} {U U' : ln_U} {im : Nat → Option (rd_V × ln_Z)} {tr : Nat → Option (Nat × List Int64)} {h h' : az_Hp} {F F' : Nat → Prop} {ia : Nat → Nat × Nat} (H : cs_H h ((tp, bt), (fk, fp), v, (mo, ni, bs), U, im, tr) t F ia kk kt K) (h1 : h.1 ≤ h'.1) (h0 : h'.2 0 = some (az_O 10 [.ref 1, .int (nI 0), .ref 2, .ref 30, .ref 38, .ref 6, .ref 10, .ref 11, .ref 12, .ref 15, .ref 21, .ref 46])) (hr : cs_rd h' fk' fp') (hP : ln_Past h' 6 U') (hS : ln_SZ h' 30 t' (rd_w v') z') (hT : ln_Tf h' t' (rd_w v') F') (hF : ∀ q, F q → F' q) (hF' : ∀ q, F' q → F q ∨ (h.1 ≤ q ∧ q < h'.1)) (hf : ∀ q, q < h.1 → ¬ (q = 0 ∨ (2 ≤ q ∧ q < 10) ∨ (30 ≤ q ∧ q < 38)) → h'.2 q = h.2 q) : cs_H h' ((0, bt), (fk', fp'), v', z', U', im, tr) t' F' ia kk kt K := by
  have H0 := H
  obtain ⟨x1, x2, x3, x4, x5, x6, x7, x8, x9, x10, x11, x12, x13, x14⟩ := H
  have x5 : cs_im h im ia F := x5
  have x14 : cs_ad h im F ia kk kt := x14
  obtain ⟨a1, a2, a3, a4, a5, a6, a7, a8⟩ := id x14
  obtain ⟨m6, m7, m8, m9, m11, m12, m13, mi⟩ := H0.mid (h' := h') _ hf (fun q hq => ⟨by omega, by omega, fun c => (by have := a6 _ c; omega), by omega, by omega⟩)
  refine ⟨h0, ?_, hr, hP, ?_, m6, m7, m8, m9, hS, m11, m12, hT, ?_⟩
  · obtain ⟨tf, q1, q2⟩ := x2
    exact ⟨tf, (hf 1 (by omega) (by omega)).trans q1, fun j hj => absurd hj (Nat.not_lt_zero _)⟩
  · obtain ⟨g2, q1, q2⟩ := x5
    refine ⟨g2, (hf 10 (by omega) (by omega)).trans q1, fun i hi => ?_⟩
    have h3 := q2 i hi
    show match im i with | none => g2 i = .null | some x => g2 i = .ref (ia i).1 ∧ ln_SZ h' (ia i).1 (ia i).2 (rd_w x.1) x.2 ∧ ln_Tf h' (ia i).2 (rd_w x.1) F'
    cases hm : im i with
    | none => rw [hm] at h3; exact h3
    | some x =>
      rw [hm] at h3
      have h4 := a7 i hi (by rw [hm]; exact fun q => by cases q)
      have h5 := mi i hi x hm (fun q b1 b2 b3 => by omega)
      exact ⟨h3.1, h5.1, h5.2.eqv (fun _ _ => rfl) hF⟩
  · refine ⟨by omega, a2, a3, by omega, by omega, fun q hq => ?_, fun i hi hne => ?_, a8⟩
    · rcases hF' q hq with c | c
      · have := a6 q c
        omega
      · omega
    · have h4 := a7 i hi hne
      refine ⟨h4.1, by omega, h4.2.2.1, h4.2.2.2.1, fun q hq => ?_⟩
      rcases hF' q hq with c | c
      · exact h4.2.2.2.2 q c
      · omega
theorem rd_To.tf {h h' : az_Hp} {t q tx : Nat} {w : ln_W} (H : rd_To h t w q tx) (F : Nat → Prop) (hf : ∀ z, t ≤ z → h'.2 z = h.2 z) : ∃ F' : Nat → Prop, ln_Tf h' t w F' ∧ (∀ q, F q → F' q) ∧ (∀ q, F' q → F q ∨ (t ≤ q ∧ q < h.1)) := by
  obtain ⟨a4, a5, h0, h1, h2, h3, h4, h5, o1, o2, o3, o4, o5, o6⟩ := H
  exact ⟨fun q => F q ∨ q = t ∨ q = t + 1 ∨ q = t + 2 ∨ q = t + 3 ∨ q = a4 ∨ q = a5, ⟨a4, a5, (hf _ (by omega)).trans h0, (hf _ (by omega)).trans h1, (hf _ (by omega)).trans h2, (hf _ (by omega)).trans h3, (hf _ (by omega)).trans h4, (hf _ (by omega)).trans h5, Or.inr (Or.inl rfl), Or.inr (Or.inr (Or.inl rfl)), Or.inr (Or.inr (Or.inr (Or.inl rfl))), Or.inr (Or.inr (Or.inr (Or.inr (Or.inl rfl)))), Or.inr (Or.inr (Or.inr (Or.inr (Or.inr (Or.inl rfl))))), Or.inr (Or.inr (Or.inr (Or.inr (Or.inr (Or.inr rfl)))))⟩, fun q hq => Or.inl hq, fun q hq => (hq.elim (fun c => Or.inl c) (fun c => Or.inr (by omega)))⟩
theorem sc_R.new9 {h : az_Hp} {a t : Nat} {w : ln_W} {hi : Nat → Int32} (H : sc_R h a t (.int (nI (ln_mo w))) (.int (nI 0)) (.int (nI 0)) (ln_word w) hi) : ln_Scene h a t w (ln_mo w) 0 [] := by
  obtain ⟨fr, la, no, wa, nc, g0, g1, g2, g3, t3, g4, t4, g5, g6, g7⟩ := H
  exact ⟨hi, fr, la, no, wa, nc, g0, g1, g2, (fun i hi => absurd hi (Nat.not_lt_zero _)), g3, t3, g4, t4, g5, g6, g7⟩
theorem cs_ok.st {tp fk mo ni fk' : Nat} {bt : Nat → Nat} {fp fp' : Int32} {v v' : rd_V} {bs : List Nat} {U : ln_U} {im : Nat → Option (rd_V × ln_Z)} {tr : Nat → Option (Nat × List Int64)} (H : cs_ok ((tp, bt), (fk, fp), v, (mo, ni, bs), U, im, tr)) (hv : rd_good v') : cs_ok ((0, bt), (fk', fp'), v', (ln_mo (rd_w v'), 0, []), [], im, tr) := by
  obtain ⟨k1, k2, k3, k4, k5, k6, k7⟩ := H
  exact ⟨Nat.zero_le _, k2, hv, (fun k => (by show ln_by _ ([].take k); rw [List.take_nil]; exact ln_by_new hv.1)), Nat.zero_le _, ⟨fun u hu => absurd hu (by simp), List.Pairwise.nil⟩, k7⟩
set_option maxHeartbeats 4000000 in
set_option maxRecDepth 100000 in
theorem p_street {d : Nat} {x : Int32} {tp fk mo ni K : Nat} {bt : Nat → Nat} {fp : Int32} {v : rd_V} {bs : List Nat} {U : ln_U} {im : Nat → Option (rd_V × ln_Z)} {tr : Nat → Option (Nat × List Int64)} {hp : az_Hp} {Q : Option Value → az_Hp → Prop} (hd : 70 ≤ d) (hC : cs hp ((tp, bt), (fk, fp), v, (mo, ni, bs), U, im, tr) K) (hQ3 : (∀ n, n ≤ tp → x ≠ nI n) → Q (some (.int (-3))) hp) (hQ0 : ∀ n f p, x = nI n → n ≤ tp → rd_town bt n = .inr (f, p) → ∀ h', cs h' ((0, bt), (f, nI p), v, (mo, ni, bs), U, im, tr) K → cs_f hp h' → Q (some (.int ((-30) - nI f))) h') (hQ : ∀ n e v', x = nI n → n ≤ tp → rd_town bt n = .inl (e, v') → ∀ h', cs h' ((0, bt), (0, (-1)), v', (ln_mo (rd_w v'), 0, []), [], im, tr) K → cs_f hp h' → Q (some (.int (nI (ln_li (rd_w v'))))) h') : az_M mX11_street d 907 1011 [.ref 0, .int x] hp Q := by
  obtain ⟨hok, t, F, ia, kk, kt, x1, x2, x3, x4, x5, x6, x7, x8, x9, x10, x11, x12, x13, x14⟩ := id hC
  have hw : ln_ok (rd_w v) := hok.2.2.1.1
  have hlaw : ln_law (rd_w v) v.2.2.2.2.2.2.2.1 v.2.2.2.2.2.2.2.2 := hok.2.2.1.2
  have hba : ln_ba (rd_w v) bs := hok.2.2.2.1
  have hb : ln_by (rd_w v) bs := hba.b
  have x4 : ln_Past hp 6 U := x4
  have x5 : cs_im hp im ia F := x5
  have x6 : cs_tr hp tr := x6
  have x10 : ln_Scene hp 30 t (rd_w v) mo ni bs := x10
  have x13 : ln_Tf hp t (rd_w v) F := x13
  have x14 : cs_ad hp im F ia kk kt := x14
  obtain ⟨hi, fr, la, no, wa, nc, g0, -⟩ := id x10
  obtain ⟨t00, sv1, sv2, sv3, sv4, sv5, sc0, sc2, sc3, sc4, hq0⟩ := x10.q
  obtain ⟨fa, fn, fm, p0, p1, p2, p3, p4⟩ := id x4
  obtain ⟨tx0, sz, ki, aa, zz, va, k5, cf, ol, r1, r2, r3, r4⟩ := id (show cs_rd hp fk fp from x3)
  obtain ⟨tf, q1, q2⟩ := id (show cs_tp hp tp bt from x2)
  have h93 := x14.1
  have htp : tp ≤ 900 := hok.1
  have hb6 : ∀ j, bt j < 256 := hok.2.1
  have hH0 : cs_H hp ((tp, bt), (fk, fp), v, (mo, ni, bs), U, im, tr) t F ia kk kt K := ⟨x1, x2, x3, x4, x5, x6, x7, x8, x9, x10, x11, x12, x13, x14⟩
  refine az_M.of rfl (Nat.le_of_ble_eq_true rfl) ?_
  show az_W _ _ _ _ 0 [(0, .ref 0), (1, .int x)] [] _ _
  refine az_iload_n dX11_street_0 ?_
  refine az_if_lt (tgt := 12) dX11_street_1 (fun c1 => ?_) (fun c1 => ?_)
  · refine az_bipush (v := (-3)) dX11_street_12 ?_
    exact az_iret dX11_street_14 (hQ3 (fun n hn hx => (by first | (rw [hx, show (0 : Int32) = nI 0 from rfl] at c1; exact absurd ((nI_ltI (by omega) (by omega)).mp c1) (by omega)) | (rw [hx] at c9; exact c9 ((nI_leI (by omega) (by omega)).mpr hn)))))
  · refine az_iload_n dX11_street_4 ?_
    refine az_aload_n dX11_street_5 ?_
    refine az_getf (v := .int (nI tp)) dX11_street_6 fl_X11_81 x1 ?_
    refine az_icmp_le (tgt := 15) dX11_street_9 (fun c9 => ?_) (fun c9 => ?_)
    · obtain ⟨n, hn31, hx⟩ := I_of c1
      have hn : n ≤ tp := (by rw [hx] at c9; exact (nI_leI (by omega) (by omega)).mp c9)
      rw [hx]
      refine az_aload_n dX11_street_15 ?_
      refine az_iconst (v := nI 0) dX11_street_16 ?_
      refine az_putf (fs' := [.ref 1, .int (nI 0), .ref 2, .ref 30, .ref 38, .ref 6, .ref 10, .ref 11, .ref 12, .ref 15, .ref 21, .ref 46]) dX11_street_17 fl_X11_81 x1 ?_
      refine az_aload_n dX11_street_20 ?_
      refine az_getf (v := .ref 2) dX11_street_21 fl_X11_16 az_up_eq ?_
      refine az_aload_n dX11_street_24 ?_
      refine az_getf (v := .ref 1) dX11_street_25 fl_X11_9 az_up_eq ?_
      refine az_iload_n dX11_street_28 ?_
      refine az_cV (st := []) dX11_street_29 ml_X11_89 (az_up_ne r1) (s_readTown (d := d - 1) (q := 2) (tx := 1) (n := n) (b := bt) (tf := tf) (by omega) hb6 (by omega) (by omega) (az_up_ne q1) (fun j hj => q2 j (by omega)) (az_up_ne r1) r2 (az_up_ne r3) (az_up_ne r4) (by show 2 + 4 ≤ hp.1 ∧ 1 < hp.1; omega) ?_ ?_)
      · intro e v2 ht9 h2 hS2 hT2 hh2
        have hT2 : rd_To h2 hp.1 (rd_w v2) 2 1 := hT2
        have hh21 : hp.1 ≤ h2.1 := hh2.1
        have hE2 : ∀ z, z < hp.1 → ¬ (z = 0 ∨ (2 ≤ z ∧ z < 10)) → h2.2 z = hp.2 z := (fun z b1 b2 => (hh2.2 z b1 (by omega) (by omega) (by omega)).trans (az_up_ne rfl))
        have hgo := rd_town_gd (by omega) ht9
        refine az_astore_n (ls' := [(0, .ref 0), (1, .int (nI n)), (2, .ref hp.1)]) dX11_street_32 ?_
        refine az_aload_n dX11_street_33 ?_
        refine az_ifnonnull (tgt := 48) dX11_street_34 ?_
        refine az_aload_n dX11_street_48 ?_
        refine az_getf (v := .ref 30) dX11_street_49 fl_X11_66 ((hh2.2 0 (by show 0 < hp.1; omega) (by omega) (by omega) (by omega)).trans az_up_eq) ?_
        refine az_aload_n dX11_street_52 ?_
        have hsq : sc_Q h2 30 t00 sv1 sv2 sv3 sv4 sv5 sc0 sc2 sc3 sc4 := (by obtain ⟨n1, n2, n3, m0, m1, m2, m3, m4, m5, m6, m7⟩ := hq0; exact ⟨n1, n2, n3, (hE2 _ (by omega) (by omega)).trans m0, (hE2 _ (by omega) (by omega)).trans m1, (hE2 _ (by omega) (by omega)).trans m2, (hE2 _ (by omega) (by omega)).trans m3, (hE2 _ (by omega) (by omega)).trans m4, (hE2 _ (by omega) (by omega)).trans m5, (hE2 _ (by omega) (by omega)).trans m6, (hE2 _ (by omega) (by omega)).trans m7⟩)
        obtain ⟨F2, hTf2, hF2, hF3⟩ := hT2.tf F (h' := h2) (fun _ _ => rfl)
        refine az_cV0 (st := []) dX11_street_53 ml_X11_96 ((hh2.2 30 (by show 30 < hp.1; omega) (by omega) (by omega) (by omega)).trans (az_up_ne g0)) (s_begin (d := d - 1) (a := 30) (t := hp.1) (w := rd_w v2) (by omega) hgo.1 (hTf2.to (lo := 30) (hi := 38) (fun q hq => ((hF3 q hq).elim (fun c => (by have := x14.2.2.2.2.2.1 q c; omega)) (fun c => (by omega))))) hsq ?_)
        intro h3 hR3 hf3
        refine az_aload_n dX11_street_56 ?_
        refine az_getf (v := .ref 6) dX11_street_57 fl_X11_23 (hf3.at ((hh2.2 0 (by show 0 < hp.1; omega) (by omega) (by omega) (by omega)).trans az_up_eq)) ?_
        have hE3 : ∀ z, 6 ≤ z ∧ z < 10 → h2.2 z = hp.2 z := (fun z b1 => (hh2.2 z (by show z < hp.1; omega) (by omega) (by omega) (by omega)).trans (az_up_ne rfl))
        refine az_cV0 (st := []) dX11_street_60 ml_X11_99 (hf3.at ((hh2.2 6 (by show 6 < hp.1; omega) (by omega) (by omega) (by omega)).trans (az_up_ne p0))) (s_forget (p := 6) (k := U.length) (V := U) (hp := h3) ⟨fa, fn, fm, hf3.at ((hE3 _ (by omega)).trans p0), hf3.at ((hE3 _ (by omega)).trans p1), hf3.at ((hE3 _ (by omega)).trans p2), hf3.at ((hE3 _ (by omega)).trans p3), p4⟩ ?_)
        intro h4 hP4 hf4
        have hTf4 : ln_Tf h4 hp.1 (rd_w v2) F2 := hTf2.eqv (fun q hq => (by have h9 : (24 ≤ q ∧ q < 30) ∨ 93 ≤ q := ((hF3 q hq).elim (fun c => (by have := x14.2.2.2.2.2.1 q c; omega)) (fun c => (by omega))); exact (hf4.2 q (by omega)).trans (hf3.2 q (by omega)))) (fun _ q => q)
        obtain ⟨b4, b5, T0, -⟩ := id hTf4
        refine az_aload_n dX11_street_63 ?_
        refine az_getf (v := .int (nI (ln_li (rd_w v2)))) dX11_street_64 fl_X11_102 T0 ?_
        exact az_iret dX11_street_67 (by obtain ⟨s5, sva, hX5, -, s6, scf, sol, s0, s3, -, s2⟩ := hS2; exact hQ n e v2 hx hn ht9 h4 ⟨hok.st hgo, hp.1, F2, ia, kk, kt, hH0.st (by have := hf4.1; have := hf3.1; omega) (hf4.at (hf3.at ((hh2.2 0 (by show 0 < hp.1; omega) (by omega) (by omega) (by omega)).trans az_up_eq))) ⟨_, _, _, _, _, sva, s5, scf, sol, hf4.at (hf3.at s0), s6, hf4.at (hf3.at s3), hf4.at (hf3.at s2)⟩ hP4 (ln_Scene.fr hR3.new9 hf4 (by omega)) hTf4 hF2 (fun q hq => (hF3 q hq).elim (fun c => Or.inl c) (fun c => Or.inr (by have := hf4.1; have := hf3.1; omega))) (fun q b1 b2 => (hf4.2 q (by omega)).trans ((hf3.2 q (by omega)).trans (hE2 q b1 (by omega))))⟩ ⟨by have := hf4.1; have := hf3.1; omega, fun z b1 b2 => (hf4.2 z (by omega)).trans ((hf3.2 z (by omega)).trans (hE2 z (by omega) (by omega)))⟩)
      · intro f p ht9 h2 hE2 hh2
        have hh21 : hp.1 ≤ h2.1 := hh2.1
        obtain ⟨-, eki, eaa, ezz, eva, em, ecf, eol, er0, er1, er3, er2, -⟩ := id hE2
        have hEz : ∀ z, z < hp.1 → ¬ (z = 0 ∨ (2 ≤ z ∧ z < 6)) → h2.2 z = hp.2 z := (fun z b1 b2 => (hh2.2 z b1 (by omega) (by omega) (by omega)).trans (az_up_ne rfl))
        refine az_astore_nN (ls' := [(0, .ref 0), (1, .int (nI n)), (2, .null)]) dX11_street_32 ?_
        refine az_aload_nN dX11_street_33 ?_
        refine az_ifnonnullN dX11_street_34 ?_
        refine az_bipush (v := (-30)) dX11_street_37 ?_
        refine az_aload_n dX11_street_39 ?_
        refine az_getf (v := .ref 2) dX11_street_40 fl_X11_16 ((hh2.2 0 (by show 0 < hp.1; omega) (by omega) (by omega) (by omega)).trans az_up_eq) ?_
        refine az_getf (v := .int (nI f)) dX11_street_43 fl_X11_93 er0 ?_
        refine az_isub dX11_street_46 ?_
        exact az_iret dX11_street_47 (hQ0 n f p hx hn ht9 h2 ⟨⟨Nat.zero_le _, hok.2⟩, t, F, ia, kk, kt, hH0.st hh21 ((hh2.2 0 (by show 0 < hp.1; omega) (by omega) (by omega) (by omega)).trans az_up_eq) ⟨_, _, _, _, _, eva, em, ecf, eol, er0, er1, er3, er2⟩ ⟨fa, fn, fm, (hEz _ (by omega) (by omega)).trans p0, (hEz _ (by omega) (by omega)).trans p1, (hEz _ (by omega) (by omega)).trans p2, (hEz _ (by omega) (by omega)).trans p3, p4⟩ (ln_Scene.eqv x10 (fun z b1 b2 => hEz z (by omega) (by omega))) (x13.eqv (fun q hq => (by have := x14.2.2.2.2.2.1 q hq; exact hEz q (by omega) (by omega))) (fun _ q => q)) (fun _ q => q) (fun _ q => Or.inl q) (fun q b1 b2 => hEz q b1 (by omega))⟩ ⟨hh21, fun z b1 b2 => hEz z (by omega) (by omega)⟩)
    · refine az_bipush (v := (-3)) dX11_street_12 ?_
      exact az_iret dX11_street_14 (hQ3 (fun n hn hx => (by first | (rw [hx, show (0 : Int32) = nI 0 from rfl] at c1; exact absurd ((nI_ltI (by omega) (by omega)).mp c1) (by omega)) | (rw [hx] at c9; exact c9 ((nI_leI (by omega) (by omega)).mpr hn)))))

