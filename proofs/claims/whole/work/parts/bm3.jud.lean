/-! What each call answers, on -/
def J_begins (xt : Int32) (s : cs_S) (o : Option Value) (s' : cs_S) : Prop := match s with
  | ((tp, bt), (fk, fp), v, (mo, ni, bs), U, im, tr) => (¬ cs_in xt (ln_tb (rd_w v)) ∧ o = some (.int (-2)) ∧ s' = ((tp, bt), (fk, fp), v, (mo, ni, bs), U, im, tr)) ∨ (∃ tn, xt = nI tn ∧ tn < ln_tb (rd_w v) ∧ o = some (.int (nI (bg (rd_w v) tn 6))) ∧ s' = ((tp, bt), (fk, fp), v, (mo, ni, bs), U, im, tr))
theorem V_begins {xt : Int32} {s s' : cs_S} {o : Option Value} (h : J_begins xt s o s') : ∃ y : Int32, o = some (.int y) := by
  obtain ⟨⟨tp, bt⟩, ⟨fk, fp⟩, v, ⟨mo, ni, bs⟩, U, im, tr⟩ := s
  rcases h with ⟨-, rfl, -⟩ | ⟨_, -, -, rfl, -⟩
  · exact ⟨_, rfl⟩
  · exact ⟨_, rfl⟩
theorem P_begins {d K : Nat} {xt : Int32} {s : cs_S} {hp : az_Hp} (hd : 80 ≤ d) (hC : cs hp s K) : az_M mX11_begins d 0 0 [.ref 0, .int xt] hp (fun o h' => ∃ s', J_begins xt s o s' ∧ cs h' s' K ∧ cs_f hp h') := by
  obtain ⟨⟨tp, bt⟩, ⟨fk, fp⟩, v, ⟨mo, ni, bs⟩, U, im, tr⟩ := s
  exact p_begins (by omega) hC (fun c0 => ⟨_, Or.inl ⟨c0, rfl, rfl⟩, hC, cs_f.rf⟩) (fun v0_ c0 c1 => ⟨_, Or.inr ⟨v0_, c0, c1, rfl, rfl⟩, hC, cs_f.rf⟩)
theorem Q_begins {d : Nat} {xt : Int32} {s : cs_S} {hp : az_Hp} (hd : 80 ≤ d) (hok : cs_ok s) (hM : mm hp s) : az_M mX12_begins d 0 0 [.ref 64, .int xt] hp (fun o h' => ∃ s', J_begins xt s o s' ∧ mm h' s' ∧ az_fr hp h' 64 93) := by
  obtain ⟨⟨tp, bt⟩, ⟨fk, fp⟩, v, ⟨mo, ni, bs⟩, U, im, tr⟩ := s
  exact q_begins (by omega) hok hM (fun c0 h1 e1 e2 => ⟨_, Or.inl ⟨c0, rfl, rfl⟩, e1, e2⟩) (fun v0_ c0 c1 h1 e1 e2 => ⟨_, Or.inr ⟨v0_, c0, c1, rfl, rfl⟩, e1, e2⟩)
theorem D_begins {xt : Int32} {s s1 s2 : cs_S} {o1 o2 : Option Value} (hok : cs_ok s) (htr : ∀ n y, n < 4 → s.2.2.2.2.2.2 n = some y → y.2.length ≤ 40) (h1 : J_begins xt s o1 s1) (h2 : J_begins xt s o2 s2) : o1 = o2 ∧ s1 = s2 := by
  obtain ⟨⟨tp, bt⟩, ⟨fk, fp⟩, v, ⟨mo, ni, bs⟩, U, im, tr⟩ := s
  have w0 : tp ≤ 900 := hok.1
  have w1 : ln_tb (rd_w v) ≤ 3 := hok.2.2.1.1.2.1
  have w2 : (ln_str (rd_w v) bs).length ≤ 1000000000000 := (show ln_ba (rd_w v) bs from hok.2.2.2.1).b.2.2
  have w3 : U.length ≤ 10 := hok.2.2.2.2.1
  have htr : ∀ n y, n < 4 → tr n = some y → y.2.length ≤ 40 := htr
  rcases h1 with ⟨a0, rfl, rfl⟩ | ⟨tn1, a0, a1, rfl, rfl⟩
  · rcases h2 with ⟨b0, rfl, rfl⟩ | ⟨tn2, b0, b1, rfl, rfl⟩
    · exact ⟨rfl, rfl⟩
    · first | exact absurd (csI b0 (by omega) (by omega)) a0 | omega
  · rcases h2 with ⟨b0, rfl, rfl⟩ | ⟨tn2, b0, b1, rfl, rfl⟩
    · first | exact absurd (csI a0 (by omega) (by omega)) b0 | omega
    · obtain rfl : tn1 = tn2 := lN_2 (a0.symm.trans b0) (by omega) (by omega)
      exact ⟨rfl, rfl⟩
def J_comes (xl : Int32) (s : cs_S) (o : Option Value) (s' : cs_S) : Prop := match s with
  | ((tp, bt), (fk, fp), v, (mo, ni, bs), U, im, tr) => (¬ cs_in xl 6 ∧ o = some (.int (-2)) ∧ s' = ((tp, bt), (fk, fp), v, (mo, ni, bs), U, im, tr)) ∨ (∃ lt, xl = nI lt ∧ lt < 6 ∧ o = some (.int (ln_opt (cm (rd_w v) lt 6 0 (ln_sb (ln_str (rd_w v) bs) 6)))) ∧ s' = ((tp, bt), (fk, fp), v, (mo, ni, bs), U, im, tr))
theorem V_comes {xl : Int32} {s s' : cs_S} {o : Option Value} (h : J_comes xl s o s') : ∃ y : Int32, o = some (.int y) := by
  obtain ⟨⟨tp, bt⟩, ⟨fk, fp⟩, v, ⟨mo, ni, bs⟩, U, im, tr⟩ := s
  rcases h with ⟨-, rfl, -⟩ | ⟨_, -, -, rfl, -⟩
  · exact ⟨_, rfl⟩
  · exact ⟨_, rfl⟩
theorem P_comes {d K : Nat} {xl : Int32} {s : cs_S} {hp : az_Hp} (hd : 80 ≤ d) (hC : cs hp s K) : az_M mX11_comes d 0 0 [.ref 0, .int xl] hp (fun o h' => ∃ s', J_comes xl s o s' ∧ cs h' s' K ∧ cs_f hp h') := by
  obtain ⟨⟨tp, bt⟩, ⟨fk, fp⟩, v, ⟨mo, ni, bs⟩, U, im, tr⟩ := s
  exact p_comes (by omega) hC (fun c0 => ⟨_, Or.inl ⟨c0, rfl, rfl⟩, hC, cs_f.rf⟩) (fun v0_ c0 c1 => ⟨_, Or.inr ⟨v0_, c0, c1, rfl, rfl⟩, hC, cs_f.rf⟩)
theorem Q_comes {d : Nat} {xl : Int32} {s : cs_S} {hp : az_Hp} (hd : 80 ≤ d) (hok : cs_ok s) (hM : mm hp s) : az_M mX12_comes d 0 0 [.ref 64, .int xl] hp (fun o h' => ∃ s', J_comes xl s o s' ∧ mm h' s' ∧ az_fr hp h' 64 93) := by
  obtain ⟨⟨tp, bt⟩, ⟨fk, fp⟩, v, ⟨mo, ni, bs⟩, U, im, tr⟩ := s
  exact q_comes (by omega) hok hM (fun c0 h1 e1 e2 => ⟨_, Or.inl ⟨c0, rfl, rfl⟩, e1, e2⟩) (fun v0_ c0 c1 h1 e1 e2 => ⟨_, Or.inr ⟨v0_, c0, c1, rfl, rfl⟩, e1, e2⟩)
theorem D_comes {xl : Int32} {s s1 s2 : cs_S} {o1 o2 : Option Value} (hok : cs_ok s) (htr : ∀ n y, n < 4 → s.2.2.2.2.2.2 n = some y → y.2.length ≤ 40) (h1 : J_comes xl s o1 s1) (h2 : J_comes xl s o2 s2) : o1 = o2 ∧ s1 = s2 := by
  obtain ⟨⟨tp, bt⟩, ⟨fk, fp⟩, v, ⟨mo, ni, bs⟩, U, im, tr⟩ := s
  have w0 : tp ≤ 900 := hok.1
  have w1 : ln_tb (rd_w v) ≤ 3 := hok.2.2.1.1.2.1
  have w2 : (ln_str (rd_w v) bs).length ≤ 1000000000000 := (show ln_ba (rd_w v) bs from hok.2.2.2.1).b.2.2
  have w3 : U.length ≤ 10 := hok.2.2.2.2.1
  have htr : ∀ n y, n < 4 → tr n = some y → y.2.length ≤ 40 := htr
  rcases h1 with ⟨a0, rfl, rfl⟩ | ⟨lt1, a0, a1, rfl, rfl⟩
  · rcases h2 with ⟨b0, rfl, rfl⟩ | ⟨lt2, b0, b1, rfl, rfl⟩
    · exact ⟨rfl, rfl⟩
    · first | exact absurd (csI b0 (by omega) (by omega)) a0 | omega
  · rcases h2 with ⟨b0, rfl, rfl⟩ | ⟨lt2, b0, b1, rfl, rfl⟩
    · first | exact absurd (csI a0 (by omega) (by omega)) b0 | omega
    · obtain rfl : lt1 = lt2 := lN_2 (a0.symm.trans b0) (by omega) (by omega)
      exact ⟨rfl, rfl⟩
def J_soonest (x : Int64) (s : cs_S) (o : Option Value) (s' : cs_S) : Prop := match s with
  | ((tp, bt), (fk, fp), v, (mo, ni, bs), U, im, tr) => (x < lN 0 ∧ o = some (.int (-3)) ∧ s' = ((tp, bt), (fk, fp), v, (mo, ni, bs), U, im, tr)) ∨ (∃ n, x = lN n ∧ n < 2 ^ 63 ∧ o = some (.int (ln_opt ((fu_sn (rd_w v) n (fun x => (ln_str (rd_w v) bs).count x) 0 7).map List.length))) ∧ s' = ((tp, bt), (fk, fp), v, (mo, ni, bs), U, im, tr))
theorem V_soonest {x : Int64} {s s' : cs_S} {o : Option Value} (h : J_soonest x s o s') : ∃ y : Int32, o = some (.int y) := by
  obtain ⟨⟨tp, bt⟩, ⟨fk, fp⟩, v, ⟨mo, ni, bs⟩, U, im, tr⟩ := s
  rcases h with ⟨-, rfl, -⟩ | ⟨_, -, -, rfl, -⟩
  · exact ⟨_, rfl⟩
  · exact ⟨_, rfl⟩
theorem P_soonest {d K : Nat} {x : Int64} {s : cs_S} {hp : az_Hp} (hd : 80 ≤ d) (hC : cs hp s K) : az_M mX11_soonest d 0 0 [.ref 0, .long x] hp (fun o h' => ∃ s', J_soonest x s o s' ∧ cs h' s' K ∧ cs_f hp h') := by
  obtain ⟨⟨tp, bt⟩, ⟨fk, fp⟩, v, ⟨mo, ni, bs⟩, U, im, tr⟩ := s
  exact p_soonest (by omega) hC (fun c0 => ⟨_, Or.inl ⟨c0, rfl, rfl⟩, hC, cs_f.rf⟩) (fun v0_ c0 c1 h1 e1 e2 => ⟨_, Or.inr ⟨v0_, c0, c1, rfl, rfl⟩, e1, e2⟩)
theorem Q_soonest {d : Nat} {x : Int64} {s : cs_S} {hp : az_Hp} (hd : 80 ≤ d) (hok : cs_ok s) (hM : mm hp s) : az_M mX12_soonest d 0 0 [.ref 64, .long x] hp (fun o h' => ∃ s', J_soonest x s o s' ∧ mm h' s' ∧ az_fr hp h' 64 93) := by
  obtain ⟨⟨tp, bt⟩, ⟨fk, fp⟩, v, ⟨mo, ni, bs⟩, U, im, tr⟩ := s
  exact q_soonest (by omega) hok hM (fun c0 h1 e1 e2 => ⟨_, Or.inl ⟨c0, rfl, rfl⟩, e1, e2⟩) (fun v0_ c0 c1 h1 e1 e2 => ⟨_, Or.inr ⟨v0_, c0, c1, rfl, rfl⟩, e1, e2⟩)
theorem D_soonest {x : Int64} {s s1 s2 : cs_S} {o1 o2 : Option Value} (hok : cs_ok s) (htr : ∀ n y, n < 4 → s.2.2.2.2.2.2 n = some y → y.2.length ≤ 40) (h1 : J_soonest x s o1 s1) (h2 : J_soonest x s o2 s2) : o1 = o2 ∧ s1 = s2 := by
  obtain ⟨⟨tp, bt⟩, ⟨fk, fp⟩, v, ⟨mo, ni, bs⟩, U, im, tr⟩ := s
  have w0 : tp ≤ 900 := hok.1
  have w1 : ln_tb (rd_w v) ≤ 3 := hok.2.2.1.1.2.1
  have w2 : (ln_str (rd_w v) bs).length ≤ 1000000000000 := (show ln_ba (rd_w v) bs from hok.2.2.2.1).b.2.2
  have w3 : U.length ≤ 10 := hok.2.2.2.2.1
  have htr : ∀ n y, n < 4 → tr n = some y → y.2.length ≤ 40 := htr
  rcases h1 with ⟨a0, rfl, rfl⟩ | ⟨n1, a0, a1, rfl, rfl⟩
  · rcases h2 with ⟨b0, rfl, rfl⟩ | ⟨n2, b0, b1, rfl, rfl⟩
    · exact ⟨rfl, rfl⟩
    · first | exact absurd a0 (lN_ge b0 (by omega) (by omega)) | omega
  · rcases h2 with ⟨b0, rfl, rfl⟩ | ⟨n2, b0, b1, rfl, rfl⟩
    · first | exact absurd b0 (lN_ge a0 (by omega) (by omega)) | omega
    · obtain rfl : n1 = n2 := lN_J (a0.symm.trans b0) (by omega) (by omega)
      exact ⟨rfl, rfl⟩
def J_way (x : Int64) (xi : Int32) (s : cs_S) (o : Option Value) (s' : cs_S) : Prop := match s with
  | ((tp, bt), (fk, fp), v, (mo, ni, bs), U, im, tr) => ((x < lN 0 ∨ xi < 0) ∧ o = some (.int (-3)) ∧ s' = ((tp, bt), (fk, fp), v, (mo, ni, bs), U, im, tr)) ∨ (∃ n i, x = lN n ∧ n < 2 ^ 63 ∧ xi = nI i ∧ i < 2 ^ 31 ∧ o = some (.int (cs_way (fu_sn (rd_w v) n (fun x => (ln_str (rd_w v) bs).count x) 0 7) i)) ∧ s' = ((tp, bt), (fk, fp), v, (mo, ni, bs), U, im, tr))
theorem V_way {x : Int64} {xi : Int32} {s s' : cs_S} {o : Option Value} (h : J_way x xi s o s') : ∃ y : Int32, o = some (.int y) := by
  obtain ⟨⟨tp, bt⟩, ⟨fk, fp⟩, v, ⟨mo, ni, bs⟩, U, im, tr⟩ := s
  rcases h with ⟨-, rfl, -⟩ | ⟨_, _, -, -, -, -, rfl, -⟩
  · exact ⟨_, rfl⟩
  · exact ⟨_, rfl⟩
theorem P_way {d K : Nat} {x : Int64} {xi : Int32} {s : cs_S} {hp : az_Hp} (hd : 80 ≤ d) (hC : cs hp s K) : az_M mX11_way d 0 0 [.ref 0, .long x, .int xi] hp (fun o h' => ∃ s', J_way x xi s o s' ∧ cs h' s' K ∧ cs_f hp h') := by
  obtain ⟨⟨tp, bt⟩, ⟨fk, fp⟩, v, ⟨mo, ni, bs⟩, U, im, tr⟩ := s
  exact p_way (by omega) hC (fun c0 => ⟨_, Or.inl ⟨c0, rfl, rfl⟩, hC, cs_f.rf⟩) (fun v0_ v1_ c0 c1 c2 c3 h1 e1 e2 => ⟨_, Or.inr ⟨v0_, v1_, c0, c1, c2, c3, rfl, rfl⟩, e1, e2⟩)
theorem Q_way {d : Nat} {x : Int64} {xi : Int32} {s : cs_S} {hp : az_Hp} (hd : 80 ≤ d) (hok : cs_ok s) (hM : mm hp s) : az_M mX12_way d 0 0 [.ref 64, .long x, .int xi] hp (fun o h' => ∃ s', J_way x xi s o s' ∧ mm h' s' ∧ az_fr hp h' 64 93) := by
  obtain ⟨⟨tp, bt⟩, ⟨fk, fp⟩, v, ⟨mo, ni, bs⟩, U, im, tr⟩ := s
  exact q_way (by omega) hok hM (fun c0 h1 e1 e2 => ⟨_, Or.inl ⟨c0, rfl, rfl⟩, e1, e2⟩) (fun v0_ v1_ c0 c1 c2 c3 h1 e1 e2 => ⟨_, Or.inr ⟨v0_, v1_, c0, c1, c2, c3, rfl, rfl⟩, e1, e2⟩)
theorem D_way {x : Int64} {xi : Int32} {s s1 s2 : cs_S} {o1 o2 : Option Value} (hok : cs_ok s) (htr : ∀ n y, n < 4 → s.2.2.2.2.2.2 n = some y → y.2.length ≤ 40) (h1 : J_way x xi s o1 s1) (h2 : J_way x xi s o2 s2) : o1 = o2 ∧ s1 = s2 := by
  obtain ⟨⟨tp, bt⟩, ⟨fk, fp⟩, v, ⟨mo, ni, bs⟩, U, im, tr⟩ := s
  have w0 : tp ≤ 900 := hok.1
  have w1 : ln_tb (rd_w v) ≤ 3 := hok.2.2.1.1.2.1
  have w2 : (ln_str (rd_w v) bs).length ≤ 1000000000000 := (show ln_ba (rd_w v) bs from hok.2.2.2.1).b.2.2
  have w3 : U.length ≤ 10 := hok.2.2.2.2.1
  have htr : ∀ n y, n < 4 → tr n = some y → y.2.length ≤ 40 := htr
  rcases h1 with ⟨a0, rfl, rfl⟩ | ⟨n1, i1, a0, a1, a2, a3, rfl, rfl⟩
  · rcases h2 with ⟨b0, rfl, rfl⟩ | ⟨n2, i2, b0, b1, b2, b3, rfl, rfl⟩
    · exact ⟨rfl, rfl⟩
    · first | exact a0.elim (fun q9 => absurd q9 (lN_ge b0 (by omega) (by omega))) (fun q9 => absurd q9 (nI_ge9 b2 (by omega))) | omega
  · rcases h2 with ⟨b0, rfl, rfl⟩ | ⟨n2, i2, b0, b1, b2, b3, rfl, rfl⟩
    · first | exact b0.elim (fun q9 => absurd q9 (lN_ge a0 (by omega) (by omega))) (fun q9 => absurd q9 (nI_ge9 a2 (by omega))) | omega
    · obtain rfl : n1 = n2 := lN_J (a0.symm.trans b0) (by omega) (by omega)
      obtain rfl : i1 = i2 := lN_2 (a2.symm.trans b2) (by omega) (by omega)
      exact ⟨rfl, rfl⟩
def J_rows (x : Int64) (xk : Int32) (s : cs_S) (o : Option Value) (s' : cs_S) : Prop := match s with
  | ((tp, bt), (fk, fp), v, (mo, ni, bs), U, im, tr) => ((x < lN 0 ∨ ¬ cs_in xk 8) ∧ o = some (.int (-3)) ∧ s' = ((tp, bt), (fk, fp), v, (mo, ni, bs), U, im, tr)) ∨ (∃ n k, x = lN n ∧ n < 2 ^ 63 ∧ xk = nI k ∧ k < 8 ∧ o = some (.int (nI (fu_rows (rd_w v) n k (fun x => (ln_str (rd_w v) bs).count x)))) ∧ s' = ((tp, bt), (fk, fp), v, (mo, ni, bs), U, im, tr))
theorem V_rows {x : Int64} {xk : Int32} {s s' : cs_S} {o : Option Value} (h : J_rows x xk s o s') : ∃ y : Int32, o = some (.int y) := by
  obtain ⟨⟨tp, bt⟩, ⟨fk, fp⟩, v, ⟨mo, ni, bs⟩, U, im, tr⟩ := s
  rcases h with ⟨-, rfl, -⟩ | ⟨_, _, -, -, -, -, rfl, -⟩
  · exact ⟨_, rfl⟩
  · exact ⟨_, rfl⟩
theorem P_rows {d K : Nat} {x : Int64} {xk : Int32} {s : cs_S} {hp : az_Hp} (hd : 80 ≤ d) (hC : cs hp s K) : az_M mX11_rows d 0 0 [.ref 0, .long x, .int xk] hp (fun o h' => ∃ s', J_rows x xk s o s' ∧ cs h' s' K ∧ cs_f hp h') := by
  obtain ⟨⟨tp, bt⟩, ⟨fk, fp⟩, v, ⟨mo, ni, bs⟩, U, im, tr⟩ := s
  exact p_rows (by omega) hC (fun c0 => ⟨_, Or.inl ⟨c0, rfl, rfl⟩, hC, cs_f.rf⟩) (fun v0_ v1_ c0 c1 c2 c3 h1 e1 e2 => ⟨_, Or.inr ⟨v0_, v1_, c0, c1, c2, c3, rfl, rfl⟩, e1, e2⟩)
theorem Q_rows {d : Nat} {x : Int64} {xk : Int32} {s : cs_S} {hp : az_Hp} (hd : 80 ≤ d) (hok : cs_ok s) (hM : mm hp s) : az_M mX12_rows d 0 0 [.ref 64, .long x, .int xk] hp (fun o h' => ∃ s', J_rows x xk s o s' ∧ mm h' s' ∧ az_fr hp h' 64 93) := by
  obtain ⟨⟨tp, bt⟩, ⟨fk, fp⟩, v, ⟨mo, ni, bs⟩, U, im, tr⟩ := s
  exact q_rows (by omega) hok hM (fun c0 h1 e1 e2 => ⟨_, Or.inl ⟨c0, rfl, rfl⟩, e1, e2⟩) (fun v0_ v1_ c0 c1 c2 c3 h1 e1 e2 => ⟨_, Or.inr ⟨v0_, v1_, c0, c1, c2, c3, rfl, rfl⟩, e1, e2⟩)
theorem D_rows {x : Int64} {xk : Int32} {s s1 s2 : cs_S} {o1 o2 : Option Value} (hok : cs_ok s) (htr : ∀ n y, n < 4 → s.2.2.2.2.2.2 n = some y → y.2.length ≤ 40) (h1 : J_rows x xk s o1 s1) (h2 : J_rows x xk s o2 s2) : o1 = o2 ∧ s1 = s2 := by
  obtain ⟨⟨tp, bt⟩, ⟨fk, fp⟩, v, ⟨mo, ni, bs⟩, U, im, tr⟩ := s
  have w0 : tp ≤ 900 := hok.1
  have w1 : ln_tb (rd_w v) ≤ 3 := hok.2.2.1.1.2.1
  have w2 : (ln_str (rd_w v) bs).length ≤ 1000000000000 := (show ln_ba (rd_w v) bs from hok.2.2.2.1).b.2.2
  have w3 : U.length ≤ 10 := hok.2.2.2.2.1
  have htr : ∀ n y, n < 4 → tr n = some y → y.2.length ≤ 40 := htr
  rcases h1 with ⟨a0, rfl, rfl⟩ | ⟨n1, k1, a0, a1, a2, a3, rfl, rfl⟩
  · rcases h2 with ⟨b0, rfl, rfl⟩ | ⟨n2, k2, b0, b1, b2, b3, rfl, rfl⟩
    · exact ⟨rfl, rfl⟩
    · first | exact a0.elim (fun q9 => absurd q9 (lN_ge b0 (by omega) (by omega))) (fun q9 => absurd (csI b2 (by omega) (by omega)) q9) | omega
  · rcases h2 with ⟨b0, rfl, rfl⟩ | ⟨n2, k2, b0, b1, b2, b3, rfl, rfl⟩
    · first | exact b0.elim (fun q9 => absurd q9 (lN_ge a0 (by omega) (by omega))) (fun q9 => absurd (csI a2 (by omega) (by omega)) q9) | omega
    · obtain rfl : n1 = n2 := lN_J (a0.symm.trans b0) (by omega) (by omega)
      obtain rfl : k1 = k2 := lN_2 (a2.symm.trans b2) (by omega) (by omega)
      exact ⟨rfl, rfl⟩
def J_longBy (x : Int32) (s : cs_S) (o : Option Value) (s' : cs_S) : Prop := match s with
  | ((tp, bt), (fk, fp), v, (mo, ni, bs), U, im, tr) => ((∀ n, n < 4 → x ≠ nI n) ∧ o = some (.int (-2)) ∧ s' = ((tp, bt), (fk, fp), v, (mo, ni, bs), U, im, tr)) ∨ (∃ n, x = nI n ∧ n < 4 ∧ tr n = none ∧ o = some (.int (-6)) ∧ s' = ((tp, bt), (fk, fp), v, (mo, ni, bs), U, im, tr)) ∨ (∃ n y, x = nI n ∧ n < 4 ∧ tr n = some y ∧ ¬ (1 ≤ y.2.length ∧ y.2.length ≤ 8) ∧ o = some (.int (-4)) ∧ s' = ((tp, bt), (fk, fp), v, (mo, ni, bs), U, im, tr)) ∨ (∃ n y, x = nI n ∧ n < 4 ∧ tr n = some y ∧ 1 ≤ y.2.length ∧ y.2.length ≤ 8 ∧ ¬ cs_ln y.2 (-1) ∧ o = some (.int (-3)) ∧ s' = ((tp, bt), (fk, fp), v, (mo, ni, bs), U, im, tr)) ∨ (∃ n y, x = nI n ∧ n < 4 ∧ tr n = some y ∧ 1 ≤ y.2.length ∧ y.2.length ≤ 8 ∧ cs_ln y.2 (-1) ∧ o = some (.int (nI (fu_lg (rd_w v) (fun j => y.2.getD j 0) y.2.length 0 (fun x => (ln_str (rd_w v) bs).count x)).length)) ∧ s' = ((tp, bt), (fk, fp), v, (mo, ni, bs), U, im, tr))
theorem V_longBy {x : Int32} {s s' : cs_S} {o : Option Value} (h : J_longBy x s o s') : ∃ y : Int32, o = some (.int y) := by
  obtain ⟨⟨tp, bt⟩, ⟨fk, fp⟩, v, ⟨mo, ni, bs⟩, U, im, tr⟩ := s
  rcases h with ⟨-, rfl, -⟩ | ⟨_, -, -, -, rfl, -⟩ | ⟨_, _, -, -, -, -, rfl, -⟩ | ⟨_, _, -, -, -, -, -, -, rfl, -⟩ | ⟨_, _, -, -, -, -, -, -, rfl, -⟩
  · exact ⟨_, rfl⟩
  · exact ⟨_, rfl⟩
  · exact ⟨_, rfl⟩
  · exact ⟨_, rfl⟩
  · exact ⟨_, rfl⟩
theorem P_longBy {d K : Nat} {x : Int32} {s : cs_S} {hp : az_Hp} (hd : 80 ≤ d) (hC : cs hp s K) : az_M mX11_longBy d 0 0 [.ref 0, .int x] hp (fun o h' => ∃ s', J_longBy x s o s' ∧ cs h' s' K ∧ cs_f hp h') := by
  obtain ⟨⟨tp, bt⟩, ⟨fk, fp⟩, v, ⟨mo, ni, bs⟩, U, im, tr⟩ := s
  exact p_longBy (by omega) hC (fun c0 => ⟨_, Or.inl ⟨c0, rfl, rfl⟩, hC, cs_f.rf⟩) (fun v0_ c0 c1 c2 => ⟨_, Or.inr (Or.inl ⟨v0_, c0, c1, c2, rfl, rfl⟩), hC, cs_f.rf⟩) (fun v0_ v1_ c0 c1 c2 c3 => ⟨_, Or.inr (Or.inr (Or.inl ⟨v0_, v1_, c0, c1, c2, c3, rfl, rfl⟩)), hC, cs_f.rf⟩) (fun v0_ v1_ c0 c1 c2 c3 c4 c5 => ⟨_, Or.inr (Or.inr (Or.inr (Or.inl ⟨v0_, v1_, c0, c1, c2, c3, c4, c5, rfl, rfl⟩))), hC, cs_f.rf⟩) (fun v0_ v1_ c0 c1 c2 c3 c4 c5 h1 e1 e2 => ⟨_, Or.inr (Or.inr (Or.inr (Or.inr ⟨v0_, v1_, c0, c1, c2, c3, c4, c5, rfl, rfl⟩))), e1, e2⟩)
theorem Q_longBy {d : Nat} {x : Int32} {s : cs_S} {hp : az_Hp} (hd : 80 ≤ d) (hok : cs_ok s) (hM : mm hp s) : az_M mX12_longBy d 0 0 [.ref 64, .int x] hp (fun o h' => ∃ s', J_longBy x s o s' ∧ mm h' s' ∧ az_fr hp h' 64 93) := by
  obtain ⟨⟨tp, bt⟩, ⟨fk, fp⟩, v, ⟨mo, ni, bs⟩, U, im, tr⟩ := s
  exact q_longBy (by omega) hok hM (fun c0 h1 e1 e2 => ⟨_, Or.inl ⟨c0, rfl, rfl⟩, e1, e2⟩) (fun v0_ c0 c1 c2 h1 e1 e2 => ⟨_, Or.inr (Or.inl ⟨v0_, c0, c1, c2, rfl, rfl⟩), e1, e2⟩) (fun v0_ v1_ c0 c1 c2 c3 h1 e1 e2 => ⟨_, Or.inr (Or.inr (Or.inl ⟨v0_, v1_, c0, c1, c2, c3, rfl, rfl⟩)), e1, e2⟩) (fun v0_ v1_ c0 c1 c2 c3 c4 c5 h1 e1 e2 => ⟨_, Or.inr (Or.inr (Or.inr (Or.inl ⟨v0_, v1_, c0, c1, c2, c3, c4, c5, rfl, rfl⟩))), e1, e2⟩) (fun v0_ v1_ c0 c1 c2 c3 c4 c5 h1 e1 e2 => ⟨_, Or.inr (Or.inr (Or.inr (Or.inr ⟨v0_, v1_, c0, c1, c2, c3, c4, c5, rfl, rfl⟩))), e1, e2⟩)
theorem D_longBy {x : Int32} {s s1 s2 : cs_S} {o1 o2 : Option Value} (hok : cs_ok s) (htr : ∀ n y, n < 4 → s.2.2.2.2.2.2 n = some y → y.2.length ≤ 40) (h1 : J_longBy x s o1 s1) (h2 : J_longBy x s o2 s2) : o1 = o2 ∧ s1 = s2 := by
  obtain ⟨⟨tp, bt⟩, ⟨fk, fp⟩, v, ⟨mo, ni, bs⟩, U, im, tr⟩ := s
  have w0 : tp ≤ 900 := hok.1
  have w1 : ln_tb (rd_w v) ≤ 3 := hok.2.2.1.1.2.1
  have w2 : (ln_str (rd_w v) bs).length ≤ 1000000000000 := (show ln_ba (rd_w v) bs from hok.2.2.2.1).b.2.2
  have w3 : U.length ≤ 10 := hok.2.2.2.2.1
  have htr : ∀ n y, n < 4 → tr n = some y → y.2.length ≤ 40 := htr
  rcases h1 with ⟨a0, rfl, rfl⟩ | ⟨n1, a0, a1, a2, rfl, rfl⟩ | ⟨n1, y1, a0, a1, a2, a3, rfl, rfl⟩ | ⟨n1, y1, a0, a1, a2, a3, a4, a5, rfl, rfl⟩ | ⟨n1, y1, a0, a1, a2, a3, a4, a5, rfl, rfl⟩
  · rcases h2 with ⟨b0, rfl, rfl⟩ | ⟨n2, b0, b1, b2, rfl, rfl⟩ | ⟨n2, y2, b0, b1, b2, b3, rfl, rfl⟩ | ⟨n2, y2, b0, b1, b2, b3, b4, b5, rfl, rfl⟩ | ⟨n2, y2, b0, b1, b2, b3, b4, b5, rfl, rfl⟩
    · exact ⟨rfl, rfl⟩
    · first | exact absurd b0 (a0 _ (by omega) ) | omega
    · have htb := htr _ _ b1 b2
      first | exact absurd b0 (a0 _ (by omega) ) | omega
    · have htb := htr _ _ b1 b2
      first | exact absurd b0 (a0 _ (by omega) ) | omega
    · have htb := htr _ _ b1 b2
      first | exact absurd b0 (a0 _ (by omega) ) | omega
  · rcases h2 with ⟨b0, rfl, rfl⟩ | ⟨n2, b0, b1, b2, rfl, rfl⟩ | ⟨n2, y2, b0, b1, b2, b3, rfl, rfl⟩ | ⟨n2, y2, b0, b1, b2, b3, b4, b5, rfl, rfl⟩ | ⟨n2, y2, b0, b1, b2, b3, b4, b5, rfl, rfl⟩
    · first | exact absurd a0 (b0 _ (by omega) ) | omega
    · obtain rfl : n1 = n2 := lN_2 (a0.symm.trans b0) (by omega) (by omega)
      exact ⟨rfl, rfl⟩
    · have htb := htr _ _ b1 b2
      obtain rfl : n1 = n2 := lN_2 (a0.symm.trans b0) (by omega) (by omega)
      exact nomatch (a2.symm.trans b2)
    · have htb := htr _ _ b1 b2
      obtain rfl : n1 = n2 := lN_2 (a0.symm.trans b0) (by omega) (by omega)
      exact nomatch (a2.symm.trans b2)
    · have htb := htr _ _ b1 b2
      obtain rfl : n1 = n2 := lN_2 (a0.symm.trans b0) (by omega) (by omega)
      exact nomatch (a2.symm.trans b2)
  · rcases h2 with ⟨b0, rfl, rfl⟩ | ⟨n2, b0, b1, b2, rfl, rfl⟩ | ⟨n2, y2, b0, b1, b2, b3, rfl, rfl⟩ | ⟨n2, y2, b0, b1, b2, b3, b4, b5, rfl, rfl⟩ | ⟨n2, y2, b0, b1, b2, b3, b4, b5, rfl, rfl⟩
    · have hta := htr _ _ a1 a2
      first | exact absurd a0 (b0 _ (by omega) ) | omega
    · have hta := htr _ _ a1 a2
      obtain rfl : n1 = n2 := lN_2 (a0.symm.trans b0) (by omega) (by omega)
      exact nomatch (a2.symm.trans b2)
    · have hta := htr _ _ a1 a2
      have htb := htr _ _ b1 b2
      obtain rfl : n1 = n2 := lN_2 (a0.symm.trans b0) (by omega) (by omega)
      cases a2.symm.trans b2
      exact ⟨rfl, rfl⟩
    · have hta := htr _ _ a1 a2
      have htb := htr _ _ b1 b2
      obtain rfl : n1 = n2 := lN_2 (a0.symm.trans b0) (by omega) (by omega)
      cases a2.symm.trans b2
      first | exact absurd ⟨b3, b4⟩ a3 | omega
    · have hta := htr _ _ a1 a2
      have htb := htr _ _ b1 b2
      obtain rfl : n1 = n2 := lN_2 (a0.symm.trans b0) (by omega) (by omega)
      cases a2.symm.trans b2
      first | exact absurd ⟨b3, b4⟩ a3 | omega
  · rcases h2 with ⟨b0, rfl, rfl⟩ | ⟨n2, b0, b1, b2, rfl, rfl⟩ | ⟨n2, y2, b0, b1, b2, b3, rfl, rfl⟩ | ⟨n2, y2, b0, b1, b2, b3, b4, b5, rfl, rfl⟩ | ⟨n2, y2, b0, b1, b2, b3, b4, b5, rfl, rfl⟩
    · have hta := htr _ _ a1 a2
      first | exact absurd a0 (b0 _ (by omega) ) | omega
    · have hta := htr _ _ a1 a2
      obtain rfl : n1 = n2 := lN_2 (a0.symm.trans b0) (by omega) (by omega)
      exact nomatch (a2.symm.trans b2)
    · have hta := htr _ _ a1 a2
      have htb := htr _ _ b1 b2
      obtain rfl : n1 = n2 := lN_2 (a0.symm.trans b0) (by omega) (by omega)
      cases a2.symm.trans b2
      first | exact absurd ⟨a3, a4⟩ b3 | omega
    · have hta := htr _ _ a1 a2
      have htb := htr _ _ b1 b2
      obtain rfl : n1 = n2 := lN_2 (a0.symm.trans b0) (by omega) (by omega)
      cases a2.symm.trans b2
      exact ⟨rfl, rfl⟩
    · have hta := htr _ _ a1 a2
      have htb := htr _ _ b1 b2
      obtain rfl : n1 = n2 := lN_2 (a0.symm.trans b0) (by omega) (by omega)
      cases a2.symm.trans b2
      first | exact absurd b5 a5 | omega
  · rcases h2 with ⟨b0, rfl, rfl⟩ | ⟨n2, b0, b1, b2, rfl, rfl⟩ | ⟨n2, y2, b0, b1, b2, b3, rfl, rfl⟩ | ⟨n2, y2, b0, b1, b2, b3, b4, b5, rfl, rfl⟩ | ⟨n2, y2, b0, b1, b2, b3, b4, b5, rfl, rfl⟩
    · have hta := htr _ _ a1 a2
      first | exact absurd a0 (b0 _ (by omega) ) | omega
    · have hta := htr _ _ a1 a2
      obtain rfl : n1 = n2 := lN_2 (a0.symm.trans b0) (by omega) (by omega)
      exact nomatch (a2.symm.trans b2)
    · have hta := htr _ _ a1 a2
      have htb := htr _ _ b1 b2
      obtain rfl : n1 = n2 := lN_2 (a0.symm.trans b0) (by omega) (by omega)
      cases a2.symm.trans b2
      first | exact absurd ⟨a3, a4⟩ b3 | omega
    · have hta := htr _ _ a1 a2
      have htb := htr _ _ b1 b2
      obtain rfl : n1 = n2 := lN_2 (a0.symm.trans b0) (by omega) (by omega)
      cases a2.symm.trans b2
      first | exact absurd a5 b5 | omega
    · have hta := htr _ _ a1 a2
      have htb := htr _ _ b1 b2
      obtain rfl : n1 = n2 := lN_2 (a0.symm.trans b0) (by omega) (by omega)
      cases a2.symm.trans b2
      exact ⟨rfl, rfl⟩
def J_tables (x : Int32) (xi : Int32) (s : cs_S) (o : Option Value) (s' : cs_S) : Prop := match s with
  | ((tp, bt), (fk, fp), v, (mo, ni, bs), U, im, tr) => ((∀ n, n < 4 → x ≠ nI n) ∧ o = some (.int (-2)) ∧ s' = ((tp, bt), (fk, fp), v, (mo, ni, bs), U, im, tr)) ∨ (∃ n, x = nI n ∧ n < 4 ∧ tr n = none ∧ o = some (.int (-6)) ∧ s' = ((tp, bt), (fk, fp), v, (mo, ni, bs), U, im, tr)) ∨ (∃ n y, x = nI n ∧ n < 4 ∧ tr n = some y ∧ ¬ (1 ≤ y.2.length ∧ y.2.length ≤ 8) ∧ o = some (.int (-4)) ∧ s' = ((tp, bt), (fk, fp), v, (mo, ni, bs), U, im, tr)) ∨ (∃ n y, x = nI n ∧ n < 4 ∧ tr n = some y ∧ 1 ≤ y.2.length ∧ y.2.length ≤ 8 ∧ ¬ cs_ln y.2 (-1) ∧ o = some (.int (-3)) ∧ s' = ((tp, bt), (fk, fp), v, (mo, ni, bs), U, im, tr)) ∨ (∃ n y, x = nI n ∧ n < 4 ∧ tr n = some y ∧ 1 ≤ y.2.length ∧ y.2.length ≤ 8 ∧ cs_ln y.2 (-1) ∧ xi < 0 ∧ o = some (.int (-3)) ∧ s' = ((tp, bt), (fk, fp), v, (mo, ni, bs), U, im, tr)) ∨ (∃ n y i, x = nI n ∧ n < 4 ∧ tr n = some y ∧ 1 ≤ y.2.length ∧ y.2.length ≤ 8 ∧ cs_ln y.2 (-1) ∧ xi = nI i ∧ i < 2 ^ 31 ∧ y.2.length ≤ i ∧ o = some (.int (-7)) ∧ s' = ((tp, bt), (fk, fp), v, (mo, ni, bs), U, im, tr)) ∨ (∃ n y i, x = nI n ∧ n < 4 ∧ tr n = some y ∧ 1 ≤ y.2.length ∧ y.2.length ≤ 8 ∧ cs_ln y.2 (-1) ∧ xi = nI i ∧ i < y.2.length ∧ o = some (.int (nI (fu_or i (fu_lg (rd_w v) (fun j => y.2.getD j 0) y.2.length 0 (fun x => (ln_str (rd_w v) bs).count x))))) ∧ s' = ((tp, bt), (fk, fp), v, (mo, ni, bs), U, im, tr))
theorem V_tables {x : Int32} {xi : Int32} {s s' : cs_S} {o : Option Value} (h : J_tables x xi s o s') : ∃ y : Int32, o = some (.int y) := by
  obtain ⟨⟨tp, bt⟩, ⟨fk, fp⟩, v, ⟨mo, ni, bs⟩, U, im, tr⟩ := s
  rcases h with ⟨-, rfl, -⟩ | ⟨_, -, -, -, rfl, -⟩ | ⟨_, _, -, -, -, -, rfl, -⟩ | ⟨_, _, -, -, -, -, -, -, rfl, -⟩ | ⟨_, _, -, -, -, -, -, -, -, rfl, -⟩ | ⟨_, _, _, -, -, -, -, -, -, -, -, -, rfl, -⟩ | ⟨_, _, _, -, -, -, -, -, -, -, -, rfl, -⟩
  · exact ⟨_, rfl⟩
  · exact ⟨_, rfl⟩
  · exact ⟨_, rfl⟩
  · exact ⟨_, rfl⟩
  · exact ⟨_, rfl⟩
  · exact ⟨_, rfl⟩
  · exact ⟨_, rfl⟩
theorem P_tables {d K : Nat} {x : Int32} {xi : Int32} {s : cs_S} {hp : az_Hp} (hd : 80 ≤ d) (hC : cs hp s K) : az_M mX11_tables d 0 0 [.ref 0, .int x, .int xi] hp (fun o h' => ∃ s', J_tables x xi s o s' ∧ cs h' s' K ∧ cs_f hp h') := by
  obtain ⟨⟨tp, bt⟩, ⟨fk, fp⟩, v, ⟨mo, ni, bs⟩, U, im, tr⟩ := s
  exact p_tables (by omega) hC (fun c0 => ⟨_, Or.inl ⟨c0, rfl, rfl⟩, hC, cs_f.rf⟩) (fun v0_ c0 c1 c2 => ⟨_, Or.inr (Or.inl ⟨v0_, c0, c1, c2, rfl, rfl⟩), hC, cs_f.rf⟩) (fun v0_ v1_ c0 c1 c2 c3 => ⟨_, Or.inr (Or.inr (Or.inl ⟨v0_, v1_, c0, c1, c2, c3, rfl, rfl⟩)), hC, cs_f.rf⟩) (fun v0_ v1_ c0 c1 c2 c3 c4 c5 => ⟨_, Or.inr (Or.inr (Or.inr (Or.inl ⟨v0_, v1_, c0, c1, c2, c3, c4, c5, rfl, rfl⟩))), hC, cs_f.rf⟩) (fun v0_ v1_ c0 c1 c2 c3 c4 c5 c6 => ⟨_, Or.inr (Or.inr (Or.inr (Or.inr (Or.inl ⟨v0_, v1_, c0, c1, c2, c3, c4, c5, c6, rfl, rfl⟩)))), hC, cs_f.rf⟩) (fun v0_ v1_ v2_ c0 c1 c2 c3 c4 c5 c6 c7 c8 => ⟨_, Or.inr (Or.inr (Or.inr (Or.inr (Or.inr (Or.inl ⟨v0_, v1_, v2_, c0, c1, c2, c3, c4, c5, c6, c7, c8, rfl, rfl⟩))))), hC, cs_f.rf⟩) (fun v0_ v1_ v2_ c0 c1 c2 c3 c4 c5 c6 c7 h1 e1 e2 => ⟨_, Or.inr (Or.inr (Or.inr (Or.inr (Or.inr (Or.inr ⟨v0_, v1_, v2_, c0, c1, c2, c3, c4, c5, c6, c7, rfl, rfl⟩))))), e1, e2⟩)
theorem Q_tables {d : Nat} {x : Int32} {xi : Int32} {s : cs_S} {hp : az_Hp} (hd : 80 ≤ d) (hok : cs_ok s) (hM : mm hp s) : az_M mX12_tables d 0 0 [.ref 64, .int x, .int xi] hp (fun o h' => ∃ s', J_tables x xi s o s' ∧ mm h' s' ∧ az_fr hp h' 64 93) := by
  obtain ⟨⟨tp, bt⟩, ⟨fk, fp⟩, v, ⟨mo, ni, bs⟩, U, im, tr⟩ := s
  exact q_tables (by omega) hok hM (fun c0 h1 e1 e2 => ⟨_, Or.inl ⟨c0, rfl, rfl⟩, e1, e2⟩) (fun v0_ c0 c1 c2 h1 e1 e2 => ⟨_, Or.inr (Or.inl ⟨v0_, c0, c1, c2, rfl, rfl⟩), e1, e2⟩) (fun v0_ v1_ c0 c1 c2 c3 h1 e1 e2 => ⟨_, Or.inr (Or.inr (Or.inl ⟨v0_, v1_, c0, c1, c2, c3, rfl, rfl⟩)), e1, e2⟩) (fun v0_ v1_ c0 c1 c2 c3 c4 c5 h1 e1 e2 => ⟨_, Or.inr (Or.inr (Or.inr (Or.inl ⟨v0_, v1_, c0, c1, c2, c3, c4, c5, rfl, rfl⟩))), e1, e2⟩) (fun v0_ v1_ c0 c1 c2 c3 c4 c5 c6 h1 e1 e2 => ⟨_, Or.inr (Or.inr (Or.inr (Or.inr (Or.inl ⟨v0_, v1_, c0, c1, c2, c3, c4, c5, c6, rfl, rfl⟩)))), e1, e2⟩) (fun v0_ v1_ v2_ c0 c1 c2 c3 c4 c5 c6 c7 c8 h1 e1 e2 => ⟨_, Or.inr (Or.inr (Or.inr (Or.inr (Or.inr (Or.inl ⟨v0_, v1_, v2_, c0, c1, c2, c3, c4, c5, c6, c7, c8, rfl, rfl⟩))))), e1, e2⟩) (fun v0_ v1_ v2_ c0 c1 c2 c3 c4 c5 c6 c7 h1 e1 e2 => ⟨_, Or.inr (Or.inr (Or.inr (Or.inr (Or.inr (Or.inr ⟨v0_, v1_, v2_, c0, c1, c2, c3, c4, c5, c6, c7, rfl, rfl⟩))))), e1, e2⟩)
theorem D_tables {x : Int32} {xi : Int32} {s s1 s2 : cs_S} {o1 o2 : Option Value} (hok : cs_ok s) (htr : ∀ n y, n < 4 → s.2.2.2.2.2.2 n = some y → y.2.length ≤ 40) (h1 : J_tables x xi s o1 s1) (h2 : J_tables x xi s o2 s2) : o1 = o2 ∧ s1 = s2 := by
  obtain ⟨⟨tp, bt⟩, ⟨fk, fp⟩, v, ⟨mo, ni, bs⟩, U, im, tr⟩ := s
  have w0 : tp ≤ 900 := hok.1
  have w1 : ln_tb (rd_w v) ≤ 3 := hok.2.2.1.1.2.1
  have w2 : (ln_str (rd_w v) bs).length ≤ 1000000000000 := (show ln_ba (rd_w v) bs from hok.2.2.2.1).b.2.2
  have w3 : U.length ≤ 10 := hok.2.2.2.2.1
  have htr : ∀ n y, n < 4 → tr n = some y → y.2.length ≤ 40 := htr
  rcases h1 with ⟨a0, rfl, rfl⟩ | ⟨n1, a0, a1, a2, rfl, rfl⟩ | ⟨n1, y1, a0, a1, a2, a3, rfl, rfl⟩ | ⟨n1, y1, a0, a1, a2, a3, a4, a5, rfl, rfl⟩ | ⟨n1, y1, a0, a1, a2, a3, a4, a5, a6, rfl, rfl⟩ | ⟨n1, y1, i1, a0, a1, a2, a3, a4, a5, a6, a7, a8, rfl, rfl⟩ | ⟨n1, y1, i1, a0, a1, a2, a3, a4, a5, a6, a7, rfl, rfl⟩
  · rcases h2 with ⟨b0, rfl, rfl⟩ | ⟨n2, b0, b1, b2, rfl, rfl⟩ | ⟨n2, y2, b0, b1, b2, b3, rfl, rfl⟩ | ⟨n2, y2, b0, b1, b2, b3, b4, b5, rfl, rfl⟩ | ⟨n2, y2, b0, b1, b2, b3, b4, b5, b6, rfl, rfl⟩ | ⟨n2, y2, i2, b0, b1, b2, b3, b4, b5, b6, b7, b8, rfl, rfl⟩ | ⟨n2, y2, i2, b0, b1, b2, b3, b4, b5, b6, b7, rfl, rfl⟩
    · exact ⟨rfl, rfl⟩
    · first | exact absurd b0 (a0 _ (by omega) ) | omega
    · have htb := htr _ _ b1 b2
      first | exact absurd b0 (a0 _ (by omega) ) | omega
    · have htb := htr _ _ b1 b2
      first | exact absurd b0 (a0 _ (by omega) ) | omega
    · have htb := htr _ _ b1 b2
      first | exact absurd b0 (a0 _ (by omega) ) | omega
    · have htb := htr _ _ b1 b2
      first | exact absurd b0 (a0 _ (by omega) ) | omega
    · have htb := htr _ _ b1 b2
      first | exact absurd b0 (a0 _ (by omega) ) | omega
  · rcases h2 with ⟨b0, rfl, rfl⟩ | ⟨n2, b0, b1, b2, rfl, rfl⟩ | ⟨n2, y2, b0, b1, b2, b3, rfl, rfl⟩ | ⟨n2, y2, b0, b1, b2, b3, b4, b5, rfl, rfl⟩ | ⟨n2, y2, b0, b1, b2, b3, b4, b5, b6, rfl, rfl⟩ | ⟨n2, y2, i2, b0, b1, b2, b3, b4, b5, b6, b7, b8, rfl, rfl⟩ | ⟨n2, y2, i2, b0, b1, b2, b3, b4, b5, b6, b7, rfl, rfl⟩
    · first | exact absurd a0 (b0 _ (by omega) ) | omega
    · obtain rfl : n1 = n2 := lN_2 (a0.symm.trans b0) (by omega) (by omega)
      exact ⟨rfl, rfl⟩
    · have htb := htr _ _ b1 b2
      obtain rfl : n1 = n2 := lN_2 (a0.symm.trans b0) (by omega) (by omega)
      exact nomatch (a2.symm.trans b2)
    · have htb := htr _ _ b1 b2
      obtain rfl : n1 = n2 := lN_2 (a0.symm.trans b0) (by omega) (by omega)
      exact nomatch (a2.symm.trans b2)
    · have htb := htr _ _ b1 b2
      obtain rfl : n1 = n2 := lN_2 (a0.symm.trans b0) (by omega) (by omega)
      exact nomatch (a2.symm.trans b2)
    · have htb := htr _ _ b1 b2
      obtain rfl : n1 = n2 := lN_2 (a0.symm.trans b0) (by omega) (by omega)
      exact nomatch (a2.symm.trans b2)
    · have htb := htr _ _ b1 b2
      obtain rfl : n1 = n2 := lN_2 (a0.symm.trans b0) (by omega) (by omega)
      exact nomatch (a2.symm.trans b2)
  · rcases h2 with ⟨b0, rfl, rfl⟩ | ⟨n2, b0, b1, b2, rfl, rfl⟩ | ⟨n2, y2, b0, b1, b2, b3, rfl, rfl⟩ | ⟨n2, y2, b0, b1, b2, b3, b4, b5, rfl, rfl⟩ | ⟨n2, y2, b0, b1, b2, b3, b4, b5, b6, rfl, rfl⟩ | ⟨n2, y2, i2, b0, b1, b2, b3, b4, b5, b6, b7, b8, rfl, rfl⟩ | ⟨n2, y2, i2, b0, b1, b2, b3, b4, b5, b6, b7, rfl, rfl⟩
    · have hta := htr _ _ a1 a2
      first | exact absurd a0 (b0 _ (by omega) ) | omega
    · have hta := htr _ _ a1 a2
      obtain rfl : n1 = n2 := lN_2 (a0.symm.trans b0) (by omega) (by omega)
      exact nomatch (a2.symm.trans b2)
    · have hta := htr _ _ a1 a2
      have htb := htr _ _ b1 b2
      obtain rfl : n1 = n2 := lN_2 (a0.symm.trans b0) (by omega) (by omega)
      cases a2.symm.trans b2
      exact ⟨rfl, rfl⟩
    · have hta := htr _ _ a1 a2
      have htb := htr _ _ b1 b2
      obtain rfl : n1 = n2 := lN_2 (a0.symm.trans b0) (by omega) (by omega)
      cases a2.symm.trans b2
      first | exact absurd ⟨b3, b4⟩ a3 | omega
    · have hta := htr _ _ a1 a2
      have htb := htr _ _ b1 b2
      obtain rfl : n1 = n2 := lN_2 (a0.symm.trans b0) (by omega) (by omega)
      cases a2.symm.trans b2
      first | exact absurd ⟨b3, b4⟩ a3 | omega
    · have hta := htr _ _ a1 a2
      have htb := htr _ _ b1 b2
      obtain rfl : n1 = n2 := lN_2 (a0.symm.trans b0) (by omega) (by omega)
      cases a2.symm.trans b2
      first | exact absurd ⟨b3, b4⟩ a3 | omega
    · have hta := htr _ _ a1 a2
      have htb := htr _ _ b1 b2
      obtain rfl : n1 = n2 := lN_2 (a0.symm.trans b0) (by omega) (by omega)
      cases a2.symm.trans b2
      first | exact absurd ⟨b3, b4⟩ a3 | omega
  · rcases h2 with ⟨b0, rfl, rfl⟩ | ⟨n2, b0, b1, b2, rfl, rfl⟩ | ⟨n2, y2, b0, b1, b2, b3, rfl, rfl⟩ | ⟨n2, y2, b0, b1, b2, b3, b4, b5, rfl, rfl⟩ | ⟨n2, y2, b0, b1, b2, b3, b4, b5, b6, rfl, rfl⟩ | ⟨n2, y2, i2, b0, b1, b2, b3, b4, b5, b6, b7, b8, rfl, rfl⟩ | ⟨n2, y2, i2, b0, b1, b2, b3, b4, b5, b6, b7, rfl, rfl⟩
    · have hta := htr _ _ a1 a2
      first | exact absurd a0 (b0 _ (by omega) ) | omega
    · have hta := htr _ _ a1 a2
      obtain rfl : n1 = n2 := lN_2 (a0.symm.trans b0) (by omega) (by omega)
      exact nomatch (a2.symm.trans b2)
    · have hta := htr _ _ a1 a2
      have htb := htr _ _ b1 b2
      obtain rfl : n1 = n2 := lN_2 (a0.symm.trans b0) (by omega) (by omega)
      cases a2.symm.trans b2
      first | exact absurd ⟨a3, a4⟩ b3 | omega
    · have hta := htr _ _ a1 a2
      have htb := htr _ _ b1 b2
      obtain rfl : n1 = n2 := lN_2 (a0.symm.trans b0) (by omega) (by omega)
      cases a2.symm.trans b2
      exact ⟨rfl, rfl⟩
    · have hta := htr _ _ a1 a2
      have htb := htr _ _ b1 b2
      obtain rfl : n1 = n2 := lN_2 (a0.symm.trans b0) (by omega) (by omega)
      cases a2.symm.trans b2
      first | exact absurd b5 a5 | omega
    · have hta := htr _ _ a1 a2
      have htb := htr _ _ b1 b2
      obtain rfl : n1 = n2 := lN_2 (a0.symm.trans b0) (by omega) (by omega)
      cases a2.symm.trans b2
      first | exact absurd b5 a5 | omega
    · have hta := htr _ _ a1 a2
      have htb := htr _ _ b1 b2
      obtain rfl : n1 = n2 := lN_2 (a0.symm.trans b0) (by omega) (by omega)
      cases a2.symm.trans b2
      first | exact absurd b5 a5 | omega
  · rcases h2 with ⟨b0, rfl, rfl⟩ | ⟨n2, b0, b1, b2, rfl, rfl⟩ | ⟨n2, y2, b0, b1, b2, b3, rfl, rfl⟩ | ⟨n2, y2, b0, b1, b2, b3, b4, b5, rfl, rfl⟩ | ⟨n2, y2, b0, b1, b2, b3, b4, b5, b6, rfl, rfl⟩ | ⟨n2, y2, i2, b0, b1, b2, b3, b4, b5, b6, b7, b8, rfl, rfl⟩ | ⟨n2, y2, i2, b0, b1, b2, b3, b4, b5, b6, b7, rfl, rfl⟩
    · have hta := htr _ _ a1 a2
      first | exact absurd a0 (b0 _ (by omega) ) | omega
    · have hta := htr _ _ a1 a2
      obtain rfl : n1 = n2 := lN_2 (a0.symm.trans b0) (by omega) (by omega)
      exact nomatch (a2.symm.trans b2)
    · have hta := htr _ _ a1 a2
      have htb := htr _ _ b1 b2
      obtain rfl : n1 = n2 := lN_2 (a0.symm.trans b0) (by omega) (by omega)
      cases a2.symm.trans b2
      first | exact absurd ⟨a3, a4⟩ b3 | omega
    · have hta := htr _ _ a1 a2
      have htb := htr _ _ b1 b2
      obtain rfl : n1 = n2 := lN_2 (a0.symm.trans b0) (by omega) (by omega)
      cases a2.symm.trans b2
      first | exact absurd a5 b5 | omega
    · have hta := htr _ _ a1 a2
      have htb := htr _ _ b1 b2
      obtain rfl : n1 = n2 := lN_2 (a0.symm.trans b0) (by omega) (by omega)
      cases a2.symm.trans b2
      exact ⟨rfl, rfl⟩
    · have hta := htr _ _ a1 a2
      have htb := htr _ _ b1 b2
      obtain rfl : n1 = n2 := lN_2 (a0.symm.trans b0) (by omega) (by omega)
      cases a2.symm.trans b2
      first | exact absurd a6 (nI_ge9 b6 (by omega)) | omega
    · have hta := htr _ _ a1 a2
      have htb := htr _ _ b1 b2
      obtain rfl : n1 = n2 := lN_2 (a0.symm.trans b0) (by omega) (by omega)
      cases a2.symm.trans b2
      first | exact absurd a6 (nI_ge9 b6 (by omega)) | omega
  · rcases h2 with ⟨b0, rfl, rfl⟩ | ⟨n2, b0, b1, b2, rfl, rfl⟩ | ⟨n2, y2, b0, b1, b2, b3, rfl, rfl⟩ | ⟨n2, y2, b0, b1, b2, b3, b4, b5, rfl, rfl⟩ | ⟨n2, y2, b0, b1, b2, b3, b4, b5, b6, rfl, rfl⟩ | ⟨n2, y2, i2, b0, b1, b2, b3, b4, b5, b6, b7, b8, rfl, rfl⟩ | ⟨n2, y2, i2, b0, b1, b2, b3, b4, b5, b6, b7, rfl, rfl⟩
    · have hta := htr _ _ a1 a2
      first | exact absurd a0 (b0 _ (by omega) ) | omega
    · have hta := htr _ _ a1 a2
      obtain rfl : n1 = n2 := lN_2 (a0.symm.trans b0) (by omega) (by omega)
      exact nomatch (a2.symm.trans b2)
    · have hta := htr _ _ a1 a2
      have htb := htr _ _ b1 b2
      obtain rfl : n1 = n2 := lN_2 (a0.symm.trans b0) (by omega) (by omega)
      cases a2.symm.trans b2
      first | exact absurd ⟨a3, a4⟩ b3 | omega
    · have hta := htr _ _ a1 a2
      have htb := htr _ _ b1 b2
      obtain rfl : n1 = n2 := lN_2 (a0.symm.trans b0) (by omega) (by omega)
      cases a2.symm.trans b2
      first | exact absurd a5 b5 | omega
    · have hta := htr _ _ a1 a2
      have htb := htr _ _ b1 b2
      obtain rfl : n1 = n2 := lN_2 (a0.symm.trans b0) (by omega) (by omega)
      cases a2.symm.trans b2
      first | exact absurd b6 (nI_ge9 a6 (by omega)) | omega
    · have hta := htr _ _ a1 a2
      have htb := htr _ _ b1 b2
      obtain rfl : n1 = n2 := lN_2 (a0.symm.trans b0) (by omega) (by omega)
      obtain rfl : i1 = i2 := lN_2 (a6.symm.trans b6) (by omega) (by omega)
      cases a2.symm.trans b2
      exact ⟨rfl, rfl⟩
    · have hta := htr _ _ a1 a2
      have htb := htr _ _ b1 b2
      obtain rfl : n1 = n2 := lN_2 (a0.symm.trans b0) (by omega) (by omega)
      obtain rfl : i1 = i2 := lN_2 (a6.symm.trans b6) (by omega) (by omega)
      cases a2.symm.trans b2
      omega
  · rcases h2 with ⟨b0, rfl, rfl⟩ | ⟨n2, b0, b1, b2, rfl, rfl⟩ | ⟨n2, y2, b0, b1, b2, b3, rfl, rfl⟩ | ⟨n2, y2, b0, b1, b2, b3, b4, b5, rfl, rfl⟩ | ⟨n2, y2, b0, b1, b2, b3, b4, b5, b6, rfl, rfl⟩ | ⟨n2, y2, i2, b0, b1, b2, b3, b4, b5, b6, b7, b8, rfl, rfl⟩ | ⟨n2, y2, i2, b0, b1, b2, b3, b4, b5, b6, b7, rfl, rfl⟩
    · have hta := htr _ _ a1 a2
      first | exact absurd a0 (b0 _ (by omega) ) | omega
    · have hta := htr _ _ a1 a2
      obtain rfl : n1 = n2 := lN_2 (a0.symm.trans b0) (by omega) (by omega)
      exact nomatch (a2.symm.trans b2)
    · have hta := htr _ _ a1 a2
      have htb := htr _ _ b1 b2
      obtain rfl : n1 = n2 := lN_2 (a0.symm.trans b0) (by omega) (by omega)
      cases a2.symm.trans b2
      first | exact absurd ⟨a3, a4⟩ b3 | omega
    · have hta := htr _ _ a1 a2
      have htb := htr _ _ b1 b2
      obtain rfl : n1 = n2 := lN_2 (a0.symm.trans b0) (by omega) (by omega)
      cases a2.symm.trans b2
      first | exact absurd a5 b5 | omega
    · have hta := htr _ _ a1 a2
      have htb := htr _ _ b1 b2
      obtain rfl : n1 = n2 := lN_2 (a0.symm.trans b0) (by omega) (by omega)
      cases a2.symm.trans b2
      first | exact absurd b6 (nI_ge9 a6 (by omega)) | omega
    · have hta := htr _ _ a1 a2
      have htb := htr _ _ b1 b2
      obtain rfl : n1 = n2 := lN_2 (a0.symm.trans b0) (by omega) (by omega)
      obtain rfl : i1 = i2 := lN_2 (a6.symm.trans b6) (by omega) (by omega)
      cases a2.symm.trans b2
      omega
    · have hta := htr _ _ a1 a2
      have htb := htr _ _ b1 b2
      obtain rfl : n1 = n2 := lN_2 (a0.symm.trans b0) (by omega) (by omega)
      obtain rfl : i1 = i2 := lN_2 (a6.symm.trans b6) (by omega) (by omega)
      cases a2.symm.trans b2
      exact ⟨rfl, rfl⟩
def J_moons (x : Int32) (s : cs_S) (o : Option Value) (s' : cs_S) : Prop := match s with
  | ((tp, bt), (fk, fp), v, (mo, ni, bs), U, im, tr) => ((∀ n, n < 4 → x ≠ nI n) ∧ o = some (.int (-2)) ∧ s' = ((tp, bt), (fk, fp), v, (mo, ni, bs), U, im, tr)) ∨ (∃ n, x = nI n ∧ n < 4 ∧ tr n = none ∧ o = some (.int (-6)) ∧ s' = ((tp, bt), (fk, fp), v, (mo, ni, bs), U, im, tr)) ∨ (∃ n y, x = nI n ∧ n < 4 ∧ tr n = some y ∧ ¬ (1 ≤ y.2.length ∧ y.2.length ≤ 8) ∧ o = some (.int (-4)) ∧ s' = ((tp, bt), (fk, fp), v, (mo, ni, bs), U, im, tr)) ∨ (∃ n y, x = nI n ∧ n < 4 ∧ tr n = some y ∧ 1 ≤ y.2.length ∧ y.2.length ≤ 8 ∧ ¬ cs_ln y.2 (lN 0) ∧ o = some (.int (-3)) ∧ s' = ((tp, bt), (fk, fp), v, (mo, ni, bs), U, im, tr)) ∨ (∃ n y, x = nI n ∧ n < 4 ∧ tr n = some y ∧ 1 ≤ y.2.length ∧ y.2.length ≤ 8 ∧ cs_ln y.2 (lN 0) ∧ o = some (.int (nI (mb (rd_w v) v.2.2.2.2.2.2.2.1 v.2.2.2.2.2.2.2.2 y.2 ni bs 10))) ∧ s' = ((tp, bt), (fk, fp), v, (mo, ni, bs), U, im, tr))
theorem V_moons {x : Int32} {s s' : cs_S} {o : Option Value} (h : J_moons x s o s') : ∃ y : Int32, o = some (.int y) := by
  obtain ⟨⟨tp, bt⟩, ⟨fk, fp⟩, v, ⟨mo, ni, bs⟩, U, im, tr⟩ := s
  rcases h with ⟨-, rfl, -⟩ | ⟨_, -, -, -, rfl, -⟩ | ⟨_, _, -, -, -, -, rfl, -⟩ | ⟨_, _, -, -, -, -, -, -, rfl, -⟩ | ⟨_, _, -, -, -, -, -, -, rfl, -⟩
  · exact ⟨_, rfl⟩
  · exact ⟨_, rfl⟩
  · exact ⟨_, rfl⟩
  · exact ⟨_, rfl⟩
  · exact ⟨_, rfl⟩
theorem P_moons {d K : Nat} {x : Int32} {s : cs_S} {hp : az_Hp} (hd : 80 ≤ d) (hC : cs hp s K) : az_M mX11_moons d 0 0 [.ref 0, .int x] hp (fun o h' => ∃ s', J_moons x s o s' ∧ cs h' s' K ∧ cs_f hp h') := by
  obtain ⟨⟨tp, bt⟩, ⟨fk, fp⟩, v, ⟨mo, ni, bs⟩, U, im, tr⟩ := s
  exact p_moons (by omega) hC (fun c0 => ⟨_, Or.inl ⟨c0, rfl, rfl⟩, hC, cs_f.rf⟩) (fun v0_ c0 c1 c2 => ⟨_, Or.inr (Or.inl ⟨v0_, c0, c1, c2, rfl, rfl⟩), hC, cs_f.rf⟩) (fun v0_ v1_ c0 c1 c2 c3 => ⟨_, Or.inr (Or.inr (Or.inl ⟨v0_, v1_, c0, c1, c2, c3, rfl, rfl⟩)), hC, cs_f.rf⟩) (fun v0_ v1_ c0 c1 c2 c3 c4 c5 => ⟨_, Or.inr (Or.inr (Or.inr (Or.inl ⟨v0_, v1_, c0, c1, c2, c3, c4, c5, rfl, rfl⟩))), hC, cs_f.rf⟩) (fun v0_ v1_ c0 c1 c2 c3 c4 c5 h1 e1 e2 => ⟨_, Or.inr (Or.inr (Or.inr (Or.inr ⟨v0_, v1_, c0, c1, c2, c3, c4, c5, rfl, rfl⟩))), e1, e2⟩)
theorem Q_moons {d : Nat} {x : Int32} {s : cs_S} {hp : az_Hp} (hd : 80 ≤ d) (hok : cs_ok s) (hM : mm hp s) : az_M mX12_moons d 0 0 [.ref 64, .int x] hp (fun o h' => ∃ s', J_moons x s o s' ∧ mm h' s' ∧ az_fr hp h' 64 93) := by
  obtain ⟨⟨tp, bt⟩, ⟨fk, fp⟩, v, ⟨mo, ni, bs⟩, U, im, tr⟩ := s
  exact q_moons (by omega) hok hM (fun c0 h1 e1 e2 => ⟨_, Or.inl ⟨c0, rfl, rfl⟩, e1, e2⟩) (fun v0_ c0 c1 c2 h1 e1 e2 => ⟨_, Or.inr (Or.inl ⟨v0_, c0, c1, c2, rfl, rfl⟩), e1, e2⟩) (fun v0_ v1_ c0 c1 c2 c3 h1 e1 e2 => ⟨_, Or.inr (Or.inr (Or.inl ⟨v0_, v1_, c0, c1, c2, c3, rfl, rfl⟩)), e1, e2⟩) (fun v0_ v1_ c0 c1 c2 c3 c4 c5 h1 e1 e2 => ⟨_, Or.inr (Or.inr (Or.inr (Or.inl ⟨v0_, v1_, c0, c1, c2, c3, c4, c5, rfl, rfl⟩))), e1, e2⟩) (fun v0_ v1_ c0 c1 c2 c3 c4 c5 h1 e1 e2 => ⟨_, Or.inr (Or.inr (Or.inr (Or.inr ⟨v0_, v1_, c0, c1, c2, c3, c4, c5, rfl, rfl⟩))), e1, e2⟩)
theorem D_moons {x : Int32} {s s1 s2 : cs_S} {o1 o2 : Option Value} (hok : cs_ok s) (htr : ∀ n y, n < 4 → s.2.2.2.2.2.2 n = some y → y.2.length ≤ 40) (h1 : J_moons x s o1 s1) (h2 : J_moons x s o2 s2) : o1 = o2 ∧ s1 = s2 := by
  obtain ⟨⟨tp, bt⟩, ⟨fk, fp⟩, v, ⟨mo, ni, bs⟩, U, im, tr⟩ := s
  have w0 : tp ≤ 900 := hok.1
  have w1 : ln_tb (rd_w v) ≤ 3 := hok.2.2.1.1.2.1
  have w2 : (ln_str (rd_w v) bs).length ≤ 1000000000000 := (show ln_ba (rd_w v) bs from hok.2.2.2.1).b.2.2
  have w3 : U.length ≤ 10 := hok.2.2.2.2.1
  have htr : ∀ n y, n < 4 → tr n = some y → y.2.length ≤ 40 := htr
  rcases h1 with ⟨a0, rfl, rfl⟩ | ⟨n1, a0, a1, a2, rfl, rfl⟩ | ⟨n1, y1, a0, a1, a2, a3, rfl, rfl⟩ | ⟨n1, y1, a0, a1, a2, a3, a4, a5, rfl, rfl⟩ | ⟨n1, y1, a0, a1, a2, a3, a4, a5, rfl, rfl⟩
  · rcases h2 with ⟨b0, rfl, rfl⟩ | ⟨n2, b0, b1, b2, rfl, rfl⟩ | ⟨n2, y2, b0, b1, b2, b3, rfl, rfl⟩ | ⟨n2, y2, b0, b1, b2, b3, b4, b5, rfl, rfl⟩ | ⟨n2, y2, b0, b1, b2, b3, b4, b5, rfl, rfl⟩
    · exact ⟨rfl, rfl⟩
    · first | exact absurd b0 (a0 _ (by omega) ) | omega
    · have htb := htr _ _ b1 b2
      first | exact absurd b0 (a0 _ (by omega) ) | omega
    · have htb := htr _ _ b1 b2
      first | exact absurd b0 (a0 _ (by omega) ) | omega
    · have htb := htr _ _ b1 b2
      first | exact absurd b0 (a0 _ (by omega) ) | omega
  · rcases h2 with ⟨b0, rfl, rfl⟩ | ⟨n2, b0, b1, b2, rfl, rfl⟩ | ⟨n2, y2, b0, b1, b2, b3, rfl, rfl⟩ | ⟨n2, y2, b0, b1, b2, b3, b4, b5, rfl, rfl⟩ | ⟨n2, y2, b0, b1, b2, b3, b4, b5, rfl, rfl⟩
    · first | exact absurd a0 (b0 _ (by omega) ) | omega
    · obtain rfl : n1 = n2 := lN_2 (a0.symm.trans b0) (by omega) (by omega)
      exact ⟨rfl, rfl⟩
    · have htb := htr _ _ b1 b2
      obtain rfl : n1 = n2 := lN_2 (a0.symm.trans b0) (by omega) (by omega)
      exact nomatch (a2.symm.trans b2)
    · have htb := htr _ _ b1 b2
      obtain rfl : n1 = n2 := lN_2 (a0.symm.trans b0) (by omega) (by omega)
      exact nomatch (a2.symm.trans b2)
    · have htb := htr _ _ b1 b2
      obtain rfl : n1 = n2 := lN_2 (a0.symm.trans b0) (by omega) (by omega)
      exact nomatch (a2.symm.trans b2)
  · rcases h2 with ⟨b0, rfl, rfl⟩ | ⟨n2, b0, b1, b2, rfl, rfl⟩ | ⟨n2, y2, b0, b1, b2, b3, rfl, rfl⟩ | ⟨n2, y2, b0, b1, b2, b3, b4, b5, rfl, rfl⟩ | ⟨n2, y2, b0, b1, b2, b3, b4, b5, rfl, rfl⟩
    · have hta := htr _ _ a1 a2
      first | exact absurd a0 (b0 _ (by omega) ) | omega
    · have hta := htr _ _ a1 a2
      obtain rfl : n1 = n2 := lN_2 (a0.symm.trans b0) (by omega) (by omega)
      exact nomatch (a2.symm.trans b2)
    · have hta := htr _ _ a1 a2
      have htb := htr _ _ b1 b2
      obtain rfl : n1 = n2 := lN_2 (a0.symm.trans b0) (by omega) (by omega)
      cases a2.symm.trans b2
      exact ⟨rfl, rfl⟩
    · have hta := htr _ _ a1 a2
      have htb := htr _ _ b1 b2
      obtain rfl : n1 = n2 := lN_2 (a0.symm.trans b0) (by omega) (by omega)
      cases a2.symm.trans b2
      first | exact absurd ⟨b3, b4⟩ a3 | omega
    · have hta := htr _ _ a1 a2
      have htb := htr _ _ b1 b2
      obtain rfl : n1 = n2 := lN_2 (a0.symm.trans b0) (by omega) (by omega)
      cases a2.symm.trans b2
      first | exact absurd ⟨b3, b4⟩ a3 | omega
  · rcases h2 with ⟨b0, rfl, rfl⟩ | ⟨n2, b0, b1, b2, rfl, rfl⟩ | ⟨n2, y2, b0, b1, b2, b3, rfl, rfl⟩ | ⟨n2, y2, b0, b1, b2, b3, b4, b5, rfl, rfl⟩ | ⟨n2, y2, b0, b1, b2, b3, b4, b5, rfl, rfl⟩
    · have hta := htr _ _ a1 a2
      first | exact absurd a0 (b0 _ (by omega) ) | omega
    · have hta := htr _ _ a1 a2
      obtain rfl : n1 = n2 := lN_2 (a0.symm.trans b0) (by omega) (by omega)
      exact nomatch (a2.symm.trans b2)
    · have hta := htr _ _ a1 a2
      have htb := htr _ _ b1 b2
      obtain rfl : n1 = n2 := lN_2 (a0.symm.trans b0) (by omega) (by omega)
      cases a2.symm.trans b2
      first | exact absurd ⟨a3, a4⟩ b3 | omega
    · have hta := htr _ _ a1 a2
      have htb := htr _ _ b1 b2
      obtain rfl : n1 = n2 := lN_2 (a0.symm.trans b0) (by omega) (by omega)
      cases a2.symm.trans b2
      exact ⟨rfl, rfl⟩
    · have hta := htr _ _ a1 a2
      have htb := htr _ _ b1 b2
      obtain rfl : n1 = n2 := lN_2 (a0.symm.trans b0) (by omega) (by omega)
      cases a2.symm.trans b2
      first | exact absurd b5 a5 | omega
  · rcases h2 with ⟨b0, rfl, rfl⟩ | ⟨n2, b0, b1, b2, rfl, rfl⟩ | ⟨n2, y2, b0, b1, b2, b3, rfl, rfl⟩ | ⟨n2, y2, b0, b1, b2, b3, b4, b5, rfl, rfl⟩ | ⟨n2, y2, b0, b1, b2, b3, b4, b5, rfl, rfl⟩
    · have hta := htr _ _ a1 a2
      first | exact absurd a0 (b0 _ (by omega) ) | omega
    · have hta := htr _ _ a1 a2
      obtain rfl : n1 = n2 := lN_2 (a0.symm.trans b0) (by omega) (by omega)
      exact nomatch (a2.symm.trans b2)
    · have hta := htr _ _ a1 a2
      have htb := htr _ _ b1 b2
      obtain rfl : n1 = n2 := lN_2 (a0.symm.trans b0) (by omega) (by omega)
      cases a2.symm.trans b2
      first | exact absurd ⟨a3, a4⟩ b3 | omega
    · have hta := htr _ _ a1 a2
      have htb := htr _ _ b1 b2
      obtain rfl : n1 = n2 := lN_2 (a0.symm.trans b0) (by omega) (by omega)
      cases a2.symm.trans b2
      first | exact absurd a5 b5 | omega
    · have hta := htr _ _ a1 a2
      have htb := htr _ _ b1 b2
      obtain rfl : n1 = n2 := lN_2 (a0.symm.trans b0) (by omega) (by omega)
      cases a2.symm.trans b2
      exact ⟨rfl, rfl⟩
def J_attempt (x : Int32) (s : cs_S) (o : Option Value) (s' : cs_S) : Prop := match s with
  | ((tp, bt), (fk, fp), v, (mo, ni, bs), U, im, tr) => ((∀ n, n < 4 → x ≠ nI n) ∧ o = some (.int (-2)) ∧ s' = ((tp, bt), (fk, fp), v, (mo, ni, bs), U, im, tr)) ∨ (∃ n, x = nI n ∧ n < 4 ∧ tr n = none ∧ o = some (.int (-6)) ∧ s' = ((tp, bt), (fk, fp), v, (mo, ni, bs), U, im, tr)) ∨ (∃ n y, x = nI n ∧ n < 4 ∧ tr n = some y ∧ ¬ (1 ≤ y.2.length ∧ y.2.length ≤ 8) ∧ o = some (.int (-4)) ∧ s' = ((tp, bt), (fk, fp), v, (mo, ni, bs), U, im, tr)) ∨ (∃ n y, x = nI n ∧ n < 4 ∧ tr n = some y ∧ 1 ≤ y.2.length ∧ y.2.length ≤ 8 ∧ ¬ cs_ln y.2 (-1) ∧ o = some (.int (-3)) ∧ s' = ((tp, bt), (fk, fp), v, (mo, ni, bs), U, im, tr)) ∨ (∃ n y, x = nI n ∧ n < 4 ∧ tr n = some y ∧ 1 ≤ y.2.length ∧ y.2.length ≤ 8 ∧ cs_ln y.2 (-1) ∧ (fu_lg (rd_w v) (fun j => y.2.getD j 0) y.2.length 0 (fun x => (ln_str (rd_w v) bs).count x)).length = 0 ∧ o = some (.int (-1)) ∧ s' = ((tp, bt), (fk, fp), v, (mo, ni, bs), U, im, tr)) ∨ (∃ n y, x = nI n ∧ n < 4 ∧ tr n = some y ∧ 1 ≤ y.2.length ∧ y.2.length ≤ 8 ∧ cs_ln y.2 (-1) ∧ (fu_lg (rd_w v) (fun j => y.2.getD j 0) y.2.length 0 (fun x => (ln_str (rd_w v) bs).count x)).length ≠ 0 ∧ o = some (.int (nI (fu_lv (fun tb => ta_mx tb (fu_ads (rd_w v) ((fu_lg (rd_w v) (fun j => y.2.getD j 0) y.2.length 0 (fun x => (ln_str (rd_w v) bs).count x)).map (fun r => fu_to (rd_w v) r (fun x => (ln_str (rd_w v) bs).count x))) [])) (ln_tb (rd_w v))))) ∧ s' = ((tp, bt), (fk, fp), v, (mo, ni, bs), U, im, tr))
theorem V_attempt {x : Int32} {s s' : cs_S} {o : Option Value} (h : J_attempt x s o s') : ∃ y : Int32, o = some (.int y) := by
  obtain ⟨⟨tp, bt⟩, ⟨fk, fp⟩, v, ⟨mo, ni, bs⟩, U, im, tr⟩ := s
  rcases h with ⟨-, rfl, -⟩ | ⟨_, -, -, -, rfl, -⟩ | ⟨_, _, -, -, -, -, rfl, -⟩ | ⟨_, _, -, -, -, -, -, -, rfl, -⟩ | ⟨_, _, -, -, -, -, -, -, -, rfl, -⟩ | ⟨_, _, -, -, -, -, -, -, -, rfl, -⟩
  · exact ⟨_, rfl⟩
  · exact ⟨_, rfl⟩
  · exact ⟨_, rfl⟩
  · exact ⟨_, rfl⟩
  · exact ⟨_, rfl⟩
  · exact ⟨_, rfl⟩
theorem Q_attempt {d : Nat} {x : Int32} {s : cs_S} {hp : az_Hp} (hd : 80 ≤ d) (hok : cs_ok s) (hM : mm hp s) : az_M mX12_attempt d 0 0 [.ref 64, .int x] hp (fun o h' => ∃ s', J_attempt x s o s' ∧ mm h' s' ∧ az_fr hp h' 64 93) := by
  obtain ⟨⟨tp, bt⟩, ⟨fk, fp⟩, v, ⟨mo, ni, bs⟩, U, im, tr⟩ := s
  exact q_attempt (by omega) hok hM (fun c0 h1 e1 e2 => ⟨_, Or.inl ⟨c0, rfl, rfl⟩, e1, e2⟩) (fun v0_ c0 c1 c2 h1 e1 e2 => ⟨_, Or.inr (Or.inl ⟨v0_, c0, c1, c2, rfl, rfl⟩), e1, e2⟩) (fun v0_ v1_ c0 c1 c2 c3 h1 e1 e2 => ⟨_, Or.inr (Or.inr (Or.inl ⟨v0_, v1_, c0, c1, c2, c3, rfl, rfl⟩)), e1, e2⟩) (fun v0_ v1_ c0 c1 c2 c3 c4 c5 h1 e1 e2 => ⟨_, Or.inr (Or.inr (Or.inr (Or.inl ⟨v0_, v1_, c0, c1, c2, c3, c4, c5, rfl, rfl⟩))), e1, e2⟩) (fun v0_ v1_ c0 c1 c2 c3 c4 c5 c6 h1 e1 e2 => ⟨_, Or.inr (Or.inr (Or.inr (Or.inr (Or.inl ⟨v0_, v1_, c0, c1, c2, c3, c4, c5, c6, rfl, rfl⟩)))), e1, e2⟩) (fun v0_ v1_ c0 c1 c2 c3 c4 c5 c6 h1 e1 e2 => ⟨_, Or.inr (Or.inr (Or.inr (Or.inr (Or.inr ⟨v0_, v1_, c0, c1, c2, c3, c4, c5, c6, rfl, rfl⟩)))), e1, e2⟩)
theorem D_attempt {x : Int32} {s s1 s2 : cs_S} {o1 o2 : Option Value} (hok : cs_ok s) (htr : ∀ n y, n < 4 → s.2.2.2.2.2.2 n = some y → y.2.length ≤ 40) (h1 : J_attempt x s o1 s1) (h2 : J_attempt x s o2 s2) : o1 = o2 ∧ s1 = s2 := by
  obtain ⟨⟨tp, bt⟩, ⟨fk, fp⟩, v, ⟨mo, ni, bs⟩, U, im, tr⟩ := s
  have w0 : tp ≤ 900 := hok.1
  have w1 : ln_tb (rd_w v) ≤ 3 := hok.2.2.1.1.2.1
  have w2 : (ln_str (rd_w v) bs).length ≤ 1000000000000 := (show ln_ba (rd_w v) bs from hok.2.2.2.1).b.2.2
  have w3 : U.length ≤ 10 := hok.2.2.2.2.1
  have htr : ∀ n y, n < 4 → tr n = some y → y.2.length ≤ 40 := htr
  rcases h1 with ⟨a0, rfl, rfl⟩ | ⟨n1, a0, a1, a2, rfl, rfl⟩ | ⟨n1, y1, a0, a1, a2, a3, rfl, rfl⟩ | ⟨n1, y1, a0, a1, a2, a3, a4, a5, rfl, rfl⟩ | ⟨n1, y1, a0, a1, a2, a3, a4, a5, a6, rfl, rfl⟩ | ⟨n1, y1, a0, a1, a2, a3, a4, a5, a6, rfl, rfl⟩
  · rcases h2 with ⟨b0, rfl, rfl⟩ | ⟨n2, b0, b1, b2, rfl, rfl⟩ | ⟨n2, y2, b0, b1, b2, b3, rfl, rfl⟩ | ⟨n2, y2, b0, b1, b2, b3, b4, b5, rfl, rfl⟩ | ⟨n2, y2, b0, b1, b2, b3, b4, b5, b6, rfl, rfl⟩ | ⟨n2, y2, b0, b1, b2, b3, b4, b5, b6, rfl, rfl⟩
    · exact ⟨rfl, rfl⟩
    · first | exact absurd b0 (a0 _ (by omega) ) | omega
    · have htb := htr _ _ b1 b2
      first | exact absurd b0 (a0 _ (by omega) ) | omega
    · have htb := htr _ _ b1 b2
      first | exact absurd b0 (a0 _ (by omega) ) | omega
    · have htb := htr _ _ b1 b2
      first | exact absurd b0 (a0 _ (by omega) ) | omega
    · have htb := htr _ _ b1 b2
      first | exact absurd b0 (a0 _ (by omega) ) | omega
  · rcases h2 with ⟨b0, rfl, rfl⟩ | ⟨n2, b0, b1, b2, rfl, rfl⟩ | ⟨n2, y2, b0, b1, b2, b3, rfl, rfl⟩ | ⟨n2, y2, b0, b1, b2, b3, b4, b5, rfl, rfl⟩ | ⟨n2, y2, b0, b1, b2, b3, b4, b5, b6, rfl, rfl⟩ | ⟨n2, y2, b0, b1, b2, b3, b4, b5, b6, rfl, rfl⟩
    · first | exact absurd a0 (b0 _ (by omega) ) | omega
    · obtain rfl : n1 = n2 := lN_2 (a0.symm.trans b0) (by omega) (by omega)
      exact ⟨rfl, rfl⟩
    · have htb := htr _ _ b1 b2
      obtain rfl : n1 = n2 := lN_2 (a0.symm.trans b0) (by omega) (by omega)
      exact nomatch (a2.symm.trans b2)
    · have htb := htr _ _ b1 b2
      obtain rfl : n1 = n2 := lN_2 (a0.symm.trans b0) (by omega) (by omega)
      exact nomatch (a2.symm.trans b2)
    · have htb := htr _ _ b1 b2
      obtain rfl : n1 = n2 := lN_2 (a0.symm.trans b0) (by omega) (by omega)
      exact nomatch (a2.symm.trans b2)
    · have htb := htr _ _ b1 b2
      obtain rfl : n1 = n2 := lN_2 (a0.symm.trans b0) (by omega) (by omega)
      exact nomatch (a2.symm.trans b2)
  · rcases h2 with ⟨b0, rfl, rfl⟩ | ⟨n2, b0, b1, b2, rfl, rfl⟩ | ⟨n2, y2, b0, b1, b2, b3, rfl, rfl⟩ | ⟨n2, y2, b0, b1, b2, b3, b4, b5, rfl, rfl⟩ | ⟨n2, y2, b0, b1, b2, b3, b4, b5, b6, rfl, rfl⟩ | ⟨n2, y2, b0, b1, b2, b3, b4, b5, b6, rfl, rfl⟩
    · have hta := htr _ _ a1 a2
      first | exact absurd a0 (b0 _ (by omega) ) | omega
    · have hta := htr _ _ a1 a2
      obtain rfl : n1 = n2 := lN_2 (a0.symm.trans b0) (by omega) (by omega)
      exact nomatch (a2.symm.trans b2)
    · have hta := htr _ _ a1 a2
      have htb := htr _ _ b1 b2
      obtain rfl : n1 = n2 := lN_2 (a0.symm.trans b0) (by omega) (by omega)
      cases a2.symm.trans b2
      exact ⟨rfl, rfl⟩
    · have hta := htr _ _ a1 a2
      have htb := htr _ _ b1 b2
      obtain rfl : n1 = n2 := lN_2 (a0.symm.trans b0) (by omega) (by omega)
      cases a2.symm.trans b2
      first | exact absurd ⟨b3, b4⟩ a3 | omega
    · have hta := htr _ _ a1 a2
      have htb := htr _ _ b1 b2
      obtain rfl : n1 = n2 := lN_2 (a0.symm.trans b0) (by omega) (by omega)
      cases a2.symm.trans b2
      first | exact absurd ⟨b3, b4⟩ a3 | omega
    · have hta := htr _ _ a1 a2
      have htb := htr _ _ b1 b2
      obtain rfl : n1 = n2 := lN_2 (a0.symm.trans b0) (by omega) (by omega)
      cases a2.symm.trans b2
      first | exact absurd ⟨b3, b4⟩ a3 | omega
  · rcases h2 with ⟨b0, rfl, rfl⟩ | ⟨n2, b0, b1, b2, rfl, rfl⟩ | ⟨n2, y2, b0, b1, b2, b3, rfl, rfl⟩ | ⟨n2, y2, b0, b1, b2, b3, b4, b5, rfl, rfl⟩ | ⟨n2, y2, b0, b1, b2, b3, b4, b5, b6, rfl, rfl⟩ | ⟨n2, y2, b0, b1, b2, b3, b4, b5, b6, rfl, rfl⟩
    · have hta := htr _ _ a1 a2
      first | exact absurd a0 (b0 _ (by omega) ) | omega
    · have hta := htr _ _ a1 a2
      obtain rfl : n1 = n2 := lN_2 (a0.symm.trans b0) (by omega) (by omega)
      exact nomatch (a2.symm.trans b2)
    · have hta := htr _ _ a1 a2
      have htb := htr _ _ b1 b2
      obtain rfl : n1 = n2 := lN_2 (a0.symm.trans b0) (by omega) (by omega)
      cases a2.symm.trans b2
      first | exact absurd ⟨a3, a4⟩ b3 | omega
    · have hta := htr _ _ a1 a2
      have htb := htr _ _ b1 b2
      obtain rfl : n1 = n2 := lN_2 (a0.symm.trans b0) (by omega) (by omega)
      cases a2.symm.trans b2
      exact ⟨rfl, rfl⟩
    · have hta := htr _ _ a1 a2
      have htb := htr _ _ b1 b2
      obtain rfl : n1 = n2 := lN_2 (a0.symm.trans b0) (by omega) (by omega)
      cases a2.symm.trans b2
      first | exact absurd b5 a5 | omega
    · have hta := htr _ _ a1 a2
      have htb := htr _ _ b1 b2
      obtain rfl : n1 = n2 := lN_2 (a0.symm.trans b0) (by omega) (by omega)
      cases a2.symm.trans b2
      first | exact absurd b5 a5 | omega
  · rcases h2 with ⟨b0, rfl, rfl⟩ | ⟨n2, b0, b1, b2, rfl, rfl⟩ | ⟨n2, y2, b0, b1, b2, b3, rfl, rfl⟩ | ⟨n2, y2, b0, b1, b2, b3, b4, b5, rfl, rfl⟩ | ⟨n2, y2, b0, b1, b2, b3, b4, b5, b6, rfl, rfl⟩ | ⟨n2, y2, b0, b1, b2, b3, b4, b5, b6, rfl, rfl⟩
    · have hta := htr _ _ a1 a2
      first | exact absurd a0 (b0 _ (by omega) ) | omega
    · have hta := htr _ _ a1 a2
      obtain rfl : n1 = n2 := lN_2 (a0.symm.trans b0) (by omega) (by omega)
      exact nomatch (a2.symm.trans b2)
    · have hta := htr _ _ a1 a2
      have htb := htr _ _ b1 b2
      obtain rfl : n1 = n2 := lN_2 (a0.symm.trans b0) (by omega) (by omega)
      cases a2.symm.trans b2
      first | exact absurd ⟨a3, a4⟩ b3 | omega
    · have hta := htr _ _ a1 a2
      have htb := htr _ _ b1 b2
      obtain rfl : n1 = n2 := lN_2 (a0.symm.trans b0) (by omega) (by omega)
      cases a2.symm.trans b2
      first | exact absurd a5 b5 | omega
    · have hta := htr _ _ a1 a2
      have htb := htr _ _ b1 b2
      obtain rfl : n1 = n2 := lN_2 (a0.symm.trans b0) (by omega) (by omega)
      cases a2.symm.trans b2
      exact ⟨rfl, rfl⟩
    · have hta := htr _ _ a1 a2
      have htb := htr _ _ b1 b2
      obtain rfl : n1 = n2 := lN_2 (a0.symm.trans b0) (by omega) (by omega)
      cases a2.symm.trans b2
      first | exact absurd a6 b6 | omega
  · rcases h2 with ⟨b0, rfl, rfl⟩ | ⟨n2, b0, b1, b2, rfl, rfl⟩ | ⟨n2, y2, b0, b1, b2, b3, rfl, rfl⟩ | ⟨n2, y2, b0, b1, b2, b3, b4, b5, rfl, rfl⟩ | ⟨n2, y2, b0, b1, b2, b3, b4, b5, b6, rfl, rfl⟩ | ⟨n2, y2, b0, b1, b2, b3, b4, b5, b6, rfl, rfl⟩
    · have hta := htr _ _ a1 a2
      first | exact absurd a0 (b0 _ (by omega) ) | omega
    · have hta := htr _ _ a1 a2
      obtain rfl : n1 = n2 := lN_2 (a0.symm.trans b0) (by omega) (by omega)
      exact nomatch (a2.symm.trans b2)
    · have hta := htr _ _ a1 a2
      have htb := htr _ _ b1 b2
      obtain rfl : n1 = n2 := lN_2 (a0.symm.trans b0) (by omega) (by omega)
      cases a2.symm.trans b2
      first | exact absurd ⟨a3, a4⟩ b3 | omega
    · have hta := htr _ _ a1 a2
      have htb := htr _ _ b1 b2
      obtain rfl : n1 = n2 := lN_2 (a0.symm.trans b0) (by omega) (by omega)
      cases a2.symm.trans b2
      first | exact absurd a5 b5 | omega
    · have hta := htr _ _ a1 a2
      have htb := htr _ _ b1 b2
      obtain rfl : n1 = n2 := lN_2 (a0.symm.trans b0) (by omega) (by omega)
      cases a2.symm.trans b2
      first | exact absurd b6 a6 | omega
    · have hta := htr _ _ a1 a2
      have htb := htr _ _ b1 b2
      obtain rfl : n1 = n2 := lN_2 (a0.symm.trans b0) (by omega) (by omega)
      cases a2.symm.trans b2
      exact ⟨rfl, rfl⟩
def J_turned (xk : Int32) (s : cs_S) (o : Option Value) (s' : cs_S) : Prop := match s with
  | ((tp, bt), (fk, fp), v, (mo, ni, bs), U, im, tr) => (¬ cs_in xk 8 ∧ o = some (.long (-3)) ∧ s' = ((tp, bt), (fk, fp), v, (mo, ni, bs), U, im, tr)) ∨ (∃ k, xk = nI k ∧ k < 8 ∧ o = some (.long (lN (fu_t (rd_w v) k 0 (fun x => (ln_str (rd_w v) bs).count x)).1)) ∧ s' = ((tp, bt), (fk, fp), v, (mo, ni, bs), U, im, tr))
theorem V_turned {xk : Int32} {s s' : cs_S} {o : Option Value} (h : J_turned xk s o s') : ∃ y : Int64, o = some (.long y) := by
  obtain ⟨⟨tp, bt⟩, ⟨fk, fp⟩, v, ⟨mo, ni, bs⟩, U, im, tr⟩ := s
  rcases h with ⟨-, rfl, -⟩ | ⟨_, -, -, rfl, -⟩
  · exact ⟨_, rfl⟩
  · exact ⟨_, rfl⟩
theorem P_turned {d K : Nat} {xk : Int32} {s : cs_S} {hp : az_Hp} (hd : 80 ≤ d) (hC : cs hp s K) : az_M mX11_turned d 0 0 [.ref 0, .int xk] hp (fun o h' => ∃ s', J_turned xk s o s' ∧ cs h' s' K ∧ cs_f hp h') := by
  obtain ⟨⟨tp, bt⟩, ⟨fk, fp⟩, v, ⟨mo, ni, bs⟩, U, im, tr⟩ := s
  exact p_turned (by omega) hC (fun c0 => ⟨_, Or.inl ⟨c0, rfl, rfl⟩, hC, cs_f.rf⟩) (fun v0_ c0 c1 h1 e1 e2 => ⟨_, Or.inr ⟨v0_, c0, c1, rfl, rfl⟩, e1, e2⟩)
theorem Q_turned {d : Nat} {xk : Int32} {s : cs_S} {hp : az_Hp} (hd : 80 ≤ d) (hok : cs_ok s) (hM : mm hp s) : az_M mX12_turned d 0 0 [.ref 64, .int xk] hp (fun o h' => ∃ s', J_turned xk s o s' ∧ mm h' s' ∧ az_fr hp h' 64 93) := by
  obtain ⟨⟨tp, bt⟩, ⟨fk, fp⟩, v, ⟨mo, ni, bs⟩, U, im, tr⟩ := s
  exact q_turned (by omega) hok hM (fun c0 h1 e1 e2 => ⟨_, Or.inl ⟨c0, rfl, rfl⟩, e1, e2⟩) (fun v0_ c0 c1 h1 e1 e2 => ⟨_, Or.inr ⟨v0_, c0, c1, rfl, rfl⟩, e1, e2⟩)
theorem D_turned {xk : Int32} {s s1 s2 : cs_S} {o1 o2 : Option Value} (hok : cs_ok s) (htr : ∀ n y, n < 4 → s.2.2.2.2.2.2 n = some y → y.2.length ≤ 40) (h1 : J_turned xk s o1 s1) (h2 : J_turned xk s o2 s2) : o1 = o2 ∧ s1 = s2 := by
  obtain ⟨⟨tp, bt⟩, ⟨fk, fp⟩, v, ⟨mo, ni, bs⟩, U, im, tr⟩ := s
  have w0 : tp ≤ 900 := hok.1
  have w1 : ln_tb (rd_w v) ≤ 3 := hok.2.2.1.1.2.1
  have w2 : (ln_str (rd_w v) bs).length ≤ 1000000000000 := (show ln_ba (rd_w v) bs from hok.2.2.2.1).b.2.2
  have w3 : U.length ≤ 10 := hok.2.2.2.2.1
  have htr : ∀ n y, n < 4 → tr n = some y → y.2.length ≤ 40 := htr
  rcases h1 with ⟨a0, rfl, rfl⟩ | ⟨k1, a0, a1, rfl, rfl⟩
  · rcases h2 with ⟨b0, rfl, rfl⟩ | ⟨k2, b0, b1, rfl, rfl⟩
    · exact ⟨rfl, rfl⟩
    · first | exact absurd (csI b0 (by omega) (by omega)) a0 | omega
  · rcases h2 with ⟨b0, rfl, rfl⟩ | ⟨k2, b0, b1, rfl, rfl⟩
    · first | exact absurd (csI a0 (by omega) (by omega)) b0 | omega
    · obtain rfl : k1 = k2 := lN_2 (a0.symm.trans b0) (by omega) (by omega)
      exact ⟨rfl, rfl⟩
