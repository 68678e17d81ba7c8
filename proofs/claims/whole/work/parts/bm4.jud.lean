/-! What each call answers, on -/
def J_best (xk : Int32) (s : cs_S) (o : Option Value) (s' : cs_S) : Prop := match s with
  | ((tp, bt), (fk, fp), v, (mo, ni, bs), U, im, tr) => (¬ cs_in xk 8 ∧ o = some (.int (-3)) ∧ s' = ((tp, bt), (fk, fp), v, (mo, ni, bs), U, im, tr)) ∨ (∃ k, xk = nI k ∧ k < 8 ∧ o = some (.int (if k = 0 then (-1) else nI (fu_t (rd_w v) k 0 (fun x => (ln_str (rd_w v) bs).count x)).2)) ∧ s' = ((tp, bt), (fk, fp), v, (mo, ni, bs), U, im, tr))
theorem V_best {xk : Int32} {s s' : cs_S} {o : Option Value} (h : J_best xk s o s') : ∃ y : Int32, o = some (.int y) := by
  obtain ⟨⟨tp, bt⟩, ⟨fk, fp⟩, v, ⟨mo, ni, bs⟩, U, im, tr⟩ := s
  rcases h with ⟨-, rfl, -⟩ | ⟨_, -, -, rfl, -⟩
  · exact ⟨_, rfl⟩
  · exact ⟨_, rfl⟩
theorem P_best {d K : Nat} {xk : Int32} {s : cs_S} {hp : az_Hp} (hd : 80 ≤ d) (hC : cs hp s K) : az_M mX11_best d 0 0 [.ref 0, .int xk] hp (fun o h' => ∃ s', J_best xk s o s' ∧ cs h' s' K ∧ cs_f hp h') := by
  obtain ⟨⟨tp, bt⟩, ⟨fk, fp⟩, v, ⟨mo, ni, bs⟩, U, im, tr⟩ := s
  exact p_best (by omega) hC (fun c0 => ⟨_, Or.inl ⟨c0, rfl, rfl⟩, hC, cs_f.rf⟩) (fun v0_ c0 c1 h1 e1 e2 => ⟨_, Or.inr ⟨v0_, c0, c1, rfl, rfl⟩, e1, e2⟩)
theorem Q_best {d : Nat} {xk : Int32} {s : cs_S} {hp : az_Hp} (hd : 80 ≤ d) (hok : cs_ok s) (hM : mm hp s) : az_M mX12_best d 0 0 [.ref 64, .int xk] hp (fun o h' => ∃ s', J_best xk s o s' ∧ mm h' s' ∧ az_fr hp h' 64 93) := by
  obtain ⟨⟨tp, bt⟩, ⟨fk, fp⟩, v, ⟨mo, ni, bs⟩, U, im, tr⟩ := s
  exact q_best (by omega) hok hM (fun c0 h1 e1 e2 => ⟨_, Or.inl ⟨c0, rfl, rfl⟩, e1, e2⟩) (fun v0_ c0 c1 h1 e1 e2 => ⟨_, Or.inr ⟨v0_, c0, c1, rfl, rfl⟩, e1, e2⟩)
theorem D_best {xk : Int32} {s s1 s2 : cs_S} {o1 o2 : Option Value} (hok : cs_ok s) (htr : ∀ n y, n < 4 → s.2.2.2.2.2.2 n = some y → y.2.length ≤ 40) (h1 : J_best xk s o1 s1) (h2 : J_best xk s o2 s2) : o1 = o2 ∧ s1 = s2 := by
  obtain ⟨⟨tp, bt⟩, ⟨fk, fp⟩, v, ⟨mo, ni, bs⟩, U, im, tr⟩ := s
  have w0 : tp ≤ 900 := hok.1
  have w1 : ln_tb (rd_w v) ≤ 3 := hok.2.2.1.1.2.1
  have w2 : (ln_str (rd_w v) bs).length ≤ 1000000000000 := (show ln_ba (rd_w v) bs from hok.2.2.2.1).b.2.2
  have w3 : U.length ≤ 10 := hok.2.2.2.2.1
  have htr : ∀ n y, n < 4 → tr n = some y → y.2.length ≤ 40 := htr
  rcases h1 with ⟨a0, rfl, rfl⟩ | ⟨k1, a0, a1, rfl, rfl⟩
  · rcases h2 with ⟨b0, rfl, rfl⟩ | ⟨k2, b0, b1, rfl, rfl⟩
    · exact ⟨rfl, rfl⟩
    · first | exact absurd (csI b0 (by omega) (by omega)) a0 | omega
  · rcases h2 with ⟨b0, rfl, rfl⟩ | ⟨k2, b0, b1, rfl, rfl⟩
    · first | exact absurd (csI a0 (by omega) (by omega)) b0 | omega
    · obtain rfl : k1 = k2 := lN_2 (a0.symm.trans b0) (by omega) (by omega)
      exact ⟨rfl, rfl⟩
def J_chance (xn : Int32) (xw : Int32) (s : cs_S) (o : Option Value) (s' : cs_S) : Prop := match s with
  | ((tp, bt), (fk, fp), v, (mo, ni, bs), U, im, tr) => (¬ cs_in xw 2 ∧ o = some (.int (-2)) ∧ s' = ((tp, bt), (fk, fp), v, (mo, ni, bs), U, im, tr)) ∨ (cs_in xw 2 ∧ ¬ cs_in xn 13 ∧ o = some (.int (-3)) ∧ s' = ((tp, bt), (fk, fp), v, (mo, ni, bs), U, im, tr)) ∨ (∃ n k, xn = nI n ∧ n < 13 ∧ xw = nI k ∧ k < 2 ∧ o = some (.int (nI ((if k = 0 then (fu_wy (rd_w v) (ln_sb (ln_str (rd_w v) bs) 6) n 0) else ln_tb (rd_w v) ^ n) / Nat.gcd (fu_wy (rd_w v) (ln_sb (ln_str (rd_w v) bs) 6) n 0) (ln_tb (rd_w v) ^ n)))) ∧ s' = ((tp, bt), (fk, fp), v, (mo, ni, bs), U, im, tr))
theorem V_chance {xn : Int32} {xw : Int32} {s s' : cs_S} {o : Option Value} (h : J_chance xn xw s o s') : ∃ y : Int32, o = some (.int y) := by
  obtain ⟨⟨tp, bt⟩, ⟨fk, fp⟩, v, ⟨mo, ni, bs⟩, U, im, tr⟩ := s
  rcases h with ⟨-, rfl, -⟩ | ⟨-, -, rfl, -⟩ | ⟨_, _, -, -, -, -, rfl, -⟩
  · exact ⟨_, rfl⟩
  · exact ⟨_, rfl⟩
  · exact ⟨_, rfl⟩
theorem P_chance {d K : Nat} {xn : Int32} {xw : Int32} {s : cs_S} {hp : az_Hp} (hd : 80 ≤ d) (hC : cs hp s K) : az_M mX11_chance d 0 0 [.ref 0, .int xn, .int xw] hp (fun o h' => ∃ s', J_chance xn xw s o s' ∧ cs h' s' K ∧ cs_f hp h') := by
  obtain ⟨⟨tp, bt⟩, ⟨fk, fp⟩, v, ⟨mo, ni, bs⟩, U, im, tr⟩ := s
  exact p_chance (by omega) hC (fun c0 => ⟨_, Or.inl ⟨c0, rfl, rfl⟩, hC, cs_f.rf⟩) (fun c0 c1 => ⟨_, Or.inr (Or.inl ⟨c0, c1, rfl, rfl⟩), hC, cs_f.rf⟩) (fun v0_ v1_ c0 c1 c2 c3 h1 e1 e2 => ⟨_, Or.inr (Or.inr ⟨v0_, v1_, c0, c1, c2, c3, rfl, rfl⟩), e1, e2⟩)
theorem Q_chance {d : Nat} {xn : Int32} {xw : Int32} {s : cs_S} {hp : az_Hp} (hd : 80 ≤ d) (hok : cs_ok s) (hM : mm hp s) : az_M mX12_chance d 0 0 [.ref 64, .int xn, .int xw] hp (fun o h' => ∃ s', J_chance xn xw s o s' ∧ mm h' s' ∧ az_fr hp h' 64 93) := by
  obtain ⟨⟨tp, bt⟩, ⟨fk, fp⟩, v, ⟨mo, ni, bs⟩, U, im, tr⟩ := s
  exact q_chance (by omega) hok hM (fun c0 h1 e1 e2 => ⟨_, Or.inl ⟨c0, rfl, rfl⟩, e1, e2⟩) (fun c0 c1 h1 e1 e2 => ⟨_, Or.inr (Or.inl ⟨c0, c1, rfl, rfl⟩), e1, e2⟩) (fun v0_ v1_ c0 c1 c2 c3 h1 e1 e2 => ⟨_, Or.inr (Or.inr ⟨v0_, v1_, c0, c1, c2, c3, rfl, rfl⟩), e1, e2⟩)
theorem D_chance {xn : Int32} {xw : Int32} {s s1 s2 : cs_S} {o1 o2 : Option Value} (hok : cs_ok s) (htr : ∀ n y, n < 4 → s.2.2.2.2.2.2 n = some y → y.2.length ≤ 40) (h1 : J_chance xn xw s o1 s1) (h2 : J_chance xn xw s o2 s2) : o1 = o2 ∧ s1 = s2 := by
  obtain ⟨⟨tp, bt⟩, ⟨fk, fp⟩, v, ⟨mo, ni, bs⟩, U, im, tr⟩ := s
  have w0 : tp ≤ 900 := hok.1
  have w1 : ln_tb (rd_w v) ≤ 3 := hok.2.2.1.1.2.1
  have w2 : (ln_str (rd_w v) bs).length ≤ 1000000000000 := (show ln_ba (rd_w v) bs from hok.2.2.2.1).b.2.2
  have w3 : U.length ≤ 10 := hok.2.2.2.2.1
  have htr : ∀ n y, n < 4 → tr n = some y → y.2.length ≤ 40 := htr
  rcases h1 with ⟨a0, rfl, rfl⟩ | ⟨a0, a1, rfl, rfl⟩ | ⟨n1, k1, a0, a1, a2, a3, rfl, rfl⟩
  · rcases h2 with ⟨b0, rfl, rfl⟩ | ⟨b0, b1, rfl, rfl⟩ | ⟨n2, k2, b0, b1, b2, b3, rfl, rfl⟩
    · exact ⟨rfl, rfl⟩
    · first | exact absurd b0 a0 | omega
    · first | exact absurd (csI b2 (by omega) (by omega)) a0 | omega
  · rcases h2 with ⟨b0, rfl, rfl⟩ | ⟨b0, b1, rfl, rfl⟩ | ⟨n2, k2, b0, b1, b2, b3, rfl, rfl⟩
    · first | exact absurd a0 b0 | omega
    · exact ⟨rfl, rfl⟩
    · first | exact absurd (csI b0 (by omega) (by omega)) a1 | omega
  · rcases h2 with ⟨b0, rfl, rfl⟩ | ⟨b0, b1, rfl, rfl⟩ | ⟨n2, k2, b0, b1, b2, b3, rfl, rfl⟩
    · first | exact absurd (csI a2 (by omega) (by omega)) b0 | omega
    · first | exact absurd (csI a0 (by omega) (by omega)) b1 | omega
    · obtain rfl : n1 = n2 := lN_2 (a0.symm.trans b0) (by omega) (by omega)
      obtain rfl : k1 = k2 := lN_2 (a2.symm.trans b2) (by omega) (by omega)
      exact ⟨rfl, rfl⟩
def J_mean (xn : Int32) (xw : Int32) (s : cs_S) (o : Option Value) (s' : cs_S) : Prop := match s with
  | ((tp, bt), (fk, fp), v, (mo, ni, bs), U, im, tr) => (¬ cs_in xw 2 ∧ o = some (.long (-2)) ∧ s' = ((tp, bt), (fk, fp), v, (mo, ni, bs), U, im, tr)) ∨ (cs_in xw 2 ∧ ¬ cs_in xn 7 ∧ o = some (.long (-3)) ∧ s' = ((tp, bt), (fk, fp), v, (mo, ni, bs), U, im, tr)) ∨ (∃ n k, xn = nI n ∧ n < 7 ∧ xw = nI k ∧ k < 2 ∧ o = some (.long (lN ((if k = 0 then (fu_l (fu_ai (rd_w v) (fun x => (ln_str (rd_w v) bs).count x) n)) else ln_tb (rd_w v) ^ n) / Nat.gcd (fu_l (fu_ai (rd_w v) (fun x => (ln_str (rd_w v) bs).count x) n)) (ln_tb (rd_w v) ^ n)))) ∧ s' = ((tp, bt), (fk, fp), v, (mo, ni, bs), U, im, tr))
theorem V_mean {xn : Int32} {xw : Int32} {s s' : cs_S} {o : Option Value} (h : J_mean xn xw s o s') : ∃ y : Int64, o = some (.long y) := by
  obtain ⟨⟨tp, bt⟩, ⟨fk, fp⟩, v, ⟨mo, ni, bs⟩, U, im, tr⟩ := s
  rcases h with ⟨-, rfl, -⟩ | ⟨-, -, rfl, -⟩ | ⟨_, _, -, -, -, -, rfl, -⟩
  · exact ⟨_, rfl⟩
  · exact ⟨_, rfl⟩
  · exact ⟨_, rfl⟩
theorem P_mean {d K : Nat} {xn : Int32} {xw : Int32} {s : cs_S} {hp : az_Hp} (hd : 80 ≤ d) (hC : cs hp s K) : az_M mX11_mean d 0 0 [.ref 0, .int xn, .int xw] hp (fun o h' => ∃ s', J_mean xn xw s o s' ∧ cs h' s' K ∧ cs_f hp h') := by
  obtain ⟨⟨tp, bt⟩, ⟨fk, fp⟩, v, ⟨mo, ni, bs⟩, U, im, tr⟩ := s
  exact p_mean (by omega) hC (fun c0 => ⟨_, Or.inl ⟨c0, rfl, rfl⟩, hC, cs_f.rf⟩) (fun c0 c1 => ⟨_, Or.inr (Or.inl ⟨c0, c1, rfl, rfl⟩), hC, cs_f.rf⟩) (fun v0_ v1_ c0 c1 c2 c3 h1 e1 e2 => ⟨_, Or.inr (Or.inr ⟨v0_, v1_, c0, c1, c2, c3, rfl, rfl⟩), e1, e2⟩)
theorem Q_mean {d : Nat} {xn : Int32} {xw : Int32} {s : cs_S} {hp : az_Hp} (hd : 80 ≤ d) (hok : cs_ok s) (hM : mm hp s) : az_M mX12_mean d 0 0 [.ref 64, .int xn, .int xw] hp (fun o h' => ∃ s', J_mean xn xw s o s' ∧ mm h' s' ∧ az_fr hp h' 64 93) := by
  obtain ⟨⟨tp, bt⟩, ⟨fk, fp⟩, v, ⟨mo, ni, bs⟩, U, im, tr⟩ := s
  exact q_mean (by omega) hok hM (fun c0 h1 e1 e2 => ⟨_, Or.inl ⟨c0, rfl, rfl⟩, e1, e2⟩) (fun c0 c1 h1 e1 e2 => ⟨_, Or.inr (Or.inl ⟨c0, c1, rfl, rfl⟩), e1, e2⟩) (fun v0_ v1_ c0 c1 c2 c3 h1 e1 e2 => ⟨_, Or.inr (Or.inr ⟨v0_, v1_, c0, c1, c2, c3, rfl, rfl⟩), e1, e2⟩)
theorem D_mean {xn : Int32} {xw : Int32} {s s1 s2 : cs_S} {o1 o2 : Option Value} (hok : cs_ok s) (htr : ∀ n y, n < 4 → s.2.2.2.2.2.2 n = some y → y.2.length ≤ 40) (h1 : J_mean xn xw s o1 s1) (h2 : J_mean xn xw s o2 s2) : o1 = o2 ∧ s1 = s2 := by
  obtain ⟨⟨tp, bt⟩, ⟨fk, fp⟩, v, ⟨mo, ni, bs⟩, U, im, tr⟩ := s
  have w0 : tp ≤ 900 := hok.1
  have w1 : ln_tb (rd_w v) ≤ 3 := hok.2.2.1.1.2.1
  have w2 : (ln_str (rd_w v) bs).length ≤ 1000000000000 := (show ln_ba (rd_w v) bs from hok.2.2.2.1).b.2.2
  have w3 : U.length ≤ 10 := hok.2.2.2.2.1
  have htr : ∀ n y, n < 4 → tr n = some y → y.2.length ≤ 40 := htr
  rcases h1 with ⟨a0, rfl, rfl⟩ | ⟨a0, a1, rfl, rfl⟩ | ⟨n1, k1, a0, a1, a2, a3, rfl, rfl⟩
  · rcases h2 with ⟨b0, rfl, rfl⟩ | ⟨b0, b1, rfl, rfl⟩ | ⟨n2, k2, b0, b1, b2, b3, rfl, rfl⟩
    · exact ⟨rfl, rfl⟩
    · first | exact absurd b0 a0 | omega
    · first | exact absurd (csI b2 (by omega) (by omega)) a0 | omega
  · rcases h2 with ⟨b0, rfl, rfl⟩ | ⟨b0, b1, rfl, rfl⟩ | ⟨n2, k2, b0, b1, b2, b3, rfl, rfl⟩
    · first | exact absurd a0 b0 | omega
    · exact ⟨rfl, rfl⟩
    · first | exact absurd (csI b0 (by omega) (by omega)) a1 | omega
  · rcases h2 with ⟨b0, rfl, rfl⟩ | ⟨b0, b1, rfl, rfl⟩ | ⟨n2, k2, b0, b1, b2, b3, rfl, rfl⟩
    · first | exact absurd (csI a2 (by omega) (by omega)) b0 | omega
    · first | exact absurd (csI a0 (by omega) (by omega)) b1 | omega
    · obtain rfl : n1 = n2 := lN_2 (a0.symm.trans b0) (by omega) (by omega)
      obtain rfl : k1 = k2 := lN_2 (a2.symm.trans b2) (by omega) (by omega)
      exact ⟨rfl, rfl⟩
def J_numbers (x : Int32) (xs : Int32) (xn : Int32) (s : cs_S) (o : Option Value) (s' : cs_S) : Prop := match s with
  | ((tp, bt), (fk, fp), v, (mo, ni, bs), U, im, tr) => (¬ (cs_in x 4 ∧ cs_in xs 4) ∧ o = some (.int (-2)) ∧ s' = ((tp, bt), (fk, fp), v, (mo, ni, bs), U, im, tr)) ∨ (cs_in x 4 ∧ cs_in xs 4 ∧ ¬ cs_in xn 41 ∧ o = some (.int (-3)) ∧ s' = ((tp, bt), (fk, fp), v, (mo, ni, bs), U, im, tr)) ∨ (∃ n so m, x = nI n ∧ n < 4 ∧ xs = nI so ∧ so < 4 ∧ xn = nI m ∧ m < 41 ∧ o = some (.int (nI 0)) ∧ s' = ((tp, bt), (fk, fp), v, (mo, ni, bs), U, im, fun i => if i = n then some (so, List.replicate m 0) else tr i))
theorem V_numbers {x : Int32} {xs : Int32} {xn : Int32} {s s' : cs_S} {o : Option Value} (h : J_numbers x xs xn s o s') : ∃ y : Int32, o = some (.int y) := by
  obtain ⟨⟨tp, bt⟩, ⟨fk, fp⟩, v, ⟨mo, ni, bs⟩, U, im, tr⟩ := s
  rcases h with ⟨-, rfl, -⟩ | ⟨-, -, -, rfl, -⟩ | ⟨_, _, _, -, -, -, -, -, -, rfl, -⟩
  · exact ⟨_, rfl⟩
  · exact ⟨_, rfl⟩
  · exact ⟨_, rfl⟩
theorem P_numbers {d K : Nat} {x : Int32} {xs : Int32} {xn : Int32} {s : cs_S} {hp : az_Hp} (hd : 80 ≤ d) (hC : cs hp s K) : az_M mX11_numbers d 0 0 [.ref 0, .int x, .int xs, .int xn] hp (fun o h' => ∃ s', J_numbers x xs xn s o s' ∧ cs h' s' K ∧ cs_f hp h') := by
  obtain ⟨⟨tp, bt⟩, ⟨fk, fp⟩, v, ⟨mo, ni, bs⟩, U, im, tr⟩ := s
  exact p_numbers (by omega) hC (fun c0 => ⟨_, Or.inl ⟨c0, rfl, rfl⟩, hC, cs_f.rf⟩) (fun c0 c1 c2 => ⟨_, Or.inr (Or.inl ⟨c0, c1, c2, rfl, rfl⟩), hC, cs_f.rf⟩) (fun v0_ v1_ v2_ c0 c1 c2 c3 c4 c5 h1 e1 e2 => ⟨_, Or.inr (Or.inr ⟨v0_, v1_, v2_, c0, c1, c2, c3, c4, c5, rfl, rfl⟩), e1, e2⟩)
theorem Q_numbers {d : Nat} {x : Int32} {xs : Int32} {xn : Int32} {s : cs_S} {hp : az_Hp} (hd : 80 ≤ d) (hok : cs_ok s) (hM : mm hp s) : az_M mX12_numbers d 0 0 [.ref 64, .int x, .int xs, .int xn] hp (fun o h' => ∃ s', J_numbers x xs xn s o s' ∧ mm h' s' ∧ az_fr hp h' 64 93) := by
  obtain ⟨⟨tp, bt⟩, ⟨fk, fp⟩, v, ⟨mo, ni, bs⟩, U, im, tr⟩ := s
  exact q_numbers (by omega) hok hM (fun c0 h1 e1 e2 => ⟨_, Or.inl ⟨c0, rfl, rfl⟩, e1, e2⟩) (fun c0 c1 c2 h1 e1 e2 => ⟨_, Or.inr (Or.inl ⟨c0, c1, c2, rfl, rfl⟩), e1, e2⟩) (fun v0_ v1_ v2_ c0 c1 c2 c3 c4 c5 h1 e1 e2 => ⟨_, Or.inr (Or.inr ⟨v0_, v1_, v2_, c0, c1, c2, c3, c4, c5, rfl, rfl⟩), e1, e2⟩)
theorem D_numbers {x : Int32} {xs : Int32} {xn : Int32} {s s1 s2 : cs_S} {o1 o2 : Option Value} (hok : cs_ok s) (htr : ∀ n y, n < 4 → s.2.2.2.2.2.2 n = some y → y.2.length ≤ 40) (h1 : J_numbers x xs xn s o1 s1) (h2 : J_numbers x xs xn s o2 s2) : o1 = o2 ∧ s1 = s2 := by
  obtain ⟨⟨tp, bt⟩, ⟨fk, fp⟩, v, ⟨mo, ni, bs⟩, U, im, tr⟩ := s
  have w0 : tp ≤ 900 := hok.1
  have w1 : ln_tb (rd_w v) ≤ 3 := hok.2.2.1.1.2.1
  have w2 : (ln_str (rd_w v) bs).length ≤ 1000000000000 := (show ln_ba (rd_w v) bs from hok.2.2.2.1).b.2.2
  have w3 : U.length ≤ 10 := hok.2.2.2.2.1
  have htr : ∀ n y, n < 4 → tr n = some y → y.2.length ≤ 40 := htr
  rcases h1 with ⟨a0, rfl, rfl⟩ | ⟨a0, a1, a2, rfl, rfl⟩ | ⟨n1, so1, m1, a0, a1, a2, a3, a4, a5, rfl, rfl⟩
  · rcases h2 with ⟨b0, rfl, rfl⟩ | ⟨b0, b1, b2, rfl, rfl⟩ | ⟨n2, so2, m2, b0, b1, b2, b3, b4, b5, rfl, rfl⟩
    · exact ⟨rfl, rfl⟩
    · first | exact absurd ⟨b0, b1⟩ a0 | omega
    · first | exact absurd ⟨(csI b0 (by omega) (by omega)), (csI b2 (by omega) (by omega))⟩ a0 | omega
  · rcases h2 with ⟨b0, rfl, rfl⟩ | ⟨b0, b1, b2, rfl, rfl⟩ | ⟨n2, so2, m2, b0, b1, b2, b3, b4, b5, rfl, rfl⟩
    · first | exact absurd ⟨a0, a1⟩ b0 | omega
    · exact ⟨rfl, rfl⟩
    · first | exact absurd (csI b4 (by omega) (by omega)) a2 | omega
  · rcases h2 with ⟨b0, rfl, rfl⟩ | ⟨b0, b1, b2, rfl, rfl⟩ | ⟨n2, so2, m2, b0, b1, b2, b3, b4, b5, rfl, rfl⟩
    · first | exact absurd ⟨(csI a0 (by omega) (by omega)), (csI a2 (by omega) (by omega))⟩ b0 | omega
    · first | exact absurd (csI a4 (by omega) (by omega)) b2 | omega
    · obtain rfl : n1 = n2 := lN_2 (a0.symm.trans b0) (by omega) (by omega)
      obtain rfl : so1 = so2 := lN_2 (a2.symm.trans b2) (by omega) (by omega)
      obtain rfl : m1 = m2 := lN_2 (a4.symm.trans b4) (by omega) (by omega)
      exact ⟨rfl, rfl⟩
def J_write (x : Int32) (xi : Int32) (xv : Int64) (s : cs_S) (o : Option Value) (s' : cs_S) : Prop := match s with
  | ((tp, bt), (fk, fp), v, (mo, ni, bs), U, im, tr) => ((∀ n, n < 4 → x ≠ nI n) ∧ o = some (.long (-2)) ∧ s' = ((tp, bt), (fk, fp), v, (mo, ni, bs), U, im, tr)) ∨ (∃ n, x = nI n ∧ n < 4 ∧ tr n = none ∧ o = some (.long (-6)) ∧ s' = ((tp, bt), (fk, fp), v, (mo, ni, bs), U, im, tr)) ∨ (∃ n y, x = nI n ∧ n < 4 ∧ tr n = some y ∧ ¬ cs_in xi y.2.length ∧ o = some (.long (-7)) ∧ s' = ((tp, bt), (fk, fp), v, (mo, ni, bs), U, im, tr)) ∨ (∃ n y i, x = nI n ∧ n < 4 ∧ tr n = some y ∧ xi = nI i ∧ i < y.2.length ∧ o = some (.long (ln_cut y.1 xv)) ∧ s' = ((tp, bt), (fk, fp), v, (mo, ni, bs), U, im, fun j9 => if j9 = n then some (y.1, y.2.set i (ln_cut y.1 xv)) else tr j9))
theorem V_write {x : Int32} {xi : Int32} {xv : Int64} {s s' : cs_S} {o : Option Value} (h : J_write x xi xv s o s') : ∃ y : Int64, o = some (.long y) := by
  obtain ⟨⟨tp, bt⟩, ⟨fk, fp⟩, v, ⟨mo, ni, bs⟩, U, im, tr⟩ := s
  rcases h with ⟨-, rfl, -⟩ | ⟨_, -, -, -, rfl, -⟩ | ⟨_, _, -, -, -, -, rfl, -⟩ | ⟨_, _, _, -, -, -, -, -, rfl, -⟩
  · exact ⟨_, rfl⟩
  · exact ⟨_, rfl⟩
  · exact ⟨_, rfl⟩
  · exact ⟨_, rfl⟩
theorem P_write {d K : Nat} {x : Int32} {xi : Int32} {xv : Int64} {s : cs_S} {hp : az_Hp} (hd : 80 ≤ d) (hC : cs hp s K) : az_M mX11_write d 0 0 [.ref 0, .int x, .int xi, .long xv] hp (fun o h' => ∃ s', J_write x xi xv s o s' ∧ cs h' s' K ∧ cs_f hp h') := by
  obtain ⟨⟨tp, bt⟩, ⟨fk, fp⟩, v, ⟨mo, ni, bs⟩, U, im, tr⟩ := s
  exact p_write (by omega) hC (fun c0 => ⟨_, Or.inl ⟨c0, rfl, rfl⟩, hC, cs_f.rf⟩) (fun v0_ c0 c1 c2 => ⟨_, Or.inr (Or.inl ⟨v0_, c0, c1, c2, rfl, rfl⟩), hC, cs_f.rf⟩) (fun v0_ v1_ c0 c1 c2 c3 => ⟨_, Or.inr (Or.inr (Or.inl ⟨v0_, v1_, c0, c1, c2, c3, rfl, rfl⟩)), hC, cs_f.rf⟩) (fun v0_ v1_ v2_ c0 c1 c2 c3 c4 h1 e1 e2 => ⟨_, Or.inr (Or.inr (Or.inr ⟨v0_, v1_, v2_, c0, c1, c2, c3, c4, rfl, rfl⟩)), e1, e2⟩)
theorem Q_write {d : Nat} {x : Int32} {xi : Int32} {xv : Int64} {s : cs_S} {hp : az_Hp} (hd : 80 ≤ d) (hok : cs_ok s) (hM : mm hp s) : az_M mX12_write d 0 0 [.ref 64, .int x, .int xi, .long xv] hp (fun o h' => ∃ s', J_write x xi xv s o s' ∧ mm h' s' ∧ az_fr hp h' 64 93) := by
  obtain ⟨⟨tp, bt⟩, ⟨fk, fp⟩, v, ⟨mo, ni, bs⟩, U, im, tr⟩ := s
  exact q_write (by omega) hok hM (fun c0 h1 e1 e2 => ⟨_, Or.inl ⟨c0, rfl, rfl⟩, e1, e2⟩) (fun v0_ c0 c1 c2 h1 e1 e2 => ⟨_, Or.inr (Or.inl ⟨v0_, c0, c1, c2, rfl, rfl⟩), e1, e2⟩) (fun v0_ v1_ c0 c1 c2 c3 h1 e1 e2 => ⟨_, Or.inr (Or.inr (Or.inl ⟨v0_, v1_, c0, c1, c2, c3, rfl, rfl⟩)), e1, e2⟩) (fun v0_ v1_ v2_ c0 c1 c2 c3 c4 h1 e1 e2 => ⟨_, Or.inr (Or.inr (Or.inr ⟨v0_, v1_, v2_, c0, c1, c2, c3, c4, rfl, rfl⟩)), e1, e2⟩)
theorem D_write {x : Int32} {xi : Int32} {xv : Int64} {s s1 s2 : cs_S} {o1 o2 : Option Value} (hok : cs_ok s) (htr : ∀ n y, n < 4 → s.2.2.2.2.2.2 n = some y → y.2.length ≤ 40) (h1 : J_write x xi xv s o1 s1) (h2 : J_write x xi xv s o2 s2) : o1 = o2 ∧ s1 = s2 := by
  obtain ⟨⟨tp, bt⟩, ⟨fk, fp⟩, v, ⟨mo, ni, bs⟩, U, im, tr⟩ := s
  have w0 : tp ≤ 900 := hok.1
  have w1 : ln_tb (rd_w v) ≤ 3 := hok.2.2.1.1.2.1
  have w2 : (ln_str (rd_w v) bs).length ≤ 1000000000000 := (show ln_ba (rd_w v) bs from hok.2.2.2.1).b.2.2
  have w3 : U.length ≤ 10 := hok.2.2.2.2.1
  have htr : ∀ n y, n < 4 → tr n = some y → y.2.length ≤ 40 := htr
  rcases h1 with ⟨a0, rfl, rfl⟩ | ⟨n1, a0, a1, a2, rfl, rfl⟩ | ⟨n1, y1, a0, a1, a2, a3, rfl, rfl⟩ | ⟨n1, y1, i1, a0, a1, a2, a3, a4, rfl, rfl⟩
  · rcases h2 with ⟨b0, rfl, rfl⟩ | ⟨n2, b0, b1, b2, rfl, rfl⟩ | ⟨n2, y2, b0, b1, b2, b3, rfl, rfl⟩ | ⟨n2, y2, i2, b0, b1, b2, b3, b4, rfl, rfl⟩
    · exact ⟨rfl, rfl⟩
    · first | exact absurd b0 (a0 _ (by omega) ) | omega
    · have htb := htr _ _ b1 b2
      first | exact absurd b0 (a0 _ (by omega) ) | omega
    · have htb := htr _ _ b1 b2
      first | exact absurd b0 (a0 _ (by omega) ) | omega
  · rcases h2 with ⟨b0, rfl, rfl⟩ | ⟨n2, b0, b1, b2, rfl, rfl⟩ | ⟨n2, y2, b0, b1, b2, b3, rfl, rfl⟩ | ⟨n2, y2, i2, b0, b1, b2, b3, b4, rfl, rfl⟩
    · first | exact absurd a0 (b0 _ (by omega) ) | omega
    · obtain rfl : n1 = n2 := lN_2 (a0.symm.trans b0) (by omega) (by omega)
      exact ⟨rfl, rfl⟩
    · have htb := htr _ _ b1 b2
      obtain rfl : n1 = n2 := lN_2 (a0.symm.trans b0) (by omega) (by omega)
      exact nomatch (a2.symm.trans b2)
    · have htb := htr _ _ b1 b2
      obtain rfl : n1 = n2 := lN_2 (a0.symm.trans b0) (by omega) (by omega)
      exact nomatch (a2.symm.trans b2)
  · rcases h2 with ⟨b0, rfl, rfl⟩ | ⟨n2, b0, b1, b2, rfl, rfl⟩ | ⟨n2, y2, b0, b1, b2, b3, rfl, rfl⟩ | ⟨n2, y2, i2, b0, b1, b2, b3, b4, rfl, rfl⟩
    · have hta := htr _ _ a1 a2
      first | exact absurd a0 (b0 _ (by omega) ) | omega
    · have hta := htr _ _ a1 a2
      obtain rfl : n1 = n2 := lN_2 (a0.symm.trans b0) (by omega) (by omega)
      exact nomatch (a2.symm.trans b2)
    · have hta := htr _ _ a1 a2
      have htb := htr _ _ b1 b2
      obtain rfl : n1 = n2 := lN_2 (a0.symm.trans b0) (by omega) (by omega)
      cases a2.symm.trans b2
      exact ⟨rfl, rfl⟩
    · have hta := htr _ _ a1 a2
      have htb := htr _ _ b1 b2
      obtain rfl : n1 = n2 := lN_2 (a0.symm.trans b0) (by omega) (by omega)
      cases a2.symm.trans b2
      first | exact absurd (csI b3 (by omega) (by omega)) a3 | omega
  · rcases h2 with ⟨b0, rfl, rfl⟩ | ⟨n2, b0, b1, b2, rfl, rfl⟩ | ⟨n2, y2, b0, b1, b2, b3, rfl, rfl⟩ | ⟨n2, y2, i2, b0, b1, b2, b3, b4, rfl, rfl⟩
    · have hta := htr _ _ a1 a2
      first | exact absurd a0 (b0 _ (by omega) ) | omega
    · have hta := htr _ _ a1 a2
      obtain rfl : n1 = n2 := lN_2 (a0.symm.trans b0) (by omega) (by omega)
      exact nomatch (a2.symm.trans b2)
    · have hta := htr _ _ a1 a2
      have htb := htr _ _ b1 b2
      obtain rfl : n1 = n2 := lN_2 (a0.symm.trans b0) (by omega) (by omega)
      cases a2.symm.trans b2
      first | exact absurd (csI a3 (by omega) (by omega)) b3 | omega
    · have hta := htr _ _ a1 a2
      have htb := htr _ _ b1 b2
      obtain rfl : n1 = n2 := lN_2 (a0.symm.trans b0) (by omega) (by omega)
      obtain rfl : i1 = i2 := lN_2 (a3.symm.trans b3) (by omega) (by omega)
      cases a2.symm.trans b2
      exact ⟨rfl, rfl⟩
def J_lists (x : Int32) (xp : Int64) (s : cs_S) (o : Option Value) (s' : cs_S) : Prop := match s with
  | ((tp, bt), (fk, fp), v, (mo, ni, bs), U, im, tr) => ((∀ n, n < 4 → x ≠ nI n) ∧ o = some (.int (-2)) ∧ s' = ((tp, bt), (fk, fp), v, (mo, ni, bs), U, im, tr)) ∨ (∃ n, x = nI n ∧ n < 4 ∧ tr n = none ∧ o = some (.int (-6)) ∧ s' = ((tp, bt), (fk, fp), v, (mo, ni, bs), U, im, tr)) ∨ (∃ n y, x = nI n ∧ n < 4 ∧ tr n = some y ∧ (∀ p, p ≤ (ln_str (rd_w v) bs).length → xp ≠ lN p) ∧ o = some (.int (-3)) ∧ s' = ((tp, bt), (fk, fp), v, (mo, ni, bs), U, im, tr)) ∨ (∃ n y p9, x = nI n ∧ n < 4 ∧ tr n = some y ∧ xp = lN p9 ∧ p9 ≤ (ln_str (rd_w v) bs).length ∧ o = some (.int (nI (min y.2.length ((ln_str (rd_w v) bs).length - p9)))) ∧ s' = ((tp, bt), (fk, fp), v, (mo, ni, bs), U, im, fun j9 => if j9 = n then some (y.1, ls y.2 (ln_str (rd_w v) bs) p9 (min y.2.length ((ln_str (rd_w v) bs).length - p9))) else tr j9))
theorem V_lists {x : Int32} {xp : Int64} {s s' : cs_S} {o : Option Value} (h : J_lists x xp s o s') : ∃ y : Int32, o = some (.int y) := by
  obtain ⟨⟨tp, bt⟩, ⟨fk, fp⟩, v, ⟨mo, ni, bs⟩, U, im, tr⟩ := s
  rcases h with ⟨-, rfl, -⟩ | ⟨_, -, -, -, rfl, -⟩ | ⟨_, _, -, -, -, -, rfl, -⟩ | ⟨_, _, _, -, -, -, -, -, rfl, -⟩
  · exact ⟨_, rfl⟩
  · exact ⟨_, rfl⟩
  · exact ⟨_, rfl⟩
  · exact ⟨_, rfl⟩
theorem P_lists {d K : Nat} {x : Int32} {xp : Int64} {s : cs_S} {hp : az_Hp} (hd : 80 ≤ d) (hC : cs hp s K) : az_M mX11_lists d 0 0 [.ref 0, .int x, .long xp] hp (fun o h' => ∃ s', J_lists x xp s o s' ∧ cs h' s' K ∧ cs_f hp h') := by
  obtain ⟨⟨tp, bt⟩, ⟨fk, fp⟩, v, ⟨mo, ni, bs⟩, U, im, tr⟩ := s
  exact p_lists (by omega) hC (fun c0 => ⟨_, Or.inl ⟨c0, rfl, rfl⟩, hC, cs_f.rf⟩) (fun v0_ c0 c1 c2 => ⟨_, Or.inr (Or.inl ⟨v0_, c0, c1, c2, rfl, rfl⟩), hC, cs_f.rf⟩) (fun v0_ v1_ c0 c1 c2 c3 => ⟨_, Or.inr (Or.inr (Or.inl ⟨v0_, v1_, c0, c1, c2, c3, rfl, rfl⟩)), hC, cs_f.rf⟩) (fun v0_ v1_ v2_ c0 c1 c2 c3 c4 h1 e1 e2 => ⟨_, Or.inr (Or.inr (Or.inr ⟨v0_, v1_, v2_, c0, c1, c2, c3, c4, rfl, rfl⟩)), e1, e2⟩)
theorem Q_lists {d : Nat} {x : Int32} {xp : Int64} {s : cs_S} {hp : az_Hp} (hd : 80 ≤ d) (hok : cs_ok s) (hM : mm hp s) : az_M mX12_lists d 0 0 [.ref 64, .int x, .long xp] hp (fun o h' => ∃ s', J_lists x xp s o s' ∧ mm h' s' ∧ az_fr hp h' 64 93) := by
  obtain ⟨⟨tp, bt⟩, ⟨fk, fp⟩, v, ⟨mo, ni, bs⟩, U, im, tr⟩ := s
  exact q_lists (by omega) hok hM (fun c0 h1 e1 e2 => ⟨_, Or.inl ⟨c0, rfl, rfl⟩, e1, e2⟩) (fun v0_ c0 c1 c2 h1 e1 e2 => ⟨_, Or.inr (Or.inl ⟨v0_, c0, c1, c2, rfl, rfl⟩), e1, e2⟩) (fun v0_ v1_ c0 c1 c2 c3 h1 e1 e2 => ⟨_, Or.inr (Or.inr (Or.inl ⟨v0_, v1_, c0, c1, c2, c3, rfl, rfl⟩)), e1, e2⟩) (fun v0_ v1_ v2_ c0 c1 c2 c3 c4 h1 e1 e2 => ⟨_, Or.inr (Or.inr (Or.inr ⟨v0_, v1_, v2_, c0, c1, c2, c3, c4, rfl, rfl⟩)), e1, e2⟩)
theorem D_lists {x : Int32} {xp : Int64} {s s1 s2 : cs_S} {o1 o2 : Option Value} (hok : cs_ok s) (htr : ∀ n y, n < 4 → s.2.2.2.2.2.2 n = some y → y.2.length ≤ 40) (h1 : J_lists x xp s o1 s1) (h2 : J_lists x xp s o2 s2) : o1 = o2 ∧ s1 = s2 := by
  obtain ⟨⟨tp, bt⟩, ⟨fk, fp⟩, v, ⟨mo, ni, bs⟩, U, im, tr⟩ := s
  have w0 : tp ≤ 900 := hok.1
  have w1 : ln_tb (rd_w v) ≤ 3 := hok.2.2.1.1.2.1
  have w2 : (ln_str (rd_w v) bs).length ≤ 1000000000000 := (show ln_ba (rd_w v) bs from hok.2.2.2.1).b.2.2
  have w3 : U.length ≤ 10 := hok.2.2.2.2.1
  have htr : ∀ n y, n < 4 → tr n = some y → y.2.length ≤ 40 := htr
  rcases h1 with ⟨a0, rfl, rfl⟩ | ⟨n1, a0, a1, a2, rfl, rfl⟩ | ⟨n1, y1, a0, a1, a2, a3, rfl, rfl⟩ | ⟨n1, y1, p91, a0, a1, a2, a3, a4, rfl, rfl⟩
  · rcases h2 with ⟨b0, rfl, rfl⟩ | ⟨n2, b0, b1, b2, rfl, rfl⟩ | ⟨n2, y2, b0, b1, b2, b3, rfl, rfl⟩ | ⟨n2, y2, p92, b0, b1, b2, b3, b4, rfl, rfl⟩
    · exact ⟨rfl, rfl⟩
    · first | exact absurd b0 (a0 _ (by omega) ) | omega
    · have htb := htr _ _ b1 b2
      first | exact absurd b0 (a0 _ (by omega) ) | omega
    · have htb := htr _ _ b1 b2
      first | exact absurd b0 (a0 _ (by omega) ) | omega
  · rcases h2 with ⟨b0, rfl, rfl⟩ | ⟨n2, b0, b1, b2, rfl, rfl⟩ | ⟨n2, y2, b0, b1, b2, b3, rfl, rfl⟩ | ⟨n2, y2, p92, b0, b1, b2, b3, b4, rfl, rfl⟩
    · first | exact absurd a0 (b0 _ (by omega) ) | omega
    · obtain rfl : n1 = n2 := lN_2 (a0.symm.trans b0) (by omega) (by omega)
      exact ⟨rfl, rfl⟩
    · have htb := htr _ _ b1 b2
      obtain rfl : n1 = n2 := lN_2 (a0.symm.trans b0) (by omega) (by omega)
      exact nomatch (a2.symm.trans b2)
    · have htb := htr _ _ b1 b2
      obtain rfl : n1 = n2 := lN_2 (a0.symm.trans b0) (by omega) (by omega)
      exact nomatch (a2.symm.trans b2)
  · rcases h2 with ⟨b0, rfl, rfl⟩ | ⟨n2, b0, b1, b2, rfl, rfl⟩ | ⟨n2, y2, b0, b1, b2, b3, rfl, rfl⟩ | ⟨n2, y2, p92, b0, b1, b2, b3, b4, rfl, rfl⟩
    · have hta := htr _ _ a1 a2
      first | exact absurd a0 (b0 _ (by omega) ) | omega
    · have hta := htr _ _ a1 a2
      obtain rfl : n1 = n2 := lN_2 (a0.symm.trans b0) (by omega) (by omega)
      exact nomatch (a2.symm.trans b2)
    · have hta := htr _ _ a1 a2
      have htb := htr _ _ b1 b2
      obtain rfl : n1 = n2 := lN_2 (a0.symm.trans b0) (by omega) (by omega)
      cases a2.symm.trans b2
      exact ⟨rfl, rfl⟩
    · have hta := htr _ _ a1 a2
      have htb := htr _ _ b1 b2
      obtain rfl : n1 = n2 := lN_2 (a0.symm.trans b0) (by omega) (by omega)
      cases a2.symm.trans b2
      first | exact absurd b3 (a3 _ (by omega) ) | omega
  · rcases h2 with ⟨b0, rfl, rfl⟩ | ⟨n2, b0, b1, b2, rfl, rfl⟩ | ⟨n2, y2, b0, b1, b2, b3, rfl, rfl⟩ | ⟨n2, y2, p92, b0, b1, b2, b3, b4, rfl, rfl⟩
    · have hta := htr _ _ a1 a2
      first | exact absurd a0 (b0 _ (by omega) ) | omega
    · have hta := htr _ _ a1 a2
      obtain rfl : n1 = n2 := lN_2 (a0.symm.trans b0) (by omega) (by omega)
      exact nomatch (a2.symm.trans b2)
    · have hta := htr _ _ a1 a2
      have htb := htr _ _ b1 b2
      obtain rfl : n1 = n2 := lN_2 (a0.symm.trans b0) (by omega) (by omega)
      cases a2.symm.trans b2
      first | exact absurd a3 (b3 _ (by omega) ) | omega
    · have hta := htr _ _ a1 a2
      have htb := htr _ _ b1 b2
      obtain rfl : n1 = n2 := lN_2 (a0.symm.trans b0) (by omega) (by omega)
      obtain rfl : p91 = p92 := lN_J (a3.symm.trans b3) (by omega) (by omega)
      cases a2.symm.trans b2
      exact ⟨rfl, rfl⟩
def J_image (x : Int32) (s : cs_S) (o : Option Value) (s' : cs_S) : Prop := match s with
  | ((tp, bt), (fk, fp), v, (mo, ni, bs), U, im, tr) => ((∀ n, n < 2 → x ≠ nI n) ∧ o = some (.int (-2)) ∧ s' = ((tp, bt), (fk, fp), v, (mo, ni, bs), U, im, tr)) ∨ (∃ n, x = nI n ∧ n < 2 ∧ o = some (.int (nI 0)) ∧ s' = ((tp, bt), (fk, fp), v, (mo, ni, bs), U, (fun j => if j = n then some (v, (mo, ni, bs)) else im j), tr))
theorem V_image {x : Int32} {s s' : cs_S} {o : Option Value} (h : J_image x s o s') : ∃ y : Int32, o = some (.int y) := by
  obtain ⟨⟨tp, bt⟩, ⟨fk, fp⟩, v, ⟨mo, ni, bs⟩, U, im, tr⟩ := s
  rcases h with ⟨-, rfl, -⟩ | ⟨_, -, -, rfl, -⟩
  · exact ⟨_, rfl⟩
  · exact ⟨_, rfl⟩
theorem P_image {d K : Nat} {x : Int32} {s : cs_S} {hp : az_Hp} (hd : 80 ≤ d) (hC : cs hp s K) : az_M mX11_image d 8 167 [.ref 0, .int x] hp (fun o h' => ∃ s', J_image x s o s' ∧ cs h' s' K ∧ cs_f hp h') := by
  obtain ⟨⟨tp, bt⟩, ⟨fk, fp⟩, v, ⟨mo, ni, bs⟩, U, im, tr⟩ := s
  exact p_image (by omega) hC (fun c0 => ⟨_, Or.inl ⟨c0, rfl, rfl⟩, hC, cs_f.rf⟩) (fun v0_ c0 c1 h1 e1 e2 => ⟨_, Or.inr ⟨v0_, c0, c1, rfl, rfl⟩, e1, e2⟩)
theorem Q_image {d : Nat} {x : Int32} {s : cs_S} {hp : az_Hp} (hd : 80 ≤ d) (hok : cs_ok s) (hM : mm hp s) : az_M mX12_image d 0 0 [.ref 64, .int x] hp (fun o h' => ∃ s', J_image x s o s' ∧ mm h' s' ∧ az_fr hp h' 64 93) := by
  obtain ⟨⟨tp, bt⟩, ⟨fk, fp⟩, v, ⟨mo, ni, bs⟩, U, im, tr⟩ := s
  exact q_image (by omega) hok hM (fun c0 h1 e1 e2 => ⟨_, Or.inl ⟨c0, rfl, rfl⟩, e1, e2⟩) (fun v0_ c0 c1 h1 e1 e2 => ⟨_, Or.inr ⟨v0_, c0, c1, rfl, rfl⟩, e1, e2⟩)
theorem D_image {x : Int32} {s s1 s2 : cs_S} {o1 o2 : Option Value} (hok : cs_ok s) (htr : ∀ n y, n < 4 → s.2.2.2.2.2.2 n = some y → y.2.length ≤ 40) (h1 : J_image x s o1 s1) (h2 : J_image x s o2 s2) : o1 = o2 ∧ s1 = s2 := by
  obtain ⟨⟨tp, bt⟩, ⟨fk, fp⟩, v, ⟨mo, ni, bs⟩, U, im, tr⟩ := s
  have w0 : tp ≤ 900 := hok.1
  have w1 : ln_tb (rd_w v) ≤ 3 := hok.2.2.1.1.2.1
  have w2 : (ln_str (rd_w v) bs).length ≤ 1000000000000 := (show ln_ba (rd_w v) bs from hok.2.2.2.1).b.2.2
  have w3 : U.length ≤ 10 := hok.2.2.2.2.1
  have htr : ∀ n y, n < 4 → tr n = some y → y.2.length ≤ 40 := htr
  rcases h1 with ⟨a0, rfl, rfl⟩ | ⟨n1, a0, a1, rfl, rfl⟩
  · rcases h2 with ⟨b0, rfl, rfl⟩ | ⟨n2, b0, b1, rfl, rfl⟩
    · exact ⟨rfl, rfl⟩
    · first | exact absurd b0 (a0 _ (by omega) ) | omega
  · rcases h2 with ⟨b0, rfl, rfl⟩ | ⟨n2, b0, b1, rfl, rfl⟩
    · first | exact absurd a0 (b0 _ (by omega) ) | omega
    · obtain rfl : n1 = n2 := lN_2 (a0.symm.trans b0) (by omega) (by omega)
      exact ⟨rfl, rfl⟩
def J_restore (x : Int32) (s : cs_S) (o : Option Value) (s' : cs_S) : Prop := match s with
  | ((tp, bt), (fk, fp), v, (mo, ni, bs), U, im, tr) => ((∀ n, n < 2 → x ≠ nI n) ∧ o = some (.int (-2)) ∧ s' = ((tp, bt), (fk, fp), v, (mo, ni, bs), U, im, tr)) ∨ (∃ n, x = nI n ∧ n < 2 ∧ im n = none ∧ o = some (.int (-5)) ∧ s' = ((tp, bt), (fk, fp), v, (mo, ni, bs), U, im, tr)) ∨ (∃ n v2 z2, x = nI n ∧ n < 2 ∧ im n = some (v2, z2) ∧ o = some (.int (nI 0)) ∧ s' = ((tp, bt), (fk, fp), v2, z2, [], im, tr))
theorem V_restore {x : Int32} {s s' : cs_S} {o : Option Value} (h : J_restore x s o s') : ∃ y : Int32, o = some (.int y) := by
  obtain ⟨⟨tp, bt⟩, ⟨fk, fp⟩, v, ⟨mo, ni, bs⟩, U, im, tr⟩ := s
  rcases h with ⟨-, rfl, -⟩ | ⟨_, -, -, -, rfl, -⟩ | ⟨_, _, _, -, -, -, rfl, -⟩
  · exact ⟨_, rfl⟩
  · exact ⟨_, rfl⟩
  · exact ⟨_, rfl⟩
theorem P_restore {d K : Nat} {x : Int32} {s : cs_S} {hp : az_Hp} (hd : 80 ≤ d) (hC : cs hp s K) : az_M mX11_restore d 0 0 [.ref 0, .int x] hp (fun o h' => ∃ s', J_restore x s o s' ∧ cs h' s' K ∧ cs_f hp h') := by
  obtain ⟨⟨tp, bt⟩, ⟨fk, fp⟩, v, ⟨mo, ni, bs⟩, U, im, tr⟩ := s
  exact p_restore (by omega) hC (fun c0 => ⟨_, Or.inl ⟨c0, rfl, rfl⟩, hC, cs_f.rf⟩) (fun v0_ c0 c1 c2 => ⟨_, Or.inr (Or.inl ⟨v0_, c0, c1, c2, rfl, rfl⟩), hC, cs_f.rf⟩) (fun v0_ v1_ v2_ c0 c1 c2 h1 e1 e2 => ⟨_, Or.inr (Or.inr ⟨v0_, v1_, v2_, c0, c1, c2, rfl, rfl⟩), e1, e2⟩)
theorem Q_restore {d : Nat} {x : Int32} {s : cs_S} {hp : az_Hp} (hd : 80 ≤ d) (hok : cs_ok s) (hM : mm hp s) : az_M mX12_restore d 0 0 [.ref 64, .int x] hp (fun o h' => ∃ s', J_restore x s o s' ∧ mm h' s' ∧ az_fr hp h' 64 93) := by
  obtain ⟨⟨tp, bt⟩, ⟨fk, fp⟩, v, ⟨mo, ni, bs⟩, U, im, tr⟩ := s
  exact q_restore (by omega) hok hM (fun c0 h1 e1 e2 => ⟨_, Or.inl ⟨c0, rfl, rfl⟩, e1, e2⟩) (fun v0_ c0 c1 c2 h1 e1 e2 => ⟨_, Or.inr (Or.inl ⟨v0_, c0, c1, c2, rfl, rfl⟩), e1, e2⟩) (fun v0_ v1_ v2_ c0 c1 c2 h1 e1 e2 => ⟨_, Or.inr (Or.inr ⟨v0_, v1_, v2_, c0, c1, c2, rfl, rfl⟩), e1, e2⟩)
theorem D_restore {x : Int32} {s s1 s2 : cs_S} {o1 o2 : Option Value} (hok : cs_ok s) (htr : ∀ n y, n < 4 → s.2.2.2.2.2.2 n = some y → y.2.length ≤ 40) (h1 : J_restore x s o1 s1) (h2 : J_restore x s o2 s2) : o1 = o2 ∧ s1 = s2 := by
  obtain ⟨⟨tp, bt⟩, ⟨fk, fp⟩, v, ⟨mo, ni, bs⟩, U, im, tr⟩ := s
  have w0 : tp ≤ 900 := hok.1
  have w1 : ln_tb (rd_w v) ≤ 3 := hok.2.2.1.1.2.1
  have w2 : (ln_str (rd_w v) bs).length ≤ 1000000000000 := (show ln_ba (rd_w v) bs from hok.2.2.2.1).b.2.2
  have w3 : U.length ≤ 10 := hok.2.2.2.2.1
  have htr : ∀ n y, n < 4 → tr n = some y → y.2.length ≤ 40 := htr
  rcases h1 with ⟨a0, rfl, rfl⟩ | ⟨n1, a0, a1, a2, rfl, rfl⟩ | ⟨n1, v21, z21, a0, a1, a2, rfl, rfl⟩
  · rcases h2 with ⟨b0, rfl, rfl⟩ | ⟨n2, b0, b1, b2, rfl, rfl⟩ | ⟨n2, v22, z22, b0, b1, b2, rfl, rfl⟩
    · exact ⟨rfl, rfl⟩
    · first | exact absurd b0 (a0 _ (by omega) ) | omega
    · first | exact absurd b0 (a0 _ (by omega) ) | omega
  · rcases h2 with ⟨b0, rfl, rfl⟩ | ⟨n2, b0, b1, b2, rfl, rfl⟩ | ⟨n2, v22, z22, b0, b1, b2, rfl, rfl⟩
    · first | exact absurd a0 (b0 _ (by omega) ) | omega
    · obtain rfl : n1 = n2 := lN_2 (a0.symm.trans b0) (by omega) (by omega)
      exact ⟨rfl, rfl⟩
    · obtain rfl : n1 = n2 := lN_2 (a0.symm.trans b0) (by omega) (by omega)
      exact nomatch (a2.symm.trans b2)
  · rcases h2 with ⟨b0, rfl, rfl⟩ | ⟨n2, b0, b1, b2, rfl, rfl⟩ | ⟨n2, v22, z22, b0, b1, b2, rfl, rfl⟩
    · first | exact absurd a0 (b0 _ (by omega) ) | omega
    · obtain rfl : n1 = n2 := lN_2 (a0.symm.trans b0) (by omega) (by omega)
      exact nomatch (a2.symm.trans b2)
    · obtain rfl : n1 = n2 := lN_2 (a0.symm.trans b0) (by omega) (by omega)
      cases a2.symm.trans b2
      exact ⟨rfl, rfl⟩
def J_told (x : Int32) (s : cs_S) (o : Option Value) (s' : cs_S) : Prop := match s with
  | ((tp, bt), (fk, fp), v, (mo, ni, bs), U, im, tr) => (o = some (.int (cs_told ((tp, bt), (fk, fp), v, (mo, ni, bs), U, im, tr) x)) ∧ s' = ((tp, bt), (fk, fp), v, (mo, ni, bs), U, im, tr))
theorem V_told {x : Int32} {s s' : cs_S} {o : Option Value} (h : J_told x s o s') : ∃ y : Int32, o = some (.int y) := by
  obtain ⟨⟨tp, bt⟩, ⟨fk, fp⟩, v, ⟨mo, ni, bs⟩, U, im, tr⟩ := s
  rcases h with ⟨rfl, -⟩
  · exact ⟨_, rfl⟩
theorem P_told {d K : Nat} {x : Int32} {s : cs_S} {hp : az_Hp} (hd : 80 ≤ d) (hC : cs hp s K) : az_M mX11_told d 0 0 [.ref 0, .int x] hp (fun o h' => ∃ s', J_told x s o s' ∧ cs h' s' K ∧ cs_f hp h') := by
  obtain ⟨⟨tp, bt⟩, ⟨fk, fp⟩, v, ⟨mo, ni, bs⟩, U, im, tr⟩ := s
  exact p_told (by omega) hC ⟨_, ⟨rfl, rfl⟩, hC, cs_f.rf⟩
theorem Q_told {d : Nat} {x : Int32} {s : cs_S} {hp : az_Hp} (hd : 80 ≤ d) (hok : cs_ok s) (hM : mm hp s) : az_M mX12_told d 0 0 [.ref 64, .int x] hp (fun o h' => ∃ s', J_told x s o s' ∧ mm h' s' ∧ az_fr hp h' 64 93) := by
  obtain ⟨⟨tp, bt⟩, ⟨fk, fp⟩, v, ⟨mo, ni, bs⟩, U, im, tr⟩ := s
  exact q_told (by omega) hok hM (fun h1 e1 e2 => ⟨_, ⟨rfl, rfl⟩, e1, e2⟩)
theorem D_told {x : Int32} {s s1 s2 : cs_S} {o1 o2 : Option Value} (hok : cs_ok s) (htr : ∀ n y, n < 4 → s.2.2.2.2.2.2 n = some y → y.2.length ≤ 40) (h1 : J_told x s o1 s1) (h2 : J_told x s o2 s2) : o1 = o2 ∧ s1 = s2 := by
  obtain ⟨⟨tp, bt⟩, ⟨fk, fp⟩, v, ⟨mo, ni, bs⟩, U, im, tr⟩ := s
  rcases h1 with ⟨rfl, rfl⟩
  · rcases h2 with ⟨rfl, rfl⟩
    · exact ⟨rfl, rfl⟩
