/-! What each call answers, on -/
def J_undo (x : Int32) (s : cs_S) (o : Option Value) (s' : cs_S) : Prop := match s with
  | ((tp, bt), (fk, fp), v, (mo, ni, bs), U, im, tr) => ((∀ n, 1 ≤ n → n ≤ U.length → x ≠ nI n) ∧ o = some (.int (-3)) ∧ s' = ((tp, bt), (fk, fp), v, (mo, ni, bs), U, im, tr)) ∨ (∃ n u, x = nI n ∧ 1 ≤ n ∧ n ≤ U.length ∧ U[U.length - n]? = some u ∧ o = some (.int (nI (U.length - n))) ∧ s' = ((tp, bt), (fk, fp), v, (u.2.2, u.2.1, bs.take u.1), U.take (U.length - n), im, tr))
theorem V_undo {x : Int32} {s s' : cs_S} {o : Option Value} (h : J_undo x s o s') : ∃ y : Int32, o = some (.int y) := by
  obtain ⟨⟨tp, bt⟩, ⟨fk, fp⟩, v, ⟨mo, ni, bs⟩, U, im, tr⟩ := s
  rcases h with ⟨-, rfl, -⟩ | ⟨_, _, -, -, -, -, rfl, -⟩
  · exact ⟨_, rfl⟩
  · exact ⟨_, rfl⟩
theorem P_undo {d K : Nat} {x : Int32} {s : cs_S} {hp : az_Hp} (hd : 80 ≤ d) (hC : cs hp s K) : az_M mX11_undo d 0 0 [.ref 0, .int x] hp (fun o h' => ∃ s', J_undo x s o s' ∧ cs h' s' K ∧ cs_f hp h') := by
  obtain ⟨⟨tp, bt⟩, ⟨fk, fp⟩, v, ⟨mo, ni, bs⟩, U, im, tr⟩ := s
  exact p_undo (by omega) hC (fun c0 => ⟨_, Or.inl ⟨c0, rfl, rfl⟩, hC, cs_f.rf⟩) (fun v0_ v1_ c0 c1 c2 c3 h1 e1 e2 => ⟨_, Or.inr ⟨v0_, v1_, c0, c1, c2, c3, rfl, rfl⟩, e1, e2⟩)
theorem Q_undo {d : Nat} {x : Int32} {s : cs_S} {hp : az_Hp} (hd : 80 ≤ d) (hok : cs_ok s) (hM : mm hp s) : az_M mX12_undo d 0 0 [.ref 64, .int x] hp (fun o h' => ∃ s', J_undo x s o s' ∧ mm h' s' ∧ az_fr hp h' 64 93) := by
  obtain ⟨⟨tp, bt⟩, ⟨fk, fp⟩, v, ⟨mo, ni, bs⟩, U, im, tr⟩ := s
  exact q_undo (by omega) hok hM (fun c0 h1 e1 e2 => ⟨_, Or.inl ⟨c0, rfl, rfl⟩, e1, e2⟩) (fun v0_ v1_ c0 c1 c2 c3 h1 e1 e2 => ⟨_, Or.inr ⟨v0_, v1_, c0, c1, c2, c3, rfl, rfl⟩, e1, e2⟩)
theorem D_undo {x : Int32} {s s1 s2 : cs_S} {o1 o2 : Option Value} (hok : cs_ok s) (htr : ∀ n y, n < 4 → s.2.2.2.2.2.2 n = some y → y.2.length ≤ 40) (h1 : J_undo x s o1 s1) (h2 : J_undo x s o2 s2) : o1 = o2 ∧ s1 = s2 := by
  obtain ⟨⟨tp, bt⟩, ⟨fk, fp⟩, v, ⟨mo, ni, bs⟩, U, im, tr⟩ := s
  have w0 : tp ≤ 900 := hok.1
  have w1 : ln_tb (rd_w v) ≤ 3 := hok.2.2.1.1.2.1
  have w2 : (ln_str (rd_w v) bs).length ≤ 1000000000000 := (show ln_ba (rd_w v) bs from hok.2.2.2.1).b.2.2
  have w3 : U.length ≤ 10 := hok.2.2.2.2.1
  have htr : ∀ n y, n < 4 → tr n = some y → y.2.length ≤ 40 := htr
  rcases h1 with ⟨a0, rfl, rfl⟩ | ⟨n1, u1, a0, a1, a2, a3, rfl, rfl⟩
  · rcases h2 with ⟨b0, rfl, rfl⟩ | ⟨n2, u2, b0, b1, b2, b3, rfl, rfl⟩
    · exact ⟨rfl, rfl⟩
    · first | exact absurd b0 (a0 _ (by omega) (by omega) ) | omega
  · rcases h2 with ⟨b0, rfl, rfl⟩ | ⟨n2, u2, b0, b1, b2, b3, rfl, rfl⟩
    · first | exact absurd a0 (b0 _ (by omega) (by omega) ) | omega
    · obtain rfl : n1 = n2 := lN_2 (a0.symm.trans b0) (by omega) (by omega)
      cases a3.symm.trans b3
      exact ⟨rfl, rfl⟩
def J_judge (x : Int32) (xw : Int32) (s : cs_S) (o : Option Value) (s' : cs_S) : Prop := match s with
  | ((tp, bt), (fk, fp), v, (mo, ni, bs), U, im, tr) => (¬ (cs_in x 4 ∧ cs_in xw 4) ∧ o = some (.int (-2)) ∧ s' = ((tp, bt), (fk, fp), v, (mo, ni, bs), U, im, tr)) ∨ (∃ n, x = nI n ∧ n < 4 ∧ cs_in xw 4 ∧ tr n = none ∧ o = some (.int (-6)) ∧ s' = ((tp, bt), (fk, fp), v, (mo, ni, bs), U, im, tr)) ∨ (∃ n y kw, x = nI n ∧ n < 4 ∧ tr n = some y ∧ xw = nI kw ∧ kw < 4 ∧ o = some (.int (cs_judge (rd_w v) (dl (rd_w v) v.2.2.2.2.2.2.2.1 v.2.2.2.2.2.2.2.2 y.2 (mo, ni, bs)) kw)) ∧ s' = ((tp, bt), (fk, fp), v, (mo, ni, bs), U, im, tr))
theorem V_judge {x : Int32} {xw : Int32} {s s' : cs_S} {o : Option Value} (h : J_judge x xw s o s') : ∃ y : Int32, o = some (.int y) := by
  obtain ⟨⟨tp, bt⟩, ⟨fk, fp⟩, v, ⟨mo, ni, bs⟩, U, im, tr⟩ := s
  rcases h with ⟨-, rfl, -⟩ | ⟨_, -, -, -, -, rfl, -⟩ | ⟨_, _, _, -, -, -, -, -, rfl, -⟩
  · exact ⟨_, rfl⟩
  · exact ⟨_, rfl⟩
  · exact ⟨_, rfl⟩
theorem P_judge {d K : Nat} {x : Int32} {xw : Int32} {s : cs_S} {hp : az_Hp} (hd : 80 ≤ d) (hC : cs hp s K) : az_M mX11_judge d 0 0 [.ref 0, .int x, .int xw] hp (fun o h' => ∃ s', J_judge x xw s o s' ∧ cs h' s' K ∧ cs_f hp h') := by
  obtain ⟨⟨tp, bt⟩, ⟨fk, fp⟩, v, ⟨mo, ni, bs⟩, U, im, tr⟩ := s
  exact p_judge (by omega) hC (fun c0 => ⟨_, Or.inl ⟨c0, rfl, rfl⟩, hC, cs_f.rf⟩) (fun v0_ c0 c1 c2 c3 => ⟨_, Or.inr (Or.inl ⟨v0_, c0, c1, c2, c3, rfl, rfl⟩), hC, cs_f.rf⟩) (fun v0_ v1_ v2_ c0 c1 c2 c3 c4 h1 e1 e2 => ⟨_, Or.inr (Or.inr ⟨v0_, v1_, v2_, c0, c1, c2, c3, c4, rfl, rfl⟩), e1, e2⟩)
theorem Q_judge {d : Nat} {x : Int32} {xw : Int32} {s : cs_S} {hp : az_Hp} (hd : 80 ≤ d) (hok : cs_ok s) (hM : mm hp s) : az_M mX12_judge d 0 0 [.ref 64, .int x, .int xw] hp (fun o h' => ∃ s', J_judge x xw s o s' ∧ mm h' s' ∧ az_fr hp h' 64 93) := by
  obtain ⟨⟨tp, bt⟩, ⟨fk, fp⟩, v, ⟨mo, ni, bs⟩, U, im, tr⟩ := s
  exact q_judge (by omega) hok hM (fun c0 h1 e1 e2 => ⟨_, Or.inl ⟨c0, rfl, rfl⟩, e1, e2⟩) (fun v0_ c0 c1 c2 c3 h1 e1 e2 => ⟨_, Or.inr (Or.inl ⟨v0_, c0, c1, c2, c3, rfl, rfl⟩), e1, e2⟩) (fun v0_ v1_ v2_ c0 c1 c2 c3 c4 h1 e1 e2 => ⟨_, Or.inr (Or.inr ⟨v0_, v1_, v2_, c0, c1, c2, c3, c4, rfl, rfl⟩), e1, e2⟩)
theorem D_judge {x : Int32} {xw : Int32} {s s1 s2 : cs_S} {o1 o2 : Option Value} (hok : cs_ok s) (htr : ∀ n y, n < 4 → s.2.2.2.2.2.2 n = some y → y.2.length ≤ 40) (h1 : J_judge x xw s o1 s1) (h2 : J_judge x xw s o2 s2) : o1 = o2 ∧ s1 = s2 := by
  obtain ⟨⟨tp, bt⟩, ⟨fk, fp⟩, v, ⟨mo, ni, bs⟩, U, im, tr⟩ := s
  have w0 : tp ≤ 900 := hok.1
  have w1 : ln_tb (rd_w v) ≤ 3 := hok.2.2.1.1.2.1
  have w2 : (ln_str (rd_w v) bs).length ≤ 1000000000000 := (show ln_ba (rd_w v) bs from hok.2.2.2.1).b.2.2
  have w3 : U.length ≤ 10 := hok.2.2.2.2.1
  have htr : ∀ n y, n < 4 → tr n = some y → y.2.length ≤ 40 := htr
  rcases h1 with ⟨a0, rfl, rfl⟩ | ⟨n1, a0, a1, a2, a3, rfl, rfl⟩ | ⟨n1, y1, kw1, a0, a1, a2, a3, a4, rfl, rfl⟩
  · rcases h2 with ⟨b0, rfl, rfl⟩ | ⟨n2, b0, b1, b2, b3, rfl, rfl⟩ | ⟨n2, y2, kw2, b0, b1, b2, b3, b4, rfl, rfl⟩
    · exact ⟨rfl, rfl⟩
    · first | exact absurd ⟨(csI b0 (by omega) (by omega)), b2⟩ a0 | omega
    · have htb := htr _ _ b1 b2
      first | exact absurd ⟨(csI b0 (by omega) (by omega)), (csI b3 (by omega) (by omega))⟩ a0 | omega
  · rcases h2 with ⟨b0, rfl, rfl⟩ | ⟨n2, b0, b1, b2, b3, rfl, rfl⟩ | ⟨n2, y2, kw2, b0, b1, b2, b3, b4, rfl, rfl⟩
    · first | exact absurd ⟨(csI a0 (by omega) (by omega)), a2⟩ b0 | omega
    · obtain rfl : n1 = n2 := lN_2 (a0.symm.trans b0) (by omega) (by omega)
      exact ⟨rfl, rfl⟩
    · have htb := htr _ _ b1 b2
      obtain rfl : n1 = n2 := lN_2 (a0.symm.trans b0) (by omega) (by omega)
      exact nomatch (a3.symm.trans b2)
  · rcases h2 with ⟨b0, rfl, rfl⟩ | ⟨n2, b0, b1, b2, b3, rfl, rfl⟩ | ⟨n2, y2, kw2, b0, b1, b2, b3, b4, rfl, rfl⟩
    · have hta := htr _ _ a1 a2
      first | exact absurd ⟨(csI a0 (by omega) (by omega)), (csI a3 (by omega) (by omega))⟩ b0 | omega
    · have hta := htr _ _ a1 a2
      obtain rfl : n1 = n2 := lN_2 (a0.symm.trans b0) (by omega) (by omega)
      exact nomatch (a2.symm.trans b3)
    · have hta := htr _ _ a1 a2
      have htb := htr _ _ b1 b2
      obtain rfl : n1 = n2 := lN_2 (a0.symm.trans b0) (by omega) (by omega)
      obtain rfl : kw1 = kw2 := lN_2 (a3.symm.trans b3) (by omega) (by omega)
      cases a2.symm.trans b2
      exact ⟨rfl, rfl⟩
def J_perform (x : Int32) (s : cs_S) (o : Option Value) (s' : cs_S) : Prop := match s with
  | ((tp, bt), (fk, fp), v, (mo, ni, bs), U, im, tr) => ((∀ n, n < 4 → x ≠ nI n) ∧ o = some (.int (-2)) ∧ s' = ((tp, bt), (fk, fp), v, (mo, ni, bs), U, im, tr)) ∨ (∃ n, x = nI n ∧ n < 4 ∧ tr n = none ∧ o = some (.int (-6)) ∧ s' = ((tp, bt), (fk, fp), v, (mo, ni, bs), U, im, tr)) ∨ (∃ n y, x = nI n ∧ n < 4 ∧ tr n = some y ∧ o = some (.int (nI (dl (rd_w v) v.2.2.2.2.2.2.2.1 v.2.2.2.2.2.2.2.2 y.2 (mo, ni, bs)).1)) ∧ s' = ((tp, bt), (fk, fp), v, (dl (rd_w v) v.2.2.2.2.2.2.2.1 v.2.2.2.2.2.2.2.2 y.2 (mo, ni, bs)).2.2, cs_push U (dl (rd_w v) v.2.2.2.2.2.2.2.1 v.2.2.2.2.2.2.2.2 y.2 (mo, ni, bs)).1 (bs.length, ni, mo), im, tr))
theorem V_perform {x : Int32} {s s' : cs_S} {o : Option Value} (h : J_perform x s o s') : ∃ y : Int32, o = some (.int y) := by
  obtain ⟨⟨tp, bt⟩, ⟨fk, fp⟩, v, ⟨mo, ni, bs⟩, U, im, tr⟩ := s
  rcases h with ⟨-, rfl, -⟩ | ⟨_, -, -, -, rfl, -⟩ | ⟨_, _, -, -, -, rfl, -⟩
  · exact ⟨_, rfl⟩
  · exact ⟨_, rfl⟩
  · exact ⟨_, rfl⟩
theorem P_perform {d K : Nat} {x : Int32} {s : cs_S} {hp : az_Hp} (hd : 80 ≤ d) (hC : cs hp s K) : az_M mX11_perform d 0 0 [.ref 0, .int x] hp (fun o h' => ∃ s', J_perform x s o s' ∧ cs h' s' K ∧ cs_f hp h') := by
  obtain ⟨⟨tp, bt⟩, ⟨fk, fp⟩, v, ⟨mo, ni, bs⟩, U, im, tr⟩ := s
  exact p_perform (by omega) hC (fun c0 => ⟨_, Or.inl ⟨c0, rfl, rfl⟩, hC, cs_f.rf⟩) (fun v0_ c0 c1 c2 => ⟨_, Or.inr (Or.inl ⟨v0_, c0, c1, c2, rfl, rfl⟩), hC, cs_f.rf⟩) (fun v0_ v1_ c0 c1 c2 h1 e1 e2 => ⟨_, Or.inr (Or.inr ⟨v0_, v1_, c0, c1, c2, rfl, rfl⟩), e1, e2⟩)
theorem Q_perform {d : Nat} {x : Int32} {s : cs_S} {hp : az_Hp} (hd : 80 ≤ d) (hok : cs_ok s) (hM : mm hp s) : az_M mX12_perform d 0 0 [.ref 64, .int x] hp (fun o h' => ∃ s', J_perform x s o s' ∧ mm h' s' ∧ az_fr hp h' 64 93) := by
  obtain ⟨⟨tp, bt⟩, ⟨fk, fp⟩, v, ⟨mo, ni, bs⟩, U, im, tr⟩ := s
  exact q_perform (by omega) hok hM (fun c0 h1 e1 e2 => ⟨_, Or.inl ⟨c0, rfl, rfl⟩, e1, e2⟩) (fun v0_ c0 c1 c2 h1 e1 e2 => ⟨_, Or.inr (Or.inl ⟨v0_, c0, c1, c2, rfl, rfl⟩), e1, e2⟩) (fun v0_ v1_ c0 c1 c2 h1 e1 e2 => ⟨_, Or.inr (Or.inr ⟨v0_, v1_, c0, c1, c2, rfl, rfl⟩), e1, e2⟩)
theorem D_perform {x : Int32} {s s1 s2 : cs_S} {o1 o2 : Option Value} (hok : cs_ok s) (htr : ∀ n y, n < 4 → s.2.2.2.2.2.2 n = some y → y.2.length ≤ 40) (h1 : J_perform x s o1 s1) (h2 : J_perform x s o2 s2) : o1 = o2 ∧ s1 = s2 := by
  obtain ⟨⟨tp, bt⟩, ⟨fk, fp⟩, v, ⟨mo, ni, bs⟩, U, im, tr⟩ := s
  have w0 : tp ≤ 900 := hok.1
  have w1 : ln_tb (rd_w v) ≤ 3 := hok.2.2.1.1.2.1
  have w2 : (ln_str (rd_w v) bs).length ≤ 1000000000000 := (show ln_ba (rd_w v) bs from hok.2.2.2.1).b.2.2
  have w3 : U.length ≤ 10 := hok.2.2.2.2.1
  have htr : ∀ n y, n < 4 → tr n = some y → y.2.length ≤ 40 := htr
  rcases h1 with ⟨a0, rfl, rfl⟩ | ⟨n1, a0, a1, a2, rfl, rfl⟩ | ⟨n1, y1, a0, a1, a2, rfl, rfl⟩
  · rcases h2 with ⟨b0, rfl, rfl⟩ | ⟨n2, b0, b1, b2, rfl, rfl⟩ | ⟨n2, y2, b0, b1, b2, rfl, rfl⟩
    · exact ⟨rfl, rfl⟩
    · first | exact absurd b0 (a0 _ (by omega) ) | omega
    · have htb := htr _ _ b1 b2
      first | exact absurd b0 (a0 _ (by omega) ) | omega
  · rcases h2 with ⟨b0, rfl, rfl⟩ | ⟨n2, b0, b1, b2, rfl, rfl⟩ | ⟨n2, y2, b0, b1, b2, rfl, rfl⟩
    · first | exact absurd a0 (b0 _ (by omega) ) | omega
    · obtain rfl : n1 = n2 := lN_2 (a0.symm.trans b0) (by omega) (by omega)
      exact ⟨rfl, rfl⟩
    · have htb := htr _ _ b1 b2
      obtain rfl : n1 = n2 := lN_2 (a0.symm.trans b0) (by omega) (by omega)
      exact nomatch (a2.symm.trans b2)
  · rcases h2 with ⟨b0, rfl, rfl⟩ | ⟨n2, b0, b1, b2, rfl, rfl⟩ | ⟨n2, y2, b0, b1, b2, rfl, rfl⟩
    · have hta := htr _ _ a1 a2
      first | exact absurd a0 (b0 _ (by omega) ) | omega
    · have hta := htr _ _ a1 a2
      obtain rfl : n1 = n2 := lN_2 (a0.symm.trans b0) (by omega) (by omega)
      exact nomatch (a2.symm.trans b2)
    · have hta := htr _ _ a1 a2
      have htb := htr _ _ b1 b2
      obtain rfl : n1 = n2 := lN_2 (a0.symm.trans b0) (by omega) (by omega)
      cases a2.symm.trans b2
      exact ⟨rfl, rfl⟩
def J_year (xs : Int32) (xt : Int32) (s : cs_S) (o : Option Value) (s' : cs_S) : Prop := match s with
  | ((tp, bt), (fk, fp), v, (mo, ni, bs), U, im, tr) => ((∀ n, 1 ≤ n → n ≤ 20 → xt ≠ nI n) ∧ o = some (.int (-3)) ∧ s' = ((tp, bt), (fk, fp), v, (mo, ni, bs), U, im, tr)) ∨ (∃ n, xt = nI n ∧ 1 ≤ n ∧ n ≤ 20 ∧ o = some (.int (nI (dy (rd_w v) v.2.2.2.2.2.2.2.1 v.2.2.2.2.2.2.2.2 n xs (mo, ni, bs)).1)) ∧ s' = ((tp, bt), (fk, fp), v, (dy (rd_w v) v.2.2.2.2.2.2.2.1 v.2.2.2.2.2.2.2.2 n xs (mo, ni, bs)).2, cs_push U (dy (rd_w v) v.2.2.2.2.2.2.2.1 v.2.2.2.2.2.2.2.2 n xs (mo, ni, bs)).1 (bs.length, ni, mo), im, tr))
theorem V_year {xs : Int32} {xt : Int32} {s s' : cs_S} {o : Option Value} (h : J_year xs xt s o s') : ∃ y : Int32, o = some (.int y) := by
  obtain ⟨⟨tp, bt⟩, ⟨fk, fp⟩, v, ⟨mo, ni, bs⟩, U, im, tr⟩ := s
  rcases h with ⟨-, rfl, -⟩ | ⟨_, -, -, -, rfl, -⟩
  · exact ⟨_, rfl⟩
  · exact ⟨_, rfl⟩
theorem P_year {d K : Nat} {xs : Int32} {xt : Int32} {s : cs_S} {hp : az_Hp} (hd : 80 ≤ d) (hC : cs hp s K) : az_M mX11_year d 0 0 [.ref 0, .int xs, .int xt] hp (fun o h' => ∃ s', J_year xs xt s o s' ∧ cs h' s' K ∧ cs_f hp h') := by
  obtain ⟨⟨tp, bt⟩, ⟨fk, fp⟩, v, ⟨mo, ni, bs⟩, U, im, tr⟩ := s
  exact p_year (by omega) hC (fun c0 => ⟨_, Or.inl ⟨c0, rfl, rfl⟩, hC, cs_f.rf⟩) (fun v0_ c0 c1 c2 h1 e1 e2 => ⟨_, Or.inr ⟨v0_, c0, c1, c2, rfl, rfl⟩, e1, e2⟩)
theorem Q_year {d : Nat} {xs : Int32} {xt : Int32} {s : cs_S} {hp : az_Hp} (hd : 80 ≤ d) (hok : cs_ok s) (hM : mm hp s) : az_M mX12_year d 0 0 [.ref 64, .int xs, .int xt] hp (fun o h' => ∃ s', J_year xs xt s o s' ∧ mm h' s' ∧ az_fr hp h' 64 93) := by
  obtain ⟨⟨tp, bt⟩, ⟨fk, fp⟩, v, ⟨mo, ni, bs⟩, U, im, tr⟩ := s
  exact q_year (by omega) hok hM (fun c0 h1 e1 e2 => ⟨_, Or.inl ⟨c0, rfl, rfl⟩, e1, e2⟩) (fun v0_ c0 c1 c2 h1 e1 e2 => ⟨_, Or.inr ⟨v0_, c0, c1, c2, rfl, rfl⟩, e1, e2⟩)
theorem D_year {xs : Int32} {xt : Int32} {s s1 s2 : cs_S} {o1 o2 : Option Value} (hok : cs_ok s) (htr : ∀ n y, n < 4 → s.2.2.2.2.2.2 n = some y → y.2.length ≤ 40) (h1 : J_year xs xt s o1 s1) (h2 : J_year xs xt s o2 s2) : o1 = o2 ∧ s1 = s2 := by
  obtain ⟨⟨tp, bt⟩, ⟨fk, fp⟩, v, ⟨mo, ni, bs⟩, U, im, tr⟩ := s
  have w0 : tp ≤ 900 := hok.1
  have w1 : ln_tb (rd_w v) ≤ 3 := hok.2.2.1.1.2.1
  have w2 : (ln_str (rd_w v) bs).length ≤ 1000000000000 := (show ln_ba (rd_w v) bs from hok.2.2.2.1).b.2.2
  have w3 : U.length ≤ 10 := hok.2.2.2.2.1
  have htr : ∀ n y, n < 4 → tr n = some y → y.2.length ≤ 40 := htr
  rcases h1 with ⟨a0, rfl, rfl⟩ | ⟨n1, a0, a1, a2, rfl, rfl⟩
  · rcases h2 with ⟨b0, rfl, rfl⟩ | ⟨n2, b0, b1, b2, rfl, rfl⟩
    · exact ⟨rfl, rfl⟩
    · first | exact absurd b0 (a0 _ (by omega) (by omega) ) | omega
  · rcases h2 with ⟨b0, rfl, rfl⟩ | ⟨n2, b0, b1, b2, rfl, rfl⟩
    · first | exact absurd a0 (b0 _ (by omega) (by omega) ) | omega
    · obtain rfl : n1 = n2 := lN_2 (a0.symm.trans b0) (by omega) (by omega)
      exact ⟨rfl, rfl⟩
def J_occurs (x : Int32) (s : cs_S) (o : Option Value) (s' : cs_S) : Prop := match s with
  | ((tp, bt), (fk, fp), v, (mo, ni, bs), U, im, tr) => ((∀ n, n < 4 → x ≠ nI n) ∧ o = some (.long (-2)) ∧ s' = ((tp, bt), (fk, fp), v, (mo, ni, bs), U, im, tr)) ∨ (∃ n, x = nI n ∧ n < 4 ∧ tr n = none ∧ o = some (.long (-6)) ∧ s' = ((tp, bt), (fk, fp), v, (mo, ni, bs), U, im, tr)) ∨ (∃ n y, x = nI n ∧ n < 4 ∧ tr n = some y ∧ ¬ (1 ≤ y.2.length ∧ y.2.length ≤ 6) ∧ o = some (.long (-4)) ∧ s' = ((tp, bt), (fk, fp), v, (mo, ni, bs), U, im, tr)) ∨ (∃ n y, x = nI n ∧ n < 4 ∧ tr n = some y ∧ 1 ≤ y.2.length ∧ y.2.length ≤ 6 ∧ ¬ cs_wd y.2 ∧ o = some (.long (-3)) ∧ s' = ((tp, bt), (fk, fp), v, (mo, ni, bs), U, im, tr)) ∨ (∃ n y, x = nI n ∧ n < 4 ∧ tr n = some y ∧ 1 ≤ y.2.length ∧ y.2.length ≤ 6 ∧ cs_wd y.2 ∧ o = some (.long (lN (fa_h (cs_g y.2) y.2.length 0 (ln_str (rd_w v) bs)))) ∧ s' = ((tp, bt), (fk, fp), v, (mo, ni, bs), U, im, tr))
theorem V_occurs {x : Int32} {s s' : cs_S} {o : Option Value} (h : J_occurs x s o s') : ∃ y : Int64, o = some (.long y) := by
  obtain ⟨⟨tp, bt⟩, ⟨fk, fp⟩, v, ⟨mo, ni, bs⟩, U, im, tr⟩ := s
  rcases h with ⟨-, rfl, -⟩ | ⟨_, -, -, -, rfl, -⟩ | ⟨_, _, -, -, -, -, rfl, -⟩ | ⟨_, _, -, -, -, -, -, -, rfl, -⟩ | ⟨_, _, -, -, -, -, -, -, rfl, -⟩
  · exact ⟨_, rfl⟩
  · exact ⟨_, rfl⟩
  · exact ⟨_, rfl⟩
  · exact ⟨_, rfl⟩
  · exact ⟨_, rfl⟩
theorem P_occurs {d K : Nat} {x : Int32} {s : cs_S} {hp : az_Hp} (hd : 80 ≤ d) (hC : cs hp s K) : az_M mX11_occurs d 0 0 [.ref 0, .int x] hp (fun o h' => ∃ s', J_occurs x s o s' ∧ cs h' s' K ∧ cs_f hp h') := by
  obtain ⟨⟨tp, bt⟩, ⟨fk, fp⟩, v, ⟨mo, ni, bs⟩, U, im, tr⟩ := s
  exact p_occurs (by omega) hC (fun c0 => ⟨_, Or.inl ⟨c0, rfl, rfl⟩, hC, cs_f.rf⟩) (fun v0_ c0 c1 c2 => ⟨_, Or.inr (Or.inl ⟨v0_, c0, c1, c2, rfl, rfl⟩), hC, cs_f.rf⟩) (fun v0_ v1_ c0 c1 c2 c3 => ⟨_, Or.inr (Or.inr (Or.inl ⟨v0_, v1_, c0, c1, c2, c3, rfl, rfl⟩)), hC, cs_f.rf⟩) (fun v0_ v1_ c0 c1 c2 c3 c4 c5 => ⟨_, Or.inr (Or.inr (Or.inr (Or.inl ⟨v0_, v1_, c0, c1, c2, c3, c4, c5, rfl, rfl⟩))), hC, cs_f.rf⟩) (fun v0_ v1_ c0 c1 c2 c3 c4 c5 h1 e1 e2 => ⟨_, Or.inr (Or.inr (Or.inr (Or.inr ⟨v0_, v1_, c0, c1, c2, c3, c4, c5, rfl, rfl⟩))), e1, e2⟩)
theorem Q_occurs {d : Nat} {x : Int32} {s : cs_S} {hp : az_Hp} (hd : 80 ≤ d) (hok : cs_ok s) (hM : mm hp s) : az_M mX12_occurs d 0 0 [.ref 64, .int x] hp (fun o h' => ∃ s', J_occurs x s o s' ∧ mm h' s' ∧ az_fr hp h' 64 93) := by
  obtain ⟨⟨tp, bt⟩, ⟨fk, fp⟩, v, ⟨mo, ni, bs⟩, U, im, tr⟩ := s
  exact q_occurs (by omega) hok hM (fun c0 h1 e1 e2 => ⟨_, Or.inl ⟨c0, rfl, rfl⟩, e1, e2⟩) (fun v0_ c0 c1 c2 h1 e1 e2 => ⟨_, Or.inr (Or.inl ⟨v0_, c0, c1, c2, rfl, rfl⟩), e1, e2⟩) (fun v0_ v1_ c0 c1 c2 c3 h1 e1 e2 => ⟨_, Or.inr (Or.inr (Or.inl ⟨v0_, v1_, c0, c1, c2, c3, rfl, rfl⟩)), e1, e2⟩) (fun v0_ v1_ c0 c1 c2 c3 c4 c5 h1 e1 e2 => ⟨_, Or.inr (Or.inr (Or.inr (Or.inl ⟨v0_, v1_, c0, c1, c2, c3, c4, c5, rfl, rfl⟩))), e1, e2⟩) (fun v0_ v1_ c0 c1 c2 c3 c4 c5 h1 e1 e2 => ⟨_, Or.inr (Or.inr (Or.inr (Or.inr ⟨v0_, v1_, c0, c1, c2, c3, c4, c5, rfl, rfl⟩))), e1, e2⟩)
theorem D_occurs {x : Int32} {s s1 s2 : cs_S} {o1 o2 : Option Value} (hok : cs_ok s) (htr : ∀ n y, n < 4 → s.2.2.2.2.2.2 n = some y → y.2.length ≤ 40) (h1 : J_occurs x s o1 s1) (h2 : J_occurs x s o2 s2) : o1 = o2 ∧ s1 = s2 := by
  obtain ⟨⟨tp, bt⟩, ⟨fk, fp⟩, v, ⟨mo, ni, bs⟩, U, im, tr⟩ := s
  have w0 : tp ≤ 900 := hok.1
  have w1 : ln_tb (rd_w v) ≤ 3 := hok.2.2.1.1.2.1
  have w2 : (ln_str (rd_w v) bs).length ≤ 1000000000000 := (show ln_ba (rd_w v) bs from hok.2.2.2.1).b.2.2
  have w3 : U.length ≤ 10 := hok.2.2.2.2.1
  have htr : ∀ n y, n < 4 → tr n = some y → y.2.length ≤ 40 := htr
  rcases h1 with ⟨a0, rfl, rfl⟩ | ⟨n1, a0, a1, a2, rfl, rfl⟩ | ⟨n1, y1, a0, a1, a2, a3, rfl, rfl⟩ | ⟨n1, y1, a0, a1, a2, a3, a4, a5, rfl, rfl⟩ | ⟨n1, y1, a0, a1, a2, a3, a4, a5, rfl, rfl⟩
  · rcases h2 with ⟨b0, rfl, rfl⟩ | ⟨n2, b0, b1, b2, rfl, rfl⟩ | ⟨n2, y2, b0, b1, b2, b3, rfl, rfl⟩ | ⟨n2, y2, b0, b1, b2, b3, b4, b5, rfl, rfl⟩ | ⟨n2, y2, b0, b1, b2, b3, b4, b5, rfl, rfl⟩
    · exact ⟨rfl, rfl⟩
    · first | exact absurd b0 (a0 _ (by omega) ) | omega
    · have htb := htr _ _ b1 b2
      first | exact absurd b0 (a0 _ (by omega) ) | omega
    · have htb := htr _ _ b1 b2
      first | exact absurd b0 (a0 _ (by omega) ) | omega
    · have htb := htr _ _ b1 b2
      first | exact absurd b0 (a0 _ (by omega) ) | omega
  · rcases h2 with ⟨b0, rfl, rfl⟩ | ⟨n2, b0, b1, b2, rfl, rfl⟩ | ⟨n2, y2, b0, b1, b2, b3, rfl, rfl⟩ | ⟨n2, y2, b0, b1, b2, b3, b4, b5, rfl, rfl⟩ | ⟨n2, y2, b0, b1, b2, b3, b4, b5, rfl, rfl⟩
    · first | exact absurd a0 (b0 _ (by omega) ) | omega
    · obtain rfl : n1 = n2 := lN_2 (a0.symm.trans b0) (by omega) (by omega)
      exact ⟨rfl, rfl⟩
    · have htb := htr _ _ b1 b2
      obtain rfl : n1 = n2 := lN_2 (a0.symm.trans b0) (by omega) (by omega)
      exact nomatch (a2.symm.trans b2)
    · have htb := htr _ _ b1 b2
      obtain rfl : n1 = n2 := lN_2 (a0.symm.trans b0) (by omega) (by omega)
      exact nomatch (a2.symm.trans b2)
    · have htb := htr _ _ b1 b2
      obtain rfl : n1 = n2 := lN_2 (a0.symm.trans b0) (by omega) (by omega)
      exact nomatch (a2.symm.trans b2)
  · rcases h2 with ⟨b0, rfl, rfl⟩ | ⟨n2, b0, b1, b2, rfl, rfl⟩ | ⟨n2, y2, b0, b1, b2, b3, rfl, rfl⟩ | ⟨n2, y2, b0, b1, b2, b3, b4, b5, rfl, rfl⟩ | ⟨n2, y2, b0, b1, b2, b3, b4, b5, rfl, rfl⟩
    · have hta := htr _ _ a1 a2
      first | exact absurd a0 (b0 _ (by omega) ) | omega
    · have hta := htr _ _ a1 a2
      obtain rfl : n1 = n2 := lN_2 (a0.symm.trans b0) (by omega) (by omega)
      exact nomatch (a2.symm.trans b2)
    · have hta := htr _ _ a1 a2
      have htb := htr _ _ b1 b2
      obtain rfl : n1 = n2 := lN_2 (a0.symm.trans b0) (by omega) (by omega)
      cases a2.symm.trans b2
      exact ⟨rfl, rfl⟩
    · have hta := htr _ _ a1 a2
      have htb := htr _ _ b1 b2
      obtain rfl : n1 = n2 := lN_2 (a0.symm.trans b0) (by omega) (by omega)
      cases a2.symm.trans b2
      first | exact absurd ⟨b3, b4⟩ a3 | omega
    · have hta := htr _ _ a1 a2
      have htb := htr _ _ b1 b2
      obtain rfl : n1 = n2 := lN_2 (a0.symm.trans b0) (by omega) (by omega)
      cases a2.symm.trans b2
      first | exact absurd ⟨b3, b4⟩ a3 | omega
  · rcases h2 with ⟨b0, rfl, rfl⟩ | ⟨n2, b0, b1, b2, rfl, rfl⟩ | ⟨n2, y2, b0, b1, b2, b3, rfl, rfl⟩ | ⟨n2, y2, b0, b1, b2, b3, b4, b5, rfl, rfl⟩ | ⟨n2, y2, b0, b1, b2, b3, b4, b5, rfl, rfl⟩
    · have hta := htr _ _ a1 a2
      first | exact absurd a0 (b0 _ (by omega) ) | omega
    · have hta := htr _ _ a1 a2
      obtain rfl : n1 = n2 := lN_2 (a0.symm.trans b0) (by omega) (by omega)
      exact nomatch (a2.symm.trans b2)
    · have hta := htr _ _ a1 a2
      have htb := htr _ _ b1 b2
      obtain rfl : n1 = n2 := lN_2 (a0.symm.trans b0) (by omega) (by omega)
      cases a2.symm.trans b2
      first | exact absurd ⟨a3, a4⟩ b3 | omega
    · have hta := htr _ _ a1 a2
      have htb := htr _ _ b1 b2
      obtain rfl : n1 = n2 := lN_2 (a0.symm.trans b0) (by omega) (by omega)
      cases a2.symm.trans b2
      exact ⟨rfl, rfl⟩
    · have hta := htr _ _ a1 a2
      have htb := htr _ _ b1 b2
      obtain rfl : n1 = n2 := lN_2 (a0.symm.trans b0) (by omega) (by omega)
      cases a2.symm.trans b2
      first | exact absurd b5 a5 | omega
  · rcases h2 with ⟨b0, rfl, rfl⟩ | ⟨n2, b0, b1, b2, rfl, rfl⟩ | ⟨n2, y2, b0, b1, b2, b3, rfl, rfl⟩ | ⟨n2, y2, b0, b1, b2, b3, b4, b5, rfl, rfl⟩ | ⟨n2, y2, b0, b1, b2, b3, b4, b5, rfl, rfl⟩
    · have hta := htr _ _ a1 a2
      first | exact absurd a0 (b0 _ (by omega) ) | omega
    · have hta := htr _ _ a1 a2
      obtain rfl : n1 = n2 := lN_2 (a0.symm.trans b0) (by omega) (by omega)
      exact nomatch (a2.symm.trans b2)
    · have hta := htr _ _ a1 a2
      have htb := htr _ _ b1 b2
      obtain rfl : n1 = n2 := lN_2 (a0.symm.trans b0) (by omega) (by omega)
      cases a2.symm.trans b2
      first | exact absurd ⟨a3, a4⟩ b3 | omega
    · have hta := htr _ _ a1 a2
      have htb := htr _ _ b1 b2
      obtain rfl : n1 = n2 := lN_2 (a0.symm.trans b0) (by omega) (by omega)
      cases a2.symm.trans b2
      first | exact absurd a5 b5 | omega
    · have hta := htr _ _ a1 a2
      have htb := htr _ _ b1 b2
      obtain rfl : n1 = n2 := lN_2 (a0.symm.trans b0) (by omega) (by omega)
      cases a2.symm.trans b2
      exact ⟨rfl, rfl⟩
def J_first (x : Int32) (s : cs_S) (o : Option Value) (s' : cs_S) : Prop := match s with
  | ((tp, bt), (fk, fp), v, (mo, ni, bs), U, im, tr) => ((∀ n, n < 4 → x ≠ nI n) ∧ o = some (.long (-2)) ∧ s' = ((tp, bt), (fk, fp), v, (mo, ni, bs), U, im, tr)) ∨ (∃ n, x = nI n ∧ n < 4 ∧ tr n = none ∧ o = some (.long (-6)) ∧ s' = ((tp, bt), (fk, fp), v, (mo, ni, bs), U, im, tr)) ∨ (∃ n y, x = nI n ∧ n < 4 ∧ tr n = some y ∧ ¬ (1 ≤ y.2.length ∧ y.2.length ≤ 6) ∧ o = some (.long (-4)) ∧ s' = ((tp, bt), (fk, fp), v, (mo, ni, bs), U, im, tr)) ∨ (∃ n y, x = nI n ∧ n < 4 ∧ tr n = some y ∧ 1 ≤ y.2.length ∧ y.2.length ≤ 6 ∧ ¬ cs_wd y.2 ∧ o = some (.long (-3)) ∧ s' = ((tp, bt), (fk, fp), v, (mo, ni, bs), U, im, tr)) ∨ (∃ n y, x = nI n ∧ n < 4 ∧ tr n = some y ∧ 1 ≤ y.2.length ∧ y.2.length ≤ 6 ∧ cs_wd y.2 ∧ o = some (.long (cs_first y.2 (ln_str (rd_w v) bs))) ∧ s' = ((tp, bt), (fk, fp), v, (mo, ni, bs), U, im, tr))
theorem V_first {x : Int32} {s s' : cs_S} {o : Option Value} (h : J_first x s o s') : ∃ y : Int64, o = some (.long y) := by
  obtain ⟨⟨tp, bt⟩, ⟨fk, fp⟩, v, ⟨mo, ni, bs⟩, U, im, tr⟩ := s
  rcases h with ⟨-, rfl, -⟩ | ⟨_, -, -, -, rfl, -⟩ | ⟨_, _, -, -, -, -, rfl, -⟩ | ⟨_, _, -, -, -, -, -, -, rfl, -⟩ | ⟨_, _, -, -, -, -, -, -, rfl, -⟩
  · exact ⟨_, rfl⟩
  · exact ⟨_, rfl⟩
  · exact ⟨_, rfl⟩
  · exact ⟨_, rfl⟩
  · exact ⟨_, rfl⟩
theorem P_first {d K : Nat} {x : Int32} {s : cs_S} {hp : az_Hp} (hd : 80 ≤ d) (hC : cs hp s K) : az_M mX11_first d 0 0 [.ref 0, .int x] hp (fun o h' => ∃ s', J_first x s o s' ∧ cs h' s' K ∧ cs_f hp h') := by
  obtain ⟨⟨tp, bt⟩, ⟨fk, fp⟩, v, ⟨mo, ni, bs⟩, U, im, tr⟩ := s
  exact p_first (by omega) hC (fun c0 => ⟨_, Or.inl ⟨c0, rfl, rfl⟩, hC, cs_f.rf⟩) (fun v0_ c0 c1 c2 => ⟨_, Or.inr (Or.inl ⟨v0_, c0, c1, c2, rfl, rfl⟩), hC, cs_f.rf⟩) (fun v0_ v1_ c0 c1 c2 c3 => ⟨_, Or.inr (Or.inr (Or.inl ⟨v0_, v1_, c0, c1, c2, c3, rfl, rfl⟩)), hC, cs_f.rf⟩) (fun v0_ v1_ c0 c1 c2 c3 c4 c5 => ⟨_, Or.inr (Or.inr (Or.inr (Or.inl ⟨v0_, v1_, c0, c1, c2, c3, c4, c5, rfl, rfl⟩))), hC, cs_f.rf⟩) (fun v0_ v1_ c0 c1 c2 c3 c4 c5 h1 e1 e2 => ⟨_, Or.inr (Or.inr (Or.inr (Or.inr ⟨v0_, v1_, c0, c1, c2, c3, c4, c5, rfl, rfl⟩))), e1, e2⟩)
theorem Q_first {d : Nat} {x : Int32} {s : cs_S} {hp : az_Hp} (hd : 80 ≤ d) (hok : cs_ok s) (hM : mm hp s) : az_M mX12_first d 0 0 [.ref 64, .int x] hp (fun o h' => ∃ s', J_first x s o s' ∧ mm h' s' ∧ az_fr hp h' 64 93) := by
  obtain ⟨⟨tp, bt⟩, ⟨fk, fp⟩, v, ⟨mo, ni, bs⟩, U, im, tr⟩ := s
  exact q_first (by omega) hok hM (fun c0 h1 e1 e2 => ⟨_, Or.inl ⟨c0, rfl, rfl⟩, e1, e2⟩) (fun v0_ c0 c1 c2 h1 e1 e2 => ⟨_, Or.inr (Or.inl ⟨v0_, c0, c1, c2, rfl, rfl⟩), e1, e2⟩) (fun v0_ v1_ c0 c1 c2 c3 h1 e1 e2 => ⟨_, Or.inr (Or.inr (Or.inl ⟨v0_, v1_, c0, c1, c2, c3, rfl, rfl⟩)), e1, e2⟩) (fun v0_ v1_ c0 c1 c2 c3 c4 c5 h1 e1 e2 => ⟨_, Or.inr (Or.inr (Or.inr (Or.inl ⟨v0_, v1_, c0, c1, c2, c3, c4, c5, rfl, rfl⟩))), e1, e2⟩) (fun v0_ v1_ c0 c1 c2 c3 c4 c5 h1 e1 e2 => ⟨_, Or.inr (Or.inr (Or.inr (Or.inr ⟨v0_, v1_, c0, c1, c2, c3, c4, c5, rfl, rfl⟩))), e1, e2⟩)
theorem D_first {x : Int32} {s s1 s2 : cs_S} {o1 o2 : Option Value} (hok : cs_ok s) (htr : ∀ n y, n < 4 → s.2.2.2.2.2.2 n = some y → y.2.length ≤ 40) (h1 : J_first x s o1 s1) (h2 : J_first x s o2 s2) : o1 = o2 ∧ s1 = s2 := by
  obtain ⟨⟨tp, bt⟩, ⟨fk, fp⟩, v, ⟨mo, ni, bs⟩, U, im, tr⟩ := s
  have w0 : tp ≤ 900 := hok.1
  have w1 : ln_tb (rd_w v) ≤ 3 := hok.2.2.1.1.2.1
  have w2 : (ln_str (rd_w v) bs).length ≤ 1000000000000 := (show ln_ba (rd_w v) bs from hok.2.2.2.1).b.2.2
  have w3 : U.length ≤ 10 := hok.2.2.2.2.1
  have htr : ∀ n y, n < 4 → tr n = some y → y.2.length ≤ 40 := htr
  rcases h1 with ⟨a0, rfl, rfl⟩ | ⟨n1, a0, a1, a2, rfl, rfl⟩ | ⟨n1, y1, a0, a1, a2, a3, rfl, rfl⟩ | ⟨n1, y1, a0, a1, a2, a3, a4, a5, rfl, rfl⟩ | ⟨n1, y1, a0, a1, a2, a3, a4, a5, rfl, rfl⟩
  · rcases h2 with ⟨b0, rfl, rfl⟩ | ⟨n2, b0, b1, b2, rfl, rfl⟩ | ⟨n2, y2, b0, b1, b2, b3, rfl, rfl⟩ | ⟨n2, y2, b0, b1, b2, b3, b4, b5, rfl, rfl⟩ | ⟨n2, y2, b0, b1, b2, b3, b4, b5, rfl, rfl⟩
    · exact ⟨rfl, rfl⟩
    · first | exact absurd b0 (a0 _ (by omega) ) | omega
    · have htb := htr _ _ b1 b2
      first | exact absurd b0 (a0 _ (by omega) ) | omega
    · have htb := htr _ _ b1 b2
      first | exact absurd b0 (a0 _ (by omega) ) | omega
    · have htb := htr _ _ b1 b2
      first | exact absurd b0 (a0 _ (by omega) ) | omega
  · rcases h2 with ⟨b0, rfl, rfl⟩ | ⟨n2, b0, b1, b2, rfl, rfl⟩ | ⟨n2, y2, b0, b1, b2, b3, rfl, rfl⟩ | ⟨n2, y2, b0, b1, b2, b3, b4, b5, rfl, rfl⟩ | ⟨n2, y2, b0, b1, b2, b3, b4, b5, rfl, rfl⟩
    · first | exact absurd a0 (b0 _ (by omega) ) | omega
    · obtain rfl : n1 = n2 := lN_2 (a0.symm.trans b0) (by omega) (by omega)
      exact ⟨rfl, rfl⟩
    · have htb := htr _ _ b1 b2
      obtain rfl : n1 = n2 := lN_2 (a0.symm.trans b0) (by omega) (by omega)
      exact nomatch (a2.symm.trans b2)
    · have htb := htr _ _ b1 b2
      obtain rfl : n1 = n2 := lN_2 (a0.symm.trans b0) (by omega) (by omega)
      exact nomatch (a2.symm.trans b2)
    · have htb := htr _ _ b1 b2
      obtain rfl : n1 = n2 := lN_2 (a0.symm.trans b0) (by omega) (by omega)
      exact nomatch (a2.symm.trans b2)
  · rcases h2 with ⟨b0, rfl, rfl⟩ | ⟨n2, b0, b1, b2, rfl, rfl⟩ | ⟨n2, y2, b0, b1, b2, b3, rfl, rfl⟩ | ⟨n2, y2, b0, b1, b2, b3, b4, b5, rfl, rfl⟩ | ⟨n2, y2, b0, b1, b2, b3, b4, b5, rfl, rfl⟩
    · have hta := htr _ _ a1 a2
      first | exact absurd a0 (b0 _ (by omega) ) | omega
    · have hta := htr _ _ a1 a2
      obtain rfl : n1 = n2 := lN_2 (a0.symm.trans b0) (by omega) (by omega)
      exact nomatch (a2.symm.trans b2)
    · have hta := htr _ _ a1 a2
      have htb := htr _ _ b1 b2
      obtain rfl : n1 = n2 := lN_2 (a0.symm.trans b0) (by omega) (by omega)
      cases a2.symm.trans b2
      exact ⟨rfl, rfl⟩
    · have hta := htr _ _ a1 a2
      have htb := htr _ _ b1 b2
      obtain rfl : n1 = n2 := lN_2 (a0.symm.trans b0) (by omega) (by omega)
      cases a2.symm.trans b2
      first | exact absurd ⟨b3, b4⟩ a3 | omega
    · have hta := htr _ _ a1 a2
      have htb := htr _ _ b1 b2
      obtain rfl : n1 = n2 := lN_2 (a0.symm.trans b0) (by omega) (by omega)
      cases a2.symm.trans b2
      first | exact absurd ⟨b3, b4⟩ a3 | omega
  · rcases h2 with ⟨b0, rfl, rfl⟩ | ⟨n2, b0, b1, b2, rfl, rfl⟩ | ⟨n2, y2, b0, b1, b2, b3, rfl, rfl⟩ | ⟨n2, y2, b0, b1, b2, b3, b4, b5, rfl, rfl⟩ | ⟨n2, y2, b0, b1, b2, b3, b4, b5, rfl, rfl⟩
    · have hta := htr _ _ a1 a2
      first | exact absurd a0 (b0 _ (by omega) ) | omega
    · have hta := htr _ _ a1 a2
      obtain rfl : n1 = n2 := lN_2 (a0.symm.trans b0) (by omega) (by omega)
      exact nomatch (a2.symm.trans b2)
    · have hta := htr _ _ a1 a2
      have htb := htr _ _ b1 b2
      obtain rfl : n1 = n2 := lN_2 (a0.symm.trans b0) (by omega) (by omega)
      cases a2.symm.trans b2
      first | exact absurd ⟨a3, a4⟩ b3 | omega
    · have hta := htr _ _ a1 a2
      have htb := htr _ _ b1 b2
      obtain rfl : n1 = n2 := lN_2 (a0.symm.trans b0) (by omega) (by omega)
      cases a2.symm.trans b2
      exact ⟨rfl, rfl⟩
    · have hta := htr _ _ a1 a2
      have htb := htr _ _ b1 b2
      obtain rfl : n1 = n2 := lN_2 (a0.symm.trans b0) (by omega) (by omega)
      cases a2.symm.trans b2
      first | exact absurd b5 a5 | omega
  · rcases h2 with ⟨b0, rfl, rfl⟩ | ⟨n2, b0, b1, b2, rfl, rfl⟩ | ⟨n2, y2, b0, b1, b2, b3, rfl, rfl⟩ | ⟨n2, y2, b0, b1, b2, b3, b4, b5, rfl, rfl⟩ | ⟨n2, y2, b0, b1, b2, b3, b4, b5, rfl, rfl⟩
    · have hta := htr _ _ a1 a2
      first | exact absurd a0 (b0 _ (by omega) ) | omega
    · have hta := htr _ _ a1 a2
      obtain rfl : n1 = n2 := lN_2 (a0.symm.trans b0) (by omega) (by omega)
      exact nomatch (a2.symm.trans b2)
    · have hta := htr _ _ a1 a2
      have htb := htr _ _ b1 b2
      obtain rfl : n1 = n2 := lN_2 (a0.symm.trans b0) (by omega) (by omega)
      cases a2.symm.trans b2
      first | exact absurd ⟨a3, a4⟩ b3 | omega
    · have hta := htr _ _ a1 a2
      have htb := htr _ _ b1 b2
      obtain rfl : n1 = n2 := lN_2 (a0.symm.trans b0) (by omega) (by omega)
      cases a2.symm.trans b2
      first | exact absurd a5 b5 | omega
    · have hta := htr _ _ a1 a2
      have htb := htr _ _ b1 b2
      obtain rfl : n1 = n2 := lN_2 (a0.symm.trans b0) (by omega) (by omega)
      cases a2.symm.trans b2
      exact ⟨rfl, rfl⟩
def J_backs (x : Int32) (xt : Int32) (s : cs_S) (o : Option Value) (s' : cs_S) : Prop := match s with
  | ((tp, bt), (fk, fp), v, (mo, ni, bs), U, im, tr) => (¬ (cs_in x 4 ∧ cs_in xt (ln_tb (rd_w v))) ∧ o = some (.int (-2)) ∧ s' = ((tp, bt), (fk, fp), v, (mo, ni, bs), U, im, tr)) ∨ (∃ n, x = nI n ∧ n < 4 ∧ cs_in xt (ln_tb (rd_w v)) ∧ tr n = none ∧ o = some (.int (-6)) ∧ s' = ((tp, bt), (fk, fp), v, (mo, ni, bs), U, im, tr)) ∨ (∃ n y, x = nI n ∧ n < 4 ∧ cs_in xt (ln_tb (rd_w v)) ∧ tr n = some y ∧ ¬ (1 ≤ y.2.length ∧ y.2.length ≤ 6) ∧ o = some (.int (-4)) ∧ s' = ((tp, bt), (fk, fp), v, (mo, ni, bs), U, im, tr)) ∨ (∃ n y, x = nI n ∧ n < 4 ∧ cs_in xt (ln_tb (rd_w v)) ∧ tr n = some y ∧ 1 ≤ y.2.length ∧ y.2.length ≤ 6 ∧ ¬ cs_wd y.2 ∧ o = some (.int (-3)) ∧ s' = ((tp, bt), (fk, fp), v, (mo, ni, bs), U, im, tr)) ∨ (∃ n y tb, x = nI n ∧ n < 4 ∧ xt = nI tb ∧ tb < ln_tb (rd_w v) ∧ tr n = some y ∧ 1 ≤ y.2.length ∧ y.2.length ≤ 6 ∧ cs_wd y.2 ∧ o = some (.int (nI (fw (rd_w v) tb (cs_g y.2) y.2.length y.2.length 0))) ∧ s' = ((tp, bt), (fk, fp), v, (mo, ni, bs), U, im, tr))
theorem V_backs {x : Int32} {xt : Int32} {s s' : cs_S} {o : Option Value} (h : J_backs x xt s o s') : ∃ y : Int32, o = some (.int y) := by
  obtain ⟨⟨tp, bt⟩, ⟨fk, fp⟩, v, ⟨mo, ni, bs⟩, U, im, tr⟩ := s
  rcases h with ⟨-, rfl, -⟩ | ⟨_, -, -, -, -, rfl, -⟩ | ⟨_, _, -, -, -, -, -, rfl, -⟩ | ⟨_, _, -, -, -, -, -, -, -, rfl, -⟩ | ⟨_, _, _, -, -, -, -, -, -, -, -, rfl, -⟩
  · exact ⟨_, rfl⟩
  · exact ⟨_, rfl⟩
  · exact ⟨_, rfl⟩
  · exact ⟨_, rfl⟩
  · exact ⟨_, rfl⟩
theorem P_backs {d K : Nat} {x : Int32} {xt : Int32} {s : cs_S} {hp : az_Hp} (hd : 80 ≤ d) (hC : cs hp s K) : az_M mX11_backs d 0 0 [.ref 0, .int x, .int xt] hp (fun o h' => ∃ s', J_backs x xt s o s' ∧ cs h' s' K ∧ cs_f hp h') := by
  obtain ⟨⟨tp, bt⟩, ⟨fk, fp⟩, v, ⟨mo, ni, bs⟩, U, im, tr⟩ := s
  exact p_backs (by omega) hC (fun c0 => ⟨_, Or.inl ⟨c0, rfl, rfl⟩, hC, cs_f.rf⟩) (fun v0_ c0 c1 c2 c3 => ⟨_, Or.inr (Or.inl ⟨v0_, c0, c1, c2, c3, rfl, rfl⟩), hC, cs_f.rf⟩) (fun v0_ v1_ c0 c1 c2 c3 c4 => ⟨_, Or.inr (Or.inr (Or.inl ⟨v0_, v1_, c0, c1, c2, c3, c4, rfl, rfl⟩)), hC, cs_f.rf⟩) (fun v0_ v1_ c0 c1 c2 c3 c4 c5 c6 => ⟨_, Or.inr (Or.inr (Or.inr (Or.inl ⟨v0_, v1_, c0, c1, c2, c3, c4, c5, c6, rfl, rfl⟩))), hC, cs_f.rf⟩) (fun v0_ v1_ v2_ c0 c1 c2 c3 c4 c5 c6 c7 h1 e1 e2 => ⟨_, Or.inr (Or.inr (Or.inr (Or.inr ⟨v0_, v1_, v2_, c0, c1, c2, c3, c4, c5, c6, c7, rfl, rfl⟩))), e1, e2⟩)
theorem Q_backs {d : Nat} {x : Int32} {xt : Int32} {s : cs_S} {hp : az_Hp} (hd : 80 ≤ d) (hok : cs_ok s) (hM : mm hp s) : az_M mX12_backs d 0 0 [.ref 64, .int x, .int xt] hp (fun o h' => ∃ s', J_backs x xt s o s' ∧ mm h' s' ∧ az_fr hp h' 64 93) := by
  obtain ⟨⟨tp, bt⟩, ⟨fk, fp⟩, v, ⟨mo, ni, bs⟩, U, im, tr⟩ := s
  exact q_backs (by omega) hok hM (fun c0 h1 e1 e2 => ⟨_, Or.inl ⟨c0, rfl, rfl⟩, e1, e2⟩) (fun v0_ c0 c1 c2 c3 h1 e1 e2 => ⟨_, Or.inr (Or.inl ⟨v0_, c0, c1, c2, c3, rfl, rfl⟩), e1, e2⟩) (fun v0_ v1_ c0 c1 c2 c3 c4 h1 e1 e2 => ⟨_, Or.inr (Or.inr (Or.inl ⟨v0_, v1_, c0, c1, c2, c3, c4, rfl, rfl⟩)), e1, e2⟩) (fun v0_ v1_ c0 c1 c2 c3 c4 c5 c6 h1 e1 e2 => ⟨_, Or.inr (Or.inr (Or.inr (Or.inl ⟨v0_, v1_, c0, c1, c2, c3, c4, c5, c6, rfl, rfl⟩))), e1, e2⟩) (fun v0_ v1_ v2_ c0 c1 c2 c3 c4 c5 c6 c7 h1 e1 e2 => ⟨_, Or.inr (Or.inr (Or.inr (Or.inr ⟨v0_, v1_, v2_, c0, c1, c2, c3, c4, c5, c6, c7, rfl, rfl⟩))), e1, e2⟩)
theorem D_backs {x : Int32} {xt : Int32} {s s1 s2 : cs_S} {o1 o2 : Option Value} (hok : cs_ok s) (htr : ∀ n y, n < 4 → s.2.2.2.2.2.2 n = some y → y.2.length ≤ 40) (h1 : J_backs x xt s o1 s1) (h2 : J_backs x xt s o2 s2) : o1 = o2 ∧ s1 = s2 := by
  obtain ⟨⟨tp, bt⟩, ⟨fk, fp⟩, v, ⟨mo, ni, bs⟩, U, im, tr⟩ := s
  have w0 : tp ≤ 900 := hok.1
  have w1 : ln_tb (rd_w v) ≤ 3 := hok.2.2.1.1.2.1
  have w2 : (ln_str (rd_w v) bs).length ≤ 1000000000000 := (show ln_ba (rd_w v) bs from hok.2.2.2.1).b.2.2
  have w3 : U.length ≤ 10 := hok.2.2.2.2.1
  have htr : ∀ n y, n < 4 → tr n = some y → y.2.length ≤ 40 := htr
  rcases h1 with ⟨a0, rfl, rfl⟩ | ⟨n1, a0, a1, a2, a3, rfl, rfl⟩ | ⟨n1, y1, a0, a1, a2, a3, a4, rfl, rfl⟩ | ⟨n1, y1, a0, a1, a2, a3, a4, a5, a6, rfl, rfl⟩ | ⟨n1, y1, tb1, a0, a1, a2, a3, a4, a5, a6, a7, rfl, rfl⟩
  · rcases h2 with ⟨b0, rfl, rfl⟩ | ⟨n2, b0, b1, b2, b3, rfl, rfl⟩ | ⟨n2, y2, b0, b1, b2, b3, b4, rfl, rfl⟩ | ⟨n2, y2, b0, b1, b2, b3, b4, b5, b6, rfl, rfl⟩ | ⟨n2, y2, tb2, b0, b1, b2, b3, b4, b5, b6, b7, rfl, rfl⟩
    · exact ⟨rfl, rfl⟩
    · first | exact absurd ⟨(csI b0 (by omega) (by omega)), b2⟩ a0 | omega
    · have htb := htr _ _ b1 b3
      first | exact absurd ⟨(csI b0 (by omega) (by omega)), b2⟩ a0 | omega
    · have htb := htr _ _ b1 b3
      first | exact absurd ⟨(csI b0 (by omega) (by omega)), b2⟩ a0 | omega
    · have htb := htr _ _ b1 b4
      first | exact absurd ⟨(csI b0 (by omega) (by omega)), (csI b2 (by omega) (by omega))⟩ a0 | omega
  · rcases h2 with ⟨b0, rfl, rfl⟩ | ⟨n2, b0, b1, b2, b3, rfl, rfl⟩ | ⟨n2, y2, b0, b1, b2, b3, b4, rfl, rfl⟩ | ⟨n2, y2, b0, b1, b2, b3, b4, b5, b6, rfl, rfl⟩ | ⟨n2, y2, tb2, b0, b1, b2, b3, b4, b5, b6, b7, rfl, rfl⟩
    · first | exact absurd ⟨(csI a0 (by omega) (by omega)), a2⟩ b0 | omega
    · obtain rfl : n1 = n2 := lN_2 (a0.symm.trans b0) (by omega) (by omega)
      exact ⟨rfl, rfl⟩
    · have htb := htr _ _ b1 b3
      obtain rfl : n1 = n2 := lN_2 (a0.symm.trans b0) (by omega) (by omega)
      exact nomatch (a3.symm.trans b3)
    · have htb := htr _ _ b1 b3
      obtain rfl : n1 = n2 := lN_2 (a0.symm.trans b0) (by omega) (by omega)
      exact nomatch (a3.symm.trans b3)
    · have htb := htr _ _ b1 b4
      obtain rfl : n1 = n2 := lN_2 (a0.symm.trans b0) (by omega) (by omega)
      exact nomatch (a3.symm.trans b4)
  · rcases h2 with ⟨b0, rfl, rfl⟩ | ⟨n2, b0, b1, b2, b3, rfl, rfl⟩ | ⟨n2, y2, b0, b1, b2, b3, b4, rfl, rfl⟩ | ⟨n2, y2, b0, b1, b2, b3, b4, b5, b6, rfl, rfl⟩ | ⟨n2, y2, tb2, b0, b1, b2, b3, b4, b5, b6, b7, rfl, rfl⟩
    · have hta := htr _ _ a1 a3
      first | exact absurd ⟨(csI a0 (by omega) (by omega)), a2⟩ b0 | omega
    · have hta := htr _ _ a1 a3
      obtain rfl : n1 = n2 := lN_2 (a0.symm.trans b0) (by omega) (by omega)
      exact nomatch (a3.symm.trans b3)
    · have hta := htr _ _ a1 a3
      have htb := htr _ _ b1 b3
      obtain rfl : n1 = n2 := lN_2 (a0.symm.trans b0) (by omega) (by omega)
      cases a3.symm.trans b3
      exact ⟨rfl, rfl⟩
    · have hta := htr _ _ a1 a3
      have htb := htr _ _ b1 b3
      obtain rfl : n1 = n2 := lN_2 (a0.symm.trans b0) (by omega) (by omega)
      cases a3.symm.trans b3
      first | exact absurd ⟨b4, b5⟩ a4 | omega
    · have hta := htr _ _ a1 a3
      have htb := htr _ _ b1 b4
      obtain rfl : n1 = n2 := lN_2 (a0.symm.trans b0) (by omega) (by omega)
      cases a3.symm.trans b4
      first | exact absurd ⟨b5, b6⟩ a4 | omega
  · rcases h2 with ⟨b0, rfl, rfl⟩ | ⟨n2, b0, b1, b2, b3, rfl, rfl⟩ | ⟨n2, y2, b0, b1, b2, b3, b4, rfl, rfl⟩ | ⟨n2, y2, b0, b1, b2, b3, b4, b5, b6, rfl, rfl⟩ | ⟨n2, y2, tb2, b0, b1, b2, b3, b4, b5, b6, b7, rfl, rfl⟩
    · have hta := htr _ _ a1 a3
      first | exact absurd ⟨(csI a0 (by omega) (by omega)), a2⟩ b0 | omega
    · have hta := htr _ _ a1 a3
      obtain rfl : n1 = n2 := lN_2 (a0.symm.trans b0) (by omega) (by omega)
      exact nomatch (a3.symm.trans b3)
    · have hta := htr _ _ a1 a3
      have htb := htr _ _ b1 b3
      obtain rfl : n1 = n2 := lN_2 (a0.symm.trans b0) (by omega) (by omega)
      cases a3.symm.trans b3
      first | exact absurd ⟨a4, a5⟩ b4 | omega
    · have hta := htr _ _ a1 a3
      have htb := htr _ _ b1 b3
      obtain rfl : n1 = n2 := lN_2 (a0.symm.trans b0) (by omega) (by omega)
      cases a3.symm.trans b3
      exact ⟨rfl, rfl⟩
    · have hta := htr _ _ a1 a3
      have htb := htr _ _ b1 b4
      obtain rfl : n1 = n2 := lN_2 (a0.symm.trans b0) (by omega) (by omega)
      cases a3.symm.trans b4
      first | exact absurd b7 a6 | omega
  · rcases h2 with ⟨b0, rfl, rfl⟩ | ⟨n2, b0, b1, b2, b3, rfl, rfl⟩ | ⟨n2, y2, b0, b1, b2, b3, b4, rfl, rfl⟩ | ⟨n2, y2, b0, b1, b2, b3, b4, b5, b6, rfl, rfl⟩ | ⟨n2, y2, tb2, b0, b1, b2, b3, b4, b5, b6, b7, rfl, rfl⟩
    · have hta := htr _ _ a1 a4
      first | exact absurd ⟨(csI a0 (by omega) (by omega)), (csI a2 (by omega) (by omega))⟩ b0 | omega
    · have hta := htr _ _ a1 a4
      obtain rfl : n1 = n2 := lN_2 (a0.symm.trans b0) (by omega) (by omega)
      exact nomatch (a4.symm.trans b3)
    · have hta := htr _ _ a1 a4
      have htb := htr _ _ b1 b3
      obtain rfl : n1 = n2 := lN_2 (a0.symm.trans b0) (by omega) (by omega)
      cases a4.symm.trans b3
      first | exact absurd ⟨a5, a6⟩ b4 | omega
    · have hta := htr _ _ a1 a4
      have htb := htr _ _ b1 b3
      obtain rfl : n1 = n2 := lN_2 (a0.symm.trans b0) (by omega) (by omega)
      cases a4.symm.trans b3
      first | exact absurd a7 b6 | omega
    · have hta := htr _ _ a1 a4
      have htb := htr _ _ b1 b4
      obtain rfl : n1 = n2 := lN_2 (a0.symm.trans b0) (by omega) (by omega)
      obtain rfl : tb1 = tb2 := lN_2 (a2.symm.trans b2) (by omega) (by omega)
      cases a4.symm.trans b4
      exact ⟨rfl, rfl⟩
def J_backBy (x : Int32) (xt : Int32) (xi : Int32) (s : cs_S) (o : Option Value) (s' : cs_S) : Prop := match s with
  | ((tp, bt), (fk, fp), v, (mo, ni, bs), U, im, tr) => (¬ (cs_in x 4 ∧ cs_in xt (ln_tb (rd_w v))) ∧ o = some (.int (-2)) ∧ s' = ((tp, bt), (fk, fp), v, (mo, ni, bs), U, im, tr)) ∨ (∃ n, x = nI n ∧ n < 4 ∧ cs_in xt (ln_tb (rd_w v)) ∧ tr n = none ∧ o = some (.int (-6)) ∧ s' = ((tp, bt), (fk, fp), v, (mo, ni, bs), U, im, tr)) ∨ (∃ n y, x = nI n ∧ n < 4 ∧ cs_in xt (ln_tb (rd_w v)) ∧ tr n = some y ∧ ¬ (1 ≤ y.2.length ∧ y.2.length ≤ 6) ∧ o = some (.int (-4)) ∧ s' = ((tp, bt), (fk, fp), v, (mo, ni, bs), U, im, tr)) ∨ (∃ n y, x = nI n ∧ n < 4 ∧ cs_in xt (ln_tb (rd_w v)) ∧ tr n = some y ∧ 1 ≤ y.2.length ∧ y.2.length ≤ 6 ∧ ¬ cs_wd y.2 ∧ o = some (.int (-3)) ∧ s' = ((tp, bt), (fk, fp), v, (mo, ni, bs), U, im, tr)) ∨ (∃ n y, x = nI n ∧ n < 4 ∧ cs_in xt (ln_tb (rd_w v)) ∧ tr n = some y ∧ 1 ≤ y.2.length ∧ y.2.length ≤ 6 ∧ cs_wd y.2 ∧ xi < 0 ∧ o = some (.int (-3)) ∧ s' = ((tp, bt), (fk, fp), v, (mo, ni, bs), U, im, tr)) ∨ (∃ n y tb i, x = nI n ∧ n < 4 ∧ xt = nI tb ∧ tb < ln_tb (rd_w v) ∧ tr n = some y ∧ 1 ≤ y.2.length ∧ y.2.length ≤ 6 ∧ cs_wd y.2 ∧ xi = nI i ∧ i < 2 ^ 31 ∧ o = some (.int (ln_opt (fl_go (rd_w v) tb (cs_g y.2) y.2.length 7 0 i))) ∧ s' = ((tp, bt), (fk, fp), v, (mo, ni, bs), U, im, tr))
theorem V_backBy {x : Int32} {xt : Int32} {xi : Int32} {s s' : cs_S} {o : Option Value} (h : J_backBy x xt xi s o s') : ∃ y : Int32, o = some (.int y) := by
  obtain ⟨⟨tp, bt⟩, ⟨fk, fp⟩, v, ⟨mo, ni, bs⟩, U, im, tr⟩ := s
  rcases h with ⟨-, rfl, -⟩ | ⟨_, -, -, -, -, rfl, -⟩ | ⟨_, _, -, -, -, -, -, rfl, -⟩ | ⟨_, _, -, -, -, -, -, -, -, rfl, -⟩ | ⟨_, _, -, -, -, -, -, -, -, -, rfl, -⟩ | ⟨_, _, _, _, -, -, -, -, -, -, -, -, -, -, rfl, -⟩
  · exact ⟨_, rfl⟩
  · exact ⟨_, rfl⟩
  · exact ⟨_, rfl⟩
  · exact ⟨_, rfl⟩
  · exact ⟨_, rfl⟩
  · exact ⟨_, rfl⟩
theorem P_backBy {d K : Nat} {x : Int32} {xt : Int32} {xi : Int32} {s : cs_S} {hp : az_Hp} (hd : 80 ≤ d) (hC : cs hp s K) : az_M mX11_backBy d 0 0 [.ref 0, .int x, .int xt, .int xi] hp (fun o h' => ∃ s', J_backBy x xt xi s o s' ∧ cs h' s' K ∧ cs_f hp h') := by
  obtain ⟨⟨tp, bt⟩, ⟨fk, fp⟩, v, ⟨mo, ni, bs⟩, U, im, tr⟩ := s
  exact p_backBy (by omega) hC (fun c0 => ⟨_, Or.inl ⟨c0, rfl, rfl⟩, hC, cs_f.rf⟩) (fun v0_ c0 c1 c2 c3 => ⟨_, Or.inr (Or.inl ⟨v0_, c0, c1, c2, c3, rfl, rfl⟩), hC, cs_f.rf⟩) (fun v0_ v1_ c0 c1 c2 c3 c4 => ⟨_, Or.inr (Or.inr (Or.inl ⟨v0_, v1_, c0, c1, c2, c3, c4, rfl, rfl⟩)), hC, cs_f.rf⟩) (fun v0_ v1_ c0 c1 c2 c3 c4 c5 c6 => ⟨_, Or.inr (Or.inr (Or.inr (Or.inl ⟨v0_, v1_, c0, c1, c2, c3, c4, c5, c6, rfl, rfl⟩))), hC, cs_f.rf⟩) (fun v0_ v1_ c0 c1 c2 c3 c4 c5 c6 c7 => ⟨_, Or.inr (Or.inr (Or.inr (Or.inr (Or.inl ⟨v0_, v1_, c0, c1, c2, c3, c4, c5, c6, c7, rfl, rfl⟩)))), hC, cs_f.rf⟩) (fun v0_ v1_ v2_ v3_ c0 c1 c2 c3 c4 c5 c6 c7 c8 c9 h1 e1 e2 => ⟨_, Or.inr (Or.inr (Or.inr (Or.inr (Or.inr ⟨v0_, v1_, v2_, v3_, c0, c1, c2, c3, c4, c5, c6, c7, c8, c9, rfl, rfl⟩)))), e1, e2⟩)
theorem Q_backBy {d : Nat} {x : Int32} {xt : Int32} {xi : Int32} {s : cs_S} {hp : az_Hp} (hd : 80 ≤ d) (hok : cs_ok s) (hM : mm hp s) : az_M mX12_backBy d 0 0 [.ref 64, .int x, .int xt, .int xi] hp (fun o h' => ∃ s', J_backBy x xt xi s o s' ∧ mm h' s' ∧ az_fr hp h' 64 93) := by
  obtain ⟨⟨tp, bt⟩, ⟨fk, fp⟩, v, ⟨mo, ni, bs⟩, U, im, tr⟩ := s
  exact q_backBy (by omega) hok hM (fun c0 h1 e1 e2 => ⟨_, Or.inl ⟨c0, rfl, rfl⟩, e1, e2⟩) (fun v0_ c0 c1 c2 c3 h1 e1 e2 => ⟨_, Or.inr (Or.inl ⟨v0_, c0, c1, c2, c3, rfl, rfl⟩), e1, e2⟩) (fun v0_ v1_ c0 c1 c2 c3 c4 h1 e1 e2 => ⟨_, Or.inr (Or.inr (Or.inl ⟨v0_, v1_, c0, c1, c2, c3, c4, rfl, rfl⟩)), e1, e2⟩) (fun v0_ v1_ c0 c1 c2 c3 c4 c5 c6 h1 e1 e2 => ⟨_, Or.inr (Or.inr (Or.inr (Or.inl ⟨v0_, v1_, c0, c1, c2, c3, c4, c5, c6, rfl, rfl⟩))), e1, e2⟩) (fun v0_ v1_ c0 c1 c2 c3 c4 c5 c6 c7 h1 e1 e2 => ⟨_, Or.inr (Or.inr (Or.inr (Or.inr (Or.inl ⟨v0_, v1_, c0, c1, c2, c3, c4, c5, c6, c7, rfl, rfl⟩)))), e1, e2⟩) (fun v0_ v1_ v2_ v3_ c0 c1 c2 c3 c4 c5 c6 c7 c8 c9 h1 e1 e2 => ⟨_, Or.inr (Or.inr (Or.inr (Or.inr (Or.inr ⟨v0_, v1_, v2_, v3_, c0, c1, c2, c3, c4, c5, c6, c7, c8, c9, rfl, rfl⟩)))), e1, e2⟩)
theorem D_backBy {x : Int32} {xt : Int32} {xi : Int32} {s s1 s2 : cs_S} {o1 o2 : Option Value} (hok : cs_ok s) (htr : ∀ n y, n < 4 → s.2.2.2.2.2.2 n = some y → y.2.length ≤ 40) (h1 : J_backBy x xt xi s o1 s1) (h2 : J_backBy x xt xi s o2 s2) : o1 = o2 ∧ s1 = s2 := by
  obtain ⟨⟨tp, bt⟩, ⟨fk, fp⟩, v, ⟨mo, ni, bs⟩, U, im, tr⟩ := s
  have w0 : tp ≤ 900 := hok.1
  have w1 : ln_tb (rd_w v) ≤ 3 := hok.2.2.1.1.2.1
  have w2 : (ln_str (rd_w v) bs).length ≤ 1000000000000 := (show ln_ba (rd_w v) bs from hok.2.2.2.1).b.2.2
  have w3 : U.length ≤ 10 := hok.2.2.2.2.1
  have htr : ∀ n y, n < 4 → tr n = some y → y.2.length ≤ 40 := htr
  rcases h1 with ⟨a0, rfl, rfl⟩ | ⟨n1, a0, a1, a2, a3, rfl, rfl⟩ | ⟨n1, y1, a0, a1, a2, a3, a4, rfl, rfl⟩ | ⟨n1, y1, a0, a1, a2, a3, a4, a5, a6, rfl, rfl⟩ | ⟨n1, y1, a0, a1, a2, a3, a4, a5, a6, a7, rfl, rfl⟩ | ⟨n1, y1, tb1, i1, a0, a1, a2, a3, a4, a5, a6, a7, a8, a9, rfl, rfl⟩
  · rcases h2 with ⟨b0, rfl, rfl⟩ | ⟨n2, b0, b1, b2, b3, rfl, rfl⟩ | ⟨n2, y2, b0, b1, b2, b3, b4, rfl, rfl⟩ | ⟨n2, y2, b0, b1, b2, b3, b4, b5, b6, rfl, rfl⟩ | ⟨n2, y2, b0, b1, b2, b3, b4, b5, b6, b7, rfl, rfl⟩ | ⟨n2, y2, tb2, i2, b0, b1, b2, b3, b4, b5, b6, b7, b8, b9, rfl, rfl⟩
    · exact ⟨rfl, rfl⟩
    · first | exact absurd ⟨(csI b0 (by omega) (by omega)), b2⟩ a0 | omega
    · have htb := htr _ _ b1 b3
      first | exact absurd ⟨(csI b0 (by omega) (by omega)), b2⟩ a0 | omega
    · have htb := htr _ _ b1 b3
      first | exact absurd ⟨(csI b0 (by omega) (by omega)), b2⟩ a0 | omega
    · have htb := htr _ _ b1 b3
      first | exact absurd ⟨(csI b0 (by omega) (by omega)), b2⟩ a0 | omega
    · have htb := htr _ _ b1 b4
      first | exact absurd ⟨(csI b0 (by omega) (by omega)), (csI b2 (by omega) (by omega))⟩ a0 | omega
  · rcases h2 with ⟨b0, rfl, rfl⟩ | ⟨n2, b0, b1, b2, b3, rfl, rfl⟩ | ⟨n2, y2, b0, b1, b2, b3, b4, rfl, rfl⟩ | ⟨n2, y2, b0, b1, b2, b3, b4, b5, b6, rfl, rfl⟩ | ⟨n2, y2, b0, b1, b2, b3, b4, b5, b6, b7, rfl, rfl⟩ | ⟨n2, y2, tb2, i2, b0, b1, b2, b3, b4, b5, b6, b7, b8, b9, rfl, rfl⟩
    · first | exact absurd ⟨(csI a0 (by omega) (by omega)), a2⟩ b0 | omega
    · obtain rfl : n1 = n2 := lN_2 (a0.symm.trans b0) (by omega) (by omega)
      exact ⟨rfl, rfl⟩
    · have htb := htr _ _ b1 b3
      obtain rfl : n1 = n2 := lN_2 (a0.symm.trans b0) (by omega) (by omega)
      exact nomatch (a3.symm.trans b3)
    · have htb := htr _ _ b1 b3
      obtain rfl : n1 = n2 := lN_2 (a0.symm.trans b0) (by omega) (by omega)
      exact nomatch (a3.symm.trans b3)
    · have htb := htr _ _ b1 b3
      obtain rfl : n1 = n2 := lN_2 (a0.symm.trans b0) (by omega) (by omega)
      exact nomatch (a3.symm.trans b3)
    · have htb := htr _ _ b1 b4
      obtain rfl : n1 = n2 := lN_2 (a0.symm.trans b0) (by omega) (by omega)
      exact nomatch (a3.symm.trans b4)
  · rcases h2 with ⟨b0, rfl, rfl⟩ | ⟨n2, b0, b1, b2, b3, rfl, rfl⟩ | ⟨n2, y2, b0, b1, b2, b3, b4, rfl, rfl⟩ | ⟨n2, y2, b0, b1, b2, b3, b4, b5, b6, rfl, rfl⟩ | ⟨n2, y2, b0, b1, b2, b3, b4, b5, b6, b7, rfl, rfl⟩ | ⟨n2, y2, tb2, i2, b0, b1, b2, b3, b4, b5, b6, b7, b8, b9, rfl, rfl⟩
    · have hta := htr _ _ a1 a3
      first | exact absurd ⟨(csI a0 (by omega) (by omega)), a2⟩ b0 | omega
    · have hta := htr _ _ a1 a3
      obtain rfl : n1 = n2 := lN_2 (a0.symm.trans b0) (by omega) (by omega)
      exact nomatch (a3.symm.trans b3)
    · have hta := htr _ _ a1 a3
      have htb := htr _ _ b1 b3
      obtain rfl : n1 = n2 := lN_2 (a0.symm.trans b0) (by omega) (by omega)
      cases a3.symm.trans b3
      exact ⟨rfl, rfl⟩
    · have hta := htr _ _ a1 a3
      have htb := htr _ _ b1 b3
      obtain rfl : n1 = n2 := lN_2 (a0.symm.trans b0) (by omega) (by omega)
      cases a3.symm.trans b3
      first | exact absurd ⟨b4, b5⟩ a4 | omega
    · have hta := htr _ _ a1 a3
      have htb := htr _ _ b1 b3
      obtain rfl : n1 = n2 := lN_2 (a0.symm.trans b0) (by omega) (by omega)
      cases a3.symm.trans b3
      first | exact absurd ⟨b4, b5⟩ a4 | omega
    · have hta := htr _ _ a1 a3
      have htb := htr _ _ b1 b4
      obtain rfl : n1 = n2 := lN_2 (a0.symm.trans b0) (by omega) (by omega)
      cases a3.symm.trans b4
      first | exact absurd ⟨b5, b6⟩ a4 | omega
  · rcases h2 with ⟨b0, rfl, rfl⟩ | ⟨n2, b0, b1, b2, b3, rfl, rfl⟩ | ⟨n2, y2, b0, b1, b2, b3, b4, rfl, rfl⟩ | ⟨n2, y2, b0, b1, b2, b3, b4, b5, b6, rfl, rfl⟩ | ⟨n2, y2, b0, b1, b2, b3, b4, b5, b6, b7, rfl, rfl⟩ | ⟨n2, y2, tb2, i2, b0, b1, b2, b3, b4, b5, b6, b7, b8, b9, rfl, rfl⟩
    · have hta := htr _ _ a1 a3
      first | exact absurd ⟨(csI a0 (by omega) (by omega)), a2⟩ b0 | omega
    · have hta := htr _ _ a1 a3
      obtain rfl : n1 = n2 := lN_2 (a0.symm.trans b0) (by omega) (by omega)
      exact nomatch (a3.symm.trans b3)
    · have hta := htr _ _ a1 a3
      have htb := htr _ _ b1 b3
      obtain rfl : n1 = n2 := lN_2 (a0.symm.trans b0) (by omega) (by omega)
      cases a3.symm.trans b3
      first | exact absurd ⟨a4, a5⟩ b4 | omega
    · have hta := htr _ _ a1 a3
      have htb := htr _ _ b1 b3
      obtain rfl : n1 = n2 := lN_2 (a0.symm.trans b0) (by omega) (by omega)
      cases a3.symm.trans b3
      exact ⟨rfl, rfl⟩
    · have hta := htr _ _ a1 a3
      have htb := htr _ _ b1 b3
      obtain rfl : n1 = n2 := lN_2 (a0.symm.trans b0) (by omega) (by omega)
      cases a3.symm.trans b3
      first | exact absurd b6 a6 | omega
    · have hta := htr _ _ a1 a3
      have htb := htr _ _ b1 b4
      obtain rfl : n1 = n2 := lN_2 (a0.symm.trans b0) (by omega) (by omega)
      cases a3.symm.trans b4
      first | exact absurd b7 a6 | omega
  · rcases h2 with ⟨b0, rfl, rfl⟩ | ⟨n2, b0, b1, b2, b3, rfl, rfl⟩ | ⟨n2, y2, b0, b1, b2, b3, b4, rfl, rfl⟩ | ⟨n2, y2, b0, b1, b2, b3, b4, b5, b6, rfl, rfl⟩ | ⟨n2, y2, b0, b1, b2, b3, b4, b5, b6, b7, rfl, rfl⟩ | ⟨n2, y2, tb2, i2, b0, b1, b2, b3, b4, b5, b6, b7, b8, b9, rfl, rfl⟩
    · have hta := htr _ _ a1 a3
      first | exact absurd ⟨(csI a0 (by omega) (by omega)), a2⟩ b0 | omega
    · have hta := htr _ _ a1 a3
      obtain rfl : n1 = n2 := lN_2 (a0.symm.trans b0) (by omega) (by omega)
      exact nomatch (a3.symm.trans b3)
    · have hta := htr _ _ a1 a3
      have htb := htr _ _ b1 b3
      obtain rfl : n1 = n2 := lN_2 (a0.symm.trans b0) (by omega) (by omega)
      cases a3.symm.trans b3
      first | exact absurd ⟨a4, a5⟩ b4 | omega
    · have hta := htr _ _ a1 a3
      have htb := htr _ _ b1 b3
      obtain rfl : n1 = n2 := lN_2 (a0.symm.trans b0) (by omega) (by omega)
      cases a3.symm.trans b3
      first | exact absurd a6 b6 | omega
    · have hta := htr _ _ a1 a3
      have htb := htr _ _ b1 b3
      obtain rfl : n1 = n2 := lN_2 (a0.symm.trans b0) (by omega) (by omega)
      cases a3.symm.trans b3
      exact ⟨rfl, rfl⟩
    · have hta := htr _ _ a1 a3
      have htb := htr _ _ b1 b4
      obtain rfl : n1 = n2 := lN_2 (a0.symm.trans b0) (by omega) (by omega)
      cases a3.symm.trans b4
      first | exact absurd a7 (nI_ge9 b8 (by omega)) | omega
  · rcases h2 with ⟨b0, rfl, rfl⟩ | ⟨n2, b0, b1, b2, b3, rfl, rfl⟩ | ⟨n2, y2, b0, b1, b2, b3, b4, rfl, rfl⟩ | ⟨n2, y2, b0, b1, b2, b3, b4, b5, b6, rfl, rfl⟩ | ⟨n2, y2, b0, b1, b2, b3, b4, b5, b6, b7, rfl, rfl⟩ | ⟨n2, y2, tb2, i2, b0, b1, b2, b3, b4, b5, b6, b7, b8, b9, rfl, rfl⟩
    · have hta := htr _ _ a1 a4
      first | exact absurd ⟨(csI a0 (by omega) (by omega)), (csI a2 (by omega) (by omega))⟩ b0 | omega
    · have hta := htr _ _ a1 a4
      obtain rfl : n1 = n2 := lN_2 (a0.symm.trans b0) (by omega) (by omega)
      exact nomatch (a4.symm.trans b3)
    · have hta := htr _ _ a1 a4
      have htb := htr _ _ b1 b3
      obtain rfl : n1 = n2 := lN_2 (a0.symm.trans b0) (by omega) (by omega)
      cases a4.symm.trans b3
      first | exact absurd ⟨a5, a6⟩ b4 | omega
    · have hta := htr _ _ a1 a4
      have htb := htr _ _ b1 b3
      obtain rfl : n1 = n2 := lN_2 (a0.symm.trans b0) (by omega) (by omega)
      cases a4.symm.trans b3
      first | exact absurd a7 b6 | omega
    · have hta := htr _ _ a1 a4
      have htb := htr _ _ b1 b3
      obtain rfl : n1 = n2 := lN_2 (a0.symm.trans b0) (by omega) (by omega)
      cases a4.symm.trans b3
      first | exact absurd b7 (nI_ge9 a8 (by omega)) | omega
    · have hta := htr _ _ a1 a4
      have htb := htr _ _ b1 b4
      obtain rfl : n1 = n2 := lN_2 (a0.symm.trans b0) (by omega) (by omega)
      obtain rfl : tb1 = tb2 := lN_2 (a2.symm.trans b2) (by omega) (by omega)
      obtain rfl : i1 = i2 := lN_2 (a8.symm.trans b8) (by omega) (by omega)
      cases a4.symm.trans b4
      exact ⟨rfl, rfl⟩
def J_fate (xt : Int32) (xl : Int32) (s : cs_S) (o : Option Value) (s' : cs_S) : Prop := match s with
  | ((tp, bt), (fk, fp), v, (mo, ni, bs), U, im, tr) => (¬ (cs_in xt (ln_tb (rd_w v)) ∧ cs_in xl 6) ∧ o = some (.int (-2)) ∧ s' = ((tp, bt), (fk, fp), v, (mo, ni, bs), U, im, tr)) ∨ (∃ tn lt, xt = nI tn ∧ tn < ln_tb (rd_w v) ∧ xl = nI lt ∧ lt < 6 ∧ o = some (.int (nI (kn_ft (rd_w v) (kn_al (kn_0 (rd_w v) tn) 6) (kc_al (kn_al (kn_0 (rd_w v) tn) 6) 6) tn lt))) ∧ s' = ((tp, bt), (fk, fp), v, (mo, ni, bs), U, im, tr))
theorem V_fate {xt : Int32} {xl : Int32} {s s' : cs_S} {o : Option Value} (h : J_fate xt xl s o s') : ∃ y : Int32, o = some (.int y) := by
  obtain ⟨⟨tp, bt⟩, ⟨fk, fp⟩, v, ⟨mo, ni, bs⟩, U, im, tr⟩ := s
  rcases h with ⟨-, rfl, -⟩ | ⟨_, _, -, -, -, -, rfl, -⟩
  · exact ⟨_, rfl⟩
  · exact ⟨_, rfl⟩
theorem P_fate {d K : Nat} {xt : Int32} {xl : Int32} {s : cs_S} {hp : az_Hp} (hd : 80 ≤ d) (hC : cs hp s K) : az_M mX11_fate d 0 0 [.ref 0, .int xt, .int xl] hp (fun o h' => ∃ s', J_fate xt xl s o s' ∧ cs h' s' K ∧ cs_f hp h') := by
  obtain ⟨⟨tp, bt⟩, ⟨fk, fp⟩, v, ⟨mo, ni, bs⟩, U, im, tr⟩ := s
  exact p_fate (by omega) hC (fun c0 => ⟨_, Or.inl ⟨c0, rfl, rfl⟩, hC, cs_f.rf⟩) (fun v0_ v1_ c0 c1 c2 c3 h1 e1 e2 => ⟨_, Or.inr ⟨v0_, v1_, c0, c1, c2, c3, rfl, rfl⟩, e1, e2⟩)
theorem Q_fate {d : Nat} {xt : Int32} {xl : Int32} {s : cs_S} {hp : az_Hp} (hd : 80 ≤ d) (hok : cs_ok s) (hM : mm hp s) : az_M mX12_fate d 0 0 [.ref 64, .int xt, .int xl] hp (fun o h' => ∃ s', J_fate xt xl s o s' ∧ mm h' s' ∧ az_fr hp h' 64 93) := by
  obtain ⟨⟨tp, bt⟩, ⟨fk, fp⟩, v, ⟨mo, ni, bs⟩, U, im, tr⟩ := s
  exact q_fate (by omega) hok hM (fun c0 h1 e1 e2 => ⟨_, Or.inl ⟨c0, rfl, rfl⟩, e1, e2⟩) (fun v0_ v1_ c0 c1 c2 c3 h1 e1 e2 => ⟨_, Or.inr ⟨v0_, v1_, c0, c1, c2, c3, rfl, rfl⟩, e1, e2⟩)
theorem D_fate {xt : Int32} {xl : Int32} {s s1 s2 : cs_S} {o1 o2 : Option Value} (hok : cs_ok s) (htr : ∀ n y, n < 4 → s.2.2.2.2.2.2 n = some y → y.2.length ≤ 40) (h1 : J_fate xt xl s o1 s1) (h2 : J_fate xt xl s o2 s2) : o1 = o2 ∧ s1 = s2 := by
  obtain ⟨⟨tp, bt⟩, ⟨fk, fp⟩, v, ⟨mo, ni, bs⟩, U, im, tr⟩ := s
  have w0 : tp ≤ 900 := hok.1
  have w1 : ln_tb (rd_w v) ≤ 3 := hok.2.2.1.1.2.1
  have w2 : (ln_str (rd_w v) bs).length ≤ 1000000000000 := (show ln_ba (rd_w v) bs from hok.2.2.2.1).b.2.2
  have w3 : U.length ≤ 10 := hok.2.2.2.2.1
  have htr : ∀ n y, n < 4 → tr n = some y → y.2.length ≤ 40 := htr
  rcases h1 with ⟨a0, rfl, rfl⟩ | ⟨tn1, lt1, a0, a1, a2, a3, rfl, rfl⟩
  · rcases h2 with ⟨b0, rfl, rfl⟩ | ⟨tn2, lt2, b0, b1, b2, b3, rfl, rfl⟩
    · exact ⟨rfl, rfl⟩
    · first | exact absurd ⟨(csI b0 (by omega) (by omega)), (csI b2 (by omega) (by omega))⟩ a0 | omega
  · rcases h2 with ⟨b0, rfl, rfl⟩ | ⟨tn2, lt2, b0, b1, b2, b3, rfl, rfl⟩
    · first | exact absurd ⟨(csI a0 (by omega) (by omega)), (csI a2 (by omega) (by omega))⟩ b0 | omega
    · obtain rfl : tn1 = tn2 := lN_2 (a0.symm.trans b0) (by omega) (by omega)
      obtain rfl : lt1 = lt2 := lN_2 (a2.symm.trans b2) (by omega) (by omega)
      exact ⟨rfl, rfl⟩
def J_degree (xt : Int32) (xl : Int32) (s : cs_S) (o : Option Value) (s' : cs_S) : Prop := match s with
  | ((tp, bt), (fk, fp), v, (mo, ni, bs), U, im, tr) => (¬ (cs_in xt (ln_tb (rd_w v)) ∧ cs_in xl 6) ∧ o = some (.int (-2)) ∧ s' = ((tp, bt), (fk, fp), v, (mo, ni, bs), U, im, tr)) ∨ (∃ tn lt, xt = nI tn ∧ tn < ln_tb (rd_w v) ∧ xl = nI lt ∧ lt < 6 ∧ o = some (.int (if (kn_ft (rd_w v) (kn_al (kn_0 (rd_w v) tn) 6) (kc_al (kn_al (kn_0 (rd_w v) tn) 6) 6) tn lt) = 2 then nI (kn_cf (kn_al (kn_0 (rd_w v) tn) 6) (kc_al (kn_al (kn_0 (rd_w v) tn) 6) 6) lt 6 - 1) else (-1))) ∧ s' = ((tp, bt), (fk, fp), v, (mo, ni, bs), U, im, tr))
theorem V_degree {xt : Int32} {xl : Int32} {s s' : cs_S} {o : Option Value} (h : J_degree xt xl s o s') : ∃ y : Int32, o = some (.int y) := by
  obtain ⟨⟨tp, bt⟩, ⟨fk, fp⟩, v, ⟨mo, ni, bs⟩, U, im, tr⟩ := s
  rcases h with ⟨-, rfl, -⟩ | ⟨_, _, -, -, -, -, rfl, -⟩
  · exact ⟨_, rfl⟩
  · exact ⟨_, rfl⟩
theorem P_degree {d K : Nat} {xt : Int32} {xl : Int32} {s : cs_S} {hp : az_Hp} (hd : 80 ≤ d) (hC : cs hp s K) : az_M mX11_degree d 0 0 [.ref 0, .int xt, .int xl] hp (fun o h' => ∃ s', J_degree xt xl s o s' ∧ cs h' s' K ∧ cs_f hp h') := by
  obtain ⟨⟨tp, bt⟩, ⟨fk, fp⟩, v, ⟨mo, ni, bs⟩, U, im, tr⟩ := s
  exact p_degree (by omega) hC (fun c0 => ⟨_, Or.inl ⟨c0, rfl, rfl⟩, hC, cs_f.rf⟩) (fun v0_ v1_ c0 c1 c2 c3 h1 e1 e2 => ⟨_, Or.inr ⟨v0_, v1_, c0, c1, c2, c3, rfl, rfl⟩, e1, e2⟩)
theorem Q_degree {d : Nat} {xt : Int32} {xl : Int32} {s : cs_S} {hp : az_Hp} (hd : 80 ≤ d) (hok : cs_ok s) (hM : mm hp s) : az_M mX12_degree d 0 0 [.ref 64, .int xt, .int xl] hp (fun o h' => ∃ s', J_degree xt xl s o s' ∧ mm h' s' ∧ az_fr hp h' 64 93) := by
  obtain ⟨⟨tp, bt⟩, ⟨fk, fp⟩, v, ⟨mo, ni, bs⟩, U, im, tr⟩ := s
  exact q_degree (by omega) hok hM (fun c0 h1 e1 e2 => ⟨_, Or.inl ⟨c0, rfl, rfl⟩, e1, e2⟩) (fun v0_ v1_ c0 c1 c2 c3 h1 e1 e2 => ⟨_, Or.inr ⟨v0_, v1_, c0, c1, c2, c3, rfl, rfl⟩, e1, e2⟩)
theorem D_degree {xt : Int32} {xl : Int32} {s s1 s2 : cs_S} {o1 o2 : Option Value} (hok : cs_ok s) (htr : ∀ n y, n < 4 → s.2.2.2.2.2.2 n = some y → y.2.length ≤ 40) (h1 : J_degree xt xl s o1 s1) (h2 : J_degree xt xl s o2 s2) : o1 = o2 ∧ s1 = s2 := by
  obtain ⟨⟨tp, bt⟩, ⟨fk, fp⟩, v, ⟨mo, ni, bs⟩, U, im, tr⟩ := s
  have w0 : tp ≤ 900 := hok.1
  have w1 : ln_tb (rd_w v) ≤ 3 := hok.2.2.1.1.2.1
  have w2 : (ln_str (rd_w v) bs).length ≤ 1000000000000 := (show ln_ba (rd_w v) bs from hok.2.2.2.1).b.2.2
  have w3 : U.length ≤ 10 := hok.2.2.2.2.1
  have htr : ∀ n y, n < 4 → tr n = some y → y.2.length ≤ 40 := htr
  rcases h1 with ⟨a0, rfl, rfl⟩ | ⟨tn1, lt1, a0, a1, a2, a3, rfl, rfl⟩
  · rcases h2 with ⟨b0, rfl, rfl⟩ | ⟨tn2, lt2, b0, b1, b2, b3, rfl, rfl⟩
    · exact ⟨rfl, rfl⟩
    · first | exact absurd ⟨(csI b0 (by omega) (by omega)), (csI b2 (by omega) (by omega))⟩ a0 | omega
  · rcases h2 with ⟨b0, rfl, rfl⟩ | ⟨tn2, lt2, b0, b1, b2, b3, rfl, rfl⟩
    · first | exact absurd ⟨(csI a0 (by omega) (by omega)), (csI a2 (by omega) (by omega))⟩ b0 | omega
    · obtain rfl : tn1 = tn2 := lN_2 (a0.symm.trans b0) (by omega) (by omega)
      obtain rfl : lt1 = lt2 := lN_2 (a2.symm.trans b2) (by omega) (by omega)
      exact ⟨rfl, rfl⟩
