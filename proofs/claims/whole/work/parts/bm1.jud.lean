/-! What each call answers: one judgement for the class and the model; there is one answer -/
theorem csI {x : Int32} {n k : Nat} (e : x = nI n) (h : n < k) (hk : k < 2 ^ 31) : cs_in x k := by
  rw [e]
  exact (cs_in_n h hk).1
theorem nI_ge9 {x : Int32} {n : Nat} (e : x = nI n) (hn : n < 2 ^ 31) : ¬ x < 0 := by
  rw [e, Int32.lt_iff_toInt_lt, nI_toI hn]
  have q4 : (0 : Int32).toInt = 0 := by decide
  omega
theorem lN_ge {x : Int64} {n m : Nat} (e : x = lN n) (hn : n < 2 ^ 63) (hm : m ≤ n) : ¬ x < lN m := by
  rw [e, lN_ltN hn (by omega)]
  omega
theorem lN_J {a b : Nat} (h : lN a = lN b) (ha : a < 2 ^ 63) (hb : b < 2 ^ 63) : a = b := (lN_eqN ha hb).mp h
theorem mm.tl {h : az_Hp} {s : cs_S} (H : mm h s) : ∀ n y, n < 4 → s.2.2.2.2.2.2 n = some y → y.2.length ≤ 40 := by
  obtain ⟨sc, A, tf, hI, rs, rm, nu, a1, a2, a3, a4, a5, a6, a7, a8, a9, a10, a11, a12, a13, a14⟩ := H
  intro n y hn hy
  have g := a13 n hn
  rw [hy] at g
  exact g.2.2.2.1
def J_feed (xa : Int32) (xb : Int32) (xc : Int32) (xd : Int32) (xe : Int32) (s : cs_S) (o : Option Value) (s' : cs_S) : Prop := match s with
  | ((tp, bt), (fk, fp), v, (mo, ni, bs), U, im, tr) => (900 < tp + 20 ∧ o = some (.int (-5)) ∧ s' = ((tp, bt), (fk, fp), v, (mo, ni, bs), U, im, tr)) ∨ (tp + 20 ≤ 900 ∧ o = some (.int (nI (tp + 4 + 4 + 4 + 4 + 4))) ∧ s' = ((tp + 4 + 4 + 4 + 4 + 4, (tput (tput (tput (tput (tput bt (tp) xa 4) (tp + 4) xb 4) (tp + 4 + 4) xc 4) (tp + 4 + 4 + 4) xd 4) (tp + 4 + 4 + 4 + 4) xe 4)), (fk, fp), v, (mo, ni, bs), U, im, tr))
theorem V_feed {xa : Int32} {xb : Int32} {xc : Int32} {xd : Int32} {xe : Int32} {s s' : cs_S} {o : Option Value} (h : J_feed xa xb xc xd xe s o s') : ∃ y : Int32, o = some (.int y) := by
  obtain ⟨⟨tp, bt⟩, ⟨fk, fp⟩, v, ⟨mo, ni, bs⟩, U, im, tr⟩ := s
  rcases h with ⟨-, rfl, -⟩ | ⟨-, rfl, -⟩
  · exact ⟨_, rfl⟩
  · exact ⟨_, rfl⟩
theorem P_feed {d K : Nat} {xa : Int32} {xb : Int32} {xc : Int32} {xd : Int32} {xe : Int32} {s : cs_S} {hp : az_Hp} (hd : 80 ≤ d) (hC : cs hp s K) : az_M mX11_feed d 0 0 [.ref 0, .int xa, .int xb, .int xc, .int xd, .int xe] hp (fun o h' => ∃ s', J_feed xa xb xc xd xe s o s' ∧ cs h' s' K ∧ cs_f hp h') := by
  obtain ⟨⟨tp, bt⟩, ⟨fk, fp⟩, v, ⟨mo, ni, bs⟩, U, im, tr⟩ := s
  exact p_feed (by omega) hC (fun c0 => ⟨_, Or.inl ⟨c0, rfl, rfl⟩, hC, cs_f.rf⟩) (fun c0 h1 e1 e2 => ⟨_, Or.inr ⟨c0, rfl, rfl⟩, e1, e2⟩)
theorem Q_feed {d : Nat} {xa : Int32} {xb : Int32} {xc : Int32} {xd : Int32} {xe : Int32} {s : cs_S} {hp : az_Hp} (hd : 80 ≤ d) (hok : cs_ok s) (hM : mm hp s) : az_M mX12_feed d 0 0 [.ref 64, .int xa, .int xb, .int xc, .int xd, .int xe] hp (fun o h' => ∃ s', J_feed xa xb xc xd xe s o s' ∧ mm h' s' ∧ az_fr hp h' 64 93) := by
  obtain ⟨⟨tp, bt⟩, ⟨fk, fp⟩, v, ⟨mo, ni, bs⟩, U, im, tr⟩ := s
  exact q_feed (by omega) hok hM (fun c0 h1 e1 e2 => ⟨_, Or.inl ⟨c0, rfl, rfl⟩, e1, e2⟩) (fun c0 h1 e1 e2 => ⟨_, Or.inr ⟨c0, rfl, rfl⟩, e1, e2⟩)
theorem D_feed {xa : Int32} {xb : Int32} {xc : Int32} {xd : Int32} {xe : Int32} {s s1 s2 : cs_S} {o1 o2 : Option Value} (hok : cs_ok s) (htr : ∀ n y, n < 4 → s.2.2.2.2.2.2 n = some y → y.2.length ≤ 40) (h1 : J_feed xa xb xc xd xe s o1 s1) (h2 : J_feed xa xb xc xd xe s o2 s2) : o1 = o2 ∧ s1 = s2 := by
  obtain ⟨⟨tp, bt⟩, ⟨fk, fp⟩, v, ⟨mo, ni, bs⟩, U, im, tr⟩ := s
  have w0 : tp ≤ 900 := hok.1
  have w1 : ln_tb (rd_w v) ≤ 3 := hok.2.2.1.1.2.1
  have w2 : (ln_str (rd_w v) bs).length ≤ 1000000000000 := (show ln_ba (rd_w v) bs from hok.2.2.2.1).b.2.2
  have w3 : U.length ≤ 10 := hok.2.2.2.2.1
  have htr : ∀ n y, n < 4 → tr n = some y → y.2.length ≤ 40 := htr
  rcases h1 with ⟨a0, rfl, rfl⟩ | ⟨a0, rfl, rfl⟩
  · rcases h2 with ⟨b0, rfl, rfl⟩ | ⟨b0, rfl, rfl⟩
    · exact ⟨rfl, rfl⟩
    · omega
  · rcases h2 with ⟨b0, rfl, rfl⟩ | ⟨b0, rfl, rfl⟩
    · omega
    · exact ⟨rfl, rfl⟩
def J_street (x : Int32) (s : cs_S) (o : Option Value) (s' : cs_S) : Prop := match s with
  | ((tp, bt), (fk, fp), v, (mo, ni, bs), U, im, tr) => ((∀ n, n ≤ tp → x ≠ nI n) ∧ o = some (.int (-3)) ∧ s' = ((tp, bt), (fk, fp), v, (mo, ni, bs), U, im, tr)) ∨ (∃ n f p, x = nI n ∧ n ≤ tp ∧ rd_town bt n = .inr (f, p) ∧ o = some (.int ((-30) - nI f)) ∧ s' = ((0, bt), (f, nI p), v, (mo, ni, bs), U, im, tr)) ∨ (∃ n e v', x = nI n ∧ n ≤ tp ∧ rd_town bt n = .inl (e, v') ∧ o = some (.int (nI (ln_li (rd_w v')))) ∧ s' = ((0, bt), (0, (-1)), v', (ln_mo (rd_w v'), 0, []), [], im, tr))
theorem V_street {x : Int32} {s s' : cs_S} {o : Option Value} (h : J_street x s o s') : ∃ y : Int32, o = some (.int y) := by
  obtain ⟨⟨tp, bt⟩, ⟨fk, fp⟩, v, ⟨mo, ni, bs⟩, U, im, tr⟩ := s
  rcases h with ⟨-, rfl, -⟩ | ⟨_, _, _, -, -, -, rfl, -⟩ | ⟨_, _, _, -, -, -, rfl, -⟩
  · exact ⟨_, rfl⟩
  · exact ⟨_, rfl⟩
  · exact ⟨_, rfl⟩
theorem P_street {d K : Nat} {x : Int32} {s : cs_S} {hp : az_Hp} (hd : 80 ≤ d) (hC : cs hp s K) : az_M mX11_street d 907 1011 [.ref 0, .int x] hp (fun o h' => ∃ s', J_street x s o s' ∧ cs h' s' K ∧ cs_f hp h') := by
  obtain ⟨⟨tp, bt⟩, ⟨fk, fp⟩, v, ⟨mo, ni, bs⟩, U, im, tr⟩ := s
  exact p_street (by omega) hC (fun c0 => ⟨_, Or.inl ⟨c0, rfl, rfl⟩, hC, cs_f.rf⟩) (fun v0_ v1_ v2_ c0 c1 c2 h1 e1 e2 => ⟨_, Or.inr (Or.inl ⟨v0_, v1_, v2_, c0, c1, c2, rfl, rfl⟩), e1, e2⟩) (fun v0_ v1_ v2_ c0 c1 c2 h1 e1 e2 => ⟨_, Or.inr (Or.inr ⟨v0_, v1_, v2_, c0, c1, c2, rfl, rfl⟩), e1, e2⟩)
theorem Q_street {d : Nat} {x : Int32} {s : cs_S} {hp : az_Hp} (hd : 80 ≤ d) (hok : cs_ok s) (hM : mm hp s) : az_M mX12_street d 0 0 [.ref 64, .int x] hp (fun o h' => ∃ s', J_street x s o s' ∧ mm h' s' ∧ az_fr hp h' 64 93) := by
  obtain ⟨⟨tp, bt⟩, ⟨fk, fp⟩, v, ⟨mo, ni, bs⟩, U, im, tr⟩ := s
  exact q_street (by omega) hok hM (fun c0 h1 e1 e2 => ⟨_, Or.inl ⟨c0, rfl, rfl⟩, e1, e2⟩) (fun v0_ v1_ v2_ c0 c1 c2 h1 e1 e2 => ⟨_, Or.inr (Or.inl ⟨v0_, v1_, v2_, c0, c1, c2, rfl, rfl⟩), e1, e2⟩) (fun v0_ v1_ v2_ c0 c1 c2 h1 e1 e2 => ⟨_, Or.inr (Or.inr ⟨v0_, v1_, v2_, c0, c1, c2, rfl, rfl⟩), e1, e2⟩)
theorem D_street {x : Int32} {s s1 s2 : cs_S} {o1 o2 : Option Value} (hok : cs_ok s) (htr : ∀ n y, n < 4 → s.2.2.2.2.2.2 n = some y → y.2.length ≤ 40) (h1 : J_street x s o1 s1) (h2 : J_street x s o2 s2) : o1 = o2 ∧ s1 = s2 := by
  obtain ⟨⟨tp, bt⟩, ⟨fk, fp⟩, v, ⟨mo, ni, bs⟩, U, im, tr⟩ := s
  have w0 : tp ≤ 900 := hok.1
  have w1 : ln_tb (rd_w v) ≤ 3 := hok.2.2.1.1.2.1
  have w2 : (ln_str (rd_w v) bs).length ≤ 1000000000000 := (show ln_ba (rd_w v) bs from hok.2.2.2.1).b.2.2
  have w3 : U.length ≤ 10 := hok.2.2.2.2.1
  have htr : ∀ n y, n < 4 → tr n = some y → y.2.length ≤ 40 := htr
  rcases h1 with ⟨a0, rfl, rfl⟩ | ⟨n1, f1, p1, a0, a1, a2, rfl, rfl⟩ | ⟨n1, e1, vq1, a0, a1, a2, rfl, rfl⟩
  · rcases h2 with ⟨b0, rfl, rfl⟩ | ⟨n2, f2, p2, b0, b1, b2, rfl, rfl⟩ | ⟨n2, e2, vq2, b0, b1, b2, rfl, rfl⟩
    · exact ⟨rfl, rfl⟩
    · first | exact absurd b0 (a0 _ (by omega) ) | omega
    · first | exact absurd b0 (a0 _ (by omega) ) | omega
  · rcases h2 with ⟨b0, rfl, rfl⟩ | ⟨n2, f2, p2, b0, b1, b2, rfl, rfl⟩ | ⟨n2, e2, vq2, b0, b1, b2, rfl, rfl⟩
    · first | exact absurd a0 (b0 _ (by omega) ) | omega
    · obtain rfl : n1 = n2 := lN_2 (a0.symm.trans b0) (by omega) (by omega)
      cases a2.symm.trans b2
      exact ⟨rfl, rfl⟩
    · obtain rfl : n1 = n2 := lN_2 (a0.symm.trans b0) (by omega) (by omega)
      exact nomatch (a2.symm.trans b2)
  · rcases h2 with ⟨b0, rfl, rfl⟩ | ⟨n2, f2, p2, b0, b1, b2, rfl, rfl⟩ | ⟨n2, e2, vq2, b0, b1, b2, rfl, rfl⟩
    · first | exact absurd a0 (b0 _ (by omega) ) | omega
    · obtain rfl : n1 = n2 := lN_2 (a0.symm.trans b0) (by omega) (by omega)
      exact nomatch (a2.symm.trans b2)
    · obtain rfl : n1 = n2 := lN_2 (a0.symm.trans b0) (by omega) (by omega)
      cases a2.symm.trans b2
      exact ⟨rfl, rfl⟩
def J_fault (x : Int32) (s : cs_S) (o : Option Value) (s' : cs_S) : Prop := match s with
  | ((tp, bt), (fk, fp), v, (mo, ni, bs), U, im, tr) => (o = some (.int (cs_fault fk fp x)) ∧ s' = ((tp, bt), (fk, fp), v, (mo, ni, bs), U, im, tr))
theorem V_fault {x : Int32} {s s' : cs_S} {o : Option Value} (h : J_fault x s o s') : ∃ y : Int32, o = some (.int y) := by
  obtain ⟨⟨tp, bt⟩, ⟨fk, fp⟩, v, ⟨mo, ni, bs⟩, U, im, tr⟩ := s
  rcases h with ⟨rfl, -⟩
  · exact ⟨_, rfl⟩
theorem P_fault {d K : Nat} {x : Int32} {s : cs_S} {hp : az_Hp} (hd : 80 ≤ d) (hC : cs hp s K) : az_M mX11_fault d 0 0 [.ref 0, .int x] hp (fun o h' => ∃ s', J_fault x s o s' ∧ cs h' s' K ∧ cs_f hp h') := by
  obtain ⟨⟨tp, bt⟩, ⟨fk, fp⟩, v, ⟨mo, ni, bs⟩, U, im, tr⟩ := s
  exact p_fault hC ⟨_, ⟨rfl, rfl⟩, hC, cs_f.rf⟩
theorem Q_fault {d : Nat} {x : Int32} {s : cs_S} {hp : az_Hp} (hd : 80 ≤ d) (hok : cs_ok s) (hM : mm hp s) : az_M mX12_fault d 0 0 [.ref 64, .int x] hp (fun o h' => ∃ s', J_fault x s o s' ∧ mm h' s' ∧ az_fr hp h' 64 93) := by
  obtain ⟨⟨tp, bt⟩, ⟨fk, fp⟩, v, ⟨mo, ni, bs⟩, U, im, tr⟩ := s
  exact q_fault (by omega) hok hM (fun h1 e1 e2 => ⟨_, ⟨rfl, rfl⟩, e1, e2⟩)
theorem D_fault {x : Int32} {s s1 s2 : cs_S} {o1 o2 : Option Value} (hok : cs_ok s) (htr : ∀ n y, n < 4 → s.2.2.2.2.2.2 n = some y → y.2.length ≤ 40) (h1 : J_fault x s o1 s1) (h2 : J_fault x s o2 s2) : o1 = o2 ∧ s1 = s2 := by
  obtain ⟨⟨tp, bt⟩, ⟨fk, fp⟩, v, ⟨mo, ni, bs⟩, U, im, tr⟩ := s
  rcases h1 with ⟨rfl, rfl⟩
  · rcases h2 with ⟨rfl, rfl⟩
    · exact ⟨rfl, rfl⟩
def J_becomes (xt : Int32) (xl : Int32) (xi : Int32) (s : cs_S) (o : Option Value) (s' : cs_S) : Prop := match s with
  | ((tp, bt), (fk, fp), v, (mo, ni, bs), U, im, tr) => (o = some (.int (cs_becomes (rd_w v) xt xl xi)) ∧ s' = ((tp, bt), (fk, fp), v, (mo, ni, bs), U, im, tr))
theorem V_becomes {xt : Int32} {xl : Int32} {xi : Int32} {s s' : cs_S} {o : Option Value} (h : J_becomes xt xl xi s o s') : ∃ y : Int32, o = some (.int y) := by
  obtain ⟨⟨tp, bt⟩, ⟨fk, fp⟩, v, ⟨mo, ni, bs⟩, U, im, tr⟩ := s
  rcases h with ⟨rfl, -⟩
  · exact ⟨_, rfl⟩
theorem P_becomes {d K : Nat} {xt : Int32} {xl : Int32} {xi : Int32} {s : cs_S} {hp : az_Hp} (hd : 80 ≤ d) (hC : cs hp s K) : az_M mX11_becomes d 0 0 [.ref 0, .int xt, .int xl, .int xi] hp (fun o h' => ∃ s', J_becomes xt xl xi s o s' ∧ cs h' s' K ∧ cs_f hp h') := by
  obtain ⟨⟨tp, bt⟩, ⟨fk, fp⟩, v, ⟨mo, ni, bs⟩, U, im, tr⟩ := s
  exact p_becomes (by omega) hC ⟨_, ⟨rfl, rfl⟩, hC, cs_f.rf⟩
theorem Q_becomes {d : Nat} {xt : Int32} {xl : Int32} {xi : Int32} {s : cs_S} {hp : az_Hp} (hd : 80 ≤ d) (hok : cs_ok s) (hM : mm hp s) : az_M mX12_becomes d 0 0 [.ref 64, .int xt, .int xl, .int xi] hp (fun o h' => ∃ s', J_becomes xt xl xi s o s' ∧ mm h' s' ∧ az_fr hp h' 64 93) := by
  obtain ⟨⟨tp, bt⟩, ⟨fk, fp⟩, v, ⟨mo, ni, bs⟩, U, im, tr⟩ := s
  exact q_becomes (by omega) hok hM (fun h1 e1 e2 => ⟨_, ⟨rfl, rfl⟩, e1, e2⟩)
theorem D_becomes {xt : Int32} {xl : Int32} {xi : Int32} {s s1 s2 : cs_S} {o1 o2 : Option Value} (hok : cs_ok s) (htr : ∀ n y, n < 4 → s.2.2.2.2.2.2 n = some y → y.2.length ≤ 40) (h1 : J_becomes xt xl xi s o1 s1) (h2 : J_becomes xt xl xi s o2 s2) : o1 = o2 ∧ s1 = s2 := by
  obtain ⟨⟨tp, bt⟩, ⟨fk, fp⟩, v, ⟨mo, ni, bs⟩, U, im, tr⟩ := s
  rcases h1 with ⟨rfl, rfl⟩
  · rcases h2 with ⟨rfl, rfl⟩
    · exact ⟨rfl, rfl⟩
def J_picks  (s : cs_S) (o : Option Value) (s' : cs_S) : Prop := match s with
  | ((tp, bt), (fk, fp), v, (mo, ni, bs), U, im, tr) => (o = some (.int (cs_picks v mo ni bs)) ∧ s' = ((tp, bt), (fk, fp), v, (mo, ni, bs), U, im, tr))
theorem V_picks  {s s' : cs_S} {o : Option Value} (h : J_picks  s o s') : ∃ y : Int32, o = some (.int y) := by
  obtain ⟨⟨tp, bt⟩, ⟨fk, fp⟩, v, ⟨mo, ni, bs⟩, U, im, tr⟩ := s
  rcases h with ⟨rfl, -⟩
  · exact ⟨_, rfl⟩
theorem P_picks {d K : Nat}  {s : cs_S} {hp : az_Hp} (hd : 80 ≤ d) (hC : cs hp s K) : az_M mX11_picks d 0 0 [.ref 0] hp (fun o h' => ∃ s', J_picks  s o s' ∧ cs h' s' K ∧ cs_f hp h') := by
  obtain ⟨⟨tp, bt⟩, ⟨fk, fp⟩, v, ⟨mo, ni, bs⟩, U, im, tr⟩ := s
  exact p_picks (by omega) hC (fun h1 e1 e2 => ⟨_, ⟨rfl, rfl⟩, e1, e2⟩)
theorem Q_picks {d : Nat}  {s : cs_S} {hp : az_Hp} (hd : 80 ≤ d) (hok : cs_ok s) (hM : mm hp s) : az_M mX12_picks d 0 0 [.ref 64] hp (fun o h' => ∃ s', J_picks  s o s' ∧ mm h' s' ∧ az_fr hp h' 64 93) := by
  obtain ⟨⟨tp, bt⟩, ⟨fk, fp⟩, v, ⟨mo, ni, bs⟩, U, im, tr⟩ := s
  exact q_picks (by omega) hok hM (fun h1 e1 e2 => ⟨_, ⟨rfl, rfl⟩, e1, e2⟩)
theorem D_picks  {s s1 s2 : cs_S} {o1 o2 : Option Value} (hok : cs_ok s) (htr : ∀ n y, n < 4 → s.2.2.2.2.2.2 n = some y → y.2.length ≤ 40) (h1 : J_picks  s o1 s1) (h2 : J_picks  s o2 s2) : o1 = o2 ∧ s1 = s2 := by
  obtain ⟨⟨tp, bt⟩, ⟨fk, fp⟩, v, ⟨mo, ni, bs⟩, U, im, tr⟩ := s
  rcases h1 with ⟨rfl, rfl⟩
  · rcases h2 with ⟨rfl, rfl⟩
    · exact ⟨rfl, rfl⟩
def J_length  (s : cs_S) (o : Option Value) (s' : cs_S) : Prop := match s with
  | ((tp, bt), (fk, fp), v, (mo, ni, bs), U, im, tr) => (o = some (.long (lN (ln_str (rd_w v) bs).length)) ∧ s' = ((tp, bt), (fk, fp), v, (mo, ni, bs), U, im, tr))
theorem V_length  {s s' : cs_S} {o : Option Value} (h : J_length  s o s') : ∃ y : Int64, o = some (.long y) := by
  obtain ⟨⟨tp, bt⟩, ⟨fk, fp⟩, v, ⟨mo, ni, bs⟩, U, im, tr⟩ := s
  rcases h with ⟨rfl, -⟩
  · exact ⟨_, rfl⟩
theorem P_length {d K : Nat}  {s : cs_S} {hp : az_Hp} (hd : 80 ≤ d) (hC : cs hp s K) : az_M mX11_length d 0 0 [.ref 0] hp (fun o h' => ∃ s', J_length  s o s' ∧ cs h' s' K ∧ cs_f hp h') := by
  obtain ⟨⟨tp, bt⟩, ⟨fk, fp⟩, v, ⟨mo, ni, bs⟩, U, im, tr⟩ := s
  exact p_length hC ⟨_, ⟨rfl, rfl⟩, hC, cs_f.rf⟩
theorem Q_length {d : Nat}  {s : cs_S} {hp : az_Hp} (hd : 80 ≤ d) (hok : cs_ok s) (hM : mm hp s) : az_M mX12_length d 0 0 [.ref 64] hp (fun o h' => ∃ s', J_length  s o s' ∧ mm h' s' ∧ az_fr hp h' 64 93) := by
  obtain ⟨⟨tp, bt⟩, ⟨fk, fp⟩, v, ⟨mo, ni, bs⟩, U, im, tr⟩ := s
  exact q_length (by omega) hok hM (fun h1 e1 e2 => ⟨_, ⟨rfl, rfl⟩, e1, e2⟩)
theorem D_length  {s s1 s2 : cs_S} {o1 o2 : Option Value} (hok : cs_ok s) (htr : ∀ n y, n < 4 → s.2.2.2.2.2.2 n = some y → y.2.length ≤ 40) (h1 : J_length  s o1 s1) (h2 : J_length  s o2 s2) : o1 = o2 ∧ s1 = s2 := by
  obtain ⟨⟨tp, bt⟩, ⟨fk, fp⟩, v, ⟨mo, ni, bs⟩, U, im, tr⟩ := s
  rcases h1 with ⟨rfl, rfl⟩
  · rcases h2 with ⟨rfl, rfl⟩
    · exact ⟨rfl, rfl⟩
def J_letter (x : Int64) (s : cs_S) (o : Option Value) (s' : cs_S) : Prop := match s with
  | ((tp, bt), (fk, fp), v, (mo, ni, bs), U, im, tr) => (x < lN 0 ∧ o = some (.int (-3)) ∧ s' = ((tp, bt), (fk, fp), v, (mo, ni, bs), U, im, tr)) ∨ (∃ k, x = lN k ∧ k < 2 ^ 63 ∧ (ln_str (rd_w v) bs).length ≤ k ∧ o = some (.int (-1)) ∧ s' = ((tp, bt), (fk, fp), v, (mo, ni, bs), U, im, tr)) ∨ (∃ k, x = lN k ∧ k < (ln_str (rd_w v) bs).length ∧ o = some (.int (nI ((ln_str (rd_w v) bs).getD k 0))) ∧ s' = ((tp, bt), (fk, fp), v, (mo, ni, bs), U, im, tr))
theorem V_letter {x : Int64} {s s' : cs_S} {o : Option Value} (h : J_letter x s o s') : ∃ y : Int32, o = some (.int y) := by
  obtain ⟨⟨tp, bt⟩, ⟨fk, fp⟩, v, ⟨mo, ni, bs⟩, U, im, tr⟩ := s
  rcases h with ⟨-, rfl, -⟩ | ⟨_, -, -, -, rfl, -⟩ | ⟨_, -, -, rfl, -⟩
  · exact ⟨_, rfl⟩
  · exact ⟨_, rfl⟩
  · exact ⟨_, rfl⟩
theorem P_letter {d K : Nat} {x : Int64} {s : cs_S} {hp : az_Hp} (hd : 80 ≤ d) (hC : cs hp s K) : az_M mX11_letter d 0 0 [.ref 0, .long x] hp (fun o h' => ∃ s', J_letter x s o s' ∧ cs h' s' K ∧ cs_f hp h') := by
  obtain ⟨⟨tp, bt⟩, ⟨fk, fp⟩, v, ⟨mo, ni, bs⟩, U, im, tr⟩ := s
  exact p_letter (by omega) hC (fun c0 => ⟨_, Or.inl ⟨c0, rfl, rfl⟩, hC, cs_f.rf⟩) (fun v0_ c0 c1 c2 => ⟨_, Or.inr (Or.inl ⟨v0_, c0, c1, c2, rfl, rfl⟩), hC, cs_f.rf⟩) (fun v0_ c0 c1 h1 e1 e2 => ⟨_, Or.inr (Or.inr ⟨v0_, c0, c1, rfl, rfl⟩), e1, e2⟩)
theorem Q_letter {d : Nat} {x : Int64} {s : cs_S} {hp : az_Hp} (hd : 80 ≤ d) (hok : cs_ok s) (hM : mm hp s) : az_M mX12_letter d 0 0 [.ref 64, .long x] hp (fun o h' => ∃ s', J_letter x s o s' ∧ mm h' s' ∧ az_fr hp h' 64 93) := by
  obtain ⟨⟨tp, bt⟩, ⟨fk, fp⟩, v, ⟨mo, ni, bs⟩, U, im, tr⟩ := s
  exact q_letter (by omega) hok hM (fun c0 h1 e1 e2 => ⟨_, Or.inl ⟨c0, rfl, rfl⟩, e1, e2⟩) (fun v0_ c0 c1 c2 h1 e1 e2 => ⟨_, Or.inr (Or.inl ⟨v0_, c0, c1, c2, rfl, rfl⟩), e1, e2⟩) (fun v0_ c0 c1 h1 e1 e2 => ⟨_, Or.inr (Or.inr ⟨v0_, c0, c1, rfl, rfl⟩), e1, e2⟩)
theorem D_letter {x : Int64} {s s1 s2 : cs_S} {o1 o2 : Option Value} (hok : cs_ok s) (htr : ∀ n y, n < 4 → s.2.2.2.2.2.2 n = some y → y.2.length ≤ 40) (h1 : J_letter x s o1 s1) (h2 : J_letter x s o2 s2) : o1 = o2 ∧ s1 = s2 := by
  obtain ⟨⟨tp, bt⟩, ⟨fk, fp⟩, v, ⟨mo, ni, bs⟩, U, im, tr⟩ := s
  have w0 : tp ≤ 900 := hok.1
  have w1 : ln_tb (rd_w v) ≤ 3 := hok.2.2.1.1.2.1
  have w2 : (ln_str (rd_w v) bs).length ≤ 1000000000000 := (show ln_ba (rd_w v) bs from hok.2.2.2.1).b.2.2
  have w3 : U.length ≤ 10 := hok.2.2.2.2.1
  have htr : ∀ n y, n < 4 → tr n = some y → y.2.length ≤ 40 := htr
  rcases h1 with ⟨a0, rfl, rfl⟩ | ⟨k1, a0, a1, a2, rfl, rfl⟩ | ⟨k1, a0, a1, rfl, rfl⟩
  · rcases h2 with ⟨b0, rfl, rfl⟩ | ⟨k2, b0, b1, b2, rfl, rfl⟩ | ⟨k2, b0, b1, rfl, rfl⟩
    · exact ⟨rfl, rfl⟩
    · first | exact absurd a0 (lN_ge b0 (by omega) (by omega)) | omega
    · first | exact absurd a0 (lN_ge b0 (by omega) (by omega)) | omega
  · rcases h2 with ⟨b0, rfl, rfl⟩ | ⟨k2, b0, b1, b2, rfl, rfl⟩ | ⟨k2, b0, b1, rfl, rfl⟩
    · first | exact absurd b0 (lN_ge a0 (by omega) (by omega)) | omega
    · obtain rfl : k1 = k2 := lN_J (a0.symm.trans b0) (by omega) (by omega)
      exact ⟨rfl, rfl⟩
    · obtain rfl : k1 = k2 := lN_J (a0.symm.trans b0) (by omega) (by omega)
      omega
  · rcases h2 with ⟨b0, rfl, rfl⟩ | ⟨k2, b0, b1, b2, rfl, rfl⟩ | ⟨k2, b0, b1, rfl, rfl⟩
    · first | exact absurd b0 (lN_ge a0 (by omega) (by omega)) | omega
    · obtain rfl : k1 = k2 := lN_J (a0.symm.trans b0) (by omega) (by omega)
      omega
    · obtain rfl : k1 = k2 := lN_J (a0.symm.trans b0) (by omega) (by omega)
      exact ⟨rfl, rfl⟩
def J_count (xl : Int32) (x : Int64) (s : cs_S) (o : Option Value) (s' : cs_S) : Prop := match s with
  | ((tp, bt), (fk, fp), v, (mo, ni, bs), U, im, tr) => (¬ cs_in xl 6 ∧ o = some (.long (-2)) ∧ s' = ((tp, bt), (fk, fp), v, (mo, ni, bs), U, im, tr)) ∨ (cs_in xl 6 ∧ (∀ k, k ≤ (ln_str (rd_w v) bs).length → x ≠ lN k) ∧ o = some (.long (-3)) ∧ s' = ((tp, bt), (fk, fp), v, (mo, ni, bs), U, im, tr)) ∨ (∃ l k, xl = nI l ∧ l < 6 ∧ x = lN k ∧ k ≤ (ln_str (rd_w v) bs).length ∧ o = some (.long (lN (((ln_str (rd_w v) bs).take k).count l))) ∧ s' = ((tp, bt), (fk, fp), v, (mo, ni, bs), U, im, tr))
theorem V_count {xl : Int32} {x : Int64} {s s' : cs_S} {o : Option Value} (h : J_count xl x s o s') : ∃ y : Int64, o = some (.long y) := by
  obtain ⟨⟨tp, bt⟩, ⟨fk, fp⟩, v, ⟨mo, ni, bs⟩, U, im, tr⟩ := s
  rcases h with ⟨-, rfl, -⟩ | ⟨-, -, rfl, -⟩ | ⟨_, _, -, -, -, -, rfl, -⟩
  · exact ⟨_, rfl⟩
  · exact ⟨_, rfl⟩
  · exact ⟨_, rfl⟩
theorem P_count {d K : Nat} {xl : Int32} {x : Int64} {s : cs_S} {hp : az_Hp} (hd : 80 ≤ d) (hC : cs hp s K) : az_M mX11_count d 0 0 [.ref 0, .int xl, .long x] hp (fun o h' => ∃ s', J_count xl x s o s' ∧ cs h' s' K ∧ cs_f hp h') := by
  obtain ⟨⟨tp, bt⟩, ⟨fk, fp⟩, v, ⟨mo, ni, bs⟩, U, im, tr⟩ := s
  exact p_count (by omega) hC (fun c0 => ⟨_, Or.inl ⟨c0, rfl, rfl⟩, hC, cs_f.rf⟩) (fun c0 c1 => ⟨_, Or.inr (Or.inl ⟨c0, c1, rfl, rfl⟩), hC, cs_f.rf⟩) (fun v0_ v1_ c0 c1 c2 c3 h1 e1 e2 => ⟨_, Or.inr (Or.inr ⟨v0_, v1_, c0, c1, c2, c3, rfl, rfl⟩), e1, e2⟩)
theorem Q_count {d : Nat} {xl : Int32} {x : Int64} {s : cs_S} {hp : az_Hp} (hd : 80 ≤ d) (hok : cs_ok s) (hM : mm hp s) : az_M mX12_count d 0 0 [.ref 64, .int xl, .long x] hp (fun o h' => ∃ s', J_count xl x s o s' ∧ mm h' s' ∧ az_fr hp h' 64 93) := by
  obtain ⟨⟨tp, bt⟩, ⟨fk, fp⟩, v, ⟨mo, ni, bs⟩, U, im, tr⟩ := s
  exact q_count (by omega) hok hM (fun c0 h1 e1 e2 => ⟨_, Or.inl ⟨c0, rfl, rfl⟩, e1, e2⟩) (fun c0 c1 h1 e1 e2 => ⟨_, Or.inr (Or.inl ⟨c0, c1, rfl, rfl⟩), e1, e2⟩) (fun v0_ v1_ c0 c1 c2 c3 h1 e1 e2 => ⟨_, Or.inr (Or.inr ⟨v0_, v1_, c0, c1, c2, c3, rfl, rfl⟩), e1, e2⟩)
theorem D_count {xl : Int32} {x : Int64} {s s1 s2 : cs_S} {o1 o2 : Option Value} (hok : cs_ok s) (htr : ∀ n y, n < 4 → s.2.2.2.2.2.2 n = some y → y.2.length ≤ 40) (h1 : J_count xl x s o1 s1) (h2 : J_count xl x s o2 s2) : o1 = o2 ∧ s1 = s2 := by
  obtain ⟨⟨tp, bt⟩, ⟨fk, fp⟩, v, ⟨mo, ni, bs⟩, U, im, tr⟩ := s
  have w0 : tp ≤ 900 := hok.1
  have w1 : ln_tb (rd_w v) ≤ 3 := hok.2.2.1.1.2.1
  have w2 : (ln_str (rd_w v) bs).length ≤ 1000000000000 := (show ln_ba (rd_w v) bs from hok.2.2.2.1).b.2.2
  have w3 : U.length ≤ 10 := hok.2.2.2.2.1
  have htr : ∀ n y, n < 4 → tr n = some y → y.2.length ≤ 40 := htr
  rcases h1 with ⟨a0, rfl, rfl⟩ | ⟨a0, a1, rfl, rfl⟩ | ⟨l1, k1, a0, a1, a2, a3, rfl, rfl⟩
  · rcases h2 with ⟨b0, rfl, rfl⟩ | ⟨b0, b1, rfl, rfl⟩ | ⟨l2, k2, b0, b1, b2, b3, rfl, rfl⟩
    · exact ⟨rfl, rfl⟩
    · first | exact absurd b0 a0 | omega
    · first | exact absurd (csI b0 (by omega) (by omega)) a0 | omega
  · rcases h2 with ⟨b0, rfl, rfl⟩ | ⟨b0, b1, rfl, rfl⟩ | ⟨l2, k2, b0, b1, b2, b3, rfl, rfl⟩
    · first | exact absurd a0 b0 | omega
    · exact ⟨rfl, rfl⟩
    · first | exact absurd b2 (a1 _ (by omega) ) | omega
  · rcases h2 with ⟨b0, rfl, rfl⟩ | ⟨b0, b1, rfl, rfl⟩ | ⟨l2, k2, b0, b1, b2, b3, rfl, rfl⟩
    · first | exact absurd (csI a0 (by omega) (by omega)) b0 | omega
    · first | exact absurd a2 (b1 _ (by omega) ) | omega
    · obtain rfl : l1 = l2 := lN_2 (a0.symm.trans b0) (by omega) (by omega)
      obtain rfl : k1 = k2 := lN_J (a2.symm.trans b2) (by omega) (by omega)
      exact ⟨rfl, rfl⟩
def J_place (xl : Int32) (x : Int64) (s : cs_S) (o : Option Value) (s' : cs_S) : Prop := match s with
  | ((tp, bt), (fk, fp), v, (mo, ni, bs), U, im, tr) => (¬ cs_in xl 6 ∧ o = some (.long (-2)) ∧ s' = ((tp, bt), (fk, fp), v, (mo, ni, bs), U, im, tr)) ∨ (cs_in xl 6 ∧ x < lN 1 ∧ o = some (.long (-3)) ∧ s' = ((tp, bt), (fk, fp), v, (mo, ni, bs), U, im, tr)) ∨ (∃ l k, xl = nI l ∧ l < 6 ∧ x = lN k ∧ 1 ≤ k ∧ k < 2 ^ 63 ∧ (ln_str (rd_w v) bs).count l < k ∧ o = some (.long (-1)) ∧ s' = ((tp, bt), (fk, fp), v, (mo, ni, bs), U, im, tr)) ∨ (∃ l k, xl = nI l ∧ l < 6 ∧ x = lN k ∧ 1 ≤ k ∧ k ≤ (ln_str (rd_w v) bs).count l ∧ o = some (.long (lN (ln_pos l (ln_str (rd_w v) bs) (k - 1)))) ∧ s' = ((tp, bt), (fk, fp), v, (mo, ni, bs), U, im, tr))
theorem V_place {xl : Int32} {x : Int64} {s s' : cs_S} {o : Option Value} (h : J_place xl x s o s') : ∃ y : Int64, o = some (.long y) := by
  obtain ⟨⟨tp, bt⟩, ⟨fk, fp⟩, v, ⟨mo, ni, bs⟩, U, im, tr⟩ := s
  rcases h with ⟨-, rfl, -⟩ | ⟨-, -, rfl, -⟩ | ⟨_, _, -, -, -, -, -, -, rfl, -⟩ | ⟨_, _, -, -, -, -, -, rfl, -⟩
  · exact ⟨_, rfl⟩
  · exact ⟨_, rfl⟩
  · exact ⟨_, rfl⟩
  · exact ⟨_, rfl⟩
theorem P_place {d K : Nat} {xl : Int32} {x : Int64} {s : cs_S} {hp : az_Hp} (hd : 80 ≤ d) (hC : cs hp s K) : az_M mX11_place d 0 0 [.ref 0, .int xl, .long x] hp (fun o h' => ∃ s', J_place xl x s o s' ∧ cs h' s' K ∧ cs_f hp h') := by
  obtain ⟨⟨tp, bt⟩, ⟨fk, fp⟩, v, ⟨mo, ni, bs⟩, U, im, tr⟩ := s
  exact p_place (by omega) hC (fun c0 => ⟨_, Or.inl ⟨c0, rfl, rfl⟩, hC, cs_f.rf⟩) (fun c0 c1 => ⟨_, Or.inr (Or.inl ⟨c0, c1, rfl, rfl⟩), hC, cs_f.rf⟩) (fun v0_ v1_ c0 c1 c2 c3 c4 c5 => ⟨_, Or.inr (Or.inr (Or.inl ⟨v0_, v1_, c0, c1, c2, c3, c4, c5, rfl, rfl⟩)), hC, cs_f.rf⟩) (fun v0_ v1_ c0 c1 c2 c3 c4 h1 e1 e2 => ⟨_, Or.inr (Or.inr (Or.inr ⟨v0_, v1_, c0, c1, c2, c3, c4, rfl, rfl⟩)), e1, e2⟩)
theorem Q_place {d : Nat} {xl : Int32} {x : Int64} {s : cs_S} {hp : az_Hp} (hd : 80 ≤ d) (hok : cs_ok s) (hM : mm hp s) : az_M mX12_place d 0 0 [.ref 64, .int xl, .long x] hp (fun o h' => ∃ s', J_place xl x s o s' ∧ mm h' s' ∧ az_fr hp h' 64 93) := by
  obtain ⟨⟨tp, bt⟩, ⟨fk, fp⟩, v, ⟨mo, ni, bs⟩, U, im, tr⟩ := s
  exact q_place (by omega) hok hM (fun c0 h1 e1 e2 => ⟨_, Or.inl ⟨c0, rfl, rfl⟩, e1, e2⟩) (fun c0 c1 h1 e1 e2 => ⟨_, Or.inr (Or.inl ⟨c0, c1, rfl, rfl⟩), e1, e2⟩) (fun v0_ v1_ c0 c1 c2 c3 c4 c5 h1 e1 e2 => ⟨_, Or.inr (Or.inr (Or.inl ⟨v0_, v1_, c0, c1, c2, c3, c4, c5, rfl, rfl⟩)), e1, e2⟩) (fun v0_ v1_ c0 c1 c2 c3 c4 h1 e1 e2 => ⟨_, Or.inr (Or.inr (Or.inr ⟨v0_, v1_, c0, c1, c2, c3, c4, rfl, rfl⟩)), e1, e2⟩)
theorem D_place {xl : Int32} {x : Int64} {s s1 s2 : cs_S} {o1 o2 : Option Value} (hok : cs_ok s) (htr : ∀ n y, n < 4 → s.2.2.2.2.2.2 n = some y → y.2.length ≤ 40) (h1 : J_place xl x s o1 s1) (h2 : J_place xl x s o2 s2) : o1 = o2 ∧ s1 = s2 := by
  obtain ⟨⟨tp, bt⟩, ⟨fk, fp⟩, v, ⟨mo, ni, bs⟩, U, im, tr⟩ := s
  have w0 : tp ≤ 900 := hok.1
  have w1 : ln_tb (rd_w v) ≤ 3 := hok.2.2.1.1.2.1
  have w2 : (ln_str (rd_w v) bs).length ≤ 1000000000000 := (show ln_ba (rd_w v) bs from hok.2.2.2.1).b.2.2
  have w3 : U.length ≤ 10 := hok.2.2.2.2.1
  have htr : ∀ n y, n < 4 → tr n = some y → y.2.length ≤ 40 := htr
  rcases h1 with ⟨a0, rfl, rfl⟩ | ⟨a0, a1, rfl, rfl⟩ | ⟨l1, k1, a0, a1, a2, a3, a4, a5, rfl, rfl⟩ | ⟨l1, k1, a0, a1, a2, a3, a4, rfl, rfl⟩
  · rcases h2 with ⟨b0, rfl, rfl⟩ | ⟨b0, b1, rfl, rfl⟩ | ⟨l2, k2, b0, b1, b2, b3, b4, b5, rfl, rfl⟩ | ⟨l2, k2, b0, b1, b2, b3, b4, rfl, rfl⟩
    · exact ⟨rfl, rfl⟩
    · first | exact absurd b0 a0 | omega
    · have hcb := Nat.le_trans (List.count_le_length (a := l2) (l := ln_str (rd_w v) bs)) w2
      first | exact absurd (csI b0 (by omega) (by omega)) a0 | omega
    · have hcb := Nat.le_trans (List.count_le_length (a := l2) (l := ln_str (rd_w v) bs)) w2
      first | exact absurd (csI b0 (by omega) (by omega)) a0 | omega
  · rcases h2 with ⟨b0, rfl, rfl⟩ | ⟨b0, b1, rfl, rfl⟩ | ⟨l2, k2, b0, b1, b2, b3, b4, b5, rfl, rfl⟩ | ⟨l2, k2, b0, b1, b2, b3, b4, rfl, rfl⟩
    · first | exact absurd a0 b0 | omega
    · exact ⟨rfl, rfl⟩
    · have hcb := Nat.le_trans (List.count_le_length (a := l2) (l := ln_str (rd_w v) bs)) w2
      first | exact absurd a1 (lN_ge b2 (by omega) (by omega)) | omega
    · have hcb := Nat.le_trans (List.count_le_length (a := l2) (l := ln_str (rd_w v) bs)) w2
      first | exact absurd a1 (lN_ge b2 (by omega) (by omega)) | omega
  · rcases h2 with ⟨b0, rfl, rfl⟩ | ⟨b0, b1, rfl, rfl⟩ | ⟨l2, k2, b0, b1, b2, b3, b4, b5, rfl, rfl⟩ | ⟨l2, k2, b0, b1, b2, b3, b4, rfl, rfl⟩
    · have hca := Nat.le_trans (List.count_le_length (a := l1) (l := ln_str (rd_w v) bs)) w2
      first | exact absurd (csI a0 (by omega) (by omega)) b0 | omega
    · have hca := Nat.le_trans (List.count_le_length (a := l1) (l := ln_str (rd_w v) bs)) w2
      first | exact absurd b1 (lN_ge a2 (by omega) (by omega)) | omega
    · have hca := Nat.le_trans (List.count_le_length (a := l1) (l := ln_str (rd_w v) bs)) w2
      have hcb := Nat.le_trans (List.count_le_length (a := l2) (l := ln_str (rd_w v) bs)) w2
      obtain rfl : l1 = l2 := lN_2 (a0.symm.trans b0) (by omega) (by omega)
      obtain rfl : k1 = k2 := lN_J (a2.symm.trans b2) (by omega) (by omega)
      exact ⟨rfl, rfl⟩
    · have hca := Nat.le_trans (List.count_le_length (a := l1) (l := ln_str (rd_w v) bs)) w2
      have hcb := Nat.le_trans (List.count_le_length (a := l2) (l := ln_str (rd_w v) bs)) w2
      obtain rfl : l1 = l2 := lN_2 (a0.symm.trans b0) (by omega) (by omega)
      obtain rfl : k1 = k2 := lN_J (a2.symm.trans b2) (by omega) (by omega)
      omega
  · rcases h2 with ⟨b0, rfl, rfl⟩ | ⟨b0, b1, rfl, rfl⟩ | ⟨l2, k2, b0, b1, b2, b3, b4, b5, rfl, rfl⟩ | ⟨l2, k2, b0, b1, b2, b3, b4, rfl, rfl⟩
    · have hca := Nat.le_trans (List.count_le_length (a := l1) (l := ln_str (rd_w v) bs)) w2
      first | exact absurd (csI a0 (by omega) (by omega)) b0 | omega
    · have hca := Nat.le_trans (List.count_le_length (a := l1) (l := ln_str (rd_w v) bs)) w2
      first | exact absurd b1 (lN_ge a2 (by omega) (by omega)) | omega
    · have hca := Nat.le_trans (List.count_le_length (a := l1) (l := ln_str (rd_w v) bs)) w2
      have hcb := Nat.le_trans (List.count_le_length (a := l2) (l := ln_str (rd_w v) bs)) w2
      obtain rfl : l1 = l2 := lN_2 (a0.symm.trans b0) (by omega) (by omega)
      obtain rfl : k1 = k2 := lN_J (a2.symm.trans b2) (by omega) (by omega)
      omega
    · have hca := Nat.le_trans (List.count_le_length (a := l1) (l := ln_str (rd_w v) bs)) w2
      have hcb := Nat.le_trans (List.count_le_length (a := l2) (l := ln_str (rd_w v) bs)) w2
      obtain rfl : l1 = l2 := lN_2 (a0.symm.trans b0) (by omega) (by omega)
      obtain rfl : k1 = k2 := lN_J (a2.symm.trans b2) (by omega) (by omega)
      exact ⟨rfl, rfl⟩
def J_night (x : Int32) (s : cs_S) (o : Option Value) (s' : cs_S) : Prop := match s with
  | ((tp, bt), (fk, fp), v, (mo, ni, bs), U, im, tr) => (¬ cs_in x 4 ∧ o = some (.long (-11)) ∧ s' = ((tp, bt), (fk, fp), v, (mo, ni, bs), U, im, tr)) ∨ (cs_in x 4 ∧ (dz (rd_w v) v.2.2.2.2.2.2.2.1 v.2.2.2.2.2.2.2.2 (mo, ni, bs) x.toInt64).1 ≠ 0 ∧ o = some (.long ((-10) - lN (dz (rd_w v) v.2.2.2.2.2.2.2.1 v.2.2.2.2.2.2.2.2 (mo, ni, bs) x.toInt64).1)) ∧ s' = ((tp, bt), (fk, fp), v, (mo, ni, bs), U, im, tr)) ∨ (cs_in x 4 ∧ (dz (rd_w v) v.2.2.2.2.2.2.2.1 v.2.2.2.2.2.2.2.2 (mo, ni, bs) x.toInt64).1 = 0 ∧ o = some (.long (lN (ln_str (rd_w v) (dz (rd_w v) v.2.2.2.2.2.2.2.1 v.2.2.2.2.2.2.2.2 (mo, ni, bs) x.toInt64).2.2.2).length)) ∧ s' = ((tp, bt), (fk, fp), v, (dz (rd_w v) v.2.2.2.2.2.2.2.1 v.2.2.2.2.2.2.2.2 (mo, ni, bs) x.toInt64).2, ln_push U (bs.length, ni, mo), im, tr))
theorem V_night {x : Int32} {s s' : cs_S} {o : Option Value} (h : J_night x s o s') : ∃ y : Int64, o = some (.long y) := by
  obtain ⟨⟨tp, bt⟩, ⟨fk, fp⟩, v, ⟨mo, ni, bs⟩, U, im, tr⟩ := s
  rcases h with ⟨-, rfl, -⟩ | ⟨-, -, rfl, -⟩ | ⟨-, -, rfl, -⟩
  · exact ⟨_, rfl⟩
  · exact ⟨_, rfl⟩
  · exact ⟨_, rfl⟩
theorem P_night {d K : Nat} {x : Int32} {s : cs_S} {hp : az_Hp} (hd : 80 ≤ d) (hC : cs hp s K) : az_M mX11_night d 0 0 [.ref 0, .int x] hp (fun o h' => ∃ s', J_night x s o s' ∧ cs h' s' K ∧ cs_f hp h') := by
  obtain ⟨⟨tp, bt⟩, ⟨fk, fp⟩, v, ⟨mo, ni, bs⟩, U, im, tr⟩ := s
  exact p_night (by omega) hC (fun c0 => ⟨_, Or.inl ⟨c0, rfl, rfl⟩, hC, cs_f.rf⟩) (fun c0 c1 h1 e1 e2 => ⟨_, Or.inr (Or.inl ⟨c0, c1, rfl, rfl⟩), e1, e2⟩) (fun c0 c1 h1 e1 e2 => ⟨_, Or.inr (Or.inr ⟨c0, c1, rfl, rfl⟩), e1, e2⟩)
theorem Q_night {d : Nat} {x : Int32} {s : cs_S} {hp : az_Hp} (hd : 80 ≤ d) (hok : cs_ok s) (hM : mm hp s) : az_M mX12_night d 0 0 [.ref 64, .int x] hp (fun o h' => ∃ s', J_night x s o s' ∧ mm h' s' ∧ az_fr hp h' 64 93) := by
  obtain ⟨⟨tp, bt⟩, ⟨fk, fp⟩, v, ⟨mo, ni, bs⟩, U, im, tr⟩ := s
  exact q_night (by omega) hok hM (fun c0 h1 e1 e2 => ⟨_, Or.inl ⟨c0, rfl, rfl⟩, e1, e2⟩) (fun c0 c1 h1 e1 e2 => ⟨_, Or.inr (Or.inl ⟨c0, c1, rfl, rfl⟩), e1, e2⟩) (fun c0 c1 h1 e1 e2 => ⟨_, Or.inr (Or.inr ⟨c0, c1, rfl, rfl⟩), e1, e2⟩)
theorem D_night {x : Int32} {s s1 s2 : cs_S} {o1 o2 : Option Value} (hok : cs_ok s) (htr : ∀ n y, n < 4 → s.2.2.2.2.2.2 n = some y → y.2.length ≤ 40) (h1 : J_night x s o1 s1) (h2 : J_night x s o2 s2) : o1 = o2 ∧ s1 = s2 := by
  obtain ⟨⟨tp, bt⟩, ⟨fk, fp⟩, v, ⟨mo, ni, bs⟩, U, im, tr⟩ := s
  have w0 : tp ≤ 900 := hok.1
  have w1 : ln_tb (rd_w v) ≤ 3 := hok.2.2.1.1.2.1
  have w2 : (ln_str (rd_w v) bs).length ≤ 1000000000000 := (show ln_ba (rd_w v) bs from hok.2.2.2.1).b.2.2
  have w3 : U.length ≤ 10 := hok.2.2.2.2.1
  have htr : ∀ n y, n < 4 → tr n = some y → y.2.length ≤ 40 := htr
  rcases h1 with ⟨a0, rfl, rfl⟩ | ⟨a0, a1, rfl, rfl⟩ | ⟨a0, a1, rfl, rfl⟩
  · rcases h2 with ⟨b0, rfl, rfl⟩ | ⟨b0, b1, rfl, rfl⟩ | ⟨b0, b1, rfl, rfl⟩
    · exact ⟨rfl, rfl⟩
    · first | exact absurd b0 a0 | omega
    · first | exact absurd b0 a0 | omega
  · rcases h2 with ⟨b0, rfl, rfl⟩ | ⟨b0, b1, rfl, rfl⟩ | ⟨b0, b1, rfl, rfl⟩
    · first | exact absurd a0 b0 | omega
    · exact ⟨rfl, rfl⟩
    · first | exact absurd b1 a1 | omega
  · rcases h2 with ⟨b0, rfl, rfl⟩ | ⟨b0, b1, rfl, rfl⟩ | ⟨b0, b1, rfl, rfl⟩
    · first | exact absurd a0 b0 | omega
    · first | exact absurd a1 b1 | omega
    · exact ⟨rfl, rfl⟩
def J_nights (x : Int32) (s : cs_S) (o : Option Value) (s' : cs_S) : Prop := match s with
  | ((tp, bt), (fk, fp), v, (mo, ni, bs), U, im, tr) => ((∀ n, 1 ≤ n → n ≤ 60 → x ≠ nI n) ∧ o = some (.int (-3)) ∧ s' = ((tp, bt), (fk, fp), v, (mo, ni, bs), U, im, tr)) ∨ (∃ n, x = nI n ∧ 1 ≤ n ∧ n ≤ 60 ∧ o = some (.int (nI (dn (rd_w v) v.2.2.2.2.2.2.2.1 v.2.2.2.2.2.2.2.2 n (mo, ni, bs)).1)) ∧ s' = ((tp, bt), (fk, fp), v, (dn (rd_w v) v.2.2.2.2.2.2.2.1 v.2.2.2.2.2.2.2.2 n (mo, ni, bs)).2, cs_push U (dn (rd_w v) v.2.2.2.2.2.2.2.1 v.2.2.2.2.2.2.2.2 n (mo, ni, bs)).1 (bs.length, ni, mo), im, tr))
theorem V_nights {x : Int32} {s s' : cs_S} {o : Option Value} (h : J_nights x s o s') : ∃ y : Int32, o = some (.int y) := by
  obtain ⟨⟨tp, bt⟩, ⟨fk, fp⟩, v, ⟨mo, ni, bs⟩, U, im, tr⟩ := s
  rcases h with ⟨-, rfl, -⟩ | ⟨_, -, -, -, rfl, -⟩
  · exact ⟨_, rfl⟩
  · exact ⟨_, rfl⟩
theorem P_nights {d K : Nat} {x : Int32} {s : cs_S} {hp : az_Hp} (hd : 80 ≤ d) (hC : cs hp s K) : az_M mX11_nights d 0 0 [.ref 0, .int x] hp (fun o h' => ∃ s', J_nights x s o s' ∧ cs h' s' K ∧ cs_f hp h') := by
  obtain ⟨⟨tp, bt⟩, ⟨fk, fp⟩, v, ⟨mo, ni, bs⟩, U, im, tr⟩ := s
  exact p_nights (by omega) hC (fun c0 => ⟨_, Or.inl ⟨c0, rfl, rfl⟩, hC, cs_f.rf⟩) (fun v0_ c0 c1 c2 h1 e1 e2 => ⟨_, Or.inr ⟨v0_, c0, c1, c2, rfl, rfl⟩, e1, e2⟩)
theorem Q_nights {d : Nat} {x : Int32} {s : cs_S} {hp : az_Hp} (hd : 80 ≤ d) (hok : cs_ok s) (hM : mm hp s) : az_M mX12_nights d 0 0 [.ref 64, .int x] hp (fun o h' => ∃ s', J_nights x s o s' ∧ mm h' s' ∧ az_fr hp h' 64 93) := by
  obtain ⟨⟨tp, bt⟩, ⟨fk, fp⟩, v, ⟨mo, ni, bs⟩, U, im, tr⟩ := s
  exact q_nights (by omega) hok hM (fun c0 h1 e1 e2 => ⟨_, Or.inl ⟨c0, rfl, rfl⟩, e1, e2⟩) (fun v0_ c0 c1 c2 h1 e1 e2 => ⟨_, Or.inr ⟨v0_, c0, c1, c2, rfl, rfl⟩, e1, e2⟩)
theorem D_nights {x : Int32} {s s1 s2 : cs_S} {o1 o2 : Option Value} (hok : cs_ok s) (htr : ∀ n y, n < 4 → s.2.2.2.2.2.2 n = some y → y.2.length ≤ 40) (h1 : J_nights x s o1 s1) (h2 : J_nights x s o2 s2) : o1 = o2 ∧ s1 = s2 := by
  obtain ⟨⟨tp, bt⟩, ⟨fk, fp⟩, v, ⟨mo, ni, bs⟩, U, im, tr⟩ := s
  have w0 : tp ≤ 900 := hok.1
  have w1 : ln_tb (rd_w v) ≤ 3 := hok.2.2.1.1.2.1
  have w2 : (ln_str (rd_w v) bs).length ≤ 1000000000000 := (show ln_ba (rd_w v) bs from hok.2.2.2.1).b.2.2
  have w3 : U.length ≤ 10 := hok.2.2.2.2.1
  have htr : ∀ n y, n < 4 → tr n = some y → y.2.length ≤ 40 := htr
  rcases h1 with ⟨a0, rfl, rfl⟩ | ⟨n1, a0, a1, a2, rfl, rfl⟩
  · rcases h2 with ⟨b0, rfl, rfl⟩ | ⟨n2, b0, b1, b2, rfl, rfl⟩
    · exact ⟨rfl, rfl⟩
    · first | exact absurd b0 (a0 _ (by omega) (by omega) ) | omega
  · rcases h2 with ⟨b0, rfl, rfl⟩ | ⟨n2, b0, b1, b2, rfl, rfl⟩
    · first | exact absurd a0 (b0 _ (by omega) (by omega) ) | omega
    · obtain rfl : n1 = n2 := lN_2 (a0.symm.trans b0) (by omega) (by omega)
      exact ⟨rfl, rfl⟩
def J_moon (x : Int32) (s : cs_S) (o : Option Value) (s' : cs_S) : Prop := match s with
  | ((tp, bt), (fk, fp), v, (mo, ni, bs), U, im, tr) => (¬ cs_in x 10 ∧ o = some (.int (-11)) ∧ s' = ((tp, bt), (fk, fp), v, (mo, ni, bs), U, im, tr)) ∨ (∃ n, x = nI n ∧ n < 10 ∧ o = some (.int (nI mo)) ∧ s' = ((tp, bt), (fk, fp), v, (n, ni, bs), ln_push U (bs.length, ni, mo), im, tr))
theorem V_moon {x : Int32} {s s' : cs_S} {o : Option Value} (h : J_moon x s o s') : ∃ y : Int32, o = some (.int y) := by
  obtain ⟨⟨tp, bt⟩, ⟨fk, fp⟩, v, ⟨mo, ni, bs⟩, U, im, tr⟩ := s
  rcases h with ⟨-, rfl, -⟩ | ⟨_, -, -, rfl, -⟩
  · exact ⟨_, rfl⟩
  · exact ⟨_, rfl⟩
theorem P_moon {d K : Nat} {x : Int32} {s : cs_S} {hp : az_Hp} (hd : 80 ≤ d) (hC : cs hp s K) : az_M mX11_moon d 0 0 [.ref 0, .int x] hp (fun o h' => ∃ s', J_moon x s o s' ∧ cs h' s' K ∧ cs_f hp h') := by
  obtain ⟨⟨tp, bt⟩, ⟨fk, fp⟩, v, ⟨mo, ni, bs⟩, U, im, tr⟩ := s
  exact p_moon (by omega) hC (fun c0 => ⟨_, Or.inl ⟨c0, rfl, rfl⟩, hC, cs_f.rf⟩) (fun v0_ c0 c1 h1 e1 e2 => ⟨_, Or.inr ⟨v0_, c0, c1, rfl, rfl⟩, e1, e2⟩)
theorem Q_moon {d : Nat} {x : Int32} {s : cs_S} {hp : az_Hp} (hd : 80 ≤ d) (hok : cs_ok s) (hM : mm hp s) : az_M mX12_moon d 0 0 [.ref 64, .int x] hp (fun o h' => ∃ s', J_moon x s o s' ∧ mm h' s' ∧ az_fr hp h' 64 93) := by
  obtain ⟨⟨tp, bt⟩, ⟨fk, fp⟩, v, ⟨mo, ni, bs⟩, U, im, tr⟩ := s
  exact q_moon (by omega) hok hM (fun c0 h1 e1 e2 => ⟨_, Or.inl ⟨c0, rfl, rfl⟩, e1, e2⟩) (fun v0_ c0 c1 h1 e1 e2 => ⟨_, Or.inr ⟨v0_, c0, c1, rfl, rfl⟩, e1, e2⟩)
theorem D_moon {x : Int32} {s s1 s2 : cs_S} {o1 o2 : Option Value} (hok : cs_ok s) (htr : ∀ n y, n < 4 → s.2.2.2.2.2.2 n = some y → y.2.length ≤ 40) (h1 : J_moon x s o1 s1) (h2 : J_moon x s o2 s2) : o1 = o2 ∧ s1 = s2 := by
  obtain ⟨⟨tp, bt⟩, ⟨fk, fp⟩, v, ⟨mo, ni, bs⟩, U, im, tr⟩ := s
  have w0 : tp ≤ 900 := hok.1
  have w1 : ln_tb (rd_w v) ≤ 3 := hok.2.2.1.1.2.1
  have w2 : (ln_str (rd_w v) bs).length ≤ 1000000000000 := (show ln_ba (rd_w v) bs from hok.2.2.2.1).b.2.2
  have w3 : U.length ≤ 10 := hok.2.2.2.2.1
  have htr : ∀ n y, n < 4 → tr n = some y → y.2.length ≤ 40 := htr
  rcases h1 with ⟨a0, rfl, rfl⟩ | ⟨n1, a0, a1, rfl, rfl⟩
  · rcases h2 with ⟨b0, rfl, rfl⟩ | ⟨n2, b0, b1, rfl, rfl⟩
    · exact ⟨rfl, rfl⟩
    · first | exact absurd (csI b0 (by omega) (by omega)) a0 | omega
  · rcases h2 with ⟨b0, rfl, rfl⟩ | ⟨n2, b0, b1, rfl, rfl⟩
    · first | exact absurd (csI a0 (by omega) (by omega)) b0 | omega
    · obtain rfl : n1 = n2 := lN_2 (a0.symm.trans b0) (by omega) (by omega)
      exact ⟨rfl, rfl⟩
