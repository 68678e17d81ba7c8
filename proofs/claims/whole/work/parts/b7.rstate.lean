/-! The model's reader: its state; is, eats, fails, codes, goesIn -/
theorem mrK_1 {b : Nat → Nat} {n e k m : Nat} (h1 : mrK b n e k) (h2 : mrK b n e m) : k = m := by
  have hd : ∀ i j : Fin 12, az_ch sgT i.val = az_ch sgT j.val → i = j := by decide +kernel
  rcases h1 with ⟨p, h1⟩ | ⟨p, h1⟩ | ⟨p, h1⟩ | ⟨p, i, i1, i2, i3⟩ | ⟨p, h1⟩
  · rcases h2 with ⟨q, h2⟩ | ⟨q, h2⟩ | ⟨q, h2⟩ | ⟨q, h2⟩ | ⟨q, h2⟩ <;> omega
  · rcases h2 with ⟨q, h2⟩ | ⟨q, h2⟩ | ⟨q, h2⟩ | ⟨q, h2⟩ | ⟨q, h2⟩
    · omega
    · rcases h1 with ⟨a1, a2⟩ | ⟨a1, a2⟩
      · rcases h2 with ⟨b1, b2⟩ | ⟨b1, b2⟩
        · exact kyM_1 a1 b1 a2 b2
        · exact absurd a2 (b2 k a1)
      · rcases h2 with ⟨b1, b2⟩ | ⟨b1, b2⟩
        · exact absurd b2 (a2 m b1)
        · rw [a1, b1]
    · omega
    · omega
    · omega
  · rcases h2 with ⟨q, h2⟩ | ⟨q, h2⟩ | ⟨q, h2⟩ | ⟨q, h2⟩ | ⟨q, h2⟩ <;> omega
  · rcases h2 with ⟨q, h2⟩ | ⟨q, h2⟩ | ⟨q, h2⟩ | ⟨q, j, j1, j2, j3⟩ | ⟨q, h2⟩
    · omega
    · omega
    · omega
    · have e := congrArg Fin.val (hd ⟨i, i1⟩ ⟨j, j1⟩ (i3.trans j3.symm))
      have e : i = j := e
      omega
    · omega
  · rcases h2 with ⟨q, h2⟩ | ⟨q, h2⟩ | ⟨q, h2⟩ | ⟨q, h2⟩ | ⟨q, h2⟩ <;> omega
theorem mrK_W {b : Nat → Nat} {n e i : Nat} {t : String} (he : e ≤ n) (hi : i < 19) (hl : (az_byt t).length = kyN i) (hc : ∀ j : Fin 8, j.val < kyN i → az_ch t j.val = az_ch kyT (kyP i + j.val)) : mrK b n e i ↔ rd_isW b n e t := by
  have h7 := (ky_f hi).2.2.2.1
  have h0 := (rd_en_le (b := b) he).1
  constructor
  · intro h
    rcases h with ⟨p, h1⟩ | ⟨p, ⟨h1, h2⟩ | ⟨h1, h2⟩⟩ | ⟨p, h1⟩ | ⟨p, j, j1, j2, j3⟩ | ⟨p, h1⟩
    · omega
    · refine ⟨p, ?_, fun j hj => ?_⟩
      · rw [hl]; have := h2.1; omega
      · rw [hl] at hj
        rw [h2.2 j hj]; exact (hc ⟨j, by omega⟩ hj).symm
    · omega
    · omega
    · omega
    · omega
  · intro h
    refine Or.inr (Or.inl ⟨h.1, Or.inl ⟨hi, ?_, fun j hj => ?_⟩⟩)
    · have := h.2.1; rw [hl] at this; omega
    · rw [h.2.2 j (by rw [hl]; exact hj)]; exact hc ⟨j, by omega⟩ hj
theorem mrK_S {b : Nat → Nat} {n e i x : Nat} (hi : i < 12) (hx : az_ch sgT i = x) : mrK b n e (30 + i) ↔ rd_isS b n e x := by
  constructor
  · intro h
    rcases h with ⟨p, h1⟩ | ⟨p, ⟨h1, h2⟩ | ⟨h1, h2⟩⟩ | ⟨p, h1⟩ | ⟨p, j, j1, j2, j3⟩ | ⟨p, h1⟩
    · omega
    · omega
    · omega
    · omega
    · have : i = j := by omega
      subst this
      exact ⟨p, j3.symm.trans hx⟩
    · omega
  · intro h
    exact Or.inr (Or.inr (Or.inr (Or.inl ⟨h.1, i, hi, rfl, hx.trans h.2.symm⟩)))
theorem mrK_N {b : Nat → Nat} {n e : Nat} : mrK b n e 23 ↔ rd_kd b n e = 2 := by
  constructor
  · intro h
    rcases h with ⟨p, h1⟩ | ⟨p, ⟨h1, h2⟩ | ⟨h1, h2⟩⟩ | ⟨p, h1⟩ | ⟨p, j, j1, j2, j3⟩ | ⟨p, h1⟩ <;> first | exact p | omega
  · intro h; exact Or.inr (Or.inr (Or.inl ⟨h, rfl⟩))
theorem mrK_Z {b : Nat → Nat} {n e : Nat} : mrK b n e 24 ↔ rd_kd b n e = 0 := by
  constructor
  · intro h
    rcases h with ⟨p, h1⟩ | ⟨p, ⟨h1, h2⟩ | ⟨h1, h2⟩⟩ | ⟨p, h1⟩ | ⟨p, j, j1, j2, j3⟩ | ⟨p, h1⟩ <;> first | exact p | omega
  · intro h; exact Or.inl ⟨h, rfl⟩
theorem mrK_B {b : Nat → Nat} {n e : Nat} : mrK b n e 25 ↔ rd_kd b n e = 4 := by
  constructor
  · intro h
    rcases h with ⟨p, h1⟩ | ⟨p, ⟨h1, h2⟩ | ⟨h1, h2⟩⟩ | ⟨p, h1⟩ | ⟨p, j, j1, j2, j3⟩ | ⟨p, h1⟩ <;> first | exact p | omega
  · intro h; exact Or.inr (Or.inr (Or.inr (Or.inr ⟨h, rfl⟩)))
theorem kw_street {b : Nat → Nat} {n e : Nat} (he : e ≤ n) : mrK b n e 0 ↔ rd_isW b n e "street" := mrK_W he (by decide) (by decide +kernel) (by decide +kernel)
theorem kw_tables {b : Nat → Nat} {n e : Nat} (he : e ≤ n) : mrK b n e 1 ↔ rd_isW b n e "tables" := mrK_W he (by decide) (by decide +kernel) (by decide +kernel)
theorem kw_moon {b : Nat → Nat} {n e : Nat} (he : e ≤ n) : mrK b n e 2 ↔ rd_isW b n e "moon" := mrK_W he (by decide) (by decide +kernel) (by decide +kernel)
theorem kw_stands {b : Nat → Nat} {n e : Nat} (he : e ≤ n) : mrK b n e 3 ↔ rd_isW b n e "stands" := mrK_W he (by decide) (by decide +kernel) (by decide +kernel)
theorem kw_rule {b : Nat → Nat} {n e : Nat} (he : e ≤ n) : mrK b n e 4 ↔ rd_isW b n e "rule" := mrK_W he (by decide) (by decide +kernel) (by decide +kernel)
theorem kw_nothing {b : Nat → Nat} {n e : Nat} (he : e ≤ n) : mrK b n e 5 ↔ rd_isW b n e "nothing" := mrK_W he (by decide) (by decide +kernel) (by decide +kernel)
theorem kw_picks {b : Nat → Nat} {n e : Nat} (he : e ≤ n) : mrK b n e 6 ↔ rd_isW b n e "picks" := mrK_W he (by decide) (by decide +kernel) (by decide +kernel)
theorem kw_sleeps {b : Nat → Nat} {n e : Nat} (he : e ≤ n) : mrK b n e 7 ↔ rd_isW b n e "sleeps" := mrK_W he (by decide) (by decide +kernel) (by decide +kernel)
theorem kw_if {b : Nat → Nat} {n e : Nat} (he : e ≤ n) : mrK b n e 8 ↔ rd_isW b n e "if" := mrK_W he (by decide) (by decide +kernel) (by decide +kernel)
theorem kw_then {b : Nat → Nat} {n e : Nat} (he : e ≤ n) : mrK b n e 9 ↔ rd_isW b n e "then" := mrK_W he (by decide) (by decide +kernel) (by decide +kernel)
theorem kw_else {b : Nat → Nat} {n e : Nat} (he : e ≤ n) : mrK b n e 10 ↔ rd_isW b n e "else" := mrK_W he (by decide) (by decide +kernel) (by decide +kernel)
theorem kw_end {b : Nat → Nat} {n e : Nat} (he : e ≤ n) : mrK b n e 11 ↔ rd_isW b n e "end" := mrK_W he (by decide) (by decide +kernel) (by decide +kernel)
theorem kw_night {b : Nat → Nat} {n e : Nat} (he : e ≤ n) : mrK b n e 12 ↔ rd_isW b n e "night" := mrK_W he (by decide) (by decide +kernel) (by decide +kernel)
theorem kw_front {b : Nat → Nat} {n e : Nat} (he : e ≤ n) : mrK b n e 13 ↔ rd_isW b n e "front" := mrK_W he (by decide) (by decide +kernel) (by decide +kernel)
theorem kw_back {b : Nat → Nat} {n e : Nat} (he : e ≤ n) : mrK b n e 14 ↔ rd_isW b n e "back" := mrK_W he (by decide) (by decide +kernel) (by decide +kernel)
theorem kw_rest {b : Nat → Nat} {n e : Nat} (he : e ≤ n) : mrK b n e 15 ↔ rd_isW b n e "rest" := mrK_W he (by decide) (by decide +kernel) (by decide +kernel)
theorem kw_and {b : Nat → Nat} {n e : Nat} (he : e ≤ n) : mrK b n e 16 ↔ rd_isW b n e "and" := mrK_W he (by decide) (by decide +kernel) (by decide +kernel)
theorem kw_or {b : Nat → Nat} {n e : Nat} (he : e ≤ n) : mrK b n e 17 ↔ rd_isW b n e "or" := mrK_W he (by decide) (by decide +kernel) (by decide +kernel)
theorem kw_not {b : Nat → Nat} {n e : Nat} (he : e ≤ n) : mrK b n e 18 ↔ rd_isW b n e "not" := mrK_W he (by decide) (by decide +kernel) (by decide +kernel)
theorem ks_59 {b : Nat → Nat} {n e : Nat} : mrK b n e 30 ↔ rd_isS b n e 59 := mrK_S (i := 0) (by decide) (by decide +kernel)
theorem ks_58 {b : Nat → Nat} {n e : Nat} : mrK b n e 31 ↔ rd_isS b n e 58 := mrK_S (i := 1) (by decide) (by decide +kernel)
theorem ks_43 {b : Nat → Nat} {n e : Nat} : mrK b n e 32 ↔ rd_isS b n e 43 := mrK_S (i := 2) (by decide) (by decide +kernel)
theorem ks_45 {b : Nat → Nat} {n e : Nat} : mrK b n e 33 ↔ rd_isS b n e 45 := mrK_S (i := 3) (by decide) (by decide +kernel)
theorem ks_42 {b : Nat → Nat} {n e : Nat} : mrK b n e 34 ↔ rd_isS b n e 42 := mrK_S (i := 4) (by decide) (by decide +kernel)
theorem ks_40 {b : Nat → Nat} {n e : Nat} : mrK b n e 35 ↔ rd_isS b n e 40 := mrK_S (i := 5) (by decide) (by decide +kernel)
theorem ks_41 {b : Nat → Nat} {n e : Nat} : mrK b n e 36 ↔ rd_isS b n e 41 := mrK_S (i := 6) (by decide) (by decide +kernel)
theorem ks_91 {b : Nat → Nat} {n e : Nat} : mrK b n e 37 ↔ rd_isS b n e 91 := mrK_S (i := 7) (by decide) (by decide +kernel)
theorem ks_93 {b : Nat → Nat} {n e : Nat} : mrK b n e 38 ↔ rd_isS b n e 93 := mrK_S (i := 8) (by decide) (by decide +kernel)
theorem ks_61 {b : Nat → Nat} {n e : Nat} : mrK b n e 39 ↔ rd_isS b n e 61 := mrK_S (i := 9) (by decide) (by decide +kernel)
theorem ks_60 {b : Nat → Nat} {n e : Nat} : mrK b n e 40 ↔ rd_isS b n e 60 := mrK_S (i := 10) (by decide) (by decide +kernel)
theorem ks_62 {b : Nat → Nat} {n e : Nat} : mrK b n e 41 ↔ rd_isS b n e 62 := mrK_S (i := 11) (by decide) (by decide +kernel)
def mr_T (h : az_Hp) (b : Nat → Nat) (n : Nat) : Prop := (∀ j, b j < 256) ∧ n ≤ 900 ∧ (∃ tf : Nat → Nat, h.2 67 = some (az_I 900 (fun j => nI (tf j))) ∧ ∀ j, j < n → tf j = b j) ∧ ∃ sp : Nat → Int32, h.2 69 = some (az_I 12 sp)
def mr_C (h : az_Hp) (fr : Nat → Nat) (k0 : Nat) (c : List Nat) : Prop := ∃ g : Nat → Nat, h.2 68 = some (az_I 1106 (fun j => nI (g j))) ∧ g 205 = k0 + c.length ∧ (∀ i, i < c.length → g (206 + k0 + i) = c.getD i 0) ∧ ∀ j, (j < 205 ∨ (206 ≤ j ∧ j < 206 + k0)) → g j = fr j
def mr_S (h : az_Hp) (sc : Nat → Value) (b : Nat → Nat) (n : Nat) (fr : Nat → Nat) (k0 e : Nat) (c : List Nat) : Prop := e ≤ n ∧ k0 + c.length ≤ e ∧ (∃ (k : Nat) (nu wa : Int32), mrK b n e k ∧ (rd_kd b n e = 2 → nu = nI (rd_va b n e)) ∧ h.2 64 = some (mr_o sc (rd_fr b n e) (rd_en b n e) n (nI k) nu (nI 0) wa)) ∧ mr_C h fr k0 c
def mr_E (h : az_Hp) (sc : Nat → Value) (n f p : Nat) : Prop := 1 ≤ f ∧ f < 100 ∧ p ≤ n ∧ (∃ (a z : Nat) (ki nu : Int32), h.2 64 = some (mr_o sc a z n ki nu (nI f) (nI p))) ∧ ∃ g : Nat → Nat, h.2 68 = some (az_I 1106 (fun j => nI (g j)))
def mr_R (h : az_Hp) (sc : Nat → Value) (b : Nat → Nat) (n : Nat) (fr : Nat → Nat) (k0 : Nat) (r : rd_R) : Prop := mr_T h b n ∧ match r with
  | .inl x => mr_S h sc b n fr k0 x.1 x.2
  | .inr x => mr_E h sc n x.1 x.2
def mr_no (b : Nat → Nat) (n : Nat) (r : rd_R) (k : Nat) : Prop := ∀ e c, r = .inl (e, c) → ¬ mrK b n e k
def mr_cp (k0 : Nat) (r : rd_R) : Prop := ∀ e c, r = .inl (e, c) → k0 + c.length + 1 ≤ e
theorem mr_T.fr {h h' : az_Hp} {b : Nat → Nat} {n : Nat} {L : List Nat} (H : mr_T h b n) (hf : mf h h' L) (h67 : 67 ∉ L := by decide) (h69 : 69 ∉ L := by decide) : mr_T h' b n := by
  obtain ⟨t1, t2, ⟨tf, t3, t4⟩, sp, t5⟩ := H
  exact ⟨t1, t2, ⟨tf, hf.at t3 h67, t4⟩, sp, hf.at t5 h69⟩
theorem mr_C.fr {h h' : az_Hp} {fr : Nat → Nat} {k0 : Nat} {c : List Nat} {L : List Nat} (H : mr_C h fr k0 c) (hf : mf h h' L) (h68 : 68 ∉ L := by decide) : mr_C h' fr k0 c := by
  obtain ⟨g, g1, g2⟩ := H
  exact ⟨g, hf.at g1 h68, g2⟩
set_option maxHeartbeats 4000000 in
set_option maxRecDepth 100000 in
theorem m_is {d k9 : Nat} {sc : Nat → Value} {b : Nat → Nat} {n : Nat} {fr : Nat → Nat} {k0 : Nat} {r : rd_R} {hp : az_Hp} {Q : Option Value → az_Hp → Prop} (hk9 : k9 < 100) (H : mr_R hp sc b n fr k0 (r)) (hQ1 : ∀ e c, r = .inl (e, c) → mrK b n e k9 → Q (some (.int (nI 1))) hp) (hQ0 : mr_no b n r k9 → Q (some (.int (nI 0))) hp) : az_M mX12_is d 0 0 [.ref 64, .int (nI k9)] hp Q := by
  match r, H with
  | .inr (f, p), H =>
    obtain ⟨-, h1, h2, h3, ⟨a, z, ki, nu, h64⟩, -⟩ := H
    have h1 : 1 ≤ f := h1
    have h2 : f < 100 := h2
    refine az_M.of rfl (Nat.le_of_ble_eq_true rfl) ?_
    show az_W _ _ _ _ 0 [(0, .ref 64), (1, .int (nI k9))] [] _ _
    refine az_aload_n dX12_is_0 ?_
    refine az_getf (v := .int (nI f)) dX12_is_1 fl_X12_153 h64 ?_
    refine az_if_neN (tgt := 19) dX12_is_4 (fun c4 => ?_) (fun c4 => ?_)
    · refine az_iconst (v := nI 0) dX12_is_19 ?_
      exact az_iret dX12_is_20 (hQ0 (fun e c q => nomatch q))
    · exact absurd c4 (by omega)
  | .inl (e, c), H =>
    obtain ⟨-, h1, h2, ⟨k, nu, wa, hk, hnu, h64⟩, -⟩ := H
    have hkl := mrK_lt hk
    refine az_M.of rfl (Nat.le_of_ble_eq_true rfl) ?_
    show az_W _ _ _ _ 0 [(0, .ref 64), (1, .int (nI k9))] [] _ _
    refine az_aload_n dX12_is_0 ?_
    refine az_getf (v := .int (nI 0)) dX12_is_1 fl_X12_153 h64 ?_
    refine az_if_neN (tgt := 19) dX12_is_4 (fun c4 => ?_) (fun c4 => ?_)
    · exact absurd c4 (by omega)
    · refine az_aload_n dX12_is_7 ?_
      refine az_getf (v := .int (nI k)) dX12_is_8 fl_X12_135 h64 ?_
      refine az_iload_n dX12_is_11 ?_
      refine az_icmp_neN (tgt := 19) dX12_is_12 (fun c12 => ?_) (fun c12 => ?_)
      · refine az_iconst (v := nI 0) dX12_is_19 ?_
        exact az_iret dX12_is_20 (by first | (have e9 : k = k9 := c12; exact hQ1 e c rfl (by rw [← e9]; exact hk)) | exact hQ0 (fun e2 c2 q hk2 => (by cases q; exact c12 (mrK_1 hk hk2))))
      · refine az_iconst (v := nI 1) dX12_is_15 ?_
        refine az_goto (tgt := 20) dX12_is_16 ?_
        exact az_iret dX12_is_20 (by first | (have e9 : k = k9 := c12; exact hQ1 e c rfl (by rw [← e9]; exact hk)) | exact hQ0 (fun e2 c2 q hk2 => (by cases q; exact c12 (mrK_1 hk hk2))))
theorem mr_S.next {h h' : az_Hp} {sc : Nat → Value} {b : Nat → Nat} {n : Nat} {fr : Nat → Nat} {k0 e : Nat} {c : List Nat} {k : Nat} {nu wa : Int32} (he : e ≤ n) (hc : k0 + c.length ≤ e) (hC : mr_C h fr k0 c) (hk : mrK b n e k) (hnu : rd_kd b n e = 2 → nu = nI (rd_va b n e)) (hf : mf h h' [64]) (h64 : h'.2 64 = some (mr_o sc (rd_fr b n e) (rd_en b n e) n (nI k) nu (nI 0) wa)) : mr_S h' sc b n fr k0 e c := ⟨he, hc, ⟨k, nu, wa, hk, hnu, h64⟩, hC.fr hf⟩
set_option maxHeartbeats 4000000 in
set_option maxRecDepth 100000 in
theorem m_nextR {d e : Nat} {c c' : List Nat} {sc : Nat → Value} {b : Nat → Nat} {n : Nat} {fr : Nat → Nat} {k0 : Nat} {hp : az_Hp} {Q : Option Value → az_Hp → Prop} (hd : 7 ≤ d) (hT : mr_T hp b n) (he : e ≤ n) (hc : k0 + c'.length ≤ rd_en b n e) (h64 : ∃ (k : Nat) (nu wa : Int32), mrK b n e k ∧ (rd_kd b n e = 2 → nu = nI (rd_va b n e)) ∧ hp.2 64 = some (mr_o sc (rd_fr b n e) (rd_en b n e) n (nI k) nu (nI 0) wa)) (hC : mr_C hp fr k0 c') (hQ : ∀ h', mr_R h' sc b n fr k0 ((.inl (rd_en b n e, c'))) → mf hp h' [64] → Q none h') : az_M mX12_next d 0 0 [.ref 64] hp Q := by
  obtain ⟨k, nu, wa, hk, hnu, h64⟩ := h64
  obtain ⟨t1, t2, ⟨tf, t3, t4⟩, sp, t5⟩ := id hT
  have hen := (rd_en_le (b := b) he).2
  refine m_next hd t1 t2 t3 t4 h64 hen (fun k2 nu2 hk2 hnu2 => ?_)
  have hf : mf hp (az_up hp 64 (mr_o sc (rd_fr b n (rd_en b n e)) (rd_en b n (rd_en b n e)) n (nI k2) nu2 (nI 0) wa)) [64] := mf.rf.up (by decide)
  exact hQ _ ⟨hT.fr hf, mr_S.next hen hc hC hk2 hnu2 hf az_up_eq⟩ hf
set_option maxHeartbeats 4000000 in
set_option maxRecDepth 100000 in
theorem m_eats {d k9 : Nat} {sc : Nat → Value} {b : Nat → Nat} {n : Nat} {fr : Nat → Nat} {k0 : Nat} {r : rd_R} {hp : az_Hp} {Q : Option Value → az_Hp → Prop} (hd : 8 ≤ d) (hk9 : k9 < 100) (H : mr_R hp sc b n fr k0 (r)) (hQ1 : ∀ e c, r = .inl (e, c) → mrK b n e k9 → ∀ h', mr_R h' sc b n fr k0 (.inl (rd_en b n e, c)) → mf hp h' [64] → Q (some (.int (nI 1))) h') (hQ0 : mr_no b n r k9 → Q (some (.int (nI 0))) hp) : az_M mX12_eats d 0 0 [.ref 64, .int (nI k9)] hp Q := by
  obtain ⟨h9, h64⟩ : ∃ x : az_C, hp.2 64 = some x ∧ ∃ (a z : Nat) (ki nu wr wa : Int32), x = mr_o sc a z n ki nu wr wa := (by
    match r, H with
    | .inr (f, p), H => obtain ⟨-, -, -, -, ⟨a, z, ki, nu, h64⟩, -⟩ := H; exact ⟨_, h64, _, _, _, _, _, _, rfl⟩
    | .inl (e, c), H => obtain ⟨-, -, -, ⟨k, nu, wa, -, -, h64⟩, -⟩ := H; exact ⟨_, h64, _, _, _, _, _, _, rfl⟩)
  obtain ⟨h64, a, z, ki, nu, wr, wa, rfl⟩ := h64
  refine az_M.of rfl (Nat.le_of_ble_eq_true rfl) ?_
  show az_W _ _ _ _ 0 [(0, .ref 64), (1, .int (nI k9))] [] _ _
  refine az_aload_n dX12_eats_0 ?_
  refine az_iload_n dX12_eats_1 ?_
  refine az_cV0 (st := []) dX12_eats_2 ml_X12_159 h64 (m_is (d := d - 1) hk9 H ?_ ?_)
  · intro e c hr hm
    refine az_if_neN (tgt := 10) dX12_eats_5 (fun c5 => ?_) (fun c5 => ?_)
    · refine az_aload_n dX12_eats_10 ?_
      refine az_cV0 (st := []) dX12_eats_11 ml_X12_162 h64 (m_nextR (d := d - 1) (e := e) (c := c) (c' := c) (sc := sc) (b := b) (n := n) (fr := fr) (k0 := k0) (by omega) H.1 (by rw [hr] at H; exact H.2.1) (by rw [hr] at H; have h1 := H.2.1; have h2 := H.2.2.1; have h3 := rd_en_le2 (b := b) h1; exact Nat.le_trans h2 h3) (by rw [hr] at H; exact H.2.2.2.1) (by rw [hr] at H; exact H.2.2.2.2) ?_)
      intro h2 H2 mf2
      refine az_iconst (v := nI 1) dX12_eats_14 ?_
      exact az_iret dX12_eats_15 (hQ1 e c hr hm h2 H2 mf2)
    · exact absurd c5 (by omega)
  · intro hno
    refine az_if_neN (tgt := 10) dX12_eats_5 (fun c5 => ?_) (fun c5 => ?_)
    · exact absurd c5 (by omega)
    · refine az_iconst (v := nI 0) dX12_eats_8 ?_
      exact az_iret dX12_eats_9 (hQ0 hno)
set_option maxHeartbeats 4000000 in
set_option maxRecDepth 100000 in
theorem m_fails {d f9 : Nat} {sc : Nat → Value} {b : Nat → Nat} {n : Nat} {fr : Nat → Nat} {k0 : Nat} {r : rd_R} {hp : az_Hp} {Q : Option Value → az_Hp → Prop} (hf1 : 1 ≤ f9) (hf9 : f9 < 100) (H : mr_R hp sc b n fr k0 (r)) (hQ : ∀ h', mr_R h' sc b n fr k0 (rd_b r (fun e _ => rd_fail b n f9 e)) → mf hp h' [64] → Q none h') : az_M mX12_fails d 0 0 [.ref 64, .int (nI f9)] hp Q := by
  match r, H with
  | .inr (f, p), H =>
    obtain ⟨-, h1, h2, h3, ⟨a, z, ki, nu, h64⟩, -⟩ := id H
    have h1 : 1 ≤ f := h1
    have h2 : f < 100 := h2
    refine az_M.of rfl (Nat.le_of_ble_eq_true rfl) ?_
    show az_W _ _ _ _ 0 [(0, .ref 64), (1, .int (nI f9))] [] _ _
    refine az_aload_n dX12_fails_0 ?_
    refine az_getf (v := .int (nI f)) dX12_fails_1 fl_X12_153 h64 ?_
    refine az_if_eqN (tgt := 8) dX12_fails_4 (fun c4 => ?_) (fun c4 => ?_)
    · exact absurd c4 (by omega)
    · exact az_vret dX12_fails_7 (hQ hp H mf.rf)
  | .inl (e, c), H =>
    obtain ⟨hT, h1, h2, ⟨k, nu, wa, hk, hnu, h64⟩, g, hg, -⟩ := id H
    have hkl := mrK_lt hk
    have hpn := (rd_fr_le (b := b) h1).2
    refine az_M.of rfl (Nat.le_of_ble_eq_true rfl) ?_
    show az_W _ _ _ _ 0 [(0, .ref 64), (1, .int (nI f9))] [] _ _
    refine az_aload_n dX12_fails_0 ?_
    refine az_getf (v := .int (nI 0)) dX12_fails_1 fl_X12_153 h64 ?_
    refine az_if_eqN (tgt := 8) dX12_fails_4 (fun c4 => ?_) (fun c4 => ?_)
    · refine az_aload_n dX12_fails_8 ?_
      refine az_aload_n dX12_fails_9 ?_
      refine az_getf (v := .int (nI k)) dX12_fails_10 fl_X12_135 h64 ?_
      refine az_bipush (v := nI 25) dX12_fails_13 ?_
      refine az_icmp_neN (tgt := 22) dX12_fails_15 (fun c15 => ?_) (fun c15 => ?_)
      · refine az_iload_n dX12_fails_22 ?_
        refine az_putf (fs' := [sc 0, .ref 65, .ref 66, .ref 67, .ref 68, sc 5, .int (nI (rd_fr b n e)), .int (nI (rd_en b n e)), .int (nI n), .int (nI k), .int nu, .int (nI f9), .int wa, sc 13, sc 14, .ref 69, .ref 70, .ref 71, sc 18, .ref 72, .ref 73, .ref 74, sc 22, sc 23, .ref 75, sc 25, .ref 76, .ref 77, .ref 78, sc 29, .ref 79, .ref 80, .ref 81, .ref 82, .ref 83, .ref 84, .ref 85, sc 37, .ref 86, .ref 87, .ref 88, .ref 89, .ref 90, .ref 91, .ref 92]) dX12_fails_23 fl_X12_153 h64 ?_
        refine az_aload_n dX12_fails_26 ?_
        refine az_aload_n dX12_fails_27 ?_
        refine az_getf (v := .int (nI (rd_fr b n e))) dX12_fails_28 fl_X12_125 az_up_eq ?_
        refine az_putf (fs' := [sc 0, .ref 65, .ref 66, .ref 67, .ref 68, sc 5, .int (nI (rd_fr b n e)), .int (nI (rd_en b n e)), .int (nI n), .int (nI k), .int nu, .int (nI f9), .int (nI (rd_fr b n e)), sc 13, sc 14, .ref 69, .ref 70, .ref 71, sc 18, .ref 72, .ref 73, .ref 74, sc 22, sc 23, .ref 75, sc 25, .ref 76, .ref 77, .ref 78, sc 29, .ref 79, .ref 80, .ref 81, .ref 82, .ref 83, .ref 84, .ref 85, sc 37, .ref 86, .ref 87, .ref 88, .ref 89, .ref 90, .ref 91, .ref 92]) dX12_fails_31 fl_X12_156 az_up_eq ?_
        rw [az_up_up]
        exact az_vret dX12_fails_34 (by first | (have e9 : rd_kd b n e = 4 := (by rw [← mrK_B, ← c15]; exact hk); have hf : mf hp (az_up hp 64 (mr_o sc (rd_fr b n e) (rd_en b n e) n (nI k) nu (nI 1) (nI (rd_fr b n e)))) [64] := mf.rf.up (by decide); have hq := hQ _ ⟨hT.fr hf, (show mr_E _ sc n (if rd_kd b n e = 4 then 1 else f9) (rd_fr b n e) from (by rw [if_pos e9]; exact ⟨Nat.le_refl 1, by decide, hpn, ⟨_, _, _, _, az_up_eq⟩, g, hf.at hg⟩))⟩ hf; exact hq) | (have e9 : ¬ rd_kd b n e = 4 := (fun q => c15 (mrK_1 hk (mrK_B.mpr q))); have hf : mf hp (az_up hp 64 (mr_o sc (rd_fr b n e) (rd_en b n e) n (nI k) nu (nI f9) (nI (rd_fr b n e)))) [64] := mf.rf.up (by decide); have hq := hQ _ ⟨hT.fr hf, (show mr_E _ sc n (if rd_kd b n e = 4 then 1 else f9) (rd_fr b n e) from (by rw [if_neg e9]; exact ⟨hf1, hf9, hpn, ⟨_, _, _, _, az_up_eq⟩, g, hf.at hg⟩))⟩ hf; exact hq))
      · refine az_iconst (v := nI 1) dX12_fails_18 ?_
        refine az_goto (tgt := 23) dX12_fails_19 ?_
        refine az_putf (fs' := [sc 0, .ref 65, .ref 66, .ref 67, .ref 68, sc 5, .int (nI (rd_fr b n e)), .int (nI (rd_en b n e)), .int (nI n), .int (nI k), .int nu, .int (nI 1), .int wa, sc 13, sc 14, .ref 69, .ref 70, .ref 71, sc 18, .ref 72, .ref 73, .ref 74, sc 22, sc 23, .ref 75, sc 25, .ref 76, .ref 77, .ref 78, sc 29, .ref 79, .ref 80, .ref 81, .ref 82, .ref 83, .ref 84, .ref 85, sc 37, .ref 86, .ref 87, .ref 88, .ref 89, .ref 90, .ref 91, .ref 92]) dX12_fails_23 fl_X12_153 h64 ?_
        refine az_aload_n dX12_fails_26 ?_
        refine az_aload_n dX12_fails_27 ?_
        refine az_getf (v := .int (nI (rd_fr b n e))) dX12_fails_28 fl_X12_125 az_up_eq ?_
        refine az_putf (fs' := [sc 0, .ref 65, .ref 66, .ref 67, .ref 68, sc 5, .int (nI (rd_fr b n e)), .int (nI (rd_en b n e)), .int (nI n), .int (nI k), .int nu, .int (nI 1), .int (nI (rd_fr b n e)), sc 13, sc 14, .ref 69, .ref 70, .ref 71, sc 18, .ref 72, .ref 73, .ref 74, sc 22, sc 23, .ref 75, sc 25, .ref 76, .ref 77, .ref 78, sc 29, .ref 79, .ref 80, .ref 81, .ref 82, .ref 83, .ref 84, .ref 85, sc 37, .ref 86, .ref 87, .ref 88, .ref 89, .ref 90, .ref 91, .ref 92]) dX12_fails_31 fl_X12_156 az_up_eq ?_
        rw [az_up_up]
        exact az_vret dX12_fails_34 (by first | (have e9 : rd_kd b n e = 4 := (by rw [← mrK_B, ← c15]; exact hk); have hf : mf hp (az_up hp 64 (mr_o sc (rd_fr b n e) (rd_en b n e) n (nI k) nu (nI 1) (nI (rd_fr b n e)))) [64] := mf.rf.up (by decide); have hq := hQ _ ⟨hT.fr hf, (show mr_E _ sc n (if rd_kd b n e = 4 then 1 else f9) (rd_fr b n e) from (by rw [if_pos e9]; exact ⟨Nat.le_refl 1, by decide, hpn, ⟨_, _, _, _, az_up_eq⟩, g, hf.at hg⟩))⟩ hf; exact hq) | (have e9 : ¬ rd_kd b n e = 4 := (fun q => c15 (mrK_1 hk (mrK_B.mpr q))); have hf : mf hp (az_up hp 64 (mr_o sc (rd_fr b n e) (rd_en b n e) n (nI k) nu (nI f9) (nI (rd_fr b n e)))) [64] := mf.rf.up (by decide); have hq := hQ _ ⟨hT.fr hf, (show mr_E _ sc n (if rd_kd b n e = 4 then 1 else f9) (rd_fr b n e) from (by rw [if_neg e9]; exact ⟨hf1, hf9, hpn, ⟨_, _, _, _, az_up_eq⟩, g, hf.at hg⟩))⟩ hf; exact hq))
    · exact absurd rfl c4
theorem getD_appN {c : List Nat} {x i : Nat} : (c ++ [x]).getD i 0 = if i < c.length then c.getD i 0 else if i = c.length then x else 0 := getD_app
set_option maxHeartbeats 4000000 in
set_option maxRecDepth 100000 in
theorem m_codesW {d x a z k0 : Nat} {n : Nat} {sc : Nat → Value} {ki nu wa : Int32} {fr : Nat → Nat} {c : List Nat} {hp : az_Hp} {Q : Option Value → az_Hp → Prop} (hcap : k0 + c.length < 900) (h64 : hp.2 64 = some (mr_o sc a z n ki nu (nI 0) wa)) (hC : mr_C hp fr k0 c) (hQ : ∀ h', mr_C h' fr k0 (c ++ [x]) → mf hp h' [68] → Q none h') : az_M mX12_codes d 0 0 [.ref 64, .int (nI x)] hp Q := by
  obtain ⟨g, g1, g2, g3, g4⟩ := hC
  refine az_M.of rfl (Nat.le_of_ble_eq_true rfl) ?_
  show az_W _ _ _ _ 0 [(0, .ref 64), (1, .int (nI x))] [] _ _
  refine az_aload_n dX12_codes_0 ?_
  refine az_getf (v := .int (nI 0)) dX12_codes_1 fl_X12_153 h64 ?_
  refine az_if_eqN (tgt := 8) dX12_codes_4 (fun c4 => ?_) (fun c4 => ?_)
  · refine az_aload_n dX12_codes_8 ?_
    refine az_getf (v := .ref 68) dX12_codes_9 fl_X12_24 h64 ?_
    refine az_sipush (v := nI 206) dX12_codes_12 ?_
    refine az_aload_n dX12_codes_15 ?_
    refine az_getf (v := .ref 68) dX12_codes_16 fl_X12_24 h64 ?_
    refine az_sipush (v := nI 205) dX12_codes_19 ?_
    refine az_ialdN (j := 205) dX12_codes_22 g1 ?_
    rw [g2]
    refine az_iaddN dX12_codes_23 ?_
    refine az_iload_n dX12_codes_24 ?_
    refine az_iastN (j := 206 + (k0 + c.length)) dX12_codes_25 g1 ?_
    rw [az_s_nI]
    refine az_aload_n dX12_codes_26 ?_
    refine az_getf (v := .ref 68) dX12_codes_27 fl_X12_24 (az_up_ne h64) ?_
    refine az_sipush (v := nI 205) dX12_codes_30 ?_
    refine az_dup2_11 dX12_codes_33 ?_
    refine az_ialdN (j := 205) dX12_codes_34 az_up_eq ?_
    rw [az_s_ne (by omega), g2]
    refine az_iconst (v := nI 1) dX12_codes_35 ?_
    refine az_iaddN dX12_codes_36 ?_
    refine az_iastN (j := 205) dX12_codes_37 az_up_eq ?_
    rw [az_s_nI]
    rw [az_up_up]
    exact az_vret dX12_codes_38 (hQ _ ⟨az_s (az_s g (206 + (k0 + c.length)) x) 205 (k0 + c.length + 1), az_up_eq, (by rw [az_s_eq, List.length_append]; rfl), (fun i hi => (by rw [List.length_append] at hi; have hi : i < c.length + 1 := hi; rw [az_s_ne (by omega), getD_appN]; by_cases e : i < c.length; rw [if_pos e, az_s_ne (by omega)]; exact g3 i e; rw [if_neg e, if_pos (by omega), show 206 + k0 + i = 206 + (k0 + c.length) by omega, az_s_eq])), (fun j hj => (by rw [az_s_ne (by omega), az_s_ne (by omega)]; exact g4 j hj))⟩ (by repeat (first | exact mf.rf | refine mf.up ?_ (by decide))))
  · exact absurd rfl c4
set_option maxHeartbeats 4000000 in
set_option maxRecDepth 100000 in
theorem m_codes {d x : Nat} {sc : Nat → Value} {b : Nat → Nat} {n : Nat} {fr : Nat → Nat} {k0 : Nat} {r : rd_R} {hp : az_Hp} {Q : Option Value → az_Hp → Prop} (hcap : mr_cp k0 r) (H : mr_R hp sc b n fr k0 (r)) (hQ : ∀ h', mr_R h' sc b n fr k0 (rd_b r (rd_enc x)) → mf hp h' [68] → Q none h') : az_M mX12_codes d 0 0 [.ref 64, .int (nI x)] hp Q := by
  match r, H with
  | .inr (f, p), H =>
    obtain ⟨-, h1, h2, h3, ⟨a, z, ki, nu, h64⟩, -⟩ := id H
    have h1 : 1 ≤ f := h1
    have h2 : f < 100 := h2
    refine az_M.of rfl (Nat.le_of_ble_eq_true rfl) ?_
    show az_W _ _ _ _ 0 [(0, .ref 64), (1, .int (nI x))] [] _ _
    refine az_aload_n dX12_codes_0 ?_
    refine az_getf (v := .int (nI f)) dX12_codes_1 fl_X12_153 h64 ?_
    refine az_if_eqN (tgt := 8) dX12_codes_4 (fun c4 => ?_) (fun c4 => ?_)
    · exact absurd c4 (by omega)
    · exact az_vret dX12_codes_7 (hQ hp H mf.rf)
  | .inl (e, c), H =>
    obtain ⟨hT, h1, h2, ⟨k, nu, wa, hk, hnu, h64⟩, hC⟩ := id H
    have h1 : e ≤ n := h1
    have hcp := hcap e c rfl
    have hn9 := hT.2.1
    refine m_codesW (c := c) (k0 := k0) (by omega) h64 hC (fun h' hC' hf => ?_)
    have hl : (c ++ [x]).length = c.length + 1 := by rw [List.length_append]; rfl
    exact hQ h' ⟨hT.fr hf, h1, (show k0 + (c ++ [x]).length ≤ e by omega), ⟨k, nu, wa, hk, hnu, hf.at h64⟩, hC'⟩ hf

