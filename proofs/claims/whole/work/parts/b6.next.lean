/-! The model's reader: the next token -/
abbrev sgT : String := ";:+-*()[]=<>"
theorem sg_len : (az_byt sgT).length = 12 := by decide +kernel
theorem sg_r : az_txt[21]? = some ("LetterNightsModel", 151, sgT) := rfl
def mrK (b : Nat → Nat) (n e k : Nat) : Prop := (rd_kd b n e = 0 ∧ k = 24) ∨ (rd_kd b n e = 1 ∧ ((k < 19 ∧ kyM b (rd_fr b n e) (rd_en b n e) k) ∨ (k = 22 ∧ ∀ m, m < 19 → ¬ kyM b (rd_fr b n e) (rd_en b n e) m))) ∨ (rd_kd b n e = 2 ∧ k = 23) ∨ (rd_kd b n e = 3 ∧ ∃ i, i < 12 ∧ k = 30 + i ∧ az_ch sgT i = b (rd_fr b n e)) ∨ (rd_kd b n e = 4 ∧ k = 25)
theorem mrK_lt {b : Nat → Nat} {n e k : Nat} (h : mrK b n e k) : k < 100 := by
  rcases h with h | h | h | ⟨-, i, h1, h2, -⟩ | h <;> omega
theorem ro_step {b : Nat → Nat} {lo hi n z : Nat} (h : z < n) (h1 : lo ≤ b z ∧ b z ≤ hi) : rd_ro b lo hi (n - z) z = rd_ro b lo hi (n - (z + 1)) (z + 1) := by
  rw [show n - z = (n - (z + 1)) + 1 by omega, rd_ro, if_pos h1]
theorem ro_stop {b : Nat → Nat} {lo hi n z : Nat} (h : ¬ (z < n ∧ lo ≤ b z ∧ b z ≤ hi)) : rd_ro b lo hi (n - z) z = z := by
  cases hz : n - z with
  | zero => rfl
  | succ f => rw [rd_ro, if_neg (fun q => h ⟨by omega, q⟩)]
theorem sk_step {b : Nat → Nat} {n a : Nat} (h : a < n) (h1 : b a = 32 ∨ b a = 10) : rd_fr b n a = rd_fr b n (a + 1) := by
  unfold rd_fr
  rw [show n - a = (n - (a + 1)) + 1 by omega, rd_sk, if_pos h1]
theorem sk_stop {b : Nat → Nat} {n a : Nat} (h : ¬ (a < n ∧ (b a = 32 ∨ b a = 10))) : rd_fr b n a = a := by
  unfold rd_fr
  cases hz : n - a with
  | zero => rfl
  | succ f => rw [rd_sk, if_neg (fun q => h ⟨by omega, q⟩)]
theorem kd_at {b : Nat → Nat} {n e a : Nat} (h : rd_fr b n e = a) : rd_kd b n e = rd_kA b n a ∧ rd_en b n e = rd_eA b n a ∧ rd_va b n e = rd_nu b a (rd_eA b n a - a) := by
  unfold rd_va rd_kd rd_en
  rw [h]
  exact ⟨rfl, rfl, rfl⟩
def sgI (x i k : Nat) : Prop := (k = 25 ∧ ∀ j, j < i → az_ch sgT j ≠ x) ∨ (∃ j, j < i ∧ k = 30 + j ∧ az_ch sgT j = x)
theorem sgF : ∀ i : Fin 12, az_ch sgT i.val < 128 := by decide +kernel

set_option maxHeartbeats 4000000 in
set_option maxRecDepth 100000 in
theorem m_nextS {d a e n : Nat} {sc : Nat → Value} {ki nu wr wa : Int32} {b tf : Nat → Nat} {hp : az_Hp} {Q : Option Value → az_Hp → Prop} (hd : 7 ≤ d) (hb : ∀ j, b j < 256) (hn9 : n ≤ 900) (h67 : hp.2 67 = some (az_I 900 (fun j => nI (tf j)))) (htf : ∀ j, j < n → tf j = b j) (he9 : e ≤ n) (hfr : rd_fr b n e = a) (han : a < n) (hNL : ¬ (97 ≤ b a ∧ b a ≤ 122)) (hND : ¬ (48 ≤ b a ∧ b a ≤ 57)) (hQ : ∀ k nu', mrK b n e k → (rd_kd b n e = 2 → nu' = nI (rd_va b n e)) → Q none (az_up hp 64 (mr_o sc (rd_fr b n e) (rd_en b n e) n (nI k) nu' wr wa))) : az_W mX12_next d 0 0 236 [(0, .ref 64)] [] (az_up hp 64 (mr_o sc a a n ki nu wr wa)) Q := by
  have hr := sg_r
  have signs : ∀ (k : Nat) (i k8 : Nat) (nu : Int32), 12 - i = k → (i ≤ 12) → (k8 < 100) → (sgI (b a) i k8) → az_W mX12_next d 0 0 254 [(0, .ref 64), (1, .int (nI i))] [] (az_up hp 64 (mr_o sc a (a + 1) n (nI k8) nu wr wa)) Q := by
    intro k
    induction k using Nat.strongRecOn with
    | _ k ih =>
    intro i k8 nu hk hi hk9 hkk
    refine az_iload_n dX12_next_254 ?_
    refine az_ldcS (k := 21) dX12_next_255 rfl rfl rfl ?_
    refine az_cVS (st := [.int (nI i)]) dX12_next_257 sv_M_115 rfl hr (s_strlen (d := d - 1) (k := 21) (by omega) sg_r ?_)
    rw [sg_len]
    refine az_icmp_geN (tgt := 294) dX12_next_260 (fun c260 => ?_) (fun c260 => ?_)
    · exact az_vret dX12_next_294 (by (try rw [az_up_up]); obtain ⟨q1, q2, q3⟩ := kd_at hfr; have hA := rd_kA_3 han hNL hND; have hmk : mrK b n e k8 := (by rcases hkk with ⟨h1, h2⟩ | ⟨j, h1, h2, h3⟩; exact Or.inr (Or.inr (Or.inr (Or.inr ⟨by rw [q1, hA.1, if_neg (rd_sg_n (fun j hj => h2 j (by have hs12 : (az_byt ";:+-*()[]=<>").length = 12 := sg_len; omega)))], h1⟩))); exact Or.inr (Or.inr (Or.inr (Or.inl ⟨by rw [q1, hA.1, if_pos (by rw [← h3]; exact rd_sg_a j (by have hs12 : (az_byt ";:+-*()[]=<>").length = 12 := sg_len; omega))], j, by omega, h2, by rw [hfr]; exact h3⟩)))); have hq := hQ k8 nu hmk (fun q => (by rw [q1, hA.1] at q; split at q <;> omega)); rw [hfr, q2, hA.2] at hq; exact hq)
    · refine az_aload_n dX12_next_263 ?_
      refine az_aload_n dX12_next_264 ?_
      refine az_getf (v := .int (nI a)) dX12_next_265 fl_X12_125 az_up_eq ?_
      refine az_cV0 (st := []) dX12_next_268 ml_X12_131 az_up_eq (m_see (d := d - 1) (b := b) (i := a) hb hn9 (az_up_ne h67) htf az_up_eq (by omega) ?_)
      rw [vS_in han]
      have hba := hb a
      refine az_ldcS (k := 21) dX12_next_271 rfl rfl rfl ?_
      refine az_iload_n dX12_next_273 ?_
      refine az_cVS (st := [.int (nI (b a))]) dX12_next_274 sv_M_121 rfl hr (s_charAt (d := d - 1) (k := 21) (by omega) sg_r (i := i) (by rw [sg_len]; omega) ?_)
      have hch := az_ch_b sg_r (j := i) (by rw [sg_len]; omega)
      refine az_icmp_neN (tgt := 288) dX12_next_277 (fun c277 => ?_) (fun c277 => ?_)
      · refine az_iincN (n := 1) (ls' := [(0, .ref 64), (1, .int (nI (i + 1)))]) dX12_next_288 ?_
        refine az_goto (tgt := 254) dX12_next_291 ?_
        try rw [az_up_up]
        first | exact ih _ (by omega) (i + 1) (30 + i) nu rfl (by omega) (by omega) (Or.inr ⟨i, Nat.lt_succ_self i, rfl, c277.symm⟩) | exact ih _ (by omega) (i + 1) k8 nu rfl (by omega) hk9 (by rcases hkk with ⟨h1, h2⟩ | ⟨j, h1, h2, h3⟩; exact Or.inl ⟨h1, fun j hj => (by by_cases e : j = i; rw [e]; exact fun q => c277 q.symm; exact h2 j (by omega))⟩; exact Or.inr ⟨j, by omega, h2, h3⟩)
      · refine az_aload_n dX12_next_280 ?_
        refine az_bipush (v := nI 30) dX12_next_281 ?_
        refine az_iload_n dX12_next_283 ?_
        refine az_iaddN dX12_next_284 ?_
        refine az_putf (fs' := [sc 0, .ref 65, .ref 66, .ref 67, .ref 68, sc 5, .int (nI a), .int (nI (a + 1)), .int (nI n), .int (nI (30 + i)), .int nu, .int wr, .int wa, sc 13, sc 14, .ref 69, .ref 70, .ref 71, sc 18, .ref 72, .ref 73, .ref 74, sc 22, sc 23, .ref 75, sc 25, .ref 76, .ref 77, .ref 78, sc 29, .ref 79, .ref 80, .ref 81, .ref 82, .ref 83, .ref 84, .ref 85, sc 37, .ref 86, .ref 87, .ref 88, .ref 89, .ref 90, .ref 91, .ref 92]) dX12_next_285 fl_X12_135 az_up_eq ?_
        refine az_iincN (n := 1) (ls' := [(0, .ref 64), (1, .int (nI (i + 1)))]) dX12_next_288 ?_
        refine az_goto (tgt := 254) dX12_next_291 ?_
        try rw [az_up_up]
        first | exact ih _ (by omega) (i + 1) (30 + i) nu rfl (by omega) (by omega) (Or.inr ⟨i, Nat.lt_succ_self i, rfl, c277.symm⟩) | exact ih _ (by omega) (i + 1) k8 nu rfl (by omega) hk9 (by rcases hkk with ⟨h1, h2⟩ | ⟨j, h1, h2, h3⟩; exact Or.inl ⟨h1, fun j hj => (by by_cases e : j = i; rw [e]; exact fun q => c277 q.symm; exact h2 j (by omega))⟩; exact Or.inr ⟨j, by omega, h2, h3⟩)
  refine az_aload_n dX12_next_236 ?_
  refine az_dup dX12_next_237 ?_
  refine az_getf (v := .int (nI a)) dX12_next_238 fl_X12_128 az_up_eq ?_
  refine az_iconst (v := nI 1) dX12_next_241 ?_
  refine az_iaddN dX12_next_242 ?_
  refine az_putf (fs' := [sc 0, .ref 65, .ref 66, .ref 67, .ref 68, sc 5, .int (nI a), .int (nI (a + 1)), .int (nI n), .int ki, .int nu, .int wr, .int wa, sc 13, sc 14, .ref 69, .ref 70, .ref 71, sc 18, .ref 72, .ref 73, .ref 74, sc 22, sc 23, .ref 75, sc 25, .ref 76, .ref 77, .ref 78, sc 29, .ref 79, .ref 80, .ref 81, .ref 82, .ref 83, .ref 84, .ref 85, sc 37, .ref 86, .ref 87, .ref 88, .ref 89, .ref 90, .ref 91, .ref 92]) dX12_next_243 fl_X12_128 az_up_eq ?_
  refine az_aload_n dX12_next_246 ?_
  refine az_bipush (v := nI 25) dX12_next_247 ?_
  refine az_putf (fs' := [sc 0, .ref 65, .ref 66, .ref 67, .ref 68, sc 5, .int (nI a), .int (nI (a + 1)), .int (nI n), .int (nI 25), .int nu, .int wr, .int wa, sc 13, sc 14, .ref 69, .ref 70, .ref 71, sc 18, .ref 72, .ref 73, .ref 74, sc 22, sc 23, .ref 75, sc 25, .ref 76, .ref 77, .ref 78, sc 29, .ref 79, .ref 80, .ref 81, .ref 82, .ref 83, .ref 84, .ref 85, sc 37, .ref 86, .ref 87, .ref 88, .ref 89, .ref 90, .ref 91, .ref 92]) dX12_next_249 fl_X12_135 az_up_eq ?_
  rw [az_up_up]
  refine az_iconst (v := nI 0) dX12_next_252 ?_
  refine az_istore_n (ls' := [(0, .ref 64), (1, .int (nI 0))]) dX12_next_253 ?_
  try rw [az_up_up]
  exact signs _ 0 25 nu rfl (Nat.zero_le _) (by decide) (Or.inl ⟨rfl, fun j hj => absurd hj (by omega)⟩)

set_option maxHeartbeats 4000000 in
set_option maxRecDepth 100000 in
theorem m_nextW {d a e n : Nat} {sc : Nat → Value} {ki nu wr wa : Int32} {b tf : Nat → Nat} {hp : az_Hp} {Q : Option Value → az_Hp → Prop} (hd : 7 ≤ d) (hb : ∀ j, b j < 256) (hn9 : n ≤ 900) (h67 : hp.2 67 = some (az_I 900 (fun j => nI (tf j)))) (htf : ∀ j, j < n → tf j = b j) (he9 : e ≤ n) (hfr : rd_fr b n e = a) (han : a < n) (hL : 97 ≤ b a ∧ b a ≤ 122) (hQ : ∀ k nu', mrK b n e k → (rd_kd b n e = 2 → nu' = nI (rd_va b n e)) → Q none (az_up hp 64 (mr_o sc (rd_fr b n e) (rd_en b n e) n (nI k) nu' wr wa))) : az_W mX12_next d 0 0 89 [(0, .ref 64)] [] (az_up hp 64 (mr_o sc a a n ki nu wr wa)) Q := by
  obtain ⟨q1, q2, q3⟩ := kd_at hfr
  obtain ⟨k1, k2⟩ := rd_kA_1 han hL
  rw [← ro_step han hL] at k2
  have hen : rd_en b n e = rd_ro b 97 122 (n - a) a := q2.trans k2
  have hkd : rd_kd b n e = 1 := q1.trans k1
  have run : ∀ (k : Nat) (z : Nat), n - z = k → (a ≤ z) → (z ≤ n) → (rd_ro b 97 122 (n - z) z = rd_ro b 97 122 (n - a) a) → az_W mX12_next d 0 0 89 [(0, .ref 64)] [] (az_up hp 64 (mr_o sc a z n ki nu wr wa)) Q := by
    intro k
    induction k using Nat.strongRecOn with
    | _ k ih =>
    intro z hk haz hzn hR
    refine az_aload_n dX12_next_89 ?_
    refine az_aload_n dX12_next_90 ?_
    refine az_getf (v := .int (nI z)) dX12_next_91 fl_X12_128 az_up_eq ?_
    refine az_cV0 (st := []) dX12_next_94 ml_X12_131 az_up_eq (m_see (d := d - 1) (b := b) (i := z) hb hn9 (az_up_ne h67) htf az_up_eq (by omega) ?_)
    refine az_cS0 (st := []) dX12_next_97 ml_X12_138 (m_isSmall (d := d - 1) (n := n) (i := z) hb ?_)
    have hs1 := @sS_le 97 122 n z b
    refine az_if_eqN (tgt := 116) dX12_next_100 (fun c100 => ?_) (fun c100 => ?_)
    · have hz0 := sS_z c100
      have hez : rd_en b n e = z := (by rw [hen, ← hR]; exact ro_stop hz0)
      refine az_aload_n dX12_next_116 ?_
      refine az_aload_n dX12_next_117 ?_
      refine az_cV0 (st := [.ref 64]) dX12_next_118 ml_X12_142 az_up_eq (m_keyAt (d := d - 1) (a := a) (z := z) (b := b) (by omega) hb hn9 (az_up_ne h67) htf az_up_eq haz hzn ?_ ?_)
      · intro k hk9 hm
        refine az_putf (fs' := [sc 0, .ref 65, .ref 66, .ref 67, .ref 68, sc 5, .int (nI a), .int (nI z), .int (nI n), .int (nI k), .int nu, .int wr, .int wa, sc 13, sc 14, .ref 69, .ref 70, .ref 71, sc 18, .ref 72, .ref 73, .ref 74, sc 22, sc 23, .ref 75, sc 25, .ref 76, .ref 77, .ref 78, sc 29, .ref 79, .ref 80, .ref 81, .ref 82, .ref 83, .ref 84, .ref 85, sc 37, .ref 86, .ref 87, .ref 88, .ref 89, .ref 90, .ref 91, .ref 92]) dX12_next_121 fl_X12_135 az_up_eq ?_
        refine az_goto (tgt := 294) dX12_next_124 ?_
        exact az_vret dX12_next_294 (by (try rw [az_up_up]); first | (have _g := hm; have hq := hQ k nu (Or.inr (Or.inl ⟨hkd, Or.inl ⟨hk9, by rw [hfr, hez]; exact hm⟩⟩)) (fun q => absurd q (by omega)); rw [hfr, hez] at hq; exact hq) | (have hq := hQ 22 nu (Or.inr (Or.inl ⟨hkd, Or.inr ⟨rfl, by rw [hfr, hez]; exact hno⟩⟩)) (fun q => absurd q (by omega)); rw [hfr, hez] at hq; exact hq))
      · intro hno
        refine az_putf (fs' := [sc 0, .ref 65, .ref 66, .ref 67, .ref 68, sc 5, .int (nI a), .int (nI z), .int (nI n), .int (nI 22), .int nu, .int wr, .int wa, sc 13, sc 14, .ref 69, .ref 70, .ref 71, sc 18, .ref 72, .ref 73, .ref 74, sc 22, sc 23, .ref 75, sc 25, .ref 76, .ref 77, .ref 78, sc 29, .ref 79, .ref 80, .ref 81, .ref 82, .ref 83, .ref 84, .ref 85, sc 37, .ref 86, .ref 87, .ref 88, .ref 89, .ref 90, .ref 91, .ref 92]) dX12_next_121 fl_X12_135 az_up_eq ?_
        refine az_goto (tgt := 294) dX12_next_124 ?_
        exact az_vret dX12_next_294 (by (try rw [az_up_up]); first | (have _g := hm; have hq := hQ k nu (Or.inr (Or.inl ⟨hkd, Or.inl ⟨hk9, by rw [hfr, hez]; exact hm⟩⟩)) (fun q => absurd q (by omega)); rw [hfr, hez] at hq; exact hq) | (have hq := hQ 22 nu (Or.inr (Or.inl ⟨hkd, Or.inr ⟨rfl, by rw [hfr, hez]; exact hno⟩⟩)) (fun q => absurd q (by omega)); rw [hfr, hez] at hq; exact hq))
    · refine az_aload_n dX12_next_103 ?_
      refine az_dup dX12_next_104 ?_
      refine az_getf (v := .int (nI z)) dX12_next_105 fl_X12_128 az_up_eq ?_
      refine az_iconst (v := nI 1) dX12_next_108 ?_
      refine az_iaddN dX12_next_109 ?_
      refine az_putf (fs' := [sc 0, .ref 65, .ref 66, .ref 67, .ref 68, sc 5, .int (nI a), .int (nI (z + 1)), .int (nI n), .int ki, .int nu, .int wr, .int wa, sc 13, sc 14, .ref 69, .ref 70, .ref 71, sc 18, .ref 72, .ref 73, .ref 74, sc 22, sc 23, .ref 75, sc 25, .ref 76, .ref 77, .ref 78, sc 29, .ref 79, .ref 80, .ref 81, .ref 82, .ref 83, .ref 84, .ref 85, sc 37, .ref 86, .ref 87, .ref 88, .ref 89, .ref 90, .ref 91, .ref 92]) dX12_next_110 fl_X12_128 az_up_eq ?_
      refine az_goto (tgt := 89) dX12_next_113 ?_
      try rw [az_up_up]
      have hz1 := sS_ne c100
      exact ih _ (by omega) (z + 1) rfl (by omega) (by omega) (by rw [← ro_step hz1.1 hz1.2]; exact hR)
  exact run _ a rfl (Nat.le_refl _) (by omega) rfl

set_option maxHeartbeats 4000000 in
set_option maxRecDepth 100000 in
theorem m_nextD {d a e n : Nat} {sc : Nat → Value} {ki nu wr wa : Int32} {b tf : Nat → Nat} {hp : az_Hp} {Q : Option Value → az_Hp → Prop} (hd : 7 ≤ d) (hb : ∀ j, b j < 256) (hn9 : n ≤ 900) (h67 : hp.2 67 = some (az_I 900 (fun j => nI (tf j)))) (htf : ∀ j, j < n → tf j = b j) (he9 : e ≤ n) (hfr : rd_fr b n e = a) (han : a < n) (hNL : ¬ (97 ≤ b a ∧ b a ≤ 122)) (hD : 48 ≤ b a ∧ b a ≤ 57) (hQ : ∀ k nu', mrK b n e k → (rd_kd b n e = 2 → nu' = nI (rd_va b n e)) → Q none (az_up hp 64 (mr_o sc (rd_fr b n e) (rd_en b n e) n (nI k) nu' wr wa))) : az_W mX12_next d 0 0 141 [(0, .ref 64)] [] (az_up hp 64 (mr_o sc a a n ki nu wr wa)) Q := by
  obtain ⟨q1, q2, q3⟩ := kd_at hfr
  obtain ⟨k1, k2⟩ := rd_kA_2 han hD
  rw [← ro_step han hD] at k2
  have hen : rd_en b n e = rd_ro b 48 57 (n - a) a := q2.trans k2
  have run : ∀ (k : Nat) (z : Nat), n - z = k → (a ≤ z) → (z ≤ n) → (rd_ro b 48 57 (n - z) z = rd_ro b 48 57 (n - a) a) → az_W mX12_next d 0 0 146 [(0, .ref 64)] [] (az_up hp 64 (mr_o sc a z n ki (nI (rd_nu b a (min (z - a) 3))) wr wa)) Q := by
    intro k
    induction k using Nat.strongRecOn with
    | _ k ih =>
    intro z hk haz hzn hR
    refine az_aload_n dX12_next_146 ?_
    refine az_aload_n dX12_next_147 ?_
    refine az_getf (v := .int (nI z)) dX12_next_148 fl_X12_128 az_up_eq ?_
    refine az_cV0 (st := []) dX12_next_151 ml_X12_131 az_up_eq (m_see (d := d - 1) (b := b) (i := z) hb hn9 (az_up_ne h67) htf az_up_eq (by omega) ?_)
    refine az_cS0 (st := []) dX12_next_154 ml_X12_145 (m_isDigit (d := d - 1) (n := n) (i := z) hb ?_)
    have hs1 := @sS_le 48 57 n z b
    refine az_if_eqN (tgt := 209) dX12_next_157 (fun c157 => ?_) (fun c157 => ?_)
    · have hz0 := sS_z c157
      have hez : rd_en b n e = z := (by rw [hen, ← hR]; exact ro_stop hz0)
      have hkd : rd_kd b n e = if 3 < z - a then 4 else 2 := (by rw [q1, k1, ← q2, hez])
      refine az_aload_n dX12_next_209 ?_
      refine az_aload_n dX12_next_210 ?_
      refine az_getf (v := .int (nI z)) dX12_next_211 fl_X12_128 az_up_eq ?_
      refine az_aload_n dX12_next_214 ?_
      refine az_getf (v := .int (nI a)) dX12_next_215 fl_X12_125 az_up_eq ?_
      refine az_isubN dX12_next_218 (by omega) ?_
      refine az_iconst (v := nI 3) dX12_next_219 ?_
      refine az_icmp_leN (tgt := 228) dX12_next_220 (fun c220 => ?_) (fun c220 => ?_)
      · refine az_bipush (v := nI 23) dX12_next_228 ?_
        refine az_putf (fs' := [sc 0, .ref 65, .ref 66, .ref 67, .ref 68, sc 5, .int (nI a), .int (nI z), .int (nI n), .int (nI 23), .int (nI (rd_nu b a (min (z - a) 3))), .int wr, .int wa, sc 13, sc 14, .ref 69, .ref 70, .ref 71, sc 18, .ref 72, .ref 73, .ref 74, sc 22, sc 23, .ref 75, sc 25, .ref 76, .ref 77, .ref 78, sc 29, .ref 79, .ref 80, .ref 81, .ref 82, .ref 83, .ref 84, .ref 85, sc 37, .ref 86, .ref 87, .ref 88, .ref 89, .ref 90, .ref 91, .ref 92]) dX12_next_230 fl_X12_135 az_up_eq ?_
        refine az_goto (tgt := 294) dX12_next_233 ?_
        exact az_vret dX12_next_294 (by (try rw [az_up_up]); first | (rw [if_pos (by omega)] at hkd; have hq := hQ 25 (nI (rd_nu b a (min (z - a) 3))) (Or.inr (Or.inr (Or.inr (Or.inr ⟨hkd, rfl⟩)))) (fun q => absurd q (by omega)); rw [hfr, hez] at hq; exact hq) | (rw [if_neg (by omega)] at hkd; have hq := hQ 23 (nI (rd_nu b a (min (z - a) 3))) (Or.inr (Or.inr (Or.inl ⟨hkd, rfl⟩))) (fun q => (by rw [q3, ← q2, hez, show min (z - a) 3 = z - a by omega])); rw [hfr, hez] at hq; exact hq))
      · refine az_bipush (v := nI 25) dX12_next_223 ?_
        refine az_goto (tgt := 230) dX12_next_225 ?_
        refine az_putf (fs' := [sc 0, .ref 65, .ref 66, .ref 67, .ref 68, sc 5, .int (nI a), .int (nI z), .int (nI n), .int (nI 25), .int (nI (rd_nu b a (min (z - a) 3))), .int wr, .int wa, sc 13, sc 14, .ref 69, .ref 70, .ref 71, sc 18, .ref 72, .ref 73, .ref 74, sc 22, sc 23, .ref 75, sc 25, .ref 76, .ref 77, .ref 78, sc 29, .ref 79, .ref 80, .ref 81, .ref 82, .ref 83, .ref 84, .ref 85, sc 37, .ref 86, .ref 87, .ref 88, .ref 89, .ref 90, .ref 91, .ref 92]) dX12_next_230 fl_X12_135 az_up_eq ?_
        refine az_goto (tgt := 294) dX12_next_233 ?_
        exact az_vret dX12_next_294 (by (try rw [az_up_up]); first | (rw [if_pos (by omega)] at hkd; have hq := hQ 25 (nI (rd_nu b a (min (z - a) 3))) (Or.inr (Or.inr (Or.inr (Or.inr ⟨hkd, rfl⟩)))) (fun q => absurd q (by omega)); rw [hfr, hez] at hq; exact hq) | (rw [if_neg (by omega)] at hkd; have hq := hQ 23 (nI (rd_nu b a (min (z - a) 3))) (Or.inr (Or.inr (Or.inl ⟨hkd, rfl⟩))) (fun q => (by rw [q3, ← q2, hez, show min (z - a) 3 = z - a by omega])); rw [hfr, hez] at hq; exact hq))
    · have hz1 := sS_ne c157
      have hbz := hb z
      refine az_aload_n dX12_next_160 ?_
      refine az_getf (v := .int (nI z)) dX12_next_161 fl_X12_128 az_up_eq ?_
      refine az_aload_n dX12_next_164 ?_
      refine az_getf (v := .int (nI a)) dX12_next_165 fl_X12_125 az_up_eq ?_
      refine az_isubN dX12_next_168 (by omega) ?_
      refine az_iconst (v := nI 3) dX12_next_169 ?_
      refine az_icmp_geN (tgt := 196) dX12_next_170 (fun c170 => ?_) (fun c170 => ?_)
      · refine az_aload_n dX12_next_196 ?_
        refine az_dup dX12_next_197 ?_
        refine az_getf (v := .int (nI z)) dX12_next_198 fl_X12_128 az_up_eq ?_
        refine az_iconst (v := nI 1) dX12_next_201 ?_
        refine az_iaddN dX12_next_202 ?_
        refine az_putf (fs' := [sc 0, .ref 65, .ref 66, .ref 67, .ref 68, sc 5, .int (nI a), .int (nI (z + 1)), .int (nI n), .int ki, .int (nI (rd_nu b a (min (z - a) 3))), .int wr, .int wa, sc 13, sc 14, .ref 69, .ref 70, .ref 71, sc 18, .ref 72, .ref 73, .ref 74, sc 22, sc 23, .ref 75, sc 25, .ref 76, .ref 77, .ref 78, sc 29, .ref 79, .ref 80, .ref 81, .ref 82, .ref 83, .ref 84, .ref 85, sc 37, .ref 86, .ref 87, .ref 88, .ref 89, .ref 90, .ref 91, .ref 92]) dX12_next_203 fl_X12_128 az_up_eq ?_
        refine az_goto (tgt := 146) dX12_next_206 ?_
        try rw [az_up_up]
        first | (rw [show 10 * rd_nu b a (min (z - a) 3) + b z - 48 = rd_nu b a (min (z + 1 - a) 3) from (by rw [show min (z - a) 3 = z - a by omega, show min (z + 1 - a) 3 = (z - a) + 1 by omega, rd_nu, show a + (z - a) = z by omega, Nat.mul_comm])]; exact ih _ (by omega) (z + 1) rfl (by omega) (by omega) (by rw [← ro_step hz1.1 hz1.2]; exact hR)) | (rw [show rd_nu b a (min (z - a) 3) = rd_nu b a (min (z + 1 - a) 3) from (by rw [show min (z - a) 3 = min (z + 1 - a) 3 by omega])]; exact ih _ (by omega) (z + 1) rfl (by omega) (by omega) (by rw [← ro_step hz1.1 hz1.2]; exact hR))
      · refine az_aload_n dX12_next_173 ?_
        refine az_bipush (v := nI 10) dX12_next_174 ?_
        refine az_aload_n dX12_next_176 ?_
        refine az_getf (v := .int (nI (rd_nu b a (min (z - a) 3)))) dX12_next_177 fl_X12_148 az_up_eq ?_
        refine az_imulN dX12_next_180 ?_
        refine az_aload_n dX12_next_181 ?_
        refine az_aload_n dX12_next_182 ?_
        refine az_getf (v := .int (nI z)) dX12_next_183 fl_X12_128 az_up_eq ?_
        refine az_cV0 (st := [.int (nI (10 * (rd_nu b a (min (z - a) 3)))), .ref 64]) dX12_next_186 ml_X12_131 az_up_eq (m_see (d := d - 1) (b := b) (i := z) hb hn9 (az_up_ne h67) htf az_up_eq (by omega) ?_)
        rw [vS_in hz1.1]
        refine az_iaddN dX12_next_189 ?_
        refine az_bipush (v := nI 48) dX12_next_190 ?_
        refine az_isubN dX12_next_192 (by omega) ?_
        refine az_putf (fs' := [sc 0, .ref 65, .ref 66, .ref 67, .ref 68, sc 5, .int (nI a), .int (nI z), .int (nI n), .int ki, .int (nI (((10 * (rd_nu b a (min (z - a) 3))) + (b z)) - 48)), .int wr, .int wa, sc 13, sc 14, .ref 69, .ref 70, .ref 71, sc 18, .ref 72, .ref 73, .ref 74, sc 22, sc 23, .ref 75, sc 25, .ref 76, .ref 77, .ref 78, sc 29, .ref 79, .ref 80, .ref 81, .ref 82, .ref 83, .ref 84, .ref 85, sc 37, .ref 86, .ref 87, .ref 88, .ref 89, .ref 90, .ref 91, .ref 92]) dX12_next_193 fl_X12_148 az_up_eq ?_
        refine az_aload_n dX12_next_196 ?_
        refine az_dup dX12_next_197 ?_
        refine az_getf (v := .int (nI z)) dX12_next_198 fl_X12_128 az_up_eq ?_
        refine az_iconst (v := nI 1) dX12_next_201 ?_
        refine az_iaddN dX12_next_202 ?_
        refine az_putf (fs' := [sc 0, .ref 65, .ref 66, .ref 67, .ref 68, sc 5, .int (nI a), .int (nI (z + 1)), .int (nI n), .int ki, .int (nI (((10 * (rd_nu b a (min (z - a) 3))) + (b z)) - 48)), .int wr, .int wa, sc 13, sc 14, .ref 69, .ref 70, .ref 71, sc 18, .ref 72, .ref 73, .ref 74, sc 22, sc 23, .ref 75, sc 25, .ref 76, .ref 77, .ref 78, sc 29, .ref 79, .ref 80, .ref 81, .ref 82, .ref 83, .ref 84, .ref 85, sc 37, .ref 86, .ref 87, .ref 88, .ref 89, .ref 90, .ref 91, .ref 92]) dX12_next_203 fl_X12_128 az_up_eq ?_
        rw [az_up_up]
        refine az_goto (tgt := 146) dX12_next_206 ?_
        try rw [az_up_up]
        first | (rw [show 10 * rd_nu b a (min (z - a) 3) + b z - 48 = rd_nu b a (min (z + 1 - a) 3) from (by rw [show min (z - a) 3 = z - a by omega, show min (z + 1 - a) 3 = (z - a) + 1 by omega, rd_nu, show a + (z - a) = z by omega, Nat.mul_comm])]; exact ih _ (by omega) (z + 1) rfl (by omega) (by omega) (by rw [← ro_step hz1.1 hz1.2]; exact hR)) | (rw [show rd_nu b a (min (z - a) 3) = rd_nu b a (min (z + 1 - a) 3) from (by rw [show min (z - a) 3 = min (z + 1 - a) 3 by omega])]; exact ih _ (by omega) (z + 1) rfl (by omega) (by omega) (by rw [← ro_step hz1.1 hz1.2]; exact hR))
  refine az_aload_n dX12_next_141 ?_
  refine az_iconst (v := nI 0) dX12_next_142 ?_
  refine az_putf (fs' := [sc 0, .ref 65, .ref 66, .ref 67, .ref 68, sc 5, .int (nI a), .int (nI a), .int (nI n), .int ki, .int (nI 0), .int wr, .int wa, sc 13, sc 14, .ref 69, .ref 70, .ref 71, sc 18, .ref 72, .ref 73, .ref 74, sc 22, sc 23, .ref 75, sc 25, .ref 76, .ref 77, .ref 78, sc 29, .ref 79, .ref 80, .ref 81, .ref 82, .ref 83, .ref 84, .ref 85, sc 37, .ref 86, .ref 87, .ref 88, .ref 89, .ref 90, .ref 91, .ref 92]) dX12_next_143 fl_X12_148 az_up_eq ?_
  try rw [az_up_up]
  rw [show nI 0 = nI (rd_nu b a (min (a - a) 3)) from (by rw [Nat.sub_self]; rfl)]
  exact run _ a rfl (Nat.le_refl _) (by omega) rfl

set_option maxHeartbeats 4000000 in
set_option maxRecDepth 100000 in
theorem m_next {d a e n : Nat} {sc : Nat → Value} {ki nu wr wa : Int32} {b tf : Nat → Nat} {hp : az_Hp} {Q : Option Value → az_Hp → Prop} (hd : 7 ≤ d) (hb : ∀ j, b j < 256) (hn9 : n ≤ 900) (h67 : hp.2 67 = some (az_I 900 (fun j => nI (tf j)))) (htf : ∀ j, j < n → tf j = b j) (h64 : hp.2 64 = some (mr_o sc a e n ki nu wr wa)) (he9 : e ≤ n) (hQ : ∀ k nu', mrK b n e k → (rd_kd b n e = 2 → nu' = nI (rd_va b n e)) → Q none (az_up hp 64 (mr_o sc (rd_fr b n e) (rd_en b n e) n (nI k) nu' wr wa))) : az_M mX12_next d 0 0 [.ref 64] hp Q := by
  have skip : ∀ (k : Nat) (a : Nat), n - a = k → (e ≤ a) → (a ≤ n) → (rd_fr b n a = rd_fr b n e) → az_W mX12_next d 0 0 8 [(0, .ref 64)] [] (az_up hp 64 (mr_o sc a e n ki nu wr wa)) Q := by
    intro k
    induction k using Nat.strongRecOn with
    | _ k ih =>
    intro a hk hea han hF
    refine az_aload_n dX12_next_8 ?_
    refine az_aload_n dX12_next_9 ?_
    refine az_getf (v := .int (nI a)) dX12_next_10 fl_X12_125 az_up_eq ?_
    refine az_cV0 (st := []) dX12_next_13 ml_X12_131 az_up_eq (m_see (d := d - 1) (b := b) (i := a) hb hn9 (az_up_ne h67) htf az_up_eq (by omega) ?_)
    refine az_bipush (v := nI 10) dX12_next_16 ?_
    refine az_icmp_eq (tgt := 34) dX12_next_18 (fun c18 => ?_) (fun c18 => ?_)
    · have hsk : a < n ∧ (b a = 32 ∨ b a = 10) := (by first | (have := (vS_eq hb (by decide)).mp c18; exact ⟨this.1, Or.inr this.2⟩) | (have := (vS_eq hb (by decide)).mp c31; exact ⟨this.1, Or.inl this.2⟩))
      refine az_aload_n dX12_next_34 ?_
      refine az_dup dX12_next_35 ?_
      refine az_getf (v := .int (nI a)) dX12_next_36 fl_X12_125 az_up_eq ?_
      refine az_iconst (v := nI 1) dX12_next_39 ?_
      refine az_iaddN dX12_next_40 ?_
      refine az_putf (fs' := [sc 0, .ref 65, .ref 66, .ref 67, .ref 68, sc 5, .int (nI (a + 1)), .int (nI e), .int (nI n), .int ki, .int nu, .int wr, .int wa, sc 13, sc 14, .ref 69, .ref 70, .ref 71, sc 18, .ref 72, .ref 73, .ref 74, sc 22, sc 23, .ref 75, sc 25, .ref 76, .ref 77, .ref 78, sc 29, .ref 79, .ref 80, .ref 81, .ref 82, .ref 83, .ref 84, .ref 85, sc 37, .ref 86, .ref 87, .ref 88, .ref 89, .ref 90, .ref 91, .ref 92]) dX12_next_41 fl_X12_125 az_up_eq ?_
      refine az_goto (tgt := 8) dX12_next_44 ?_
      try rw [az_up_up]
      exact ih _ (by omega) (a + 1) rfl (by omega) (by omega) (by rw [← sk_step hsk.1 hsk.2]; exact hF)
    · refine az_aload_n dX12_next_21 ?_
      refine az_aload_n dX12_next_22 ?_
      refine az_getf (v := .int (nI a)) dX12_next_23 fl_X12_125 az_up_eq ?_
      refine az_cV0 (st := []) dX12_next_26 ml_X12_131 az_up_eq (m_see (d := d - 1) (b := b) (i := a) hb hn9 (az_up_ne h67) htf az_up_eq (by omega) ?_)
      refine az_bipush (v := nI 32) dX12_next_29 ?_
      refine az_icmp_ne (tgt := 47) dX12_next_31 (fun c31 => ?_) (fun c31 => ?_)
      · have hfr : rd_fr b n e = a := (by rw [← hF]; exact sk_stop (fun q => q.2.elim (fun q2 => c31 ((vS_eq hb (by decide)).mpr ⟨q.1, q2⟩)) (fun q2 => c18 ((vS_eq hb (by decide)).mpr ⟨q.1, q2⟩))))
        refine az_aload_n dX12_next_47 ?_
        refine az_aload_n dX12_next_48 ?_
        refine az_getf (v := .int (nI a)) dX12_next_49 fl_X12_125 az_up_eq ?_
        refine az_putf (fs' := [sc 0, .ref 65, .ref 66, .ref 67, .ref 68, sc 5, .int (nI a), .int (nI a), .int (nI n), .int ki, .int nu, .int wr, .int wa, sc 13, sc 14, .ref 69, .ref 70, .ref 71, sc 18, .ref 72, .ref 73, .ref 74, sc 22, sc 23, .ref 75, sc 25, .ref 76, .ref 77, .ref 78, sc 29, .ref 79, .ref 80, .ref 81, .ref 82, .ref 83, .ref 84, .ref 85, sc 37, .ref 86, .ref 87, .ref 88, .ref 89, .ref 90, .ref 91, .ref 92]) dX12_next_52 fl_X12_128 az_up_eq ?_
        refine az_aload_n dX12_next_55 ?_
        refine az_getf (v := .int (nI a)) dX12_next_56 fl_X12_125 az_up_eq ?_
        refine az_aload_n dX12_next_59 ?_
        refine az_getf (v := .int (nI n)) dX12_next_60 fl_X12_110 az_up_eq ?_
        refine az_icmp_ltN (tgt := 75) dX12_next_63 (fun c63 => ?_) (fun c63 => ?_)
        · refine az_aload_n dX12_next_75 ?_
          refine az_aload_n dX12_next_76 ?_
          refine az_getf (v := .int (nI a)) dX12_next_77 fl_X12_125 az_up_eq ?_
          refine az_cV0 (st := []) dX12_next_80 ml_X12_131 az_up_eq (m_see (d := d - 1) (b := b) (i := a) hb hn9 (az_up_ne (az_up_ne h67)) htf az_up_eq (by omega) ?_)
          refine az_cS0 (st := []) dX12_next_83 ml_X12_138 (m_isSmall (d := d - 1) (n := n) (i := a) hb ?_)
          have hs1 := @sS_le 97 122 n a b
          refine az_if_eqN (tgt := 127) dX12_next_86 (fun c86 => ?_) (fun c86 => ?_)
          · refine az_aload_n dX12_next_127 ?_
            refine az_aload_n dX12_next_128 ?_
            refine az_getf (v := .int (nI a)) dX12_next_129 fl_X12_125 az_up_eq ?_
            refine az_cV0 (st := []) dX12_next_132 ml_X12_131 az_up_eq (m_see (d := d - 1) (b := b) (i := a) hb hn9 (az_up_ne (az_up_ne h67)) htf az_up_eq (by omega) ?_)
            refine az_cS0 (st := []) dX12_next_135 ml_X12_145 (m_isDigit (d := d - 1) (n := n) (i := a) hb ?_)
            have hs2 := @sS_le 48 57 n a b
            refine az_if_eqN (tgt := 236) dX12_next_138 (fun c138 => ?_) (fun c138 => ?_)
            · try rw [az_up_up]
              exact m_nextS hd hb hn9 h67 htf he9 hfr (by omega) (fun q => sS_z c86 ⟨by omega, q⟩) (fun q => sS_z c138 ⟨by omega, q⟩) hQ
            · try rw [az_up_up]
              exact m_nextD hd hb hn9 h67 htf he9 hfr (by omega) (fun q => sS_z c86 ⟨by omega, q⟩) (sS_ne c138).2 hQ
          · try rw [az_up_up]
            exact m_nextW hd hb hn9 h67 htf he9 hfr (by omega) (sS_ne c86).2 hQ
        · refine az_aload_n dX12_next_66 ?_
          refine az_bipush (v := nI 24) dX12_next_67 ?_
          refine az_putf (fs' := [sc 0, .ref 65, .ref 66, .ref 67, .ref 68, sc 5, .int (nI a), .int (nI a), .int (nI n), .int (nI 24), .int nu, .int wr, .int wa, sc 13, sc 14, .ref 69, .ref 70, .ref 71, sc 18, .ref 72, .ref 73, .ref 74, sc 22, sc 23, .ref 75, sc 25, .ref 76, .ref 77, .ref 78, sc 29, .ref 79, .ref 80, .ref 81, .ref 82, .ref 83, .ref 84, .ref 85, sc 37, .ref 86, .ref 87, .ref 88, .ref 89, .ref 90, .ref 91, .ref 92]) dX12_next_69 fl_X12_135 az_up_eq ?_
          rw [az_up_up]
          refine az_goto (tgt := 294) dX12_next_72 ?_
          exact az_vret dX12_next_294 (by (try rw [az_up_up]); obtain ⟨q1, q2, q3⟩ := kd_at hfr; have h0 : rd_kd b n e = 0 := (by rw [q1]; exact rd_kA_0 (by omega)); have hz : rd_en b n e = a := (by rw [q2, rd_eA_n (by omega)]; omega); have hq := hQ 24 nu (Or.inl ⟨h0, rfl⟩) (fun q => absurd q (by omega)); rw [hfr, hz] at hq; exact hq)
      · have hsk : a < n ∧ (b a = 32 ∨ b a = 10) := (by first | (have := (vS_eq hb (by decide)).mp c18; exact ⟨this.1, Or.inr this.2⟩) | (have := (vS_eq hb (by decide)).mp c31; exact ⟨this.1, Or.inl this.2⟩))
        refine az_aload_n dX12_next_34 ?_
        refine az_dup dX12_next_35 ?_
        refine az_getf (v := .int (nI a)) dX12_next_36 fl_X12_125 az_up_eq ?_
        refine az_iconst (v := nI 1) dX12_next_39 ?_
        refine az_iaddN dX12_next_40 ?_
        refine az_putf (fs' := [sc 0, .ref 65, .ref 66, .ref 67, .ref 68, sc 5, .int (nI (a + 1)), .int (nI e), .int (nI n), .int ki, .int nu, .int wr, .int wa, sc 13, sc 14, .ref 69, .ref 70, .ref 71, sc 18, .ref 72, .ref 73, .ref 74, sc 22, sc 23, .ref 75, sc 25, .ref 76, .ref 77, .ref 78, sc 29, .ref 79, .ref 80, .ref 81, .ref 82, .ref 83, .ref 84, .ref 85, sc 37, .ref 86, .ref 87, .ref 88, .ref 89, .ref 90, .ref 91, .ref 92]) dX12_next_41 fl_X12_125 az_up_eq ?_
        refine az_goto (tgt := 8) dX12_next_44 ?_
        try rw [az_up_up]
        exact ih _ (by omega) (a + 1) rfl (by omega) (by omega) (by rw [← sk_step hsk.1 hsk.2]; exact hF)
  refine az_M.of rfl (Nat.le_of_ble_eq_true rfl) ?_
  show az_W _ _ _ _ 0 [(0, .ref 64)] [] _ _
  refine az_aload_n dX12_next_0 ?_
  refine az_aload_n dX12_next_1 ?_
  refine az_getf (v := .int (nI e)) dX12_next_2 fl_X12_128 h64 ?_
  refine az_putf (fs' := [sc 0, .ref 65, .ref 66, .ref 67, .ref 68, sc 5, .int (nI e), .int (nI e), .int (nI n), .int ki, .int nu, .int wr, .int wa, sc 13, sc 14, .ref 69, .ref 70, .ref 71, sc 18, .ref 72, .ref 73, .ref 74, sc 22, sc 23, .ref 75, sc 25, .ref 76, .ref 77, .ref 78, sc 29, .ref 79, .ref 80, .ref 81, .ref 82, .ref 83, .ref 84, .ref 85, sc 37, .ref 86, .ref 87, .ref 88, .ref 89, .ref 90, .ref 91, .ref 92]) dX12_next_5 fl_X12_125 h64 ?_
  try rw [az_up_up]
  exact skip _ e rfl (Nat.le_refl _) he9 rfl

