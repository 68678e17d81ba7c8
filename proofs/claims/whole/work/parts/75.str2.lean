/-! String: length, charAt, indexOf -/
def az_ch (t : String) (j : Nat) : Nat := ((az_byt t).getD j 0).toBitVec.toNat
theorem az_ch_is (t : String) (j : Nat) : (az_byt t).getD j 0 = nI (az_ch t j) := (nI_back _).symm
theorem az_ch_b {k : Nat} {r : String × Nat × String} (hr : az_txt[k]? = some r) {j : Nat} (hj : j < (az_byt r.2.2).length) : 1 ≤ az_ch r.2.2 j ∧ az_ch r.2.2 j < 128 := by
  obtain ⟨x, h1, h2, h3⟩ := az_byt_b hr j hj
  have h4 : az_ch r.2.2 j = x := by
    unfold az_ch
    rw [h3, nI_bv]
    simp
    omega
  omega
theorem st_shr0 (x : Int32) : x >>> (nI 0 &&& 31) = x := by
  have : (nI 0 &&& 31 : Int32) = 0 := by decide
  rw [this]
  simp
theorem st_c2F : ∀ x : Fin 128, ((nI (x.val &&& 255)).toUInt32 % 65536).toInt32 = nI x.val := by decide +kernel
theorem st_c2 {x : Nat} (h : x < 128) : ((nI (x &&& 255)).toUInt32 % 65536).toInt32 = nI x := st_c2F ⟨x, h⟩
theorem st_c1F : ∀ x : Fin 128, ((nI x.val).toUInt32 % 65536).toInt32 = nI x.val := by decide +kernel
theorem st_c1 {x : Nat} (h : x < 128) : ((nI x).toUInt32 % 65536).toInt32 = nI x := st_c1F ⟨x, h⟩
theorem st_b8F : ∀ x : Fin 128, (nI x.val).toInt8.toInt32 = nI x.val := by decide +kernel
theorem st_b8 {x : Nat} (h : x < 128) : (nI x).toInt8.toInt32 = nI x := st_b8F ⟨x, h⟩
theorem st_narF : ∀ x : Fin 128, narrow .char (.int (nI x.val)) = .int (nI x.val) := by decide +kernel
theorem st_nar {x : Nat} (h : x < 128) : narrow .char (.int (nI x)) = .int (nI x) := st_narF ⟨x, h⟩
set_option maxRecDepth 100000 in
theorem s_coder {d k : Nat} {r : String × Nat × String} {hp : az_Hp} {Q : Option Value → az_Hp → Prop} (hr : az_txt[k]? = some r) (hQ : Q (some (.int (nI 0))) hp) : az_M mJ0_coder_7d493 d 0 0 [.retAddr (2 * k)] hp Q := by
  refine az_M.of rfl (Nat.le_of_ble_eq_true rfl) ?_
  show az_W _ _ _ _ 0 [(0, .retAddr (2 * k))] [] _ _
  refine az_getsC dJ0_coder_7d493_0 rfl ?_
  refine az_if_eqN (tgt := 13) dJ0_coder_7d493_3 (fun c3 => ?_) (fun c3 => ?_)
  · exact absurd c3 (by omega)
  · refine az_aload_nS dJ0_coder_7d493_6 ?_
    refine az_getSC dJ0_coder_7d493_7 rfl hr ?_
    refine az_goto (tgt := 14) dJ0_coder_7d493_10 ?_
    exact az_iret dJ0_coder_7d493_14 (hQ)
set_option maxRecDepth 100000 in
theorem s_isLatin1 {d k : Nat} {r : String × Nat × String} {hp : az_Hp} {Q : Option Value → az_Hp → Prop} (hr : az_txt[k]? = some r) (hQ : Q (some (.int (nI 1))) hp) : az_M mJ0_isLatin1_aae02 d 0 0 [.retAddr (2 * k)] hp Q := by
  refine az_M.of rfl (Nat.le_of_ble_eq_true rfl) ?_
  show az_W _ _ _ _ 0 [(0, .retAddr (2 * k))] [] _ _
  refine az_getsC dJ0_isLatin1_aae02_0 rfl ?_
  refine az_if_eqN (tgt := 17) dJ0_isLatin1_aae02_3 (fun c3 => ?_) (fun c3 => ?_)
  · exact absurd c3 (by omega)
  · refine az_aload_nS dJ0_isLatin1_aae02_6 ?_
    refine az_getSC dJ0_isLatin1_aae02_7 rfl hr ?_
    refine az_if_neN (tgt := 17) dJ0_isLatin1_aae02_10 (fun c10 => ?_) (fun c10 => ?_)
    · exact absurd rfl c10
    · refine az_iconst (v := nI 1) dJ0_isLatin1_aae02_13 ?_
      refine az_goto (tgt := 18) dJ0_isLatin1_aae02_14 ?_
      exact az_iret dJ0_isLatin1_aae02_18 (hQ)
set_option maxRecDepth 100000 in
theorem s_strlen {d k : Nat} {r : String × Nat × String} {hp : az_Hp} {Q : Option Value → az_Hp → Prop} (hd : 1 ≤ d) (hr : az_txt[k]? = some r) (hQ : Q (some (.int (nI (az_byt r.2.2).length))) hp) : az_M mJ0_length_8abf5 d 0 0 [.retAddr (2 * k)] hp Q := by
  refine az_M.of rfl (Nat.le_of_ble_eq_true rfl) ?_
  show az_W _ _ _ _ 0 [(0, .retAddr (2 * k))] [] _ _
  refine az_aload_nS dJ0_length_8abf5_0 ?_
  refine az_getSV dJ0_length_8abf5_1 rfl hr ?_
  refine az_alenS dJ0_length_8abf5_4 hr ?_
  refine az_aload_nS dJ0_length_8abf5_5 ?_
  refine az_cVS (st := [.int (nI ((az_byt r.2.2).length))]) dJ0_length_8abf5_6 sv_S_335 rfl hr (s_coder (d := d - 1) hr ?_)
  refine az_ishr dJ0_length_8abf5_9 ?_
  rw [st_shr0]
  exact az_iret dJ0_length_8abf5_10 (hQ)
set_option maxRecDepth 100000 in
theorem s_checkIndexN {d i n : Nat} {hp : az_Hp} {Q : Option Value → az_Hp → Prop} (hi : i < n) (hn : n < 2 ^ 31) (hQ : Q (some (.int (nI i))) hp) : az_M mJ3_checkIndex_8e157 d 0 0 [.int (nI i), .int (nI n), .null] hp Q := by
  refine az_M.of rfl (Nat.le_of_ble_eq_true rfl) ?_
  show az_W _ _ _ _ 0 [(0, .int (nI i)), (1, .int (nI n)), (2, .null)] [] _ _
  refine az_iload_n dJ3_checkIndex_8e157_0 ?_
  refine az_if_ltN (tgt := 9) dJ3_checkIndex_8e157_1 (fun c1 => ?_) (fun c1 => ?_)
  · first | exact c1.elim | exact absurd c1 (by omega)
  · refine az_iload_n dJ3_checkIndex_8e157_4 ?_
    refine az_iload_n dJ3_checkIndex_8e157_5 ?_
    refine az_icmp_ltN (tgt := 16) dJ3_checkIndex_8e157_6 (fun c6 => ?_) (fun c6 => ?_)
    · refine az_iload_n dJ3_checkIndex_8e157_16 ?_
      exact az_iret dJ3_checkIndex_8e157_17 (hQ)
    · exact absurd hi (by omega)
set_option maxRecDepth 100000 in
theorem s_checkIndexS {d i n : Nat} {hp : az_Hp} {Q : Option Value → az_Hp → Prop} (hi : i < n) (hn : n < 2 ^ 31) (hQ : Q (some (.int (nI i))) hp) : az_M mJ3_checkIndex_8e157 d 0 0 [.int (nI i), .int (nI n), .retAddr 44] hp Q := by
  refine az_M.of rfl (Nat.le_of_ble_eq_true rfl) ?_
  show az_W _ _ _ _ 0 [(0, .int (nI i)), (1, .int (nI n)), (2, .retAddr 44)] [] _ _
  refine az_iload_n dJ3_checkIndex_8e157_0 ?_
  refine az_if_ltN (tgt := 9) dJ3_checkIndex_8e157_1 (fun c1 => ?_) (fun c1 => ?_)
  · first | exact c1.elim | exact absurd c1 (by omega)
  · refine az_iload_n dJ3_checkIndex_8e157_4 ?_
    refine az_iload_n dJ3_checkIndex_8e157_5 ?_
    refine az_icmp_ltN (tgt := 16) dJ3_checkIndex_8e157_6 (fun c6 => ?_) (fun c6 => ?_)
    · refine az_iload_n dJ3_checkIndex_8e157_16 ?_
      exact az_iret dJ3_checkIndex_8e157_17 (hQ)
    · exact absurd hi (by omega)
theorem s_checkIndex {d i n : Nat} {hp : az_Hp} {Q : Option Value → az_Hp → Prop} (hd : 1 ≤ d) (hi : i < n) (hn : n < 2 ^ 31) (hQ : Q none hp) : az_M mJ0_checkIndex_df160 d 0 0 [.int (nI i), .int (nI n)] hp Q := by
  refine az_M.of rfl (Nat.le_of_ble_eq_true rfl) ?_
  show az_W _ _ _ _ 0 [(0, .int (nI i)), (1, .int (nI n))] [] _ _
  refine az_iload_n dJ0_checkIndex_df160_0 ?_
  refine az_iload_n dJ0_checkIndex_df160_1 ?_
  refine az_getsF dJ0_checkIndex_df160_2 rfl ?_ ?_
  · refine az_cS0 (st := []) dJ0_checkIndex_df160_5 ml_J0_1059 (s_checkIndexN (d := d - 1) hi hn ?_)
    refine az_pop dJ0_checkIndex_df160_8 ?_
    exact az_vret dJ0_checkIndex_df160_9 hQ
  · refine az_cS0 (st := []) dJ0_checkIndex_df160_5 ml_J0_1059 (s_checkIndexS (d := d - 1) hi hn ?_)
    refine az_pop dJ0_checkIndex_df160_8 ?_
    exact az_vret dJ0_checkIndex_df160_9 hQ
set_option maxRecDepth 100000 in
theorem s_charAt1 {d k i : Nat} {r : String × Nat × String} {hp : az_Hp} {Q : Option Value → az_Hp → Prop} (hd : 2 ≤ d) (hr : az_txt[k]? = some r) (hi : i < (az_byt r.2.2).length) (hQ : Q (some (.int (nI (az_ch r.2.2 i)))) hp) : az_M mJ1_charAt_3b067 d 0 0 [.retAddr (2 * k + 1), .int (nI i)] hp Q := by
  have hl := az_byt_lt hr
  have hb := az_ch_b hr hi
  refine az_M.of rfl (Nat.le_of_ble_eq_true rfl) ?_
  show az_W _ _ _ _ 0 [(0, .retAddr (2 * k + 1)), (1, .int (nI i))] [] _ _
  refine az_iload_n dJ1_charAt_3b067_0 ?_
  refine az_aload_nS dJ1_charAt_3b067_1 ?_
  refine az_alenS dJ1_charAt_3b067_2 hr ?_
  refine az_cS0 (st := []) dJ1_charAt_3b067_3 ml_J1_9 (s_checkIndex (d := d - 1) (by omega) hi (by omega) ?_)
  refine az_aload_nS dJ1_charAt_3b067_6 ?_
  refine az_iload_n dJ1_charAt_3b067_7 ?_
  refine az_baldS (j := i) dJ1_charAt_3b067_8 hr ?_
  rw [az_ch_is]
  refine az_sipush (v := nI 255) dJ1_charAt_3b067_9 ?_
  refine az_iandN dJ1_charAt_3b067_12 ?_
  refine az_i2c dJ1_charAt_3b067_13 ?_
  rw [st_c2 hb.2]
  exact az_iret dJ1_charAt_3b067_14 (hQ) (hn := st_nar hb.2)
set_option maxRecDepth 100000 in
theorem s_charAt {d k i : Nat} {r : String × Nat × String} {hp : az_Hp} {Q : Option Value → az_Hp → Prop} (hd : 3 ≤ d) (hr : az_txt[k]? = some r) (hi : i < (az_byt r.2.2).length) (hQ : Q (some (.int (nI (az_ch r.2.2 i)))) hp) : az_M mJ0_charAt_5068e d 0 0 [.retAddr (2 * k), .int (nI i)] hp Q := by
  have hb := az_ch_b hr hi
  refine az_M.of rfl (Nat.le_of_ble_eq_true rfl) ?_
  show az_W _ _ _ _ 0 [(0, .retAddr (2 * k)), (1, .int (nI i))] [] _ _
  refine az_aload_nS dJ0_charAt_5068e_0 ?_
  refine az_cVS (st := []) dJ0_charAt_5068e_1 sv_S_492 rfl hr (s_isLatin1 (d := d - 1) hr ?_)
  refine az_if_eqN (tgt := 16) dJ0_charAt_5068e_4 (fun c4 => ?_) (fun c4 => ?_)
  · exact absurd c4 (by omega)
  · refine az_aload_nS dJ0_charAt_5068e_7 ?_
    refine az_getSV dJ0_charAt_5068e_8 rfl hr ?_
    refine az_iload_n dJ0_charAt_5068e_11 ?_
    refine az_cS0 (st := []) dJ0_charAt_5068e_12 ml_J0_495 (s_charAt1 (d := d - 1) (by omega) hr hi ?_)
    exact az_iret dJ0_charAt_5068e_15 (hQ) (hn := st_nar hb.2)
set_option maxRecDepth 100000 in
theorem s_canEncode {d c : Nat} {hp : az_Hp} {Q : Option Value → az_Hp → Prop} (hc : c < 128) (hQ : Q (some (.int (nI 1))) hp) : az_M mJ1_canEncode_9a6ad d 0 0 [.int (nI c)] hp Q := by
  refine az_M.of rfl (Nat.le_of_ble_eq_true rfl) ?_
  show az_W _ _ _ _ 0 [(0, .int (nI c))] [] _ _
  refine az_iload_n dJ1_canEncode_9a6ad_0 ?_
  refine az_if_ltN (tgt := 15) dJ1_canEncode_9a6ad_1 (fun c1 => ?_) (fun c1 => ?_)
  · first | exact c1.elim | exact absurd c1 (by omega)
  · refine az_iload_n dJ1_canEncode_9a6ad_4 ?_
    refine az_sipush (v := nI 255) dJ1_canEncode_9a6ad_5 ?_
    refine az_icmp_gtN (tgt := 15) dJ1_canEncode_9a6ad_8 (fun c8 => ?_) (fun c8 => ?_)
    · exact absurd hc (by omega)
    · refine az_iconst (v := nI 1) dJ1_canEncode_9a6ad_11 ?_
      refine az_goto (tgt := 16) dJ1_canEncode_9a6ad_12 ?_
      exact az_iret dJ1_canEncode_9a6ad_16 (hQ)
set_option maxRecDepth 100000 in
theorem s_indexOfChar {d k9 c : Nat} {r : String × Nat × String} {hp : az_Hp} {Q : Option Value → az_Hp → Prop} (hr : az_txt[k9]? = some r) (hc : c < 128) (hQ1 : ∀ j, j < (az_byt r.2.2).length → az_ch r.2.2 j = c → Q (some (.int (nI j))) hp) (hQ0 : (∀ j, j < (az_byt r.2.2).length → az_ch r.2.2 j ≠ c) → Q (some (.int (-1))) hp) : az_M mJ1_indexOfChar_4cfef d 0 0 [.retAddr (2 * k9 + 1), .int (nI c), .int (nI 0), .int (nI (az_byt r.2.2).length)] hp Q := by
  have hl := az_byt_lt hr
  have loop : ∀ (k : Nat) (j : Nat), (az_byt r.2.2).length - j = k → (j ≤ (az_byt r.2.2).length) → (∀ i, i < j → az_ch r.2.2 i ≠ c) → az_W mJ1_indexOfChar_4cfef d 0 0 7 [(0, .retAddr (2 * k9 + 1)), (1, .int (nI c)), (2, .int (nI 0)), (3, .int (nI ((az_byt r.2.2).length))), (4, .int (nI c)), (5, .int (nI j))] [] hp Q := by
    intro k
    induction k using Nat.strongRecOn with
    | _ k ih =>
    intro j hk hj9 hn
    refine az_iload dJ1_indexOfChar_4cfef_7 ?_
    refine az_iload_n dJ1_indexOfChar_4cfef_9 ?_
    refine az_icmp_geN (tgt := 31) dJ1_indexOfChar_4cfef_10 (fun c10 => ?_) (fun c10 => ?_)
    · refine az_iconst (v := (-1)) dJ1_indexOfChar_4cfef_31 ?_
      exact az_iret dJ1_indexOfChar_4cfef_32 (hQ0 (fun i q => hn i (by omega)))
    · refine az_aload_nS dJ1_indexOfChar_4cfef_13 ?_
      refine az_iload dJ1_indexOfChar_4cfef_14 ?_
      refine az_baldS (j := j) dJ1_indexOfChar_4cfef_16 hr ?_
      rw [az_ch_is]
      have hb := az_ch_b hr (j := j) (by omega)
      refine az_iload dJ1_indexOfChar_4cfef_17 ?_
      refine az_icmp_neN (tgt := 25) dJ1_indexOfChar_4cfef_19 (fun c19 => ?_) (fun c19 => ?_)
      · refine az_iincN (n := 1) (ls' := [(0, .retAddr (2 * k9 + 1)), (1, .int (nI c)), (2, .int (nI 0)), (3, .int (nI ((az_byt r.2.2).length))), (4, .int (nI c)), (5, .int (nI (j + 1)))]) dJ1_indexOfChar_4cfef_25 ?_
        refine az_goto (tgt := 7) dJ1_indexOfChar_4cfef_28 ?_
        exact ih _ (by omega) (j + 1) rfl (by omega) (fun i q => if e : i = j then (by rw [e]; exact c19) else hn i (by omega))
      · refine az_iload dJ1_indexOfChar_4cfef_22 ?_
        exact az_iret dJ1_indexOfChar_4cfef_24 (hQ1 j (by omega) c19)
  refine az_M.of rfl (Nat.le_of_ble_eq_true rfl) ?_
  show az_W _ _ _ _ 0 [(0, .retAddr (2 * k9 + 1)), (1, .int (nI c)), (2, .int (nI 0)), (3, .int (nI ((az_byt r.2.2).length)))] [] _ _
  refine az_iload_n dJ1_indexOfChar_4cfef_0 ?_
  refine az_i2b dJ1_indexOfChar_4cfef_1 ?_
  rw [st_b8 hc]
  refine az_istore (ls' := [(0, .retAddr (2 * k9 + 1)), (1, .int (nI c)), (2, .int (nI 0)), (3, .int (nI ((az_byt r.2.2).length))), (4, .int (nI c))]) dJ1_indexOfChar_4cfef_2 ?_
  refine az_iload_n dJ1_indexOfChar_4cfef_4 ?_
  refine az_istore (ls' := [(0, .retAddr (2 * k9 + 1)), (1, .int (nI c)), (2, .int (nI 0)), (3, .int (nI ((az_byt r.2.2).length))), (4, .int (nI c)), (5, .int (nI 0))]) dJ1_indexOfChar_4cfef_5 ?_
  exact loop _ 0 rfl (Nat.zero_le _) (fun i q => absurd q (by omega))
set_option maxRecDepth 100000 in
theorem s_indexOf1 {d k c : Nat} {r : String × Nat × String} {hp : az_Hp} {Q : Option Value → az_Hp → Prop} (hd : 1 ≤ d) (hr : az_txt[k]? = some r) (hne : 0 < (az_byt r.2.2).length) (hc : c < 128) (hQ1 : ∀ j, j < (az_byt r.2.2).length → az_ch r.2.2 j = c → Q (some (.int (nI j))) hp) (hQ0 : (∀ j, j < (az_byt r.2.2).length → az_ch r.2.2 j ≠ c) → Q (some (.int (-1))) hp) : az_M mJ1_indexOf_4cfef d 0 0 [.retAddr (2 * k + 1), .int (nI c), .int (nI 0), .int (nI (az_byt r.2.2).length)] hp Q := by
  have hl := az_byt_lt hr
  refine az_M.of rfl (Nat.le_of_ble_eq_true rfl) ?_
  show az_W _ _ _ _ 0 [(0, .retAddr (2 * k + 1)), (1, .int (nI c)), (2, .int (nI 0)), (3, .int (nI ((az_byt r.2.2).length)))] [] _ _
  refine az_iload_n dJ1_indexOf_4cfef_0 ?_
  refine az_cS0 (st := []) dJ1_indexOf_4cfef_1 ml_J1_88 (s_canEncode (d := d - 1) hc ?_)
  refine az_if_neN (tgt := 9) dJ1_indexOf_4cfef_4 (fun c4 => ?_) (fun c4 => ?_)
  · refine az_iload_n dJ1_indexOf_4cfef_9 ?_
    refine az_iconst (v := nI 0) dJ1_indexOf_4cfef_10 ?_
    refine az_mmaxN dJ1_indexOf_4cfef_11 ml_J1_92 ?_
    rw [show max 0 0 = 0 from rfl]
    refine az_istore_n (ls' := [(0, .retAddr (2 * k + 1)), (1, .int (nI c)), (2, .int (nI 0)), (3, .int (nI ((az_byt r.2.2).length)))]) dJ1_indexOf_4cfef_14 ?_
    refine az_iload_n dJ1_indexOf_4cfef_15 ?_
    refine az_aload_nS dJ1_indexOf_4cfef_16 ?_
    refine az_alenS dJ1_indexOf_4cfef_17 hr ?_
    refine az_mminN dJ1_indexOf_4cfef_18 ml_J1_38 ?_
    rw [Nat.min_self]
    refine az_istore_n (ls' := [(0, .retAddr (2 * k + 1)), (1, .int (nI c)), (2, .int (nI 0)), (3, .int (nI ((az_byt r.2.2).length)))]) dJ1_indexOf_4cfef_21 ?_
    refine az_iload_n dJ1_indexOf_4cfef_22 ?_
    refine az_iload_n dJ1_indexOf_4cfef_23 ?_
    refine az_icmp_ltN (tgt := 29) dJ1_indexOf_4cfef_24 (fun c24 => ?_) (fun c24 => ?_)
    · refine az_aload_nS dJ1_indexOf_4cfef_29 ?_
      refine az_iload_n dJ1_indexOf_4cfef_30 ?_
      refine az_iload_n dJ1_indexOf_4cfef_31 ?_
      refine az_iload_n dJ1_indexOf_4cfef_32 ?_
      refine az_cS0 (st := []) dJ1_indexOf_4cfef_33 ml_J1_95 (s_indexOfChar (d := d - 1) hr hc ?_ ?_)
      · intro j hj he
        exact az_iret dJ1_indexOf_4cfef_36 (by first | exact hQ1 j hj he | exact hQ0 hno)
      · intro hno
        exact az_iret dJ1_indexOf_4cfef_36 (by first | exact hQ1 j hj he | exact hQ0 hno)
    · exact absurd hne (by omega)
  · exact absurd c4 (by omega)
set_option maxRecDepth 100000 in
theorem s_indexOf2 {d k c : Nat} {r : String × Nat × String} {hp : az_Hp} {Q : Option Value → az_Hp → Prop} (hd : 2 ≤ d) (hr : az_txt[k]? = some r) (hne : 0 < (az_byt r.2.2).length) (hc : c < 128) (hQ1 : ∀ j, j < (az_byt r.2.2).length → az_ch r.2.2 j = c → Q (some (.int (nI j))) hp) (hQ0 : (∀ j, j < (az_byt r.2.2).length → az_ch r.2.2 j ≠ c) → Q (some (.int (-1))) hp) : az_M mJ0_indexOf_7cf53 d 0 0 [.retAddr (2 * k), .int (nI c), .int (nI 0)] hp Q := by
  refine az_M.of rfl (Nat.le_of_ble_eq_true rfl) ?_
  show az_W _ _ _ _ 0 [(0, .retAddr (2 * k)), (1, .int (nI c)), (2, .int (nI 0))] [] _ _
  refine az_aload_nS dJ0_indexOf_7cf53_0 ?_
  refine az_cVS (st := []) dJ0_indexOf_7cf53_1 sv_S_492 rfl hr (s_isLatin1 (d := d - 1) hr ?_)
  refine az_if_eqN (tgt := 23) dJ0_indexOf_7cf53_4 (fun c4 => ?_) (fun c4 => ?_)
  · exact absurd c4 (by omega)
  · refine az_aload_nS dJ0_indexOf_7cf53_7 ?_
    refine az_getSV dJ0_indexOf_7cf53_8 rfl hr ?_
    refine az_iload_n dJ0_indexOf_7cf53_11 ?_
    refine az_iload_n dJ0_indexOf_7cf53_12 ?_
    refine az_aload_nS dJ0_indexOf_7cf53_13 ?_
    refine az_cVS (st := [.int (nI 0), .int (nI c), .retAddr (2 * k + 1)]) dJ0_indexOf_7cf53_14 sv_S_505 rfl hr (s_strlen (d := d - 1) (by omega) hr ?_)
    refine az_cS0 (st := []) dJ0_indexOf_7cf53_17 ml_J0_637 (s_indexOf1 (d := d - 1) (by omega) hr hne hc ?_ ?_)
    · intro j hj he
      refine az_goto (tgt := 36) dJ0_indexOf_7cf53_20 ?_
      exact az_iret dJ0_indexOf_7cf53_36 (by first | exact hQ1 j hj he | exact hQ0 hno)
    · intro hno
      refine az_goto (tgt := 36) dJ0_indexOf_7cf53_20 ?_
      exact az_iret dJ0_indexOf_7cf53_36 (by first | exact hQ1 j hj he | exact hQ0 hno)
set_option maxRecDepth 100000 in
theorem s_indexOf {d k c : Nat} {r : String × Nat × String} {hp : az_Hp} {Q : Option Value → az_Hp → Prop} (hd : 3 ≤ d) (hr : az_txt[k]? = some r) (hne : 0 < (az_byt r.2.2).length) (hc : c < 128) (hQ1 : ∀ j, j < (az_byt r.2.2).length → az_ch r.2.2 j = c → Q (some (.int (nI j))) hp) (hQ0 : (∀ j, j < (az_byt r.2.2).length → az_ch r.2.2 j ≠ c) → Q (some (.int (-1))) hp) : az_M mJ0_indexOf_0f7a4 d 0 0 [.retAddr (2 * k), .int (nI c)] hp Q := by
  refine az_M.of rfl (Nat.le_of_ble_eq_true rfl) ?_
  show az_W _ _ _ _ 0 [(0, .retAddr (2 * k)), (1, .int (nI c))] [] _ _
  refine az_aload_nS dJ0_indexOf_0f7a4_0 ?_
  refine az_iload_n dJ0_indexOf_0f7a4_1 ?_
  refine az_iconst (v := nI 0) dJ0_indexOf_0f7a4_2 ?_
  refine az_cVS (st := []) dJ0_indexOf_0f7a4_3 sv_S_633 rfl hr (s_indexOf2 (d := d - 1) (by omega) hr hne hc (fun j hj he => ?_) (fun hno => ?_))
  · exact az_iret dJ0_indexOf_0f7a4_6 (hQ1 j hj he)
  · exact az_iret dJ0_indexOf_0f7a4_6 (hQ0 hno)
