/-! Reader: words, signs, numbers taken -/
set_option maxHeartbeats 4000000 in
set_option maxRecDepth 100000 in
theorem s_isWord {d k9 q tx n e : Nat} {r : String × Nat × String} {b : Nat → Nat} {c : List Nat} {va : Int32} {hp : az_Hp} {Q : Option Value → az_Hp → Prop} (hd : 4 ≤ d) (hr : az_txt[k9]? = some r) (hS : rd_Sw hp q tx n b e c va) (hQ1 : rd_isW b n e r.2.2 → Q (some (.int (nI 1))) hp) (hQ0 : ¬ rd_isW b n e r.2.2 → Q (some (.int (nI 0))) hp) : az_M mX5_isWord d 0 0 [.ref q, .retAddr (2 * k9)] hp Q := by
  obtain ⟨hX, he, hc, cf, ol, h0, h3, hcf, h2⟩ := id hS
  obtain ⟨hb, hn, ht9, tf, ht, htf⟩ := id hX
  have hk4 := rd_kd_le b n e
  have hl := az_byt_lt hr
  have hel := rd_en_le (b := b) he
  have loop : ∀ (k : Nat) (i : Nat) (c5 : rd_kd b n e = 1) (c21 : rd_en b n e - rd_fr b n e = (az_byt r.2.2).length), (az_byt r.2.2).length - i = k → (i ≤ (az_byt r.2.2).length) → (∀ j, j < i → b (rd_fr b n e + j) = az_ch r.2.2 j) → az_W mX5_isWord d 0 0 28 [(0, .ref q), (1, .retAddr (2 * k9)), (2, .int (nI i))] [] hp Q := by
    intro k
    induction k using Nat.strongRecOn with
    | _ k ih =>
    intro i c5 c21 hk hi9 hin
    refine az_iload_n dX5_isWord_28 ?_
    refine az_aload_nS dX5_isWord_29 ?_
    refine az_cVS (st := [.int (nI i)]) dX5_isWord_30 sv_R_207 rfl hr (s_strlen (d := d - 1) (by omega) hr ?_)
    refine az_icmp_geN (tgt := 63) dX5_isWord_33 (fun c33 => ?_) (fun c33 => ?_)
    · refine az_iconst (v := nI 1) dX5_isWord_63 ?_
      exact az_iret dX5_isWord_64 (hQ1 ⟨c5, c21, fun j q => hin j (by omega)⟩)
    · refine az_aload_n dX5_isWord_36 ?_
      refine az_getf (v := .ref tx) dX5_isWord_37 fl_X5_18 h0 ?_
      refine az_aload_n dX5_isWord_40 ?_
      refine az_getf (v := .int (nI (rd_fr b n e))) dX5_isWord_41 fl_X5_204 h0 ?_
      refine az_iload_n dX5_isWord_44 ?_
      refine az_iaddN dX5_isWord_45 ?_
      refine az_baldN (j := (rd_fr b n e) + i) dX5_isWord_46 ht ?_
      rw [htf _ (by omega)]
      refine az_aload_nS dX5_isWord_47 ?_
      refine az_iload_n dX5_isWord_48 ?_
      refine az_cVS (st := [.int (bI (b (rd_fr b n e + i)))]) dX5_isWord_49 sv_R_212 rfl hr (s_charAt (d := d - 1) (by omega) hr (i := i) (by omega) ?_)
      have hch := az_ch_b hr (j := i) (by omega)
      refine az_icmp_eq (tgt := 57) dX5_isWord_52 (fun c52 => ?_) (fun c52 => ?_)
      · refine az_iincN (n := 1) (ls' := [(0, .ref q), (1, .retAddr (2 * k9)), (2, .int (nI (i + 1)))]) dX5_isWord_57 ?_
        refine az_goto (tgt := 28) dX5_isWord_60 ?_
        exact ih _ (by omega) (i + 1) c5 c21 rfl (by omega) (fun j q => if e9 : j = i then (by rw [e9]; exact (bI_eq (hb _) hch.2).mp c52) else hin j (by omega))
      · refine az_iconst (v := nI 0) dX5_isWord_55 ?_
        exact az_iret dX5_isWord_56 (hQ0 (fun h => c52 ((bI_eq (hb _) hch.2).mpr (h.2.2 i (by omega)))))
  refine az_M.of rfl (Nat.le_of_ble_eq_true rfl) ?_
  show az_W _ _ _ _ 0 [(0, .ref q), (1, .retAddr (2 * k9))] [] _ _
  refine az_aload_n dX5_isWord_0 ?_
  refine az_getf (v := .int (nI (rd_kd b n e))) dX5_isWord_1 fl_X5_51 h0 ?_
  refine az_iconst (v := nI 1) dX5_isWord_4 ?_
  refine az_icmp_neN (tgt := 24) dX5_isWord_5 (fun c5 => ?_) (fun c5 => ?_)
  · refine az_iconst (v := nI 0) dX5_isWord_24 ?_
    exact az_iret dX5_isWord_25 (by first | exact hQ0 (fun h => c5 h.1) | exact hQ0 (fun h => c21 h.2.1))
  · refine az_aload_n dX5_isWord_8 ?_
    refine az_getf (v := .int (nI (rd_en b n e))) dX5_isWord_9 fl_X5_38 h0 ?_
    refine az_aload_n dX5_isWord_12 ?_
    refine az_getf (v := .int (nI (rd_fr b n e))) dX5_isWord_13 fl_X5_204 h0 ?_
    refine az_isubN dX5_isWord_16 hel.1 ?_
    refine az_aload_nS dX5_isWord_17 ?_
    refine az_cVS (st := [.int (nI ((rd_en b n e) - (rd_fr b n e)))]) dX5_isWord_18 sv_R_207 rfl hr (s_strlen (d := d - 1) (by omega) hr ?_)
    refine az_icmp_eqN (tgt := 26) dX5_isWord_21 (fun c21 => ?_) (fun c21 => ?_)
    · refine az_iconst (v := nI 0) dX5_isWord_26 ?_
      refine az_istore_n (ls' := [(0, .ref q), (1, .retAddr (2 * k9)), (2, .int (nI 0))]) dX5_isWord_27 ?_
      exact loop _ 0 c5 c21 rfl (Nat.zero_le _) (fun j q => absurd q (by omega))
    · refine az_iconst (v := nI 0) dX5_isWord_24 ?_
      exact az_iret dX5_isWord_25 (by first | exact hQ0 (fun h => c5 h.1) | exact hQ0 (fun h => c21 h.2.1))
set_option maxRecDepth 100000 in
theorem s_takeWord {d k9 q tx n e : Nat} {r : String × Nat × String} {b : Nat → Nat} {c : List Nat} {va : Int32} {hp : az_Hp} {Q : Option Value → az_Hp → Prop} (hd : 6 ≤ d) (hr : az_txt[k9]? = some r) (hS : rd_Sw hp q tx n b e c va) (hQ : rd_Q (rd_tw b n r.2.2 e c) e c.length hp q tx n b Q) : az_M mX5_takeWord d 0 0 [.ref q, .retAddr (2 * k9)] hp Q := by
  obtain ⟨hX, he, hc, cf, ol, h0, h3, hcf, h2⟩ := id hS
  refine az_M.of rfl (Nat.le_of_ble_eq_true rfl) ?_
  show az_W _ _ _ _ 0 [(0, .ref q), (1, .retAddr (2 * k9))] [] _ _
  refine az_aload_n dX5_takeWord_0 ?_
  refine az_aload_nS dX5_takeWord_1 ?_
  refine az_cV0 (st := []) dX5_takeWord_2 ml_X5_87 h0 (s_isWord (d := d - 1) (by omega) hr hS ?_ ?_)
  · intro hs1
    refine az_if_neN (tgt := 14) dX5_takeWord_5 (fun c5 => ?_) (fun c5 => ?_)
    · refine az_aload_n dX5_takeWord_14 ?_
      refine az_cV0 (st := []) dX5_takeWord_15 ml_X5_41 h0 (s_adv (d := d - 1) (by omega) hS ?_)
      intro h2' hS2 hf2
      refine az_iconst (v := nI 1) dX5_takeWord_18 ?_
      exact az_iret dX5_takeWord_19 (by rw [rd_tw, if_pos hs1] at hQ; exact hQ h2' hS2 hf2)
    · exact absurd c5 (by omega)
  · intro hs0
    refine az_if_neN (tgt := 14) dX5_takeWord_5 (fun c5 => ?_) (fun c5 => ?_)
    · exact absurd c5 (by omega)
    · refine az_aload_n dX5_takeWord_8 ?_
      refine az_iconst (v := nI 2) dX5_takeWord_9 ?_
      refine az_cV0 (st := []) dX5_takeWord_10 ml_X5_128 h0 (s_failR (d := d - 1) hS (rd_Q.i ?_ ?_))
      · intro e2 c2 hq2 h2' hS2 hf2
        exact az_iret dX5_takeWord_13 (by rw [rd_tw, if_neg hs0, hq2] at hQ; first | exact hQ h2' hE2 hf2 | exact hQ h2' hS2 hf2)
      · intro f2 p2 hq2 h2' hE2 hf2
        exact az_iret dX5_takeWord_13 (by rw [rd_tw, if_neg hs0, hq2] at hQ; first | exact hQ h2' hE2 hf2 | exact hQ h2' hS2 hf2)
set_option maxRecDepth 100000 in
theorem s_takeSign {d q tx n e x : Nat} {b : Nat → Nat} {c : List Nat} {va : Int32} {hp : az_Hp} {Q : Option Value → az_Hp → Prop} (hd : 6 ≤ d) (hx : x < 128) (hS : rd_Sw hp q tx n b e c va) (hQ : rd_Q (rd_ts b n x e c) e c.length hp q tx n b Q) : az_M mX5_takeSign d 0 0 [.ref q, .int (nI x)] hp Q := by
  obtain ⟨hX, he, hc, cf, ol, h0, h3, hcf, h2⟩ := id hS
  refine az_M.of rfl (Nat.le_of_ble_eq_true rfl) ?_
  show az_W _ _ _ _ 0 [(0, .ref q), (1, .int (nI x))] [] _ _
  refine az_aload_n dX5_takeSign_0 ?_
  refine az_iload_n dX5_takeSign_1 ?_
  refine az_cV0 (st := []) dX5_takeSign_2 ml_X5_169 h0 (s_isSign (d := d - 1) hS hx ?_ ?_)
  · intro hs1
    refine az_if_neN (tgt := 14) dX5_takeSign_5 (fun c5 => ?_) (fun c5 => ?_)
    · refine az_aload_n dX5_takeSign_14 ?_
      refine az_cV0 (st := []) dX5_takeSign_15 ml_X5_41 h0 (s_adv (d := d - 1) (by omega) hS ?_)
      intro h2' hS2 hf2
      refine az_iconst (v := nI 1) dX5_takeSign_18 ?_
      exact az_iret dX5_takeSign_19 (by rw [rd_ts, if_pos hs1] at hQ; exact hQ h2' hS2 hf2)
    · exact absurd c5 (by omega)
  · intro hs0
    refine az_if_neN (tgt := 14) dX5_takeSign_5 (fun c5 => ?_) (fun c5 => ?_)
    · exact absurd c5 (by omega)
    · refine az_aload_n dX5_takeSign_8 ?_
      refine az_iconst (v := nI 2) dX5_takeSign_9 ?_
      refine az_cV0 (st := []) dX5_takeSign_10 ml_X5_128 h0 (s_failR (d := d - 1) hS (rd_Q.i ?_ ?_))
      · intro e2 c2 hq2 h2' hS2 hf2
        exact az_iret dX5_takeSign_13 (by rw [rd_ts, if_neg hs0, hq2] at hQ; first | exact hQ h2' hE2 hf2 | exact hQ h2' hS2 hf2)
      · intro f2 p2 hq2 h2' hE2 hf2
        exact az_iret dX5_takeSign_13 (by rw [rd_ts, if_neg hs0, hq2] at hQ; first | exact hQ h2' hE2 hf2 | exact hQ h2' hS2 hf2)
/-- deeper by one, r levels are left -/
def rd_gd (b : Nat → Nat) (n r : Nat) : rd_P := fun e c => if r = 0 then rd_fail b n 4 e else .inl (rd_en b n e, c)
set_option maxRecDepth 100000 in
theorem s_goDeeper {d q tx n e dp : Nat} {b : Nat → Nat} {c : List Nat} {va : Int32} {hp : az_Hp} {Q : Option Value → az_Hp → Prop} (hd : 6 ≤ d) (hdp : dp ≤ 6) (hS : rd_Sw hp q tx n b e c va) (hQ : rd_Q (rd_gd b n (6 - dp) e c) e c.length hp q tx n b Q) : az_M mX5_goDeeper d 0 0 [.ref q, .int (nI dp)] hp Q := by
  obtain ⟨hX, he, hc, cf, ol, h0, h3, hcf, h2⟩ := id hS
  refine az_M.of rfl (Nat.le_of_ble_eq_true rfl) ?_
  show az_W _ _ _ _ 0 [(0, .ref q), (1, .int (nI dp))] [] _ _
  refine az_iload_n dX5_goDeeper_0 ?_
  refine az_bipush (v := nI 6) dX5_goDeeper_1 ?_
  refine az_icmp_ltN (tgt := 12) dX5_goDeeper_3 (fun c3 => ?_) (fun c3 => ?_)
  · refine az_aload_n dX5_goDeeper_12 ?_
    refine az_cV0 (st := []) dX5_goDeeper_13 ml_X5_41 h0 (s_adv (d := d - 1) (by omega) hS ?_)
    intro h2' hS2 hf2
    refine az_iconst (v := nI 1) dX5_goDeeper_16 ?_
    exact az_iret dX5_goDeeper_17 (by rw [rd_gd, if_neg (by omega)] at hQ; exact hQ h2' hS2 hf2)
  · refine az_aload_n dX5_goDeeper_6 ?_
    refine az_iconst (v := nI 4) dX5_goDeeper_7 ?_
    refine az_cV0 (st := []) dX5_goDeeper_8 ml_X5_128 h0 (s_failR (d := d - 1) hS (rd_Q.i ?_ ?_))
    · intro e2 c2 hq2 h2' hS2 hf2
      exact az_iret dX5_goDeeper_11 (by rw [rd_gd, if_pos (by omega), hq2] at hQ; first | exact hQ h2' hE2 hf2 | exact hQ h2' hS2 hf2)
    · intro f2 p2 hq2 h2' hE2 hf2
      exact az_iret dX5_goDeeper_11 (by rw [rd_gd, if_pos (by omega), hq2] at hQ; first | exact hQ h2' hE2 hf2 | exact hQ h2' hS2 hf2)
set_option maxRecDepth 100000 in
theorem s_encode {d q tx n e x : Nat} {b : Nat → Nat} {c : List Nat} {va : Int32} {hp : az_Hp} {Q : Option Value → az_Hp → Prop} (hS : rd_Sw hp q tx n b e c va) (hc1 : c.length + 1 ≤ rd_en b n e) (hQ : ∀ h', rd_Sw h' q tx n b e (c ++ [x]) va → rd_f hp h' q → Q none h') : az_M mX5_encode d 0 0 [.ref q, .int (lw_phi x)] hp Q := by
  obtain ⟨hX, he, hc, cf, ol, h0, h3, hcf, h2⟩ := id hS
  have hn9 := hX.2.1
  have hel := rd_en_le (b := b) he
  refine az_M.of rfl (Nat.le_of_ble_eq_true rfl) ?_
  show az_W _ _ _ _ 0 [(0, .ref q), (1, .int (lw_phi x))] [] _ _
  refine az_aload_n dX5_encode_0 ?_
  refine az_getf (v := .int (nI c.length)) dX5_encode_1 fl_X5_108 h0 ?_
  refine az_aload_n dX5_encode_4 ?_
  refine az_getf (v := .ref (q + 3)) dX5_encode_5 fl_X5_26 h0 ?_
  refine az_alen dX5_encode_8 h3 ?_
  refine az_icmp_geN (tgt := 32) dX5_encode_9 (fun c9 => ?_) (fun c9 => ?_)
  · exact absurd c9 (by omega)
  · refine az_aload_n dX5_encode_12 ?_
    refine az_getf (v := .ref (q + 3)) dX5_encode_13 fl_X5_26 h0 ?_
    refine az_aload_n dX5_encode_16 ?_
    refine az_getf (v := .int (nI c.length)) dX5_encode_17 fl_X5_108 h0 ?_
    refine az_iload_n dX5_encode_20 ?_
    refine az_iastN (j := c.length) dX5_encode_21 h3 ?_
    refine az_aload_n dX5_encode_22 ?_
    refine az_dup dX5_encode_23 ?_
    refine az_getf (v := .int (nI c.length)) dX5_encode_24 fl_X5_108 (az_up_ne h0) ?_
    refine az_iconst (v := nI 1) dX5_encode_27 ?_
    refine az_iaddN dX5_encode_28 ?_
    refine az_putf (fs' := [.int (nI 0), .int ((-1)), .ref tx, .int (nI n), .int (nI (rd_kd b n e)), .int (nI (rd_fr b n e)), .int (nI (rd_en b n e)), .int va, .ref (q + 2), .ref (q + 3), .int (nI (c.length + 1))]) dX5_encode_29 fl_X5_108 (az_up_ne h0) ?_
    exact az_vret dX5_encode_32 (hQ _ ⟨hX.fr rd_f.rf.up.up, he, (by rw [List.length_append]; exact hc1), az_s cf c.length (lw_phi x), ol, (by rw [List.length_append]; exact az_up_eq), (az_up_ne az_up_eq), (fun i hi => (by rw [List.length_append, List.length_singleton] at hi; exact if e9 : i = c.length then (by rw [e9, az_s_eq]; simp) else (by rw [az_s_ne e9, hcf i (by omega)]; simp [List.getElem?_append, show i < c.length by omega]))), (az_up_ne (az_up_ne h2))⟩ rd_f.rf.up.up)
set_option maxRecDepth 100000 in
theorem s_encodeE {d q tx n f p k1 k2 : Nat} {b : Nat → Nat} {x : Int32} {hp : az_Hp} {Q : Option Value → az_Hp → Prop} (hE : rd_Er hp q tx n b f p (k1 + 1) k2) (hQ : ∀ h', rd_Er h' q tx n b f p k1 k2 → rd_f hp h' q → Q none h') : az_M mX5_encode d 0 0 [.ref q, .int x] hp Q := by
  obtain ⟨hX, ki, aa, zz, va, m, cf, ol, h0, hm, h3, h2, h4, h5⟩ := id hE
  refine az_M.of rfl (Nat.le_of_ble_eq_true rfl) ?_
  show az_W _ _ _ _ 0 [(0, .ref q), (1, .int x)] [] _ _
  refine az_aload_n dX5_encode_0 ?_
  refine az_getf (v := .int (nI m)) dX5_encode_1 fl_X5_108 h0 ?_
  refine az_aload_n dX5_encode_4 ?_
  refine az_getf (v := .ref (q + 3)) dX5_encode_5 fl_X5_26 h0 ?_
  refine az_alen dX5_encode_8 h3 ?_
  refine az_icmp_geN (tgt := 32) dX5_encode_9 (fun c9 => ?_) (fun c9 => ?_)
  · exact az_vret dX5_encode_32 (by first | exact hQ _ (hE.mono (by omega)) rd_f.rf | exact hQ _ ⟨hX.fr rd_f.rf.up.up, ki, aa, zz, va, m + 1, _, ol, az_up_eq, by omega, (az_up_ne az_up_eq), (az_up_ne (az_up_ne h2)), by omega, h5⟩ rd_f.rf.up.up)
  · refine az_aload_n dX5_encode_12 ?_
    refine az_getf (v := .ref (q + 3)) dX5_encode_13 fl_X5_26 h0 ?_
    refine az_aload_n dX5_encode_16 ?_
    refine az_getf (v := .int (nI m)) dX5_encode_17 fl_X5_108 h0 ?_
    refine az_iload_n dX5_encode_20 ?_
    refine az_iastN (j := m) dX5_encode_21 h3 ?_
    refine az_aload_n dX5_encode_22 ?_
    refine az_dup dX5_encode_23 ?_
    refine az_getf (v := .int (nI m)) dX5_encode_24 fl_X5_108 (az_up_ne h0) ?_
    refine az_iconst (v := nI 1) dX5_encode_27 ?_
    refine az_iaddN dX5_encode_28 ?_
    refine az_putf (fs' := [.int (nI f), .int (nI p), .ref tx, .int (nI n), ki, aa, zz, .int va, .ref (q + 2), .ref (q + 3), .int (nI (m + 1))]) dX5_encode_29 fl_X5_108 (az_up_ne h0) ?_
    exact az_vret dX5_encode_32 (by first | exact hQ _ (hE.mono (by omega)) rd_f.rf | exact hQ _ ⟨hX.fr rd_f.rf.up.up, ki, aa, zz, va, m + 1, _, ol, az_up_eq, by omega, (az_up_ne az_up_eq), (az_up_ne (az_up_ne h2)), by omega, h5⟩ rd_f.rf.up.up)
theorem s_encodeS {d q tx n e x : Nat} {b : Nat → Nat} {c : List Nat} {hp : az_Hp} {Q : Option Value → az_Hp → Prop} (hS : rd_St hp q tx n b e c) (hc1 : c.length + 1 ≤ e) (hQ : ∀ h', rd_St h' q tx n b e (c ++ [x]) → rd_f hp h' q → Q none h') : az_M mX5_encode d 0 0 [.ref q, .int (lw_phi x)] hp Q := by
  obtain ⟨va, hS, hce, hv⟩ := hS
  have hel := rd_en_le (b := b) hS.2.1
  have hfl := rd_fr_le (b := b) hS.2.1
  refine s_encode hS (by omega) (fun h' h1 h2 => hQ h' ⟨va, h1, ?_, hv⟩ h2)
  rw [List.length_append]
  exact hc1
/-- names, comparisons: their words, 0 if it is none -/
def rd_nm (b : Nat → Nat) (n e : Nat) : Nat := if rd_isW b n e "night" then 1000 else if rd_isW b n e "moon" then 1001 else if rd_isW b n e "front" then 1002 else if rd_isW b n e "back" then 1003 else if rd_isW b n e "rest" then 1004 else 0
def rd_cp (b : Nat → Nat) (n e : Nat) : Nat := if rd_isS b n e 61 then 3003 else if rd_isS b n e 60 then 3004 else if rd_isS b n e 62 then 3005 else 0
set_option maxRecDepth 100000 in
theorem s_lawOfName {d q tx n e : Nat} {b : Nat → Nat} {c : List Nat} {va : Int32} {hp : az_Hp} {Q : Option Value → az_Hp → Prop} (hd : 5 ≤ d) (hS : rd_Sw hp q tx n b e c va) (hQ : Q (some (.int (lw_phi (rd_nm b n e)))) hp) : az_M mX5_lawOfName d 0 0 [.ref q] hp Q := by
  obtain ⟨hX, he, hc, cf, ol, h0, h3, hcf, h2⟩ := id hS
  refine az_M.of rfl (Nat.le_of_ble_eq_true rfl) ?_
  show az_W _ _ _ _ 0 [(0, .ref q)] [] _ _
  refine az_aload_n dX5_lawOfName_0 ?_
  refine az_ldcS (k := 15) dX5_lawOfName_1 rfl rfl rfl ?_
  refine az_cV0 (st := []) dX5_lawOfName_3 ml_X5_87 h0 (s_isWord (d := d - 1) (k9 := 15) (r := ("LetterNights$Reader", 196, "night")) (by omega) rfl hS ?_ ?_)
  · intro w1
    refine az_if_eqN (tgt := 11) dX5_lawOfName_6 (fun c6 => ?_) (fun c6 => ?_)
    · exact absurd c6 (by omega)
    · refine az_iconst (v := (-1)) dX5_lawOfName_9 ?_
      exact az_iret dX5_lawOfName_10 (by rw [rd_nm, if_pos w1] at hQ; exact hQ)
  · intro w1
    refine az_if_eqN (tgt := 11) dX5_lawOfName_6 (fun c6 => ?_) (fun c6 => ?_)
    · refine az_aload_n dX5_lawOfName_11 ?_
      refine az_ldcS (k := 3) dX5_lawOfName_12 rfl rfl rfl ?_
      refine az_cV0 (st := []) dX5_lawOfName_14 ml_X5_87 h0 (s_isWord (d := d - 1) (k9 := 3) (r := ("LetterNights$Reader", 74, "moon")) (by omega) rfl hS ?_ ?_)
      · intro w2
        refine az_if_eqN (tgt := 23) dX5_lawOfName_17 (fun c17 => ?_) (fun c17 => ?_)
        · exact absurd c17 (by omega)
        · refine az_bipush (v := (-2)) dX5_lawOfName_20 ?_
          exact az_iret dX5_lawOfName_22 (by rw [rd_nm, if_neg w1, if_pos w2] at hQ; exact hQ)
      · intro w2
        refine az_if_eqN (tgt := 23) dX5_lawOfName_17 (fun c17 => ?_) (fun c17 => ?_)
        · refine az_aload_n dX5_lawOfName_23 ?_
          refine az_ldcS (k := 16) dX5_lawOfName_24 rfl rfl rfl ?_
          refine az_cV0 (st := []) dX5_lawOfName_26 ml_X5_87 h0 (s_isWord (d := d - 1) (k9 := 16) (r := ("LetterNights$Reader", 198, "front")) (by omega) rfl hS ?_ ?_)
          · intro w3
            refine az_if_eqN (tgt := 35) dX5_lawOfName_29 (fun c29 => ?_) (fun c29 => ?_)
            · exact absurd c29 (by omega)
            · refine az_bipush (v := (-3)) dX5_lawOfName_32 ?_
              exact az_iret dX5_lawOfName_34 (by rw [rd_nm, if_neg w1, if_neg w2, if_pos w3] at hQ; exact hQ)
          · intro w3
            refine az_if_eqN (tgt := 35) dX5_lawOfName_29 (fun c29 => ?_) (fun c29 => ?_)
            · refine az_aload_n dX5_lawOfName_35 ?_
              refine az_ldcS (k := 17) dX5_lawOfName_36 rfl rfl rfl ?_
              refine az_cV0 (st := []) dX5_lawOfName_38 ml_X5_87 h0 (s_isWord (d := d - 1) (k9 := 17) (r := ("LetterNights$Reader", 200, "back")) (by omega) rfl hS ?_ ?_)
              · intro w4
                refine az_if_eqN (tgt := 47) dX5_lawOfName_41 (fun c41 => ?_) (fun c41 => ?_)
                · exact absurd c41 (by omega)
                · refine az_bipush (v := (-4)) dX5_lawOfName_44 ?_
                  exact az_iret dX5_lawOfName_46 (by rw [rd_nm, if_neg w1, if_neg w2, if_neg w3, if_pos w4] at hQ; exact hQ)
              · intro w4
                refine az_if_eqN (tgt := 47) dX5_lawOfName_41 (fun c41 => ?_) (fun c41 => ?_)
                · refine az_aload_n dX5_lawOfName_47 ?_
                  refine az_ldcS (k := 18) dX5_lawOfName_48 rfl rfl rfl ?_
                  refine az_cV0 (st := []) dX5_lawOfName_50 ml_X5_87 h0 (s_isWord (d := d - 1) (k9 := 18) (r := ("LetterNights$Reader", 202, "rest")) (by omega) rfl hS ?_ ?_)
                  · intro w5
                    refine az_if_eqN (tgt := 61) dX5_lawOfName_53 (fun c53 => ?_) (fun c53 => ?_)
                    · exact absurd c53 (by omega)
                    · refine az_bipush (v := (-5)) dX5_lawOfName_56 ?_
                      refine az_goto (tgt := 62) dX5_lawOfName_58 ?_
                      exact az_iret dX5_lawOfName_62 (by first | (rw [rd_nm, if_neg w1, if_neg w2, if_neg w3, if_neg w4, if_pos w5] at hQ; exact hQ) | (rw [rd_nm, if_neg w1, if_neg w2, if_neg w3, if_neg w4, if_neg w5] at hQ; exact hQ))
                  · intro w5
                    refine az_if_eqN (tgt := 61) dX5_lawOfName_53 (fun c53 => ?_) (fun c53 => ?_)
                    · refine az_iconst (v := nI 0) dX5_lawOfName_61 ?_
                      exact az_iret dX5_lawOfName_62 (by first | (rw [rd_nm, if_neg w1, if_neg w2, if_neg w3, if_neg w4, if_pos w5] at hQ; exact hQ) | (rw [rd_nm, if_neg w1, if_neg w2, if_neg w3, if_neg w4, if_neg w5] at hQ; exact hQ))
                    · exact absurd c53 (by omega)
                · exact absurd c41 (by omega)
            · exact absurd c29 (by omega)
        · exact absurd c17 (by omega)
    · exact absurd c6 (by omega)
set_option maxRecDepth 100000 in
theorem s_lawOfComparison {d q tx n e : Nat} {b : Nat → Nat} {c : List Nat} {va : Int32} {hp : az_Hp} {Q : Option Value → az_Hp → Prop} (hd : 5 ≤ d) (hS : rd_Sw hp q tx n b e c va) (hQ : Q (some (.int (lw_phi (rd_cp b n e)))) hp) : az_M mX5_lawOfComparison d 0 0 [.ref q] hp Q := by
  obtain ⟨hX, he, hc, cf, ol, h0, h3, hcf, h2⟩ := id hS
  refine az_M.of rfl (Nat.le_of_ble_eq_true rfl) ?_
  show az_W _ _ _ _ 0 [(0, .ref q)] [] _ _
  refine az_aload_n dX5_lawOfComparison_0 ?_
  refine az_bipush (v := nI 61) dX5_lawOfComparison_1 ?_
  refine az_cV0 (st := []) dX5_lawOfComparison_3 ml_X5_169 h0 (s_isSign (d := d - 1) (x := 61) hS (by omega) ?_ ?_)
  · intro w1
    refine az_if_eqN (tgt := 12) dX5_lawOfComparison_6 (fun c6 => ?_) (fun c6 => ?_)
    · exact absurd c6 (by omega)
    · refine az_bipush (v := (-15)) dX5_lawOfComparison_9 ?_
      exact az_iret dX5_lawOfComparison_11 (by rw [rd_cp, if_pos w1] at hQ; exact hQ)
  · intro w1
    refine az_if_eqN (tgt := 12) dX5_lawOfComparison_6 (fun c6 => ?_) (fun c6 => ?_)
    · refine az_aload_n dX5_lawOfComparison_12 ?_
      refine az_bipush (v := nI 60) dX5_lawOfComparison_13 ?_
      refine az_cV0 (st := []) dX5_lawOfComparison_15 ml_X5_169 h0 (s_isSign (d := d - 1) (x := 60) hS (by omega) ?_ ?_)
      · intro w2
        refine az_if_eqN (tgt := 24) dX5_lawOfComparison_18 (fun c18 => ?_) (fun c18 => ?_)
        · exact absurd c18 (by omega)
        · refine az_bipush (v := (-16)) dX5_lawOfComparison_21 ?_
          exact az_iret dX5_lawOfComparison_23 (by rw [rd_cp, if_neg w1, if_pos w2] at hQ; exact hQ)
      · intro w2
        refine az_if_eqN (tgt := 24) dX5_lawOfComparison_18 (fun c18 => ?_) (fun c18 => ?_)
        · refine az_aload_n dX5_lawOfComparison_24 ?_
          refine az_bipush (v := nI 62) dX5_lawOfComparison_25 ?_
          refine az_cV0 (st := []) dX5_lawOfComparison_27 ml_X5_169 h0 (s_isSign (d := d - 1) (x := 62) hS (by omega) ?_ ?_)
          · intro w3
            refine az_if_eqN (tgt := 38) dX5_lawOfComparison_30 (fun c30 => ?_) (fun c30 => ?_)
            · exact absurd c30 (by omega)
            · refine az_bipush (v := (-17)) dX5_lawOfComparison_33 ?_
              refine az_goto (tgt := 39) dX5_lawOfComparison_35 ?_
              exact az_iret dX5_lawOfComparison_39 (by first | (rw [rd_cp, if_neg w1, if_neg w2, if_pos w3] at hQ; exact hQ) | (rw [rd_cp, if_neg w1, if_neg w2, if_neg w3] at hQ; exact hQ))
          · intro w3
            refine az_if_eqN (tgt := 38) dX5_lawOfComparison_30 (fun c30 => ?_) (fun c30 => ?_)
            · refine az_iconst (v := nI 0) dX5_lawOfComparison_38 ?_
              exact az_iret dX5_lawOfComparison_39 (by first | (rw [rd_cp, if_neg w1, if_neg w2, if_pos w3] at hQ; exact hQ) | (rw [rd_cp, if_neg w1, if_neg w2, if_neg w3] at hQ; exact hQ))
            · exact absurd c30 (by omega)
        · exact absurd c18 (by omega)
    · exact absurd c6 (by omega)
