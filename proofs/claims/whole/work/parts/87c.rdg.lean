/-! Reader: what it takes, whatever words are left of another law -/
def rd_Sg (h : az_Hp) (q tx n : Nat) (b : Nat → Nat) (e k5 : Nat) (va : Int32) : Prop := rd_X h q tx n b ∧ e ≤ n ∧ k5 ≤ 900 ∧ ∃ (cf ol : Nat → Int32), h.2 q = some (az_O 4 [.int (nI 0), .int (-1), .ref tx, .int (nI n), .int (nI (rd_kd b n e)), .int (nI (rd_fr b n e)), .int (nI (rd_en b n e)), .int va, .ref (q + 2), .ref (q + 3), .int (nI k5)]) ∧ h.2 (q + 3) = some (az_I 900 cf) ∧ True ∧ h.2 (q + 2) = some (az_I 1 ol)
def rd_Sn (h : az_Hp) (q tx n : Nat) (b : Nat → Nat) (e k5 : Nat) : Prop := ∃ va, rd_Sg h q tx n b e k5 va ∧ k5 ≤ 900 ∧ (rd_kd b n e = 2 → va = nI (rd_va b n e))
def rd_Qg (r : rd_R) (k5 : Nat) (hp : az_Hp) (q tx n : Nat) (b : Nat → Nat) (Q : Option Value → az_Hp → Prop) : Prop := match r with
  | .inl x => ∀ h', rd_Sn h' q tx n b x.1 k5 → rd_f hp h' q → Q (some (.int (nI 1))) h'
  | .inr x => ∀ h', rd_Er h' q tx n b x.1 x.2 0 900 → rd_f hp h' q → Q (some (.int (nI 0))) h'
theorem rd_Qg.i {r : rd_R} {k5 : Nat} {hp : az_Hp} {q tx n : Nat} {b : Nat → Nat} {Q : Option Value → az_Hp → Prop} (h1 : ∀ e c, r = .inl (e, c) → ∀ h', rd_Sn h' q tx n b e k5 → rd_f hp h' q → Q (some (.int (nI 1))) h') (h2 : ∀ f p, r = .inr (f, p) → ∀ h', rd_Er h' q tx n b f p 0 900 → rd_f hp h' q → Q (some (.int (nI 0))) h') : rd_Qg r k5 hp q tx n b Q := by
  match r with
  | .inl (e, c) => exact h1 e c rfl
  | .inr (f, p) => exact h2 f p rfl
theorem rd_Sw.g {h : az_Hp} {q tx n e : Nat} {b : Nat → Nat} {c : List Nat} {va : Int32} (H : rd_Sw h q tx n b e c va) : rd_Sg h q tx n b e c.length va := by
  obtain ⟨hX, he, hc, cf, ol, h0, h3, hcf, h2⟩ := H
  have h9 := rd_en_le (b := b) he
  have h8 := hX.2.1
  exact ⟨hX, he, by omega, cf, ol, h0, h3, True.intro, h2⟩
set_option maxRecDepth 100000 in
theorem g_failR {d q tx n e f : Nat} {b : Nat → Nat} {k5 : Nat} {va : Int32} {hp : az_Hp} {Q : Option Value → az_Hp → Prop} (hS : rd_Sg hp q tx n b e k5 va) (hQ : rd_Qg (rd_fail b n f e) k5 hp q tx n b Q) : az_M mX5_fail d 0 0 [.ref q, .int (nI f)] hp Q := by
  obtain ⟨hX, he, hc, cf, ol, h0, h3, hcf, h2⟩ := id hS
  have hk4 := rd_kd_le b n e
  have hc9 := hX.2.1
  have hel := rd_en_le (b := b) he
  have hfl := rd_fr_le (b := b) he
  refine az_M.of rfl (Nat.le_of_ble_eq_true rfl) ?_
  show az_W _ _ _ _ 0 [(0, .ref q), (1, .int (nI f))] [] _ _
  refine az_aload_n dX5_fail_0 ?_
  refine az_aload_n dX5_fail_1 ?_
  refine az_getf (v := .int (nI (rd_kd b n e))) dX5_fail_2 fl_X5_51 h0 ?_
  refine az_iconst (v := nI 4) dX5_fail_5 ?_
  refine az_icmp_neN (tgt := 13) dX5_fail_6 (fun c6 => ?_) (fun c6 => ?_)
  · refine az_iload_n dX5_fail_13 ?_
    refine az_putf (fs' := [.int (nI f), .int ((-1)), .ref tx, .int (nI n), .int (nI (rd_kd b n e)), .int (nI (rd_fr b n e)), .int (nI (rd_en b n e)), .int va, .ref (q + 2), .ref (q + 3), .int (nI k5)]) dX5_fail_14 fl_X5_9 h0 ?_
    refine az_aload_n dX5_fail_17 ?_
    refine az_aload_n dX5_fail_18 ?_
    refine az_getf (v := .int (nI (rd_fr b n e))) dX5_fail_19 fl_X5_204 az_up_eq ?_
    refine az_putf (fs' := [.int (nI f), .int (nI (rd_fr b n e)), .ref tx, .int (nI n), .int (nI (rd_kd b n e)), .int (nI (rd_fr b n e)), .int (nI (rd_en b n e)), .int va, .ref (q + 2), .ref (q + 3), .int (nI k5)]) dX5_fail_22 fl_X5_15 az_up_eq ?_
    rw [az_up_up]
    refine az_iconst (v := nI 0) dX5_fail_25 ?_
    exact az_iret dX5_fail_26 (by first | (rw [rd_fail, if_pos c6] at hQ; exact hQ _ ⟨hX.fr rd_f.rf.up, _, _, _, va, k5, cf, ol, az_up_eq, by omega, az_up_ne h3, az_up_ne h2, by omega, hfl.2⟩ rd_f.rf.up) | (rw [rd_fail, if_neg c6] at hQ; exact hQ _ ⟨hX.fr rd_f.rf.up, _, _, _, va, k5, cf, ol, az_up_eq, by omega, az_up_ne h3, az_up_ne h2, by omega, hfl.2⟩ rd_f.rf.up))
  · refine az_iconst (v := nI 1) dX5_fail_9 ?_
    refine az_goto (tgt := 14) dX5_fail_10 ?_
    refine az_putf (fs' := [.int (nI 1), .int ((-1)), .ref tx, .int (nI n), .int (nI (rd_kd b n e)), .int (nI (rd_fr b n e)), .int (nI (rd_en b n e)), .int va, .ref (q + 2), .ref (q + 3), .int (nI k5)]) dX5_fail_14 fl_X5_9 h0 ?_
    refine az_aload_n dX5_fail_17 ?_
    refine az_aload_n dX5_fail_18 ?_
    refine az_getf (v := .int (nI (rd_fr b n e))) dX5_fail_19 fl_X5_204 az_up_eq ?_
    refine az_putf (fs' := [.int (nI 1), .int (nI (rd_fr b n e)), .ref tx, .int (nI n), .int (nI (rd_kd b n e)), .int (nI (rd_fr b n e)), .int (nI (rd_en b n e)), .int va, .ref (q + 2), .ref (q + 3), .int (nI k5)]) dX5_fail_22 fl_X5_15 az_up_eq ?_
    rw [az_up_up]
    refine az_iconst (v := nI 0) dX5_fail_25 ?_
    exact az_iret dX5_fail_26 (by first | (rw [rd_fail, if_pos c6] at hQ; exact hQ _ ⟨hX.fr rd_f.rf.up, _, _, _, va, k5, cf, ol, az_up_eq, by omega, az_up_ne h3, az_up_ne h2, by omega, hfl.2⟩ rd_f.rf.up) | (rw [rd_fail, if_neg c6] at hQ; exact hQ _ ⟨hX.fr rd_f.rf.up, _, _, _, va, k5, cf, ol, az_up_eq, by omega, az_up_ne h3, az_up_ne h2, by omega, hfl.2⟩ rd_f.rf.up))
set_option maxRecDepth 100000 in
theorem g_adv {d q tx n e : Nat} {b : Nat → Nat} {k5 : Nat} {va : Int32} {hp : az_Hp} {Q : Option Value → az_Hp → Prop} (hd : 5 ≤ d) (hS : rd_Sg hp q tx n b e k5 va) (hQ : ∀ h', rd_Sn h' q tx n b (rd_en b n e) k5 → rd_f hp h' q → Q none h') : az_M mX5_advance d 0 0 [.ref q] hp Q := by
  obtain ⟨hX, he, hc, cf, ol, h0, h3, hcf, h2⟩ := id hS
  obtain ⟨hb, hn, ht9, tf, ht, htf⟩ := id hX
  have hle := rd_en_le (b := b) he
  have hfe := rd_fr_le (b := b) he
  refine s_advance hd hb hn ht (by omega) htf h0 hle.2 (fun va' hv => ?_)
  have hl2 := rd_en_le (b := b) hle.2
  have hf2 := rd_fr_le (b := b) hle.2
  exact hQ _ ⟨va', ⟨hX.fr rd_f.rf.up, hle.2, by omega, cf, ol, az_up_eq, az_up_ne h3, hcf, az_up_ne h2⟩, hc, hv⟩ rd_f.rf.up
set_option maxRecDepth 100000 in
theorem g_isSign {d q tx n e x : Nat} {b : Nat → Nat} {k5 : Nat} {va : Int32} {hp : az_Hp} {Q : Option Value → az_Hp → Prop} (hS : rd_Sg hp q tx n b e k5 va) (hx : x < 128) (hQ1 : rd_isS b n e x → Q (some (.int (nI 1))) hp) (hQ0 : ¬ rd_isS b n e x → Q (some (.int (nI 0))) hp) : az_M mX5_isSign d 0 0 [.ref q, .int (nI x)] hp Q := by
  obtain ⟨hX, he, hc, cf, ol, h0, h3, hcf, h2⟩ := id hS
  obtain ⟨hb, hn, ht9, tf, ht, htf⟩ := id hX
  have hk4 := rd_kd_le b n e
  refine az_M.of rfl (Nat.le_of_ble_eq_true rfl) ?_
  show az_W _ _ _ _ 0 [(0, .ref q), (1, .int (nI x))] [] _ _
  refine az_aload_n dX5_isSign_0 ?_
  refine az_getf (v := .int (nI (rd_kd b n e))) dX5_isSign_1 fl_X5_51 h0 ?_
  refine az_iconst (v := nI 3) dX5_isSign_4 ?_
  refine az_icmp_neN (tgt := 25) dX5_isSign_5 (fun c5 => ?_) (fun c5 => ?_)
  · refine az_iconst (v := nI 0) dX5_isSign_25 ?_
    exact az_iret dX5_isSign_26 (by first | exact hQ1 ⟨c5, (bI_eq (hb _) hx).mp c18⟩ | exact hQ0 (fun h => c18 ((bI_eq (hb _) hx).mpr h.2)) | exact hQ0 (fun h => c5 h.1))
  · have hen := rd_en_lt (b := b) he (by omega)
    refine az_aload_n dX5_isSign_8 ?_
    refine az_getf (v := .ref tx) dX5_isSign_9 fl_X5_18 h0 ?_
    refine az_aload_n dX5_isSign_12 ?_
    refine az_getf (v := .int (nI (rd_fr b n e))) dX5_isSign_13 fl_X5_204 h0 ?_
    refine az_baldN (j := rd_fr b n e) dX5_isSign_16 ht ?_
    rw [htf _ (by omega)]
    refine az_iload_n dX5_isSign_17 ?_
    refine az_icmp_ne (tgt := 25) dX5_isSign_18 (fun c18 => ?_) (fun c18 => ?_)
    · refine az_iconst (v := nI 0) dX5_isSign_25 ?_
      exact az_iret dX5_isSign_26 (by first | exact hQ1 ⟨c5, (bI_eq (hb _) hx).mp c18⟩ | exact hQ0 (fun h => c18 ((bI_eq (hb _) hx).mpr h.2)) | exact hQ0 (fun h => c5 h.1))
    · refine az_iconst (v := nI 1) dX5_isSign_21 ?_
      refine az_goto (tgt := 26) dX5_isSign_22 ?_
      exact az_iret dX5_isSign_26 (by first | exact hQ1 ⟨c5, (bI_eq (hb _) hx).mp c18⟩ | exact hQ0 (fun h => c18 ((bI_eq (hb _) hx).mpr h.2)) | exact hQ0 (fun h => c5 h.1))

set_option maxHeartbeats 4000000 in
set_option maxRecDepth 100000 in
theorem g_isWord {d k9 q tx n e : Nat} {r : String × Nat × String} {b : Nat → Nat} {k5 : Nat} {va : Int32} {hp : az_Hp} {Q : Option Value → az_Hp → Prop} (hd : 4 ≤ d) (hr : az_txt[k9]? = some r) (hS : rd_Sg hp q tx n b e k5 va) (hQ1 : rd_isW b n e r.2.2 → Q (some (.int (nI 1))) hp) (hQ0 : ¬ rd_isW b n e r.2.2 → Q (some (.int (nI 0))) hp) : az_M mX5_isWord d 0 0 [.ref q, .retAddr (2 * k9)] hp Q := by
  obtain ⟨hX, he, hc, cf, ol, h0, h3, hcf, h2⟩ := id hS
  obtain ⟨hb, hn, ht9, tf, ht, htf⟩ := id hX
  have hk4 := rd_kd_le b n e
  have hl := az_byt_lt hr
  have hel := rd_en_le (b := b) he
  have loop : ∀ (k : Nat) (i : Nat) (c5 : rd_kd b n e = 1) (c21 : rd_en b n e - rd_fr b n e = (az_byt r.2.2).length), (az_byt r.2.2).length - i = k → (i ≤ (az_byt r.2.2).length) → (∀ j, j < i → b (rd_fr b n e + j) = az_ch r.2.2 j) → az_W mX5_isWord d 0 0 28 [(0, .ref q), (1, .retAddr (2 * k9)), (2, .int (nI i))] [] hp Q := by
    intro k
    induction k using Nat.strongRecOn with
    | _ k ih =>
    intro i c5 c21 hk hi9 hin
    refine az_iload_n dX5_isWord_28 ?_
    refine az_aload_nS dX5_isWord_29 ?_
    refine az_cVS (st := [.int (nI i)]) dX5_isWord_30 sv_R_207 rfl hr (s_strlen (d := d - 1) (by omega) hr ?_)
    refine az_icmp_geN (tgt := 63) dX5_isWord_33 (fun c33 => ?_) (fun c33 => ?_)
    · refine az_iconst (v := nI 1) dX5_isWord_63 ?_
      exact az_iret dX5_isWord_64 (hQ1 ⟨c5, c21, fun j q => hin j (by omega)⟩)
    · refine az_aload_n dX5_isWord_36 ?_
      refine az_getf (v := .ref tx) dX5_isWord_37 fl_X5_18 h0 ?_
      refine az_aload_n dX5_isWord_40 ?_
      refine az_getf (v := .int (nI (rd_fr b n e))) dX5_isWord_41 fl_X5_204 h0 ?_
      refine az_iload_n dX5_isWord_44 ?_
      refine az_iaddN dX5_isWord_45 ?_
      refine az_baldN (j := (rd_fr b n e) + i) dX5_isWord_46 ht ?_
      rw [htf _ (by omega)]
      refine az_aload_nS dX5_isWord_47 ?_
      refine az_iload_n dX5_isWord_48 ?_
      refine az_cVS (st := [.int (bI (b (rd_fr b n e + i)))]) dX5_isWord_49 sv_R_212 rfl hr (s_charAt (d := d - 1) (by omega) hr (i := i) (by omega) ?_)
      have hch := az_ch_b hr (j := i) (by omega)
      refine az_icmp_eq (tgt := 57) dX5_isWord_52 (fun c52 => ?_) (fun c52 => ?_)
      · refine az_iincN (n := 1) (ls' := [(0, .ref q), (1, .retAddr (2 * k9)), (2, .int (nI (i + 1)))]) dX5_isWord_57 ?_
        refine az_goto (tgt := 28) dX5_isWord_60 ?_
        exact ih _ (by omega) (i + 1) c5 c21 rfl (by omega) (fun j q => if e9 : j = i then (by rw [e9]; exact (bI_eq (hb _) hch.2).mp c52) else hin j (by omega))
      · refine az_iconst (v := nI 0) dX5_isWord_55 ?_
        exact az_iret dX5_isWord_56 (hQ0 (fun h => c52 ((bI_eq (hb _) hch.2).mpr (h.2.2 i (by omega)))))
  refine az_M.of rfl (Nat.le_of_ble_eq_true rfl) ?_
  show az_W _ _ _ _ 0 [(0, .ref q), (1, .retAddr (2 * k9))] [] _ _
  refine az_aload_n dX5_isWord_0 ?_
  refine az_getf (v := .int (nI (rd_kd b n e))) dX5_isWord_1 fl_X5_51 h0 ?_
  refine az_iconst (v := nI 1) dX5_isWord_4 ?_
  refine az_icmp_neN (tgt := 24) dX5_isWord_5 (fun c5 => ?_) (fun c5 => ?_)
  · refine az_iconst (v := nI 0) dX5_isWord_24 ?_
    exact az_iret dX5_isWord_25 (by first | exact hQ0 (fun h => c5 h.1) | exact hQ0 (fun h => c21 h.2.1))
  · refine az_aload_n dX5_isWord_8 ?_
    refine az_getf (v := .int (nI (rd_en b n e))) dX5_isWord_9 fl_X5_38 h0 ?_
    refine az_aload_n dX5_isWord_12 ?_
    refine az_getf (v := .int (nI (rd_fr b n e))) dX5_isWord_13 fl_X5_204 h0 ?_
    refine az_isubN dX5_isWord_16 hel.1 ?_
    refine az_aload_nS dX5_isWord_17 ?_
    refine az_cVS (st := [.int (nI ((rd_en b n e) - (rd_fr b n e)))]) dX5_isWord_18 sv_R_207 rfl hr (s_strlen (d := d - 1) (by omega) hr ?_)
    refine az_icmp_eqN (tgt := 26) dX5_isWord_21 (fun c21 => ?_) (fun c21 => ?_)
    · refine az_iconst (v := nI 0) dX5_isWord_26 ?_
      refine az_istore_n (ls' := [(0, .ref q), (1, .retAddr (2 * k9)), (2, .int (nI 0))]) dX5_isWord_27 ?_
      exact loop _ 0 c5 c21 rfl (Nat.zero_le _) (fun j q => absurd q (by omega))
    · refine az_iconst (v := nI 0) dX5_isWord_24 ?_
      exact az_iret dX5_isWord_25 (by first | exact hQ0 (fun h => c5 h.1) | exact hQ0 (fun h => c21 h.2.1))
set_option maxRecDepth 100000 in
theorem g_takeWord {d k9 q tx n e : Nat} {r : String × Nat × String} {b : Nat → Nat} {k5 : Nat} {va : Int32} {hp : az_Hp} {Q : Option Value → az_Hp → Prop} (hd : 6 ≤ d) (hr : az_txt[k9]? = some r) (hS : rd_Sg hp q tx n b e k5 va) (hQ : rd_Qg (rd_tw b n r.2.2 e []) k5 hp q tx n b Q) : az_M mX5_takeWord d 0 0 [.ref q, .retAddr (2 * k9)] hp Q := by
  obtain ⟨hX, he, hc, cf, ol, h0, h3, hcf, h2⟩ := id hS
  refine az_M.of rfl (Nat.le_of_ble_eq_true rfl) ?_
  show az_W _ _ _ _ 0 [(0, .ref q), (1, .retAddr (2 * k9))] [] _ _
  refine az_aload_n dX5_takeWord_0 ?_
  refine az_aload_nS dX5_takeWord_1 ?_
  refine az_cV0 (st := []) dX5_takeWord_2 ml_X5_87 h0 (g_isWord (d := d - 1) (by omega) hr hS ?_ ?_)
  · intro hs1
    refine az_if_neN (tgt := 14) dX5_takeWord_5 (fun c5 => ?_) (fun c5 => ?_)
    · refine az_aload_n dX5_takeWord_14 ?_
      refine az_cV0 (st := []) dX5_takeWord_15 ml_X5_41 h0 (g_adv (d := d - 1) (by omega) hS ?_)
      intro h2' hS2 hf2
      refine az_iconst (v := nI 1) dX5_takeWord_18 ?_
      exact az_iret dX5_takeWord_19 (by rw [rd_tw, if_pos hs1] at hQ; exact hQ h2' hS2 hf2)
    · exact absurd c5 (by omega)
  · intro hs0
    refine az_if_neN (tgt := 14) dX5_takeWord_5 (fun c5 => ?_) (fun c5 => ?_)
    · exact absurd c5 (by omega)
    · refine az_aload_n dX5_takeWord_8 ?_
      refine az_iconst (v := nI 2) dX5_takeWord_9 ?_
      refine az_cV0 (st := []) dX5_takeWord_10 ml_X5_128 h0 (g_failR (d := d - 1) hS (rd_Qg.i ?_ ?_))
      · intro e2 c2 hq2 h2' hS2 hf2
        exact az_iret dX5_takeWord_13 (by rw [rd_tw, if_neg hs0, hq2] at hQ; first | exact hQ h2' hE2 hf2 | exact hQ h2' hS2 hf2)
      · intro f2 p2 hq2 h2' hE2 hf2
        exact az_iret dX5_takeWord_13 (by rw [rd_tw, if_neg hs0, hq2] at hQ; first | exact hQ h2' hE2 hf2 | exact hQ h2' hS2 hf2)
set_option maxRecDepth 100000 in
theorem g_takeSign {d q tx n e x : Nat} {b : Nat → Nat} {k5 : Nat} {va : Int32} {hp : az_Hp} {Q : Option Value → az_Hp → Prop} (hd : 6 ≤ d) (hx : x < 128) (hS : rd_Sg hp q tx n b e k5 va) (hQ : rd_Qg (rd_ts b n x e []) k5 hp q tx n b Q) : az_M mX5_takeSign d 0 0 [.ref q, .int (nI x)] hp Q := by
  obtain ⟨hX, he, hc, cf, ol, h0, h3, hcf, h2⟩ := id hS
  refine az_M.of rfl (Nat.le_of_ble_eq_true rfl) ?_
  show az_W _ _ _ _ 0 [(0, .ref q), (1, .int (nI x))] [] _ _
  refine az_aload_n dX5_takeSign_0 ?_
  refine az_iload_n dX5_takeSign_1 ?_
  refine az_cV0 (st := []) dX5_takeSign_2 ml_X5_169 h0 (g_isSign (d := d - 1) hS hx ?_ ?_)
  · intro hs1
    refine az_if_neN (tgt := 14) dX5_takeSign_5 (fun c5 => ?_) (fun c5 => ?_)
    · refine az_aload_n dX5_takeSign_14 ?_
      refine az_cV0 (st := []) dX5_takeSign_15 ml_X5_41 h0 (g_adv (d := d - 1) (by omega) hS ?_)
      intro h2' hS2 hf2
      refine az_iconst (v := nI 1) dX5_takeSign_18 ?_
      exact az_iret dX5_takeSign_19 (by rw [rd_ts, if_pos hs1] at hQ; exact hQ h2' hS2 hf2)
    · exact absurd c5 (by omega)
  · intro hs0
    refine az_if_neN (tgt := 14) dX5_takeSign_5 (fun c5 => ?_) (fun c5 => ?_)
    · exact absurd c5 (by omega)
    · refine az_aload_n dX5_takeSign_8 ?_
      refine az_iconst (v := nI 2) dX5_takeSign_9 ?_
      refine az_cV0 (st := []) dX5_takeSign_10 ml_X5_128 h0 (g_failR (d := d - 1) hS (rd_Qg.i ?_ ?_))
      · intro e2 c2 hq2 h2' hS2 hf2
        exact az_iret dX5_takeSign_13 (by rw [rd_ts, if_neg hs0, hq2] at hQ; first | exact hQ h2' hE2 hf2 | exact hQ h2' hS2 hf2)
      · intro f2 p2 hq2 h2' hE2 hf2
        exact az_iret dX5_takeSign_13 (by rw [rd_ts, if_neg hs0, hq2] at hQ; first | exact hQ h2' hE2 hf2 | exact hQ h2' hS2 hf2)
set_option maxRecDepth 100000 in
theorem g_openLaw {d q tx n e : Nat} {b : Nat → Nat} {k5 : Nat} {va : Int32} {hp : az_Hp} {Q : Option Value → az_Hp → Prop} (hd : 7 ≤ d) (hS : rd_Sg hp q tx n b e k5 va) (hQ : rd_Q (rd_ts b n 58 (rd_en b n e) []) (rd_en b n e) 0 hp q tx n b Q) : az_M mX5_openLaw d 0 0 [.ref q] hp Q := by
  obtain ⟨hX, he, hc, cf, ol, h0, h3, hcf, h2⟩ := id hS
  refine az_M.of rfl (Nat.le_of_ble_eq_true rfl) ?_
  show az_W _ _ _ _ 0 [(0, .ref q)] [] _ _
  refine az_aload_n dX5_openLaw_0 ?_
  refine az_cV0 (st := []) dX5_openLaw_1 ml_X5_41 h0 (g_adv (d := d - 1) (by omega) hS ?_)
  intro h1 hS1 hf1
  obtain ⟨va1, hW1, hce1, hv1⟩ := id hS1
  obtain ⟨hX1, he1, hc1, cf1, ol1, g1, g3, hcf1, g2⟩ := id hW1
  refine az_aload_n dX5_openLaw_4 ?_
  refine az_iconst (v := nI 0) dX5_openLaw_5 ?_
  refine az_putf (fs' := [.int (nI 0), .int ((-1)), .ref tx, .int (nI n), .int (nI (rd_kd b n (rd_en b n e))), .int (nI (rd_fr b n (rd_en b n e))), .int (nI (rd_en b n (rd_en b n e))), .int va1, .ref (q + 2), .ref (q + 3), .int (nI 0)]) dX5_openLaw_6 fl_X5_108 g1 ?_
  refine az_aload_n dX5_openLaw_9 ?_
  refine az_bipush (v := nI 58) dX5_openLaw_10 ?_
  have hW2 : rd_Sw (az_up h1 q (az_O 4 [.int (nI 0), .int ((-1)), .ref tx, .int (nI n), .int (nI (rd_kd b n (rd_en b n e))), .int (nI (rd_fr b n (rd_en b n e))), .int (nI (rd_en b n (rd_en b n e))), .int va1, .ref (q + 2), .ref (q + 3), .int (nI 0)])) q tx n b (rd_en b n e) [] va1 := ⟨hX1.fr rd_f.rf.up, he1, Nat.zero_le _, cf1, ol1, az_up_eq, az_up_ne g3, (fun i hi => absurd hi (Nat.not_lt_zero _)), az_up_ne g2⟩
  refine az_cV0 (st := []) dX5_openLaw_12 ml_X5_81 az_up_eq (s_takeSign (d := d - 1) (x := 58) (by omega) (by omega) hW2 (rd_Q.i ?_ ?_))
  · intro e2 c2 hq2 h2' hS2 hf2
    rw [hq2] at hQ
    exact az_iret dX5_openLaw_15 (by first | exact hQ h2' hS2 ((hf1.up).tr hf2) | exact hQ h2' hE2 ((hf1.up).tr hf2))
  · intro f2 p2 hq2 h2' hE2 hf2
    rw [hq2] at hQ
    exact az_iret dX5_openLaw_15 (by first | exact hQ h2' hS2 ((hf1.up).tr hf2) | exact hQ h2' hE2 ((hf1.up).tr hf2))
set_option maxRecDepth 100000 in
theorem g_takeNumber {d q tx n e lo hi : Nat} {b : Nat → Nat} {k5 : Nat} {hp : az_Hp} {Q : Option Value → az_Hp → Prop} (hd : 6 ≤ d) (hS : rd_Sn hp q tx n b e k5) (hlo : lo < 1000) (hhi : hi < 1000) (hQ1 : rd_tn b n lo hi e [] = .inl (rd_en b n e, []) → lo ≤ rd_va b n e → rd_va b n e ≤ hi → ∀ h', rd_Sg h' q tx n b (rd_en b n e) k5 (nI (rd_va b n e)) → rd_f hp h' q → Q (some (.int (nI 1))) h') (hQ0 : ∀ f p, rd_tn b n lo hi e [] = .inr (f, p) → ∀ h', rd_Er h' q tx n b f p 0 900 → rd_f hp h' q → Q (some (.int (nI 0))) h') : az_M mX5_takeNumber d 0 0 [.ref q, .int (nI lo), .int (nI hi)] hp Q := by
  obtain ⟨va, hW, hce, hv⟩ := id hS
  obtain ⟨hX, he, hc, cf, ol, h0, h3, hcf, h2⟩ := id hW
  have hk4 := rd_kd_le b n e
  refine az_M.of rfl (Nat.le_of_ble_eq_true rfl) ?_
  show az_W _ _ _ _ 0 [(0, .ref q), (1, .int (nI lo)), (2, .int (nI hi))] [] _ _
  refine az_aload_n dX5_takeNumber_0 ?_
  refine az_getf (v := .int (nI (rd_kd b n e))) dX5_takeNumber_1 fl_X5_51 h0 ?_
  refine az_iconst (v := nI 2) dX5_takeNumber_4 ?_
  refine az_icmp_eqN (tgt := 14) dX5_takeNumber_5 (fun c5 => ?_) (fun c5 => ?_)
  · refine az_aload_n dX5_takeNumber_14 ?_
    refine az_getf (v := .int va) dX5_takeNumber_15 fl_X5_69 h0 ?_
    have hvl := rd_va_lt he c5
    rw [hv c5]
    refine az_iload_n dX5_takeNumber_18 ?_
    refine az_icmp_ltN (tgt := 30) dX5_takeNumber_19 (fun c19 => ?_) (fun c19 => ?_)
    · refine az_aload_n dX5_takeNumber_30 ?_
      refine az_iconst (v := nI 3) dX5_takeNumber_31 ?_
      refine az_cV0 (st := []) dX5_takeNumber_32 ml_X5_128 h0 (g_failR (d := d - 1) hW (fun h2' hE2 hf2 => ?_))
      exact az_iret dX5_takeNumber_35 (hQ0 _ _ (by rw [rd_tn, if_neg (fun q9 => q9 c5), if_pos (by omega)]; rfl) h2' hE2 hf2)
    · refine az_aload_n dX5_takeNumber_22 ?_
      refine az_getf (v := .int va) dX5_takeNumber_23 fl_X5_69 h0 ?_
      rw [hv c5]
      refine az_iload_n dX5_takeNumber_26 ?_
      refine az_icmp_leN (tgt := 36) dX5_takeNumber_27 (fun c27 => ?_) (fun c27 => ?_)
      · refine az_aload_n dX5_takeNumber_36 ?_
        refine az_getf (v := .int va) dX5_takeNumber_37 fl_X5_69 h0 ?_
        rw [hv c5]
        refine az_istore_n (ls' := [(0, .ref q), (1, .int (nI lo)), (2, .int (nI hi)), (3, .int (nI (rd_va b n e)))]) dX5_takeNumber_40 ?_
        refine az_aload_n dX5_takeNumber_41 ?_
        refine az_cV0 (st := []) dX5_takeNumber_42 ml_X5_41 h0 (g_adv (d := d - 1) (by omega) hW ?_)
        intro h1 hS1 hf1
        obtain ⟨va1, hW1, hce1, hv1⟩ := id hS1
        obtain ⟨hX1, he1, hc1, cf1, ol1, g1, g3, hcf1, g2⟩ := id hW1
        refine az_aload_n dX5_takeNumber_45 ?_
        refine az_iload_n dX5_takeNumber_46 ?_
        refine az_putf (fs' := [.int (nI 0), .int ((-1)), .ref tx, .int (nI n), .int (nI (rd_kd b n (rd_en b n e))), .int (nI (rd_fr b n (rd_en b n e))), .int (nI (rd_en b n (rd_en b n e))), .int (nI (rd_va b n e)), .ref (q + 2), .ref (q + 3), .int (nI k5)]) dX5_takeNumber_47 fl_X5_69 g1 ?_
        refine az_iconst (v := nI 1) dX5_takeNumber_50 ?_
        exact az_iret dX5_takeNumber_51 (hQ1 (by rw [rd_tn, if_neg (fun q9 => q9 c5), if_neg (by omega)]) (by omega) (by omega) _ ⟨hX1.fr rd_f.rf.up, he1, hc1, cf1, ol1, az_up_eq, az_up_ne g3, hcf1, az_up_ne g2⟩ hf1.up)
      · refine az_aload_n dX5_takeNumber_30 ?_
        refine az_iconst (v := nI 3) dX5_takeNumber_31 ?_
        refine az_cV0 (st := []) dX5_takeNumber_32 ml_X5_128 h0 (g_failR (d := d - 1) hW (fun h2' hE2 hf2 => ?_))
        exact az_iret dX5_takeNumber_35 (hQ0 _ _ (by rw [rd_tn, if_neg (fun q9 => q9 c5), if_pos (by omega)]; rfl) h2' hE2 hf2)
  · refine az_aload_n dX5_takeNumber_8 ?_
    refine az_iconst (v := nI 2) dX5_takeNumber_9 ?_
    refine az_cV0 (st := []) dX5_takeNumber_10 ml_X5_128 h0 (g_failR (d := d - 1) hW (fun h2' hE2 hf2 => ?_))
    exact az_iret dX5_takeNumber_13 (hQ0 _ _ (by rw [rd_tn, if_pos c5]; rfl) h2' hE2 hf2)

theorem rd_Sg.upA {hp : az_Hp} {q tx n e iA m : Nat} {b : Nat → Nat} {k5 : Nat} {va : Int32} {g g' : Nat → Int32} (hS : rd_Sg hp q tx n b e k5 va) (hA : hp.2 iA = some (az_I m g)) (h1 : iA ≠ q ∧ iA ≠ q + 3 ∧ iA ≠ tx) : rd_Sg (az_up hp iA (az_I m g')) q tx n b e k5 va := by
  obtain ⟨⟨x1, x2, x3, tf, x4, x5⟩, he, hc, cf, ol, h0, h3, hcf, h2⟩ := hS
  refine ⟨⟨x1, x2, x3, tf, az_up_ne x4, x5⟩, he, hc, cf, ?_⟩
  by_cases e2 : iA = q + 2
  · rw [e2] at hA
    have hm := az_I_inj (hA.symm.trans h2)
    subst hm
    exact ⟨g', az_up_ne h0, az_up_ne h3, hcf, by rw [← e2]; exact az_up_eq⟩
  · exact ⟨ol, az_up_ne h0, az_up_ne h3, hcf, az_up_ne h2⟩
set_option maxHeartbeats 4000000 in
set_option maxRecDepth 100000 in
theorem g_takeLetters {d q tx n e most at9 iA m : Nat} {b : Nat → Nat} {k5 : Nat} {va : Int32} {g : Nat → Int32} {hp : az_Hp} {Q : Option Value → az_Hp → Prop} (hd : 6 ≤ d) (hW : rd_Sg hp q tx n b e k5 va) (hA : hp.2 iA = some (az_I m g)) (hi9 : iA ≠ q ∧ iA ≠ q + 3 ∧ iA ≠ tx) (hm : at9 + most ≤ m) (hm9 : m ≤ 900)
    (hQ1 : rd_tl b n most e [] = .inl (rd_en b n e, []) → 1 ≤ (rd_en b n e - rd_fr b n e) → (rd_en b n e - rd_fr b n e) ≤ most → ∀ (h' : az_Hp) (g' : Nat → Int32), (∀ j, j < (rd_en b n e - rd_fr b n e) → g' (at9 + j) = nI (b (rd_fr b n e + j) - 97)) → (∀ j, j < (rd_en b n e - rd_fr b n e) → b (rd_fr b n e + j) - 97 < 6) → (∀ j, (j < at9 ∨ at9 + (rd_en b n e - rd_fr b n e) ≤ j) → g' j = g j) → h'.2 iA = some (az_I m g') → rd_Sg h' q tx n b (rd_en b n e) k5 (nI (rd_en b n e - rd_fr b n e)) → rd_fA hp h' q iA → Q (some (.int (nI 1))) h') (hQ0 : ∀ f p, rd_tl b n most e [] = .inr (f, p) → ∀ h', rd_Er h' q tx n b f p 0 900 → rd_f hp h' q → Q (some (.int (nI 0))) h') : az_M mX5_takeLetters d 0 0 [.ref q, .int (nI most), .ref iA, .int (nI at9)] hp Q := by
  obtain ⟨hX, he, hc, cf, ol, h0, h3, hcf, h2⟩ := id hW
  obtain ⟨hb, hn, ht9, tf, ht, htf⟩ := id hX
  obtain ⟨i1, i2, i3⟩ := id hi9
  have hk4 := rd_kd_le b n e
  have hel := rd_en_le (b := b) he
  have wr : ∀ (k : Nat) (j : Nat) (g' : Nat → Int32) (h' : az_Hp) (hk1 : rd_kd b n e = 1) (haf : rd_af b n e) (hmn : (rd_en b n e - rd_fr b n e) ≤ most) (hm1 : 1 ≤ (rd_en b n e - rd_fr b n e)), (rd_en b n e - rd_fr b n e) - j = k → (j ≤ (rd_en b n e - rd_fr b n e)) → (∀ i, i < j → g' (at9 + i) = nI (b (rd_fr b n e + i) - 97)) → (∀ i, (i < at9 ∨ at9 + j ≤ i) → g' i = g i) → (h' = az_up hp iA (az_I m g')) → az_W mX5_takeLetters d 0 0 92 [(0, .ref q), (1, .int (nI most)), (2, .ref iA), (3, .int (nI at9)), (4, .int (nI ((rd_en b n e - rd_fr b n e)))), (5, .int (nI j))] [] h' Q := by
    intro k
    induction k using Nat.strongRecOn with
    | _ k ih =>
    intro j g' h' hk1 haf hmn hm1 hk hj9 hg ho hh
    refine az_iload dX5_takeLetters_92 ?_
    refine az_iload dX5_takeLetters_94 ?_
    refine az_icmp_geN (tgt := 126) dX5_takeLetters_96 (fun c96 => ?_) (fun c96 => ?_)
    · have hW' : rd_Sg h' q tx n b e k5 va := (by rw [hh]; exact hW.upA hA hi9)
      refine az_aload_n dX5_takeLetters_126 ?_
      refine az_cV0 (st := []) dX5_takeLetters_127 ml_X5_41 (by rw [hh]; exact az_up_ne h0) (g_adv (d := d - 1) (by omega) hW' ?_)
      intro h1 hS1 hf1
      obtain ⟨va1, hW1, hce1, hv1⟩ := id hS1
      obtain ⟨hX1, he1, hc1, cf1, ol1, g1, g3, hcf1, g2⟩ := id hW1
      refine az_aload_n dX5_takeLetters_130 ?_
      refine az_iload dX5_takeLetters_131 ?_
      refine az_putf (fs' := [.int (nI 0), .int ((-1)), .ref tx, .int (nI n), .int (nI (rd_kd b n (rd_en b n e))), .int (nI (rd_fr b n (rd_en b n e))), .int (nI (rd_en b n (rd_en b n e))), .int (nI ((rd_en b n e - rd_fr b n e))), .ref (q + 2), .ref (q + 3), .int (nI k5)]) dX5_takeLetters_133 fl_X5_69 g1 ?_
      refine az_iconst (v := nI 1) dX5_takeLetters_136 ?_
      exact az_iret dX5_takeLetters_137 (hQ1 (by rw [rd_tl, if_neg (fun q9 => q9 hk1), if_neg (fun q9 => q9 haf), if_neg (by omega)]) (by omega) hmn _ g' (fun i q9 => hg i (by omega)) (fun i q9 => (by have := haf i q9; omega)) (fun i q9 => ho i (by omega)) (az_up_ne (hf1.at (by rw [hh]; exact az_up_eq))) ⟨hX1.fr rd_f.rf.up, he1, hc1, cf1, ol1, az_up_eq, az_up_ne g3, hcf1, az_up_ne g2⟩ ⟨hf1.1.trans (by rw [hh]; rfl), fun z u1 u2 u3 => (by rw [az_up_ne rfl, hf1.2 z u1 u2, hh, az_up_ne rfl])⟩)
    · refine az_aload_n dX5_takeLetters_99 ?_
      refine az_iload_n dX5_takeLetters_100 ?_
      refine az_iload dX5_takeLetters_101 ?_
      refine az_iaddN dX5_takeLetters_103 ?_
      refine az_aload_n dX5_takeLetters_104 ?_
      refine az_getf (v := .ref tx) dX5_takeLetters_105 fl_X5_18 (by rw [hh]; exact az_up_ne h0) ?_
      refine az_aload_n dX5_takeLetters_108 ?_
      refine az_getf (v := .int (nI (rd_fr b n e))) dX5_takeLetters_109 fl_X5_204 (by rw [hh]; exact az_up_ne h0) ?_
      refine az_iload dX5_takeLetters_112 ?_
      refine az_iaddN dX5_takeLetters_114 ?_
      have hk9 := rd_k1 he hk1 (rd_fr b n e + j) (by omega) (by omega)
      refine az_baldN (j := (rd_fr b n e) + j) dX5_takeLetters_115 (by rw [hh]; exact az_up_ne ht) ?_
      rw [htf _ (by omega), bI_nI (by omega)]
      refine az_bipush (v := nI 97) dX5_takeLetters_116 ?_
      refine az_isubN dX5_takeLetters_118 (by omega) ?_
      refine az_iastN (j := at9 + j) dX5_takeLetters_119 (by rw [hh]; exact az_up_eq) ?_
      refine az_iincN (n := 1) (ls' := [(0, .ref q), (1, .int (nI most)), (2, .ref iA), (3, .int (nI at9)), (4, .int (nI ((rd_en b n e - rd_fr b n e)))), (5, .int (nI (j + 1)))]) dX5_takeLetters_120 ?_
      refine az_goto (tgt := 92) dX5_takeLetters_123 ?_
      exact ih _ (by omega) (j + 1) (az_s g' (at9 + j) (nI (b (rd_fr b n e + j) - 97))) _ hk1 haf hmn hm1 rfl (by omega) (fun i q9 => if e9 : i = j then (by rw [e9, az_s_eq]) else (by rw [az_s_ne (by omega)]; exact hg i (by omega))) (fun i q9 => (by rw [az_s_ne (by omega)]; exact ho i (by omega))) (by rw [hh, az_up_up])
  have sc : ∀ (k : Nat) (i : Nat) (hk1 : rd_kd b n e = 1), rd_en b n e - i = k → (rd_fr b n e ≤ i) → (i ≤ rd_en b n e) → (∀ j, rd_fr b n e + j < i → b (rd_fr b n e + j) ≤ 102) → az_W mX5_takeLetters d 0 0 20 [(0, .ref q), (1, .int (nI most)), (2, .ref iA), (3, .int (nI at9)), (4, .int (nI i))] [] hp Q := by
    intro k
    induction k using Nat.strongRecOn with
    | _ k ih =>
    intro i hk1 hk hi1 hi2 hin
    refine az_iload dX5_takeLetters_20 ?_
    refine az_aload_n dX5_takeLetters_22 ?_
    refine az_getf (v := .int (nI (rd_en b n e))) dX5_takeLetters_23 fl_X5_38 h0 ?_
    refine az_icmp_geN (tgt := 53) dX5_takeLetters_26 (fun c26 => ?_) (fun c26 => ?_)
    · have haf : rd_af b n e := (fun j q9 => hin j (by omega))
      have hlt := rd_en_lt (b := b) he (by omega)
      refine az_aload_n dX5_takeLetters_53 ?_
      refine az_getf (v := .int (nI (rd_en b n e))) dX5_takeLetters_54 fl_X5_38 h0 ?_
      refine az_aload_n dX5_takeLetters_57 ?_
      refine az_getf (v := .int (nI (rd_fr b n e))) dX5_takeLetters_58 fl_X5_204 h0 ?_
      refine az_isubN dX5_takeLetters_61 (by omega) ?_
      refine az_istore (ls' := [(0, .ref q), (1, .int (nI most)), (2, .ref iA), (3, .int (nI at9)), (4, .int (nI ((rd_en b n e) - (rd_fr b n e))))]) dX5_takeLetters_62 ?_
      refine az_iload dX5_takeLetters_64 ?_
      refine az_iload_n dX5_takeLetters_66 ?_
      refine az_icmp_gtN (tgt := 83) dX5_takeLetters_67 (fun c67 => ?_) (fun c67 => ?_)
      · refine az_aload_n dX5_takeLetters_83 ?_
        refine az_iconst (v := nI 3) dX5_takeLetters_84 ?_
        refine az_cV0 (st := []) dX5_takeLetters_85 ml_X5_128 h0 (g_failR (d := d - 1) hW (fun h2' hE2 hf2 => ?_))
        exact az_iret dX5_takeLetters_88 (hQ0 _ _ (by rw [rd_tl, if_neg (fun q9 => q9 hk1), if_neg (fun q9 => q9 haf), if_pos (by omega)]; rfl) h2' hE2 hf2)
      · refine az_iload_n dX5_takeLetters_70 ?_
        refine az_if_ltN (tgt := 83) dX5_takeLetters_71 (fun c71 => ?_) (fun c71 => ?_)
        · first | exact c71.elim | exact absurd c71 (by omega)
        · refine az_iload_n dX5_takeLetters_74 ?_
          refine az_iload dX5_takeLetters_75 ?_
          refine az_iaddN dX5_takeLetters_77 ?_
          refine az_aload_n dX5_takeLetters_78 ?_
          refine az_alen dX5_takeLetters_79 hA ?_
          refine az_icmp_leN (tgt := 89) dX5_takeLetters_80 (fun c80 => ?_) (fun c80 => ?_)
          · refine az_iconst (v := nI 0) dX5_takeLetters_89 ?_
            refine az_istore (ls' := [(0, .ref q), (1, .int (nI most)), (2, .ref iA), (3, .int (nI at9)), (4, .int (nI ((rd_en b n e) - (rd_fr b n e)))), (5, .int (nI 0))]) dX5_takeLetters_90 ?_
            exact wr _ 0 g hp hk1 haf (by omega) (by omega) rfl (Nat.zero_le _) (fun i q9 => absurd q9 (by omega)) (fun i _ => rfl) (az_up_same hA).symm
          · exact absurd c80 (by omega)
    · refine az_aload_n dX5_takeLetters_29 ?_
      refine az_getf (v := .ref tx) dX5_takeLetters_30 fl_X5_18 h0 ?_
      refine az_iload dX5_takeLetters_33 ?_
      have hk9 := rd_k1 he hk1 i (by omega) (by omega)
      refine az_baldN (j := i) dX5_takeLetters_35 ht ?_
      rw [htf i (by omega)]
      refine az_bipush (v := nI 102) dX5_takeLetters_36 ?_
      refine az_icmp_le (tgt := 47) dX5_takeLetters_38 (fun c38 => ?_) (fun c38 => ?_)
      · refine az_iincN (n := 1) (ls' := [(0, .ref q), (1, .int (nI most)), (2, .ref iA), (3, .int (nI at9)), (4, .int (nI (i + 1)))]) dX5_takeLetters_47 ?_
        refine az_goto (tgt := 20) dX5_takeLetters_50 ?_
        exact ih _ (by omega) (i + 1) hk1 rfl (by omega) (by omega) (fun j q9 => if e9 : rd_fr b n e + j = i then (by rw [e9]; rw [bI_le (hb i) (by omega)] at c38; omega) else hin j (by omega))
      · refine az_aload_n dX5_takeLetters_41 ?_
        refine az_iconst (v := nI 2) dX5_takeLetters_42 ?_
        refine az_cV0 (st := []) dX5_takeLetters_43 ml_X5_128 h0 (g_failR (d := d - 1) hW (fun h2' hE2 hf2 => ?_))
        exact az_iret dX5_takeLetters_46 (hQ0 _ _ (by rw [rd_tl, if_neg (fun q9 => q9 hk1), if_pos (fun q9 => (by rw [bI_le (hb i) (by omega)] at c38; have h9 := q9 (i - rd_fr b n e) (by omega); rw [show rd_fr b n e + (i - rd_fr b n e) = i by omega] at h9; omega))]; rfl) h2' hE2 hf2)
  refine az_M.of rfl (Nat.le_of_ble_eq_true rfl) ?_
  show az_W _ _ _ _ 0 [(0, .ref q), (1, .int (nI most)), (2, .ref iA), (3, .int (nI at9))] [] _ _
  refine az_aload_n dX5_takeLetters_0 ?_
  refine az_getf (v := .int (nI (rd_kd b n e))) dX5_takeLetters_1 fl_X5_51 h0 ?_
  refine az_iconst (v := nI 1) dX5_takeLetters_4 ?_
  refine az_icmp_eqN (tgt := 14) dX5_takeLetters_5 (fun c5 => ?_) (fun c5 => ?_)
  · refine az_aload_n dX5_takeLetters_14 ?_
    refine az_getf (v := .int (nI (rd_fr b n e))) dX5_takeLetters_15 fl_X5_204 h0 ?_
    refine az_istore (ls' := [(0, .ref q), (1, .int (nI most)), (2, .ref iA), (3, .int (nI at9)), (4, .int (nI (rd_fr b n e)))]) dX5_takeLetters_18 ?_
    exact sc _ (rd_fr b n e) c5 rfl (Nat.le_refl _) hel.1 (fun j q9 => absurd q9 (by omega))
  · refine az_aload_n dX5_takeLetters_8 ?_
    refine az_iconst (v := nI 2) dX5_takeLetters_9 ?_
    refine az_cV0 (st := []) dX5_takeLetters_10 ml_X5_128 h0 (g_failR (d := d - 1) hW (fun h2' hE2 hf2 => ?_))
    exact az_iret dX5_takeLetters_13 (hQ0 _ _ (by rw [rd_tl, if_pos c5]; rfl) h2' hE2 hf2)

