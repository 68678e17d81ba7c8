/-! Reader: its state, the words and signs that it takes -/
/-- only the reader and its words change -/
def rd_f (h h' : az_Hp) (q : Nat) : Prop := h'.1 = h.1 ∧ ∀ z, z ≠ q → z ≠ q + 3 → h'.2 z = h.2 z
theorem rd_f.rf {h : az_Hp} {q : Nat} : rd_f h h q := ⟨rfl, fun _ _ _ => rfl⟩
theorem rd_f.tr {h h' h'' : az_Hp} {q : Nat} (h1 : rd_f h h' q) (h2 : rd_f h' h'' q) : rd_f h h'' q := ⟨h2.1.trans h1.1, fun z a b => (h2.2 z a b).trans (h1.2 z a b)⟩
theorem rd_f.up {h h' : az_Hp} {q a : Nat} {c : az_C} (h1 : rd_f h h' q) (ha : a = q ∨ a = q + 3 := by omega) : rd_f h (az_up h' a c) q := ⟨h1.1, fun z p r => (if_neg (by omega)).trans (h1.2 z p r)⟩
theorem rd_f.at {h h' : az_Hp} {q z : Nat} {x : Option az_C} (hf : rd_f h h' q) (hx : h.2 z = x) (h1 : z ≠ q := by omega) (h2 : z ≠ q + 3 := by omega) : h'.2 z = x := (hf.2 z h1 h2).trans hx
def rd_X (h : az_Hp) (q tx n : Nat) (b : Nat → Nat) : Prop := (∀ j, b j < 256) ∧ n ≤ 900 ∧ (tx < q ∨ q + 4 ≤ tx) ∧ ∃ tf, h.2 tx = some (az_Y 900 tf) ∧ ∀ j, j < n → tf j = bI (b j)
theorem rd_X.fr {h h' : az_Hp} {q tx n : Nat} {b : Nat → Nat} (H : rd_X h q tx n b) (hf : rd_f h h' q) : rd_X h' q tx n b := by
  obtain ⟨h1, h2, h3, tf, h4, h5⟩ := H
  exact ⟨h1, h2, h3, tf, hf.at h4, h5⟩
/-- at the token behind e, with the words c so far; value is va -/
def rd_Sw (h : az_Hp) (q tx n : Nat) (b : Nat → Nat) (e : Nat) (c : List Nat) (va : Int32) : Prop := rd_X h q tx n b ∧ e ≤ n ∧ c.length ≤ rd_en b n e ∧ ∃ (cf ol : Nat → Int32), h.2 q = some (az_O 4 [.int (nI 0), .int (-1), .ref tx, .int (nI n), .int (nI (rd_kd b n e)), .int (nI (rd_fr b n e)), .int (nI (rd_en b n e)), .int va, .ref (q + 2), .ref (q + 3), .int (nI c.length)]) ∧ h.2 (q + 3) = some (az_I 900 cf) ∧ (∀ i, i < c.length → cf i = lw_phi (c.getD i 0)) ∧ h.2 (q + 2) = some (az_I 1 ol)
def rd_St (h : az_Hp) (q tx n : Nat) (b : Nat → Nat) (e : Nat) (c : List Nat) : Prop := ∃ va, rd_Sw h q tx n b e c va ∧ c.length ≤ e ∧ (rd_kd b n e = 2 → va = nI (rd_va b n e))
/-- a fault was found -/
def rd_Er (h : az_Hp) (q tx n : Nat) (b : Nat → Nat) (f p k1 k2 : Nat) : Prop := rd_X h q tx n b ∧ ∃ (ki aa zz : Value) (va : Int32) (m : Nat) (cf ol : Nat → Int32), h.2 q = some (az_O 4 [.int (nI f), .int (nI p), .ref tx, .int (nI n), ki, aa, zz, .int va, .ref (q + 2), .ref (q + 3), .int (nI m)]) ∧ m ≤ 900 ∧ h.2 (q + 3) = some (az_I 900 cf) ∧ h.2 (q + 2) = some (az_I 1 ol) ∧ m + k1 ≤ k2 + p ∧ p ≤ n
theorem rd_Er.mono {h : az_Hp} {q tx n : Nat} {b : Nat → Nat} {f p k1 k2 k1' k2' : Nat} (H : rd_Er h q tx n b f p k1 k2) (hk : k1' + k2 ≤ k1 + k2') : rd_Er h q tx n b f p k1' k2' := by
  obtain ⟨hX, ki, aa, zz, va, m, cf, ol, h0, hm, h3, h2, h4, h5⟩ := H
  exact ⟨hX, ki, aa, zz, va, m, cf, ol, h0, hm, h3, h2, by omega, h5⟩
abbrev rd_R : Type := (Nat × List Nat) ⊕ (Nat × Nat)
abbrev rd_P : Type := Nat → List Nat → rd_R
def rd_Q (r : rd_R) (k1 k2 : Nat) (hp : az_Hp) (q tx n : Nat) (b : Nat → Nat) (Q : Option Value → az_Hp → Prop) : Prop := match r with
  | .inl x => ∀ h', rd_St h' q tx n b x.1 x.2 → rd_f hp h' q → Q (some (.int (nI 1))) h'
  | .inr x => ∀ h', rd_Er h' q tx n b x.1 x.2 k1 k2 → rd_f hp h' q → Q (some (.int (nI 0))) h'
theorem rd_Q.i {r : rd_R} {k1 k2 : Nat} {hp : az_Hp} {q tx n : Nat} {b : Nat → Nat} {Q : Option Value → az_Hp → Prop} (h1 : ∀ e c, r = .inl (e, c) → ∀ h', rd_St h' q tx n b e c → rd_f hp h' q → Q (some (.int (nI 1))) h') (h2 : ∀ f p, r = .inr (f, p) → ∀ h', rd_Er h' q tx n b f p k1 k2 → rd_f hp h' q → Q (some (.int (nI 0))) h') : rd_Q r k1 k2 hp q tx n b Q := by
  match r with
  | .inl (e, c) => exact h1 e c rfl
  | .inr (f, p) => exact h2 f p rfl
def rd_fail (b : Nat → Nat) (n f e : Nat) : rd_R := .inr (if rd_kd b n e = 4 then 1 else f, rd_fr b n e)
abbrev rd_isS (b : Nat → Nat) (n e x : Nat) : Prop := rd_kd b n e = 3 ∧ b (rd_fr b n e) = x
abbrev rd_isW (b : Nat → Nat) (n e : Nat) (t : String) : Prop := rd_kd b n e = 1 ∧ rd_en b n e - rd_fr b n e = (az_byt t).length ∧ ∀ i, i < (az_byt t).length → b (rd_fr b n e + i) = az_ch t i
def rd_tw (b : Nat → Nat) (n : Nat) (t : String) : rd_P := fun e c => if rd_isW b n e t then .inl (rd_en b n e, c) else rd_fail b n 2 e
def rd_ts (b : Nat → Nat) (n x : Nat) : rd_P := fun e c => if rd_isS b n e x then .inl (rd_en b n e, c) else rd_fail b n 2 e
theorem rd_kd_le (b : Nat → Nat) (n e : Nat) : rd_kd b n e ≤ 4 := rd_kA_le b n _
set_option maxRecDepth 100000 in
theorem s_failR {d q tx n e f : Nat} {b : Nat → Nat} {c : List Nat} {va : Int32} {hp : az_Hp} {Q : Option Value → az_Hp → Prop} (hS : rd_Sw hp q tx n b e c va) (hQ : rd_Q (rd_fail b n f e) e c.length hp q tx n b Q) : az_M mX5_fail d 0 0 [.ref q, .int (nI f)] hp Q := by
  obtain ⟨hX, he, hc, cf, ol, h0, h3, hcf, h2⟩ := id hS
  have hk4 := rd_kd_le b n e
  have hc9 := hX.2.1
  have hel := rd_en_le (b := b) he
  have hfl := rd_fr_le (b := b) he
  refine az_M.of rfl (Nat.le_of_ble_eq_true rfl) ?_
  show az_W _ _ _ _ 0 [(0, .ref q), (1, .int (nI f))] [] _ _
  refine az_aload_n dX5_fail_0 ?_
  refine az_aload_n dX5_fail_1 ?_
  refine az_getf (v := .int (nI (rd_kd b n e))) dX5_fail_2 fl_X5_51 h0 ?_
  refine az_iconst (v := nI 4) dX5_fail_5 ?_
  refine az_icmp_neN (tgt := 13) dX5_fail_6 (fun c6 => ?_) (fun c6 => ?_)
  · refine az_iload_n dX5_fail_13 ?_
    refine az_putf (fs' := [.int (nI f), .int ((-1)), .ref tx, .int (nI n), .int (nI (rd_kd b n e)), .int (nI (rd_fr b n e)), .int (nI (rd_en b n e)), .int va, .ref (q + 2), .ref (q + 3), .int (nI c.length)]) dX5_fail_14 fl_X5_9 h0 ?_
    refine az_aload_n dX5_fail_17 ?_
    refine az_aload_n dX5_fail_18 ?_
    refine az_getf (v := .int (nI (rd_fr b n e))) dX5_fail_19 fl_X5_204 az_up_eq ?_
    refine az_putf (fs' := [.int (nI f), .int (nI (rd_fr b n e)), .ref tx, .int (nI n), .int (nI (rd_kd b n e)), .int (nI (rd_fr b n e)), .int (nI (rd_en b n e)), .int va, .ref (q + 2), .ref (q + 3), .int (nI c.length)]) dX5_fail_22 fl_X5_15 az_up_eq ?_
    rw [az_up_up]
    refine az_iconst (v := nI 0) dX5_fail_25 ?_
    exact az_iret dX5_fail_26 (by first | (rw [rd_fail, if_pos c6] at hQ; exact hQ _ ⟨hX.fr rd_f.rf.up, _, _, _, va, c.length, cf, ol, az_up_eq, by omega, az_up_ne h3, az_up_ne h2, by omega, hfl.2⟩ rd_f.rf.up) | (rw [rd_fail, if_neg c6] at hQ; exact hQ _ ⟨hX.fr rd_f.rf.up, _, _, _, va, c.length, cf, ol, az_up_eq, by omega, az_up_ne h3, az_up_ne h2, by omega, hfl.2⟩ rd_f.rf.up))
  · refine az_iconst (v := nI 1) dX5_fail_9 ?_
    refine az_goto (tgt := 14) dX5_fail_10 ?_
    refine az_putf (fs' := [.int (nI 1), .int ((-1)), .ref tx, .int (nI n), .int (nI (rd_kd b n e)), .int (nI (rd_fr b n e)), .int (nI (rd_en b n e)), .int va, .ref (q + 2), .ref (q + 3), .int (nI c.length)]) dX5_fail_14 fl_X5_9 h0 ?_
    refine az_aload_n dX5_fail_17 ?_
    refine az_aload_n dX5_fail_18 ?_
    refine az_getf (v := .int (nI (rd_fr b n e))) dX5_fail_19 fl_X5_204 az_up_eq ?_
    refine az_putf (fs' := [.int (nI 1), .int (nI (rd_fr b n e)), .ref tx, .int (nI n), .int (nI (rd_kd b n e)), .int (nI (rd_fr b n e)), .int (nI (rd_en b n e)), .int va, .ref (q + 2), .ref (q + 3), .int (nI c.length)]) dX5_fail_22 fl_X5_15 az_up_eq ?_
    rw [az_up_up]
    refine az_iconst (v := nI 0) dX5_fail_25 ?_
    exact az_iret dX5_fail_26 (by first | (rw [rd_fail, if_pos c6] at hQ; exact hQ _ ⟨hX.fr rd_f.rf.up, _, _, _, va, c.length, cf, ol, az_up_eq, by omega, az_up_ne h3, az_up_ne h2, by omega, hfl.2⟩ rd_f.rf.up) | (rw [rd_fail, if_neg c6] at hQ; exact hQ _ ⟨hX.fr rd_f.rf.up, _, _, _, va, c.length, cf, ol, az_up_eq, by omega, az_up_ne h3, az_up_ne h2, by omega, hfl.2⟩ rd_f.rf.up))
set_option maxRecDepth 100000 in
theorem s_adv {d q tx n e : Nat} {b : Nat → Nat} {c : List Nat} {va : Int32} {hp : az_Hp} {Q : Option Value → az_Hp → Prop} (hd : 5 ≤ d) (hS : rd_Sw hp q tx n b e c va) (hQ : ∀ h', rd_St h' q tx n b (rd_en b n e) c → rd_f hp h' q → Q none h') : az_M mX5_advance d 0 0 [.ref q] hp Q := by
  obtain ⟨hX, he, hc, cf, ol, h0, h3, hcf, h2⟩ := id hS
  obtain ⟨hb, hn, ht9, tf, ht, htf⟩ := id hX
  have hle := rd_en_le (b := b) he
  have hfe := rd_fr_le (b := b) he
  refine s_advance hd hb hn ht (by omega) htf h0 hle.2 (fun va' hv => ?_)
  have hl2 := rd_en_le (b := b) hle.2
  have hf2 := rd_fr_le (b := b) hle.2
  exact hQ _ ⟨va', ⟨hX.fr rd_f.rf.up, hle.2, by omega, cf, ol, az_up_eq, az_up_ne h3, hcf, az_up_ne h2⟩, hc, hv⟩ rd_f.rf.up
set_option maxRecDepth 100000 in
theorem s_isSign {d q tx n e x : Nat} {b : Nat → Nat} {c : List Nat} {va : Int32} {hp : az_Hp} {Q : Option Value → az_Hp → Prop} (hS : rd_Sw hp q tx n b e c va) (hx : x < 128) (hQ1 : rd_isS b n e x → Q (some (.int (nI 1))) hp) (hQ0 : ¬ rd_isS b n e x → Q (some (.int (nI 0))) hp) : az_M mX5_isSign d 0 0 [.ref q, .int (nI x)] hp Q := by
  obtain ⟨hX, he, hc, cf, ol, h0, h3, hcf, h2⟩ := id hS
  obtain ⟨hb, hn, ht9, tf, ht, htf⟩ := id hX
  have hk4 := rd_kd_le b n e
  refine az_M.of rfl (Nat.le_of_ble_eq_true rfl) ?_
  show az_W _ _ _ _ 0 [(0, .ref q), (1, .int (nI x))] [] _ _
  refine az_aload_n dX5_isSign_0 ?_
  refine az_getf (v := .int (nI (rd_kd b n e))) dX5_isSign_1 fl_X5_51 h0 ?_
  refine az_iconst (v := nI 3) dX5_isSign_4 ?_
  refine az_icmp_neN (tgt := 25) dX5_isSign_5 (fun c5 => ?_) (fun c5 => ?_)
  · refine az_iconst (v := nI 0) dX5_isSign_25 ?_
    exact az_iret dX5_isSign_26 (by first | exact hQ1 ⟨c5, (bI_eq (hb _) hx).mp c18⟩ | exact hQ0 (fun h => c18 ((bI_eq (hb _) hx).mpr h.2)) | exact hQ0 (fun h => c5 h.1))
  · have hen := rd_en_lt (b := b) he (by omega)
    refine az_aload_n dX5_isSign_8 ?_
    refine az_getf (v := .ref tx) dX5_isSign_9 fl_X5_18 h0 ?_
    refine az_aload_n dX5_isSign_12 ?_
    refine az_getf (v := .int (nI (rd_fr b n e))) dX5_isSign_13 fl_X5_204 h0 ?_
    refine az_baldN (j := rd_fr b n e) dX5_isSign_16 ht ?_
    rw [htf _ (by omega)]
    refine az_iload_n dX5_isSign_17 ?_
    refine az_icmp_ne (tgt := 25) dX5_isSign_18 (fun c18 => ?_) (fun c18 => ?_)
    · refine az_iconst (v := nI 0) dX5_isSign_25 ?_
      exact az_iret dX5_isSign_26 (by first | exact hQ1 ⟨c5, (bI_eq (hb _) hx).mp c18⟩ | exact hQ0 (fun h => c18 ((bI_eq (hb _) hx).mpr h.2)) | exact hQ0 (fun h => c5 h.1))
    · refine az_iconst (v := nI 1) dX5_isSign_21 ?_
      refine az_goto (tgt := 26) dX5_isSign_22 ?_
      exact az_iret dX5_isSign_26 (by first | exact hQ1 ⟨c5, (bI_eq (hb _) hx).mp c18⟩ | exact hQ0 (fun h => c18 ((bI_eq (hb _) hx).mpr h.2)) | exact hQ0 (fun h => c5 h.1))
