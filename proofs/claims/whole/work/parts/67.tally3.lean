/-! Tally: cleared -/
set_option maxRecDepth 100000 in
theorem s_greatest {d y S n kk kt tb : Nat} {L : List Nat} {hp : az_Hp} {Q : Option Value → az_Hp → Prop} (hI : ta_In hp y S n kk kt L) (h3 : tb < 3) (hQ : Q (some (.int (nI (ta_mx tb L)))) hp) : az_M mX8_greatest d 0 0 [.ref y, .int (nI tb)] hp Q := by
  obtain ⟨hdi, hSn, ks, ti, h0, h1, h2, hm, -⟩ := hI
  refine az_M.of rfl (Nat.le_of_ble_eq_true rfl) ?_
  show az_W _ _ _ _ 0 [(0, .ref y), (1, .int (nI tb))] [] _ _
  refine az_iload_n dX8_greatest_0 ?_
  refine az_if_ltN (tgt := 18) dX8_greatest_1 (fun c1 => ?_) (fun c1 => ?_)
  · first | exact c1.elim | exact absurd c1 (by omega)
  · refine az_iload_n dX8_greatest_4 ?_
    refine az_iconst (v := nI 3) dX8_greatest_5 ?_
    refine az_icmp_geN (tgt := 18) dX8_greatest_6 (fun c6 => ?_) (fun c6 => ?_)
    · exact absurd h3 (by omega)
    · refine az_aload_n dX8_greatest_9 ?_
      refine az_getf (v := .ref (y + 3)) dX8_greatest_10 fl_X8_23 h0 ?_
      refine az_iload_n dX8_greatest_13 ?_
      refine az_ialdN (j := tb) dX8_greatest_14 hm ?_
      refine az_goto (tgt := 19) dX8_greatest_15 ?_
      exact az_iret dX8_greatest_19 (hQ)
def ta_sf (e : Nat) : Nat → Nat → Nat
  | 0, s => s
  | f + 1, s => if s < e + e / 4 then ta_sf e f (s * 2) else s
def ta_sl (e : Nat) : Nat := ta_sf e 20 64
theorem ta_sf_ok {e : Nat} (he : e ≤ 19683) : ∀ (f i : Nat), i + f = 20 → i ≤ 9 → ∃ j, j ≤ 9 ∧ ta_sf e f (64 * 2 ^ i) = 64 * 2 ^ j ∧ e + e / 4 ≤ 64 * 2 ^ j := by
  intro f
  induction f with
  | zero => intro i h1 h2; omega
  | succ f ih =>
    intro i h1 h2
    rw [ta_sf]
    split
    · rename_i hlt
      have h9 : i ≠ 9 := by
        intro q
        rw [q] at hlt
        have : 64 * 2 ^ 9 = 32768 := rfl
        omega
      rw [Nat.mul_assoc, ← Nat.pow_succ]
      exact ih (i + 1) (by omega) (by omega)
    · exact ⟨i, h2, rfl, by omega⟩
theorem ta_sl_ok {e : Nat} (he : e ≤ 19683) : ta_sl e ≤ 32768 ∧ 64 ≤ ta_sl e ∧ e ≤ ta_sl e ∧ ∃ j, ta_sl e = 2 ^ j := by
  obtain ⟨j, h1, h2, h3⟩ := ta_sf_ok he 20 0 rfl (Nat.zero_le _)
  have h4 : ta_sl e = 64 * 2 ^ j := h2
  have h5 : 2 ^ j ≤ 2 ^ 9 := Nat.pow_le_pow_right (by decide) h1
  have h6 : 2 ^ 9 = 512 := rfl
  have h7 : 0 < 2 ^ j := Nat.pow_pos (by decide)
  refine ⟨by omega, by omega, by omega, j + 6, ?_⟩
  rw [h4, Nat.pow_add, Nat.mul_comm]
theorem ta_C_nil {S : Nat} {ks : Nat → Int64} {ti : Nat → Int32} (h : ∀ s, s < S → ti s = nI 0) : ta_C S ks ti [] := by
  refine ⟨fun _ => none, fun s hs _ => h s hs, ?_, ?_, ?_, ?_⟩
  · intro s x _ q; cases q
  · intro x q; cases q
  · intro s s' x _ _ q; cases q
  · rw [show (fun s : Nat => if (none : Option Nat) = none then 0 else 1) = fun _ => 0 from funext (fun _ => if_pos rfl), sm_zero]; exact Nat.zero_le _
/-- after clear: the old arrays, or new ones -/
def ta_cl (hp : az_Hp) (e n kk kt n' kk' kt' : Nat) : Prop := (ta_sl e ≤ n ∧ n' = n ∧ kk' = kk ∧ kt' = kt) ∨ (n < ta_sl e ∧ n' = ta_sl e ∧ kk' = hp.1 ∧ kt' = hp.1 + 1)
theorem nI_toI {n : Nat} (h : n < 2 ^ 31) : (nI n).toInt = (n : Int) := Int32.toInt_ofNat_of_lt h
theorem nI_div {a b : Nat} (ha : a < 2 ^ 31) (hb : b < 2 ^ 31) : nI a / nI b = nI (a / b) := by
  have hle : a / b ≤ a := Nat.div_le_self a b
  apply Int32.toInt_inj.mp
  rw [Int32.toInt_div, nI_toI ha, nI_toI hb, nI_toI (by omega), ← Int.ofNat_tdiv]
  have h3 : ((a / b : Nat) : Int) < 2 ^ 31 := by exact_mod_cast (show a / b < 2 ^ 31 by omega)
  exact Int.bmod_eq_of_le (Int.le_trans (by decide : (-(((2 ^ 32 : Nat) : Int) / 2)) ≤ 0) (Int.natCast_nonneg _)) (Int.lt_of_lt_of_le h3 (by decide))
set_option maxHeartbeats 4000000 in
set_option maxRecDepth 100000 in
theorem s_clearT {d y S n kk kt e rs : Nat} {L : List Nat} {hp : az_Hp} {Q : Option Value → az_Hp → Prop} (hd : 3 ≤ d) (hI : ta_In hp y S n kk kt L) (he : e ≤ 19683) (hl : y + 3 < hp.1 ∧ kk < hp.1 ∧ kt < hp.1) (hr : n < ta_sl e → 2 * ta_sl e ≤ rs) (hQ : ∀ h' n' kk' kt', ta_cl hp e n kk kt n' kk' kt' → ta_In h' y (ta_sl e) n' kk' kt' [] → (hp.1 ≤ h'.1 ∧ kk' < h'.1 ∧ kt' < h'.1) → (∀ q, q < hp.1 → q ≠ y → q ≠ y + 3 → q ≠ kt → h'.2 q = hp.2 q) → Q none h') : az_M mX8_clear d 2 rs [.ref y, .int (nI e)] hp Q := by
  obtain ⟨hdi, hSn, ks, ti, h0, h1, h2, hm, -⟩ := hI
  obtain ⟨e1, e2, e3, e4, e5⟩ := id hdi
  obtain ⟨s1, s2, s3, s4⟩ := id hSn
  obtain ⟨w1, w2, w3, w4⟩ := ta_sl_ok he
  have fin : ∀ (k : Nat) (rc9 rs9 n' kk' kt' : Nat) (ks' : Nat → Int64) (ti' mo' : Nat → Int32) (h' : az_Hp), 0 = k → (ta_sl e ≤ n') → (n' ≤ 32768) → (ta_cl hp e n kk kt n' kk' kt') → (ta_d y kk' kt') → (h'.2 y = some (az_O 7 [.ref kk', .ref kt', .int (nI (ta_sl e)), .ref (y + 3)])) → (h'.2 kk' = some (az_J n' ks')) → (h'.2 kt' = some (az_I n' ti')) → (h'.2 (y + 3) = some (az_I 3 mo')) → (hp.1 ≤ h'.1 ∧ kk' < h'.1 ∧ kt' < h'.1) → (∀ q, q < hp.1 → q ≠ y → q ≠ y + 3 → q ≠ kt → h'.2 q = hp.2 q) → az_W mX8_clear d rc9 rs9 74 [(0, .ref y), (1, .int (nI e))] [] h' Q := by
    intro k
    induction k using Nat.strongRecOn with
    | _ k ih =>
    intro rc9 rs9 n' kk' kt' ks' ti' mo' h' hk hle hn9 hcl hdj r0 r1 r2 r3 hup hkp
    obtain ⟨d1, d2, d3, d4, d5⟩ := id hdj
    refine az_aload_n dX8_clear_74 ?_
    refine az_getf (v := .ref kt') dX8_clear_75 fl_X8_15 r0 ?_
    refine az_iconst (v := nI 0) dX8_clear_78 ?_
    refine az_aload_n dX8_clear_79 ?_
    refine az_getf (v := .int (nI (ta_sl e))) dX8_clear_80 fl_X8_19 r0 ?_
    refine az_iconst (v := nI 0) dX8_clear_83 ?_
    refine az_cS0 (st := []) dX8_clear_84 ml_X8_26 (s_fillIR (d := d - 1) (by omega) (lo := 0) (hi := ta_sl e) (Nat.zero_le _) (by omega) (by omega) r2 ?_)
    intro g q1 q2
    refine az_aload_n dX8_clear_87 ?_
    refine az_getf (v := .ref (y + 3)) dX8_clear_88 fl_X8_23 (az_up_ne r0) ?_
    refine az_iconst (v := nI 0) dX8_clear_91 ?_
    refine az_cS0 (st := []) dX8_clear_92 ml_X8_32 (s_fillI (d := d - 1) (by decide) (az_up_ne r3) ?_)
    exact az_vret dX8_clear_95 (hQ _ n' kk' kt' hcl ⟨⟨d1, d2, d3, d4, d5⟩, ⟨hle, hn9, w2, w4⟩, ks', g, (az_up_ne (az_up_ne r0)), (az_up_ne (az_up_ne r1)), (az_up_ne az_up_eq), az_up_eq, ta_C_nil (fun s q => q2 s (Nat.zero_le _) q)⟩ hup (fun q u1 u2 u3 u4 => (by rw [az_up_ne rfl, az_up_ne rfl (by rcases hcl with q9 | q9 <;> omega)]; exact hkp q u1 u2 u3 u4)))
  have mid : ∀ (k : Nat) , 0 = k → az_W mX8_clear d 2 rs 42 [(0, .ref y), (1, .int (nI e))] [] (az_up hp y (az_O 7 [.ref kk, .ref kt, .int (nI (ta_sl e)), .ref (y + 3)])) Q := by
    intro k
    induction k using Nat.strongRecOn with
    | _ k ih =>
    intro  hk 
    refine az_aload_n dX8_clear_42 ?_
    refine az_getf (v := .int (nI (ta_sl e))) dX8_clear_43 fl_X8_19 az_up_eq ?_
    refine az_aload_n dX8_clear_46 ?_
    refine az_getf (v := .ref kk) dX8_clear_47 fl_X8_9 az_up_eq ?_
    refine az_alen dX8_clear_50 (az_up_ne h1) ?_
    refine az_icmp_leN (tgt := 74) dX8_clear_51 (fun c51 => ?_) (fun c51 => ?_)
    · exact fin _ _ _ n kk kt _ _ _ _ rfl (by omega) (by omega) (Or.inl ⟨by omega, rfl, rfl, rfl⟩) hdi az_up_eq (az_up_ne h1) (az_up_ne h2) (az_up_ne hm) (by exact ⟨Nat.le_refl _, hl.2.1, hl.2.2⟩) (fun q u1 u2 u3 u4 => (by rw [az_up_ne rfl]))
    · have hr9 := hr (by omega)
      refine az_aload_n dX8_clear_54 ?_
      refine az_aload_n dX8_clear_55 ?_
      refine az_getf (v := .int (nI (ta_sl e))) dX8_clear_56 fl_X8_19 az_up_eq ?_
      refine az_newJ (n := ta_sl e) dX8_clear_59 ?_ (by omega) (by omega) (by omega)
      show az_W _ _ _ _ 61 [(0, .ref y), (1, .int (nI e))] [.ref hp.1, .ref y] _ _
      refine az_putf (fs' := [.ref hp.1, .ref kt, .int (nI (ta_sl e)), .ref (y + 3)]) dX8_clear_61 fl_X8_9 (az_nw_neN (N := hp.1) az_up_eq) ?_
      refine az_aload_n dX8_clear_64 ?_
      refine az_aload_n dX8_clear_65 ?_
      refine az_getf (v := .int (nI (ta_sl e))) dX8_clear_66 fl_X8_19 az_up_eq ?_
      refine az_newI (n := ta_sl e) dX8_clear_69 ?_ (by omega) (by omega) (by omega)
      show az_W _ _ _ _ 71 [(0, .ref y), (1, .int (nI e))] [.ref (hp.1 + 1), .ref y] _ _
      refine az_putf (fs' := [.ref hp.1, .ref (hp.1 + 1), .int (nI (ta_sl e)), .ref (y + 3)]) dX8_clear_71 fl_X8_15 (az_nw_neN (N := hp.1 + 1) az_up_eq) ?_
      exact fin _ _ _ (ta_sl e) hp.1 (hp.1 + 1) (fun _ => lN 0) (fun _ => nI 0) _ (az_up (az_nw (az_up (az_nw (az_up hp y (az_O 7 [.ref kk, .ref kt, .int (nI (ta_sl e)), .ref (y + 3)])) (az_J (ta_sl e) (fun _ => lN 0))) y (az_O 7 [.ref hp.1, .ref kt, .int (nI (ta_sl e)), .ref (y + 3)])) (az_I (ta_sl e) (fun _ => nI 0))) y (az_O 7 [.ref hp.1, .ref (hp.1 + 1), .int (nI (ta_sl e)), .ref (y + 3)])) rfl (by omega) (by omega) (Or.inr ⟨by omega, rfl, rfl, rfl⟩) ⟨by omega, by omega, by omega, by omega, by omega⟩ az_up_eq (az_up_ne (az_nw_neN (N := hp.1 + 1) (az_up_ne az_nw_eqN))) (az_up_ne az_nw_eqN) (az_up_ne (az_nw_neN (N := hp.1 + 1) (az_up_ne (az_nw_neN (N := hp.1) (az_up_ne hm))))) (by show hp.1 ≤ hp.1 + 2 ∧ hp.1 < hp.1 + 2 ∧ hp.1 + 1 < hp.1 + 2; omega) (fun q u1 u2 u3 u4 => (by rw [az_up_ne rfl, az_nw_neN (N := hp.1 + 1) rfl, az_up_ne rfl, az_nw_neN (N := hp.1) rfl, az_up_ne rfl]))
  have loop : ∀ (k : Nat) (s9 i : Nat), 20 - i = k → (i ≤ 20) → (ta_sf e (20 - i) s9 = ta_sl e) → (s9 ≤ 49206) → az_W mX8_clear d 2 rs 8 [(0, .ref y), (1, .int (nI e)), (2, .int (nI i))] [] (az_up hp y (az_O 7 [.ref kk, .ref kt, .int (nI s9), .ref (y + 3)])) Q := by
    intro k
    induction k using Nat.strongRecOn with
    | _ k ih =>
    intro s9 i hk hi9 hsf hs7
    refine az_iload_n dX8_clear_8 ?_
    refine az_bipush (v := nI 20) dX8_clear_9 ?_
    refine az_icmp_geN (tgt := 42) dX8_clear_11 (fun c11 => ?_) (fun c11 => ?_)
    · refine az_W.keep (ls' := [(0, .ref y), (1, .int (nI e))]) [0, 1] rfl ?_
      obtain rfl : s9 = ta_sl e := (by rw [← hsf]; first | (rw [show 20 - i = 0 by omega]; rfl) | (rw [show 20 - i = (20 - i - 1) + 1 by omega, ta_sf, if_neg (by omega)]))
      exact mid _ rfl
    · refine az_aload_n dX8_clear_14 ?_
      refine az_getf (v := .int (nI s9)) dX8_clear_15 fl_X8_19 az_up_eq ?_
      refine az_iload_n dX8_clear_18 ?_
      refine az_iload_n dX8_clear_19 ?_
      refine az_iconst (v := nI 4) dX8_clear_20 ?_
      refine az_idiv dX8_clear_21 (by decide) ?_
      rw [nI_div (by omega) (by omega)]
      refine az_iaddN dX8_clear_22 ?_
      refine az_icmp_geN (tgt := 42) dX8_clear_23 (fun c23 => ?_) (fun c23 => ?_)
      · refine az_W.keep (ls' := [(0, .ref y), (1, .int (nI e))]) [0, 1] rfl ?_
        obtain rfl : s9 = ta_sl e := (by rw [← hsf]; first | (rw [show 20 - i = 0 by omega]; rfl) | (rw [show 20 - i = (20 - i - 1) + 1 by omega, ta_sf, if_neg (by omega)]))
        exact mid _ rfl
      · refine az_aload_n dX8_clear_26 ?_
        refine az_dup dX8_clear_27 ?_
        refine az_getf (v := .int (nI s9)) dX8_clear_28 fl_X8_19 az_up_eq ?_
        refine az_iconst (v := nI 2) dX8_clear_31 ?_
        refine az_imulN dX8_clear_32 ?_
        refine az_putf (fs' := [.ref kk, .ref kt, .int (nI (s9 * 2)), .ref (y + 3)]) dX8_clear_33 fl_X8_19 az_up_eq ?_
        refine az_iincN (n := 1) (ls' := [(0, .ref y), (1, .int (nI e)), (2, .int (nI (i + 1)))]) dX8_clear_36 ?_
        refine az_goto (tgt := 8) dX8_clear_39 ?_
        rw [az_up_up]
        exact ih _ (by omega) (s9 * 2) (i + 1) rfl (by omega) (by rw [← hsf, show 20 - i = (20 - (i + 1)) + 1 by omega, ta_sf, if_pos (by omega)]) (by omega)
  refine az_M.of rfl (Nat.le_of_ble_eq_true rfl) ?_
  show az_W _ _ _ _ 0 [(0, .ref y), (1, .int (nI e))] [] _ _
  refine az_aload_n dX8_clear_0 ?_
  refine az_bipush (v := nI 64) dX8_clear_1 ?_
  refine az_putf (fs' := [.ref kk, .ref kt, .int (nI 64), .ref (y + 3)]) dX8_clear_3 fl_X8_19 h0 ?_
  refine az_iconst (v := nI 0) dX8_clear_6 ?_
  refine az_istore_n (ls' := [(0, .ref y), (1, .int (nI e)), (2, .int (nI 0))]) dX8_clear_7 ?_
  exact loop _ 64 0 rfl (Nat.zero_le _) rfl (by omega)
