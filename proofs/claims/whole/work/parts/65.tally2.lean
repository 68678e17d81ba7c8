/-! Tally: one more -/
def ta_d (y kk kt : Nat) : Prop := kk ≠ kt ∧ kk ≠ y ∧ kt ≠ y ∧ kk ≠ y + 3 ∧ kt ≠ y + 3
def ta_S (S n : Nat) : Prop := S ≤ n ∧ n ≤ 32768 ∧ 64 ≤ S ∧ ∃ e, S = 2 ^ e
def ta_In (h : az_Hp) (y S n kk kt : Nat) (L : List Nat) : Prop := ta_d y kk kt ∧ ta_S S n ∧ ∃ (ks : Nat → Int64) (ti : Nat → Int32), h.2 y = some (az_O 7 [.ref kk, .ref kt, .int (nI S), .ref (y + 3)]) ∧ h.2 kk = some (az_J n ks) ∧ h.2 kt = some (az_I n ti) ∧ h.2 (y + 3) = some (az_I 3 (fun j => nI (ta_mx j L))) ∧ ta_C S ks ti L
def az_f3 (h h' : az_Hp) (a b c : Nat) : Prop := h'.1 = h.1 ∧ ∀ q, q ≠ a → q ≠ b → q ≠ c → h'.2 q = h.2 q
theorem az_f3.tr {h h' h'' : az_Hp} {a b c : Nat} (h1 : az_f3 h h' a b c) (h2 : az_f3 h' h'' a b c) : az_f3 h h'' a b c := ⟨h2.1.trans h1.1, fun q p1 p2 p3 => (h2.2 q p1 p2 p3).trans (h1.2 q p1 p2 p3)⟩
theorem az_f3.rf {h : az_Hp} {a b c : Nat} : az_f3 h h a b c := ⟨rfl, fun _ _ _ _ => rfl⟩
theorem ta_nx {S a : Nat} (h : ∃ e, S = 2 ^ e) : (a % S + 1) &&& (S - 1) = (a + 1) % S := by
  obtain ⟨e, rfl⟩ := h
  rw [Nat.and_two_pow_sub_one_eq_mod, Nat.mod_add_mod]
theorem ta_none {S s : Nat} {ks : Nat → Int64} {ti : Nat → Int32} {L : List Nat} {ko : Nat → Option Nat} (k2 : ∀ s x, s < S → ko s = some x → ti s = nI (L.count x) ∧ ks s = lN x ∧ x ∈ L) (hs : s < S) (hL : L.length < 2 ^ 31) (h : ti s = nI 0) : ko s = none := by
  cases hk : ko s with
  | none => rfl
  | some z =>
    obtain ⟨q1, -, q3⟩ := k2 s z hs hk
    have h1 := List.count_le_length (a := z) (l := L)
    have h2 := List.count_pos_iff.mpr q3
    rw [h] at q1
    have h3 := (nI_eq (by omega) (by omega)).mp q1
    omega
theorem ta_some {S s : Nat} {ti : Nat → Int32} {ko : Nat → Option Nat} (k1 : ∀ s, s < S → ko s = none → ti s = nI 0) (hs : s < S) (h : ¬ ti s = nI 0) : ∃ z, ko s = some z := by
  cases hk : ko s with
  | none => exact absurd (k1 s hs hk) h
  | some z => exact ⟨z, rfl⟩
set_option maxHeartbeats 4000000 in
set_option maxRecDepth 100000 in
theorem s_add {d y S n kk kt sp tb : Nat} {L : List Nat} {hp : az_Hp} {Q : Option Value → az_Hp → Prop} (hd : 2 ≤ d) (hI : ta_In hp y S n kk kt L) (h3 : tb < 3) (hX : (sp * 3 + tb) < 2 ^ 63) (hL : L.length < S) (hQ : ∀ h', ta_In h' y S n kk kt ((sp * 3 + tb) :: L) → az_f3 hp h' kk kt (y + 3) → Q none h') : az_M mX8_add d 0 0 [.ref y, .long (lN sp), .int (nI tb)] hp Q := by
  obtain ⟨hdi, hSn, ks, ti, h0, h1, h2, hm, ko, k1, k2, k3, k4, k5⟩ := hI
  obtain ⟨e1, e2, e3, e4, e5⟩ := id hdi
  obtain ⟨s1, s2, s3, s4⟩ := id hSn
  have hSp : 0 < S := by omega
  have fin : ∀ (k : Nat) (sl p : Nat), 0 = k → (sl = (ta_h S (lN (sp * 3 + tb)) + p) % S) → (sl < S) → (ti sl = nI (L.count (sp * 3 + tb))) → (ta_C S (az_s ks sl (lN (sp * 3 + tb))) (az_s ti sl (nI (((sp * 3 + tb) :: L).count (sp * 3 + tb)))) ((sp * 3 + tb) :: L)) → az_W mX8_add d 0 0 82 [(0, .ref y), (1, .long (lN sp)), (3, .int (nI tb)), (4, .long (lN ((sp * 3 + tb)))), (6, .int (nI sl)), (7, .int (nI p))] [] hp Q := by
    intro k
    induction k using Nat.strongRecOn with
    | _ k ih =>
    intro sl p hk hsl hs9 hti hC
    refine az_aload_n dX8_add_82 ?_
    refine az_getf (v := .ref kk) dX8_add_83 fl_X8_9 h0 ?_
    refine az_iload dX8_add_86 ?_
    refine az_lload dX8_add_88 ?_
    refine az_lastN (j := sl) dX8_add_90 h1 ?_
    refine az_aload_n dX8_add_91 ?_
    refine az_getf (v := .ref kt) dX8_add_92 fl_X8_15 (az_up_ne h0) ?_
    refine az_iload dX8_add_95 ?_
    refine az_dup2_11 dX8_add_97 ?_
    refine az_ialdN (j := sl) dX8_add_98 (az_up_ne h2) ?_
    rw [hti]
    refine az_iconst (v := nI 1) dX8_add_99 ?_
    refine az_iaddN dX8_add_100 ?_
    refine az_iastN (j := sl) dX8_add_101 (az_up_ne h2) ?_
    rw [show L.count (sp * 3 + tb) + 1 = ((sp * 3 + tb) :: L).count (sp * 3 + tb) by rw [List.count_cons_self]]
    refine az_aload_n dX8_add_102 ?_
    refine az_getf (v := .ref (y + 3)) dX8_add_103 fl_X8_23 (az_up_ne (az_up_ne h0)) ?_
    refine az_iload_n dX8_add_106 ?_
    refine az_aload_n dX8_add_107 ?_
    refine az_getf (v := .ref (y + 3)) dX8_add_108 fl_X8_23 (az_up_ne (az_up_ne h0)) ?_
    refine az_iload_n dX8_add_111 ?_
    refine az_ialdN (j := tb) dX8_add_112 (az_up_ne (az_up_ne hm)) ?_
    refine az_aload_n dX8_add_113 ?_
    refine az_getf (v := .ref kt) dX8_add_114 fl_X8_15 (az_up_ne (az_up_ne h0)) ?_
    refine az_iload dX8_add_117 ?_
    refine az_ialdN (j := sl) dX8_add_119 az_up_eq ?_
    rw [az_s_eq]
    have m1 := ta_mx_le tb L
    have m2 := List.count_le_length (a := (sp * 3 + tb)) (l := (sp * 3 + tb) :: L)
    rw [List.length_cons] at m2
    refine az_mmaxN dX8_add_120 ml_X8_41 ?_
    rw [show max (ta_mx tb L) (((sp * 3 + tb) :: L).count (sp * 3 + tb)) = ta_mx tb ((sp * 3 + tb) :: L) by (rw [ta_mx, if_pos (by omega)])]
    refine az_iastN (j := tb) dX8_add_123 (az_up_ne (az_up_ne hm)) ?_
    rw [az_s_nI]
    exact az_vret dX8_add_124 (hQ _ ⟨hdi, hSn, az_s ks sl (lN (sp * 3 + tb)), az_s ti sl (nI (((sp * 3 + tb) :: L).count (sp * 3 + tb))), (az_up_ne (az_up_ne (az_up_ne h0))), (az_up_ne (az_up_ne az_up_eq)), (az_up_ne az_up_eq), (by rw [az_up_eq]; exact congrArg (fun f => some (az_I 3 f)) (funext (fun j => if e : j = tb then (by rw [e, az_s_eq]) else (by rw [az_s_ne e, ta_mx, if_neg (by omega)])))), hC⟩ ⟨rfl, fun q p1 p2 p3 => (by rw [az_up_ne rfl, az_up_ne rfl, az_up_ne rfl])⟩)
  have loop : ∀ (k : Nat) (sl i : Nat), S - i = k → (sl = (ta_h S (lN (sp * 3 + tb)) + i) % S) → (sl < S) → (i ≤ S) → (∀ q, q < i → ∃ z, z ≠ (sp * 3 + tb) ∧ ko ((ta_h S (lN (sp * 3 + tb)) + q) % S) = some z) → az_W mX8_add d 0 0 31 [(0, .ref y), (1, .long (lN sp)), (3, .int (nI tb)), (4, .long (lN ((sp * 3 + tb)))), (6, .int (nI sl)), (7, .int (nI i))] [] hp Q := by
    intro k
    induction k using Nat.strongRecOn with
    | _ k ih =>
    intro sl i hk hsl hs9 hi9 hpq
    refine az_iload dX8_add_31 ?_
    refine az_aload_n dX8_add_33 ?_
    refine az_getf (v := .int (nI S)) dX8_add_34 fl_X8_19 h0 ?_
    refine az_icmp_geN (tgt := 82) dX8_add_37 (fun c37 => ?_) (fun c37 => ?_)
    · first | (have hiS : i = S := (by omega); have hf := ta_full hSp (h := ta_h S (lN (sp * 3 + tb))) (fun q hq => (let ⟨z, _, hz⟩ := hpq q (by omega); ⟨z, hz⟩)); omega) | (have hko := ta_none k2 hs9 (by omega) c47; rw [hsl] at hko; obtain ⟨u1, u2⟩ := ta_step hSp k1 k2 k3 k4 k5 hX (show i < S by omega) hpq (Or.inl hko); rw [← hsl] at u1 u2; exact fin _ sl i rfl hsl hs9 u1 u2) | (obtain ⟨z, hz⟩ := ta_some k1 hs9 c47; have hz2 := k2 sl z hs9 hz; have hz3 := (lN_eqN (k3 z hz2.2.2).1 hX).mp (hz2.2.1.symm.trans c59); subst hz3; rw [hsl] at hz; obtain ⟨u1, u2⟩ := ta_step hSp k1 k2 k3 k4 k5 hX (show i < S by omega) hpq (Or.inr hz); rw [← hsl] at u1 u2; exact fin _ sl i rfl hsl hs9 u1 u2)
    · refine az_aload_n dX8_add_40 ?_
      refine az_getf (v := .ref kt) dX8_add_41 fl_X8_15 h0 ?_
      refine az_iload dX8_add_44 ?_
      refine az_ialdN (j := sl) dX8_add_46 h2 ?_
      refine az_if_eq (tgt := 82) dX8_add_47 (fun c47 => ?_) (fun c47 => ?_)
      · first | (have hiS : i = S := (by omega); have hf := ta_full hSp (h := ta_h S (lN (sp * 3 + tb))) (fun q hq => (let ⟨z, _, hz⟩ := hpq q (by omega); ⟨z, hz⟩)); omega) | (have hko := ta_none k2 hs9 (by omega) c47; rw [hsl] at hko; obtain ⟨u1, u2⟩ := ta_step hSp k1 k2 k3 k4 k5 hX (show i < S by omega) hpq (Or.inl hko); rw [← hsl] at u1 u2; exact fin _ sl i rfl hsl hs9 u1 u2) | (obtain ⟨z, hz⟩ := ta_some k1 hs9 c47; have hz2 := k2 sl z hs9 hz; have hz3 := (lN_eqN (k3 z hz2.2.2).1 hX).mp (hz2.2.1.symm.trans c59); subst hz3; rw [hsl] at hz; obtain ⟨u1, u2⟩ := ta_step hSp k1 k2 k3 k4 k5 hX (show i < S by omega) hpq (Or.inr hz); rw [← hsl] at u1 u2; exact fin _ sl i rfl hsl hs9 u1 u2)
      · refine az_aload_n dX8_add_50 ?_
        refine az_getf (v := .ref kk) dX8_add_51 fl_X8_9 h0 ?_
        refine az_iload dX8_add_54 ?_
        refine az_laldN (j := sl) dX8_add_56 h1 ?_
        refine az_lload dX8_add_57 ?_
        refine az_lcmp_eq (tgt := 82) dX8_add_59 dX8_add_60 (fun c59 => ?_) (fun c59 => ?_)
        · first | (have hiS : i = S := (by omega); have hf := ta_full hSp (h := ta_h S (lN (sp * 3 + tb))) (fun q hq => (let ⟨z, _, hz⟩ := hpq q (by omega); ⟨z, hz⟩)); omega) | (have hko := ta_none k2 hs9 (by omega) c47; rw [hsl] at hko; obtain ⟨u1, u2⟩ := ta_step hSp k1 k2 k3 k4 k5 hX (show i < S by omega) hpq (Or.inl hko); rw [← hsl] at u1 u2; exact fin _ sl i rfl hsl hs9 u1 u2) | (obtain ⟨z, hz⟩ := ta_some k1 hs9 c47; have hz2 := k2 sl z hs9 hz; have hz3 := (lN_eqN (k3 z hz2.2.2).1 hX).mp (hz2.2.1.symm.trans c59); subst hz3; rw [hsl] at hz; obtain ⟨u1, u2⟩ := ta_step hSp k1 k2 k3 k4 k5 hX (show i < S by omega) hpq (Or.inr hz); rw [← hsl] at u1 u2; exact fin _ sl i rfl hsl hs9 u1 u2)
        · refine az_iload dX8_add_63 ?_
          refine az_iconst (v := nI 1) dX8_add_65 ?_
          refine az_iaddN dX8_add_66 ?_
          refine az_aload_n dX8_add_67 ?_
          refine az_getf (v := .int (nI S)) dX8_add_68 fl_X8_19 h0 ?_
          refine az_iconst (v := nI 1) dX8_add_71 ?_
          refine az_isubN dX8_add_72 hSp ?_
          refine az_iandN dX8_add_73 ?_
          refine az_istore (ls' := [(0, .ref y), (1, .long (lN sp)), (3, .int (nI tb)), (4, .long (lN ((sp * 3 + tb)))), (6, .int (nI ((sl + 1) &&& (S - 1)))), (7, .int (nI i))]) dX8_add_74 ?_
          refine az_iincN (n := 1) (ls' := [(0, .ref y), (1, .long (lN sp)), (3, .int (nI tb)), (4, .long (lN ((sp * 3 + tb)))), (6, .int (nI ((sl + 1) &&& (S - 1)))), (7, .int (nI (i + 1)))]) dX8_add_76 ?_
          refine az_goto (tgt := 31) dX8_add_79 ?_
          have hnx : (sl + 1) &&& (S - 1) = (ta_h S (lN (sp * 3 + tb)) + (i + 1)) % S := (by rw [hsl, ta_nx s4, Nat.add_assoc])
          rw [hnx]
          exact ih _ (by omega) _ (i + 1) rfl rfl (Nat.mod_lt _ hSp) (by omega) (fun q hq => if e : q = i then (by obtain ⟨z, hz⟩ := ta_some k1 hs9 c47; exact ⟨z, (fun ez => c59 (by rw [← ez]; exact (k2 sl z hs9 hz).2.1)), (by rw [e, ← hsl]; exact hz)⟩) else hpq q (by omega))
  refine az_M.of rfl (Nat.le_of_ble_eq_true rfl) ?_
  show az_W _ _ _ _ 0 [(0, .ref y), (1, .long (lN sp)), (3, .int (nI tb))] [] _ _
  refine az_iload_n dX8_add_0 ?_
  refine az_if_ltN (tgt := 9) dX8_add_1 (fun c1 => ?_) (fun c1 => ?_)
  · first | exact c1.elim | exact absurd c1 (by omega)
  · refine az_iload_n dX8_add_4 ?_
    refine az_iconst (v := nI 3) dX8_add_5 ?_
    refine az_icmp_ltN (tgt := 10) dX8_add_6 (fun c6 => ?_) (fun c6 => ?_)
    · refine az_lload_n dX8_add_10 ?_
      refine az_ldc2 (v := lN 3) dX8_add_11 cn_X8_35 ?_
      refine az_lmulN dX8_add_14 ?_
      refine az_iload_n dX8_add_15 ?_
      refine az_i2lN dX8_add_16 ?_
      refine az_laddN dX8_add_17 ?_
      refine az_lstore (ls' := [(0, .ref y), (1, .long (lN sp)), (3, .int (nI tb)), (4, .long (lN ((sp * 3) + tb)))]) dX8_add_18 ?_
      refine az_aload_n dX8_add_20 ?_
      refine az_lload dX8_add_21 ?_
      refine az_cV0 (st := []) dX8_add_23 ml_X8_37 h0 (s_slotOf (d := d - 1) hSp h0 ?_)
      refine az_istore (ls' := [(0, .ref y), (1, .long (lN sp)), (3, .int (nI tb)), (4, .long (lN ((sp * 3) + tb))), (6, .int (nI (ta_h S (lN (sp * 3 + tb)))))]) dX8_add_26 ?_
      refine az_iconst (v := nI 0) dX8_add_28 ?_
      refine az_istore (ls' := [(0, .ref y), (1, .long (lN sp)), (3, .int (nI tb)), (4, .long (lN ((sp * 3) + tb))), (6, .int (nI (ta_h S (lN (sp * 3 + tb))))), (7, .int (nI 0))]) dX8_add_29 ?_
      exact loop _ _ 0 rfl (by rw [Nat.add_zero, Nat.mod_eq_of_lt (ta_h_lt hSp)]) (ta_h_lt hSp) (Nat.zero_le _) (fun q hq => absurd hq (by omega))
    · exact absurd h3 (by omega)
