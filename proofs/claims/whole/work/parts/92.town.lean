/-! A new town -/
theorem nI_rem {a b : Nat} (ha : a < 2 ^ 31) (hb : b < 2 ^ 31) : nI a - nI a / nI b * nI b = nI (a % b) := by
  rw [nI_div ha hb, nI_mul, nI_subN (Nat.div_mul_le_self a b)]
  have := Nat.div_add_mod a b
  rw [Nat.mul_comm] at this
  congr 1
  omega
def rd_v0 : rd_V := (1, 0, 0, 1, fun _ => 0, fun j => if j < 18 then 1 else 0, fun j => if j % 4 = 0 ∧ j / 4 < 18 then j / 4 % 6 else 0, [], [])
set_option maxHeartbeats 8000000 in
set_option maxRecDepth 100000 in
theorem s_initTown {d t : Nat} {f9 : Nat → Option az_C} {Q : Option Value → az_Hp → Prop} (hd : 1 ≤ d) (h0 : ((t + 1, f9) : az_Hp).2 t = some (az_O 8 [.int 0, .int 0, .int 0, .int 0, .null, .null, .null, .null, .null])) (hQ : ∀ h' : az_Hp, h'.1 = t + 6 → (∀ z, z < t → h'.2 z = f9 z) → h'.2 t = some (az_O 8 [.int (nI 1), .int (nI 0), .int (nI 0), .int (nI 1), .ref (t + 1), .ref (t + 2), .ref (t + 3), .ref (t + 4), .ref (t + 5)]) → h'.2 (t + 1) = some (az_I 12 (fun j => nI (ln_st (rd_w rd_v0) j))) → h'.2 (t + 2) = some (az_I 18 (fun j => nI (ln_sz (rd_w rd_v0) j))) → h'.2 (t + 3) = some (az_I 72 (fun j => nI (ln_ch (rd_w rd_v0) j))) → h'.2 (t + 4) = some (az_I 0 (fun j => lw_phi (([] : List Nat).getD j 0))) → h'.2 (t + 5) = some (az_I 0 (fun j => lw_phi (([] : List Nat).getD j 0))) → Q none h') : az_M mX9_init d 5 102 [.ref t] ((t + 1, f9) : az_Hp) Q := by
  have loop : ∀ (k : Nat) (rc9 rs9 i : Nat) (h' : az_Hp), 18 - i = k → (i ≤ 18) → (h'.2 t = some (az_O 8 [.int (nI 1), .int (nI 0), .int (nI 0), .int (nI 1), .ref (t + 1), .ref (t + 2), .ref (t + 3), .ref (t + 4), .ref (t + 5)])) → (h'.2 (t + 1) = some (az_I 12 (fun _ => nI 0))) → (h'.2 (t + 2) = some (az_I 18 (fun j => nI (if j < i then 1 else 0)))) → (h'.2 (t + 3) = some (az_I 72 (fun j => nI (if j % 4 = 0 ∧ j / 4 < i then j / 4 % 6 else 0)))) → (h'.1 = t + 6) → (∀ z, z < t → h'.2 z = f9 z) → (h'.2 (t + 4) = some (az_I 0 (fun _ => nI 0))) → (h'.2 (t + 5) = some (az_I 0 (fun _ => nI 0))) → az_W mX9_init d rc9 rs9 64 [(0, .ref t), (1, .int (nI i))] [] h' Q := by
    intro k
    induction k using Nat.strongRecOn with
    | _ k ih =>
    intro rc9 rs9 i h' hk hi9 e0 e1 e2 e3 hn9 hk9 e4 e5
    refine az_iload_n dX9_init_64 ?_
    refine az_aload_n dX9_init_65 ?_
    refine az_getf (v := .ref (t + 2)) dX9_init_66 fl_X9_28 e0 ?_
    refine az_alen dX9_init_69 e2 ?_
    refine az_icmp_geN (tgt := 98) dX9_init_70 (fun c70 => ?_) (fun c70 => ?_)
    · exact az_vret dX9_init_98 (by obtain rfl : i = 18 := (by omega); exact hQ h' hn9 hk9 e0 e1 e2 e3 e4 e5)
    · refine az_aload_n dX9_init_73 ?_
      refine az_getf (v := .ref (t + 2)) dX9_init_74 fl_X9_28 e0 ?_
      refine az_iload_n dX9_init_77 ?_
      refine az_iconst (v := nI 1) dX9_init_78 ?_
      refine az_iastN (j := i) dX9_init_79 e2 ?_
      refine az_aload_n dX9_init_80 ?_
      refine az_getf (v := .ref (t + 3)) dX9_init_81 fl_X9_31 (az_up_ne e0) ?_
      refine az_iload_n dX9_init_84 ?_
      refine az_iconst (v := nI 4) dX9_init_85 ?_
      refine az_imulN dX9_init_86 ?_
      refine az_iload_n dX9_init_87 ?_
      refine az_bipush (v := nI 6) dX9_init_88 ?_
      refine az_irem dX9_init_90 (by decide) ?_
      rw [nI_rem (by omega) (by omega)]
      refine az_iastN (j := i * 4) dX9_init_91 (az_up_ne e3) ?_
      refine az_iincN (n := 1) (ls' := [(0, .ref t), (1, .int (nI (i + 1)))]) dX9_init_92 ?_
      refine az_goto (tgt := 64) dX9_init_95 ?_
      have z1 : az_s (fun j => nI (if j < i then 1 else 0)) i (nI 1) = (fun j => nI (if j < i + 1 then 1 else 0)) := (by funext j; exact if e : j = i then (by rw [e, az_s_eq, if_pos (by omega)]) else (by rw [az_s_ne e]; congr 1; exact if h9 : j < i then (by rw [if_pos h9, if_pos (by omega)]) else (by rw [if_neg h9, if_neg (by omega)])))
      have z2 : az_s (fun j => nI (if j % 4 = 0 ∧ j / 4 < i then j / 4 % 6 else 0)) (i * 4) (nI (i % 6)) = (fun j => nI (if j % 4 = 0 ∧ j / 4 < i + 1 then j / 4 % 6 else 0)) := (by funext j; exact if e : j = i * 4 then (by rw [e, az_s_eq, if_pos (by omega)]; congr 1; congr 1; omega) else (by rw [az_s_ne e]; congr 1; exact if h9 : j % 4 = 0 ∧ j / 4 < i then (by rw [if_pos h9, if_pos (by omega)]) else (by rw [if_neg h9, if_neg (by omega)])))
      rw [z1, z2]
      exact ih _ (by omega) rc9 rs9 (i + 1) _ rfl (by omega) (az_up_ne (az_up_ne e0)) (az_up_ne (az_up_ne e1)) (az_up_ne az_up_eq) az_up_eq hn9 (fun z hz => (by rw [az_up_ne rfl, az_up_ne rfl]; exact hk9 z hz)) (az_up_ne (az_up_ne e4)) (az_up_ne (az_up_ne e5))
  refine az_M.of rfl (Nat.le_of_ble_eq_true rfl) ?_
  show az_W _ _ _ _ 0 [(0, .ref t)] [] _ _
  refine az_aload_n dX9_init_0 ?_
  refine az_oinit dX9_init_1 ol_X9_3 ?_
  refine az_aload_n dX9_init_4 ?_
  refine az_iconst (v := nI 1) dX9_init_5 ?_
  refine az_putf (fs' := [.int (nI 1), .int 0, .int 0, .int 0, .null, .null, .null, .null, .null]) dX9_init_6 fl_X9_9 h0 ?_
  refine az_aload_n dX9_init_9 ?_
  refine az_iconst (v := nI 0) dX9_init_10 ?_
  refine az_putf (fs' := [.int (nI 1), .int (nI 0), .int 0, .int 0, .null, .null, .null, .null, .null]) dX9_init_11 fl_X9_15 az_up_eq ?_
  rw [az_up_up]
  refine az_aload_n dX9_init_14 ?_
  refine az_iconst (v := nI 0) dX9_init_15 ?_
  refine az_putf (fs' := [.int (nI 1), .int (nI 0), .int (nI 0), .int 0, .null, .null, .null, .null, .null]) dX9_init_16 fl_X9_18 az_up_eq ?_
  rw [az_up_up]
  refine az_aload_n dX9_init_19 ?_
  refine az_iconst (v := nI 1) dX9_init_20 ?_
  refine az_putf (fs' := [.int (nI 1), .int (nI 0), .int (nI 0), .int (nI 1), .null, .null, .null, .null, .null]) dX9_init_21 fl_X9_21 az_up_eq ?_
  rw [az_up_up]
  refine az_aload_n dX9_init_24 ?_
  refine az_bipush (v := nI 12) dX9_init_25 ?_
  refine az_newI (n := 12) dX9_init_27 ?_
  show az_W _ _ _ _ 29 [(0, .ref t)] [.ref (t + 1), .ref t] _ _
  refine az_putF (fs' := [.int (nI 1), .int (nI 0), .int (nI 0), .int (nI 1), .ref (t + 1), .null, .null, .null, .null]) dX9_init_29 fl_X9_24 (az_nw_neN (N := t + 1) az_up_eq) ?_
  refine az_aload_n dX9_init_32 ?_
  refine az_bipush (v := nI 18) dX9_init_33 ?_
  refine az_newI (n := 18) dX9_init_35 ?_
  show az_W _ _ _ _ 37 [(0, .ref t)] [.ref (t + 2), .ref t] _ _
  refine az_putF (fs' := [.int (nI 1), .int (nI 0), .int (nI 0), .int (nI 1), .ref (t + 1), .ref (t + 2), .null, .null, .null]) dX9_init_37 fl_X9_28 (az_nw_neN (N := t + 2) az_up_eq) ?_
  refine az_aload_n dX9_init_40 ?_
  refine az_bipush (v := nI 72) dX9_init_41 ?_
  refine az_newI (n := 72) dX9_init_43 ?_
  show az_W _ _ _ _ 45 [(0, .ref t)] [.ref (t + 3), .ref t] _ _
  refine az_putF (fs' := [.int (nI 1), .int (nI 0), .int (nI 0), .int (nI 1), .ref (t + 1), .ref (t + 2), .ref (t + 3), .null, .null]) dX9_init_45 fl_X9_31 (az_nw_neN (N := t + 3) az_up_eq) ?_
  refine az_aload_n dX9_init_48 ?_
  refine az_iconst (v := nI 0) dX9_init_49 ?_
  refine az_newI (n := 0) dX9_init_50 ?_
  show az_W _ _ _ _ 52 [(0, .ref t)] [.ref (t + 4), .ref t] _ _
  refine az_putf (fs' := [.int (nI 1), .int (nI 0), .int (nI 0), .int (nI 1), .ref (t + 1), .ref (t + 2), .ref (t + 3), .ref (t + 4), .null]) dX9_init_52 fl_X9_34 (az_nw_neN (N := t + 4) az_up_eq) ?_
  refine az_aload_n dX9_init_55 ?_
  refine az_iconst (v := nI 0) dX9_init_56 ?_
  refine az_newI (n := 0) dX9_init_57 ?_
  show az_W _ _ _ _ 59 [(0, .ref t)] [.ref (t + 5), .ref t] _ _
  refine az_putf (fs' := [.int (nI 1), .int (nI 0), .int (nI 0), .int (nI 1), .ref (t + 1), .ref (t + 2), .ref (t + 3), .ref (t + 4), .ref (t + 5)]) dX9_init_59 fl_X9_37 (az_nw_neN (N := t + 5) az_up_eq) ?_
  refine az_iconst (v := nI 0) dX9_init_62 ?_
  refine az_istore_n (ls' := [(0, .ref t), (1, .int (nI 0))]) dX9_init_63 ?_
  exact loop _ _ _ 0 _ rfl (Nat.zero_le _) az_up_eq (az_up_ne (az_nw_neN (N := t + 5) (az_up_ne (az_nw_neN (N := t + 4) (az_up_ne (az_nw_neN (N := t + 3) (az_up_ne (az_nw_neN (N := t + 2) (az_up_ne az_nw_eqN))))))))) (by rw [show (fun j => nI (if j < 0 then 1 else 0)) = (fun _ => nI 0) from funext (fun j => (by rw [if_neg (by omega)]))]; exact (az_up_ne (az_nw_neN (N := t + 5) (az_up_ne (az_nw_neN (N := t + 4) (az_up_ne (az_nw_neN (N := t + 3) (az_up_ne az_nw_eqN)))))))) (by rw [show (fun j => nI (if j % 4 = 0 ∧ j / 4 < 0 then j / 4 % 6 else 0)) = (fun _ => nI 0) from funext (fun j => (by rw [if_neg (by omega)]))]; exact (az_up_ne (az_nw_neN (N := t + 5) (az_up_ne (az_nw_neN (N := t + 4) (az_up_ne az_nw_eqN)))))) rfl (fun z hz => (by rw [az_up_ne rfl, az_nw_neN (N := t + 5) rfl, az_up_ne rfl, az_nw_neN (N := t + 4) rfl, az_up_ne rfl, az_nw_neN (N := t + 3) rfl, az_up_ne rfl, az_nw_neN (N := t + 2) rfl, az_up_ne rfl, az_nw_neN (N := t + 1) rfl, az_up_ne rfl])) (az_up_ne (az_nw_neN (N := t + 5) (az_up_ne az_nw_eqN))) (az_up_ne az_nw_eqN)
