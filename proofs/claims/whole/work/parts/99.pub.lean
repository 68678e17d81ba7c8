/-! LetterNights: what is asked -/
theorem I_of {x : Int32} (h : ¬ x < 0) : ∃ n : Nat, n < 2 ^ 31 ∧ x = nI n := by
  obtain ⟨n, h1, h2⟩ := nI_of h
  exact ⟨n, h1, h2⟩
set_option maxRecDepth 100000 in
theorem p_length {d : Nat} {tp fk mo ni K : Nat} {bt : Nat → Nat} {fp : Int32} {v : rd_V} {bs : List Nat} {U : ln_U} {im : Nat → Option (rd_V × ln_Z)} {tr : Nat → Option (Nat × List Int64)} {hp : az_Hp} {Q : Option Value → az_Hp → Prop} (hC : cs hp ((tp, bt), (fk, fp), v, (mo, ni, bs), U, im, tr) K) (hQ : Q (some (.long (lN (ln_str (rd_w v) bs).length))) hp) : az_M mX11_length d 0 0 [.ref 0] hp Q := by
  obtain ⟨hok, t, F, ia, kk, kt, x1, x2, x3, x4, x5, x6, x7, x8, x9, x10, x11, x12, x13, x14⟩ := id hC
  obtain ⟨hi, fr, la, no, wa, nc, g0, -⟩ := id x10
  refine az_M.of rfl (Nat.le_of_ble_eq_true rfl) ?_
  show az_W _ _ _ _ 0 [(0, .ref 0)] [] _ _
  refine az_aload_n dX11_length_0 ?_
  refine az_getf (v := .ref 30) dX11_length_1 fl_X11_66 x1 ?_
  refine az_getf (v := .long (lN ((ln_str (rd_w v) bs).length))) dX11_length_4 fl_X11_136 g0 ?_
  exact az_lret dX11_length_7 (hQ)
def cs_fault (fk : Nat) (fp x : Int32) : Int32 := if x = 0 then nI fk else if x = nI 1 then fp else (-1)
set_option maxRecDepth 100000 in
theorem p_fault {d : Nat} {x : Int32} {tp fk mo ni K : Nat} {bt : Nat → Nat} {fp : Int32} {v : rd_V} {bs : List Nat} {U : ln_U} {im : Nat → Option (rd_V × ln_Z)} {tr : Nat → Option (Nat × List Int64)} {hp : az_Hp} {Q : Option Value → az_Hp → Prop} (hC : cs hp ((tp, bt), (fk, fp), v, (mo, ni, bs), U, im, tr) K) (hQ : Q (some (.int (cs_fault fk fp x))) hp) : az_M mX11_fault d 0 0 [.ref 0, .int x] hp Q := by
  obtain ⟨hok, t, F, ia, kk, kt, x1, x2, x3, x4, x5, x6, x7, x8, x9, x10, x11, x12, x13, x14⟩ := id hC
  obtain ⟨tx, sz, ki, aa, zz, va, k5, cf, ol, r0, -⟩ := id x3
  refine az_M.of rfl (Nat.le_of_ble_eq_true rfl) ?_
  show az_W _ _ _ _ 0 [(0, .ref 0), (1, .int x)] [] _ _
  refine az_iload_n dX11_fault_0 ?_
  refine az_if_ne (tgt := 12) dX11_fault_1 (fun c1 => ?_) (fun c1 => ?_)
  · refine az_iload_n dX11_fault_12 ?_
    refine az_iconst (v := nI 1) dX11_fault_13 ?_
    refine az_icmp_ne (tgt := 27) dX11_fault_14 (fun c14 => ?_) (fun c14 => ?_)
    · refine az_iconst (v := (-1)) dX11_fault_27 ?_
      exact az_iret dX11_fault_28 (by first | (rw [cs_fault, if_neg c1, if_pos c14] at hQ; exact hQ) | (rw [cs_fault, if_neg c1, if_neg c14] at hQ; exact hQ))
    · refine az_aload_n dX11_fault_17 ?_
      refine az_getf (v := .ref 2) dX11_fault_18 fl_X11_16 x1 ?_
      refine az_getf (v := .int fp) dX11_fault_21 fl_X11_105 r0 ?_
      refine az_goto (tgt := 28) dX11_fault_24 ?_
      exact az_iret dX11_fault_28 (by first | (rw [cs_fault, if_neg c1, if_pos c14] at hQ; exact hQ) | (rw [cs_fault, if_neg c1, if_neg c14] at hQ; exact hQ))
  · refine az_aload_n dX11_fault_4 ?_
    refine az_getf (v := .ref 2) dX11_fault_5 fl_X11_16 x1 ?_
    refine az_getf (v := .int (nI fk)) dX11_fault_8 fl_X11_93 r0 ?_
    exact az_iret dX11_fault_11 (by rw [cs_fault, if_pos c1] at hQ; exact hQ)
