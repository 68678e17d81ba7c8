/-! Law: its value -/
/-- what the words night, moon, front, back, rest tell -/
def ln_env (w : ln_W) (bs : List Nat) (mo ni : Nat) (k : Nat) : Int32 :=
  if k = 0 then nI ni else if k = 1 then nI mo else if k = 2 then nI ((ln_str w bs).head?.getD 6) else if k = 3 then nI ((ln_str w bs).reverse.head?.getD 6)
  else (lN (ln_str w bs).length - lN (ln_str w bs).length / lN 10 * lN 10).toInt32
set_option maxRecDepth 100000 in
theorem s_atom_n {c : Nat} {d a t mo ni : Nat} {w : ln_W} {bs : List Nat} {hp : az_Hp} {Q : Option Value → az_Hp → Prop} (hd : 1 ≤ d) (hw : ln_ok w) (hS : ln_Scene hp a t w mo ni bs) (hc : c < 1000) (hQ : Q (some (.int (nI c))) hp) : az_M mX3_atomOf d 0 0 [.int (nI c), .ref a] hp Q := by
  obtain ⟨hi, fr, la, no, wa, nc, g0, -⟩ := id hS
  refine az_M.of rfl (Nat.le_of_ble_eq_true rfl) ?_
  show az_W _ _ _ _ 0 [(0, .int (nI c)), (1, .ref a)] [] _ _
  refine az_iload_n dX3_atomOf_0 ?_
  refine az_tswOut (tgt := 66) dX3_atomOf_1 (Or.inr (by rw [nI_toInt (by omega)]; omega)) (by decide) ?_
  refine az_iload_n dX3_atomOf_66 ?_
  exact az_iret dX3_atomOf_67 (hQ)
set_option maxRecDepth 100000 in
theorem s_atom_0 {d a t mo ni : Nat} {w : ln_W} {bs : List Nat} {hp : az_Hp} {Q : Option Value → az_Hp → Prop} (hd : 1 ≤ d) (hw : ln_ok w) (hS : ln_Scene hp a t w mo ni bs) (hQ : Q (some (.int (ln_env w bs mo ni 0))) hp) : az_M mX3_atomOf d 0 0 [.int (-1), .ref a] hp Q := by
  obtain ⟨hi, fr, la, no, wa, nc, g0, -⟩ := id hS
  refine az_M.of rfl (Nat.le_of_ble_eq_true rfl) ?_
  show az_W _ _ _ _ 0 [(0, .int ((-1))), (1, .ref a)] [] _ _
  refine az_iload_n dX3_atomOf_0 ?_
  refine az_tswIn (off := 35) (tgt := 36) dX3_atomOf_1 (by decide) (by decide) (by rfl) (by decide) ?_
  refine az_aload_n dX3_atomOf_36 ?_
  refine az_getf (v := .int (nI ni)) dX3_atomOf_37 fl_X3_27 g0 ?_
  exact az_iret dX3_atomOf_40 (hQ)
set_option maxRecDepth 100000 in
theorem s_atom_1 {d a t mo ni : Nat} {w : ln_W} {bs : List Nat} {hp : az_Hp} {Q : Option Value → az_Hp → Prop} (hd : 1 ≤ d) (hw : ln_ok w) (hS : ln_Scene hp a t w mo ni bs) (hQ : Q (some (.int (ln_env w bs mo ni 1))) hp) : az_M mX3_atomOf d 0 0 [.int (-2), .ref a] hp Q := by
  obtain ⟨hi, fr, la, no, wa, nc, g0, -⟩ := id hS
  refine az_M.of rfl (Nat.le_of_ble_eq_true rfl) ?_
  show az_W _ _ _ _ 0 [(0, .int ((-2))), (1, .ref a)] [] _ _
  refine az_iload_n dX3_atomOf_0 ?_
  refine az_tswIn (off := 40) (tgt := 41) dX3_atomOf_1 (by decide) (by decide) (by rfl) (by decide) ?_
  refine az_aload_n dX3_atomOf_41 ?_
  refine az_getf (v := .int (nI mo)) dX3_atomOf_42 fl_X3_31 g0 ?_
  exact az_iret dX3_atomOf_45 (hQ)
set_option maxRecDepth 100000 in
theorem s_atom_2 {d a t mo ni : Nat} {w : ln_W} {bs : List Nat} {hp : az_Hp} {Q : Option Value → az_Hp → Prop} (hd : 1 ≤ d) (hw : ln_ok w) (hS : ln_Scene hp a t w mo ni bs) (hQ : Q (some (.int (ln_env w bs mo ni 2))) hp) : az_M mX3_atomOf d 0 0 [.int (-3), .ref a] hp Q := by
  obtain ⟨hi, fr, la, no, wa, nc, g0, -⟩ := id hS
  refine az_M.of rfl (Nat.le_of_ble_eq_true rfl) ?_
  show az_W _ _ _ _ 0 [(0, .int ((-3))), (1, .ref a)] [] _ _
  refine az_iload_n dX3_atomOf_0 ?_
  refine az_tswIn (off := 45) (tgt := 46) dX3_atomOf_1 (by decide) (by decide) (by rfl) (by decide) ?_
  refine az_aload_n dX3_atomOf_46 ?_
  refine az_cV0 (st := []) dX3_atomOf_47 ml_X3_34 g0 (s_frontLetter (d := d - 1) hw hS ?_)
  exact az_iret dX3_atomOf_50 (hQ)
set_option maxRecDepth 100000 in
theorem s_atom_3 {d a t mo ni : Nat} {w : ln_W} {bs : List Nat} {hp : az_Hp} {Q : Option Value → az_Hp → Prop} (hd : 1 ≤ d) (hw : ln_ok w) (hS : ln_Scene hp a t w mo ni bs) (hQ : Q (some (.int (ln_env w bs mo ni 3))) hp) : az_M mX3_atomOf d 0 0 [.int (-4), .ref a] hp Q := by
  obtain ⟨hi, fr, la, no, wa, nc, g0, -⟩ := id hS
  refine az_M.of rfl (Nat.le_of_ble_eq_true rfl) ?_
  show az_W _ _ _ _ 0 [(0, .int ((-4))), (1, .ref a)] [] _ _
  refine az_iload_n dX3_atomOf_0 ?_
  refine az_tswIn (off := 50) (tgt := 51) dX3_atomOf_1 (by decide) (by decide) (by rfl) (by decide) ?_
  refine az_aload_n dX3_atomOf_51 ?_
  refine az_cV0 (st := []) dX3_atomOf_52 ml_X3_38 g0 (s_backLetter (d := d - 1) hw hS ?_)
  exact az_iret dX3_atomOf_55 (hQ)
set_option maxRecDepth 100000 in
theorem s_atom_4 {d a t mo ni : Nat} {w : ln_W} {bs : List Nat} {hp : az_Hp} {Q : Option Value → az_Hp → Prop} (hd : 1 ≤ d) (hw : ln_ok w) (hS : ln_Scene hp a t w mo ni bs) (hQ : Q (some (.int (ln_env w bs mo ni 4))) hp) : az_M mX3_atomOf d 0 0 [.int (-5), .ref a] hp Q := by
  obtain ⟨hi, fr, la, no, wa, nc, g0, -⟩ := id hS
  refine az_M.of rfl (Nat.le_of_ble_eq_true rfl) ?_
  show az_W _ _ _ _ 0 [(0, .int ((-5))), (1, .ref a)] [] _ _
  refine az_iload_n dX3_atomOf_0 ?_
  refine az_tswIn (off := 55) (tgt := 56) dX3_atomOf_1 (by decide) (by decide) (by rfl) (by decide) ?_
  refine az_aload_n dX3_atomOf_56 ?_
  refine az_getf (v := .long (lN ((ln_str w bs).length))) dX3_atomOf_57 fl_X3_41 g0 ?_
  refine az_ldc2 (v := lN 10) dX3_atomOf_60 cn_X3_45 ?_
  refine az_lrem dX3_atomOf_63 (by decide) ?_
  refine az_l2i dX3_atomOf_64 ?_
  exact az_iret dX3_atomOf_65 (hQ)
theorem s_atomOf {c : Nat} {d a t mo ni : Nat} {w : ln_W} {bs : List Nat} {hp : az_Hp} {Q : Option Value → az_Hp → Prop} (hd : 1 ≤ d) (hw : ln_ok w) (hS : ln_Scene hp a t w mo ni bs) (hc : c < 1005) (hQ : Q (some (.int (if c < 1000 then nI c else ln_env w bs mo ni (c - 1000)))) hp) : az_M mX3_atomOf d 0 0 [.int (lw_phi c), .ref a] hp Q := by
  by_cases h : c < 1000
  · rw [if_pos h] at hQ
    rw [show lw_phi c = nI c by rw [lw_phi, if_pos h]]
    exact s_atom_n hd hw hS h hQ
  · rw [if_neg h] at hQ
    have : c = 1000 ∨ c = 1001 ∨ c = 1002 ∨ c = 1003 ∨ c = 1004 := by omega
    rcases this with rfl | rfl | rfl | rfl | rfl
    · exact s_atom_0 hd hw hS hQ
    · exact s_atom_1 hd hw hS hQ
    · exact s_atom_2 hd hw hS hQ
    · exact s_atom_3 hd hw hS hQ
    · exact s_atom_4 hd hw hS hQ
/-- how many numbers a word takes -/
def lw_nd (c : Nat) : Nat := if c < 3000 then 0 else if c = 3006 then 1 else if c = 3009 then 3 else 2
/-- the words that there are -/
def lw_is (c : Nat) : Prop := c < 1005 ∨ (3000 ≤ c ∧ c ≤ 3009)
theorem s_needs {d c : Nat} {hp : az_Hp} {Q : Option Value → az_Hp → Prop} (hc : lw_is c) (hQ : Q (some (.int (nI (lw_nd c)))) hp) : az_M mX3_needsOf d 0 0 [.int (lw_phi c)] hp Q := by
  by_cases h : c < 1000
  · have e : lw_phi c = nI c := by rw [lw_phi, if_pos h]
    have e2 : lw_nd c = 0 := by rw [lw_nd, if_pos (by omega)]
    rw [e2] at hQ
    rw [e]
    have hn : ¬ nI c ≤ (-10) := by
      rw [Int32.le_iff_toInt_le, nI_toInt (by omega)]
      intro q
      have : (-10 : Int32).toInt = -10 := by decide
      omega
    exact s_needsOf (fun _ => hQ) (fun q => absurd (by rw [q]; decide) hn) (fun q => absurd (by rw [q]; decide) hn) (fun q _ _ => absurd q hn)
  · have hc' : c = 1000 ∨ c = 1001 ∨ c = 1002 ∨ c = 1003 ∨ c = 1004 ∨ c = 3000 ∨ c = 3001 ∨ c = 3002 ∨ c = 3003 ∨ c = 3004 ∨ c = 3005 ∨ c = 3006 ∨ c = 3007 ∨ c = 3008 ∨ c = 3009 := by
      unfold lw_is at hc
      omega
    rcases hc' with rfl | rfl | rfl | rfl | rfl | rfl | rfl | rfl | rfl | rfl | rfl | rfl | rfl | rfl | rfl <;>
      exact s_needsOf (fun q => by first | exact hQ | exact absurd (by decide) q) (fun q => by first | exact hQ | exact absurd q (by decide)) (fun q => by first | exact hQ | exact absurd q (by decide)) (fun q1 q2 q3 => by first | exact hQ | exact absurd q1 (by decide) | exact absurd rfl q2 | exact absurd rfl q3)
theorem s_joined {d c : Nat} {a b : Int32} {hp : az_Hp} {Q : Option Value → az_Hp → Prop} (hd : 2 ≤ d) (hc : lw_is c) (hn : lw_nd c = 2) (hQ : Q (some (.int (lw_bin c a b))) hp) : az_M mX3_joined d 0 0 [.int (lw_phi c), .int a, .int b] hp Q := by
  have hc' : c = 3000 ∨ c = 3001 ∨ c = 3002 ∨ c = 3003 ∨ c = 3004 ∨ c = 3005 ∨ c = 3007 ∨ c = 3008 := by
    unfold lw_is at hc
    unfold lw_nd at hn
    split at hn
    · omega
    · split at hn
      · omega
      · split at hn
        · omega
        · omega
  rcases hc' with rfl | rfl | rfl | rfl | rfl | rfl | rfl | rfl
  · exact s_joined_3000 hd hQ
  · exact s_joined_3001 hd hQ
  · exact s_joined_3002 hd hQ
  · exact s_joined_3003 hd hQ
  · exact s_joined_3004 hd hQ
  · exact s_joined_3005 hd hQ
  · exact s_joined_3007 hd hQ
  · exact s_joined_3008 hd hQ
