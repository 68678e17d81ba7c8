/-! The model: what was, what is kept -/
theorem nI_ex (f : Nat → Int32) : ∃ g : Nat → Nat, f = fun j => nI (g j) :=
  ⟨fun j => (f j).toBitVec.toNat, by
    funext j
    apply Int32.toBitVec_inj.mp
    apply BitVec.eq_of_toNat_eq
    show _ = (BitVec.ofNat 32 _).toNat
    rw [BitVec.toNat_ofNat, Nat.mod_eq_of_lt (f j).toBitVec.isLt]⟩
set_option maxHeartbeats 4000000 in
set_option maxRecDepth 100000 in
theorem m_stores {d : Nat} {sc : Nat → Value} {A : Nat → Nat} {hp : az_Hp} {Q : Option Value → az_Hp → Prop} {f0 : Nat → Int32} (h64 : hp.2 64 = some (mo_o sc)) (h65 : hp.2 65 = some (az_I 3318 (fun j => nI (A j)))) (hw0 : hp.2 74 = some (az_I 3 f0)) (hQ : ∀ wn : Nat → Nat, (∀ k, k < 3 → wn k = A (111 + k)) → Q none (az_up hp 74 (az_I 3 (fun j => nI (wn j))))) : az_M mX12_stores d 0 0 [.ref 64] hp Q := by
  obtain ⟨g0, rfl⟩ := nI_ex f0
  have init : ∀ (k : Nat) (i : Nat) (wn : Nat → Nat) (h' : az_Hp), 3 - i = k → (i ≤ 3) → (∀ y, y < i → wn y = A (111 + y)) → (h' = az_up hp 74 (az_I 3 (fun j => nI (wn j)))) → az_W mX12_stores d 0 0 2 [(0, .ref 64), (1, .int (nI i))] [] h' Q := by
    intro k
    induction k using Nat.strongRecOn with
    | _ k ih =>
    intro i wn h' hk hi hF he
    refine az_iload_n dX12_stores_2 ?_
    refine az_iconst (v := nI 3) dX12_stores_3 ?_
    refine az_icmp_geN (tgt := 28) dX12_stores_4 (fun c4 => ?_) (fun c4 => ?_)
    · exact az_vret dX12_stores_28 (by rw [he]; exact hQ wn (fun y hy => hF y (by omega)))
    · refine az_aload_n dX12_stores_7 ?_
      refine az_getf (v := .ref 74) dX12_stores_8 fl_X12_46 (by rw [he]; exact az_up_ne h64) ?_
      refine az_iload_n dX12_stores_11 ?_
      refine az_aload_n dX12_stores_12 ?_
      refine az_getf (v := .ref 65) dX12_stores_13 fl_X12_13 (by rw [he]; exact az_up_ne h64) ?_
      refine az_bipush (v := nI 111) dX12_stores_16 ?_
      refine az_iload_n dX12_stores_18 ?_
      refine az_iaddN dX12_stores_19 ?_
      refine az_ialdN (j := 111 + i) dX12_stores_20 (by rw [he]; exact az_up_ne h65) ?_
      refine az_iastN (j := i) dX12_stores_21 (by rw [he]; exact az_up_eq) ?_
      rw [az_s_nI]
      refine az_iincN (n := 1) (ls' := [(0, .ref 64), (1, .int (nI (i + 1)))]) dX12_stores_22 ?_
      refine az_goto (tgt := 2) dX12_stores_25 ?_
      exact ih _ (by omega) (i + 1) (az_s wn i (A (111 + i))) _ rfl (by omega) (fun y hy => by by_cases e : y = i; rw [e, az_s_eq]; rw [az_s_ne e]; exact hF y (by omega)) (by rw [he, az_up_up])
  refine az_M.of rfl (Nat.le_of_ble_eq_true rfl) ?_
  show az_W _ _ _ _ 0 [(0, .ref 64)] [] _ _
  refine az_iconst (v := nI 0) dX12_stores_0 ?_
  refine az_istore_n (ls' := [(0, .ref 64), (1, .int (nI 0))]) dX12_stores_1 ?_
  exact init _ 0 g0 _ rfl (Nat.zero_le _) (fun y hy => absurd hy (by omega)) (az_up_same hw0).symm
set_option maxHeartbeats 4000000 in
set_option maxRecDepth 100000 in
theorem m_storesBy {d : Nat} {sc : Nat → Value} {A : Nat → Nat} {hp : az_Hp} {Q : Option Value → az_Hp → Prop} {f0 : Nat → Int32} (h64 : hp.2 64 = some (mo_o sc)) (h65 : hp.2 65 = some (az_I 3318 (fun j => nI (A j)))) (hw0 : hp.2 75 = some (az_I 60 f0)) (hQ : ∀ wn : Nat → Nat, (∀ k, k < 60 → wn k = A (145 + k)) → Q none (az_up hp 75 (az_I 60 (fun j => nI (wn j))))) : az_M mX12_storesBy d 0 0 [.ref 64] hp Q := by
  obtain ⟨g0, rfl⟩ := nI_ex f0
  have init : ∀ (k : Nat) (i : Nat) (wn : Nat → Nat) (h' : az_Hp), 60 - i = k → (i ≤ 60) → (∀ y, y < i → wn y = A (145 + y)) → (h' = az_up hp 75 (az_I 60 (fun j => nI (wn j)))) → az_W mX12_storesBy d 0 0 2 [(0, .ref 64), (1, .int (nI i))] [] h' Q := by
    intro k
    induction k using Nat.strongRecOn with
    | _ k ih =>
    intro i wn h' hk hi hF he
    refine az_iload_n dX12_storesBy_2 ?_
    refine az_bipush (v := nI 60) dX12_storesBy_3 ?_
    refine az_icmp_geN (tgt := 30) dX12_storesBy_5 (fun c5 => ?_) (fun c5 => ?_)
    · exact az_vret dX12_storesBy_30 (by rw [he]; exact hQ wn (fun y hy => hF y (by omega)))
    · refine az_aload_n dX12_storesBy_8 ?_
      refine az_getf (v := .ref 75) dX12_storesBy_9 fl_X12_49 (by rw [he]; exact az_up_ne h64) ?_
      refine az_iload_n dX12_storesBy_12 ?_
      refine az_aload_n dX12_storesBy_13 ?_
      refine az_getf (v := .ref 65) dX12_storesBy_14 fl_X12_13 (by rw [he]; exact az_up_ne h64) ?_
      refine az_sipush (v := nI 145) dX12_storesBy_17 ?_
      refine az_iload_n dX12_storesBy_20 ?_
      refine az_iaddN dX12_storesBy_21 ?_
      refine az_ialdN (j := 145 + i) dX12_storesBy_22 (by rw [he]; exact az_up_ne h65) ?_
      refine az_iastN (j := i) dX12_storesBy_23 (by rw [he]; exact az_up_eq) ?_
      rw [az_s_nI]
      refine az_iincN (n := 1) (ls' := [(0, .ref 64), (1, .int (nI (i + 1)))]) dX12_storesBy_24 ?_
      refine az_goto (tgt := 2) dX12_storesBy_27 ?_
      exact ih _ (by omega) (i + 1) (az_s wn i (A (145 + i))) _ rfl (by omega) (fun y hy => by by_cases e : y = i; rw [e, az_s_eq]; rw [az_s_ne e]; exact hF y (by omega)) (by rw [he, az_up_up])
  refine az_M.of rfl (Nat.le_of_ble_eq_true rfl) ?_
  show az_W _ _ _ _ 0 [(0, .ref 64)] [] _ _
  refine az_iconst (v := nI 0) dX12_storesBy_0 ?_
  refine az_istore_n (ls' := [(0, .ref 64), (1, .int (nI 0))]) dX12_storesBy_1 ?_
  exact init _ 0 g0 _ rfl (Nat.zero_le _) (fun y hy => absurd hy (by omega)) (az_up_same hw0).symm
set_option maxHeartbeats 4000000 in
set_option maxRecDepth 100000 in
theorem m_isAgain {d : Nat} {sc : Nat → Value} {A : Nat → Nat} {hp : az_Hp} {Q : Option Value → az_Hp → Prop} {wn : Nat → Nat} (h64 : hp.2 64 = some (mo_o sc)) (h65 : hp.2 65 = some (az_I 3318 (fun j => nI (A j)))) (hw0 : hp.2 74 = some (az_I 3 (fun j => nI (wn j)))) (hQ : ∀ A' : Nat → Nat, (∀ k, k < 3 → A' (111 + k) = wn k) → (∀ j, (j < 111 ∨ 111 + 3 ≤ j) → A' j = A j) → Q none (az_up hp 65 (az_I 3318 (fun j => nI (A' j))))) : az_M mX12_isAgain d 0 0 [.ref 64] hp Q := by
  have init : ∀ (k : Nat) (i : Nat) (A9 : Nat → Nat) (h' : az_Hp), 3 - i = k → (i ≤ 3) → (∀ y, y < i → A9 (111 + y) = wn y) → (∀ y, (y < 111 ∨ 111 + 3 ≤ y) → A9 y = A y) → (h' = az_up hp 65 (az_I 3318 (fun j => nI (A9 j)))) → az_W mX12_isAgain d 0 0 2 [(0, .ref 64), (1, .int (nI i))] [] h' Q := by
    intro k
    induction k using Nat.strongRecOn with
    | _ k ih =>
    intro i A9 h' hk hi hF hG he
    have e64 : h'.2 64 = some (mo_o sc) := (by rw [he]; exact az_up_ne h64)
    have e65 : h'.2 65 = some (az_I 3318 (fun j => nI (A9 j))) := (by rw [he]; exact az_up_eq)
    have ew : h'.2 74 = some (az_I 3 (fun j => nI (wn j))) := (by rw [he]; exact az_up_ne hw0)
    refine az_iload_n dX12_isAgain_2 ?_
    refine az_iconst (v := nI 3) dX12_isAgain_3 ?_
    refine az_icmp_geN (tgt := 28) dX12_isAgain_4 (fun c4 => ?_) (fun c4 => ?_)
    · exact az_vret dX12_isAgain_28 (by rw [he]; exact hQ A9 (fun y hy => hF y (by omega)) hG)
    · refine az_aload_n dX12_isAgain_7 ?_
      refine az_getf (v := .ref 65) dX12_isAgain_8 fl_X12_13 e64 ?_
      refine az_bipush (v := nI 111) dX12_isAgain_11 ?_
      refine az_iload_n dX12_isAgain_13 ?_
      refine az_iaddN dX12_isAgain_14 ?_
      refine az_aload_n dX12_isAgain_15 ?_
      refine az_getf (v := .ref 74) dX12_isAgain_16 fl_X12_46 e64 ?_
      refine az_iload_n dX12_isAgain_19 ?_
      refine az_ialdN (j := i) dX12_isAgain_20 ew ?_
      refine az_iastN (j := 111 + i) dX12_isAgain_21 e65 ?_
      rw [az_s_nI]
      refine az_iincN (n := 1) (ls' := [(0, .ref 64), (1, .int (nI (i + 1)))]) dX12_isAgain_22 ?_
      refine az_goto (tgt := 2) dX12_isAgain_25 ?_
      exact ih _ (by omega) (i + 1) (az_s A9 (111 + i) (wn i)) _ rfl (by omega) (fun y hy => by by_cases e : y = i; rw [e, az_s_eq]; rw [az_s_ne (by omega)]; exact hF y (by omega)) (fun y hy => (az_s_ne (by omega)).trans (hG y hy)) (by rw [he, az_up_up])
  refine az_M.of rfl (Nat.le_of_ble_eq_true rfl) ?_
  show az_W _ _ _ _ 0 [(0, .ref 64)] [] _ _
  refine az_iconst (v := nI 0) dX12_isAgain_0 ?_
  refine az_istore_n (ls' := [(0, .ref 64), (1, .int (nI 0))]) dX12_isAgain_1 ?_
  exact init _ 0 A _ rfl (Nat.zero_le _) (fun y hy => absurd hy (by omega)) (fun _ _ => rfl) (az_up_same h65).symm
set_option maxHeartbeats 4000000 in
set_option maxRecDepth 100000 in
theorem m_isAgainBy {d : Nat} {sc : Nat → Value} {A : Nat → Nat} {hp : az_Hp} {Q : Option Value → az_Hp → Prop} {wn : Nat → Nat} (h64 : hp.2 64 = some (mo_o sc)) (h65 : hp.2 65 = some (az_I 3318 (fun j => nI (A j)))) (hw0 : hp.2 75 = some (az_I 60 (fun j => nI (wn j)))) (hQ : ∀ A' : Nat → Nat, (∀ k, k < 60 → A' (145 + k) = wn k) → (∀ j, (j < 145 ∨ 145 + 60 ≤ j) → A' j = A j) → Q none (az_up hp 65 (az_I 3318 (fun j => nI (A' j))))) : az_M mX12_isAgainBy d 0 0 [.ref 64] hp Q := by
  have init : ∀ (k : Nat) (i : Nat) (A9 : Nat → Nat) (h' : az_Hp), 60 - i = k → (i ≤ 60) → (∀ y, y < i → A9 (145 + y) = wn y) → (∀ y, (y < 145 ∨ 145 + 60 ≤ y) → A9 y = A y) → (h' = az_up hp 65 (az_I 3318 (fun j => nI (A9 j)))) → az_W mX12_isAgainBy d 0 0 2 [(0, .ref 64), (1, .int (nI i))] [] h' Q := by
    intro k
    induction k using Nat.strongRecOn with
    | _ k ih =>
    intro i A9 h' hk hi hF hG he
    have e64 : h'.2 64 = some (mo_o sc) := (by rw [he]; exact az_up_ne h64)
    have e65 : h'.2 65 = some (az_I 3318 (fun j => nI (A9 j))) := (by rw [he]; exact az_up_eq)
    have ew : h'.2 75 = some (az_I 60 (fun j => nI (wn j))) := (by rw [he]; exact az_up_ne hw0)
    refine az_iload_n dX12_isAgainBy_2 ?_
    refine az_bipush (v := nI 60) dX12_isAgainBy_3 ?_
    refine az_icmp_geN (tgt := 30) dX12_isAgainBy_5 (fun c5 => ?_) (fun c5 => ?_)
    · exact az_vret dX12_isAgainBy_30 (by rw [he]; exact hQ A9 (fun y hy => hF y (by omega)) hG)
    · refine az_aload_n dX12_isAgainBy_8 ?_
      refine az_getf (v := .ref 65) dX12_isAgainBy_9 fl_X12_13 e64 ?_
      refine az_sipush (v := nI 145) dX12_isAgainBy_12 ?_
      refine az_iload_n dX12_isAgainBy_15 ?_
      refine az_iaddN dX12_isAgainBy_16 ?_
      refine az_aload_n dX12_isAgainBy_17 ?_
      refine az_getf (v := .ref 75) dX12_isAgainBy_18 fl_X12_49 e64 ?_
      refine az_iload_n dX12_isAgainBy_21 ?_
      refine az_ialdN (j := i) dX12_isAgainBy_22 ew ?_
      refine az_iastN (j := 145 + i) dX12_isAgainBy_23 e65 ?_
      rw [az_s_nI]
      refine az_iincN (n := 1) (ls' := [(0, .ref 64), (1, .int (nI (i + 1)))]) dX12_isAgainBy_24 ?_
      refine az_goto (tgt := 2) dX12_isAgainBy_27 ?_
      exact ih _ (by omega) (i + 1) (az_s A9 (145 + i) (wn i)) _ rfl (by omega) (fun y hy => by by_cases e : y = i; rw [e, az_s_eq]; rw [az_s_ne (by omega)]; exact hF y (by omega)) (fun y hy => (az_s_ne (by omega)).trans (hG y hy)) (by rw [he, az_up_up])
  refine az_M.of rfl (Nat.le_of_ble_eq_true rfl) ?_
  show az_W _ _ _ _ 0 [(0, .ref 64)] [] _ _
  refine az_iconst (v := nI 0) dX12_isAgainBy_0 ?_
  refine az_istore_n (ls' := [(0, .ref 64), (1, .int (nI 0))]) dX12_isAgainBy_1 ?_
  exact init _ 0 A _ rfl (Nat.zero_le _) (fun y hy => absurd hy (by omega)) (fun _ _ => rfl) (az_up_same h65).symm
theorem push_lt {U : ln_U} {m : Nat × Nat × Nat} (h : U.length < 10) : ln_push U m = U ++ [m] := if_pos h
theorem push_ge {U : ln_U} {m : Nat × Nat × Nat} (h : U.length = 10) : ln_push U m = (U ++ [m]).tail := if_neg (by omega)
theorem getD_appU {U : ln_U} {m : Nat × Nat × Nat} {k : Nat} : (U ++ [m]).getD k (0, 0, 0) = if k < U.length then U.getD k (0, 0, 0) else if k = U.length then m else (0, 0, 0) := by
  by_cases h : k < U.length
  · rw [if_pos h, List.getD_eq_getElem?_getD, List.getElem?_append_left h, List.getD_eq_getElem?_getD]
  · rw [if_neg h, List.getD_eq_getElem?_getD, List.getElem?_append_right (by omega)]
    by_cases h2 : k = U.length
    · rw [if_pos h2, h2, Nat.sub_self]; rfl
    · rw [if_neg h2, List.getElem?_eq_none (by simp; omega)]; rfl
theorem getD_tailU {U : ln_U} {k : Nat} : U.tail.getD k (0, 0, 0) = U.getD (k + 1) (0, 0, 0) := by
  cases U with
  | nil => rfl
  | cons a U => rfl
/-- one deed more is kept -/
theorem mU.push {A A' : Nat → Nat} {U : ln_U} {m : Nat × Nat × Nat} (H : mU A U) (h10 : U.length < 10) (h1 : A' 114 = U.length + 1) (h2 : A' (115 + 3 * U.length) = m.2.2 ∧ A' (115 + 3 * U.length + 1) = m.2.1 ∧ A' (115 + 3 * U.length + 2) = m.1) (h3 : ∀ j, 115 ≤ j → j < 115 + 3 * U.length → A' j = A j) : mU A' (U ++ [m]) := by
  refine ⟨by rw [h1]; simp, fun k hk => ?_⟩
  have hk2 : k < U.length + 1 := by simpa using hk
  rw [getD_appU]
  by_cases e : k < U.length
  · rw [if_pos e]
    obtain ⟨g1, g2, g3⟩ := H.2 k e
    exact ⟨(h3 _ (by omega) (by omega)).trans g1, (h3 _ (by omega) (by omega)).trans g2, (h3 _ (by omega) (by omega)).trans g3⟩
  · obtain rfl : k = U.length := by omega
    rw [if_neg e, if_pos rfl]
    exact h2
set_option maxHeartbeats 4000000 in
set_option maxRecDepth 100000 in
theorem m_notes3 {d : Nat} {sc : Nat → Value} {A : Nat → Nat} {hp : az_Hp} {Q : Option Value → az_Hp → Prop} {U : ln_U} {wn : Nat → Nat} (h64 : hp.2 64 = some (mo_o sc)) (h65 : hp.2 65 = some (az_I 3318 (fun j => nI (A j)))) (hw0 : hp.2 74 = some (az_I 3 (fun j => nI (wn j)))) (hU : mU A U) (h10 : U.length < 10) (hQ : ∀ A', (∀ j, (j < 114 ∨ 145 ≤ j) → A' j = A j) → mU A' (U ++ [(wn 2, wn 1, wn 0)]) → Q none (az_up hp 65 (az_I 3318 (fun j => nI (A' j))))) : az_W mX12_notes d 0 0 55 [(0, .ref 64)] [] hp Q := by
  have hA : A 114 = U.length := hU.1
  have init : ∀ (k : Nat) (i : Nat) (A9 : Nat → Nat) (h' : az_Hp), 3 - i = k → (i ≤ 3) → (∀ y, y < i → A9 (115 + 3 * U.length + y) = wn y) → (∀ y, (y < 115 + 3 * U.length ∨ 115 + 3 * U.length + 3 ≤ y) → A9 y = A y) → (h' = az_up hp 65 (az_I 3318 (fun j => nI (A9 j)))) → az_W mX12_notes d 0 0 57 [(0, .ref 64), (1, .int (nI i))] [] h' Q := by
    intro k
    induction k using Nat.strongRecOn with
    | _ k ih =>
    intro i A9 h' hk hi hF hG he
    have e64 : h'.2 64 = some (mo_o sc) := (by rw [he]; exact az_up_ne h64)
    have e65 : h'.2 65 = some (az_I 3318 (fun j => nI (A9 j))) := (by rw [he]; exact az_up_eq)
    have ew : h'.2 74 = some (az_I 3 (fun j => nI (wn j))) := (by rw [he]; exact az_up_ne hw0)
    refine az_iload_n dX12_notes_57 ?_
    refine az_iconst (v := nI 3) dX12_notes_58 ?_
    refine az_icmp_geN (tgt := 93) dX12_notes_59 (fun c59 => ?_) (fun c59 => ?_)
    · refine az_aload_n dX12_notes_93 ?_
      refine az_getf (v := .ref 65) dX12_notes_94 fl_X12_13 e64 ?_
      refine az_bipush (v := nI 114) dX12_notes_97 ?_
      refine az_dup2_11 dX12_notes_99 ?_
      refine az_ialdN (j := 114) dX12_notes_100 e65 ?_
      rw [show A9 114 = U.length from (hG 114 (by omega)).trans hA]
      refine az_iconst (v := nI 1) dX12_notes_101 ?_
      refine az_iaddN dX12_notes_102 ?_
      refine az_iastN (j := 114) dX12_notes_103 e65 ?_
      rw [az_s_nI]
      exact az_vret dX12_notes_104 (by rw [he, az_up_up]; exact hQ _ (fun j hj => (az_s_ne (by omega)).trans (hG j (by omega))) (mU.push hU h10 az_s_eq ⟨(az_s_ne (by omega)).trans (hF 0 (by omega)), (az_s_ne (by omega)).trans (hF 1 (by omega)), (az_s_ne (by omega)).trans (hF 2 (by omega))⟩ (fun j a b => (az_s_ne (by omega)).trans (hG j (by omega)))))
    · refine az_aload_n dX12_notes_62 ?_
      refine az_getf (v := .ref 65) dX12_notes_63 fl_X12_13 e64 ?_
      refine az_bipush (v := nI 115) dX12_notes_66 ?_
      refine az_iconst (v := nI 3) dX12_notes_68 ?_
      refine az_aload_n dX12_notes_69 ?_
      refine az_getf (v := .ref 65) dX12_notes_70 fl_X12_13 e64 ?_
      refine az_bipush (v := nI 114) dX12_notes_73 ?_
      refine az_ialdN (j := 114) dX12_notes_75 e65 ?_
      rw [show A9 114 = U.length from (hG 114 (by omega)).trans hA]
      refine az_imulN dX12_notes_76 ?_
      refine az_iaddN dX12_notes_77 ?_
      refine az_iload_n dX12_notes_78 ?_
      refine az_iaddN dX12_notes_79 ?_
      refine az_aload_n dX12_notes_80 ?_
      refine az_getf (v := .ref 74) dX12_notes_81 fl_X12_46 e64 ?_
      refine az_iload_n dX12_notes_84 ?_
      refine az_ialdN (j := i) dX12_notes_85 ew ?_
      refine az_iastN (j := (115 + (3 * U.length)) + i) dX12_notes_86 e65 ?_
      rw [az_s_nI]
      refine az_iincN (n := 1) (ls' := [(0, .ref 64), (1, .int (nI (i + 1)))]) dX12_notes_87 ?_
      refine az_goto (tgt := 57) dX12_notes_90 ?_
      exact ih _ (by omega) (i + 1) (az_s A9 (115 + 3 * U.length + i) (wn i)) _ rfl (by omega) (fun y hy => by by_cases e : y = i; rw [e, az_s_eq]; rw [az_s_ne (by omega)]; exact hF y (by omega)) (fun y hy => (az_s_ne (by omega)).trans (hG y hy)) (by rw [he, az_up_up])
  refine az_iconst (v := nI 0) dX12_notes_55 ?_
  refine az_istore_n (ls' := [(0, .ref 64), (1, .int (nI 0))]) dX12_notes_56 ?_
  exact init _ 0 A _ rfl (Nat.zero_le _) (fun y hy => absurd hy (by omega)) (fun _ _ => rfl) (az_up_same h65).symm
set_option maxHeartbeats 4000000 in
set_option maxRecDepth 100000 in
theorem m_notes {d : Nat} {sc : Nat → Value} {A : Nat → Nat} {hp : az_Hp} {Q : Option Value → az_Hp → Prop} {U : ln_U} {wn : Nat → Nat} (h64 : hp.2 64 = some (mo_o sc)) (h65 : hp.2 65 = some (az_I 3318 (fun j => nI (A j)))) (hw0 : hp.2 74 = some (az_I 3 (fun j => nI (wn j)))) (hU : mU A U) (h10 : U.length ≤ 10) (hQ : ∀ A', (∀ j, (j < 114 ∨ 145 ≤ j) → A' j = A j) → mU A' (ln_push U (wn 2, wn 1, wn 0)) → Q none (az_up hp 65 (az_I 3318 (fun j => nI (A' j))))) : az_M mX12_notes d 0 0 [.ref 64] hp Q := by
  have hA : A 114 = U.length := hU.1
  have init : ∀ (k : Nat) (i : Nat) (A9 : Nat → Nat) (h' : az_Hp), 27 - i = k → (i ≤ 27) → (U.length = 10) → (∀ y, y < i → A9 (115 + y) = A (118 + y)) → (∀ y, (y < 115 ∨ 115 + i ≤ y) → A9 y = A y) → (h' = az_up hp 65 (az_I 3318 (fun j => nI (A9 j)))) → az_W mX12_notes d 0 0 14 [(0, .ref 64), (1, .int (nI i))] [] h' Q := by
    intro k
    induction k using Nat.strongRecOn with
    | _ k ih =>
    intro i A9 h' hk hi h9 hF hG he
    have e64 : h'.2 64 = some (mo_o sc) := (by rw [he]; exact az_up_ne h64)
    have e65 : h'.2 65 = some (az_I 3318 (fun j => nI (A9 j))) := (by rw [he]; exact az_up_eq)
    refine az_iload_n dX12_notes_14 ?_
    refine az_bipush (v := nI 27) dX12_notes_15 ?_
    refine az_icmp_geN (tgt := 44) dX12_notes_17 (fun c17 => ?_) (fun c17 => ?_)
    · refine az_aload_n dX12_notes_44 ?_
      refine az_getf (v := .ref 65) dX12_notes_45 fl_X12_13 e64 ?_
      refine az_bipush (v := nI 114) dX12_notes_48 ?_
      refine az_dup2_11 dX12_notes_50 ?_
      refine az_ialdN (j := 114) dX12_notes_51 e65 ?_
      rw [show A9 114 = U.length from (hG 114 (by omega)).trans hA, h9]
      refine az_iconst (v := nI 1) dX12_notes_52 ?_
      refine az_isubN dX12_notes_53 (by omega) ?_
      refine az_iastN (j := 114) dX12_notes_54 e65 ?_
      rw [az_s_nI]
      rw [he, az_up_up]
      rw [show (10 : Nat) - 1 = 9 from rfl]
      refine az_W.keep (ls' := [(0, .ref 64)]) [0] rfl ?_
      refine m_notes3 (U := U.tail) (A := az_s A9 114 9) (az_up_ne h64) az_up_eq (az_up_ne hw0) ⟨by rw [az_s_eq]; simp [h9], fun k hk => (by have hk2 : k < 9 := (by have := hk; simp [h9] at this; exact this); rw [getD_tailU]; obtain ⟨g1, g2, g3⟩ := hU.2 (k + 1) (by omega); refine ⟨?_, ?_, ?_⟩; rw [az_s_ne (by omega)]; exact (hF (3 * k) (by omega)).trans ((congrArg A (by omega)).trans g1); rw [az_s_ne (by omega)]; exact (hF (3 * k + 1) (by omega)).trans ((congrArg A (by omega)).trans g2); rw [az_s_ne (by omega)]; exact (hF (3 * k + 2) (by omega)).trans ((congrArg A (by omega)).trans g3))⟩ (by simp [h9]) (fun A' k1 k2 => ?_)
      rw [az_up_up]
      refine hQ A' (fun j hj => (k1 j hj).trans ((az_s_ne (by omega)).trans (hG j (by omega)))) ?_
      rw [push_ge h9, show (U ++ [(wn 2, wn 1, wn 0)]).tail = U.tail ++ [(wn 2, wn 1, wn 0)] from (by cases U with | nil => cases h9 | cons a U => rfl)]
      exact k2
    · refine az_aload_n dX12_notes_20 ?_
      refine az_getf (v := .ref 65) dX12_notes_21 fl_X12_13 e64 ?_
      refine az_bipush (v := nI 115) dX12_notes_24 ?_
      refine az_iload_n dX12_notes_26 ?_
      refine az_iaddN dX12_notes_27 ?_
      refine az_aload_n dX12_notes_28 ?_
      refine az_getf (v := .ref 65) dX12_notes_29 fl_X12_13 e64 ?_
      refine az_bipush (v := nI 118) dX12_notes_32 ?_
      refine az_iload_n dX12_notes_34 ?_
      refine az_iaddN dX12_notes_35 ?_
      refine az_ialdN (j := 118 + i) dX12_notes_36 e65 ?_
      rw [hG (118 + i) (by omega)]
      refine az_iastN (j := 115 + i) dX12_notes_37 e65 ?_
      rw [az_s_nI]
      refine az_iincN (n := 1) (ls' := [(0, .ref 64), (1, .int (nI (i + 1)))]) dX12_notes_38 ?_
      refine az_goto (tgt := 14) dX12_notes_41 ?_
      exact ih _ (by omega) (i + 1) (az_s A9 (115 + i) (A (118 + i))) _ rfl (by omega) h9 (fun y hy => by by_cases e : y = i; rw [e, az_s_eq]; rw [az_s_ne (by omega)]; exact hF y (by omega)) (fun y hy => (az_s_ne (by omega)).trans (hG y (by omega))) (by rw [he, az_up_up])
  refine az_M.of rfl (Nat.le_of_ble_eq_true rfl) ?_
  show az_W _ _ _ _ 0 [(0, .ref 64)] [] _ _
  refine az_aload_n dX12_notes_0 ?_
  refine az_getf (v := .ref 65) dX12_notes_1 fl_X12_13 h64 ?_
  refine az_bipush (v := nI 114) dX12_notes_4 ?_
  refine az_ialdN (j := 114) dX12_notes_6 h65 ?_
  rw [hA]
  refine az_bipush (v := nI 10) dX12_notes_7 ?_
  refine az_icmp_neN (tgt := 55) dX12_notes_9 (fun c9 => ?_) (fun c9 => ?_)
  · exact m_notes3 h64 h65 hw0 hU (by omega) (fun A' k1 k2 => hQ A' k1 (by rw [push_lt (by omega)]; exact k2))
  · refine az_iconst (v := nI 0) dX12_notes_12 ?_
    refine az_istore_n (ls' := [(0, .ref 64), (1, .int (nI 0))]) dX12_notes_13 ?_
    exact init _ 0 A _ rfl (Nat.zero_le _) (by omega) (fun y hy => absurd hy (by omega)) (fun _ _ => rfl) (az_up_same h65).symm

