/-! Kin: chains, doubles, fates -/
def kc_st (f c : Nat → Nat) (x : Nat) : Nat → Nat := if kb f x x = 0 then c else az_s c x (1 + kn_lb f c x 6)
def kc_rw (f c : Nat → Nat) : Nat → (Nat → Nat)
  | 0 => c
  | k + 1 => kc_st f (kc_rw f c k) k
def kc_al (f : Nat → Nat) : Nat → (Nat → Nat)
  | 0 => fun _ => 0
  | n + 1 => kc_rw f (kc_al f n) 6
theorem kc_st_le {f c : Nat → Nat} {m : Nat} (h : ∀ y, c y ≤ m) (x y : Nat) : kc_st f c x y ≤ m + 1 := by
  unfold kc_st
  split
  · have := h y; omega
  · by_cases e : y = x
    · rw [e, az_s_eq]
      have := kn_lb_le (f := f) (x := x) h 6
      omega
    · rw [az_s_ne e]
      have := h y; omega
theorem kc_rw_le {f c : Nat → Nat} {m : Nat} (h : ∀ y, c y ≤ m) (k : Nat) : ∀ y, kc_rw f c k y ≤ m + k := by
  induction k with
  | zero => exact h
  | succ k ih => intro y; exact kc_st_le ih k y
theorem kc_al_le (f : Nat → Nat) (n : Nat) : ∀ y, kc_al f n y ≤ n * 6 := by
  induction n with
  | zero => intro y; exact Nat.zero_le _
  | succ n ih =>
    intro y
    have := kc_rw_le (f := f) ih 6 y
    show kc_rw f (kc_al f n) 6 y ≤ _
    omega
set_option maxRecDepth 100000 in
theorem s_learnChains {d q : Nat} {f : Nat → Nat} {c0 : Nat → Int32} {hp : az_Hp} {Q : Option Value → az_Hp → Prop} (hd : 2 ≤ d) (h0 : hp.2 q = some (az_O 2 [.ref (q + 1), .ref (q + 2)])) (h1 : hp.2 (q + 1) = some (az_I 6 (fun j => nI (f j)))) (h2 : hp.2 (q + 2) = some (az_I 6 c0)) (hf : ∀ y, f y < 64) (hQ : Q none (az_up hp (q + 2) (az_I 6 (fun j => nI (kc_al f 6 j))))) : az_M mX2_learnChains d 0 0 [.ref q] hp Q := by
  have inner : ∀ (k : Nat) (rd x : Nat) (h' : az_Hp) (hrd : rd < 6) (hK : ∀ h' : az_Hp, h' = az_up hp (q + 2) (az_I 6 (fun j => nI (kc_al f (rd + 1) j))) → az_W mX2_learnChains d 0 0 52 [(0, .ref q), (1, .int (nI rd)), (2, .int (nI 6))] [] h' Q), 6 - x = k → (x ≤ 6) → (h' = az_up hp (q + 2) (az_I 6 (fun j => nI ((kc_rw f (kc_al f rd) x) j)))) → az_W mX2_learnChains d 0 0 18 [(0, .ref q), (1, .int (nI rd)), (2, .int (nI x))] [] h' Q := by
    intro k
    induction k using Nat.strongRecOn with
    | _ k ih =>
    intro rd x h' hrd hK hk hx6 he
    refine az_iload_n dX2_learnChains_18 ?_
    refine az_bipush (v := nI 6) dX2_learnChains_19 ?_
    refine az_icmp_geN (tgt := 52) dX2_learnChains_21 (fun c21 => ?_) (fun c21 => ?_)
    · obtain rfl : x = 6 := by omega
      exact hK h' he
    · refine az_aload_n dX2_learnChains_24 ?_
      refine az_iload_n dX2_learnChains_25 ?_
      refine az_iload_n dX2_learnChains_26 ?_
      refine az_cV0 (st := []) dX2_learnChains_27 ml_X2_24 (by rw [he]; exact az_up_ne h0) (s_reaches (d := d - 1) (by rw [he]; exact az_up_ne h0) (by rw [he]; exact az_up_ne h1) (hf _) (x := x) (by omega) (y := x) (by omega) ?_)
      have hkb := kb_le f x x
      refine az_if_eqN (tgt := 46) dX2_learnChains_30 (fun c30 => ?_) (fun c30 => ?_)
      · refine az_iincN (n := 1) (ls' := [(0, .ref q), (1, .int (nI rd)), (2, .int (nI (x + 1)))]) dX2_learnChains_46 ?_
        refine az_goto (tgt := 18) dX2_learnChains_49 ?_
        first | exact ih _ (by omega) rd (x + 1) _ hrd hK rfl (by omega) (by rw [he, az_up_up, show kc_rw f (kc_al f rd) (x + 1) = az_s (kc_rw f (kc_al f rd) x) x (1 + kn_lb f (kc_rw f (kc_al f rd) x) x 6) by rw [kc_rw, kc_st, if_neg c30]]) | exact ih _ (by omega) rd (x + 1) _ hrd hK rfl (by omega) (by rw [he, show kc_rw f (kc_al f rd) (x + 1) = (kc_rw f (kc_al f rd) x) by rw [kc_rw, kc_st, if_pos c30]])
      · refine az_aload_n dX2_learnChains_33 ?_
        refine az_getf (v := .ref (q + 2)) dX2_learnChains_34 fl_X2_15 (by rw [he]; exact az_up_ne h0) ?_
        refine az_iload_n dX2_learnChains_37 ?_
        refine az_iconst (v := nI 1) dX2_learnChains_38 ?_
        refine az_aload_n dX2_learnChains_39 ?_
        refine az_iload_n dX2_learnChains_40 ?_
        refine az_cV0 (st := [.int (nI 1), .int (nI x), .ref (q + 2)]) dX2_learnChains_41 ml_X2_37 (by rw [he]; exact az_up_ne h0) (s_longestBehind (d := d - 1) (by omega) (by rw [he]; exact az_up_ne h0) (by rw [he]; exact az_up_ne h1) (by rw [he]; exact az_up_eq) hf (x := x) (by omega) (kc_rw_le (kc_al_le f rd) x) (by omega) ?_)
        refine az_iaddN dX2_learnChains_44 ?_
        refine az_iastN (j := x) dX2_learnChains_45 (by rw [he]; exact az_up_eq) ?_
        rw [az_s_nI]
        refine az_iincN (n := 1) (ls' := [(0, .ref q), (1, .int (nI rd)), (2, .int (nI (x + 1)))]) dX2_learnChains_46 ?_
        refine az_goto (tgt := 18) dX2_learnChains_49 ?_
        first | exact ih _ (by omega) rd (x + 1) _ hrd hK rfl (by omega) (by rw [he, az_up_up, show kc_rw f (kc_al f rd) (x + 1) = az_s (kc_rw f (kc_al f rd) x) x (1 + kn_lb f (kc_rw f (kc_al f rd) x) x 6) by rw [kc_rw, kc_st, if_neg c30]]) | exact ih _ (by omega) rd (x + 1) _ hrd hK rfl (by omega) (by rw [he, show kc_rw f (kc_al f rd) (x + 1) = (kc_rw f (kc_al f rd) x) by rw [kc_rw, kc_st, if_pos c30]])
  have outer : ∀ (k : Nat) (rd : Nat) (h' : az_Hp), 6 - rd = k → (rd ≤ 6) → (h' = az_up hp (q + 2) (az_I 6 (fun j => nI (kc_al f rd j)))) → az_W mX2_learnChains d 0 0 10 [(0, .ref q), (1, .int (nI rd))] [] h' Q := by
    intro k
    induction k using Nat.strongRecOn with
    | _ k ih =>
    intro rd h' hk hr6 he
    refine az_iload_n dX2_learnChains_10 ?_
    refine az_bipush (v := nI 6) dX2_learnChains_11 ?_
    refine az_icmp_geN (tgt := 58) dX2_learnChains_13 (fun c13 => ?_) (fun c13 => ?_)
    · exact az_vret dX2_learnChains_58 (by rw [he, show rd = 6 by omega]; exact hQ)
    · refine az_iconst (v := nI 0) dX2_learnChains_16 ?_
      refine az_istore_n (ls' := [(0, .ref q), (1, .int (nI rd)), (2, .int (nI 0))]) dX2_learnChains_17 ?_
      refine inner _ rd 0 h' (by omega) ?_ rfl (Nat.zero_le _) he
      intro h' he
      refine az_iincN (n := 1) (ls' := [(0, .ref q), (1, .int (nI (rd + 1))), (2, .int (nI 6))]) dX2_learnChains_52 ?_
      refine az_goto (tgt := 10) dX2_learnChains_55 ?_
      refine az_W.keep (ls' := [(0, .ref q), (1, .int (nI (rd + 1)))]) [0, 1] rfl ?_
      exact ih _ (by omega) (rd + 1) h' rfl (by omega) he
  refine az_M.of rfl (Nat.le_of_ble_eq_true rfl) ?_
  show az_W _ _ _ _ 0 [(0, .ref q)] [] _ _
  refine az_aload_n dX2_learnChains_0 ?_
  refine az_getf (v := .ref (q + 2)) dX2_learnChains_1 fl_X2_15 h0 ?_
  refine az_iconst (v := nI 0) dX2_learnChains_4 ?_
  refine az_cS0 (st := []) dX2_learnChains_5 ml_X2_31 (s_fillI (d := d - 1) (by decide) h2 ?_)
  refine az_iconst (v := nI 0) dX2_learnChains_8 ?_
  refine az_istore_n (ls' := [(0, .ref q), (1, .int (nI 0))]) dX2_learnChains_9 ?_
  exact outer _ 0 _ rfl (Nat.zero_le _) rfl
