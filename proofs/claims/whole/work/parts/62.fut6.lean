/-! Futures: rows of nothing -/
def fu_ws (w : ln_W) (ks v j k : Nat) : Nat := sm (fun tb => if ln_ca w tb ks 6 = j then v else 0) k
theorem fu_ws_0 (w : ln_W) (ks j k : Nat) : fu_ws w ks 0 j k = 0 := by
  rw [fu_ws, show (fun tb => if ln_ca w tb ks 6 = j then 0 else 0) = fun _ => 0 from funext (fun tb => by split <;> rfl)]
  exact sm_zero k
theorem fu_ws_s (w : ln_W) (ks v j k : Nat) : fu_ws w ks v j (k + 1) = fu_ws w ks v j k + (if ln_ca w k ks 6 = j then v else 0) := rfl
/-- in how many rows of i tables these kinds stand in the end -/
def fu_wy (w : ln_W) (s0 : Nat) : Nat → Nat → Nat
  | 0, j => if j = s0 then 1 else 0
  | i + 1, j => sm (fun ks => fu_ws w ks (fu_wy w s0 i ks) j (ln_tb w)) 64
theorem sm_ind {c v k : Nat} (h : c < k) : sm (fun j => if c = j then v else 0) k = v := by
  have h1 := sm_one (fun _ => v) c k h
  refine Eq.trans (sm_congr (fun j _ => ?_)) h1
  by_cases e : c = j
  · rw [if_pos e, if_pos e.symm, Nat.one_mul]
  · rw [if_neg e, if_neg (fun q => e q.symm), Nat.zero_mul]
theorem sm_const (v k : Nat) : sm (fun _ => v) k = k * v := by
  induction k with
  | zero => rw [Nat.zero_mul]; rfl
  | succ k ih => rw [sm, ih, Nat.succ_mul]
theorem fu_wy_sum {w : ln_W} (hw : ln_ok w) {s0 : Nat} (h : s0 < 64) (i : Nat) : sm (fu_wy w s0 i) 64 = ln_tb w ^ i := by
  induction i with
  | zero =>
    have h1 := sm_ind (v := 1) h
    rw [Nat.pow_zero, ← h1]
    refine sm_congr (fun j _ => ?_)
    rw [fu_wy]
    by_cases e : j = s0
    · rw [if_pos e, if_pos e.symm]
    · rw [if_neg e, if_neg (fun q => e q.symm)]
  | succ i ih =>
    have h1 : sm (fu_wy w s0 (i + 1)) 64 = sm (fun ks => sm (fun j => fu_ws w ks (fu_wy w s0 i ks) j (ln_tb w)) 64) 64 := sm_swap (fun ks j => fu_ws w ks (fu_wy w s0 i ks) j (ln_tb w)) 64 64
    have h2 : ∀ ks, sm (fun j => fu_ws w ks (fu_wy w s0 i ks) j (ln_tb w)) 64 = ln_tb w * fu_wy w s0 i ks := by
      intro ks
      have h3 := sm_swap (fun tb j => if ln_ca w tb ks 6 = j then fu_wy w s0 i ks else 0) (ln_tb w) 64
      unfold fu_ws
      rw [h3, ← sm_const]
      exact sm_congr (fun tb _ => sm_ind (ln_ca_lt hw tb ks 6))
    rw [h1, sm_congr (fun ks _ => h2 ks), sm_mul, ih, Nat.pow_succ, Nat.mul_comm]
theorem fu_wy_le {w : ln_W} (hw : ln_ok w) {s0 : Nat} (h : s0 < 64) {i j : Nat} (hj : j < 64) (hi : i ≤ 12) : fu_wy w s0 i j < 2 ^ 31 := by
  have h1 := sm_ge (c := fu_wy w s0 i) hj
  rw [fu_wy_sum hw h] at h1
  have h2 : ln_tb w ^ i ≤ 3 ^ i := Nat.pow_le_pow_left hw.2.1 i
  have h3 : 3 ^ i ≤ 3 ^ 12 := Nat.pow_le_pow_right (by decide) hi
  exact Nat.lt_of_le_of_lt (Nat.le_trans h1 (Nat.le_trans h2 h3)) (by decide)
set_option maxHeartbeats 4000000 in
set_option maxRecDepth 100000 in
theorem s_spreadWays {d u t wn wx ks v : Nat} {w : ln_W} {t0 tl : Value} {e : Nat → Nat} {f g0 : Nat → Int32} {hp : az_Hp} {Q : Option Value → az_Hp → Prop} (hd : 3 ≤ d) (hw : ln_ok w) (hT : ln_To hp t w wx (wx + 1)) (hux : u ≠ wx) (hnx : wn ≠ wx) (h0 : hp.2 u = some (az_O 1 [t0, .ref (u + 1), .ref (u + 2), .ref (u + 3), .ref (u + 4), tl, .ref wn, .ref wx])) (h1 : hp.2 wn = some (az_I 64 f)) (h2 : hp.2 wx = some (az_I 64 g0)) (hks : ks < 64) (hf : f ks = nI v) (hg0 : ∀ j, j < 64 → g0 j = nI (e j)) (hQ : ∀ g, (∀ j, j < 64 → g j = nI (e j + fu_ws w ks v j (ln_tb w))) → Q none (az_up hp wx (az_I 64 g))) : az_M mX1_spreadWays d 0 0 [.ref u, .ref t, .int (nI ks)] hp Q := by
  have htb := hw.2.1
  have loop : ∀ (k : Nat) (tb : Nat) (g : Nat → Int32) (h' : az_Hp), ln_tb w - tb = k → (tb ≤ ln_tb w) → (∀ y, y < 64 → g y = nI (e y + fu_ws w ks v y tb)) → (h' = az_up hp wx (az_I 64 g)) → az_W mX1_spreadWays d 0 0 2 [(0, .ref u), (1, .ref t), (2, .int (nI ks)), (3, .int (nI tb))] [] h' Q := by
    intro k
    induction k using Nat.strongRecOn with
    | _ k ih =>
    intro tb g h' hk htl hg he
    have hT' : ln_Town h' t w := (hT.fr (by rw [he]; exact az_fr.rf.up)).town
    obtain ⟨a4', a5', hT0', -⟩ := id hT'
    refine az_iload_n dX1_spreadWays_2 ?_
    refine az_aload_n dX1_spreadWays_3 ?_
    refine az_getf (v := .int (nI (ln_tb w))) dX1_spreadWays_4 fl_X1_83 hT0' ?_
    refine az_icmp_geN (tgt := 36) dX1_spreadWays_7 (fun c7 => ?_) (fun c7 => ?_)
    · exact az_vret dX1_spreadWays_36 (by rw [he]; exact hQ g (fun y q => (by rw [hg y q, show tb = ln_tb w by omega])))
    · refine az_aload_n dX1_spreadWays_10 ?_
      refine az_getf (v := .ref wx) dX1_spreadWays_11 fl_X1_32 (by rw [he]; exact az_up_ne h0) ?_
      refine az_aload_n dX1_spreadWays_14 ?_
      refine az_iload_n dX1_spreadWays_15 ?_
      refine az_iload_n dX1_spreadWays_16 ?_
      refine az_cV0 (st := [.ref wx]) dX1_spreadWays_17 ml_X1_146 hT0' (s_childBitsOfAll (d := d - 1) (by omega) hw hT' (tb := tb) (by omega) hks ?_)
      have hca := ln_ca_lt hw tb ks 6
      refine az_dup2_11 dX1_spreadWays_20 ?_
      refine az_ialdN (j := ln_ca w tb ks 6) dX1_spreadWays_21 (by rw [he]; exact az_up_eq) ?_
      rw [hg _ hca]
      refine az_aload_n dX1_spreadWays_22 ?_
      refine az_getf (v := .ref wn) dX1_spreadWays_23 fl_X1_29 (by rw [he]; exact az_up_ne h0) ?_
      refine az_iload_n dX1_spreadWays_26 ?_
      refine az_ialdN (j := ks) dX1_spreadWays_27 (by rw [he]; exact az_up_ne h1) ?_
      rw [hf]
      refine az_iaddN dX1_spreadWays_28 ?_
      refine az_iastN (j := ln_ca w tb ks 6) dX1_spreadWays_29 (by rw [he]; exact az_up_eq) ?_
      refine az_iincN (n := 1) (ls' := [(0, .ref u), (1, .ref t), (2, .int (nI ks)), (3, .int (nI (tb + 1)))]) dX1_spreadWays_30 ?_
      refine az_goto (tgt := 2) dX1_spreadWays_33 ?_
      exact ih _ (by omega) (tb + 1) (az_s g (ln_ca w tb ks 6) (nI (e (ln_ca w tb ks 6) + fu_ws w ks v (ln_ca w tb ks 6) tb + v))) _ rfl (by omega) (fun y q => if e9 : y = ln_ca w tb ks 6 then (by rw [e9, az_s_eq, fu_ws_s, if_pos rfl, Nat.add_assoc]) else (by rw [az_s_ne e9, hg y q, fu_ws_s, if_neg (fun q => e9 q.symm)]; rfl)) (by rw [he, az_up_up])
  refine az_M.of rfl (Nat.le_of_ble_eq_true rfl) ?_
  show az_W _ _ _ _ 0 [(0, .ref u), (1, .ref t), (2, .int (nI ks))] [] _ _
  refine az_iconst (v := nI 0) dX1_spreadWays_0 ?_
  refine az_istore_n (ls' := [(0, .ref u), (1, .ref t), (2, .int (nI ks)), (3, .int (nI 0))]) dX1_spreadWays_1 ?_
  exact loop _ 0 g0 _ rfl (Nat.zero_le _) (fun y q => hg0 y q) (az_up_same h2).symm
