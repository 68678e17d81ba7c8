/-! Futures: all rows' spans, rows of nothing -/
def fu_ai (w : ln_W) (c : Nat → Nat) : Nat → (Nat → Nat)
  | 0 => c
  | i + 1 => fun y => sm (fun tb => fu_n w tb (fu_ai w c i) y) (ln_tb w)
theorem fu_ai_le {w : ln_W} (hw : ln_ok w) (c : Nat → Nat) (i : Nat) : fu_l (fu_ai w c i) ≤ fu_l c * 12 ^ i := by
  induction i with
  | zero => rw [Nat.pow_zero, Nat.mul_one]; exact Nat.le_refl _
  | succ i ih =>
    have h1 : fu_l (fu_ai w c (i + 1)) = sm (fun tb => fu_l (fu_n w tb (fu_ai w c i))) (ln_tb w) := by
      unfold fu_l
      rw [fu_ai, sm_swap (fun tb y => fu_n w tb (fu_ai w c i) y)]
    have h2 : fu_l (fu_ai w c (i + 1)) ≤ ln_tb w * (4 * fu_l (fu_ai w c i)) := by
      rw [h1]
      exact sm_le (fun tb => by rw [fu_b_is hw]; exact fu_b_le hw tb _) _
    have h3 : ln_tb w * (4 * fu_l (fu_ai w c i)) ≤ 3 * (4 * fu_l (fu_ai w c i)) := Nat.mul_le_mul_right _ hw.2.1
    rw [Nat.pow_succ]
    have h4 : fu_l c * (12 ^ i * 12) = 12 * (fu_l c * 12 ^ i) := by rw [← Nat.mul_assoc, Nat.mul_comm]
    omega
theorem fu_ai_lt {w : ln_W} {bs : List Nat} (hw : ln_ok w) (hb : ln_by w bs) {i : Nat} (hi : i ≤ 6) : fu_l (fu_ai w (fun x => (ln_str w bs).count x) i) < 2 ^ 63 := by
  have h1 := fu_ai_le hw (fun x => (ln_str w bs).count x) i
  rw [fu_str hw] at h1
  have h2 : 12 ^ i ≤ 12 ^ 6 := Nat.pow_le_pow_right (by decide) hi
  exact Nat.lt_of_le_of_lt (Nat.le_trans h1 (Nat.mul_le_mul hb.2.2 h2)) (by decide)
set_option maxHeartbeats 4000000 in
set_option maxRecDepth 100000 in
theorem s_spanOfAllRows {d u a t wn wx mo ni n : Nat} {w : ln_W} {bs : List Nat} {t0 tl : Value} {f : Nat → Int64} {hp : az_Hp} {Q : Option Value → az_Hp → Prop} (hd : 12 ≤ d) (hw : ln_ok w) (hb : ln_by w bs) (hT : ln_To hp t w u (u + 4)) (hS : ln_Scene hp a t w mo ni bs) (hua : u + 4 ≤ a ∨ a + 8 ≤ u) (hn : n ≤ 6) (h0 : hp.2 u = some (az_O 1 [t0, .ref (u + 1), .ref (u + 2), .ref (u + 3), .ref (u + 4), tl, .ref wn, .ref wx])) (h1 : hp.2 (u + 1) = some (az_J 54 f)) (hQ : ∀ (h' : az_Hp) (f' : Nat → Int64), h'.2 u = some (az_O 1 [.ref t, .ref (u + 1), .ref (u + 2), .ref (u + 3), .ref (u + 4), tl, .ref wn, .ref wx]) → h'.2 (u + 1) = some (az_J 54 f') → az_fr hp h' u (u + 2) → Q (some (.long (lN (fu_l (fu_ai w (fun x => (ln_str w bs).count x) n))))) h') : az_M mX1_spanOfAllRows d 0 0 [.ref u, .ref a, .int (nI n)] hp Q := by
  have htb := hw.2.1
  have inner : ∀ (k : Nat) (i tb : Nat) (f' : Nat → Int64) (h' : az_Hp) (hi9 : i < n) (hK : ∀ (f' : Nat → Int64) (h' : az_Hp), h'.2 u = some (az_O 1 [.ref t, .ref (u + 1), .ref (u + 2), .ref (u + 3), .ref (u + 4), tl, .ref wn, .ref wx]) → h'.2 (u + 1) = some (az_J 54 f') → (∀ x, x < 6 → f' ((i + 1) * 6 + x) = lN (fu_ai w (fun x => (ln_str w bs).count x) (i + 1) x)) → az_fr hp h' u (u + 2) → az_W mX1_spanOfAllRows d 0 0 58 [(0, .ref u), (1, .ref a), (2, .int (nI n)), (3, .int (nI n)), (4, .int (nI i)), (5, .int (nI (ln_tb w)))] [] h' Q), ln_tb w - tb = k → (tb ≤ ln_tb w) → (h'.2 u = some (az_O 1 [.ref t, .ref (u + 1), .ref (u + 2), .ref (u + 3), .ref (u + 4), tl, .ref wn, .ref wx])) → (h'.2 (u + 1) = some (az_J 54 f')) → (∀ x, x < 6 → f' (i * 6 + x) = lN (fu_ai w (fun x => (ln_str w bs).count x) i x)) → (∀ x, x < 6 → f' (i * 6 + 6 + x) = lN (sm (fun tb => fu_n w tb (fu_ai w (fun x => (ln_str w bs).count x) i) x) tb)) → (az_fr hp h' u (u + 2)) → az_W mX1_spanOfAllRows d 0 0 32 [(0, .ref u), (1, .ref a), (2, .int (nI n)), (3, .int (nI n)), (4, .int (nI i)), (5, .int (nI tb))] [] h' Q := by
    intro k
    induction k using Nat.strongRecOn with
    | _ k ih =>
    intro i tb f' h' hi9 hK hk htl e0 e1 hc hce hfr
    have hT' : ln_To h' t w u (u + 4) := hT.fr (hfr.wide (lo' := u) (hi' := u + 4))
    obtain ⟨a4', a5', hT0', -⟩ := id hT'
    refine az_iload dX1_spanOfAllRows_32 ?_
    refine az_aload_n dX1_spanOfAllRows_34 ?_
    refine az_getf (v := .ref t) dX1_spanOfAllRows_35 fl_X1_35 e0 ?_
    refine az_getf (v := .int (nI (ln_tb w))) dX1_spanOfAllRows_38 fl_X1_83 hT0' ?_
    refine az_icmp_geN (tgt := 58) dX1_spanOfAllRows_41 (fun c41 => ?_) (fun c41 => ?_)
    · obtain rfl : tb = ln_tb w := by omega
      exact hK f' h' e0 e1 (fun x q => (by rw [show (i + 1) * 6 + x = i * 6 + 6 + x by omega]; exact hce x q)) hfr
    · refine az_aload_n dX1_spanOfAllRows_44 ?_
      refine az_iload dX1_spanOfAllRows_45 ?_
      refine az_iload dX1_spanOfAllRows_47 ?_
      refine az_cV0 (st := []) dX1_spanOfAllRows_49 ml_X1_67 e0 (s_addNight (d := d - 1) hw hT' e0 e1 (dp := i) (by omega) (tb := tb) (by omega) (c := fu_ai w (fun x => (ln_str w bs).count x) i) hc (fu_c_lt (fu_ai_lt hw hb (by omega))) (e := fun y => sm (fun tb => fu_n w tb (fu_ai w (fun x => (ln_str w bs).count x) i) y) tb) hce ?_)
      intro g q1 q2
      refine az_iincN (n := 1) (ls' := [(0, .ref u), (1, .ref a), (2, .int (nI n)), (3, .int (nI n)), (4, .int (nI i)), (5, .int (nI (tb + 1)))]) dX1_spanOfAllRows_52 ?_
      refine az_goto (tgt := 32) dX1_spanOfAllRows_55 ?_
      exact ih _ (by omega) i (tb + 1) g _ hi9 hK rfl (by omega) (az_up_ne e0) az_up_eq (fun x q => (by rw [q1 _ (by omega)]; exact hc x q)) (fun x q => q2 x q) hfr.up
  have outer : ∀ (k : Nat) (i : Nat) (f' : Nat → Int64) (h' : az_Hp), n - i = k → (i ≤ n) → (h'.2 u = some (az_O 1 [.ref t, .ref (u + 1), .ref (u + 2), .ref (u + 3), .ref (u + 4), tl, .ref wn, .ref wx])) → (h'.2 (u + 1) = some (az_J 54 f')) → (∀ x, x < 6 → f' (i * 6 + x) = lN (fu_ai w (fun x => (ln_str w bs).count x) i x)) → (az_fr hp h' u (u + 2)) → az_W mX1_spanOfAllRows d 0 0 15 [(0, .ref u), (1, .ref a), (2, .int (nI n)), (3, .int (nI n)), (4, .int (nI i))] [] h' Q := by
    intro k
    induction k using Nat.strongRecOn with
    | _ k ih =>
    intro i f' h' hk hin e0 e1 hc hfr
    have hT' : ln_To h' t w u (u + 4) := hT.fr (hfr.wide (lo' := u) (hi' := u + 4))
    obtain ⟨a4', a5', hT0', -⟩ := id hT'
    refine az_iload dX1_spanOfAllRows_15 ?_
    refine az_iload_n dX1_spanOfAllRows_17 ?_
    refine az_icmp_geN (tgt := 64) dX1_spanOfAllRows_18 (fun c18 => ?_) (fun c18 => ?_)
    · refine az_aload_n dX1_spanOfAllRows_64 ?_
      refine az_iload_n dX1_spanOfAllRows_65 ?_
      refine az_cV0 (st := []) dX1_spanOfAllRows_66 ml_X1_79 e0 (s_spanAt (d := d - 1) e0 e1 (dp := n) (by omega) (c := fu_ai w (fun x => (ln_str w bs).count x) n) (by rw [show n = i by omega]; exact hc) ?_)
      exact az_lret dX1_spanOfAllRows_69 (hQ h' f' e0 e1 hfr)
    · refine az_aload_n dX1_spanOfAllRows_21 ?_
      refine az_iload dX1_spanOfAllRows_22 ?_
      refine az_iconst (v := nI 1) dX1_spanOfAllRows_24 ?_
      refine az_iaddN dX1_spanOfAllRows_25 ?_
      refine az_cV0 (st := []) dX1_spanOfAllRows_26 ml_X1_63 e0 (s_clearF (d := d - 1) (by omega) e0 e1 (dp := i + 1) (by omega) ?_)
      intro g q1 q2
      refine az_iconst (v := nI 0) dX1_spanOfAllRows_29 ?_
      refine az_istore (ls' := [(0, .ref u), (1, .ref a), (2, .int (nI n)), (3, .int (nI n)), (4, .int (nI i)), (5, .int (nI 0))]) dX1_spanOfAllRows_30 ?_
      refine inner _ i 0 g _ (by omega) ?_ rfl (Nat.zero_le _) (az_up_ne e0) az_up_eq (fun x q => (by rw [q1 _ (by omega)]; exact hc x q)) (fun x q => (by rw [q2 _ (by omega) (by omega)]; rfl)) hfr.up
      intro f' h' e0 e1 hc hfr
      have hT' : ln_To h' t w u (u + 4) := hT.fr (hfr.wide (lo' := u) (hi' := u + 4))
      obtain ⟨a4', a5', hT0', -⟩ := id hT'
      refine az_iincN (n := 1) (ls' := [(0, .ref u), (1, .ref a), (2, .int (nI n)), (3, .int (nI n)), (4, .int (nI (i + 1))), (5, .int (nI (ln_tb w)))]) dX1_spanOfAllRows_58 ?_
      refine az_goto (tgt := 15) dX1_spanOfAllRows_61 ?_
      refine az_W.keep (ls' := [(0, .ref u), (1, .ref a), (2, .int (nI n)), (3, .int (nI n)), (4, .int (nI (i + 1)))]) [0, 1, 2, 3, 4] rfl ?_
      exact ih _ (by omega) (i + 1) f' h' rfl (by omega) e0 e1 hc hfr
  refine az_M.of rfl (Nat.le_of_ble_eq_true rfl) ?_
  show az_W _ _ _ _ 0 [(0, .ref u), (1, .ref a), (2, .int (nI n))] [] _ _
  refine az_aload_n dX1_spanOfAllRows_0 ?_
  refine az_aload_n dX1_spanOfAllRows_1 ?_
  refine az_cV0 (st := []) dX1_spanOfAllRows_2 ml_X1_71 h0 (s_beginF (d := d - 1) (by omega) hS hua h0 h1 ?_)
  intro g hg
  refine az_iload_n dX1_spanOfAllRows_5 ?_
  refine az_bipush (v := nI 8) dX1_spanOfAllRows_6 ?_
  refine az_mminN dX1_spanOfAllRows_8 ml_X1_150 ?_
  rw [show min n 8 = n by omega]
  refine az_istore_n (ls' := [(0, .ref u), (1, .ref a), (2, .int (nI n)), (3, .int (nI n))]) dX1_spanOfAllRows_11 ?_
  refine az_iconst (v := nI 0) dX1_spanOfAllRows_12 ?_
  refine az_istore (ls' := [(0, .ref u), (1, .ref a), (2, .int (nI n)), (3, .int (nI n)), (4, .int (nI 0))]) dX1_spanOfAllRows_13 ?_
  exact outer _ 0 g _ rfl (Nat.zero_le _) (az_up_ne az_up_eq) az_up_eq hg az_fr.rf.up.up
