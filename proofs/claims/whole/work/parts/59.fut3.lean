/-! Futures: begin, soonestRow, rows -/
set_option maxRecDepth 100000 in
theorem s_beginF {d u a t wn wx mo ni : Nat} {w : ln_W} {bs : List Nat} {t0 tl : Value} {f : Nat → Int64} {hp : az_Hp} {Q : Option Value → az_Hp → Prop} (hd : 1 ≤ d) (hS : ln_Scene hp a t w mo ni bs) (hua : u + 4 ≤ a ∨ a + 8 ≤ u) (h0 : hp.2 u = some (az_O 1 [t0, .ref (u + 1), .ref (u + 2), .ref (u + 3), .ref (u + 4), tl, .ref wn, .ref wx])) (h1 : hp.2 (u + 1) = some (az_J 54 f)) (hQ : ∀ g, (∀ x, x < 6 → g (0 * 6 + x) = lN ((ln_str w bs).count x)) → Q none (az_up (az_up hp u (az_O 1 [.ref t, .ref (u + 1), .ref (u + 2), .ref (u + 3), .ref (u + 4), tl, .ref wn, .ref wx])) (u + 1) (az_J 54 g))) : az_M mX1_begin d 0 0 [.ref u, .ref a] hp Q := by
  obtain ⟨hi, fr, la, no, wa, nc, g0, g1, -⟩ := id hS
  refine az_M.of rfl (Nat.le_of_ble_eq_true rfl) ?_
  show az_W _ _ _ _ 0 [(0, .ref u), (1, .ref a)] [] _ _
  refine az_aload_n dX1_begin_0 ?_
  refine az_aload_n dX1_begin_1 ?_
  refine az_getf (v := .ref t) dX1_begin_2 fl_X1_39 g0 ?_
  refine az_putf (fs' := [.ref t, .ref (u + 1), .ref (u + 2), .ref (u + 3), .ref (u + 4), tl, .ref wn, .ref wx]) dX1_begin_5 fl_X1_35 h0 ?_
  refine az_aload_n dX1_begin_8 ?_
  refine az_getf (v := .ref (a + 1)) dX1_begin_9 fl_X1_42 (az_up_ne g0) ?_
  refine az_iconst (v := nI 0) dX1_begin_12 ?_
  refine az_aload_n dX1_begin_13 ?_
  refine az_getf (v := .ref (u + 1)) dX1_begin_14 fl_X1_11 az_up_eq ?_
  refine az_iconst (v := nI 0) dX1_begin_17 ?_
  refine az_bipush (v := nI 6) dX1_begin_18 ?_
  refine az_copyl dX1_begin_20 al_X1_43 (az_up_ne g1) (az_up_ne h1) ix0 ix0 ix6 (by decide) (by decide) ?_
  exact az_vret dX1_begin_23 (hQ _ (fun x q => (by rw [show 0 * 6 + x = x by omega]; exact cpy6 (f := fun x => lN ((ln_str w bs).count x)) q)))
theorem fu_f1_len {F : Nat → Option (List Nat)} {k : Nat} (h : ∀ tb l, F tb = some l → l.length = k) {j : Nat} : ∀ {tb : Nat} {l : List Nat}, fu_f1 F tb j = some l → l.length = k + 1 := by
  induction j with
  | zero => intro tb l hl; exact absurd hl (by rw [fu_f1]; exact fun q => nomatch q)
  | succ j ih =>
    intro tb l hl
    rw [fu_f1] at hl
    cases e : F tb with
    | none => rw [e] at hl; exact ih hl
    | some l9 =>
      rw [e] at hl
      rw [← Option.some.inj hl, List.length_cons, h tb l9 e]
theorem fu_find_len {w : ln_W} {n k : Nat} : ∀ {c : Nat → Nat} {l : List Nat}, fu_find w n k c = some l → l.length = k := by
  induction k with
  | zero =>
    intro c l h
    rw [fu_find] at h
    split at h
    · rw [← Option.some.inj h]; rfl
    · exact nomatch h
  | succ k ih => intro c l h; exact fu_f1_len (fun tb l9 h9 => ih h9) h
/-- the first row at all, of k tables or more, j lengths tried -/
def fu_sn (w : ln_W) (n : Nat) (c : Nat → Nat) : Nat → Nat → Option (List Nat)
  | _, 0 => none
  | k, j + 1 => match fu_find w n k c with
    | some l => some l
    | none => fu_sn w n c (k + 1) j
theorem fu_sn_some {w : ln_W} {n k j : Nat} {c : Nat → Nat} {l : List Nat} (h : fu_find w n k c = some l) (hj : 0 < j) : fu_sn w n c k j = some l := by
  obtain ⟨m, rfl⟩ : ∃ m, j = m + 1 := ⟨j - 1, by omega⟩
  rw [fu_sn, h]
theorem fu_sn_none {w : ln_W} {n k j : Nat} {c : Nat → Nat} (h : fu_find w n k c = none) (hj : 0 < j) : fu_sn w n c k j = fu_sn w n c (k + 1) (j - 1) := by
  obtain ⟨m, rfl⟩ : ∃ m, j = m + 1 := ⟨j - 1, by omega⟩
  rw [fu_sn, h]
  rfl
theorem str_cap {w : ln_W} {bs : List Nat} (hw : ln_ok w) (hb : ln_by w bs) {k : Nat} (hk : k ≤ 9) : fu_l (fun x => (ln_str w bs).count x) * 4 ^ k < 2 ^ 62 := by
  rw [fu_str hw]
  have h1 := hb.2.2
  have h2 : 4 ^ k ≤ 4 ^ 9 := Nat.pow_le_pow_right (by decide) hk
  exact Nat.lt_of_le_of_lt (Nat.mul_le_mul h1 h2) (by decide)
theorem some01 {α : Type} {o : Option α} (h : ¬ (if o.isSome then 1 else 0) = 0) : ∃ l, o = some l := by
  cases o with
  | some l => exact ⟨l, rfl⟩
  | none => exact absurd rfl h
theorem none01 {α : Type} {o : Option α} (h : (if o.isSome then 1 else 0) = 0) : o = none := by
  cases o with
  | some l => exact absurd (show (1 : Nat) = 0 from h) (by decide)
  | none => rfl
theorem s_findRowA {w : ln_W} (hw : ln_ok w) {u t wn wx n : Nat} {tl : Value} (hn : n < 2 ^ 63) (k : Nat) {d : Nat} {c : Nat → Nat} {f : Nat → Int64} {r : Nat → Int32} {hp : az_Hp} {Q : Option Value → az_Hp → Prop} (hd : k + 4 ≤ d) (hT : ln_To hp t w u (u + 4)) (h0 : hp.2 u = some (az_O 1 [.ref t, .ref (u + 1), .ref (u + 2), .ref (u + 3), .ref (u + 4), tl, .ref wn, .ref wx])) (h1 : hp.2 (u + 1) = some (az_J 54 f)) (h2 : hp.2 (u + 2) = some (az_I 8 r)) (hdp : k ≤ 7) (hc : ∀ x, x < 6 → f (0 * 6 + x) = lN (c x)) (hb : fu_l c * 4 ^ k < 2 ^ 62) (hQ : ∀ (h' : az_Hp) (f' : Nat → Int64) (r' : Nat → Int32), h'.2 (u + 1) = some (az_J 54 f') → (∀ j, j < 6 → f' j = f j) → h'.2 (u + 2) = some (az_I 8 r') → (∀ l, fu_find w n k c = some l → ∀ i, i < l.length → r' i = nI (l.getD i 0)) → az_fr hp h' (u + 1) (u + 3) → Q (some (.int (nI (if (fu_find w n k c).isSome then 1 else 0)))) h') : az_M mX1_findRow d 0 0 [.ref u, .long (lN n), .int (nI k), .int (nI 0)] hp Q := by
  have := s_findRow hw hn k (d := d) (dp := 0) (Q := Q) hd hT h0 h1 h2 (by omega) hc hb (fun h' f' r' q1 q2 q3 _ q5 q6 => hQ h' f' r' q1 (fun j q => q2 j (by omega)) q3 (fun l hl i hi => (by have := q5 l hl i hi; rw [Nat.zero_add] at this; exact this)) q6)
  rw [Nat.zero_add] at this
  exact this
set_option maxHeartbeats 4000000 in
set_option maxRecDepth 100000 in
theorem s_soonestRow {d u a t wn wx mo ni n : Nat} {w : ln_W} {bs : List Nat} {t0 tl : Value} {f : Nat → Int64} {r : Nat → Int32} {hp : az_Hp} {Q : Option Value → az_Hp → Prop} (hd : 12 ≤ d) (hw : ln_ok w) (hb : ln_by w bs) (hT : ln_To hp t w u (u + 4)) (hS : ln_Scene hp a t w mo ni bs) (hua : u + 4 ≤ a ∨ a + 8 ≤ u) (hn : n < 2 ^ 63) (h0 : hp.2 u = some (az_O 1 [t0, .ref (u + 1), .ref (u + 2), .ref (u + 3), .ref (u + 4), tl, .ref wn, .ref wx])) (h1 : hp.2 (u + 1) = some (az_J 54 f)) (h2 : hp.2 (u + 2) = some (az_I 8 r)) (hQ : ∀ (h' : az_Hp) (f' : Nat → Int64) (r' : Nat → Int32), h'.2 u = some (az_O 1 [.ref t, .ref (u + 1), .ref (u + 2), .ref (u + 3), .ref (u + 4), tl, .ref wn, .ref wx]) → h'.2 (u + 1) = some (az_J 54 f') → h'.2 (u + 2) = some (az_I 8 r') → (∀ l, fu_sn w n (fun x => (ln_str w bs).count x) 0 7 = some l → ∀ i, i < l.length → r' i = nI (l.getD i 0)) → az_fr hp h' u (u + 3) → Q (some (.int (ln_opt ((fu_sn w n (fun x => (ln_str w bs).count x) 0 7).map List.length)))) h') : az_M mX1_soonestRow d 0 0 [.ref u, .ref a, .long (lN n)] hp Q := by
  have loop : ∀ (k : Nat) (kn : Nat) (f' : Nat → Int64) (r' : Nat → Int32) (h' : az_Hp), 7 - kn = k → (kn ≤ 7) → (fu_sn w n (fun x => (ln_str w bs).count x) 0 7 = fu_sn w n (fun x => (ln_str w bs).count x) kn (7 - kn)) → (h'.2 u = some (az_O 1 [.ref t, .ref (u + 1), .ref (u + 2), .ref (u + 3), .ref (u + 4), tl, .ref wn, .ref wx])) → (h'.2 (u + 1) = some (az_J 54 f')) → (∀ x, x < 6 → f' (0 * 6 + x) = lN ((ln_str w bs).count x)) → (h'.2 (u + 2) = some (az_I 8 r')) → (az_fr hp h' u (u + 3)) → az_W mX1_soonestRow d 0 0 8 [(0, .ref u), (1, .ref a), (2, .long (lN n)), (4, .int (nI kn))] [] h' Q := by
    intro k
    induction k using Nat.strongRecOn with
    | _ k ih =>
    intro kn f' r' h' hk hkn hgo e0 e1 hc e2 hfr
    have hT' : ln_To h' t w u (u + 4) := hT.fr hfr.wide
    refine az_iload dX1_soonestRow_8 ?_
    refine az_bipush (v := nI 6) dX1_soonestRow_10 ?_
    refine az_icmp_gtN (tgt := 35) dX1_soonestRow_12 (fun c12 => ?_) (fun c12 => ?_)
    · refine az_iconst (v := (-1)) dX1_soonestRow_35 ?_
      exact az_iret dX1_soonestRow_36 (by rw [show 7 - kn = 0 by omega, fu_sn] at hgo; have h9 := hQ h' f' r' e0 e1 e2 (fun l hl => absurd hl (by rw [hgo]; exact fun q => nomatch q)) hfr; rw [hgo] at h9; exact h9)
    · refine az_aload_n dX1_soonestRow_15 ?_
      refine az_lload_n dX1_soonestRow_16 ?_
      refine az_iload dX1_soonestRow_17 ?_
      refine az_iconst (v := nI 0) dX1_soonestRow_19 ?_
      refine az_cV0 (st := []) dX1_soonestRow_20 ml_X1_75 e0 (s_findRowA hw hn kn (d := d - 1) (by omega) hT' e0 e1 e2 (by omega) (c := (fun x => (ln_str w bs).count x)) hc (str_cap hw hb (by omega)) ?_)
      intro h2' f2 r2 e12 ho2 e22 hl2 fr2
      have hfi : (if (fu_find w n kn (fun x => (ln_str w bs).count x)).isSome then 1 else 0) < 2 := by split <;> omega
      refine az_if_eqN (tgt := 29) dX1_soonestRow_23 (fun c23 => ?_) (fun c23 => ?_)
      · refine az_iincN (n := 1) (ls' := [(0, .ref u), (1, .ref a), (2, .long (lN n)), (4, .int (nI (kn + 1)))]) dX1_soonestRow_29 ?_
        refine az_goto (tgt := 8) dX1_soonestRow_32 ?_
        (have hF := none01 c23); exact ih _ (by omega) (kn + 1) f2 r2 h2' rfl (by omega) (by rw [hgo, fu_sn_none hF (by omega), show 7 - kn - 1 = 7 - (kn + 1) by omega]) (fr2.at e0) e12 (fun x q => (by rw [ho2 _ (by omega)]; exact hc x q)) e22 (hfr.tr (fr2.wide))
      · refine az_iload dX1_soonestRow_26 ?_
        exact az_iret dX1_soonestRow_28 (by obtain ⟨l9, hl9⟩ := some01 c23; rw [fu_sn_some hl9 (by omega)] at hgo; have h9 := hQ h2' f2 r2 (fr2.at e0) e12 e22 (fun l hl i hi => (by rw [hgo] at hl; rw [← Option.some.inj hl] at hi ⊢; exact hl2 l9 hl9 i hi)) (hfr.tr fr2.wide); rw [hgo] at h9; rw [show nI kn = ln_opt ((some l9).map List.length) by (show nI kn = nI l9.length; rw [fu_find_len hl9])]; exact h9)
  refine az_M.of rfl (Nat.le_of_ble_eq_true rfl) ?_
  show az_W _ _ _ _ 0 [(0, .ref u), (1, .ref a), (2, .long (lN n))] [] _ _
  refine az_aload_n dX1_soonestRow_0 ?_
  refine az_aload_n dX1_soonestRow_1 ?_
  refine az_cV0 (st := []) dX1_soonestRow_2 ml_X1_71 h0 (s_beginF (d := d - 1) (by omega) hS hua h0 h1 ?_)
  intro g hg
  refine az_iconst (v := nI 0) dX1_soonestRow_5 ?_
  refine az_istore (ls' := [(0, .ref u), (1, .ref a), (2, .long (lN n)), (4, .int (nI 0))]) dX1_soonestRow_6 ?_
  exact loop _ 0 g r _ rfl (by omega) rfl (az_up_ne az_up_eq) az_up_eq hg (az_up_ne (az_up_ne h2)) az_fr.rf.up.up
