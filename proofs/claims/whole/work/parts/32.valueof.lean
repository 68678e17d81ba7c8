/-! Law.valueOf: a row of words, reckoned -/
def lw_st (en : Nat → Int32) (s : List Int32) (c : Nat) : List Int32 :=
  if c < 1005 then (if c < 1000 then nI c else en (c - 1000)) :: s
  else if c = 3006 then (match s with | x :: r => (nI 1 - x) :: r | r => r)
  else if c = 3009 then (match s with | e :: t :: q :: r => (if q = 0 then e else t) :: r | r => r)
  else match s with | b :: a :: r => lw_bin c a b :: r | r => r
def lw_ev (en : Nat → Int32) (k : List Nat) : List Int32 := k.foldl (lw_st en) []
/-- kinds of what waits: true a truth, false a number; at most 64 wait -/
def lw_ty (s : Option (List Bool)) (c : Nat) : Option (List Bool) := match s with
  | none => none
  | some s => if c < 1005 then (if s.length < 64 then some (false :: s) else none)
    else if c = 3006 then (match s with | true :: r => some (true :: r) | _ => none)
    else if c = 3009 then (match s with | false :: false :: true :: r => some (false :: r) | _ => none)
    else if c = 3000 ∨ c = 3001 ∨ c = 3002 then (match s with | false :: false :: r => some (false :: r) | _ => none)
    else if c = 3003 ∨ c = 3004 ∨ c = 3005 then (match s with | false :: false :: r => some (true :: r) | _ => none)
    else if c = 3007 ∨ c = 3008 then (match s with | true :: true :: r => some (true :: r) | _ => none)
    else none
def lw_wf (k : List Nat) : Option (List Bool) := k.foldl lw_ty (some [])
theorem lw_ev_snoc (en : Nat → Int32) {k : List Nat} {i : Nat} (h : i < k.length) : lw_ev en (k.take (i + 1)) = lw_st en (lw_ev en (k.take i)) (k.getD i 0) := by
  rw [take_getD h]; simp [lw_ev]
theorem lw_wf_snoc {k : List Nat} {i : Nat} (h : i < k.length) : lw_wf (k.take (i + 1)) = lw_ty (lw_wf (k.take i)) (k.getD i 0) := by
  rw [take_getD h]; simp [lw_wf]
theorem lw_ty_none (k : List Nat) : k.foldl lw_ty none = none := by
  induction k with
  | nil => rfl
  | cons c k ih => exact ih
theorem lw_wf_pre {k : List Nat} {ts : List Bool} (h : lw_wf k = some ts) (i : Nat) : ∃ ts', lw_wf (k.take i) = some ts' := by
  cases hp : lw_wf (k.take i) with
  | some ts' => exact ⟨ts', rfl⟩
  | none =>
    have e : lw_wf k = (k.drop i).foldl lw_ty (lw_wf (k.take i)) := by
      rw [lw_wf, lw_wf, ← List.foldl_append, List.take_append_drop]
    rw [e, hp, lw_ty_none] at h
    cases h
/-- what a word that fits says of the heights -/
theorem lw_ty_len {ts ts' : List Bool} {c : Nat} (h : lw_ty (some ts) c = some ts') : lw_is c ∧ lw_nd c ≤ ts.length ∧ ts'.length = ts.length - lw_nd c + 1 ∧ ts'.length ≤ max ts.length 64 ∧ (lw_nd c = 0 → ts.length < 64) := by
  unfold lw_ty at h
  simp only at h
  unfold lw_is lw_nd
  split at h
  · split at h
    · cases h
      rename_i h1 h2
      rw [if_pos (by omega)]
      refine ⟨Or.inl h1, Nat.zero_le _, by simp, by simp; omega, fun _ => h2⟩
    · cases h
  · split at h
    · rename_i h1 h2
      subst h2
      split at h
      · cases h; simp
        omega
      · cases h
    · split at h
      · rename_i h1 h2 h3
        subst h3
        split at h
        · cases h; simp
          omega
        · cases h
      · rename_i h1 h2 h3
        have key : ∀ (b b' : Bool) (r : List Bool), 3000 ≤ c → c ≤ 3009 → ¬ c = 3006 → ¬ c = 3009 → (c < 1005 ∨ 3000 ≤ c ∧ c ≤ 3009) ∧ (if c < 3000 then 0 else if c = 3006 then 1 else if c = 3009 then 3 else 2) ≤ r.length + 1 + 1 ∧ r.length + 1 = r.length + 1 + 1 - (if c < 3000 then 0 else if c = 3006 then 1 else if c = 3009 then 3 else 2) + 1 ∧ r.length + 1 ≤ max (r.length + 1 + 1) 64 ∧ ((if c < 3000 then 0 else if c = 3006 then 1 else if c = 3009 then 3 else 2) = 0 → r.length + 1 + 1 < 64) := by
          intro b b' r q1 q2 q3 q4
          rw [if_neg (by omega), if_neg q3, if_neg q4]
          refine ⟨Or.inr ⟨q1, q2⟩, by omega, by omega, by omega, fun q => by omega⟩
        split at h
        · split at h
          · cases h
            exact key false false _ (by omega) (by omega) h2 h3
          · cases h
        · split at h
          · split at h
            · cases h
              exact key false false _ (by omega) (by omega) h2 h3
            · cases h
          · split at h
            · split at h
              · cases h
                exact key false false _ (by omega) (by omega) h2 h3
              · cases h
            · cases h
theorem len1 {s : List Int32} {n : Nat} (h : s.length = n + 1) : ∃ x r, s = x :: r ∧ r.length = n := by
  match s, h with
  | x :: r, h => exact ⟨x, r, rfl, by simpa using h⟩
theorem len2 {s : List Int32} {n : Nat} (h : s.length = n + 2) : ∃ x y r, s = x :: y :: r ∧ r.length = n := by
  match s, h with
  | x :: y :: r, h => exact ⟨x, y, r, rfl, by simpa using h⟩
theorem len3 {s : List Int32} {n : Nat} (h : s.length = n + 3) : ∃ x y z r, s = x :: y :: z :: r ∧ r.length = n := by
  match s, h with
  | x :: y :: z :: r, h => exact ⟨x, y, z, r, rfl, by simpa using h⟩
/-- a row holds what waits, the lowest first -/
def lw_hold (wa : Nat → Int32) (s : List Int32) : Prop := ∀ (j : Nat) (v : Int32), s[j]? = some v → wa (s.length - 1 - j) = v
theorem lw_hold_put {wa : Nat → Int32} {p r : List Int32} {v : Int32} (h : lw_hold wa (p ++ r)) : lw_hold (az_s wa r.length v) (v :: r) := by
  intro j x hj
  cases j with
  | zero =>
    simp at hj
    subst hj
    rw [show (v :: r).length - 1 - 0 = r.length by simp, az_s_eq]
  | succ j =>
    simp at hj
    have hlt : j < r.length := (List.getElem?_eq_some_iff.mp hj).1
    rw [show (v :: r).length - 1 - (j + 1) = r.length - 1 - j by simp; omega, az_s_ne (by omega)]
    have := h (p.length + j) x (by rw [List.getElem?_append_right (by omega)]; simpa using hj)
    rw [show (p ++ r).length - 1 - (p.length + j) = r.length - 1 - j by simp; omega] at this
    exact this
theorem ln_Scene.wait {h : az_Hp} {a t mo ni : Nat} {w : ln_W} {bs : List Nat} (H : ln_Scene h a t w mo ni bs) (wa' : Nat → Int32) : ln_Scene (az_up h (a + 7) (az_I 64 wa')) a t w mo ni bs := by
  obtain ⟨hi, fr, la, no, wa, nc, g0, g1, g2, t2, g3, t3, g4, t4, g5, g6, g7⟩ := H
  exact ⟨hi, fr, la, no, wa', nc, az_up_ne g0, az_up_ne g1, az_up_ne g2, t2, az_up_ne g3, t3, az_up_ne g4, t4, az_up_ne g5, az_up_ne g6, az_up_eq⟩
theorem lw_nd_0 {c : Nat} (hc : lw_is c) (h : lw_nd c = 0) : c < 1005 := by
  unfold lw_nd at h; unfold lw_is at hc; split at h
  · omega
  · split at h
    · omega
    · split at h <;> omega
theorem lw_nd_1 {c : Nat} (h : lw_nd c = 1) : c = 3006 := by
  unfold lw_nd at h; split at h
  · omega
  · split at h
    · assumption
    · split at h <;> omega
theorem lw_nd_3 {c : Nat} (h0 : ¬ lw_nd c = 0) (h1 : ¬ lw_nd c = 1) (h2 : ¬ lw_nd c = 2) : c = 3009 := by
  unfold lw_nd at h0 h1 h2; split at h0
  · omega
  · rename_i q
    rw [if_neg q] at h1 h2
    split at h1
    · omega
    · rename_i q2
      rw [if_neg q2] at h2
      split at h2
      · assumption
      · omega
theorem lw_st0 {en : Nat → Int32} {s : List Int32} {c : Nat} (h : c < 1005) : lw_st en s c = (if c < 1000 then nI c else en (c - 1000)) :: s := by unfold lw_st; rw [if_pos h]
theorem lw_st1 {en : Nat → Int32} {x : Int32} {r : List Int32} : lw_st en (x :: r) 3006 = (nI 1 - x) :: r := by unfold lw_st; rw [if_neg (by decide), if_pos rfl]
theorem lw_st3 {en : Nat → Int32} {e t q : Int32} {r : List Int32} : lw_st en (e :: t :: q :: r) 3009 = (if q = 0 then e else t) :: r := by unfold lw_st; rw [if_neg (by decide), if_neg (by decide), if_pos rfl]
theorem lw_st2 {en : Nat → Int32} {a b : Int32} {r : List Int32} {c : Nat} (h : lw_nd c = 2) : lw_st en (b :: a :: r) c = lw_bin c a b :: r := by
  unfold lw_nd at h
  split at h
  · omega
  · split at h
    · omega
    · split at h
      · omega
      · rename_i q1 q2 q3
        unfold lw_st
        rw [if_neg (by omega), if_neg q2, if_neg q3]
set_option maxHeartbeats 4000000 in
set_option maxRecDepth 100000 in
theorem s_valueOf {d q n a t mo ni : Nat} {w : ln_W} {bs : List Nat} {f : Nat → Int32} {ks : List Nat} {ts : List Bool} {hp : az_Hp} {Q : Option Value → az_Hp → Prop} (hd : 3 ≤ d) (hw : ln_ok w) (hS : ln_Scene hp a t w mo ni bs) (hq : hp.2 q = some (az_I n f)) (hqa : q < a ∨ a + 8 ≤ q) (hn : ks.length = n) (hn9 : n ≤ 900) (hf : ∀ i, i < n → f i = lw_phi (ks.getD i 0)) (hwf : lw_wf ks = some ts) (h1 : ts.length = 1) (hQ : ∀ v h', lw_ev (ln_env w bs mo ni) ks = [v] → ln_Scene h' a t w mo ni bs → az_fr hp h' a (a + 8) → Q (some (.int v)) h') : az_M mX3_valueOf d 0 0 [.ref q, .ref a] hp Q := by
  obtain ⟨hi, fr, la, no, wa0, nc, g0, -, -, -, -, -, -, -, -, -, g7⟩ := id hS
  have loop : ∀ (k : Nat) (i : Nat) (s : List Int32) (ts1 : List Bool) (m0 : Nat) (wa : Nat → Int32) (h' : az_Hp), n - i = k → (i ≤ n) → (s = lw_ev (ln_env w bs mo ni) (ks.take i)) → (lw_wf (ks.take i) = some ts1) → (ts1.length = m0) → (s.length = m0) → (m0 ≤ 64) → (lw_hold wa s) → (h' = az_up hp (a + 7) (az_I 64 wa)) → az_W mX3_valueOf d 0 0 10 [(0, .ref q), (1, .ref a), (2, .ref (a + 7)), (3, .int (nI m0)), (4, .int (nI i))] [] h' Q := by
    intro k
    induction k using Nat.strongRecOn with
    | _ k ih =>
    intro i s ts1 m0 wa h' hk hi9 hs hts hln hsl hs64 hh he
    have hS' : ln_Scene h' a t w mo ni bs := (by rw [he]; exact ln_Scene.wait hS wa)
    refine az_iload dX3_valueOf_10 ?_
    refine az_aload_n dX3_valueOf_12 ?_
    refine az_alen dX3_valueOf_13 (by rw [he]; exact az_up_ne hq) ?_
    refine az_icmp_geN (tgt := 142) dX3_valueOf_14 (fun c14 => ?_) (fun c14 => ?_)
    · obtain rfl : i = ks.length := by omega
      rw [List.take_length] at hs hts
      obtain rfl : ts1 = ts := by rw [hwf] at hts; cases hts; rfl
      obtain ⟨v9, r9, hse, hr9⟩ := len1 (s := s) (n := 0) (by omega)
      have hr0 := List.length_eq_zero_iff.mp hr9
      rw [hr0] at hse
      have hx0 : wa 0 = v9 := by have := hh 0 v9 (by rw [hse]; rfl); rw [show s.length - 1 - 0 = 0 by omega] at this; exact this
      refine az_aload_n dX3_valueOf_142 ?_
      refine az_iconst (v := nI 0) dX3_valueOf_143 ?_
      refine az_ialdN (j := 0) dX3_valueOf_144 (by rw [he]; exact az_up_eq) ?_
      rw [hx0]
      exact az_iret dX3_valueOf_145 (hQ v9 _ (hs.symm.trans hse) hS' (by rw [he]; exact az_fr.rf.up))
    · have hik : i < ks.length := by omega
      have hty := lw_wf_snoc hik
      obtain ⟨ts2, hts2⟩ := lw_wf_pre hwf (i + 1)
      rw [hts, hts2] at hty
      have hsn := lw_ev_snoc (ln_env w bs mo ni) hik
      refine az_aload_n dX3_valueOf_17 ?_
      refine az_iload dX3_valueOf_18 ?_
      refine az_ialdN (j := i) dX3_valueOf_20 (by rw [he]; exact az_up_ne hq) ?_
      rw [hf i (by omega)]
      generalize hc9 : ks.getD i 0 = c9 at hty
      refine az_istore (ls' := [(0, .ref q), (1, .ref a), (2, .ref (a + 7)), (3, .int (nI m0)), (4, .int (nI i)), (5, .int (lw_phi c9))]) dX3_valueOf_21 ?_
      refine az_iload dX3_valueOf_23 ?_
      refine az_cS0 (st := []) dX3_valueOf_25 ml_X3_13 (s_needs (d := d - 1) (lw_ty_len hty.symm).1 ?_)
      obtain ⟨hcis, hle, hl2, hmx, h64⟩ := lw_ty_len hty.symm
      rw [hc9, ← hs] at hsn
      have hl3 : lw_nd c9 ≤ 3 := by unfold lw_nd; split; omega; split; omega; split; omega; omega
      refine az_istore (ls' := [(0, .ref q), (1, .ref a), (2, .ref (a + 7)), (3, .int (nI m0)), (4, .int (nI i)), (5, .int (lw_phi c9)), (6, .int (nI (lw_nd c9)))]) dX3_valueOf_28 ?_
      refine az_iload_n dX3_valueOf_30 ?_
      refine az_iload dX3_valueOf_31 ?_
      refine az_icmp_ltN (tgt := 45) dX3_valueOf_33 (fun c33 => ?_) (fun c33 => ?_)
      · exact absurd c33 (by omega)
      · refine az_iload_n dX3_valueOf_36 ?_
        refine az_iload dX3_valueOf_37 ?_
        refine az_isubN dX3_valueOf_39 (by omega) ?_
        refine az_aload_n dX3_valueOf_40 ?_
        refine az_alen dX3_valueOf_41 (by rw [he]; exact az_up_eq) ?_
        refine az_icmp_ltN (tgt := 47) dX3_valueOf_42 (fun c42 => ?_) (fun c42 => ?_)
        · refine az_iload_n dX3_valueOf_47 ?_
          refine az_iload dX3_valueOf_48 ?_
          refine az_isubN dX3_valueOf_50 (by omega) ?_
          obtain ⟨tp, htp⟩ : ∃ tp, tp + lw_nd c9 = m0 := ⟨m0 - lw_nd c9, by omega⟩
          rw [show m0 - lw_nd c9 = tp by omega]
          have h65 : tp < 64 := by omega
          refine az_istore_n (ls' := [(0, .ref q), (1, .ref a), (2, .ref (a + 7)), (3, .int (nI tp)), (4, .int (nI i)), (5, .int (lw_phi c9)), (6, .int (nI (lw_nd c9)))]) dX3_valueOf_51 ?_
          refine az_iload dX3_valueOf_52 ?_
          refine az_if_neN (tgt := 69) dX3_valueOf_54 (fun c54 => ?_) (fun c54 => ?_)
          · refine az_iload dX3_valueOf_69 ?_
            refine az_iconst (v := nI 1) dX3_valueOf_71 ?_
            refine az_icmp_neN (tgt := 86) dX3_valueOf_72 (fun c72 => ?_) (fun c72 => ?_)
            · refine az_iload dX3_valueOf_86 ?_
              refine az_iconst (v := nI 2) dX3_valueOf_88 ?_
              refine az_icmp_neN (tgt := 111) dX3_valueOf_89 (fun c89 => ?_) (fun c89 => ?_)
              · have hc6 := lw_nd_3 c54 c72 c89
                have hnd9 : lw_nd c9 = 3 := by rw [hc6]; rfl
                obtain ⟨e9, t9, q9, r9, hse, hr9⟩ := len3 (s := s) (n := tp) (by omega)
                have hst : lw_st (ln_env w bs mo ni) s c9 = (if q9 = 0 then e9 else t9) :: r9 := by rw [hse, hc6]; exact lw_st3
                have hx2 : wa (tp + 2) = e9 := by have := hh 0 e9 (by rw [hse]; rfl); rw [show s.length - 1 - 0 = tp + 2 by omega] at this; exact this
                have hx1 : wa (tp + 1) = t9 := by have := hh 1 t9 (by rw [hse]; rfl); rw [show s.length - 1 - 1 = tp + 1 by omega] at this; exact this
                have hx0 : wa tp = q9 := by have := hh 2 q9 (by rw [hse]; rfl); rw [show s.length - 1 - 2 = tp by omega] at this; exact this
                have hho : ∀ v, lw_hold (az_s wa tp v) (v :: r9) := fun v => by rw [← hr9]; exact lw_hold_put (p := [e9, t9, q9]) (by rw [hse] at hh; exact hh)
                refine az_aload_n dX3_valueOf_111 ?_
                refine az_iload_n dX3_valueOf_112 ?_
                refine az_aload_n dX3_valueOf_113 ?_
                refine az_iload_n dX3_valueOf_114 ?_
                refine az_ialdN (j := tp) dX3_valueOf_115 (by rw [he]; exact az_up_eq) ?_
                rw [hx0]
                refine az_if_eq (tgt := 127) dX3_valueOf_116 (fun c116 => ?_) (fun c116 => ?_)
                · refine az_aload_n dX3_valueOf_127 ?_
                  refine az_iload_n dX3_valueOf_128 ?_
                  refine az_iconst (v := nI 2) dX3_valueOf_129 ?_
                  refine az_iaddN dX3_valueOf_130 ?_
                  refine az_ialdN (j := tp + 2) dX3_valueOf_131 (by rw [he]; exact az_up_eq) ?_
                  rw [hx2]
                  rw [if_pos c116] at hst
                  refine az_iastN (j := tp) dX3_valueOf_132 (by rw [he]; exact az_up_eq) ?_
                  refine az_iincN (n := 1) (ls' := [(0, .ref q), (1, .ref a), (2, .ref (a + 7)), (3, .int (nI (tp + 1))), (4, .int (nI i)), (5, .int (lw_phi c9)), (6, .int (nI (lw_nd c9)))]) dX3_valueOf_133 ?_
                  refine az_iincN (n := 1) (ls' := [(0, .ref q), (1, .ref a), (2, .ref (a + 7)), (3, .int (nI (tp + 1))), (4, .int (nI (i + 1))), (5, .int (lw_phi c9)), (6, .int (nI (lw_nd c9)))]) dX3_valueOf_136 ?_
                  refine az_goto (tgt := 10) dX3_valueOf_139 ?_
                  refine az_W.keep (ls' := [(0, .ref q), (1, .ref a), (2, .ref (a + 7)), (3, .int (nI (tp + 1))), (4, .int (nI (i + 1)))]) [0, 1, 2, 3, 4] rfl ?_
                  exact ih _ (by omega) (i + 1) (_ :: r9) ts2 (tp + 1) _ _ rfl (by omega) (hsn.trans hst).symm hts2 (by omega) (by simp; omega) (by omega) (hho _) (by rw [he, az_up_up])
                · refine az_aload_n dX3_valueOf_119 ?_
                  refine az_iload_n dX3_valueOf_120 ?_
                  refine az_iconst (v := nI 1) dX3_valueOf_121 ?_
                  refine az_iaddN dX3_valueOf_122 ?_
                  refine az_ialdN (j := tp + 1) dX3_valueOf_123 (by rw [he]; exact az_up_eq) ?_
                  rw [hx1]
                  rw [if_neg c116] at hst
                  refine az_goto (tgt := 132) dX3_valueOf_124 ?_
                  refine az_iastN (j := tp) dX3_valueOf_132 (by rw [he]; exact az_up_eq) ?_
                  refine az_iincN (n := 1) (ls' := [(0, .ref q), (1, .ref a), (2, .ref (a + 7)), (3, .int (nI (tp + 1))), (4, .int (nI i)), (5, .int (lw_phi c9)), (6, .int (nI (lw_nd c9)))]) dX3_valueOf_133 ?_
                  refine az_iincN (n := 1) (ls' := [(0, .ref q), (1, .ref a), (2, .ref (a + 7)), (3, .int (nI (tp + 1))), (4, .int (nI (i + 1))), (5, .int (lw_phi c9)), (6, .int (nI (lw_nd c9)))]) dX3_valueOf_136 ?_
                  refine az_goto (tgt := 10) dX3_valueOf_139 ?_
                  refine az_W.keep (ls' := [(0, .ref q), (1, .ref a), (2, .ref (a + 7)), (3, .int (nI (tp + 1))), (4, .int (nI (i + 1)))]) [0, 1, 2, 3, 4] rfl ?_
                  exact ih _ (by omega) (i + 1) (_ :: r9) ts2 (tp + 1) _ _ rfl (by omega) (hsn.trans hst).symm hts2 (by omega) (by simp; omega) (by omega) (hho _) (by rw [he, az_up_up])
              · obtain ⟨b9, a9, r9, hse, hr9⟩ := len2 (s := s) (n := tp) (by omega)
                have hst : lw_st (ln_env w bs mo ni) s c9 = lw_bin c9 a9 b9 :: r9 := by rw [hse]; exact lw_st2 c89
                have hx1 : wa (tp + 1) = b9 := by have := hh 0 b9 (by rw [hse]; rfl); rw [show s.length - 1 - 0 = tp + 1 by omega] at this; exact this
                have hx0 : wa tp = a9 := by have := hh 1 a9 (by rw [hse]; rfl); rw [show s.length - 1 - 1 = tp by omega] at this; exact this
                have hho : ∀ v, lw_hold (az_s wa tp v) (v :: r9) := fun v => by rw [← hr9]; exact lw_hold_put (p := [b9, a9]) (by rw [hse] at hh; exact hh)
                refine az_aload_n dX3_valueOf_92 ?_
                refine az_iload_n dX3_valueOf_93 ?_
                refine az_iload dX3_valueOf_94 ?_
                refine az_aload_n dX3_valueOf_96 ?_
                refine az_iload_n dX3_valueOf_97 ?_
                refine az_ialdN (j := tp) dX3_valueOf_98 (by rw [he]; exact az_up_eq) ?_
                rw [hx0]
                refine az_aload_n dX3_valueOf_99 ?_
                refine az_iload_n dX3_valueOf_100 ?_
                refine az_iconst (v := nI 1) dX3_valueOf_101 ?_
                refine az_iaddN dX3_valueOf_102 ?_
                refine az_ialdN (j := tp + 1) dX3_valueOf_103 (by rw [he]; exact az_up_eq) ?_
                rw [hx1]
                refine az_cS0 (st := [.int (nI tp), .ref (a + 7)]) dX3_valueOf_104 ml_X3_23 (s_joined (d := d - 1) (by omega) hcis c89 ?_)
                refine az_iastN (j := tp) dX3_valueOf_107 (by rw [he]; exact az_up_eq) ?_
                refine az_goto (tgt := 133) dX3_valueOf_108 ?_
                refine az_iincN (n := 1) (ls' := [(0, .ref q), (1, .ref a), (2, .ref (a + 7)), (3, .int (nI (tp + 1))), (4, .int (nI i)), (5, .int (lw_phi c9)), (6, .int (nI (lw_nd c9)))]) dX3_valueOf_133 ?_
                refine az_iincN (n := 1) (ls' := [(0, .ref q), (1, .ref a), (2, .ref (a + 7)), (3, .int (nI (tp + 1))), (4, .int (nI (i + 1))), (5, .int (lw_phi c9)), (6, .int (nI (lw_nd c9)))]) dX3_valueOf_136 ?_
                refine az_goto (tgt := 10) dX3_valueOf_139 ?_
                refine az_W.keep (ls' := [(0, .ref q), (1, .ref a), (2, .ref (a + 7)), (3, .int (nI (tp + 1))), (4, .int (nI (i + 1)))]) [0, 1, 2, 3, 4] rfl ?_
                exact ih _ (by omega) (i + 1) (_ :: r9) ts2 (tp + 1) _ _ rfl (by omega) (hsn.trans hst).symm hts2 (by omega) (by simp; omega) (by omega) (hho _) (by rw [he, az_up_up])
            · have hc6 := lw_nd_1 c72
              obtain ⟨x9, r9, hse, hr9⟩ := len1 (s := s) (n := tp) (by omega)
              have hst : lw_st (ln_env w bs mo ni) s c9 = (nI 1 - x9) :: r9 := by rw [hse, hc6]; exact lw_st1
              have hx0 : wa tp = x9 := by have := hh 0 x9 (by rw [hse]; rfl); rw [show s.length - 1 - 0 = tp by omega] at this; exact this
              have hho : ∀ v, lw_hold (az_s wa tp v) (v :: r9) := fun v => by rw [← hr9]; exact lw_hold_put (p := [x9]) (by rw [hse] at hh; exact hh)
              refine az_aload_n dX3_valueOf_75 ?_
              refine az_iload_n dX3_valueOf_76 ?_
              refine az_iconst (v := nI 1) dX3_valueOf_77 ?_
              refine az_aload_n dX3_valueOf_78 ?_
              refine az_iload_n dX3_valueOf_79 ?_
              refine az_ialdN (j := tp) dX3_valueOf_80 (by rw [he]; exact az_up_eq) ?_
              rw [hx0]
              refine az_isub dX3_valueOf_81 ?_
              refine az_iastN (j := tp) dX3_valueOf_82 (by rw [he]; exact az_up_eq) ?_
              refine az_goto (tgt := 133) dX3_valueOf_83 ?_
              refine az_iincN (n := 1) (ls' := [(0, .ref q), (1, .ref a), (2, .ref (a + 7)), (3, .int (nI (tp + 1))), (4, .int (nI i)), (5, .int (lw_phi c9)), (6, .int (nI (lw_nd c9)))]) dX3_valueOf_133 ?_
              refine az_iincN (n := 1) (ls' := [(0, .ref q), (1, .ref a), (2, .ref (a + 7)), (3, .int (nI (tp + 1))), (4, .int (nI (i + 1))), (5, .int (lw_phi c9)), (6, .int (nI (lw_nd c9)))]) dX3_valueOf_136 ?_
              refine az_goto (tgt := 10) dX3_valueOf_139 ?_
              refine az_W.keep (ls' := [(0, .ref q), (1, .ref a), (2, .ref (a + 7)), (3, .int (nI (tp + 1))), (4, .int (nI (i + 1)))]) [0, 1, 2, 3, 4] rfl ?_
              exact ih _ (by omega) (i + 1) (_ :: r9) ts2 (tp + 1) _ _ rfl (by omega) (hsn.trans hst).symm hts2 (by omega) (by simp; omega) (by omega) (hho _) (by rw [he, az_up_up])
          · have hlt9 := lw_nd_0 hcis c54
            obtain ⟨r9, hse⟩ : ∃ r, s = r := ⟨s, rfl⟩
            have hr9 : r9.length = tp := by rw [← hse]; omega
            have hst := lw_st0 (en := ln_env w bs mo ni) (s := s) hlt9
            rw [hse] at hst hsn
            have hho : ∀ v, lw_hold (az_s wa tp v) (v :: r9) := fun v => by rw [← hr9]; exact lw_hold_put (p := []) (by rw [← hse]; exact hh)
            refine az_aload_n dX3_valueOf_57 ?_
            refine az_iload_n dX3_valueOf_58 ?_
            refine az_iload dX3_valueOf_59 ?_
            refine az_aload_n dX3_valueOf_61 ?_
            refine az_cS0 (st := [.int (nI tp), .ref (a + 7)]) dX3_valueOf_62 ml_X3_19 (s_atomOf (d := d - 1) (by omega) hw hS' (c := c9) hlt9 ?_)
            refine az_iastN (j := tp) dX3_valueOf_65 (by rw [he]; exact az_up_eq) ?_
            refine az_goto (tgt := 133) dX3_valueOf_66 ?_
            refine az_iincN (n := 1) (ls' := [(0, .ref q), (1, .ref a), (2, .ref (a + 7)), (3, .int (nI (tp + 1))), (4, .int (nI i)), (5, .int (lw_phi c9)), (6, .int (nI (lw_nd c9)))]) dX3_valueOf_133 ?_
            refine az_iincN (n := 1) (ls' := [(0, .ref q), (1, .ref a), (2, .ref (a + 7)), (3, .int (nI (tp + 1))), (4, .int (nI (i + 1))), (5, .int (lw_phi c9)), (6, .int (nI (lw_nd c9)))]) dX3_valueOf_136 ?_
            refine az_goto (tgt := 10) dX3_valueOf_139 ?_
            refine az_W.keep (ls' := [(0, .ref q), (1, .ref a), (2, .ref (a + 7)), (3, .int (nI (tp + 1))), (4, .int (nI (i + 1)))]) [0, 1, 2, 3, 4] rfl ?_
            exact ih _ (by omega) (i + 1) (_ :: r9) ts2 (tp + 1) _ _ rfl (by omega) (hsn.trans hst).symm hts2 (by omega) (by simp; omega) (by omega) (hho _) (by rw [he, az_up_up])
        · exact absurd c42 (by by_cases q9 : lw_nd c9 = 0; have := h64 q9; omega; omega)
  refine az_M.of rfl (Nat.le_of_ble_eq_true rfl) ?_
  show az_W _ _ _ _ 0 [(0, .ref q), (1, .ref a)] [] _ _
  refine az_aload_n dX3_valueOf_0 ?_
  refine az_getf (v := .ref (a + 7)) dX3_valueOf_1 fl_X3_7 g0 ?_
  refine az_astore_n (ls' := [(0, .ref q), (1, .ref a), (2, .ref (a + 7))]) dX3_valueOf_4 ?_
  refine az_iconst (v := nI 0) dX3_valueOf_5 ?_
  refine az_istore_n (ls' := [(0, .ref q), (1, .ref a), (2, .ref (a + 7)), (3, .int (nI 0))]) dX3_valueOf_6 ?_
  refine az_iconst (v := nI 0) dX3_valueOf_7 ?_
  refine az_istore (ls' := [(0, .ref q), (1, .ref a), (2, .ref (a + 7)), (3, .int (nI 0)), (4, .int (nI 0))]) dX3_valueOf_8 ?_
  exact loop _ 0 [] [] 0 wa0 _ rfl (Nat.zero_le _) rfl rfl rfl rfl (Nat.zero_le _) (fun j v h => by simp at h) (az_up_same g7).symm
