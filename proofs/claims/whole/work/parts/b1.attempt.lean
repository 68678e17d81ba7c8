/-! The model: attempt -/
theorem cn_add {w : ln_W} {c : Nat → Nat} {L : List Nat} {b tb : Nat} (ht : tb < 3) : ∀ k, k ≤ 3 → (fu_add w c L k).count (b * 3 + tb) = L.count (b * 3 + tb) + (if tb < k ∧ fu_b w tb c = b then 1 else 0) := by
  intro k
  induction k with
  | zero => intro _; rw [fu_add, if_neg (by omega)]; rfl
  | succ k ih =>
    intro h
    have ih := ih (by omega)
    rw [fu_add, List.count_cons, ih]
    by_cases e : fu_b w k c * 3 + k = b * 3 + tb
    · have e1 : k = tb := by omega
      subst e1
      have e2 : fu_b w k c = b := by omega
      rw [if_neg (by omega), if_pos (by simp [e2]), if_pos ⟨by omega, e2⟩]
    · rw [if_neg (show ¬ ((fu_b w k c * 3 + k == b * 3 + tb) = true) by simp; exact e)]
      by_cases e3 : tb < k ∧ fu_b w tb c = b
      · rw [if_pos e3, if_pos ⟨by omega, e3.2⟩]
      · rw [if_neg e3, if_neg (fun q => by
          by_cases e4 : tb = k
          · subst e4; exact e (by rw [q.2])
          · exact e3 ⟨by omega, q.2⟩)]
theorem cn_ads {w : ln_W} {b tb : Nat} (ht : tb < ln_tb w) (hw : ln_ok w) : ∀ (cs : List (Nat → Nat)) (L : List Nat), (fu_ads w cs L).count (b * 3 + tb) = L.count (b * 3 + tb) + (cs.map (fu_b w tb)).count b := by
  intro cs
  have h3 := hw.2.1
  induction cs with
  | nil => intro L; rfl
  | cons c cs ih =>
    intro L
    have h := ih (fu_add w c L (ln_tb w))
    rw [cn_add (by omega) _ h3] at h
    rw [List.map_cons, List.count_cons]
    refine h.trans ?_
    by_cases e : fu_b w tb c = b
    · rw [if_pos ⟨ht, e⟩, if_pos (by simp [e])]; omega
    · rw [if_neg (fun q => e q.2), if_neg (by simp; exact e)]; omega
theorem sm_front (f : Nat → Nat) (k : Nat) : sm f (k + 1) = f 0 + sm (fun i => f (i + 1)) k := by
  induction k with
  | zero => show 0 + f 0 = f 0 + 0; omega
  | succ k ih =>
    have e : sm f (k + 1 + 1) = sm f (k + 1) + f (k + 1) := rfl
    have e2 : sm (fun i => f (i + 1)) (k + 1) = sm (fun i => f (i + 1)) k + f (k + 1) := rfl
    rw [e, ih, e2]; omega
theorem sm_count {α : Type} (F : α → Nat) (z : α) (b : Nat) (l : List α) : sm (fun i => if F (l.getD i z) = b then 1 else 0) l.length = (l.map F).count b := by
  induction l with
  | nil => rfl
  | cons x l ih =>
    rw [List.length_cons, sm_front, List.map_cons, List.count_cons]
    have e : sm (fun i => if F ((x :: l).getD (i + 1) z) = b then 1 else 0) l.length = (l.map F).count b := ih
    rw [e]
    show (if F x = b then 1 else 0) + _ = _
    by_cases q : F x = b
    · rw [if_pos q, if_pos (by simp [q])]; omega
    · rw [if_neg q, if_neg (by simp; exact q)]; omega
theorem ta_mx_is (tb : Nat) (L : List Nat) : (∀ x, x % 3 = tb → L.count x ≤ ta_mx tb L) ∧ (ta_mx tb L = 0 ∨ ∃ x, x % 3 = tb ∧ L.count x = ta_mx tb L) := by
  induction L with
  | nil => exact ⟨fun x _ => Nat.le_refl _, Or.inl rfl⟩
  | cons x L ih =>
    obtain ⟨h1, h2⟩ := ih
    rw [ta_mx]
    by_cases e : x % 3 = tb
    · rw [if_pos e]
      have hc : (x :: L).count x = L.count x + 1 := List.count_cons_self
      refine ⟨fun z hz => ?_, ?_⟩
      · by_cases q : z = x
        · rw [q]; omega
        · rw [List.count_cons_of_ne (Ne.symm q)]
          have := h1 z hz
          omega
      · by_cases q : ta_mx tb L ≤ (x :: L).count x
        · exact Or.inr ⟨x, e, by omega⟩
        · rcases h2 with h2 | ⟨z, hz, h2⟩
          · omega
          · refine Or.inr ⟨z, hz, ?_⟩
            have hzx : z ≠ x := fun q2 => by rw [q2] at h2; omega
            rw [List.count_cons_of_ne (Ne.symm hzx)]
            omega
    · rw [if_neg e]
      refine ⟨fun z hz => ?_, ?_⟩
      · rw [List.count_cons_of_ne (fun q => e (by rw [q]; exact hz))]
        exact h1 z hz
      · rcases h2 with h2 | ⟨z, hz, h2⟩
        · exact Or.inl h2
        · exact Or.inr ⟨z, hz, by rw [List.count_cons_of_ne (fun q => e (by rw [q]; exact hz))]; exact h2⟩
/-- the longest run is the greatest count -/
theorem ta_mx_eq {tb m : Nat} {L : List Nat} {cn : Nat → Nat} (h3 : tb < 3) (hc : ∀ b, L.count (b * 3 + tb) = cn b) (h1 : ∀ b, cn b ≤ m) (h2 : ∃ b, cn b = m) : ta_mx tb L = m := by
  obtain ⟨g1, g2⟩ := ta_mx_is tb L
  obtain ⟨b, hb⟩ := h2
  have i1 := g1 (b * 3 + tb) (by omega)
  rw [hc, hb] at i1
  rcases g2 with g2 | ⟨x, hx, g2⟩
  · omega
  · have e : x = x / 3 * 3 + tb := by omega
    rw [e, hc] at g2
    have := h1 (x / 3)
    omega
def rnI (g : Nat → Nat) (off i run best : Nat) : Prop := (0 < i → run = cnR g off i (g (off + i - 1))) ∧ (∀ b, cnR g off i b ≤ best) ∧ ∃ b, cnR g off i b = best
theorem cnR_zero {f : Nat → Nat} {off b : Nat} : ∀ {i : Nat}, (∀ j, j < i → f (off + j) ≠ b) → cnR f off i b = 0 := by
  intro i
  induction i with
  | zero => intro _; rfl
  | succ i ih =>
    intro h
    have e : cnR f off (i + 1) b = cnR f off i b + (if f (off + i) = b then 1 else 0) := rfl
    rw [e, ih (fun j hj => h j (by omega)), if_neg (h i (by omega))]
theorem rnI_step {g : Nat → Nat} {off n i run best r2 b2 : Nat} (hS : soS g off n) (hi : i < n) (H : rnI g off i run best) (hr : (0 < i ∧ g (off + i) = g (off + i - 1) ∧ r2 = run + 1) ∨ ((i = 0 ∨ g (off + i) ≠ g (off + i - 1)) ∧ r2 = 1)) (hb : (r2 ≤ best ∧ b2 = best) ∨ (best < r2 ∧ b2 = r2)) : rnI g off (i + 1) r2 b2 := by
  obtain ⟨h1, h2, b, h3⟩ := H
  have e : ∀ b, cnR g off (i + 1) b = cnR g off i b + (if g (off + i) = b then 1 else 0) := fun _ => rfl
  have hk : cnR g off (i + 1) (g (off + i)) = r2 := by
    rw [e, if_pos rfl]
    rcases hr with ⟨p1, p2, p3⟩ | ⟨p1, p3⟩
    · rw [p2, ← h1 p1]; exact p3.symm
    · rw [cnR_zero (fun j hj q => ?_), p3]
      have a1 : 0 < i := by omega
      have a2 : g (off + i) ≠ g (off + i - 1) := by rcases p1 with p1 | p1; omega; exact p1
      have a3 := hS j (i - 1) (by omega) (by omega)
      have a4 := hS (i - 1) i (by omega) hi
      rw [show off + (i - 1) = off + i - 1 by omega] at a3 a4
      omega
  refine ⟨fun _ => ?_, fun z => ?_, ?_⟩
  · rw [show off + (i + 1) - 1 = off + i by omega]; exact hk.symm
  · by_cases q : g (off + i) = z
    · rw [← q, hk]; omega
    · have := h2 z
      rw [e, if_neg q]; omega
  · by_cases q : r2 ≤ best ∧ b2 = best
    · refine ⟨b, ?_⟩
      by_cases q2 : g (off + i) = b
      · have := hk
        rw [q2] at this
        have e2 := e b
        rw [if_pos q2] at e2
        omega
      · rw [e, if_neg q2]; omega
    · exact ⟨g (off + i), by rw [hk]; omega⟩
theorem cnR_pos {f : Nat → Nat} {off n j : Nat} (h : j < n) : 0 < cnR f off n (f (off + j)) := by
  have h1 : (if f (off + j) = f (off + j) then 1 else 0) ≤ cnR f off n (f (off + j)) := sm_ge (c := fun i => if f (off + i) = f (off + j) then 1 else 0) h
  rw [if_pos rfl] at h1
  omega
theorem cnR_ex {f : Nat → Nat} {off b : Nat} {n : Nat} (h : 0 < cnR f off n b) : ∃ j, j < n ∧ f (off + j) = b := by
  apply Classical.byContradiction
  intro q
  rw [cnR_zero (fun j hj e => q ⟨j, hj, e⟩)] at h
  omega
theorem cn_mem {f g : Nat → Nat} {off n : Nat} (hc : soC f g off n) (hg : ∀ j, j < n → g (off + j) ≤ 2 ^ 62) (j : Nat) (hj : j < n) : f (off + j) ≤ 2 ^ 62 := by
  have h := cnR_pos (f := f) (off := off) hj
  rw [hc] at h
  obtain ⟨i, hi, e⟩ := cnR_ex h
  rw [← e]; exact hg i hi
theorem lg_mem {w : ln_W} {wa : Nat → Int64} : ∀ (k dp : Nat) (c : Nat → Nat) (r : List Nat), r ∈ fu_lg w wa k dp c → r.length = k := by
  intro k
  induction k with
  | zero => intro dp c r h; simp [fu_lg] at h; rw [h]; rfl
  | succ k ih =>
    intro dp c r h
    rw [fu_lg] at h
    have : ∀ m, r ∈ fu_cat (fun tb => if wa dp = -1 ∨ wa dp = lN (fu_b w tb c) then (fu_lg w wa k (dp + 1) (fu_n w tb c)).map (List.cons tb) else []) m → r.length = k + 1 := by
      intro m
      induction m with
      | zero => intro h; cases h
      | succ m ihm =>
        intro h
        rw [fu_cat, List.mem_append] at h
        rcases h with h | h
        · exact ihm h
        · split at h
          · obtain ⟨r2, h2, rfl⟩ := List.mem_map.mp h
            rw [List.length_cons, ih _ _ _ h2]
          · cases h
    exact this _ h
theorem to_cap {w : ln_W} (hw : ln_ok w) : ∀ (r : List Nat) (k : Nat) (c : Nat → Nat), fu_l c * 4 ^ (k + r.length) < 2 ^ 62 → fu_l (fu_to w r c) * 4 ^ k < 2 ^ 62 := by
  intro r
  induction r with
  | nil => intro k c h; exact h
  | cons t r ih =>
    intro k c h
    exact ih k (fu_n w t c) (fu_n_l hw (by rw [List.length_cons, ← Nat.add_assoc] at h; exact h))
theorem lg_cap {w : ln_W} {bs : List Nat} {wa : Nat → Int64} {k tb : Nat} {r : List Nat} (hw : ln_ok w) (hb : ln_by w bs) (hk : k ≤ 8) (h1 : tb < ln_tb w) (h : r ∈ fu_lg w wa k 0 (fun x => (ln_str w bs).count x)) : fu_b w tb (fu_to w r (fun x => (ln_str w bs).count x)) ≤ 2 ^ 62 := by
  have h1 := lg_mem _ _ _ _ h
  have h2 := to_cap hw r 1 _ (str_cap hw hb (k := 1 + r.length) (by omega))
  have h3 := fu_b_le hw tb (fu_to w r (fun x => (ln_str w bs).count x))
  omega
def atI (G : Nat → Nat) (tb le : Nat) (bx : Int32) : Prop := (tb = 0 ∧ bx = (-1) ∧ le = 268435456) ∨ (0 < tb ∧ bx = nI (fu_lv G tb) ∧ le = G (fu_lv G tb))
theorem atI_yes {G : Nat → Nat} {tb le : Nat} {bx : Int32} (H : atI G tb le bx) (h : G tb < le) : atI G (tb + 1) (G tb) (nI tb) := by
  refine Or.inr ⟨by omega, ?_⟩
  rcases H with ⟨h1, h2, h3⟩ | ⟨h1, h2, h3⟩
  · subst h1
    rw [fu_lv_1]; exact ⟨rfl, rfl⟩
  · rw [fu_lv, if_pos (by omega)]; exact ⟨rfl, rfl⟩
theorem atI_no {G : Nat → Nat} {tb le : Nat} {bx : Int32} (H : atI G tb le bx) (hG : G tb < 268435456) (h : ¬ G tb < le) : atI G (tb + 1) le bx := by
  refine Or.inr ⟨by omega, ?_⟩
  rcases H with ⟨h1, h2, h3⟩ | ⟨h1, h2, h3⟩
  · omega
  · rw [fu_lv, if_neg (by omega)]; exact ⟨h2, h3⟩
theorem atI_end {G : Nat → Nat} {tb le : Nat} {bx : Int32} (H : atI G tb le bx) (h : 0 < tb) : bx = nI (fu_lv G tb) := by
  rcases H with ⟨h1, h2, h3⟩ | ⟨h1, h2, h3⟩
  · omega
  · exact h2

set_option maxHeartbeats 4000000 in
set_option maxRecDepth 100000 in
theorem m_attemptW {sc : Nat → Value} {A : Nat → Nat} {v : rd_V} {d n : Nat} {X : List (List Nat)} {C ti bh : Nat → Nat} {hp : az_Hp} {Q : Option Value → az_Hp → Prop} (hd : 2 ≤ d) (hw : ln_ok (rd_w v)) (hV : mV A v) (h64 : hp.2 64 = some (mo_o sc)) (h65 : hp.2 65 = some (az_I 3318 (fun j => nI (A j)))) (h85 : hp.2 85 = some (az_J 19683 (fun j => lN (bh j)))) (hml : mlR ti bh (rd_w v) C X) (hX : X.length ≤ 6561) (hB : ∀ tb r, tb < ln_tb (rd_w v) → r ∈ X → fu_b (rd_w v) tb (fu_to (rd_w v) r C) ≤ 2 ^ 62) (hQ0 : X.length = 0 → Q (some (.int (-1))) hp) (hQ : X.length ≠ 0 → ∀ (h' : az_Hp), mf hp h' [85] → (mk hp → mk h') → Q (some (.int (nI (fu_lv (fun tb => ta_mx tb (fu_ads (rd_w v) (X.map (fun r => fu_to (rd_w v) r C)) [])) (ln_tb (rd_w v)))))) h') : az_W mX12_attempt d 0 0 24 [(0, .ref 64), (1, .int (nI n)), (2, .int (nI 0)), (3, .int (nI X.length))] [] hp Q := by
  have ht3 := hw.2.1
  have ht1 := hw.1
  have hA1 : A 1 = ln_tb (rd_w v) := hV.2.1
  have hGl : ∀ tb, (fun tb => ta_mx tb (fu_ads (rd_w v) (X.map (fun r => fu_to (rd_w v) r C)) [])) tb ≤ 19683 := fun tb => by
    refine Nat.le_trans (ta_mx_le tb _) ?_
    rw [fu_ads_len, List.length_map]
    have := Nat.mul_le_mul ht3 hX
    show 0 + _ ≤ _
    omega
  have hbh : ∀ tb j, tb < ln_tb (rd_w v) → j < X.length → bh (6561 * tb + j) ≤ 2 ^ 62 := fun tb j h1 h2 => by
    rw [hml.2 tb j h1 h2]
    refine hB tb _ h1 ?_
    rw [List.getD_eq_getElem?_getD, List.getElem?_eq_getElem h2]
    exact List.getElem_mem h2
  have hcn : ∀ tb, tb < ln_tb (rd_w v) → ∀ b, (fu_ads (rd_w v) (X.map (fun r => fu_to (rd_w v) r C)) []).count (b * 3 + tb) = cnR bh (6561 * tb) X.length b := fun tb h1 b => by
    rw [cn_ads h1 hw, List.map_map]
    have e : ([] : List Nat).count (b * 3 + tb) = 0 := rfl
    rw [e, Nat.zero_add, ← sm_count _ []]
    exact sm_congr (fun i hi => by rw [hml.2 tb i h1 hi]; rfl)
  obtain ⟨G, hG⟩ : ∃ G, G = (fun tb => ta_mx tb (fu_ads (rd_w v) (X.map (fun r => fu_to (rd_w v) r C)) [])) := ⟨_, rfl⟩
  rw [← hG] at hQ hGl
  have loopI : ∀ (k : Nat) (i ru be tb le : Nat) (bx : Int32) (b9 : Nat → Nat) (h' : az_Hp) (b64 : h'.2 64 = some (mo_o sc)) (b85 : h'.2 85 = some (az_J 19683 (fun j => lN (b9 j)))) (hS : soS b9 (6561 * tb) X.length) (hb9 : ∀ j, j < X.length → b9 (6561 * tb + j) ≤ 2 ^ 62) (ht9 : tb < 3) (hle : le < 2 ^ 31) (hK : ∀ be2 i2 ru2 : Nat, (∀ b, cnR b9 (6561 * tb) X.length b ≤ be2) ∧ (∃ b, cnR b9 (6561 * tb) X.length b = be2) → az_W mX12_attempt d 0 0 147 [(0, .ref 64), (1, .int (nI n)), (2, .int (nI 0)), (3, .int (nI X.length)), (4, .int bx), (5, .int (nI le)), (6, .int (nI tb)), (7, .int (nI be2)), (8, .int (nI ru2)), (9, .int (nI i2))] [] h' Q), X.length - i = k → (i ≤ X.length) → (ru ≤ i) → (be ≤ i) → (rnI b9 (6561 * tb) i ru be) → az_W mX12_attempt d 0 0 70 [(0, .ref 64), (1, .int (nI n)), (2, .int (nI 0)), (3, .int (nI X.length)), (4, .int bx), (5, .int (nI le)), (6, .int (nI tb)), (7, .int (nI be)), (8, .int (nI ru)), (9, .int (nI i))] [] h' Q := by
    intro k
    induction k using Nat.strongRecOn with
    | _ k ih =>
    intro i ru be tb le bx b9 h' b64 b85 hS hb9 ht9 hle hK hk hi hru hbe hrn
    refine az_iload dX12_attempt_70 ?_
    refine az_iload_n dX12_attempt_72 ?_
    refine az_icmp_geN (tgt := 147) dX12_attempt_73 (fun c73 => ?_) (fun c73 => ?_)
    · exact hK be i ru (by rw [show X.length = i by omega]; exact hrn.2)
    · refine az_iload dX12_attempt_76 ?_
      refine az_if_leN (tgt := 122) dX12_attempt_78 (fun c78 => ?_) (fun c78 => ?_)
      · refine az_iconst (v := nI 1) dX12_attempt_122 ?_
        refine az_istore (ls' := [(0, .ref 64), (1, .int (nI n)), (2, .int (nI 0)), (3, .int (nI X.length)), (4, .int bx), (5, .int (nI le)), (6, .int (nI tb)), (7, .int (nI be)), (8, .int (nI 1)), (9, .int (nI i))]) dX12_attempt_123 ?_
        refine az_iload dX12_attempt_125 ?_
        refine az_iload dX12_attempt_127 ?_
        refine az_icmp_leN (tgt := 137) dX12_attempt_129 (fun c129 => ?_) (fun c129 => ?_)
        · refine az_iload dX12_attempt_137 ?_
          refine az_istore (ls' := [(0, .ref 64), (1, .int (nI n)), (2, .int (nI 0)), (3, .int (nI X.length)), (4, .int bx), (5, .int (nI le)), (6, .int (nI tb)), (7, .int (nI be)), (8, .int (nI 1)), (9, .int (nI i))]) dX12_attempt_139 ?_
          refine az_iincN (n := 1) (ls' := [(0, .ref 64), (1, .int (nI n)), (2, .int (nI 0)), (3, .int (nI X.length)), (4, .int bx), (5, .int (nI le)), (6, .int (nI tb)), (7, .int (nI be)), (8, .int (nI 1)), (9, .int (nI (i + 1)))]) dX12_attempt_141 ?_
          refine az_goto (tgt := 70) dX12_attempt_144 ?_
          exact ih _ (by omega) (i + 1) _ _ tb le bx b9 h' b64 b85 hS hb9 ht9 hle hK rfl (by omega) (by omega) (by omega) (rnI_step hS (by omega) hrn (by first | exact Or.inl ⟨by omega, by omega, rfl⟩ | exact Or.inr ⟨by omega, rfl⟩) (by first | exact Or.inl ⟨by omega, rfl⟩ | exact Or.inr ⟨by omega, rfl⟩))
        · refine az_iload dX12_attempt_132 ?_
          refine az_goto (tgt := 139) dX12_attempt_134 ?_
          refine az_istore (ls' := [(0, .ref 64), (1, .int (nI n)), (2, .int (nI 0)), (3, .int (nI X.length)), (4, .int bx), (5, .int (nI le)), (6, .int (nI tb)), (7, .int (nI 1)), (8, .int (nI 1)), (9, .int (nI i))]) dX12_attempt_139 ?_
          refine az_iincN (n := 1) (ls' := [(0, .ref 64), (1, .int (nI n)), (2, .int (nI 0)), (3, .int (nI X.length)), (4, .int bx), (5, .int (nI le)), (6, .int (nI tb)), (7, .int (nI 1)), (8, .int (nI 1)), (9, .int (nI (i + 1)))]) dX12_attempt_141 ?_
          refine az_goto (tgt := 70) dX12_attempt_144 ?_
          exact ih _ (by omega) (i + 1) _ _ tb le bx b9 h' b64 b85 hS hb9 ht9 hle hK rfl (by omega) (by omega) (by omega) (rnI_step hS (by omega) hrn (by first | exact Or.inl ⟨by omega, by omega, rfl⟩ | exact Or.inr ⟨by omega, rfl⟩) (by first | exact Or.inl ⟨by omega, rfl⟩ | exact Or.inr ⟨by omega, rfl⟩))
      · refine az_aload_n dX12_attempt_81 ?_
        refine az_getf (v := .ref 85) dX12_attempt_82 fl_X12_79 b64 ?_
        refine az_sipush (v := nI 6561) dX12_attempt_85 ?_
        refine az_iload dX12_attempt_88 ?_
        refine az_imulN dX12_attempt_90 ?_
        refine az_iload dX12_attempt_91 ?_
        refine az_iaddN dX12_attempt_93 ?_
        refine az_laldN (j := (6561 * tb) + i) dX12_attempt_94 b85 ?_
        refine az_aload_n dX12_attempt_95 ?_
        refine az_getf (v := .ref 85) dX12_attempt_96 fl_X12_79 b64 ?_
        refine az_sipush (v := nI 6561) dX12_attempt_99 ?_
        refine az_iload dX12_attempt_102 ?_
        refine az_imulN dX12_attempt_104 ?_
        refine az_iload dX12_attempt_105 ?_
        refine az_iaddN dX12_attempt_107 ?_
        refine az_iconst (v := nI 1) dX12_attempt_108 ?_
        refine az_isubN dX12_attempt_109 (by omega) ?_
        refine az_laldN (j := ((6561 * tb) + i) - 1) dX12_attempt_110 b85 ?_
        have hz1 := hb9 i (by omega)
        have hz2 := hb9 (i - 1) (by omega)
        rw [show 6561 * tb + (i - 1) = 6561 * tb + i - 1 by omega] at hz2
        refine az_lcmp_neN (tgt := 122) dX12_attempt_111 dX12_attempt_112 (fun c111 => ?_) (fun c111 => ?_)
        · refine az_iconst (v := nI 1) dX12_attempt_122 ?_
          refine az_istore (ls' := [(0, .ref 64), (1, .int (nI n)), (2, .int (nI 0)), (3, .int (nI X.length)), (4, .int bx), (5, .int (nI le)), (6, .int (nI tb)), (7, .int (nI be)), (8, .int (nI 1)), (9, .int (nI i))]) dX12_attempt_123 ?_
          refine az_iload dX12_attempt_125 ?_
          refine az_iload dX12_attempt_127 ?_
          refine az_icmp_leN (tgt := 137) dX12_attempt_129 (fun c129 => ?_) (fun c129 => ?_)
          · refine az_iload dX12_attempt_137 ?_
            refine az_istore (ls' := [(0, .ref 64), (1, .int (nI n)), (2, .int (nI 0)), (3, .int (nI X.length)), (4, .int bx), (5, .int (nI le)), (6, .int (nI tb)), (7, .int (nI be)), (8, .int (nI 1)), (9, .int (nI i))]) dX12_attempt_139 ?_
            refine az_iincN (n := 1) (ls' := [(0, .ref 64), (1, .int (nI n)), (2, .int (nI 0)), (3, .int (nI X.length)), (4, .int bx), (5, .int (nI le)), (6, .int (nI tb)), (7, .int (nI be)), (8, .int (nI 1)), (9, .int (nI (i + 1)))]) dX12_attempt_141 ?_
            refine az_goto (tgt := 70) dX12_attempt_144 ?_
            exact ih _ (by omega) (i + 1) _ _ tb le bx b9 h' b64 b85 hS hb9 ht9 hle hK rfl (by omega) (by omega) (by omega) (rnI_step hS (by omega) hrn (by first | exact Or.inl ⟨by omega, by omega, rfl⟩ | exact Or.inr ⟨by omega, rfl⟩) (by first | exact Or.inl ⟨by omega, rfl⟩ | exact Or.inr ⟨by omega, rfl⟩))
          · refine az_iload dX12_attempt_132 ?_
            refine az_goto (tgt := 139) dX12_attempt_134 ?_
            refine az_istore (ls' := [(0, .ref 64), (1, .int (nI n)), (2, .int (nI 0)), (3, .int (nI X.length)), (4, .int bx), (5, .int (nI le)), (6, .int (nI tb)), (7, .int (nI 1)), (8, .int (nI 1)), (9, .int (nI i))]) dX12_attempt_139 ?_
            refine az_iincN (n := 1) (ls' := [(0, .ref 64), (1, .int (nI n)), (2, .int (nI 0)), (3, .int (nI X.length)), (4, .int bx), (5, .int (nI le)), (6, .int (nI tb)), (7, .int (nI 1)), (8, .int (nI 1)), (9, .int (nI (i + 1)))]) dX12_attempt_141 ?_
            refine az_goto (tgt := 70) dX12_attempt_144 ?_
            exact ih _ (by omega) (i + 1) _ _ tb le bx b9 h' b64 b85 hS hb9 ht9 hle hK rfl (by omega) (by omega) (by omega) (rnI_step hS (by omega) hrn (by first | exact Or.inl ⟨by omega, by omega, rfl⟩ | exact Or.inr ⟨by omega, rfl⟩) (by first | exact Or.inl ⟨by omega, rfl⟩ | exact Or.inr ⟨by omega, rfl⟩))
        · refine az_iload dX12_attempt_115 ?_
          refine az_iconst (v := nI 1) dX12_attempt_117 ?_
          refine az_iaddN dX12_attempt_118 ?_
          refine az_goto (tgt := 123) dX12_attempt_119 ?_
          refine az_istore (ls' := [(0, .ref 64), (1, .int (nI n)), (2, .int (nI 0)), (3, .int (nI X.length)), (4, .int bx), (5, .int (nI le)), (6, .int (nI tb)), (7, .int (nI be)), (8, .int (nI (ru + 1))), (9, .int (nI i))]) dX12_attempt_123 ?_
          refine az_iload dX12_attempt_125 ?_
          refine az_iload dX12_attempt_127 ?_
          refine az_icmp_leN (tgt := 137) dX12_attempt_129 (fun c129 => ?_) (fun c129 => ?_)
          · refine az_iload dX12_attempt_137 ?_
            refine az_istore (ls' := [(0, .ref 64), (1, .int (nI n)), (2, .int (nI 0)), (3, .int (nI X.length)), (4, .int bx), (5, .int (nI le)), (6, .int (nI tb)), (7, .int (nI be)), (8, .int (nI (ru + 1))), (9, .int (nI i))]) dX12_attempt_139 ?_
            refine az_iincN (n := 1) (ls' := [(0, .ref 64), (1, .int (nI n)), (2, .int (nI 0)), (3, .int (nI X.length)), (4, .int bx), (5, .int (nI le)), (6, .int (nI tb)), (7, .int (nI be)), (8, .int (nI (ru + 1))), (9, .int (nI (i + 1)))]) dX12_attempt_141 ?_
            refine az_goto (tgt := 70) dX12_attempt_144 ?_
            exact ih _ (by omega) (i + 1) _ _ tb le bx b9 h' b64 b85 hS hb9 ht9 hle hK rfl (by omega) (by omega) (by omega) (rnI_step hS (by omega) hrn (by first | exact Or.inl ⟨by omega, by omega, rfl⟩ | exact Or.inr ⟨by omega, rfl⟩) (by first | exact Or.inl ⟨by omega, rfl⟩ | exact Or.inr ⟨by omega, rfl⟩))
          · refine az_iload dX12_attempt_132 ?_
            refine az_goto (tgt := 139) dX12_attempt_134 ?_
            refine az_istore (ls' := [(0, .ref 64), (1, .int (nI n)), (2, .int (nI 0)), (3, .int (nI X.length)), (4, .int bx), (5, .int (nI le)), (6, .int (nI tb)), (7, .int (nI (ru + 1))), (8, .int (nI (ru + 1))), (9, .int (nI i))]) dX12_attempt_139 ?_
            refine az_iincN (n := 1) (ls' := [(0, .ref 64), (1, .int (nI n)), (2, .int (nI 0)), (3, .int (nI X.length)), (4, .int bx), (5, .int (nI le)), (6, .int (nI tb)), (7, .int (nI (ru + 1))), (8, .int (nI (ru + 1))), (9, .int (nI (i + 1)))]) dX12_attempt_141 ?_
            refine az_goto (tgt := 70) dX12_attempt_144 ?_
            exact ih _ (by omega) (i + 1) _ _ tb le bx b9 h' b64 b85 hS hb9 ht9 hle hK rfl (by omega) (by omega) (by omega) (rnI_step hS (by omega) hrn (by first | exact Or.inl ⟨by omega, by omega, rfl⟩ | exact Or.inr ⟨by omega, rfl⟩) (by first | exact Or.inl ⟨by omega, rfl⟩ | exact Or.inr ⟨by omega, rfl⟩))
  have loopT : ∀ (k : Nat) (tb le : Nat) (bx : Int32) (b9 : Nat → Nat) (h' : az_Hp), ln_tb (rd_w v) - tb = k → (tb ≤ ln_tb (rd_w v)) → (le < 2 ^ 31) → (h'.2 64 = some (mo_o sc)) → (h'.2 65 = some (az_I 3318 (fun j => nI (A j)))) → (h'.2 85 = some (az_J 19683 (fun j => lN (b9 j)))) → (∀ q, 6561 * tb ≤ q → b9 q = bh q) → (atI G tb le bx) → (X.length = 0 → tb = 0 ∧ h' = hp) → (mf hp h' [85]) → (mk hp → mk h') → az_W mX12_attempt d 0 0 35 [(0, .ref 64), (1, .int (nI n)), (2, .int (nI 0)), (3, .int (nI X.length)), (4, .int bx), (5, .int (nI le)), (6, .int (nI tb))] [] h' Q := by
    intro k
    induction k using Nat.strongRecOn with
    | _ k ih =>
    intro tb le bx b9 h' hk htb hle b64 b65 b85 hbu hat h00 mf1 mk1'
    refine az_iload dX12_attempt_35 ?_
    refine az_aload_n dX12_attempt_37 ?_
    refine az_getf (v := .ref 65) dX12_attempt_38 fl_X12_13 b64 ?_
    refine az_iconst (v := nI 1) dX12_attempt_41 ?_
    refine az_ialdN (j := 1) dX12_attempt_42 b65 ?_
    rw [hA1]
    refine az_icmp_geN (tgt := 171) dX12_attempt_43 (fun c43 => ?_) (fun c43 => ?_)
    · refine az_iload dX12_attempt_171 ?_
      exact az_iret dX12_attempt_173 (by by_cases e0 : X.length = 0; (obtain ⟨h0, rfl⟩ := h00 e0; rcases hat with ⟨-, hbx, -⟩ | ⟨hbx, -, -⟩; rw [hbx]; exact hQ0 e0; exact absurd h0 (by omega)); (obtain rfl : tb = ln_tb (rd_w v) := (by omega); rw [atI_end hat (by omega)]; exact hQ e0 h' mf1 mk1'))
    · refine az_iload_n dX12_attempt_46 ?_
      refine az_if_leN (tgt := 171) dX12_attempt_47 (fun c47 => ?_) (fun c47 => ?_)
      · refine az_iload dX12_attempt_171 ?_
        exact az_iret dX12_attempt_173 (by by_cases e0 : X.length = 0; (obtain ⟨h0, rfl⟩ := h00 e0; rcases hat with ⟨-, hbx, -⟩ | ⟨hbx, -, -⟩; rw [hbx]; exact hQ0 e0; exact absurd h0 (by omega)); (obtain rfl : tb = ln_tb (rd_w v) := (by omega); rw [atI_end hat (by omega)]; exact hQ e0 h' mf1 mk1'))
      · refine az_aload_n dX12_attempt_50 ?_
        refine az_sipush (v := nI 6561) dX12_attempt_51 ?_
        refine az_iload dX12_attempt_54 ?_
        refine az_imulN dX12_attempt_56 ?_
        refine az_iload_n dX12_attempt_57 ?_
        refine az_cV0 (st := []) dX12_attempt_58 ml_X12_468 b64 (m_sorts (d := d - 1) (off := 6561 * tb) (n := X.length) b64 b85 (by omega) (fun j hj => (by rw [hbu _ (by omega)]; exact hbh tb j (by omega) hj)) ?_)
        intro b2 z1 z2 z3
        have hG9 := hGl tb
        have hB2 : ∀ j, j < X.length → b2 (6561 * tb + j) ≤ 2 ^ 62 := (fun j hj => cn_mem (f := b2) (g := b9) (off := 6561 * tb) (n := X.length) (z3) (fun j hj => (by rw [hbu _ (by omega)]; exact hbh tb j (by omega) hj)) j hj)
        refine az_iconst (v := nI 0) dX12_attempt_61 ?_
        refine az_istore (ls' := [(0, .ref 64), (1, .int (nI n)), (2, .int (nI 0)), (3, .int (nI X.length)), (4, .int bx), (5, .int (nI le)), (6, .int (nI tb)), (7, .int (nI 0))]) dX12_attempt_62 ?_
        refine az_iconst (v := nI 0) dX12_attempt_64 ?_
        refine az_istore (ls' := [(0, .ref 64), (1, .int (nI n)), (2, .int (nI 0)), (3, .int (nI X.length)), (4, .int bx), (5, .int (nI le)), (6, .int (nI tb)), (7, .int (nI 0)), (8, .int (nI 0))]) dX12_attempt_65 ?_
        refine az_iconst (v := nI 0) dX12_attempt_67 ?_
        refine az_istore (ls' := [(0, .ref 64), (1, .int (nI n)), (2, .int (nI 0)), (3, .int (nI X.length)), (4, .int bx), (5, .int (nI le)), (6, .int (nI tb)), (7, .int (nI 0)), (8, .int (nI 0)), (9, .int (nI 0))]) dX12_attempt_68 ?_
        refine loopI _ 0 0 0 tb le bx b2 _ (az_up_ne b64) az_up_eq z2 hB2 (by omega) hle (fun be2 i2 ru2 hbe2 => ?_) rfl (Nat.zero_le _) (Nat.le_refl _) (Nat.le_refl _) ⟨fun q => absurd q (by omega), fun b => Nat.le_refl _, 0, rfl⟩
        obtain rfl : be2 = G tb := (by rw [hG]; exact (ta_mx_eq (by omega) (fun b => ((hcn tb (by omega) b).trans (cnR_congr (fun j hj => (hbu _ (by omega)).symm))).trans (z3 b).symm) hbe2.1 hbe2.2).symm)
        refine az_iload dX12_attempt_147 ?_
        refine az_iload dX12_attempt_149 ?_
        refine az_icmp_ltN (tgt := 157) dX12_attempt_151 (fun c151 => ?_) (fun c151 => ?_)
        · refine az_iload dX12_attempt_157 ?_
          refine az_istore (ls' := [(0, .ref 64), (1, .int (nI n)), (2, .int (nI 0)), (3, .int (nI X.length)), (4, .int (nI tb)), (5, .int (nI le)), (6, .int (nI tb)), (7, .int (nI (G tb))), (8, .int (nI ru2)), (9, .int (nI i2))]) dX12_attempt_159 ?_
          refine az_iload dX12_attempt_161 ?_
          refine az_istore (ls' := [(0, .ref 64), (1, .int (nI n)), (2, .int (nI 0)), (3, .int (nI X.length)), (4, .int (nI tb)), (5, .int (nI (G tb))), (6, .int (nI tb)), (7, .int (nI (G tb))), (8, .int (nI ru2)), (9, .int (nI i2))]) dX12_attempt_163 ?_
          refine az_iincN (n := 1) (ls' := [(0, .ref 64), (1, .int (nI n)), (2, .int (nI 0)), (3, .int (nI X.length)), (4, .int (nI tb)), (5, .int (nI (G tb))), (6, .int (nI (tb + 1))), (7, .int (nI (G tb))), (8, .int (nI ru2)), (9, .int (nI i2))]) dX12_attempt_165 ?_
          refine az_goto (tgt := 35) dX12_attempt_168 ?_
          refine az_W.keep [0, 1, 2, 3, 4, 5, 6] rfl ?_
          exact ih _ (by omega) (tb + 1) (G tb) (nI tb) b2 _ rfl (by omega) (by omega) (az_up_ne b64) (az_up_ne b65) az_up_eq (fun q hq => (by rw [z1 q (by omega)]; exact hbu q (by omega))) (atI_yes hat c151) (fun e => absurd e (by omega)) (mf1.up (by decide)) (fun q => mk.uJ (mk1' q) rfl)
        · refine az_goto (tgt := 165) dX12_attempt_154 ?_
          refine az_iincN (n := 1) (ls' := [(0, .ref 64), (1, .int (nI n)), (2, .int (nI 0)), (3, .int (nI X.length)), (4, .int bx), (5, .int (nI le)), (6, .int (nI (tb + 1))), (7, .int (nI (G tb))), (8, .int (nI ru2)), (9, .int (nI i2))]) dX12_attempt_165 ?_
          refine az_goto (tgt := 35) dX12_attempt_168 ?_
          refine az_W.keep [0, 1, 2, 3, 4, 5, 6] rfl ?_
          exact ih _ (by omega) (tb + 1) le bx b2 _ rfl (by omega) (by omega) (az_up_ne b64) (az_up_ne b65) az_up_eq (fun q hq => (by rw [z1 q (by omega)]; exact hbu q (by omega))) (atI_no hat (by omega) c151) (fun e => absurd e (by omega)) (mf1.up (by decide)) (fun q => mk.uJ (mk1' q) rfl)
  refine az_iconst (v := (-1)) dX12_attempt_24 ?_
  refine az_istore (ls' := [(0, .ref 64), (1, .int (nI n)), (2, .int (nI 0)), (3, .int (nI X.length)), (4, .int ((-1)))]) dX12_attempt_25 ?_
  refine az_ldcw (v := nI 268435456) dX12_attempt_27 cn_X12_427 ?_
  refine az_istore (ls' := [(0, .ref 64), (1, .int (nI n)), (2, .int (nI 0)), (3, .int (nI X.length)), (4, .int ((-1))), (5, .int (nI 268435456))]) dX12_attempt_30 ?_
  refine az_iconst (v := nI 0) dX12_attempt_32 ?_
  refine az_istore (ls' := [(0, .ref 64), (1, .int (nI n)), (2, .int (nI 0)), (3, .int (nI X.length)), (4, .int ((-1))), (5, .int (nI 268435456)), (6, .int (nI 0))]) dX12_attempt_33 ?_
  exact loopT _ 0 268435456 (-1) bh hp rfl (Nat.zero_le _) (by decide) h64 h65 h85 (fun _ _ => rfl) (Or.inl ⟨rfl, rfl, rfl⟩) (fun _ => ⟨rfl, rfl⟩) mf.rf (fun q => q)
set_option maxHeartbeats 4000000 in
set_option maxRecDepth 100000 in
theorem q_attempt {d : Nat} {x : Int32} {tp fk mo ni : Nat} {bt : Nat → Nat} {fp : Int32} {v : rd_V} {bs : List Nat} {U : ln_U} {im : Nat → Option (rd_V × ln_Z)} {tr : Nat → Option (Nat × List Int64)} {hp : az_Hp} {Q : Option Value → az_Hp → Prop} (hd : 16 ≤ d) (hok : cs_ok ((tp, bt), (fk, fp), v, (mo, ni, bs), U, im, tr)) (hM : mm hp ((tp, bt), (fk, fp), v, (mo, ni, bs), U, im, tr)) (hQ2 : (∀ n, n < 4 → x ≠ nI n) → ∀ h', mm h' ((tp, bt), (fk, fp), v, (mo, ni, bs), U, im, tr) → az_fr hp h' 64 93 → Q (some (.int (-2))) h') (hQ6 : ∀ n, x = nI n → n < 4 → tr n = none → ∀ h', mm h' ((tp, bt), (fk, fp), v, (mo, ni, bs), U, im, tr) → az_fr hp h' 64 93 → Q (some (.int (-6))) h') (hQ4 : ∀ n y, x = nI n → n < 4 → tr n = some y → ¬ (1 ≤ y.2.length ∧ y.2.length ≤ 8) → ∀ h', mm h' ((tp, bt), (fk, fp), v, (mo, ni, bs), U, im, tr) → az_fr hp h' 64 93 → Q (some (.int (-4))) h') (hQ3 : ∀ n y, x = nI n → n < 4 → tr n = some y → 1 ≤ y.2.length → y.2.length ≤ 8 → ¬ cs_ln y.2 (-1) → ∀ h', mm h' ((tp, bt), (fk, fp), v, (mo, ni, bs), U, im, tr) → az_fr hp h' 64 93 → Q (some (.int (-3))) h') (hQ0 : ∀ n y, x = nI n → n < 4 → tr n = some y → 1 ≤ y.2.length → y.2.length ≤ 8 → cs_ln y.2 (-1) → (fu_lg (rd_w v) (fun j => y.2.getD j 0) y.2.length 0 (fun x => (ln_str (rd_w v) bs).count x)).length = 0 → ∀ h', mm h' ((tp, bt), (fk, fp), v, (mo, ni, bs), U, im, tr) → az_fr hp h' 64 93 → Q (some (.int (-1))) h') (hQ : ∀ n y, x = nI n → n < 4 → tr n = some y → 1 ≤ y.2.length → y.2.length ≤ 8 → cs_ln y.2 (-1) → (fu_lg (rd_w v) (fun j => y.2.getD j 0) y.2.length 0 (fun x => (ln_str (rd_w v) bs).count x)).length ≠ 0 → ∀ h', mm h' ((tp, bt), (fk, fp), v, (mo, ni, bs), U, im, tr) → az_fr hp h' 64 93 → Q (some (.int (nI (fu_lv (fun tb => ta_mx tb (fu_ads (rd_w v) ((fu_lg (rd_w v) (fun j => y.2.getD j 0) y.2.length 0 (fun x => (ln_str (rd_w v) bs).count x)).map (fun r => fu_to (rd_w v) r (fun x => (ln_str (rd_w v) bs).count x))) [])) (ln_tb (rd_w v)))))) h') : az_M mX12_attempt d 0 0 [.ref 64, .int x] hp Q := by
  obtain ⟨sc0, A0, tf0, hI0, rs0, rm0, nu0, o1, o2, -⟩ := id hM
  have hgd : rd_good v := hok.2.2.1
  have hw : ln_ok (rd_w v) := hgd.1
  have hba : ln_ba (rd_w v) bs := hok.2.2.2.1
  have hb : ln_by (rd_w v) bs := hba.b
  have hlen := hb.2.2
  have h60 := hb.1
  have hU10 : U.length ≤ 10 := hok.2.2.2.2.1
  have ht1 := hw.1
  have ht3 := hw.2.1
  refine az_M.of rfl (Nat.le_of_ble_eq_true rfl) ?_
  show az_W _ _ _ _ 0 [(0, .ref 64), (1, .int x)] [] _ _
  refine az_aload_n dX12_attempt_0 ?_
  refine az_iconst (v := nI 0) dX12_attempt_1 ?_
  refine az_putf (fs' := [.int (nI 0), .ref 65, .ref 66, .ref 67, .ref 68, sc0 5, fI (sc0 6), sc0 7, sc0 8, fI (sc0 9), fI (sc0 10), sc0 11, fI (sc0 12), sc0 13, sc0 14, .ref 69, .ref 70, .ref 71, sc0 18, .ref 72, .ref 73, .ref 74, sc0 22, sc0 23, .ref 75, sc0 25, .ref 76, .ref 77, .ref 78, sc0 29, .ref 79, .ref 80, .ref 81, .ref 82, .ref 83, .ref 84, .ref 85, sc0 37, .ref 86, .ref 87, .ref 88, .ref 89, .ref 90, .ref 91, .ref 92]) dX12_attempt_2 fl_X12_1 o1 ?_
  obtain ⟨h1, hf1, hM1, hh1⟩ : ∃ h1, az_fr hp h1 64 93 ∧ mm h1 ((tp, bt), (fk, fp), v, (mo, ni, bs), U, im, tr) ∧ h1 = az_up hp 64 (mo_o (su sc0 0 (.int (nI 0)))) := ⟨_, az_fr.rf.up, hM.O (sc := su sc0 0 (.int (nI 0))) o2.1 o2.2.1 o2.2.2, rfl⟩
  rw [show (az_up hp 64 (az_O 11 [.int (nI 0), .ref 65, .ref 66, .ref 67, .ref 68, sc0 5, fI (sc0 6), sc0 7, sc0 8, fI (sc0 9), fI (sc0 10), sc0 11, fI (sc0 12), sc0 13, sc0 14, .ref 69, .ref 70, .ref 71, sc0 18, .ref 72, .ref 73, .ref 74, sc0 22, sc0 23, .ref 75, sc0 25, .ref 76, .ref 77, .ref 78, sc0 29, .ref 79, .ref 80, .ref 81, .ref 82, .ref 83, .ref 84, .ref 85, sc0 37, .ref 86, .ref 87, .ref 88, .ref 89, .ref 90, .ref 91, .ref 92])) = h1 from hh1.symm]
  obtain ⟨sc, A, tf, hI, rs, rm, nu, a1, a2, a3, a4, a5, a6, a7, a8, a9, a10, a11, a12, a13, a14⟩ := id hM1
  have a4 : mT A v (mo, ni, bs) := a4
  have a5 : mU A U := a5
  have a7 : mI A hI im := a7
  have a9 : ∀ j, j < tp → tf j = bt j := a9
  have a13 : mR rs rm nu tr := a13
  refine az_aload_n dX12_attempt_5 ?_
  refine az_iload_n dX12_attempt_6 ?_
  refine az_iconst (v := (-1)) dX12_attempt_7 ?_
  refine az_cV0 (st := []) dX12_attempt_8 ml_X12_462 a1 (m_noLong (d := d - 1) (lo := -1) (by omega) a1 a10 a11 a12 a13 ?_ ?_ ?_ ?_ ?_)
  · intro hno
    refine az_istore_n (ls' := [(0, .ref 64), (1, .int x), (2, .int ((-2)))]) dX12_attempt_11 ?_
    refine az_iload_n dX12_attempt_12 ?_
    refine az_if_eq (tgt := 18) dX12_attempt_13 (fun c13 => ?_) (fun c13 => ?_)
    · exact absurd c13 (by decide)
    · refine az_iload_n dX12_attempt_16 ?_
      exact az_iret dX12_attempt_17 (by first | exact hQ2 hno h1 hM1 hf1 | exact hQ6 n hx hn hno h1 hM1 hf1 | exact hQ4 n y hx hn hy hno h1 hM1 hf1 | exact hQ3 n y hx hn hy h1' h8' hno h1 hM1 hf1)
  · intro n hx hn hno
    refine az_istore_n (ls' := [(0, .ref 64), (1, .int x), (2, .int ((-6)))]) dX12_attempt_11 ?_
    refine az_iload_n dX12_attempt_12 ?_
    refine az_if_eq (tgt := 18) dX12_attempt_13 (fun c13 => ?_) (fun c13 => ?_)
    · exact absurd c13 (by decide)
    · refine az_iload_n dX12_attempt_16 ?_
      exact az_iret dX12_attempt_17 (by first | exact hQ2 hno h1 hM1 hf1 | exact hQ6 n hx hn hno h1 hM1 hf1 | exact hQ4 n y hx hn hy hno h1 hM1 hf1 | exact hQ3 n y hx hn hy h1' h8' hno h1 hM1 hf1)
  · intro n y hx hn hy hno
    refine az_istore_n (ls' := [(0, .ref 64), (1, .int x), (2, .int ((-4)))]) dX12_attempt_11 ?_
    refine az_iload_n dX12_attempt_12 ?_
    refine az_if_eq (tgt := 18) dX12_attempt_13 (fun c13 => ?_) (fun c13 => ?_)
    · exact absurd c13 (by decide)
    · refine az_iload_n dX12_attempt_16 ?_
      exact az_iret dX12_attempt_17 (by first | exact hQ2 hno h1 hM1 hf1 | exact hQ6 n hx hn hno h1 hM1 hf1 | exact hQ4 n y hx hn hy hno h1 hM1 hf1 | exact hQ3 n y hx hn hy h1' h8' hno h1 hM1 hf1)
  · intro n y hx hn hy h1' h8' hno
    rw [show (-1 : Int32).toInt64 = -1 from (by decide)] at hno
    refine az_istore_n (ls' := [(0, .ref 64), (1, .int x), (2, .int ((-3)))]) dX12_attempt_11 ?_
    refine az_iload_n dX12_attempt_12 ?_
    refine az_if_eq (tgt := 18) dX12_attempt_13 (fun c13 => ?_) (fun c13 => ?_)
    · exact absurd c13 (by decide)
    · refine az_iload_n dX12_attempt_16 ?_
      exact az_iret dX12_attempt_17 (by first | exact hQ2 hno h1 hM1 hf1 | exact hQ6 n hx hn hno h1 hM1 hf1 | exact hQ4 n y hx hn hy hno h1 hM1 hf1 | exact hQ3 n y hx hn hy h1' h8' hno h1 hM1 hf1)
  · intro n y hx hn hy h1' h8' hln
    rw [show (-1 : Int32).toInt64 = -1 from (by decide)] at hln
    have h3 := a13 n hn
    rw [hy] at h3
    obtain ⟨r1, r2, r3, r4, r5⟩ := h3
    refine az_istore_n (ls' := [(0, .ref 64), (1, .int x), (2, .int (nI 0))]) dX12_attempt_11 ?_
    refine az_iload_n dX12_attempt_12 ?_
    refine az_if_eqN (tgt := 18) dX12_attempt_13 (fun c13 => ?_) (fun c13 => ?_)
    · subst hx
      refine az_aload_n dX12_attempt_18 ?_
      refine az_iload_n dX12_attempt_19 ?_
      refine az_cV0 (st := []) dX12_attempt_20 ml_X12_465 a1 (m_laysLongRows (d := d - 1) (n := n) (y := y) (by omega) hw hb a1 a3 a4 a14 a11 a12 hn r2 h8' r5 ?_)
      intro h2 ti bh c64 c84 c85 hml mk2 mf2
      refine az_istore_n (ls' := [(0, .ref 64), (1, .int (nI n)), (2, .int (nI 0)), (3, .int (nI ((fu_lg (rd_w v) (fun j => y.2.getD j 0) y.2.length 0 (fun x => (ln_str (rd_w v) bs).count x)).length)))]) dX12_attempt_23 ?_
      exact m_attemptW (by omega) hw a4.1 c64 (mf2.at a3) c85 hml (Nat.le_trans (fu_lg_len hw _ _ _ _) (Nat.pow_le_pow_right (by decide) h8')) (fun tb r h1 h2 => lg_cap hw hb h8' h1 h2) (fun e => hQ0 n y rfl hn hy h1' h8' hln e h2 (hM1.of (L := [64, 71, 81, 83, 84, 85]) mf2 (by decide) mk2 c64 a2.1 a2.2.1 a2.2.2) (hf1.tr mf2.fr)) (fun e h3 m3 k3 => hQ n y rfl hn hy h1' h8' hln e h3 (hM1.of (L := [64, 71, 81, 83, 84, 85]) (mf2.tr m3 (by decide)) (by decide) (k3 mk2) (m3.at c64) a2.1 a2.2.1 a2.2.2) (hf1.tr (mf.fr (L := [64, 71, 81, 83, 84, 85]) (mf2.tr m3 (by decide)))))
    · exact absurd c13 (by omega)

