/-! Scene: orders, counts, nights -/
theorem getD_mem {l : List Nat} {i : Nat} (h : i < l.length) : l.getD i 0 ∈ l := by
  rw [List.getD_eq_getElem?_getD, List.getElem?_eq_getElem h]
  exact List.getElem_mem h
theorem mem_getD {l : List Nat} {x : Nat} (h : x ∈ l) : ∃ i, i < l.length ∧ l.getD i 0 = x := by
  obtain ⟨i, hi, rfl⟩ := List.mem_iff_getElem.mp h
  exact ⟨i, hi, by rw [List.getD_eq_getElem?_getD, List.getElem?_eq_getElem hi]; rfl⟩
theorem getD_snoc_lt {l : List Nat} {x i : Nat} (h : i < l.length) : (l ++ [x]).getD i 0 = l.getD i 0 := by
  rw [List.getD_eq_getElem?_getD, List.getD_eq_getElem?_getD, List.getElem?_append_left h]
theorem getD_snoc_eq {l : List Nat} {x : Nat} : (l ++ [x]).getD l.length 0 = x := by simp
/-- a row of ints tells a list of numbers -/
def tells (f : Nat → Int32) (l : List Nat) : Prop := ∀ i, i < l.length → f i = nI (l.getD i 0)
theorem tells_snoc {f : Nat → Int32} {l : List Nat} {x : Nat} (h : tells f l) : tells (az_s f l.length (nI x)) (l ++ [x]) := by
  intro i hi
  by_cases e : i = l.length
  · subst e
    rw [az_s_eq, getD_snoc_eq]
  · rw [az_s_ne e, getD_snoc_lt (by simp at hi; omega)]
    exact h i (by simp at hi; omega)
theorem room6 {acc : List Nat} {x : Nat} (hn : acc.Nodup) (h6 : ∀ y ∈ acc, y < 6) (hx : x < 6) (hm : ¬ x ∈ acc) : acc.length < 6 := by
  have := nodup_lt 6 (x :: acc) (List.nodup_cons.mpr ⟨hm, hn⟩) (fun y hy => by rcases List.mem_cons.mp hy with e | e; rw [e]; exact hx; exact h6 y e)
  simp at this
  omega
set_option maxRecDepth 100000 in
theorem s_enlisted {d o x : Nat} {acc : List Nat} {f : Nat → Int32} {hp : az_Hp} {Q : Option Value → az_Hp → Prop} (ho : hp.2 o = some (az_I 6 f)) (hf : tells f acc) (hn : acc.Nodup) (h6 : ∀ y ∈ acc, y < 6) (hx : x < 6) (hQ : ∀ g : Nat → Int32, tells g (ln_en acc x) → Q (some (.int (nI (ln_en acc x).length))) (az_up hp o (az_I 6 g))) : az_M mX6_enlisted d 0 0 [.ref o, .int (nI acc.length), .int (nI x)] hp Q := by
  have hlen : acc.length ≤ 6 := nodup_lt 6 acc hn h6
  have loop : ∀ (k : Nat) (i : Nat), acc.length - i = k → (i ≤ acc.length) → (∀ j, j < i → ¬ acc.getD j 0 = x) → az_W mX6_enlisted d 0 0 2 [(0, .ref o), (1, .int (nI acc.length)), (2, .int (nI x)), (3, .int (nI i))] [] hp Q := by
    intro k
    induction k using Nat.strongRecOn with
    | _ k ih =>
    intro i hk hi hne
    refine az_iload_n dX6_enlisted_2 ?_
    refine az_iload_n dX6_enlisted_3 ?_
    refine az_icmp_geN (tgt := 22) dX6_enlisted_4 (fun c4 => ?_) (fun c4 => ?_)
    · have hm : ¬ x ∈ acc := fun q => by obtain ⟨j, hj, e⟩ := mem_getD q; exact hne j (by omega) e
      have h66 := room6 hn h6 hx hm
      refine az_iload_n dX6_enlisted_22 ?_
      refine az_aload_n dX6_enlisted_23 ?_
      refine az_alen dX6_enlisted_24 ho ?_
      refine az_icmp_ltN (tgt := 30) dX6_enlisted_25 (fun c25 => ?_) (fun c25 => ?_)
      · refine az_aload_n dX6_enlisted_30 ?_
        refine az_iload_n dX6_enlisted_31 ?_
        refine az_iload_n dX6_enlisted_32 ?_
        refine az_iastN (j := acc.length) dX6_enlisted_33 ho ?_
        refine az_iload_n dX6_enlisted_34 ?_
        refine az_iconst (v := nI 1) dX6_enlisted_35 ?_
        refine az_iaddN dX6_enlisted_36 ?_
        have he : ln_en acc x = acc ++ [x] := by rw [ln_en, if_neg hm]
        have h9 := hQ (az_s f acc.length (nI x)) (by rw [he]; exact tells_snoc hf)
        rw [he, List.length_append] at h9
        exact az_iret dX6_enlisted_37 (h9)
      · exact absurd c25 (by omega)
    · refine az_aload_n dX6_enlisted_7 ?_
      refine az_iload_n dX6_enlisted_8 ?_
      have hb := h6 _ (getD_mem (show i < acc.length by omega))
      refine az_ialdN (j := i) dX6_enlisted_9 ho ?_
      rw [hf i (by omega)]
      refine az_iload_n dX6_enlisted_10 ?_
      refine az_icmp_neN (tgt := 16) dX6_enlisted_11 (fun c11 => ?_) (fun c11 => ?_)
      · refine az_iincN (n := 1) (ls' := [(0, .ref o), (1, .int (nI acc.length)), (2, .int (nI x)), (3, .int (nI (i + 1)))]) dX6_enlisted_16 ?_
        refine az_goto (tgt := 2) dX6_enlisted_19 ?_
        exact ih _ (by omega) (i + 1) rfl (by omega) (fun j hj => by by_cases e : j = i; rw [e]; exact c11; exact hne j (by omega))
      · refine az_iload_n dX6_enlisted_14 ?_
        have hm : x ∈ acc := c11 ▸ getD_mem (show i < acc.length by omega)
        have he : ln_en acc x = acc := by rw [ln_en, if_pos hm]
        have h9 := hQ f (by rw [he]; exact hf)
        rw [he, az_up_same ho] at h9
        exact az_iret dX6_enlisted_15 (h9)
  refine az_M.of rfl (Nat.le_of_ble_eq_true rfl) ?_
  show az_W _ _ _ _ 0 [(0, .ref o), (1, .int (nI acc.length)), (2, .int (nI x))] [] _ _
  refine az_iconst (v := nI 0) dX6_enlisted_0 ?_
  refine az_istore_n (ls' := [(0, .ref o), (1, .int (nI acc.length)), (2, .int (nI x)), (3, .int (nI 0))]) dX6_enlisted_1 ?_
  exact loop _ 0 rfl (Nat.zero_le _) (fun j hj => absurd hj (by omega))
/-- a scene at a: town, moon, nights; the tables of the waking nights -/
def ln_Scene (h : az_Hp) (a t : Nat) (w : ln_W) (mo ni : Nat) (bs : List Nat) : Prop := ∃ (hi fr la no wa : Nat → Int32) (nc : Nat → Int64),
  h.2 a = some (az_O 5 [.ref t, .int (nI mo), .int (nI ni), .int (nI bs.length), .long (lN (ln_str w bs).length), .int (nI (ln_dd (ln_str w bs)).length), .ref (a + 1), .ref (a + 2), .ref (a + 3), .ref (a + 4), .ref (a + 5), .ref (a + 6), .ref (a + 7)]) ∧ h.2 (a + 1) = some (az_J 6 (fun x => lN ((ln_str w bs).count x))) ∧ h.2 (a + 2) = some (az_I 60 hi) ∧ tells hi bs ∧ h.2 (a + 3) = some (az_I 6 fr) ∧ tells fr (ln_dd (ln_str w bs)) ∧ h.2 (a + 4) = some (az_I 6 la) ∧ tells la (ln_dd (ln_str w bs).reverse) ∧ h.2 (a + 5) = some (az_I 6 no) ∧ h.2 (a + 6) = some (az_J 6 nc) ∧ h.2 (a + 7) = some (az_I 64 wa)
/-- what holds of the nights so far -/
def ln_by (w : ln_W) (bs : List Nat) : Prop := bs.length ≤ 60 ∧ (∀ b ∈ bs, b < ln_tb w) ∧ (ln_str w bs).length ≤ 1000000000000
theorem dd_front {l : List Nat} (h : 0 < (ln_dd l).length) : (ln_dd l).getD 0 0 = l.head?.getD 6 := by
  rw [← dd_head l]
  cases hd : ln_dd l with
  | nil => rw [hd] at h; simp at h
  | cons x r => rfl
theorem dd_empty {l : List Nat} (h : (ln_dd l).length = 0) : l = [] := by
  cases l with
  | nil => rfl
  | cons x r =>
    have : x ∈ ln_dd (x :: r) := (dd_mem _ _).mpr List.mem_cons_self
    rw [List.length_eq_zero_iff.mp h] at this
    cases this
theorem dd_rev_len (l : List Nat) : (ln_dd l.reverse).length = (ln_dd l).length := by
  apply List.Perm.length_eq
  rw [List.perm_ext_iff_of_nodup (dd_nodup _) (dd_nodup _)]
  intro x
  rw [dd_mem, dd_mem, List.mem_reverse]
set_option maxRecDepth 100000 in
theorem s_frontLetter {d a t mo ni : Nat} {w : ln_W} {bs : List Nat} {hp : az_Hp} {Q : Option Value → az_Hp → Prop} (hw : ln_ok w) (hS : ln_Scene hp a t w mo ni bs) (hQ : Q (some (.int (nI ((ln_str w bs).head?.getD 6)))) hp) : az_M mX6_frontLetter d 0 0 [.ref a] hp Q := by
  obtain ⟨hi, fr, la, no, wa, nc, hS0, hS1, hS2, tS2, hS3, tS3, hS4, tS4, hS5, hS6, hS7⟩ := hS
  have hk6 := dd_len (ln_str_lt hw bs)
  refine az_M.of rfl (Nat.le_of_ble_eq_true rfl) ?_
  show az_W _ _ _ _ 0 [(0, .ref a)] [] _ _
  refine az_aload_n dX6_frontLetter_0 ?_
  refine az_getf (v := .int (nI ((ln_dd (ln_str w bs)).length))) dX6_frontLetter_1 fl_X6_64 hS0 ?_
  refine az_if_leN (tgt := 16) dX6_frontLetter_4 (fun c4 => ?_) (fun c4 => ?_)
  · rw [dd_empty (l := ln_str w bs) (by omega)] at hQ
    refine az_bipush (v := nI 6) dX6_frontLetter_16 ?_
    exact az_iret dX6_frontLetter_18 (hQ)
  · refine az_aload_n dX6_frontLetter_7 ?_
    refine az_getf (v := .ref (a + 3)) dX6_frontLetter_8 fl_X6_19 hS0 ?_
    refine az_iconst (v := nI 0) dX6_frontLetter_11 ?_
    refine az_ialdN (j := 0) dX6_frontLetter_12 hS3 ?_
    rw [tS3 0 (by omega), dd_front (by omega)]
    refine az_goto (tgt := 18) dX6_frontLetter_13 ?_
    exact az_iret dX6_frontLetter_18 (hQ)
set_option maxRecDepth 100000 in
theorem s_backLetter {d a t mo ni : Nat} {w : ln_W} {bs : List Nat} {hp : az_Hp} {Q : Option Value → az_Hp → Prop} (hw : ln_ok w) (hS : ln_Scene hp a t w mo ni bs) (hQ : Q (some (.int (nI ((ln_str w bs).reverse.head?.getD 6)))) hp) : az_M mX6_backLetter d 0 0 [.ref a] hp Q := by
  obtain ⟨hi, fr, la, no, wa, nc, hS0, hS1, hS2, tS2, hS3, tS3, hS4, tS4, hS5, hS6, hS7⟩ := hS
  have hk6 := dd_len (ln_str_lt hw bs)
  have hr := dd_rev_len (ln_str w bs)
  refine az_M.of rfl (Nat.le_of_ble_eq_true rfl) ?_
  show az_W _ _ _ _ 0 [(0, .ref a)] [] _ _
  refine az_aload_n dX6_backLetter_0 ?_
  refine az_getf (v := .int (nI ((ln_dd (ln_str w bs)).length))) dX6_backLetter_1 fl_X6_64 hS0 ?_
  refine az_if_leN (tgt := 16) dX6_backLetter_4 (fun c4 => ?_) (fun c4 => ?_)
  · rw [dd_empty (l := ln_str w bs) (by omega)] at hQ
    refine az_bipush (v := nI 6) dX6_backLetter_16 ?_
    exact az_iret dX6_backLetter_18 (hQ)
  · refine az_aload_n dX6_backLetter_7 ?_
    refine az_getf (v := .ref (a + 4)) dX6_backLetter_8 fl_X6_22 hS0 ?_
    refine az_iconst (v := nI 0) dX6_backLetter_11 ?_
    refine az_ialdN (j := 0) dX6_backLetter_12 hS4 ?_
    rw [tS4 0 (by omega), dd_front (by omega)]
    refine az_goto (tgt := 18) dX6_backLetter_13 ?_
    exact az_iret dX6_backLetter_18 (hQ)
/-- the kinds below k that stand there, as bits -/
def ln_sb (l : List Nat) : Nat → Nat
  | 0 => 0
  | k + 1 => ln_sb l k ||| (if 0 < l.count k then 2 ^ k else 0)
theorem ln_sb_lt (l : List Nat) {k : Nat} (h : k ≤ 6) : ln_sb l k < 64 := by
  induction k with
  | zero => exact Nat.zero_lt_succ _
  | succ k ih =>
    refine or_lt64 (ih (by omega)) ?_
    split
    · exact two_lt64 (by omega)
    · omega
theorem cnt_le (l : List Nat) (x : Nat) : l.count x ≤ l.length := List.count_le_length
set_option maxRecDepth 100000 in
theorem s_standingBits {d a t mo ni : Nat} {w : ln_W} {bs : List Nat} {hp : az_Hp} {Q : Option Value → az_Hp → Prop} (hb : ln_by w bs) (hS : ln_Scene hp a t w mo ni bs) (hQ : Q (some (.int (nI (ln_sb (ln_str w bs) 6)))) hp) : az_M mX6_standingBits d 0 0 [.ref a] hp Q := by
  obtain ⟨hi, fr, la, no, wa, nc, hS0, hS1, hS2, tS2, hS3, tS3, hS4, tS4, hS5, hS6, hS7⟩ := hS
  have hlen := hb.2.2
  have loop : ∀ (k : Nat) (i : Nat), 6 - i = k → (i ≤ 6) → az_W mX6_standingBits d 0 0 4 [(0, .ref a), (1, .int (nI (ln_sb (ln_str w bs) i))), (2, .int (nI i))] [] hp Q := by
    intro k
    induction k using Nat.strongRecOn with
    | _ k ih =>
    intro i hk h6
    refine az_iload_n dX6_standingBits_4 ?_
    refine az_bipush (v := nI 6) dX6_standingBits_5 ?_
    refine az_icmp_geN (tgt := 37) dX6_standingBits_7 (fun c7 => ?_) (fun c7 => ?_)
    · refine az_iload_n dX6_standingBits_37 ?_
      exact az_iret dX6_standingBits_38 (by rw [show i = 6 by omega]; exact hQ)
    · refine az_iload_n dX6_standingBits_10 ?_
      refine az_aload_n dX6_standingBits_11 ?_
      refine az_getf (v := .ref (a + 1)) dX6_standingBits_12 fl_X6_9 hS0 ?_
      refine az_iload_n dX6_standingBits_15 ?_
      refine az_laldN (j := i) dX6_standingBits_16 hS1 ?_
      have hc := cnt_le (ln_str w bs) i
      refine az_lconst (v := lN 0) dX6_standingBits_17 ?_
      refine az_lcmp_leN (tgt := 28) dX6_standingBits_18 dX6_standingBits_19 (fun c18 => ?_) (fun c18 => ?_)
      · refine az_iconst (v := nI 0) dX6_standingBits_28 ?_
        refine az_iorN dX6_standingBits_29 ?_
        try rw [show ln_sb (ln_str w bs) i ||| 2 ^ i = ln_sb (ln_str w bs) (i + 1) by rw [ln_sb, if_pos (by omega)]]
        try rw [show ln_sb (ln_str w bs) i ||| 0 = ln_sb (ln_str w bs) (i + 1) by rw [ln_sb, if_neg (by omega)]]
        refine az_istore_n (ls' := [(0, .ref a), (1, .int (nI (ln_sb (ln_str w bs) (i + 1)))), (2, .int (nI i))]) dX6_standingBits_30 ?_
        refine az_iincN (n := 1) (ls' := [(0, .ref a), (1, .int (nI (ln_sb (ln_str w bs) (i + 1)))), (2, .int (nI (i + 1)))]) dX6_standingBits_31 ?_
        refine az_goto (tgt := 4) dX6_standingBits_34 ?_
        exact ih _ (by omega) (i + 1) rfl (by omega)
      · refine az_iconst (v := nI 1) dX6_standingBits_22 ?_
        refine az_iload_n dX6_standingBits_23 ?_
        refine az_ishl1N dX6_standingBits_24 ?_
        refine az_goto (tgt := 29) dX6_standingBits_25 ?_
        refine az_iorN dX6_standingBits_29 ?_
        try rw [show ln_sb (ln_str w bs) i ||| 2 ^ i = ln_sb (ln_str w bs) (i + 1) by rw [ln_sb, if_pos (by omega)]]
        try rw [show ln_sb (ln_str w bs) i ||| 0 = ln_sb (ln_str w bs) (i + 1) by rw [ln_sb, if_neg (by omega)]]
        refine az_istore_n (ls' := [(0, .ref a), (1, .int (nI (ln_sb (ln_str w bs) (i + 1)))), (2, .int (nI i))]) dX6_standingBits_30 ?_
        refine az_iincN (n := 1) (ls' := [(0, .ref a), (1, .int (nI (ln_sb (ln_str w bs) (i + 1)))), (2, .int (nI (i + 1)))]) dX6_standingBits_31 ?_
        refine az_goto (tgt := 4) dX6_standingBits_34 ?_
        exact ih _ (by omega) (i + 1) rfl (by omega)
  refine az_M.of rfl (Nat.le_of_ble_eq_true rfl) ?_
  show az_W _ _ _ _ 0 [(0, .ref a)] [] _ _
  refine az_iconst (v := nI 0) dX6_standingBits_0 ?_
  refine az_istore_n (ls' := [(0, .ref a), (1, .int (nI 0))]) dX6_standingBits_1 ?_
  refine az_iconst (v := nI 0) dX6_standingBits_2 ?_
  refine az_istore_n (ls' := [(0, .ref a), (1, .int (nI 0)), (2, .int (nI 0))]) dX6_standingBits_3 ?_
  exact loop _ 0 rfl (Nat.zero_le _)
set_option maxRecDepth 100000 in
theorem s_spanBy {d a t mo ni tb : Nat} {w : ln_W} {bs : List Nat} {hp : az_Hp} {Q : Option Value → az_Hp → Prop} (hd : 1 ≤ d) (hw : ln_ok w) (hT : ln_Town hp t w) (hS : ln_Scene hp a t w mo ni bs) (h3 : tb < 3) (hQ : Q (some (.long (lN ((ln_str w bs).flatMap (ln_sub w tb)).length))) hp) : az_M mX6_spanBy d 0 0 [.ref a, .int (nI tb)] hp Q := by
  obtain ⟨hi, fr, la, no, wa, nc, hS0, hS1, hS2, tS2, hS3, tS3, hS4, tS4, hS5, hS6, hS7⟩ := hS
  obtain ⟨a4, a5, hT0, -⟩ := id hT
  rw [len_flat _ _ (ln_str_lt hw bs)] at hQ
  simp only [ln_sub_len] at hQ
  have loop : ∀ (k : Nat) (i : Nat), 6 - i = k → (i ≤ 6) → az_W mX6_spanBy d 0 0 5 [(0, .ref a), (1, .int (nI tb)), (2, .long (lN (sm (fun z => (ln_str w bs).count z * ln_sz w (tb * 6 + z)) i))), (4, .int (nI i))] [] hp Q := by
    intro k
    induction k using Nat.strongRecOn with
    | _ k ih =>
    intro i hk h6
    refine az_iload dX6_spanBy_5 ?_
    refine az_bipush (v := nI 6) dX6_spanBy_7 ?_
    refine az_icmp_geN (tgt := 40) dX6_spanBy_9 (fun c9 => ?_) (fun c9 => ?_)
    · refine az_lload_n dX6_spanBy_40 ?_
      exact az_lret dX6_spanBy_41 (by rw [show i = 6 by omega]; exact hQ)
    · refine az_lload_n dX6_spanBy_12 ?_
      refine az_aload_n dX6_spanBy_13 ?_
      refine az_getf (v := .ref (a + 1)) dX6_spanBy_14 fl_X6_9 hS0 ?_
      refine az_iload dX6_spanBy_17 ?_
      refine az_laldN (j := i) dX6_spanBy_19 hS1 ?_
      refine az_aload_n dX6_spanBy_20 ?_
      refine az_getf (v := .ref t) dX6_spanBy_21 fl_X6_40 hS0 ?_
      refine az_iload_n dX6_spanBy_24 ?_
      refine az_iload dX6_spanBy_25 ?_
      refine az_cV0 (st := [.long (lN ((ln_str w bs).count i)), .long (lN (sm (fun z => (ln_str w bs).count z * ln_sz w (tb * 6 + z)) i))]) dX6_spanBy_27 ml_X6_137 hT0 (s_sizeOf (d := d - 1) hT h3 (lt := i) (by omega) ?_)
      have hz := hw.2.2.2.2.2.2.1 (tb * 6 + i)
      refine az_i2lN dX6_spanBy_30 ?_
      refine az_lmulN dX6_spanBy_31 ?_
      refine az_laddN dX6_spanBy_32 ?_
      refine az_lstore_n (ls' := [(0, .ref a), (1, .int (nI tb)), (2, .long (lN (sm (fun z => (ln_str w bs).count z * ln_sz w (tb * 6 + z)) (i + 1)))), (4, .int (nI i))]) dX6_spanBy_33 ?_
      refine az_iincN (n := 1) (ls' := [(0, .ref a), (1, .int (nI tb)), (2, .long (lN (sm (fun z => (ln_str w bs).count z * ln_sz w (tb * 6 + z)) (i + 1)))), (4, .int (nI (i + 1)))]) dX6_spanBy_34 ?_
      refine az_goto (tgt := 5) dX6_spanBy_37 ?_
      exact ih _ (by omega) (i + 1) rfl (by omega)
  refine az_M.of rfl (Nat.le_of_ble_eq_true rfl) ?_
  show az_W _ _ _ _ 0 [(0, .ref a), (1, .int (nI tb))] [] _ _
  refine az_lconst (v := lN 0) dX6_spanBy_0 ?_
  refine az_lstore_n (ls' := [(0, .ref a), (1, .int (nI tb)), (2, .long (lN 0))]) dX6_spanBy_1 ?_
  refine az_iconst (v := nI 0) dX6_spanBy_2 ?_
  refine az_istore (ls' := [(0, .ref a), (1, .int (nI tb)), (2, .long (lN 0)), (4, .int (nI 0))]) dX6_spanBy_3 ?_
  exact loop _ 0 rfl (Nat.zero_le _)
