/-! The model: what lies in its heap -/
/-- a cell that holds an int -/
def fI (v : Value) : Value := match v with
  | .int x => .int x
  | _ => .int 0
abbrev mo_o (sc : Nat → Value) : az_C := az_O 11 [sc 0, .ref 65, .ref 66, .ref 67, .ref 68, sc 5, fI (sc 6), sc 7, sc 8, fI (sc 9), fI (sc 10), sc 11, fI (sc 12), sc 13, sc 14, .ref 69, .ref 70, .ref 71, sc 18, .ref 72, .ref 73, .ref 74, sc 22, sc 23, .ref 75, sc 25, .ref 76, .ref 77, .ref 78, sc 29, .ref 79, .ref 80, .ref 81, .ref 82, .ref 83, .ref 84, .ref 85, sc 37, .ref 86, .ref 87, .ref 88, .ref 89, .ref 90, .ref 91, .ref 92]
/-- a law: told or not, where its codes lie -/
def mL (A : Nat → Nat) (l : Nat) (k : List Nat) : Prop := (k = [] → A (105 + l) = 0) ∧ (k ≠ [] → A (105 + l) = 1 ∧ A (109 + l) = k.length ∧ A (107 + l) + k.length ≤ 900 ∧ ∀ i, i < k.length → A (206 + A (107 + l) + i) = k.getD i 0)
/-- the town's words in the row of numbers -/
def mV (A : Nat → Nat) (v : rd_V) : Prop := A 0 = v.2.2.1 ∧ A 1 = v.1 ∧ A 2 = v.2.2.2.1 ∧ (∀ k, k < v.2.2.2.1 → A (3 + k) = v.2.2.2.2.1 k) ∧ (∀ r, r < 18 → A (15 + 5 * r) = v.2.2.2.2.2.1 r) ∧ (∀ r i, r < 18 → i < v.2.2.2.2.2.1 r → A (15 + 5 * r + 1 + i) = v.2.2.2.2.2.2.1 (r * 4 + i)) ∧ mL A 0 v.2.2.2.2.2.2.2.1 ∧ mL A 1 v.2.2.2.2.2.2.2.2
/-- moon, nights, tables of the waking nights -/
def mZ (A : Nat → Nat) (z : ln_Z) : Prop := A 111 = z.1 ∧ A 112 = z.2.1 ∧ A 113 = z.2.2.length ∧ ∀ k, k < z.2.2.length → A (145 + k) = z.2.2.getD k 0
abbrev mT (A : Nat → Nat) (v : rd_V) (z : ln_Z) : Prop := mV A v ∧ mZ A z
def mU (A : Nat → Nat) (U : ln_U) : Prop := A 114 = U.length ∧ ∀ k, k < U.length → A (115 + 3 * k) = (U.getD k (0, 0, 0)).2.2 ∧ A (115 + 3 * k + 1) = (U.getD k (0, 0, 0)).2.1 ∧ A (115 + 3 * k + 2) = (U.getD k (0, 0, 0)).1
def mo_sh : Nat → Bool × Nat | 68 => (false, 1106) | 69 => (false, 12) | 70 => (true, 366) | 71 => (true, 366) | 72 => (false, 900) | 73 => (false, 5) | 74 => (false, 3) | 75 => (false, 60) | 76 => (false, 2196) | 77 => (false, 6) | 78 => (true, 2196) | 79 => (false, 7) | 80 => (false, 6) | 81 => (true, 84) | 82 => (false, 64) | 83 => (false, 8) | 84 => (false, 8) | 85 => (true, 19683) | 86 => (true, 64) | 87 => (true, 64) | 88 => (true, 6) | 89 => (true, 6) | _ => (false, 0)
def mk1 (h : az_Hp) (q : Nat) : Prop := match mo_sh q with
  | (true, n) => ∃ f, h.2 q = some (az_J n f)
  | (false, n) => ∃ f, h.2 q = some (az_I n f)
def mk (h : az_Hp) : Prop := ∀ q, 68 ≤ q → q < 90 → mk1 h q
def mI (A : Nat → Nat) (hI : Nat → Int32) (im : Nat → Option (rd_V × ln_Z)) : Prop := ∀ i, i < 2 → match im i with
  | none => hI i = nI 0
  | some x => hI i = nI 1 ∧ mT (fun k => A (1106 * (i + 1) + k)) x.1 x.2
def mR (rs rm : Nat → Int32) (nu : Nat → Int64) (tr : Nat → Option (Nat × List Int64)) : Prop := ∀ i, i < 4 → match tr i with
  | none => rs i = (-1)
  | some y => rs i = nI y.1 ∧ rm i = nI y.2.length ∧ y.1 ≤ 3 ∧ y.2.length ≤ 40 ∧ ∀ j, j < y.2.length → nu (40 * i + j) = y.2.getD j 0
def mm (h : az_Hp) (s : cs_S) : Prop := ∃ (sc : Nat → Value) (A tf : Nat → Nat) (hI rs rm : Nat → Int32) (nu : Nat → Int64), h.2 64 = some (mo_o sc) ∧ (sc 5 = .int (nI s.1.1) ∧ sc 13 = .int (nI s.2.1.1) ∧ sc 14 = .int s.2.1.2) ∧ h.2 65 = some (az_I 3318 (fun j => nI (A j))) ∧ mT A s.2.2.1 s.2.2.2.1 ∧ mU A s.2.2.2.2.1 ∧ h.2 66 = some (az_Z 2 hI) ∧ mI A hI s.2.2.2.2.2.1 ∧ h.2 67 = some (az_I 900 (fun j => nI (tf j))) ∧ (∀ j, j < s.1.1 → tf j = s.1.2 j) ∧ h.2 90 = some (az_I 4 rs) ∧ h.2 91 = some (az_I 4 rm) ∧ h.2 92 = some (az_J 160 nu) ∧ mR rs rm nu s.2.2.2.2.2.2 ∧ mk h
theorem mk.up {h : az_Hp} {q : Nat} {c : az_C} (H : mk h) (hq : q < 68 ∨ 90 ≤ q ∨ mk1 (az_up h q c) q) : mk (az_up h q c) := by
  intro a h1 h2
  by_cases e : a = q
  · rw [e] at h1 h2 ⊢
    rcases hq with g | g | g
    · omega
    · omega
    · exact g
  · have g := H a h1 h2
    unfold mk1 at g ⊢
    rw [show (az_up h q c).2 a = h.2 a from az_up_ne rfl e]
    exact g
theorem mk1.J {h : az_Hp} {q n : Nat} {f : Nat → Int64} (hs : mo_sh q = (true, n)) : mk1 (az_up h q (az_J n f)) q := by
  unfold mk1
  rw [hs]
  exact ⟨f, az_up_eq⟩
theorem mk1.I {h : az_Hp} {q n : Nat} {f : Nat → Int32} (hs : mo_sh q = (false, n)) : mk1 (az_up h q (az_I n f)) q := by
  unfold mk1
  rw [hs]
  exact ⟨f, az_up_eq⟩
theorem mk.J {h : az_Hp} (H : mk h) {q n : Nat} (h1 : 68 ≤ q := by decide) (h2 : q < 90 := by decide) (hs : mo_sh q = (true, n) := by rfl) : ∃ f, h.2 q = some (az_J n f) := by
  have g := H q h1 h2
  unfold mk1 at g
  rw [hs] at g
  exact g
theorem mk.I {h : az_Hp} (H : mk h) {q n : Nat} (h1 : 68 ≤ q := by decide) (h2 : q < 90 := by decide) (hs : mo_sh q = (false, n) := by rfl) : ∃ f, h.2 q = some (az_I n f) := by
  have g := H q h1 h2
  unfold mk1 at g
  rw [hs] at g
  exact g
/-- what is written into a row for reckoning changes nothing of the state -/
theorem mm.up {h : az_Hp} {s : cs_S} {q : Nat} {c : az_C} (H : mm h s) (h1 : 68 ≤ q) (h2 : q < 90) (hk : mk1 (az_up h q c) q) : mm (az_up h q c) s := by
  obtain ⟨sc, A, tf, hI, rs, rm, nu, a1, a2, a3, a4, a5, a6, a7, a8, a9, a10, a11, a12, a13, a14⟩ := H
  exact ⟨sc, A, tf, hI, rs, rm, nu, az_up_ne a1, a2, az_up_ne a3, a4, a5, az_up_ne a6, a7, az_up_ne a8, a9, az_up_ne a10, az_up_ne a11, az_up_ne a12, a13, a14.up (Or.inr (Or.inr hk))⟩
theorem mm.J {h : az_Hp} {s : cs_S} {q n : Nat} {f : Nat → Int64} (H : mm h s) (h1 : 68 ≤ q := by decide) (h2 : q < 90 := by decide) (hs : mo_sh q = (true, n) := by rfl) : mm (az_up h q (az_J n f)) s := H.up h1 h2 (mk1.J hs)
theorem mm.I {h : az_Hp} {s : cs_S} {q n : Nat} {f : Nat → Int32} (H : mm h s) (h1 : 68 ≤ q := by decide) (h2 : q < 90 := by decide) (hs : mo_sh q = (false, n) := by rfl) : mm (az_up h q (az_I n f)) s := H.up h1 h2 (mk1.I hs)
theorem mm.O {h : az_Hp} {s : cs_S} {sc : Nat → Value} (H : mm h s) (h5 : sc 5 = .int (nI s.1.1)) (h13 : sc 13 = .int (nI s.2.1.1)) (h14 : sc 14 = .int s.2.1.2) : mm (az_up h 64 (mo_o sc)) s := by
  obtain ⟨sc0, A, tf, hI, rs, rm, nu, a1, a2, a3, a4, a5, a6, a7, a8, a9, a10, a11, a12, a13, a14⟩ := H
  exact ⟨sc, A, tf, hI, rs, rm, nu, az_up_eq, ⟨h5, h13, h14⟩, az_up_ne a3, a4, a5, az_up_ne a6, a7, az_up_ne a8, a9, az_up_ne a10, az_up_ne a11, az_up_ne a12, a13, a14.up (Or.inl (by decide))⟩
theorem az_W.self {M : az_Me} {d rc rs pc a : Nat} {ls : List (Nat × Value)} {st : List Value} {hp : az_Hp} {c : az_C} {Q : Option Value → az_Hp → Prop} (e : hp.2 a = some c) (H : az_W M d rc rs pc ls st (az_up hp a c) Q) : az_W M d rc rs pc ls st hp Q := by
  rw [az_up_same e] at H
  exact H
theorem lN_2 {a b : Nat} (h : nI a = nI b) (ha : a < 2 ^ 31) (hb : b < 2 ^ 31) : a = b := by
  have := congrArg Int32.toInt h
  rw [nI_toI ha, nI_toI hb] at this
  omega
theorem nI_64 {n : Nat} (h : n < 2 ^ 31) : (nI n).toInt64 = lN n := by
  apply Int64.toInt_inj.mp
  rw [Int32.toInt_toInt64, nI_toI h, lN_toI (by omega)]
theorem I_64 {x : Int32} (h : ¬ x.toInt64 < lN 0) : ∃ n : Nat, n < 2 ^ 31 ∧ x = nI n := by
  apply I_of
  intro c
  apply h
  rw [Int64.lt_iff_toInt_lt, Int32.toInt_toInt64, lN_toI (by decide)]
  rw [Int32.lt_iff_toInt_lt] at c
  have q4 : (0 : Int32).toInt = 0 := by decide
  omega
set_option maxHeartbeats 4000000 in
set_option maxRecDepth 100000 in
theorem m_within {d : Nat} {x lo hi : Int64} {hp : az_Hp} {Q : Option Value → az_Hp → Prop} (hQ1 : ¬ x < lo → ¬ hi < x → Q (some (.int (nI 1))) hp) (hQ0 : (x < lo ∨ hi < x) → Q (some (.int (nI 0))) hp) : az_M mX12_within d 0 0 [.long x, .long lo, .long hi] hp Q := by
  refine az_M.of rfl (Nat.le_of_ble_eq_true rfl) ?_
  show az_W _ _ _ _ 0 [(0, .long x), (2, .long lo), (4, .long hi)] [] _ _
  refine az_lload_n dX12_within_0 ?_
  refine az_lload_n dX12_within_1 ?_
  refine az_lcmp_lt (tgt := 17) dX12_within_2 dX12_within_3 (fun c2 => ?_) (fun c2 => ?_)
  · refine az_iconst (v := nI 0) dX12_within_17 ?_
    exact az_iret dX12_within_18 (by first | exact hQ1 c2 c9 | exact hQ0 (Or.inl c2) | exact hQ0 (Or.inr c9))
  · refine az_lload_n dX12_within_6 ?_
    refine az_lload dX12_within_7 ?_
    refine az_lcmp_gt (tgt := 17) dX12_within_9 dX12_within_10 (fun c9 => ?_) (fun c9 => ?_)
    · refine az_iconst (v := nI 0) dX12_within_17 ?_
      exact az_iret dX12_within_18 (by first | exact hQ1 c2 c9 | exact hQ0 (Or.inl c2) | exact hQ0 (Or.inr c9))
    · refine az_iconst (v := nI 1) dX12_within_13 ?_
      refine az_goto (tgt := 18) dX12_within_14 ?_
      exact az_iret dX12_within_18 (by first | exact hQ1 c2 c9 | exact hQ0 (Or.inl c2) | exact hQ0 (Or.inr c9))
theorem m_withinI {d lo hi : Nat} {x : Int32} {hp : az_Hp} {Q : Option Value → az_Hp → Prop} (hh : hi < 2 ^ 31) (hl : lo < 2 ^ 31) (hQ1 : ∀ n, x = nI n → lo ≤ n → n ≤ hi → Q (some (.int (nI 1))) hp) (hQ0 : (∀ n, lo ≤ n → n ≤ hi → x ≠ nI n) → Q (some (.int (nI 0))) hp) : az_M mX12_within d 0 0 [.long x.toInt64, .long (lN lo), .long (lN hi)] hp Q := by
  refine m_within (fun h1 h2 => ?_) (fun h => ?_)
  · obtain ⟨n, hn, rfl⟩ := I_64 (x := x) (fun c => h1 (by
      rw [Int64.lt_iff_toInt_lt, lN_toI (by omega)] at c ⊢
      omega))
    rw [nI_64 hn] at h1 h2
    rw [lN_ltN (by omega) (by omega)] at h1 h2
    exact hQ1 n rfl (by omega) (by omega)
  · refine hQ0 (fun n h1 h2 e => ?_)
    rw [e, nI_64 (by omega)] at h
    rw [lN_ltN (by omega) (by omega), lN_ltN (by omega) (by omega)] at h
    omega
theorem m_withinJ {d lo hi : Nat} {x : Int64} {hp : az_Hp} {Q : Option Value → az_Hp → Prop} (hh : hi < 2 ^ 63) (hl : lo < 2 ^ 63) (hQ1 : ∀ n, x = lN n → lo ≤ n → n ≤ hi → Q (some (.int (nI 1))) hp) (hQ0 : (∀ n, lo ≤ n → n ≤ hi → x ≠ lN n) → Q (some (.int (nI 0))) hp) : az_M mX12_within d 0 0 [.long x, .long (lN lo), .long (lN hi)] hp Q := by
  refine m_within (fun h1 h2 => ?_) (fun h => ?_)
  · obtain ⟨n, hn, rfl⟩ := J_of (x := x) (fun c => h1 (by
      rw [Int64.lt_iff_toInt_lt, lN_toI (by omega)] at c ⊢
      omega))
    rw [lN_ltN (by omega) (by omega)] at h1 h2
    exact hQ1 n rfl (by omega) (by omega)
  · refine hQ0 (fun n h1 h2 e => ?_)
    rw [e] at h
    rw [lN_ltN (by omega) (by omega), lN_ltN (by omega) (by omega)] at h
    omega
set_option maxHeartbeats 4000000 in
set_option maxRecDepth 100000 in
theorem m_isLetterI {d : Nat} {x : Int32} {hp : az_Hp} {Q : Option Value → az_Hp → Prop} (hd : 1 ≤ d) (hQ1 : ∀ n, x = nI n → n < 6 → Q (some (.int (nI 1))) hp) (hQ0 : (∀ n, n < 6 → x ≠ nI n) → Q (some (.int (nI 0))) hp) : az_M mX12_isLetter d 0 0 [.long x.toInt64] hp Q := by
  refine az_M.of rfl (Nat.le_of_ble_eq_true rfl) ?_
  show az_W _ _ _ _ 0 [(0, .long x.toInt64)] [] _ _
  refine az_lload_n dX12_isLetter_0 ?_
  refine az_lconst (v := lN 0) dX12_isLetter_1 ?_
  refine az_ldc2 (v := lN 5) dX12_isLetter_2 cn_X12_235 ?_
  refine az_cS0 (st := []) dX12_isLetter_5 ml_X12_169 (m_withinI (d := d - 1) (lo := 0) (hi := 5) (by decide) (by decide) ?_ ?_)
  · intro n hx h1 h2
    exact az_iret dX12_isLetter_8 (by first | exact hQ1 n hx (by omega) | exact hQ0 (fun n hn => hx n (by omega) (by omega)))
  · intro hx
    exact az_iret dX12_isLetter_8 (by first | exact hQ1 n hx (by omega) | exact hQ0 (fun n hn => hx n (by omega) (by omega)))
set_option maxHeartbeats 4000000 in
set_option maxRecDepth 100000 in
theorem m_isLetterJ {d : Nat} {x : Int64} {hp : az_Hp} {Q : Option Value → az_Hp → Prop} (hd : 1 ≤ d) (hQ1 : ∀ n, x = lN n → n < 6 → Q (some (.int (nI 1))) hp) (hQ0 : (∀ n, n < 6 → x ≠ lN n) → Q (some (.int (nI 0))) hp) : az_M mX12_isLetter d 0 0 [.long x] hp Q := by
  refine az_M.of rfl (Nat.le_of_ble_eq_true rfl) ?_
  show az_W _ _ _ _ 0 [(0, .long x)] [] _ _
  refine az_lload_n dX12_isLetter_0 ?_
  refine az_lconst (v := lN 0) dX12_isLetter_1 ?_
  refine az_ldc2 (v := lN 5) dX12_isLetter_2 cn_X12_235 ?_
  refine az_cS0 (st := []) dX12_isLetter_5 ml_X12_169 (m_withinJ (d := d - 1) (lo := 0) (hi := 5) (by decide) (by decide) ?_ ?_)
  · intro n hx h1 h2
    exact az_iret dX12_isLetter_8 (by first | exact hQ1 n hx (by omega) | exact hQ0 (fun n hn => hx n (by omega) (by omega)))
  · intro hx
    exact az_iret dX12_isLetter_8 (by first | exact hQ1 n hx (by omega) | exact hQ0 (fun n hn => hx n (by omega) (by omega)))
set_option maxHeartbeats 4000000 in
set_option maxRecDepth 100000 in
theorem m_isTable {d : Nat} {sc : Nat → Value} {A : Nat → Nat} {v : rd_V} {hp : az_Hp} {Q : Option Value → az_Hp → Prop} {x : Int32} (hd : 1 ≤ d) (hw : ln_ok (rd_w v)) (h64 : hp.2 64 = some (mo_o sc)) (h65 : hp.2 65 = some (az_I 3318 (fun j => nI (A j)))) (hV : mV A v) (hQ1 : ∀ n, x = nI n → n < ln_tb (rd_w v) → Q (some (.int (nI 1))) hp) (hQ0 : (∀ n, n < ln_tb (rd_w v) → x ≠ nI n) → Q (some (.int (nI 0))) hp) : az_M mX12_isTable d 0 0 [.ref 64, .int x] hp Q := by
  have hA1 : A 1 = ln_tb (rd_w v) := hV.2.1
  have hw1 := hw.1
  have hw2 := hw.2.1
  refine az_M.of rfl (Nat.le_of_ble_eq_true rfl) ?_
  show az_W _ _ _ _ 0 [(0, .ref 64), (1, .int x)] [] _ _
  refine az_iload_n dX12_isTable_0 ?_
  refine az_i2l dX12_isTable_1 ?_
  refine az_lconst (v := lN 0) dX12_isTable_2 ?_
  refine az_aload_n dX12_isTable_3 ?_
  refine az_getf (v := .ref 65) dX12_isTable_4 fl_X12_13 h64 ?_
  refine az_iconst (v := nI 1) dX12_isTable_7 ?_
  refine az_ialdN (j := 1) dX12_isTable_8 h65 ?_
  rw [hA1]
  refine az_iconst (v := nI 1) dX12_isTable_9 ?_
  refine az_isubN dX12_isTable_10 (by omega) ?_
  refine az_i2lN dX12_isTable_11 ?_
  refine az_cS0 (st := []) dX12_isTable_12 ml_X12_169 (m_withinI (d := d - 1) (lo := 0) (hi := ln_tb (rd_w v) - 1) (by omega) (by decide) ?_ ?_)
  · intro n hx h1 h2
    exact az_iret dX12_isTable_15 (by first | exact hQ1 n hx (by omega) | exact hQ0 (fun n hn => hx n (by omega) (by omega)))
  · intro hx
    exact az_iret dX12_isTable_15 (by first | exact hQ1 n hx (by omega) | exact hQ0 (fun n hn => hx n (by omega) (by omega)))
set_option maxHeartbeats 4000000 in
set_option maxRecDepth 100000 in
theorem m_becomeMany {d : Nat} {sc : Nat → Value} {A : Nat → Nat} {v : rd_V} {hp : az_Hp} {Q : Option Value → az_Hp → Prop} {tb x : Nat} (h64 : hp.2 64 = some (mo_o sc)) (h65 : hp.2 65 = some (az_I 3318 (fun j => nI (A j)))) (hV : mV A v) (ht : tb < 3) (hx : x < 6) (hQ : Q (some (.int (nI (ln_sz (rd_w v) (tb * 6 + x))))) hp) : az_M mX12_becomeMany d 0 0 [.ref 64, .int (nI tb), .int (nI x)] hp Q := by
  have hA1 : A (15 + 5 * (6 * tb + x)) = ln_sz (rd_w v) (tb * 6 + x) := by
    rw [show 6 * tb + x = tb * 6 + x by omega]
    exact hV.2.2.2.2.1 _ (by omega)
  refine az_M.of rfl (Nat.le_of_ble_eq_true rfl) ?_
  show az_W _ _ _ _ 0 [(0, .ref 64), (1, .int (nI tb)), (2, .int (nI x))] [] _ _
  refine az_aload_n dX12_becomeMany_0 ?_
  refine az_getf (v := .ref 65) dX12_becomeMany_1 fl_X12_13 h64 ?_
  refine az_bipush (v := nI 15) dX12_becomeMany_4 ?_
  refine az_iconst (v := nI 5) dX12_becomeMany_6 ?_
  refine az_bipush (v := nI 6) dX12_becomeMany_7 ?_
  refine az_iload_n dX12_becomeMany_9 ?_
  refine az_imulN dX12_becomeMany_10 ?_
  refine az_iload_n dX12_becomeMany_11 ?_
  refine az_iaddN dX12_becomeMany_12 ?_
  refine az_imulN dX12_becomeMany_13 ?_
  refine az_iaddN dX12_becomeMany_14 ?_
  refine az_ialdN (j := 15 + (5 * ((6 * tb) + x))) dX12_becomeMany_15 h65 ?_
  rw [hA1]
  exact az_iret dX12_becomeMany_16 (hQ)
set_option maxHeartbeats 4000000 in
set_option maxRecDepth 100000 in
theorem m_becomeOf {d : Nat} {sc : Nat → Value} {A : Nat → Nat} {v : rd_V} {hp : az_Hp} {Q : Option Value → az_Hp → Prop} {tb x i : Nat} (h64 : hp.2 64 = some (mo_o sc)) (h65 : hp.2 65 = some (az_I 3318 (fun j => nI (A j)))) (hV : mV A v) (hw : ln_ok (rd_w v)) (ht : tb < 3) (hx : x < 6) (hi : i < ln_sz (rd_w v) (tb * 6 + x)) (hQ : Q (some (.int (nI (ln_ch (rd_w v) ((tb * 6 + x) * 4 + i))))) hp) : az_M mX12_becomeOf d 0 0 [.ref 64, .int (nI tb), .int (nI x), .int (nI i)] hp Q := by
  have hi4 : i < 4 := Nat.lt_of_lt_of_le hi (hw.2.2.2.2.2.2.1 _)
  have hA1 : A (15 + 5 * (6 * tb + x) + 1 + i) = ln_ch (rd_w v) ((tb * 6 + x) * 4 + i) := by
    rw [show 6 * tb + x = tb * 6 + x by omega]
    exact hV.2.2.2.2.2.1 _ _ (by omega) hi
  refine az_M.of rfl (Nat.le_of_ble_eq_true rfl) ?_
  show az_W _ _ _ _ 0 [(0, .ref 64), (1, .int (nI tb)), (2, .int (nI x)), (3, .int (nI i))] [] _ _
  refine az_aload_n dX12_becomeOf_0 ?_
  refine az_getf (v := .ref 65) dX12_becomeOf_1 fl_X12_13 h64 ?_
  refine az_bipush (v := nI 15) dX12_becomeOf_4 ?_
  refine az_iconst (v := nI 5) dX12_becomeOf_6 ?_
  refine az_bipush (v := nI 6) dX12_becomeOf_7 ?_
  refine az_iload_n dX12_becomeOf_9 ?_
  refine az_imulN dX12_becomeOf_10 ?_
  refine az_iload_n dX12_becomeOf_11 ?_
  refine az_iaddN dX12_becomeOf_12 ?_
  refine az_imulN dX12_becomeOf_13 ?_
  refine az_iaddN dX12_becomeOf_14 ?_
  refine az_iconst (v := nI 1) dX12_becomeOf_15 ?_
  refine az_iaddN dX12_becomeOf_16 ?_
  refine az_iload_n dX12_becomeOf_17 ?_
  refine az_iaddN dX12_becomeOf_18 ?_
  refine az_ialdN (j := ((15 + (5 * ((6 * tb) + x))) + 1) + i) dX12_becomeOf_19 h65 ?_
  rw [hA1]
  exact az_iret dX12_becomeOf_20 (hQ)
theorem lN_max : (9223372036854775807 : Nat) < 2 ^ 63 := by decide
set_option maxHeartbeats 4000000 in
set_option maxRecDepth 100000 in
theorem m_plus {d a b : Nat} {hp : az_Hp} {Q : Option Value → az_Hp → Prop} (ha : a < 2 ^ 63) (hb : b < 2 ^ 63) (hQ : Q (some (.long (lN (min (a + b) 9223372036854775807)))) hp) : az_M mX12_plus d 0 0 [.long (lN a), .long (lN b)] hp Q := by
  refine az_M.of rfl (Nat.le_of_ble_eq_true rfl) ?_
  show az_W _ _ _ _ 0 [(0, .long (lN a)), (2, .long (lN b))] [] _ _
  refine az_lload_n dX12_plus_0 ?_
  refine az_ldc2 (v := lN 9223372036854775807) dX12_plus_1 cn_X12_237 ?_
  refine az_lload_n dX12_plus_4 ?_
  refine az_lsubN dX12_plus_5 (by omega) ?_
  refine az_lcmp_leN (tgt := 16) dX12_plus_6 dX12_plus_7 (fun c6 => ?_) (fun c6 => ?_) (by omega) (by omega)
  · refine az_lload_n dX12_plus_16 ?_
    refine az_lload_n dX12_plus_17 ?_
    refine az_laddN dX12_plus_18 ?_
    exact az_lret dX12_plus_19 (by first | (rw [show min (a + b) 9223372036854775807 = a + b by omega] at hQ; exact hQ) | (rw [show min (a + b) 9223372036854775807 = 9223372036854775807 by omega] at hQ; exact hQ))
  · refine az_ldc2 (v := lN 9223372036854775807) dX12_plus_10 cn_X12_237 ?_
    refine az_goto (tgt := 19) dX12_plus_13 ?_
    exact az_lret dX12_plus_19 (by first | (rw [show min (a + b) 9223372036854775807 = a + b by omega] at hQ; exact hQ) | (rw [show min (a + b) 9223372036854775807 = 9223372036854775807 by omega] at hQ; exact hQ))

