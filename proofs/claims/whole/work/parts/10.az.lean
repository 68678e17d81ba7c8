/-! THE PURE LAYER: a heap of our own cells, by places from a base on; a judgement az_W that hides the machine; a contract az_M. -/
section AZ
abbrev az_C : Type := (FieldType × Nat × (Nat → Value)) ⊕ (Nat × List Value)
abbrev az_Hp : Type := Nat × (Nat → Option az_C)
abbrev az_Me : Type := MethodName × ByteArray × Nat × Option FieldType
def az_I (n : Nat) (f : Nat → Int32) : az_C := .inl (.int, n, fun j => .int (f j))
def az_Y (n : Nat) (f : Nat → Int32) : az_C := .inl (.byte, n, fun j => .int (f j))
def az_Z (n : Nat) (f : Nat → Int32) : az_C := .inl (.boolean, n, fun j => .int (f j))
def az_J (n : Nat) (f : Nat → Int64) : az_C := .inl (.long, n, fun j => .long (f j))
def az_Q (C : String) (n : Nat) (f : Nat → Value) : az_C := .inl (.object C, n, f)
def az_O (ci : Nat) (fs : List Value) : az_C := .inr (ci, fs)
def az_up (hp : az_Hp) (a : Nat) (c : az_C) : az_Hp := (hp.1, fun q => if q = a then some c else hp.2 q)
def az_nw (hp : az_Hp) (c : az_C) : az_Hp := (hp.1 + 1, fun q => if q = hp.1 then some c else hp.2 q)
def az_tr (base : Nat) (sa : Nat → Nat) : Value → Value
  | .ref i => .ref (base + i)
  | .retAddr k => .ref (sa k)
  | v => v
def az_at (D : va_G) (U : State) (base : Nat) (sa : Nat → Nat) (i : Nat) (c : az_C) (H : Heap) : Prop := match c with
  | .inl a => ∃ cA : ClassId, ArrOfT U cA a.1 ∧ va_RA U cA a.1 ∧ H[base + i]? = some (arrV cA a.2.1 (fun j => az_tr base sa (a.2.2 j)))
  | .inr o => ∃ r : vw_C, vwCl[o.1]? = some r ∧ r.2.2 = o.2.length ∧ t_OB (base + i) (D.1 o.1) r.2.2 (D.2 o.1) H (vp_V (o.2.map (az_tr base sa)))
def az_R (D : va_G) (U : State) (base : Nat) (sa : Nat → Nat) (Hb : Heap) (hp : az_Hp) (H : Heap) : Prop :=
  H.size = base + hp.1 ∧ (∀ q : Nat, q < base → H[q]? = Hb[q]?) ∧ ∀ (i : Nat) (c : az_C), hp.2 i = some c → az_at D U base sa i c H
theorem az_at.kept {D : va_G} {U : State} {base : Nat} {sa : Nat → Nat} {i : Nat} {c : az_C} {H H1 : Heap} (h : az_at D U base sa i c H) (hq : H1[base + i]? = H[base + i]?) : az_at D U base sa i c H1 := by
  cases c with
  | inl a =>
    obtain ⟨cA, h1, h2, h3⟩ := h
    exact ⟨cA, h1, h2, hq.trans h3⟩
  | inr o =>
    obtain ⟨r, h1, h2, h3⟩ := h
    exact ⟨r, h1, h2, h3.kept hq⟩
theorem az_at.moved {D : va_G} {u U : State} {base : Nat} {sa : Nat → Nat} {i : Nat} {c : az_C} {H : Heap} (hvm : u.vm.Alike U.vm) (h : az_at D u base sa i c H) : az_at D U base sa i c H := by
  cases c with
  | inl a =>
    obtain ⟨cA, h1, h2, h3⟩ := h
    exact ⟨cA, arrOfT_moved hvm h1, h2.moved hvm, h3⟩
  | inr o => exact h
theorem az_at.lt {D : va_G} {U : State} {base : Nat} {sa : Nat → Nat} {i : Nat} {c : az_C} {H : Heap} (h : az_at D U base sa i c H) : base + i < H.size := by
  cases c with
  | inl a =>
    obtain ⟨cA, h1, h2, h3⟩ := h
    exact (Array.getElem?_eq_some_iff.mp h3).1
  | inr o =>
    obtain ⟨r, h1, h2, cell, h3, -⟩ := h
    exact (Array.getElem?_eq_some_iff.mp h3).1
theorem az_R.moved {D : va_G} {u U : State} {base : Nat} {sa : Nat → Nat} {Hb : Heap} {hp : az_Hp} {H : Heap} (hvm : u.vm.Alike U.vm) (h : az_R D u base sa Hb hp H) : az_R D U base sa Hb hp H :=
  ⟨h.1, h.2.1, fun i c hc => (h.2.2 i c hc).moved hvm⟩
theorem az_R.up {D : va_G} {U : State} {base : Nat} {sa : Nat → Nat} {Hb : Heap} {hp : az_Hp} {H H1 : Heap} {a : Nat} {c : az_C} (h : az_R D U base sa Hb hp H) (z : H1.size = H.size) (o : ∀ q : Nat, q ≠ base + a → H1[q]? = H[q]?) (hc : az_at D U base sa a c H1) : az_R D U base sa Hb (az_up hp a c) H1 := by
  refine ⟨z.trans h.1, fun q hq => (o q (by omega)).trans (h.2.1 q hq), fun i x hx => ?_⟩
  by_cases hi : i = a
  · subst hi
    simp [az_up] at hx
    exact hx ▸ hc
  · simp [az_up, hi] at hx
    exact (h.2.2 i x hx).kept (o _ (by omega))
theorem az_R.nw {D : va_G} {U : State} {base : Nat} {sa : Nat → Nat} {Hb : Heap} {hp : az_Hp} {H H1 : Heap} {c : az_C} (h : az_R D U base sa Hb hp H) (z : H1.size = H.size + 1) (o : ∀ q : Nat, q < H.size → H1[q]? = H[q]?) (hc : az_at D U base sa hp.1 c H1) : az_R D U base sa Hb (az_nw hp c) H1 := by
  have h0 := h.1
  refine ⟨by rw [z, h0]; rfl, fun q hq => (o q (by omega)).trans (h.2.1 q hq), fun i x hx => ?_⟩
  by_cases hi : i = hp.1
  · subst hi
    simp [az_nw] at hx
    exact hx ▸ hc
  · simp [az_nw, hi] at hx
    have hh := h.2.2 i x hx
    exact hh.kept (o _ hh.lt)
def az_tbl : List Cond := lw_tbl.filter goodWord
def az_ws (M : az_Me) : List Cond := .code M.1 M.2.1 M.2.2.1 M.2.2.2 :: az_tbl
def az_rm (d mc ms : Nat) : Room := { frames := d, cells := mc, slots := ms, locals := 40 * d }
/-- the twenty-two String constants: own class, pool index, text -/
def az_txt : List (String × Nat × String) := [("LetterNights$Reader", 223, ";:+-*()[]=<>"), ("LetterNights$Reader", 57, "street"), ("LetterNights$Reader", 63, "tables"), ("LetterNights$Reader", 74, "moon"), ("LetterNights$Reader", 85, "stands"), ("LetterNights$Reader", 93, "rule"), ("LetterNights$Reader", 143, "nothing"), ("LetterNights$Reader", 98, "picks"), ("LetterNights$Reader", 182, "if"), ("LetterNights$Reader", 164, "not"), ("LetterNights$Reader", 162, "and"), ("LetterNights$Reader", 151, "or"), ("LetterNights$Reader", 190, "then"), ("LetterNights$Reader", 192, "else"), ("LetterNights$Reader", 194, "end"), ("LetterNights$Reader", 196, "night"), ("LetterNights$Reader", 198, "front"), ("LetterNights$Reader", 200, "back"), ("LetterNights$Reader", 202, "rest"), ("LetterNights$Reader", 120, "sleeps"), ("LetterNightsModel", 113, " street tables moon stands rule nothing picks sleeps if then else end night front back rest and or not "), ("LetterNightsModel", 151, ";:+-*()[]=<>")]
def az_byt (t : String) : List Int32 := t.toList.map (fun ch => Int32.ofNat ch.toNat)
/-- text k lies at sa (2 k), its bytes at sa (2 k + 1); the static that String's methods ask -/
def az_T (base : Nat) (sa : Nat → Nat) (U : State) (Hb : Heap) : Prop :=
  (∀ (k : Nat) (r : String × Nat × String), az_txt[k]? = some r → vk_R r.1 r.2.1 r.2.2 (sa (2 * k)) U ∧ va_O "java/lang/String" (sa (2 * k)) (fun q => base ≤ q) U Hb ∧ va_OF "java/lang/String" "coder" "B" (.int 0) (sa (2 * k)) (fun q => base ≤ q) U Hb ∧ va_OF "java/lang/String" "value" "[B" (.ref (sa (2 * k + 1))) (sa (2 * k)) (fun q => base ≤ q) U Hb ∧ va_T .byte (sa (2 * k + 1)) (az_byt r.2.2).length (fun j => .int ((az_byt r.2.2).getD j 0)) (fun q => base ≤ q) U Hb) ∧
  va_Z "java/lang/String" "COMPACT_STRINGS" "Z" (.int 1) (fun q => base ≤ q) U Hb ∧
  (va_Z "jdk/internal/util/Preconditions" "SIOOBE_FORMATTER" "Ljava/util/function/BiFunction;" .null (fun q => base ≤ q) U Hb ∨ va_Z "jdk/internal/util/Preconditions" "SIOOBE_FORMATTER" "Ljava/util/function/BiFunction;" (.ref (sa 44)) (fun q => base ≤ q) U Hb)
/-- the private constructors that the class calls as its nest's host -/
def az_nst : List (String × Nat × MethodName) := [(RX11, 15, yX5_init), (RX11, 22, yX4_init), (RX11, 41, yX7_init), (RX11, 48, yX0_init), (RX11, 55, yX2_init), (RX1, 24, yX8_init), (RX11, 80, yX10_init)]
def az_X (D : va_G) (base : Nat) (sa : Nat → Nat) (Hb : Heap) (U : State) : Prop := va_K D vwCl [] U ∧ az_T base sa U Hb ∧ (∀ r ∈ az_nst, va_Nw (.methodLinkNest r.1 r.2.1 r.2.2 RX11) U) ∧ va_AO RX6 U ∧ va_AO RX10 U
def az_cx (p : Program) (s : State) (m : MethodId) (args : Array Value) (meth : Method) (c : Code) (M : az_Me) (D : va_G) (base : Nat) (sa : Nat → Nat) (Hb : Heap) (R : Room) (d : Nat) : Prop :=
  p.tables.exec = Jvm.exec ∧ c.code = M.2.1 ∧ meth.sig.returnType = M.2.2.2 ∧ c.maxLocals = M.2.2.1 ∧ s.vm.findClass M.1.cls = some m.cls ∧ (∀ w ∈ az_ws M, w.before args s = true) ∧ meth.locks = false ∧ meth.name = M.1.name ∧ az_X D base sa Hb s ∧ base ≤ s.heap.size ∧ (∀ q : Nat, q < base → s.heap[q]? = Hb[q]?) ∧ d ≤ R.frames ∧ 40 * d ≤ R.locals
/-- an instruction that returns v stands at pc, and the method's descriptor fits it -/
def az_isret (M : az_Me) (v : Option Value) (pc : Nat) : Prop := match v with
  | none => decode M.2.1 pc = .ok (.return_, 1) ∧ M.2.2.2 = none
  | some (.int x) => decode M.2.1 pc = .ok (.ireturn, 1) ∧ ∃ ty : FieldType, M.2.2.2 = some ty ∧ narrow ty (.int x) = .int x
  | some (.long _) => decode M.2.1 pc = .ok (.lreturn, 1) ∧ M.2.2.2 = some .long
  | some (.ref _) => decode M.2.1 pc = .ok (.areturn, 1) ∧ ∃ ty : FieldType, M.2.2.2 = some ty ∧ ((∃ n, ty = .object n) ∨ ∃ t, ty = .array t)
  | some .null => decode M.2.1 pc = .ok (.areturn, 1) ∧ ∃ ty : FieldType, M.2.2.2 = some ty ∧ ((∃ n, ty = .object n) ∨ ∃ t, ty = .array t)
  | _ => False
def az_end (p : Program) (l : Launch) (e : Env) (s : State) (m : MethodId) (args : Array Value) (below : List Frame) (meth : Method) (c : Code) (D : va_G) (base : Nat) (sa : Nat → Nat) (Hb : Heap) (R : Room) (Z : State → Prop) (M : az_Me) (Q : Option Value → az_Hp → Prop) : Prop :=
  ∀ (v : Option Value) (hp : az_Hp) (H : Heap) (locs : List Loc) (cells slots pc : Nat) (ls : Array Slot), Q v hp → az_R D s base sa Hb hp H → va_S (fun q => base ≤ q) s.heap H locs → cells ≤ R.cells → slots ≤ R.slots → az_isret M v pc →
    W p l e R s m args below meth c H locs cells slots Z (F0 m pc ls ((v.map (az_tr base sa)).toList))
def az_ls (base : Nat) (sa : Nat → Nat) (ls : List (Nat × Value)) : List (Nat × Value) := ls.map (fun q => (q.1, az_tr base sa q.2))
/-- from pc, with locals ls, stack st, heap hp, room for rc cells of rs slots, calls d deep: the method returns v with a heap hp', and Q v hp' -/
def az_W (M : az_Me) (d rc rs pc : Nat) (ls : List (Nat × Value)) (st : List Value) (hp : az_Hp) (Q : Option Value → az_Hp → Prop) : Prop :=
  ∀ (p : Program) (l : Launch) (e : Env) (s : State) (m : MethodId) (args : Array Value) (below : List Frame) (meth : Method) (c : Code) (D : va_G) (base : Nat) (sa : Nat → Nat) (Hb : Heap) (R : Room) (Z : State → Prop),
    az_cx p s m args meth c M D base sa Hb R d → az_end p l e s m args below meth c D base sa Hb R Z M Q →
    ∀ (H : Heap) (locs : List Loc) (cells slots : Nat) (lsC : Array Slot), az_R D s base sa Hb hp H → va_S (fun q => base ≤ q) s.heap H locs → cells + rc ≤ R.cells → slots + rs ≤ R.slots → lv_has lsC M.2.2.1 (az_ls base sa ls) →
    W p l e R s m args below meth c H locs cells slots Z (F0 m pc lsC (st.map (az_tr base sa)))
def az_Pc (D : va_G) (base : Nat) (sa : Nat → Nat) (Hb : Heap) (av : List Value) (hp : az_Hp) : Array Value → State → Prop := fun v U =>
  v = (av.map (az_tr base sa)).toArray ∧ az_X D base sa Hb U ∧ base ≤ U.heap.size ∧ (∀ q : Nat, q < base → U.heap[q]? = Hb[q]?) ∧ az_R D U base sa Hb hp U.heap
def az_Qc (D : va_G) (base : Nat) (sa : Nat → Nat) (Hb : Heap) (Q : Option Value → az_Hp → Prop) : Array Value → State → Outcome → State → Prop := fun _ st o t =>
  (∃ (v : Option Value) (hp : az_Hp), o = .returned (v.map (az_tr base sa)) ∧ Q v hp ∧ az_R D t base sa Hb hp t.heap) ∧ va_F (fun q => base ≤ q) st t
def az_M (M : az_Me) (d mc ms : Nat) (av : List Value) (hp : az_Hp) (Q : Option Value → az_Hp → Prop) : Prop :=
  ∀ (l : Launch) (D : va_G) (base : Nat) (sa : Nat → Nat) (Hb : Heap), Met l M.1 (az_ws M) (az_rm d mc ms) (az_Pc D base sa Hb av hp) (az_Qc D base sa Hb Q) mc ms (fun q => base ≤ q)
theorem az_lv {lsC : Array Slot} {nL base : Nat} {sa : Nat → Nat} {ls : List (Nat × Value)} (h : lv_has lsC nL (az_ls base sa ls)) {i : Nat} {v : Value} (hv : (i, v) ∈ ls) : lsC[i]? = some (.val (az_tr base sa v)) :=
  h.2.2 (i, az_tr base sa v) (List.mem_map.mpr ⟨(i, v), hv, rfl⟩)
def az_get : List (Nat × Value) → Nat → Option Value
  | [], _ => none
  | (j, w) :: r, i => if j = i then some w else az_get r i
theorem az_get_mem {ls : List (Nat × Value)} {i : Nat} {v : Value} (h : az_get ls i = some v) : (i, v) ∈ ls := by
  induction ls with
  | nil => cases h
  | cons q r ih =>
    obtain ⟨j, w⟩ := q
    unfold az_get at h
    by_cases hj : j = i
    · rw [if_pos hj] at h
      cases h
      exact hj ▸ List.mem_cons_self
    · rw [if_neg hj] at h
      exact List.mem_cons_of_mem _ (ih h)
def az_k1 (i : Nat) (q : Nat × Value) : Bool := !(q.1 == i) && !(q.1 + 1 == i && q.2.category == 2)
def az_k2 (i : Nat) (q : Nat × Value) : Bool := !(q.1 == i) && (!(q.1 == i + 1) && !(q.1 + 1 == i && q.2.category == 2))
def az_ins : List (Nat × Value) → Nat → Value → List (Nat × Value)
  | [], i, v => [(i, v)]
  | (j, w) :: r, i, v => if j < i then (j, w) :: az_ins r i v else (i, v) :: (j, w) :: r
theorem az_ins_mem {l : List (Nat × Value)} {i : Nat} {v : Value} {q : Nat × Value} (h : q ∈ az_ins l i v) : q = (i, v) ∨ q ∈ l := by
  induction l with
  | nil => exact Or.inl (by simpa [az_ins] using h)
  | cons x r ih =>
    obtain ⟨j, w⟩ := x
    unfold az_ins at h
    split at h
    · rcases List.mem_cons.mp h with h | h
      · exact Or.inr (h ▸ List.mem_cons_self)
      · rcases ih h with h | h
        · exact Or.inl h
        · exact Or.inr (List.mem_cons_of_mem _ h)
    · rcases List.mem_cons.mp h with h | h
      · exact Or.inl h
      · exact Or.inr h
/-- a local is set, in its place: a long that it cuts goes -/
def az_set1 (ls : List (Nat × Value)) (i : Nat) (v : Value) : List (Nat × Value) := az_ins (ls.filter (az_k1 i)) i v
def az_set2 (ls : List (Nat × Value)) (i : Nat) (v : Value) : List (Nat × Value) := az_ins (ls.filter (az_k2 i)) i v
theorem az_tr_cat (base : Nat) (sa : Nat → Nat) (v : Value) : (az_tr base sa v).category = v.category := by cases v <;> rfl
theorem az_put1 {lsC : Array Slot} {nL base : Nat} {sa : Nat → Nat} {ls ls' : List (Nat × Value)} {i : Nat} {v : Value} (hl : az_set1 ls i v = ls') (h : lv_has lsC nL ((i, az_tr base sa v) :: (az_ls base sa ls).filter (fun q => !(q.1 == i) && !(q.1 + 1 == i && q.2.category == 2)))) : lv_has lsC nL (az_ls base sa ls') := by
  refine ⟨h.1, h.2.1, fun q hq => h.2.2 q ?_⟩
  obtain ⟨x, hx, rfl⟩ := List.mem_map.mp hq
  rw [← hl] at hx
  rcases az_ins_mem hx with rfl | hx
  · exact List.mem_cons_self
  · obtain ⟨h1, h2⟩ := List.mem_filter.mp hx
    refine List.mem_cons_of_mem _ (List.mem_filter.mpr ⟨List.mem_map.mpr ⟨x, h1, rfl⟩, ?_⟩)
    simpa [az_k1, az_tr_cat] using h2
theorem az_put2 {lsC : Array Slot} {nL base : Nat} {sa : Nat → Nat} {ls ls' : List (Nat × Value)} {i : Nat} {v : Value} (hl : az_set2 ls i v = ls') (h : lv_has lsC nL ((i, az_tr base sa v) :: (az_ls base sa ls).filter (fun q => !(q.1 == i) && (!(q.1 == i + 1) && !(q.1 + 1 == i && q.2.category == 2))))) : lv_has lsC nL (az_ls base sa ls') := by
  refine ⟨h.1, h.2.1, fun q hq => h.2.2 q ?_⟩
  obtain ⟨x, hx, rfl⟩ := List.mem_map.mp hq
  rw [← hl] at hx
  rcases az_ins_mem hx with rfl | hx
  · exact List.mem_cons_self
  · obtain ⟨h1, h2⟩ := List.mem_filter.mp hx
    refine List.mem_cons_of_mem _ (List.mem_filter.mpr ⟨List.mem_map.mpr ⟨x, h1, rfl⟩, ?_⟩)
    simpa [az_k2, az_tr_cat] using h2
theorem az_W.sub {M : az_Me} {d rc rs pc : Nat} {ls ls' : List (Nat × Value)} {st : List Value} {hp : az_Hp} {Q : Option Value → az_Hp → Prop} (h : ∀ q ∈ ls', q ∈ ls) (k : az_W M d rc rs pc ls' st hp Q) : az_W M d rc rs pc ls st hp Q :=
  fun p l e s m args below meth c D base sa Hb R Z C E H locs cells slots lsC hR hS h1 h2 hl => k p l e s m args below meth c D base sa Hb R Z C E H locs cells slots lsC hR hS h1 h2 ⟨hl.1, hl.2.1, fun q hq => by
    obtain ⟨x, hx, rfl⟩ := List.mem_map.mp hq
    exact hl.2.2 _ (List.mem_map.mpr ⟨x, h x hx, rfl⟩)⟩
theorem az_W.room {M : az_Me} {d rc rs rc' rs' pc : Nat} {ls : List (Nat × Value)} {st : List Value} {hp : az_Hp} {Q : Option Value → az_Hp → Prop} (h1 : rc' ≤ rc) (h2 : rs' ≤ rs) (k : az_W M d rc' rs' pc ls st hp Q) : az_W M d rc rs pc ls st hp Q :=
  fun p l e s m args below meth c D base sa Hb R Z C E H locs cells slots lsC hR hS h3 h4 hl => k p l e s m args below meth c D base sa Hb R Z C E H locs cells slots lsC hR hS (by omega) (by omega) hl
theorem az_W.post {M : az_Me} {d rc rs pc : Nat} {ls : List (Nat × Value)} {st : List Value} {hp : az_Hp} {Q Q' : Option Value → az_Hp → Prop} (h : ∀ v hp', Q' v hp' → Q v hp') (k : az_W M d rc rs pc ls st hp Q') : az_W M d rc rs pc ls st hp Q :=
  fun p l e s m args below meth c D base sa Hb R Z C E H locs cells slots lsC hR hS h3 h4 hl => k p l e s m args below meth c D base sa Hb R Z C (fun v hp' H' locs' cells' slots' pc' ls' hq => E v hp' H' locs' cells' slots' pc' ls' (h v hp' hq)) H locs cells slots lsC hR hS h3 h4 hl
theorem az_M.post {M : az_Me} {d mc ms : Nat} {av : List Value} {hp : az_Hp} {Q Q' : Option Value → az_Hp → Prop} (h : ∀ v hp', Q' v hp' → Q v hp') (k : az_M M d mc ms av hp Q') : az_M M d mc ms av hp Q := by
  intro l D base sa Hb p e h1 h2 h3 s m args below h4 h5 h6 h7
  obtain ⟨t, o, a1, a2, a3, ⟨⟨⟨v, hp', b1, b2, b3⟩, b4⟩, b5⟩⟩ := k l D base sa Hb p e h1 h2 h3 s m args below h4 h5 h6 h7
  exact ⟨t, o, a1, a2, a3, ⟨⟨⟨v, hp', b1, h v hp' b2, b3⟩, b4⟩, b5⟩⟩
theorem az_sl_len (base : Nat) (sa : Nat → Nat) (av : List Value) : (lg_sl (av.map (az_tr base sa))).length = (lg_sl av).length := by
  induction av with
  | nil => rfl
  | cons v r ih =>
    unfold lg_sl at ih ⊢
    simp only [List.map_cons, List.flatMap_cons, List.length_append, az_tr_cat]
    rw [ih]
    split <;> rfl
theorem az_lv_args (base : Nat) (sa : Nat → Nat) (av : List Value) : ∀ i : Nat, lv_args i (av.map (az_tr base sa)) = az_ls base sa (lv_args i av) := by
  induction av with
  | nil => intro i; rfl
  | cons v r ih =>
    intro i
    simp only [List.map_cons, lv_args, az_ls, az_tr_cat]
    exact congrArg _ (ih _)
/-- a contract out of the body's walk -/
theorem az_M.of {M : az_Me} {d mc ms : Nat} {av : List Value} {hp : az_Hp} {Q : Option Value → az_Hp → Prop} (hy : plainName M.1.cls = true) (hn : (lg_sl av).length ≤ M.2.2.1) (body : az_W M d mc ms 0 (lv_args 0 av) [] hp Q) : az_M M d mc ms av hp Q := by
  intro l D base sa Hb
  refine Met.ofW (cc := M.2.1) (maxL := M.2.2.1) (ret := M.2.2.2) hy rfl ?_
  intro p e s m args below meth c s₁ B hml hv
  obtain ⟨rfl, hX, hbs, hlow, hR⟩ := hv
  have hlocks := B.notSynchronized
  have hS : va_S (fun q => base ≤ q) s.heap s.heap [] := va_S.rf
  have hnm : meth.name = M.1.name := (name_of_methodNamed B.named B.method).1
  have hsl := az_sl_len base sa av
  have hl := lv_entry (av.map (az_tr base sa)) (n := M.2.2.1) (by rw [hsl]; exact hn)
  rw [lg_entry_eq]
  generalize (lg_sl (av.map (az_tr base sa)) ++ List.replicate (M.2.2.1 - (lg_sl (av.map (az_tr base sa))).length) Slot.unset).toArray = ls at hl ⊢
  rw [az_lv_args base sa av 0] at hl
  have hw0 : ∀ w ∈ az_ws M, w.before (av.map (az_tr base sa)).toArray s = true := atoms_spec (ws := az_ws M) B.pre
  have hown : s.vm.findClass M.1.cls = some m.cls := findClass_of_methodNamed B.named
  refine body p l e s m _ below meth c D base sa Hb _ _ ⟨B.exec, B.bytes, B.returns, hml, hown, hw0, hlocks, hnm, hX, hbs, hlow, Nat.le_refl d, Nat.le_refl (40 * d)⟩ ?_ s.heap [] 0 0 ls hR hS (by show 0 + mc ≤ mc; omega) (by show 0 + ms ≤ ms; omega) hl
  intro v hp' H locs cells slots pc ls' hq hR' hS' hc hs hret
  refine W.widen (k := mc) (n := ms) hc hs ?_
  have fin : ∀ (v : Option Value), Q v hp' → ∀ t : State, t.heap = H → s.WarmedH t.vm → az_Qc D base sa Hb Q (av.map (az_tr base sa)).toArray s (.returned (v.map (az_tr base sa))) t := fun v hq t ht hW => ⟨⟨v, hp', rfl, hq, by rw [ht]; exact hR'.moved hW.alike⟩, hS'.F ht⟩
  match v, hq, hret with
  | none, hq, hret => exact W.vret B.exec B.bytes (B.returns.trans hret.2) (fin none hq) hS'.2.2 hret.1 hlocks
  | some (.int x), hq, hret =>
    obtain ⟨h1, ty, h2, h3⟩ := hret
    exact W.zret B.exec B.bytes (B.returns.trans h2) h3 (fin (some (.int x)) hq) hS'.2.2 h1 hlocks
  | some (.long x), hq, hret => exact W.lret B.exec B.bytes (B.returns.trans hret.2) (fin (some (.long x)) hq) hS'.2.2 hret.1 hlocks
  | some (.ref x), hq, hret =>
    obtain ⟨h1, ty, h2, h3⟩ := hret
    exact W.aret B.exec B.bytes (B.returns.trans h2) h3 (Or.inr ⟨_, rfl⟩) (fin (some (.ref x)) hq) hS'.2.2 h1 hlocks
  | some .null, hq, hret =>
    obtain ⟨h1, ty, h2, h3⟩ := hret
    exact W.aret B.exec B.bytes (B.returns.trans h2) h3 (Or.inl rfl) (fin (some .null) hq) hS'.2.2 h1 hlocks
end AZ
