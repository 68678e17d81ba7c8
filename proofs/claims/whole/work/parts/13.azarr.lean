/-! arrays -/
section AZA
variable {M : az_Me} {d rc rs pc : Nat} {ls : List (Nat × Value)} {st : List Value} {hp : az_Hp} {Q : Option Value → az_Hp → Prop}
theorem az_iald {a n j : Nat} {f : Nat → Int32} {i : Int32} (hdg : decode M.2.1 pc = .ok (.iaload, 1)) (ha : hp.2 a = some (az_I n f)) (hi : az_ix i j) (hj : j < n) (kk : az_W M d rc rs (pc + 1) ls (.int (f j) :: st) hp Q) : az_W M d rc rs pc ls (.int i :: .ref a :: st) hp Q := by
  intro p l e s m args below meth c D base sa Hb R Z C E H locs cells slots lsC hR hS h1 h2 hl
  obtain ⟨cA, g1, g2, g3⟩ := hR.2.2 a _ ha
  obtain ⟨i0, rfl⟩ := hi
  exact W.iald (v := .int (f i.toNatClampNeg)) C.1 C.2.1 g3 (g1 n _) (fun q => by cases q) (by show ¬ (i < 0 ∨ (arrV _ _ _).slots.size ≤ _); rw [arrV_size]; exact fun q => q.elim i0 (fun q => Nat.not_le.mpr hj q)) (by show (arrV _ _ _).slots[_]? = _; rw [arrV_read _ _ hj]; rfl) rfl rfl hdg (kk p l e s m args below meth c D base sa Hb R Z C E H locs cells slots lsC hR hS h1 h2 hl)
theorem az_bald {a n j : Nat} {f : Nat → Int32} {i : Int32} (hdg : decode M.2.1 pc = .ok (.baload, 1)) (ha : hp.2 a = some (az_Y n f)) (hi : az_ix i j) (hj : j < n) (kk : az_W M d rc rs (pc + 1) ls (.int (f j) :: st) hp Q) : az_W M d rc rs pc ls (.int i :: .ref a :: st) hp Q := by
  intro p l e s m args below meth c D base sa Hb R Z C E H locs cells slots lsC hR hS h1 h2 hl
  obtain ⟨cA, g1, g2, g3⟩ := hR.2.2 a _ ha
  obtain ⟨i0, rfl⟩ := hi
  exact W.bald (v := .int (f i.toNatClampNeg)) C.1 C.2.1 g3 (g1 n _) (fun q => by cases q) (by show ¬ (i < 0 ∨ (arrV _ _ _).slots.size ≤ _); rw [arrV_size]; exact fun q => q.elim i0 (fun q => Nat.not_le.mpr hj q)) (by show (arrV _ _ _).slots[_]? = _; rw [arrV_read _ _ hj]; rfl) rfl rfl hdg (kk p l e s m args below meth c D base sa Hb R Z C E H locs cells slots lsC hR hS h1 h2 hl)
theorem az_zald {a n j : Nat} {f : Nat → Int32} {i : Int32} (hdg : decode M.2.1 pc = .ok (.baload, 1)) (ha : hp.2 a = some (az_Z n f)) (hi : az_ix i j) (hj : j < n) (kk : az_W M d rc rs (pc + 1) ls (.int (f j) :: st) hp Q) : az_W M d rc rs pc ls (.int i :: .ref a :: st) hp Q := by
  intro p l e s m args below meth c D base sa Hb R Z C E H locs cells slots lsC hR hS h1 h2 hl
  obtain ⟨cA, g1, g2, g3⟩ := hR.2.2 a _ ha
  obtain ⟨i0, rfl⟩ := hi
  exact W.zald (v := .int (f i.toNatClampNeg)) C.1 C.2.1 g3 (g1 n _) (fun q => by cases q) (by show ¬ (i < 0 ∨ (arrV _ _ _).slots.size ≤ _); rw [arrV_size]; exact fun q => q.elim i0 (fun q => Nat.not_le.mpr hj q)) (by show (arrV _ _ _).slots[_]? = _; rw [arrV_read _ _ hj]; rfl) rfl rfl hdg (kk p l e s m args below meth c D base sa Hb R Z C E H locs cells slots lsC hR hS h1 h2 hl)
theorem az_lald {a n j : Nat} {f : Nat → Int64} {i : Int32} (hdg : decode M.2.1 pc = .ok (.laload, 1)) (ha : hp.2 a = some (az_J n f)) (hi : az_ix i j) (hj : j < n) (kk : az_W M d rc rs (pc + 1) ls (.long (f j) :: st) hp Q) : az_W M d rc rs pc ls (.int i :: .ref a :: st) hp Q := by
  intro p l e s m args below meth c D base sa Hb R Z C E H locs cells slots lsC hR hS h1 h2 hl
  obtain ⟨cA, g1, g2, g3⟩ := hR.2.2 a _ ha
  obtain ⟨i0, rfl⟩ := hi
  exact W.lald (v := .long (f i.toNatClampNeg)) C.1 C.2.1 g3 (g1 n _) (fun q => by cases q) (by show ¬ (i < 0 ∨ (arrV _ _ _).slots.size ≤ _); rw [arrV_size]; exact fun q => q.elim i0 (fun q => Nat.not_le.mpr hj q)) (by show (arrV _ _ _).slots[_]? = _; rw [arrV_read _ _ hj]; rfl) rfl rfl hdg (kk p l e s m args below meth c D base sa Hb R Z C E H locs cells slots lsC hR hS h1 h2 hl)
theorem az_iast {a n j : Nat} {f : Nat → Int32} {i : Int32} {x : Int32} (hdg : decode M.2.1 pc = .ok (.iastore, 1)) (ha : hp.2 a = some (az_I n f)) (hi : az_ix i j) (hj : j < n) (kk : az_W M d rc rs (pc + 1) ls st (az_up hp a (az_I n (az_s f j x))) Q) : az_W M d rc rs pc ls (.int x :: .int i :: .ref a :: st) hp Q := by
  intro p l e s m args below meth c D base sa Hb R Z C E H locs cells slots lsC hR hS h1 h2 hl
  obtain ⟨cA, g1, g2, g3⟩ := hR.2.2 a _ ha
  obtain ⟨i0, rfl⟩ := hi
  refine W.iast C.1 C.2.1 g3 (g1 n _) (fun q => by cases q) (by show ¬ (i < 0 ∨ (arrV _ _ _).slots.size ≤ _); rw [arrV_size]; exact fun q => q.elim i0 (fun q => Nat.not_le.mpr hj q)) rfl rfl hdg fun H1 e1 z oq => ?_
  refine kk p l e s m args below meth c D base sa Hb R Z C E H1 _ cells slots lsC (hR.up z oq ⟨cA, g1, g2, ?_⟩) (hS.put z oq (Nat.le_add_right base a)) h1 h2 hl
  refine e1.trans ?_
  refine (congrArg some (az_arrset (x := .int x))).trans ?_
  congr 2
  funext q
  by_cases hq : q = i.toNatClampNeg
  · subst hq
    simp [az_s]
  · simp [az_s, hq]
theorem az_bast {a n j : Nat} {f : Nat → Int32} {i : Int32} {x : Int32} (hdg : decode M.2.1 pc = .ok (.bastore, 1)) (ha : hp.2 a = some (az_Y n f)) (hi : az_ix i j) (hj : j < n) (kk : az_W M d rc rs (pc + 1) ls st (az_up hp a (az_Y n (az_s f j x.toInt8.toInt32))) Q) : az_W M d rc rs pc ls (.int x :: .int i :: .ref a :: st) hp Q := by
  intro p l e s m args below meth c D base sa Hb R Z C E H locs cells slots lsC hR hS h1 h2 hl
  obtain ⟨cA, g1, g2, g3⟩ := hR.2.2 a _ ha
  obtain ⟨i0, rfl⟩ := hi
  refine W.bast C.1 C.2.1 g3 (g1 n _) (fun q => by cases q) (by show ¬ (i < 0 ∨ (arrV _ _ _).slots.size ≤ _); rw [arrV_size]; exact fun q => q.elim i0 (fun q => Nat.not_le.mpr hj q)) rfl rfl hdg fun H1 e1 z oq => ?_
  refine kk p l e s m args below meth c D base sa Hb R Z C E H1 _ cells slots lsC (hR.up z oq ⟨cA, g1, g2, ?_⟩) (hS.put z oq (Nat.le_add_right base a)) h1 h2 hl
  refine e1.trans ?_
  refine (congrArg some (az_arrset (x := .int x.toInt8.toInt32))).trans ?_
  congr 2
  funext q
  by_cases hq : q = i.toNatClampNeg
  · subst hq
    simp [az_s]
  · simp [az_s, hq]
theorem az_zast {a n j : Nat} {f : Nat → Int32} {i : Int32} {x : Int32} (hdg : decode M.2.1 pc = .ok (.bastore, 1)) (ha : hp.2 a = some (az_Z n f)) (hi : az_ix i j) (hj : j < n) (kk : az_W M d rc rs (pc + 1) ls st (az_up hp a (az_Z n (az_s f j (x &&& 1)))) Q) : az_W M d rc rs pc ls (.int x :: .int i :: .ref a :: st) hp Q := by
  intro p l e s m args below meth c D base sa Hb R Z C E H locs cells slots lsC hR hS h1 h2 hl
  obtain ⟨cA, g1, g2, g3⟩ := hR.2.2 a _ ha
  obtain ⟨i0, rfl⟩ := hi
  refine W.zast C.1 C.2.1 g3 (g1 n _) (fun q => by cases q) (by show ¬ (i < 0 ∨ (arrV _ _ _).slots.size ≤ _); rw [arrV_size]; exact fun q => q.elim i0 (fun q => Nat.not_le.mpr hj q)) rfl rfl hdg fun H1 e1 z oq => ?_
  refine kk p l e s m args below meth c D base sa Hb R Z C E H1 _ cells slots lsC (hR.up z oq ⟨cA, g1, g2, ?_⟩) (hS.put z oq (Nat.le_add_right base a)) h1 h2 hl
  refine e1.trans ?_
  refine (congrArg some (az_arrset (x := .int (x &&& 1)))).trans ?_
  congr 2
  funext q
  by_cases hq : q = i.toNatClampNeg
  · subst hq
    simp [az_s]
  · simp [az_s, hq]
theorem az_last {a n j : Nat} {f : Nat → Int64} {i : Int32} {x : Int64} (hdg : decode M.2.1 pc = .ok (.lastore, 1)) (ha : hp.2 a = some (az_J n f)) (hi : az_ix i j) (hj : j < n) (kk : az_W M d rc rs (pc + 1) ls st (az_up hp a (az_J n (az_s f j x))) Q) : az_W M d rc rs pc ls (.long x :: .int i :: .ref a :: st) hp Q := by
  intro p l e s m args below meth c D base sa Hb R Z C E H locs cells slots lsC hR hS h1 h2 hl
  obtain ⟨cA, g1, g2, g3⟩ := hR.2.2 a _ ha
  obtain ⟨i0, rfl⟩ := hi
  refine W.last C.1 C.2.1 g3 (g1 n _) (fun q => by cases q) (by show ¬ (i < 0 ∨ (arrV _ _ _).slots.size ≤ _); rw [arrV_size]; exact fun q => q.elim i0 (fun q => Nat.not_le.mpr hj q)) rfl rfl hdg fun H1 e1 z oq => ?_
  refine kk p l e s m args below meth c D base sa Hb R Z C E H1 _ cells slots lsC (hR.up z oq ⟨cA, g1, g2, ?_⟩) (hS.put z oq (Nat.le_add_right base a)) h1 h2 hl
  refine e1.trans ?_
  refine (congrArg some (az_arrset (x := .long x))).trans ?_
  congr 2
  funext q
  by_cases hq : q = i.toNatClampNeg
  · subst hq
    simp [az_s]
  · simp [az_s, hq]
theorem az_aald {a n j : Nat} {N : String} {f : Nat → Value} {i : Int32} (hdg : decode M.2.1 pc = .ok (.aaload, 1)) (ha : hp.2 a = some (az_Q N n f)) (hi : az_ix i j) (hj : j < n) (kk : az_W M d rc rs (pc + 1) ls (f j :: st) hp Q) : az_W M d rc rs pc ls (.int i :: .ref a :: st) hp Q := by
  intro p l e s m args below meth c D base sa Hb R Z C E H locs cells slots lsC hR hS h1 h2 hl
  obtain ⟨cA, g1, g2, g3⟩ := hR.2.2 a _ ha
  obtain ⟨i0, rfl⟩ := hi
  exact W.aald (v := az_tr base sa (f i.toNatClampNeg)) (ty := .object N) C.1 C.2.1 g3 (g1 n _) rfl (fun q => by cases q) (by show ¬ (i < 0 ∨ (arrV _ _ _).slots.size ≤ _); rw [arrV_size]; exact fun q => q.elim i0 (fun q => Nat.not_le.mpr hj q)) (by show (arrV _ _ _).slots[_]? = _; rw [arrV_read _ _ hj]) rfl rfl hdg (kk p l e s m args below meth c D base sa Hb R Z C E H locs cells slots lsC hR hS h1 h2 hl)
theorem az_aast {a b n j ci : Nat} {f : Nat → Value} {i : Int32} {r : vw_C} {fs : List Value} (hdg : decode M.2.1 pc = .ok (.aastore, 1)) (ha : hp.2 a = some (az_Q r.1 n f)) (hb : hp.2 b = some (az_O ci fs)) (hc : vwCl[ci]? = some r) (hi : az_ix i j) (hj : j < n) (kk : az_W M d rc rs (pc + 1) ls st (az_up hp a (az_Q r.1 n (az_s f j (.ref b)))) Q) : az_W M d rc rs pc ls (.ref b :: .int i :: .ref a :: st) hp Q := by
  intro p l e s m args below meth c D base sa Hb R Z C E H locs cells slots lsC hR hS h1 h2 hl
  obtain ⟨cA, g1, g2, g3⟩ := hR.2.2 a _ ha
  obtain ⟨r', w1, w2, cellV, v1, v2, v3, -⟩ := hR.2.2 b _ hb
  obtain ⟨i0, rfl⟩ := hi
  have hcls := (C.2.2.2.2.2.2.2.2.1.1.1 ci r hc).2
  obtain ⟨kA, comp, k1, k2, k3, k4⟩ := g2
  have hcomp : comp = D.1 ci := Option.some.inj (k3.symm.trans hcls.1)
  subst hcomp
  obtain ⟨kC, hkC, hkC2⟩ := hcls.2
  refine W.aast C.1 C.2.1 g3 (fun q h => by cases h) (fun h => by cases h) k1 k2 rfl hkC ⟨i0, by show _ < (arrV _ _ _).slots.size; rw [arrV_size]; exact hj⟩ v1 (fun q h => by rw [v3] at h; cases h) (by rw [v2]; exact hkC) (by rw [v2]; exact va_assign hcls) rfl rfl hdg fun H1 e1 z oq => ?_
  refine kk p l e s m args below meth c D base sa Hb R Z C E H1 _ cells slots lsC (hR.up z oq ⟨cA, g1, ⟨kA, D.1 ci, k1, k2, k3, k4⟩, ?_⟩) (hS.put z oq (Nat.le_add_right base a)) h1 h2 hl
  exact e1.trans (congrArg some (az_arrset (x := .ref b)))
theorem az_alen {a : Nat} {ty : FieldType} {n : Nat} {f : Nat → Value} (hdg : decode M.2.1 pc = .ok (.arraylength, 1)) (ha : hp.2 a = some (.inl (ty, n, f))) (kk : az_W M d rc rs (pc + 1) ls (.int (nI n) :: st) hp Q) : az_W M d rc rs pc ls (.ref a :: st) hp Q := by
  intro p l e s m args below meth c D base sa Hb R Z C E H locs cells slots lsC hR hS h1 h2 hl
  obtain ⟨cA, g1, g2, g3⟩ := hR.2.2 a _ ha
  exact W.alen (n := Int32.ofNat n) C.1 C.2.1 g3 (g1 n _) (by rw [arrV_size] <;> rfl) rfl rfl hdg (kk p l e s m args below meth c D base sa Hb R Z C E H locs cells slots lsC hR hS h1 h2 hl)
/-- a new array of a plain type -/
theorem az_newa {at' : ArrayType} {ty : FieldType} {i : Int32} {n : Nat} (hdg : decode M.2.1 pc = .ok (.newarray at', 2)) (hty : newarray.typeOf at' = ty) (hw : Cond.arrayClass ty ∈ az_tbl) (hi : az_ix i n) (hb : n * componentBytes ty ≤ 536870912) (hra : ∀ C, ¬ ty = .object C) (hd : ∀ (base : Nat) (sa : Nat → Nat), az_tr base sa (defaultValue ty) = defaultValue ty) (hrc : 1 ≤ rc) (hrs : n ≤ rs)
    (kk : az_W M d (rc - 1) (rs - n) (pc + 2) ls (.ref hp.1 :: st) (az_nw hp (.inl (ty, n, fun _ => defaultValue ty))) Q) : az_W M d rc rs pc ls (.int i :: st) hp Q := by
  intro p l e s m args below meth c D base sa Hb R Z C E H locs cells slots lsC hR hS h1 h2 hl
  subst hty
  obtain ⟨i0, rfl⟩ := hi
  refine va_newaK (N := i.toNatClampNeg) C.1 C.2.1 (C.2.2.2.2.2.1 _ (List.mem_cons_of_mem _ hw)) rfl hdg rfl i0 rfl hb (by omega) (by omega) rfl fun H1 cA e1 z o hAr hNm => ?_
  have hz := hR.1
  have hat : az_at D s base sa hp.1 (.inl (newarray.typeOf at', i.toNatClampNeg, fun _ => defaultValue (newarray.typeOf at'))) H1 := by
    refine ⟨cA, hAr, ?_, ?_⟩
    · revert hNm hra
      cases newarray.typeOf at' <;> intro q w
      case object C0 => exact absurd rfl (q C0)
      all_goals exact w
    · rw [← hz, e1]
      congr 2
      funext j
      exact (hd base sa).symm
  have k2 := kk p l e s m args below meth c D base sa Hb R Z C E H1 locs (cells + 1) (slots + i.toNatClampNeg) lsC (hR.nw z o hat) ⟨Nat.le_trans hS.1 (by omega), fun x g1 g2 => (o x (Nat.lt_of_lt_of_le g1 hS.1)).trans (hS.2.1 x g1 g2), hS.2.2⟩ (by omega) (by omega) hl
  have e3 : (Value.ref hp.1 :: st).map (az_tr base sa) = Value.ref H.size :: st.map (az_tr base sa) := by rw [hz]; rfl
  rw [e3] at k2
  exact k2
/-- a new object: its class's link, the fields' first values -/
def az_cl (own : String) (index ci : Nat) (fs : List Value) : Prop :=
  ∃ (C : String) (T : u_T) (N : Nat) (ty0 : Nat → FieldType), vwCl[ci]? = some (C, T, N) ∧ Cond.classLink own index C ∈ az_tbl ∧ Cond.instantiable C N ∈ az_tbl ∧ Cond.initialized C ∈ az_tbl ∧ (∀ w ∈ u_ws C T N, w ∈ az_tbl) ∧ (∀ j, j < N → parseFieldDescriptor (T j).2.2.1 = some (ty0 j)) ∧ N = fs.length ∧ (∀ j, j < N → defaultValue (ty0 j) = vp_V fs j) ∧ fs.all (fun v => match v with | .ref _ => false | .retAddr _ => false | _ => true) = true
theorem az_new {index ci n : Nat} {fs : List Value} (hdg : decode M.2.1 pc = .ok (.new index, 3)) (hc : az_cl M.1.cls index ci fs) (hrc : 1 ≤ rc) (hrs : fs.length ≤ rs)
    (kk : az_W M d (rc - 1) (rs - fs.length) (pc + 3) ls (.ref hp.1 :: st) (az_nw hp (az_O ci fs)) Q) : az_W M d rc rs pc ls st hp Q := by
  intro p l e s m args below meth c D base sa Hb R Z C E H locs cells slots lsC hR hS h1 h2 hl
  obtain ⟨N0, T, N, ty0, hc, hcl, hins, hini, hin, hty, hN, hdv, hno⟩ := hc
  have hts := C.2.2.2.2.2.1
  have hK := C.2.2.2.2.2.2.2.2.1.1
  have hP : va_P D vwCl [] H := fun k q h => by simp at h
  have hD : va_D (fun q => base ≤ q) [] := ⟨fun i j p q h => by simp at h, fun k q h => by simp at h⟩
  have hKn := hK.1 ci _ hc
  have hz := hR.1
  refine W.newcK C.1 C.2.1 C.2.2.2.2.1 (hts _ (List.mem_cons_of_mem _ hcl)) (hts _ (List.mem_cons_of_mem _ hins)) (hts _ (List.mem_cons_of_mem _ hini)) rfl hdg (by omega) (by omega) hKn.2.1 rfl fun H1 kC hkC e1 z1 o1 => ?_
  have hfs : fs.map (az_tr base sa) = fs := by
    clear hdv hN hrs kk
    induction fs with
    | nil => rfl
    | cons v r ih =>
      simp only [List.all_cons, Bool.and_eq_true] at hno
      rw [List.map_cons, ih hno.2]
      congr 1
      revert hno
      cases v <;> intro hno <;> first | rfl | (simp at hno)
  have hat : az_at D s base sa hp.1 (az_O ci fs) H1 := by
    refine ⟨(N0, T, N), hc, hN, ?_⟩
    rw [hfs, ← hz]
    exact (u_born ty0 hts (fun w h => List.mem_cons_of_mem _ (hin w h)) hKn hkC e1 hty).to hdv
  have k2 := kk p l e s m args below meth c D base sa Hb R Z C E H1 locs (cells + 1) (slots + N) lsC (hR.nw z1 o1 hat) ⟨Nat.le_trans hS.1 (by omega), fun x g1 g2 => (o1 x (Nat.lt_of_lt_of_le g1 hS.1)).trans (hS.2.1 x g1 g2), hS.2.2⟩ (by omega) (by omega) hl
  have e3 : (Value.ref hp.1 :: st).map (az_tr base sa) = Value.ref H.size :: st.map (az_tr base sa) := by rw [hz]; rfl
  rw [e3] at k2
  exact k2
theorem az_anew {index ci n : Nat} {r : vw_C} {i : Int32} (hdg : decode M.2.1 pc = .ok (.anewarray index, 3)) (hcl : Cond.classLink M.1.cls index r.1 ∈ az_tbl) (hov : r.1 = RX6 ∨ r.1 = RX10) (hi : az_ix i n) (hb : n * 4 ≤ 536870912) (hrc : 1 ≤ rc) (hrs : n ≤ rs)
    (kk : az_W M d (rc - 1) (rs - n) (pc + 3) ls (.ref hp.1 :: st) (az_nw hp (az_Q r.1 n (fun _ => .null))) Q) : az_W M d rc rs pc ls (.int i :: st) hp Q := by
  intro p l e s m args below meth c D base sa Hb R Z C E H locs cells slots lsC hR hS h1 h2 hl
  have hts := C.2.2.2.2.2.1
  have hz := hR.1
  obtain ⟨i0, rfl⟩ := hi
  refine W.anew C.1 C.2.1 C.2.2.2.2.1 (hts _ (List.mem_cons_of_mem _ hcl)) (by rcases hov with q | q <;> rw [q]; exact C.2.2.2.2.2.2.2.2.1.2.2.2.1; exact C.2.2.2.2.2.2.2.2.1.2.2.2.2) rfl hdg rfl i0 hb (by omega) (by omega) fun cA kA comp w1 w2 w3 w4 => ?_
  have hat : az_at D s base sa hp.1 (az_Q r.1 i.toNatClampNeg (fun _ => .null)) (H.push { cls := cA, slots := Array.replicate i.toNatClampNeg .null, vm := .none }) := by
    refine ⟨cA, ?_, ⟨kA, comp, w2, w3, w4, w1⟩, ?_⟩
    · intro n z
      exact ⟨fun q h => (by cases h), kA, w2, comp, w3⟩
    · rw [← hz]
      have := arrV_new cA i.toNatClampNeg .null
      rw [this]
      simp
      rfl
  have k2 := kk p l e s m args below meth c D base sa Hb R Z C E (H.push { cls := cA, slots := Array.replicate i.toNatClampNeg .null, vm := .none }) locs (cells + 1) (slots + i.toNatClampNeg) lsC (hR.nw (by simp) (fun q hq => by rw [Array.getElem?_push, if_neg (Nat.ne_of_lt hq)]) hat) ⟨Nat.le_trans hS.1 (by simp), fun x g1 g2 => (by rw [Array.getElem?_push, if_neg (Nat.ne_of_lt (Nat.lt_of_lt_of_le g1 hS.1))]; exact hS.2.1 x g1 g2), hS.2.2⟩ (by omega) (by omega) hl
  have e3 : (Value.ref hp.1 :: st).map (az_tr base sa) = Value.ref H.size :: st.map (az_tr base sa) := by rw [hz]; rfl
  rw [e3] at k2
  exact k2
end AZA
