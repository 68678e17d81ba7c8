/-! fields, arrays, new ones -/
section AZH
variable {M : az_Me} {d rc rs pc : Nat} {ls : List (Nat × Value)} {st : List Value} {hp : az_Hp} {Q : Option Value → az_Hp → Prop}
/-- a field's link: own class, pool index, the class's number, the field's place, its type, whether it is final -/
def az_fl (own : String) (index ci k : Nat) (ty : FieldType) (fin : Bool) : Prop :=
  ∃ (C : String) (T : u_T) (N : Nat) (ty0 : Nat → FieldType), vwCl[ci]? = some (C, T, N) ∧ k < N ∧ Cond.fieldLink own index (T k).1 (T k).2.1 (T k).2.2.1 ∈ az_tbl ∧ (∀ w ∈ u_ws C T N, w ∈ az_tbl) ∧ (∀ j, j < N → parseFieldDescriptor (T j).2.2.1 = some (ty0 j)) ∧ (∀ a, a < N → ∀ b, b < N → a ≠ b → (T a).2.1 ≠ (T b).2.1) ∧ ty0 k = ty ∧ (T k).2.2.2 = fin ∧ (T k).1 = C
theorem az_nar {ty : FieldType} {v : Value} (base : Nat) (sa : Nat → Nat) (h : narrow ty v = v) (hf : fits ty v = true) : narrow ty (az_tr base sa v) = az_tr base sa v ∧ fits ty (az_tr base sa v) = true := by
  cases v with
  | ref i => cases ty <;> first | exact ⟨rfl, rfl⟩ | exact ⟨rfl, hf⟩
  | retAddr i => cases ty <;> simp [fits] at hf
  | _ => exact ⟨h, hf⟩
theorem az_getf {index ci k a : Nat} {ty : FieldType} {fin : Bool} {fs : List Value} {v : Value} (hdg : decode M.2.1 pc = .ok (.getfield index, 3)) (hf : az_fl M.1.cls index ci k ty fin) (ho : hp.2 a = some (az_O ci fs)) (kk : az_W M d rc rs (pc + 3) ls (v :: st) hp Q) (hv : fs[k]? = some v := by rfl) : az_W M d rc rs pc ls (.ref a :: st) hp Q := by
  intro p l e s m args below meth c D base sa Hb R Z C E H locs cells slots lsC hR hS h1 h2 hl
  obtain ⟨N0, T, N, ty0, hc, hk, hlk, hin, hty, hnm, -, -, -⟩ := hf
  obtain ⟨r, r1, r2, r3⟩ := hR.2.2 a _ ho
  have hP : va_P D vwCl [(base + a, .inr (ci, fs.map (az_tr base sa)))] H := by
    intro j q hj
    match j, hj with
    | 0, hj =>
      cases hj
      exact ⟨r, r1, r3⟩
    | j + 1, hj => simp at hj
  exact va_get C.1 C.2.1 C.2.2.2.2.2.1 (fun w h => List.mem_cons_of_mem _ (hin w h)) C.2.2.2.2.1 C.2.2.2.2.2.2.2.2.1.1 hP 0 rfl hc k hk (C.2.2.2.2.2.1 _ (List.mem_cons_of_mem _ hlk)) (fun _ h => h) (v := az_tr base sa v) (by rw [List.getElem?_map, hv]; rfl) hdg (kk p l e s m args below meth c D base sa Hb R Z C E H locs cells slots lsC hR hS h1 h2 hl)
theorem az_obj {D : va_G} {U : State} {base : Nat} {sa : Nat → Nat} {ci k : Nat} {N0 : String} {T : u_T} {N a : Nat} {fs : List Value} {v : Value} {H' : Heap} {cell : Cell} (hc : vwCl[ci]? = some (N0, T, N)) (hrl : N = fs.length) (hk : k < N) (q2 : cell.cls = D.1 ci) (q3 : cell.vm = .none) (q4 : ∀ j, j < N → cell.slots[D.2 ci j]? = some (vp_V (fs.map (az_tr base sa)) j)) (hap : ∀ x y, x < N → y < N → x ≠ y → D.2 ci x ≠ D.2 ci y) (e1 : H'[base + a]? = some (cell.setSlot (D.2 ci k) (az_tr base sa v))) : az_at D U base sa a (az_O ci (fs.set k v)) H' := by
  refine ⟨(N0, T, N), hc, by simp [hrl], t_OB.to (V := updV (vp_V (fs.map (az_tr base sa))) k (az_tr base sa v)) ⟨_, e1, q2, q3, t_set q4 hap hk _⟩ (fun j _ => ?_)⟩
  rw [List.map_set]
  exact vp_updV_set (by rw [List.length_map, ← hrl]; exact hk) _ j
theorem az_putf {index ci k a : Nat} {ty : FieldType} {fs fs' : List Value} {v : Value} (hdg : decode M.2.1 pc = .ok (.putfield index, 3)) (hf : az_fl M.1.cls index ci k ty false) (ho : hp.2 a = some (az_O ci fs)) (kk : az_W M d rc rs (pc + 3) ls st (az_up hp a (az_O ci fs')) Q) (hfs : fs.set k v = fs' := by rfl) (hn : narrow ty v = v := by rfl) (hfit : fits ty v = true := by rfl) : az_W M d rc rs pc ls (v :: .ref a :: st) hp Q := by
  intro p l e s m args below meth c D base sa Hb R Z C E H locs cells slots lsC hR hS h1 h2 hl
  subst hfs
  obtain ⟨N0, T, N, ty0, hc, hk, hlk, hin, hty, hnm, rfl, hfin, -⟩ := hf
  have hts := C.2.2.2.2.2.1
  have hin' : ∀ w ∈ u_ws N0 T N, w ∈ az_ws M := fun w h => List.mem_cons_of_mem _ (hin w h)
  have hK := C.2.2.2.2.2.2.2.2.1.1
  have hap := va_apart (own := M.1.cls) hts hin' ty0 hty hnm hK hc
  obtain ⟨r, g1, hrl, cell, q1, q2, q3, q4⟩ := hR.2.2 a _ ho
  have hr : r = (N0, T, N) := Option.some.inj (g1.symm.trans hc)
  subst hr
  obtain ⟨hS', hfc, kC, hkC, hkind⟩ := hK.1 ci _ hc
  obtain ⟨cf, kf, fi, f, hi, hsl⟩ := hS' k hk
  have hlay := hts _ (hin' _ (u_in_lay hk))
  unfold u_lay at hlay
  rw [if_neg (by rw [hfin]; decide)] at hlay
  have hst := (u_facts hfc hkC (u_lays hts hin' hk) hi).1
  obtain ⟨n1, n2⟩ := az_nar base sa hn hfit
  have h6 := u_store hfc hkC hkind hlay hi (hty k hk) n1 n2
  refine W.putK C.1 C.2.1 (f := f) ⟨C.2.2.2.2.1, hts _ (List.mem_cons_of_mem _ hlk), ⟨_, _, _, hi⟩, hst⟩ (by rw [q2]; exact h6) q1 q3 (by rw [hsl]; exact k2_hasslot (q4 k hk)) rfl rfl hdg fun H' e1 e2 e3 => ?_
  rw [hsl] at e1 ⊢
  exact kk p l e s m args below meth c D base sa Hb R Z C E H' _ cells slots lsC (hR.up e2 e3 (az_obj hc hrl hk q2 q3 q4 hap e1)) (hS.put e2 e3 (Nat.le_add_right base a)) h1 h2 hl
theorem az_putF {index ci k a : Nat} {ty : FieldType} {fs fs' : List Value} {v : Value} (hdg : decode M.2.1 pc = .ok (.putfield index, 3)) (hf : az_fl M.1.cls index ci k ty true) (ho : hp.2 a = some (az_O ci fs)) (kk : az_W M d rc rs (pc + 3) ls st (az_up hp a (az_O ci fs')) Q) (hfs : fs.set k v = fs' := by rfl) (hn : narrow ty v = v := by rfl) (hfit : fits ty v = true := by rfl) (hin2 : M.1.name = "<init>" := by rfl) (hco : (vwCl[ci]?).map (fun r => r.1) = some M.1.cls := by rfl) : az_W M d rc rs pc ls (v :: .ref a :: st) hp Q := by
  intro p l e s m args below meth c D base sa Hb R Z C E H locs cells slots lsC hR hS h1 h2 hl
  subst hfs
  obtain ⟨N0, T, N, ty0, hc, hk, hlk, hin, hty, hnm, rfl, hfin, hdecl⟩ := hf
  have hN0 : N0 = M.1.cls := by rw [hc] at hco; simpa using hco
  have hts := C.2.2.2.2.2.1
  have hown := C.2.2.2.2.1
  have hin' : ∀ w ∈ u_ws N0 T N, w ∈ az_ws M := fun w h => List.mem_cons_of_mem _ (hin w h)
  have hK := C.2.2.2.2.2.2.2.2.1.1
  have hap := va_apart (own := M.1.cls) hts hin' ty0 hty hnm hK hc
  obtain ⟨r, g1, hrl, cell, q1, q2, q3, q4⟩ := hR.2.2 a _ ho
  have hr : r = (N0, T, N) := Option.some.inj (g1.symm.trans hc)
  subst hr
  obtain ⟨hS', hfc, kC, hkC, hkind⟩ := hK.1 ci _ hc
  obtain ⟨cf, kf, fi, f, hi, hsl⟩ := hS' k hk
  have hlay := hts _ (hin' _ (u_in_lay hk))
  unfold u_lay at hlay
  rw [if_pos hfin] at hlay
  have hst := (u_facts hfc hkC (u_lays hts hin' hk) hi).1
  obtain ⟨n1, n2⟩ := az_nar base sa hn hfit
  have hcf : m.cls = cf := by
    obtain ⟨_, _, c', _, _, _, -, -, hf', -, -, -, hown2, -⟩ := Cond.laysFinal_spec hlay
    have e1 : c' = cf := by have := hi.symm.trans hf'; simp at this; exact this.1.symm
    rw [hdecl, hN0] at hown2
    rw [← e1]; exact Option.some.inj (hown.symm.trans hown2)
  have h6 := u_fits hfc hkC hkind (Or.inr hlay) hi (hty k hk) n1 n2
  refine W.putFinK C.1 C.2.1 hown (hts _ (List.mem_cons_of_mem _ hlk)) hi hst hcf (C.2.2.2.2.2.2.2.1.trans hin2) (by rw [q2]; exact h6) q1 q3 (by rw [hsl]; exact k2_hasslot (q4 k hk)) rfl rfl hdg fun H' e1 e2 e3 => ?_
  rw [hsl] at e1 ⊢
  exact kk p l e s m args below meth c D base sa Hb R Z C E H' _ cells slots lsC (hR.up e2 e3 (az_obj hc hrl hk q2 q3 q4 hap e1)) (hS.put e2 e3 (Nat.le_add_right base a)) h1 h2 hl
/-- an int that is a place -/
def az_ix (i : Int32) (j : Nat) : Prop := ¬ i < 0 ∧ i.toNatClampNeg = j
theorem az_ix_nI {j : Nat} (h : j < 2 ^ 31) : az_ix (nI j) j := by
  have h2 : (nI j).toInt = j := nI_toInt h
  refine ⟨fun q => ?_, ?_⟩
  · rw [Int32.lt_iff_toInt_lt, h2] at q
    simp at q
    omega
  · show (nI j).toInt.toNat = j
    rw [h2]; rfl
def az_s {α : Type} (f : Nat → α) (j : Nat) (x : α) : Nat → α := fun q => if q = j then x else f q
theorem az_arrset {cA : ClassId} {n j base : Nat} {sa : Nat → Nat} {f : Nat → Value} {x : Value} : (arrV cA n (fun j => az_tr base sa (f j))).setSlot j (az_tr base sa x) = arrV cA n (fun q => az_tr base sa (az_s f j x q)) := by
  rw [arrV_store]
  congr 1
  funext q
  by_cases hq : q = j
  · subst hq
    simp [updV, az_s]
  · simp [updV, az_s, hq]
end AZH
