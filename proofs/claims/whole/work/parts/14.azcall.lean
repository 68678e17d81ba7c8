/-! calls -/
section AZC
variable {M M' : az_Me} {d d' rc rs pc mc ms n index : Nat} {ls : List (Nat × Value)} {st stk av : List Value} {hp : az_Hp} {Q Q' : Option Value → az_Hp → Prop}
abbrev az_psh (v : Option Value) (st : List Value) : List Value := match v with
  | none => st
  | some x => x :: st
theorem az_T.go {base : Nat} {sa : Nat → Nat} {u U : State} {Hb : Heap} (hr : ∀ own k tx a, vk_R own k tx a u → vk_R own k tx a U) (hvm : u.vm.Alike U.vm) (h : az_T base sa u Hb) : az_T base sa U Hb :=
  ⟨fun k r hk => ⟨hr _ _ _ _ (h.1 k r hk).1, va_O.moved hvm (h.1 k r hk).2.1, va_OF.moved hvm (h.1 k r hk).2.2.1, va_OF.moved hvm (h.1 k r hk).2.2.2.1, va_T.moved hvm (h.1 k r hk).2.2.2.2⟩, va_Z.moved hvm h.2.1, h.2.2.imp (va_Z.moved hvm) (va_Z.moved hvm)⟩
theorem az_X.same {D : va_G} {base : Nat} {sa : Nat → Nat} {Hb : Heap} {u U : State} (hv : U.vm = u.vm) (h : az_X D base sa Hb u) : az_X D base sa Hb U :=
  ⟨va_K.moved (by rw [hv]; exact Vm.Alike.refl _) h.1, az_T.go (fun _ _ _ _ => vk_R.same hv) (by rw [hv]; exact Vm.Alike.refl _) h.2.1, fun r hr => va_Nw.same rfl hv.symm (h.2.2.1 r hr), va_AO.moved (by rw [hv]; exact Vm.Alike.refl _) h.2.2.2.1, va_AO.moved (by rw [hv]; exact Vm.Alike.refl _) h.2.2.2.2⟩
theorem az_X.warm {D : va_G} {base : Nat} {sa : Nat → Nat} {Hb : Heap} {s U : State} (hW : s.WarmedH U.vm) (h : az_X D base sa Hb s) : az_X D base sa Hb U :=
  ⟨va_K.moved hW.alike h.1, az_T.go (fun _ _ _ _ => vk_R.warm hW) hW.alike h.2.1, fun r hr => va_Nw.warmM hW (h.2.2.1 r hr), va_AO.moved hW.alike h.2.2.2.1, va_AO.moved hW.alike h.2.2.2.2⟩
theorem az_cats (base : Nat) (sa : Nat → Nat) (st : List Value) : (st.map (az_tr base sa)).map (fun v => v.category) = st.map (fun v => v.category) := by
  rw [List.map_map]
  exact List.map_congr_left (fun v _ => az_tr_cat base sa v)
theorem az_blind {D : va_G} {base : Nat} {sa : Nat → Nat} {Hb : Heap} : FrameBlind (az_Pc D base sa Hb av hp) := by
  intro a U g mk h
  exact ⟨h.1, az_X.same (u := U) rfl h.2.1, h.2.2.1, h.2.2.2.1, az_R.moved (u := U) (U := U.calling g mk a) (Vm.Alike.refl U.vm) h.2.2.2.2⟩
theorem az_tbl_good {w : Cond} (h : w ∈ az_tbl) : goodWord w = true := (List.mem_filter.mp h).2
theorem az_good (h : Cond.code M'.1 M'.2.1 M'.2.2.1 M'.2.2.2 ∈ az_tbl) : GoodIn (az_ws M) (az_ws M') := by
  intro w hw
  have hm : w ∈ az_tbl := by
    rcases List.mem_cons.mp hw with e | e
    · rw [e]; exact h
    · exact e
  exact ⟨List.mem_cons_of_mem _ hm, good_of_word (az_tbl_good hm)⟩
/-- what a call needs of its callee, whatever its kind -/
def az_m0 (own : String) (index : Nat) (M' : az_Me) (n : Nat) : Prop := Cond.methodLink own index M'.1 ∈ az_tbl ∧ Cond.initialized M'.1.cls ∈ az_tbl ∧ Cond.code M'.1 M'.2.1 M'.2.2.1 M'.2.2.2 ∈ az_tbl ∧ (M'.1.cls ≠ "java/lang/invoke/MethodHandle" ∧ M'.1.cls ≠ "java/lang/invoke/VarHandle" ∧ (parseMethodDescriptor M'.1.desc).map (fun d => d.parameters.length) = some n) ∧ M'.2.2.1 ≤ 21
def az_mS (own : String) (index : Nat) (M' : az_Me) (n : Nat) : Prop := az_m0 own index M' n ∧ Cond.static M'.1 ∈ az_tbl
def az_mV (own : String) (index : Nat) (M' : az_Me) (n ci : Nat) : Prop := az_m0 own index M' n ∧ Cond.instanceMethod M'.1 ∈ az_tbl ∧ Cond.selects M'.1.cls M'.1 M'.1 ∈ az_tbl ∧ (vwCl[ci]?).map (fun r => r.1) = some M'.1.cls
def az_mI (own : String) (index : Nat) (M' : az_Me) (n : Nat) : Prop := az_m0 own index M' n ∧ Cond.instanceMethod M'.1 ∈ az_tbl ∧ M'.1.name = "<init>"
theorem az_B {p : Program} {s : State} {m : MethodId} {args : Array Value} {meth : Method} {c : Code} {D : va_G} {base : Nat} {sa : Nat → Nat} {Hb : Heap} {R : Room} (C : az_cx p s m args meth c M D base sa Hb R d) (hm : az_m0 M.1.cls index M' n) (hd : d' + 1 ≤ d) : CallB R s args M.1.cls index M'.1 M'.2.1 M'.2.2.1 M'.2.2.2 (az_ws M') (az_rm d' mc ms) mc ms n := by
  obtain ⟨h1, h2, h3, h4, h5⟩ := hm
  have hts := C.2.2.2.2.2.1
  obtain ⟨k1, k2⟩ := C.2.2.2.2.2.2.2.2.2.2.2
  refine callB_of n hts (az_good h3) rfl rfl rfl (hts _ (List.mem_cons_of_mem _ h2)) (hts _ (List.mem_cons_of_mem _ h1)) h4 ⟨?_, ?_⟩
  · show d' + 1 ≤ R.frames
    omega
  · show 8 + (M'.2.2.1 + 11) + 40 * d' ≤ R.locals
    omega
theorem az_pre {p : Program} {s : State} {m : MethodId} {args : Array Value} {meth : Method} {c : Code} {D : va_G} {base : Nat} {sa : Nat → Nat} {Hb : Heap} {R : Room} {H : Heap} {locs : List Loc} (C : az_cx p s m args meth c M D base sa Hb R d) (hR : az_R D s base sa Hb hp H) (hS : va_S (fun q => base ≤ q) s.heap H locs) : ∀ U : State, U.heap = H → s.WarmedH U.vm → az_Pc D base sa Hb av hp (av.map (az_tr base sa)).toArray U := by
  intro U hU hW
  refine ⟨rfl, az_X.warm hW C.2.2.2.2.2.2.2.2.1, ?_, ?_, ?_⟩
  · rw [hU]; exact Nat.le_trans C.2.2.2.2.2.2.2.2.2.1 hS.1
  · rw [hU]; exact hR.2.1
  · rw [hU]; exact hR.moved hW.alike
theorem az_go {p : Program} {l : Launch} {e : Env} {s : State} {m : MethodId} {args a : Array Value} {below : List Frame} {meth : Method} {c : Code} {D : va_G} {base : Nat} {sa : Nat → Nat} {Hb : Heap} {R : Room} {Z : State → Prop} {H : Heap} {locs : List Loc} {cells slots : Nat} {lsC : Array Slot} {stC : List Value}
    (C : az_cx p s m args meth c M D base sa Hb R d) (E : az_end p l e s m args below meth c D base sa Hb R Z M Q) (hS : va_S (fun q => base ≤ q) s.heap H locs) (h1 : cells + rc ≤ R.cells) (h2 : slots + rs ≤ R.slots) (hl : lv_has lsC M.2.2.1 (az_ls base sa ls)) (hrc : mc ≤ rc) (hrs : ms ≤ rs)
    (hr : va_Run p l e R s m args below meth c H locs cells slots mc ms (F0 m pc lsC stC) (st.map (az_tr base sa)) (az_Qc D base sa Hb Q' a) (fun q => base ≤ q))
    (kk : ∀ v hp1, Q' v hp1 → az_W M d (rc - mc) (rs - ms) (pc + 3) ls (az_psh v st) hp1 Q) : W p l e R s m args below meth c H locs cells slots Z (F0 m pc lsC stC) := by
  intro T hT X
  obtain ⟨v, st₀, t, T', L, h0, X', hL, e1, e2, ⟨⟨v9, hp1, hv, hp9, hb⟩, hz, hk⟩, stp⟩ := hr T hT X
  cases hv
  rw [h0] at hz hk
  have hal : t.vm.Alike s.vm := by rw [← e2]; exact X'.warmed.alike.symm
  have k2 := kk v9 hp1 hp9 p l e s m args below meth c D base sa Hb R Z C E T'.heap (locs ++ L) (cells + mc) (slots + ms) lsC (by rw [e1]; exact hb.moved hal) ⟨Nat.le_trans hS.1 (by rw [e1]; exact hz), fun q g1 g2 => by rw [e1, hk q (Nat.lt_of_lt_of_le g1 hS.1) g2]; exact hS.2.1 q g1 g2, fun q hq => (List.mem_append.mp hq).elim (hS.2.2 q) (hL q)⟩ (by omega) (by omega) hl
  have e3 : (az_psh v9 st).map (az_tr base sa) = (v9.map (az_tr base sa)).toList ++ st.map (az_tr base sa) := by cases v9 <;> rfl
  rw [e3] at k2
  obtain ⟨t2, a1, b1⟩ := k2 T' rfl X'
  exact ⟨t2, stp t2 a1, b1⟩
theorem az_callS (hdg : decode M.2.1 pc = .ok (.invokestatic index, 3)) (hm : az_mS M.1.cls index M' n) (hM : az_M M' d' mc ms av hp Q') (kk : ∀ v hp1, Q' v hp1 → az_W M d (rc - mc) (rs - ms) (pc + 3) ls (az_psh v st) hp1 Q) (hd : d' + 1 ≤ d := by omega) (hst : stk = av.reverse ++ st := by rfl) (hn : av.length = n := by rfl) (hw : (st.map fun v => v.category).sum ≤ 8 := by exact Nat.le_of_ble_eq_true rfl) (hrc : mc ≤ rc := by omega) (hrs : ms ≤ rs := by omega) : az_W M d rc rs pc ls stk hp Q := by
  intro p l e s m args below meth c D base sa Hb R Z C E H locs cells slots lsC hR hS h1 h2 hl
  have hts := C.2.2.2.2.2.1
  refine az_go (mc := mc) (ms := ms) (rc := rc) (rs := rs) (ls := ls) (st := st) (Q' := Q') C E hS h1 h2 hl hrc hrs (va_runS (As := av.map (az_tr base sa)) (rest := st.map (az_tr base sa)) (n := n) ⟨C.1, C.2.1, C.2.2.2.1, C.2.2.2.2.1, hts⟩ (hM l D base sa Hb) ⟨az_B C hm.1 hd, hts _ (List.mem_cons_of_mem _ hm.2)⟩ ⟨az_blind, az_pre C hR hS⟩ rfl (by rw [List.length_map]; exact hn) hl.1 (by rw [hst]; simp) (lv_room (by rw [az_cats]; exact hw)) hdg ⟨by omega, by omega⟩) kk
theorem az_callV {b ci : Nat} {fs : List Value} (hdg : decode M.2.1 pc = .ok (.invokevirtual index, 3)) (hm : az_mV M.1.cls index M' n ci) (hb : hp.2 b = some (az_O ci fs)) (hM : az_M M' d' mc ms (.ref b :: av) hp Q') (kk : ∀ v hp1, Q' v hp1 → az_W M d (rc - mc) (rs - ms) (pc + 3) ls (az_psh v st) hp1 Q) (hd : d' + 1 ≤ d := by omega) (hst : stk = av.reverse ++ .ref b :: st := by rfl) (hn : av.length = n := by rfl) (hw : (st.map fun v => v.category).sum ≤ 8 := by exact Nat.le_of_ble_eq_true rfl) (hrc : mc ≤ rc := by omega) (hrs : ms ≤ rs := by omega) : az_W M d rc rs pc ls stk hp Q := by
  intro p l e s m args below meth c D base sa Hb R Z C E H locs cells slots lsC hR hS h1 h2 hl
  have hts := C.2.2.2.2.2.1
  obtain ⟨m0, m1, m2, m3⟩ := hm
  obtain ⟨r, r1, r2, cell, q1, q2, q3, q4⟩ := hR.2.2 b _ hb
  have hcl : ∃ cellB : Cell, H[base + b]? = some cellB ∧ cellB.vm.isStatics = false ∧ s.vm.findClass M'.1.cls = some cellB.cls := by
    refine ⟨cell, q1, by rw [q3]; rfl, ?_⟩
    have hr := (C.2.2.2.2.2.2.2.2.1.1.1 ci r r1).2.1
    rw [r1] at m3
    simp at m3
    rw [← m3, q2]
    exact hr
  refine az_go (mc := mc) (ms := ms) (rc := rc) (rs := rs) (ls := ls) (st := st) (Q' := Q') C E hS h1 h2 hl hrc hrs (va_runV (C := M'.1.cls) (b := base + b) (As := av.map (az_tr base sa)) (rest := st.map (az_tr base sa)) (n := n) ⟨C.1, C.2.1, C.2.2.2.1, C.2.2.2.2.1, hts⟩ (hM l D base sa Hb) ⟨az_B C m0 hd, hts _ (List.mem_cons_of_mem _ m1), hts _ (List.mem_cons_of_mem _ m2)⟩ ⟨az_blind, hcl, az_pre C hR hS⟩ rfl (by rw [List.length_map]; exact hn) hl.1 (by rw [hst]; simp [az_tr]) (lv_room (by rw [az_cats]; exact hw)) hdg ⟨by omega, by omega⟩) kk
theorem az_callI {b : Nat} (hdg : decode M.2.1 pc = .ok (.invokespecial index, 3)) (hm : az_mI M.1.cls index M' n) (hrn : M'.2.2.2 = none) (hM : az_M M' d' mc ms (.ref b :: av) hp Q') (kk : ∀ v hp1, Q' v hp1 → az_W M d (rc - mc) (rs - ms) (pc + 3) ls (az_psh v st) hp1 Q) (hd : d' + 1 ≤ d := by omega) (hst : stk = av.reverse ++ .ref b :: st := by rfl) (hn : av.length = n := by rfl) (hw : (st.map fun v => v.category).sum ≤ 8 := by exact Nat.le_of_ble_eq_true rfl) (hrc : mc ≤ rc := by omega) (hrs : ms ≤ rs := by omega) : az_W M d rc rs pc ls stk hp Q := by
  intro p l e s m args below meth c D base sa Hb R Z C E H locs cells slots lsC hR hS h1 h2 hl
  have hts := C.2.2.2.2.2.1
  have hB := az_B (mc := mc) (ms := ms) C hm.1 hd
  rw [hrn] at hB
  refine az_go (mc := mc) (ms := ms) (rc := rc) (rs := rs) (ls := ls) (st := st) (Q' := Q') C E hS h1 h2 hl hrc hrs (va_runI (b := base + b) (As := av.map (az_tr base sa)) (rest := st.map (az_tr base sa)) (n := n) ⟨C.1, C.2.1, C.2.2.2.1, C.2.2.2.2.1, hts⟩ (hM l D base sa Hb) ⟨hB, hm.2.2, hts _ (List.mem_cons_of_mem _ hm.2.1)⟩ ⟨az_blind, az_pre C hR hS⟩ rfl (by rw [List.length_map]; exact hn) hl.1 (by rw [hst]; simp [az_tr]) (lv_room (by rw [az_cats]; exact hw)) hdg ⟨by omega, by omega⟩) kk
def az_mN (own : String) (index : Nat) (M' : az_Me) (n : Nat) : Prop := (own, index, M'.1) ∈ az_nst ∧ Cond.initialized M'.1.cls ∈ az_tbl ∧ Cond.code M'.1 M'.2.1 M'.2.2.1 M'.2.2.2 ∈ az_tbl ∧ (M'.1.cls ≠ "java/lang/invoke/MethodHandle" ∧ M'.1.cls ≠ "java/lang/invoke/VarHandle" ∧ (parseMethodDescriptor M'.1.desc).map (fun d => d.parameters.length) = some n) ∧ M'.2.2.1 ≤ 21 ∧ Cond.instanceMethod M'.1 ∈ az_tbl ∧ M'.1.name = "<init>"
theorem az_callN {b : Nat} (hdg : decode M.2.1 pc = .ok (.invokespecial index, 3)) (hm : az_mN M.1.cls index M' n) (hrn : M'.2.2.2 = none) (hM : az_M M' d' mc ms (.ref b :: av) hp Q') (kk : ∀ v hp1, Q' v hp1 → az_W M d (rc - mc) (rs - ms) (pc + 3) ls (az_psh v st) hp1 Q) (hd : d' + 1 ≤ d := by omega) (hst : stk = av.reverse ++ .ref b :: st := by rfl) (hn : av.length = n := by rfl) (hw : (st.map fun v => v.category).sum ≤ 8 := by exact Nat.le_of_ble_eq_true rfl) (hrc : mc ≤ rc := by omega) (hrs : ms ≤ rs := by omega) : az_W M d rc rs pc ls stk hp Q := by
  intro p l e s m args below meth c D base sa Hb R Z C E H locs cells slots lsC hR hS h1 h2 hl
  have hts := C.2.2.2.2.2.1
  obtain ⟨k1, k2⟩ := C.2.2.2.2.2.2.2.2.2.2.2
  obtain ⟨m1, m2, m3, m4, m5, m6, m7⟩ := hm
  have hB : va_CN R s args M.1.cls index M'.1 RX11 M'.2.1 M'.2.2.1 none (az_ws M') (az_rm d' mc ms) mc ms n := by
    rw [← hrn]
    refine va_cnB n hts (az_good m3) rfl rfl rfl (C.2.2.2.2.2.2.2.2.1.2.2.1 _ m1) (hts _ (List.mem_cons_of_mem _ m2)) m4 ⟨?_, ?_⟩
    · show d' + 1 ≤ R.frames
      omega
    · show 8 + (M'.2.2.1 + 11) + 40 * d' ≤ R.locals
      omega
  refine az_go (mc := mc) (ms := ms) (rc := rc) (rs := rs) (ls := ls) (st := st) (Q' := Q') C E hS h1 h2 hl hrc hrs (va_runIN (b := base + b) (As := av.map (az_tr base sa)) (rest := st.map (az_tr base sa)) (n := n) ⟨C.1, C.2.1, C.2.2.2.1, C.2.2.2.2.1, hts⟩ (hM l D base sa Hb) ⟨hB, m7, hts _ (List.mem_cons_of_mem _ m6)⟩ ⟨az_blind, az_pre C hR hS⟩ rfl (by rw [List.length_map]; exact hn) hl.1 (by rw [hst]; simp [az_tr]) (lv_room (by rw [az_cats]; exact hw)) hdg ⟨by omega, by omega⟩) kk
theorem az_callS0  (hdg : decode M.2.1 pc = .ok (.invokestatic index, 3)) (hm : az_mS M.1.cls index M' n) (hM : az_M M' d' 0 0 av hp Q') (kk : ∀ v hp1, Q' v hp1 → az_W M d rc rs (pc + 3) ls (az_psh v st) hp1 Q) (hd : d' + 1 ≤ d := by omega) (hst : stk = av.reverse ++ st := by rfl) (hn : av.length = n := by rfl) (hw : (st.map fun v => v.category).sum ≤ 8 := by exact Nat.le_of_ble_eq_true rfl) : az_W M d rc rs pc ls stk hp Q :=
  az_callS hdg hm hM kk hd hst hn hw (Nat.zero_le _) (Nat.zero_le _)
theorem az_callV0 {b ci : Nat} {fs : List Value} (hdg : decode M.2.1 pc = .ok (.invokevirtual index, 3)) (hm : az_mV M.1.cls index M' n ci) (hb : hp.2 b = some (az_O ci fs)) (hM : az_M M' d' 0 0 (.ref b :: av) hp Q') (kk : ∀ v hp1, Q' v hp1 → az_W M d rc rs (pc + 3) ls (az_psh v st) hp1 Q) (hd : d' + 1 ≤ d := by omega) (hst : stk = av.reverse ++ .ref b :: st := by rfl) (hn : av.length = n := by rfl) (hw : (st.map fun v => v.category).sum ≤ 8 := by exact Nat.le_of_ble_eq_true rfl) : az_W M d rc rs pc ls stk hp Q :=
  az_callV hdg hm hb hM kk hd hst hn hw (Nat.zero_le _) (Nat.zero_le _)
theorem az_cS  (hdg : decode M.2.1 pc = .ok (.invokestatic index, 3)) (hm : az_mS M.1.cls index M' n) (hM : az_M M' d' mc ms av hp (fun v hp1 => az_W M d (rc - mc) (rs - ms) (pc + 3) ls (az_psh v st) hp1 Q)) (hd : d' + 1 ≤ d := by omega) (hst : stk = av.reverse ++ st := by rfl) (hn : av.length = n := by rfl) (hw : (st.map fun v => v.category).sum ≤ 8 := by exact Nat.le_of_ble_eq_true rfl) (hrc : mc ≤ rc := by omega) (hrs : ms ≤ rs := by omega) : az_W M d rc rs pc ls stk hp Q :=
  az_callS hdg hm hM (fun _ _ h => h) hd hst hn hw hrc hrs
theorem az_cS0  (hdg : decode M.2.1 pc = .ok (.invokestatic index, 3)) (hm : az_mS M.1.cls index M' n) (hM : az_M M' d' 0 0 av hp (fun v hp1 => az_W M d rc rs (pc + 3) ls (az_psh v st) hp1 Q)) (hd : d' + 1 ≤ d := by omega) (hst : stk = av.reverse ++ st := by rfl) (hn : av.length = n := by rfl) (hw : (st.map fun v => v.category).sum ≤ 8 := by exact Nat.le_of_ble_eq_true rfl) : az_W M d rc rs pc ls stk hp Q :=
  az_callS hdg hm hM (fun _ _ h => h) hd hst hn hw (Nat.zero_le _) (Nat.zero_le _)
theorem az_cV {b ci : Nat} {fs : List Value} (hdg : decode M.2.1 pc = .ok (.invokevirtual index, 3)) (hm : az_mV M.1.cls index M' n ci) (hb : hp.2 b = some (az_O ci fs)) (hM : az_M M' d' mc ms (.ref b :: av) hp (fun v hp1 => az_W M d (rc - mc) (rs - ms) (pc + 3) ls (az_psh v st) hp1 Q)) (hd : d' + 1 ≤ d := by omega) (hst : stk = av.reverse ++ .ref b :: st := by rfl) (hn : av.length = n := by rfl) (hw : (st.map fun v => v.category).sum ≤ 8 := by exact Nat.le_of_ble_eq_true rfl) (hrc : mc ≤ rc := by omega) (hrs : ms ≤ rs := by omega) : az_W M d rc rs pc ls stk hp Q :=
  az_callV hdg hm hb hM (fun _ _ h => h) hd hst hn hw hrc hrs
theorem az_cV0 {b ci : Nat} {fs : List Value} (hdg : decode M.2.1 pc = .ok (.invokevirtual index, 3)) (hm : az_mV M.1.cls index M' n ci) (hb : hp.2 b = some (az_O ci fs)) (hM : az_M M' d' 0 0 (.ref b :: av) hp (fun v hp1 => az_W M d rc rs (pc + 3) ls (az_psh v st) hp1 Q)) (hd : d' + 1 ≤ d := by omega) (hst : stk = av.reverse ++ .ref b :: st := by rfl) (hn : av.length = n := by rfl) (hw : (st.map fun v => v.category).sum ≤ 8 := by exact Nat.le_of_ble_eq_true rfl) : az_W M d rc rs pc ls stk hp Q :=
  az_callV hdg hm hb hM (fun _ _ h => h) hd hst hn hw (Nat.zero_le _) (Nat.zero_le _)
theorem az_cI {b : Nat} (hdg : decode M.2.1 pc = .ok (.invokespecial index, 3)) (hm : az_mI M.1.cls index M' n) (hrn : M'.2.2.2 = none) (hM : az_M M' d' mc ms (.ref b :: av) hp (fun v hp1 => az_W M d (rc - mc) (rs - ms) (pc + 3) ls (az_psh v st) hp1 Q)) (hd : d' + 1 ≤ d := by omega) (hst : stk = av.reverse ++ .ref b :: st := by rfl) (hn : av.length = n := by rfl) (hw : (st.map fun v => v.category).sum ≤ 8 := by exact Nat.le_of_ble_eq_true rfl) (hrc : mc ≤ rc := by omega) (hrs : ms ≤ rs := by omega) : az_W M d rc rs pc ls stk hp Q :=
  az_callI hdg hm hrn hM (fun _ _ h => h) hd hst hn hw hrc hrs
theorem az_cI0 {b : Nat} (hdg : decode M.2.1 pc = .ok (.invokespecial index, 3)) (hm : az_mI M.1.cls index M' n) (hrn : M'.2.2.2 = none) (hM : az_M M' d' 0 0 (.ref b :: av) hp (fun v hp1 => az_W M d rc rs (pc + 3) ls (az_psh v st) hp1 Q)) (hd : d' + 1 ≤ d := by omega) (hst : stk = av.reverse ++ .ref b :: st := by rfl) (hn : av.length = n := by rfl) (hw : (st.map fun v => v.category).sum ≤ 8 := by exact Nat.le_of_ble_eq_true rfl) : az_W M d rc rs pc ls stk hp Q :=
  az_callI hdg hm hrn hM (fun _ _ h => h) hd hst hn hw (Nat.zero_le _) (Nat.zero_le _)
theorem az_cN {b : Nat} (hdg : decode M.2.1 pc = .ok (.invokespecial index, 3)) (hm : az_mN M.1.cls index M' n) (hrn : M'.2.2.2 = none) (hM : az_M M' d' mc ms (.ref b :: av) hp (fun v hp1 => az_W M d (rc - mc) (rs - ms) (pc + 3) ls (az_psh v st) hp1 Q)) (hd : d' + 1 ≤ d := by omega) (hst : stk = av.reverse ++ .ref b :: st := by rfl) (hn : av.length = n := by rfl) (hw : (st.map fun v => v.category).sum ≤ 8 := by exact Nat.le_of_ble_eq_true rfl) (hrc : mc ≤ rc := by omega) (hrs : ms ≤ rs := by omega) : az_W M d rc rs pc ls stk hp Q :=
  az_callN hdg hm hrn hM (fun _ _ h => h) hd hst hn hw hrc hrs
theorem az_cN0 {b : Nat} (hdg : decode M.2.1 pc = .ok (.invokespecial index, 3)) (hm : az_mN M.1.cls index M' n) (hrn : M'.2.2.2 = none) (hM : az_M M' d' 0 0 (.ref b :: av) hp (fun v hp1 => az_W M d rc rs (pc + 3) ls (az_psh v st) hp1 Q)) (hd : d' + 1 ≤ d := by omega) (hst : stk = av.reverse ++ .ref b :: st := by rfl) (hn : av.length = n := by rfl) (hw : (st.map fun v => v.category).sum ≤ 8 := by exact Nat.le_of_ble_eq_true rfl) : az_W M d rc rs pc ls stk hp Q :=
  az_callN hdg hm hrn hM (fun _ _ h => h) hd hst hn hw (Nat.zero_le _) (Nat.zero_le _)
end AZC
