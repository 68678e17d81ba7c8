/-! The law: the script lies at 'sa 45'; the rules once more, beside it -/
abbrev mL_law : az_Me := (x, code, 4, ret)
def al_X (L : Nat) (xs : Nat → Int32) (s : State) (base : Nat) (sa : Nat → Nat) : Prop := va_X (sa 45) L xs s s.heap ∧ sa 45 < base
def al_W (L : Nat) (xs : Nat → Int32) (M : az_Me) (d rc rs pc : Nat) (ls : List (Nat × Value)) (st : List Value) (hp : az_Hp) (Q : Option Value → az_Hp → Prop) : Prop :=
  ∀ (p : Program) (l : Launch) (e : Env) (s : State) (m : MethodId) (args : Array Value) (below : List Frame) (meth : Method) (c : Code) (D : va_G) (base : Nat) (sa : Nat → Nat) (Hb : Heap) (R : Room) (Z : State → Prop),
    az_cx p s m args meth c M D base sa Hb R d → az_end p l e s m args below meth c D base sa Hb R Z M Q → al_X L xs s base sa →
    ∀ (H : Heap) (locs : List Loc) (cells slots : Nat) (lsC : Array Slot), az_R D s base sa Hb hp H → va_S (fun q => base ≤ q) s.heap H locs → cells + rc ≤ R.cells → slots + rs ≤ R.slots → lv_has lsC M.2.2.1 (az_ls base sa ls) →
    W p l e R s m args below meth c H locs cells slots Z (F0 m pc lsC (st.map (az_tr base sa)))
section ALR
variable {L : Nat} {xs : Nat → Int32} {M M' : az_Me} {d d' rc rs pc mc ms n index : Nat} {ls : List (Nat × Value)} {st stk av : List Value} {hp : az_Hp} {Q Q' : Option Value → az_Hp → Prop}
theorem al_W.room {rc' rs' : Nat} (h1 : rc' ≤ rc) (h2 : rs' ≤ rs) (k : al_W L xs M d rc' rs' pc ls st hp Q) : al_W L xs M d rc rs pc ls st hp Q :=
  fun p l e s m args below meth c D base sa Hb R Z C E X H locs cells slots lsC hR hS h3 h4 hl => k p l e s m args below meth c D base sa Hb R Z C E X H locs cells slots lsC hR hS (by omega) (by omega) hl
theorem al_Wstk {stk stk' : List Value} (h : stk' = stk) (k : al_W L xs M d rc rs pc ls stk hp Q) : al_W L xs M d rc rs pc ls stk' hp Q := h ▸ k
theorem al_iconst {n : Int} {v : Int32} (hdg : decode M.2.1 pc = .ok (.iconst n, 1))  (k : al_W L xs M d rc rs (pc + 1) ls (.int v :: st) hp Q) (hv : Int32.ofInt n = v := by decide) : al_W L xs M d rc rs pc ls (st) hp Q := by
  intro p l e s m args below meth c D base sa Hb R Z C E X H locs cells slots lsC hR hS h1 h2 hl
  exact lv_iconst C.1 C.2.1 hdg hv (k p l e s m args below meth c D base sa Hb R Z C E X H locs cells slots lsC hR hS h1 h2 hl)
theorem al_bipush {n : Int} {v : Int32} (hdg : decode M.2.1 pc = .ok (.bipush n, 2))  (k : al_W L xs M d rc rs (pc + 2) ls (.int v :: st) hp Q) (hv : (Int8.ofInt n).toInt32 = v := by decide) : al_W L xs M d rc rs pc ls (st) hp Q := by
  intro p l e s m args below meth c D base sa Hb R Z C E X H locs cells slots lsC hR hS h1 h2 hl
  exact lv_bipush C.1 C.2.1 hdg hv (k p l e s m args below meth c D base sa Hb R Z C E X H locs cells slots lsC hR hS h1 h2 hl)
theorem al_iload_n {kn : Fin 4} {x : Int32} (hdg : decode M.2.1 pc = .ok (.iload_n kn, 1))  (k : al_W L xs M d rc rs (pc + 1) ls (.int x :: st) hp Q) (hv : az_get ls (kn : Nat) = some (.int x) := by rfl) : al_W L xs M d rc rs pc ls (st) hp Q := by
  intro p l e s m args below meth c D base sa Hb R Z C E X H locs cells slots lsC hR hS h1 h2 hl
  exact lv_iload_n C.1 C.2.1 hdg rfl (az_lv hl (az_get_mem hv)) (k p l e s m args below meth c D base sa Hb R Z C E X H locs cells slots lsC hR hS h1 h2 hl)
theorem al_aload_n {kn : Fin 4} {x : Nat} (hdg : decode M.2.1 pc = .ok (.aload_n kn, 1))  (k : al_W L xs M d rc rs (pc + 1) ls (.ref x :: st) hp Q) (hv : az_get ls (kn : Nat) = some (.ref x) := by rfl) : al_W L xs M d rc rs pc ls (st) hp Q := by
  intro p l e s m args below meth c D base sa Hb R Z C E X H locs cells slots lsC hR hS h1 h2 hl
  exact lv_aload_n C.1 C.2.1 hdg rfl (az_lv hl (az_get_mem hv)) (k p l e s m args below meth c D base sa Hb R Z C E X H locs cells slots lsC hR hS h1 h2 hl)
theorem al_aload_nS {kn : Fin 4} {x : Nat} (hdg : decode M.2.1 pc = .ok (.aload_n kn, 1))  (k : al_W L xs M d rc rs (pc + 1) ls (.retAddr x :: st) hp Q) (hv : az_get ls (kn : Nat) = some (.retAddr x) := by rfl) : al_W L xs M d rc rs pc ls (st) hp Q := by
  intro p l e s m args below meth c D base sa Hb R Z C E X H locs cells slots lsC hR hS h1 h2 hl
  exact lv_aload_n C.1 C.2.1 hdg rfl (az_lv hl (az_get_mem hv)) (k p l e s m args below meth c D base sa Hb R Z C E X H locs cells slots lsC hR hS h1 h2 hl)
theorem al_iadd {x y : Int32} (hdg : decode M.2.1 pc = .ok (.iadd, 1))  (k : al_W L xs M d rc rs (pc + 1) ls (.int (x + y) :: st) hp Q)  : al_W L xs M d rc rs pc ls (.int y :: .int x :: st) hp Q := by
  intro p l e s m args below meth c D base sa Hb R Z C E X H locs cells slots lsC hR hS h1 h2 hl
  exact lv_iadd C.1 C.2.1 hdg (k p l e s m args below meth c D base sa Hb R Z C E X H locs cells slots lsC hR hS h1 h2 hl)
theorem al_isub {x y : Int32} (hdg : decode M.2.1 pc = .ok (.isub, 1))  (k : al_W L xs M d rc rs (pc + 1) ls (.int (x - y) :: st) hp Q)  : al_W L xs M d rc rs pc ls (.int y :: .int x :: st) hp Q := by
  intro p l e s m args below meth c D base sa Hb R Z C E X H locs cells slots lsC hR hS h1 h2 hl
  exact lv_isub C.1 C.2.1 hdg (k p l e s m args below meth c D base sa Hb R Z C E X H locs cells slots lsC hR hS h1 h2 hl)
theorem al_iand {x y : Int32} (hdg : decode M.2.1 pc = .ok (.iand, 1))  (k : al_W L xs M d rc rs (pc + 1) ls (.int (x &&& y) :: st) hp Q)  : al_W L xs M d rc rs pc ls (.int y :: .int x :: st) hp Q := by
  intro p l e s m args below meth c D base sa Hb R Z C E X H locs cells slots lsC hR hS h1 h2 hl
  exact lv_iand C.1 C.2.1 hdg (k p l e s m args below meth c D base sa Hb R Z C E X H locs cells slots lsC hR hS h1 h2 hl)
theorem al_i2l {x : Int32} (hdg : decode M.2.1 pc = .ok (.i2l, 1))  (k : al_W L xs M d rc rs (pc + 1) ls (.long x.toInt64 :: st) hp Q)  : al_W L xs M d rc rs pc ls (.int x :: st) hp Q := by
  intro p l e s m args below meth c D base sa Hb R Z C E X H locs cells slots lsC hR hS h1 h2 hl
  exact lv_i2l C.1 C.2.1 hdg rfl (k p l e s m args below meth c D base sa Hb R Z C E X H locs cells slots lsC hR hS h1 h2 hl)
theorem al_land {x y : Int64} (hdg : decode M.2.1 pc = .ok (.land, 1))  (k : al_W L xs M d rc rs (pc + 1) ls (.long (x &&& y) :: st) hp Q)  : al_W L xs M d rc rs pc ls (.long y :: .long x :: st) hp Q := by
  intro p l e s m args below meth c D base sa Hb R Z C E X H locs cells slots lsC hR hS h1 h2 hl
  exact lv_land C.1 C.2.1 hdg (k p l e s m args below meth c D base sa Hb R Z C E X H locs cells slots lsC hR hS h1 h2 hl)
theorem al_lor {x y : Int64} (hdg : decode M.2.1 pc = .ok (.lor, 1))  (k : al_W L xs M d rc rs (pc + 1) ls (.long (x ||| y) :: st) hp Q)  : al_W L xs M d rc rs pc ls (.long y :: .long x :: st) hp Q := by
  intro p l e s m args below meth c D base sa Hb R Z C E X H locs cells slots lsC hR hS h1 h2 hl
  exact lv_lor C.1 C.2.1 hdg (k p l e s m args below meth c D base sa Hb R Z C E X H locs cells slots lsC hR hS h1 h2 hl)
theorem al_lshl {x : Int64} {y : Int32} (hdg : decode M.2.1 pc = .ok (.lshl, 1))  (k : al_W L xs M d rc rs (pc + 1) ls (.long (x <<< (y.toInt64 &&& 63)) :: st) hp Q)  : al_W L xs M d rc rs pc ls (.int y :: .long x :: st) hp Q := by
  intro p l e s m args below meth c D base sa Hb R Z C E X H locs cells slots lsC hR hS h1 h2 hl
  exact lv_lshl C.1 C.2.1 hdg rfl (k p l e s m args below meth c D base sa Hb R Z C E X H locs cells slots lsC hR hS h1 h2 hl)
theorem al_lcmp {x y : Int64} (hdg : decode M.2.1 pc = .ok (.lcmp, 1))  (k : al_W L xs M d rc rs (pc + 1) ls (.int (lg_cmp x y) :: st) hp Q)  : al_W L xs M d rc rs pc ls (.long y :: .long x :: st) hp Q := by
  intro p l e s m args below meth c D base sa Hb R Z C E X H locs cells slots lsC hR hS h1 h2 hl
  exact W.lcmp C.1 C.2.1 hdg (k p l e s m args below meth c D base sa Hb R Z C E X H locs cells slots lsC hR hS h1 h2 hl)
theorem al_dup {v : Value} (hdg : decode M.2.1 pc = .ok (.dup, 1))  (k : al_W L xs M d rc rs (pc + 1) ls (v :: v :: st) hp Q) (hv : v.category = 1 := by rfl) : al_W L xs M d rc rs pc ls (v :: st) hp Q := by
  intro p l e s m args below meth c D base sa Hb R Z C E X H locs cells slots lsC hR hS h1 h2 hl
  exact lv_dup C.1 C.2.1 hdg ((az_tr_cat _ _ _).trans hv) (k p l e s m args below meth c D base sa Hb R Z C E X H locs cells slots lsC hR hS h1 h2 hl)
theorem al_istore_n {kn : Fin 4} {x : Int32} {ls' : List (Nat × Value)} (hdg : decode M.2.1 pc = .ok (.istore_n kn, 1)) (k : al_W L xs M d rc rs (pc + 1) ls' st hp Q) (hs : az_set1 ls (kn : Nat) (.int x) = ls' := by rfl) (hn : (kn : Nat) < M.2.2.1 := by decide) : al_W L xs M d rc rs pc ls (.int x :: st) hp Q := by
  intro p l e s m args below meth c D base sa Hb R Z C E X H locs cells slots lsC hR hS h1 h2 hl
  exact lv_istore_n C.1 C.2.1 hdg rfl hl hn rfl (fun ls9 hl9 => k p l e s m args below meth c D base sa Hb R Z C E X H locs cells slots ls9 hR hS h1 h2 (az_put1 hs hl9))
theorem al_astore_n {kn : Fin 4} {x : Nat} {ls' : List (Nat × Value)} (hdg : decode M.2.1 pc = .ok (.astore_n kn, 1)) (k : al_W L xs M d rc rs (pc + 1) ls' st hp Q) (hs : az_set1 ls (kn : Nat) (.ref x) = ls' := by rfl) (hn : (kn : Nat) < M.2.2.1 := by decide) : al_W L xs M d rc rs pc ls (.ref x :: st) hp Q := by
  intro p l e s m args below meth c D base sa Hb R Z C E X H locs cells slots lsC hR hS h1 h2 hl
  exact lv_astore_n C.1 C.2.1 hdg rfl hl hn rfl (fun ls9 hl9 => k p l e s m args below meth c D base sa Hb R Z C E X H locs cells slots ls9 hR hS h1 h2 (az_put1 hs hl9))
theorem al_iinc {i : Nat} {n : Int} {x v : Int32} {ls' : List (Nat × Value)} (hdg : decode M.2.1 pc = .ok (.iinc i n, 3)) (k : al_W L xs M d rc rs (pc + 3) ls' st hp Q) (hv : az_get ls i = some (.int x) := by rfl) (hx : x + Int32.ofInt n = v := by rfl) (hs : az_set1 ls i (.int v) = ls' := by rfl) (hn : i < M.2.2.1 := by decide) : al_W L xs M d rc rs pc ls st hp Q := by
  intro p l e s m args below meth c D base sa Hb R Z C E X H locs cells slots lsC hR hS h1 h2 hl
  obtain ⟨k0, hk0⟩ := List.getElem?_of_mem (List.mem_map.mpr ⟨(i, .int x), az_get_mem hv, rfl⟩ : (i, Value.int x) ∈ az_ls base sa ls)
  exact lv_iinc C.1 C.2.1 hdg hl hk0 hx hn rfl (fun ls9 hl9 => k p l e s m args below meth c D base sa Hb R Z C E X H locs cells slots ls9 hR hS h1 h2 (az_put1 hs hl9))
theorem al_if_eq {x : Int32} {off : Int} {tgt : Nat} (hdg : decode M.2.1 pc = .ok (.ifCond .eq off, 3)) (kt : x = 0 → al_W L xs M d rc rs tgt ls st hp Q) (kf : ¬ x = 0 → al_W L xs M d rc rs (pc + 3) ls st hp Q) (ht : (pc : Int) + off = (tgt : Int) := by decide) : al_W L xs M d rc rs pc ls (.int x :: st) hp Q := by
  intro p l e s m args below meth c D base sa Hb R Z C E X H locs cells slots lsC hR hS h1 h2 hl
  exact lv_if_eq C.1 C.2.1 hdg ht (fun h => kt h p l e s m args below meth c D base sa Hb R Z C E X H locs cells slots lsC hR hS h1 h2 hl) (fun h => kf h p l e s m args below meth c D base sa Hb R Z C E X H locs cells slots lsC hR hS h1 h2 hl)
theorem al_icmp_eq {x y : Int32} {off : Int} {tgt : Nat} (hdg : decode M.2.1 pc = .ok (.if_icmp .eq off, 3)) (kt : x = y → al_W L xs M d rc rs tgt ls st hp Q) (kf : ¬ x = y → al_W L xs M d rc rs (pc + 3) ls st hp Q) (ht : (pc : Int) + off = (tgt : Int) := by decide) : al_W L xs M d rc rs pc ls (.int y :: .int x :: st) hp Q := by
  intro p l e s m args below meth c D base sa Hb R Z C E X H locs cells slots lsC hR hS h1 h2 hl
  exact lv_icmp_eq C.1 C.2.1 hdg ht (fun h => kt h p l e s m args below meth c D base sa Hb R Z C E X H locs cells slots lsC hR hS h1 h2 hl) (fun h => kf h p l e s m args below meth c D base sa Hb R Z C E X H locs cells slots lsC hR hS h1 h2 hl)
theorem al_icmp_gt {x y : Int32} {off : Int} {tgt : Nat} (hdg : decode M.2.1 pc = .ok (.if_icmp .gt off, 3)) (kt : y < x → al_W L xs M d rc rs tgt ls st hp Q) (kf : ¬ y < x → al_W L xs M d rc rs (pc + 3) ls st hp Q) (ht : (pc : Int) + off = (tgt : Int) := by decide) : al_W L xs M d rc rs pc ls (.int y :: .int x :: st) hp Q := by
  intro p l e s m args below meth c D base sa Hb R Z C E X H locs cells slots lsC hR hS h1 h2 hl
  exact lv_icmp_gt C.1 C.2.1 hdg ht (fun h => kt h p l e s m args below meth c D base sa Hb R Z C E X H locs cells slots lsC hR hS h1 h2 hl) (fun h => kf h p l e s m args below meth c D base sa Hb R Z C E X H locs cells slots lsC hR hS h1 h2 hl)
theorem al_goto {off : Int} {tgt : Nat} (hdg : decode M.2.1 pc = .ok (.goto off, 3)) (k : al_W L xs M d rc rs tgt ls st hp Q) (ht : (pc : Int) + off = (tgt : Int) := by decide) : al_W L xs M d rc rs pc ls st hp Q := by
  intro p l e s m args below meth c D base sa Hb R Z C E X H locs cells slots lsC hR hS h1 h2 hl
  exact lv_goto C.1 C.2.1 hdg ht (k p l e s m args below meth c D base sa Hb R Z C E X H locs cells slots lsC hR hS h1 h2 hl)
theorem al_tswIn {dflt lo hi : Int} {offs : Array Int} {len : Nat} {x : Int32} {off : Int} {tgt : Nat} (hdg : decode M.2.1 pc = .ok (.tableswitch dflt lo hi offs, len)) (h1 : ¬ x.toInt < lo) (h2 : ¬ hi < x.toInt) (ho : offs[(x.toInt - lo).toNat]? = some off) (ht : (pc : Int) + off = (tgt : Int)) (k : al_W L xs M d rc rs tgt ls st hp Q) : al_W L xs M d rc rs pc ls (.int x :: st) hp Q := by
  intro p l e s m args below meth c D base sa Hb R Z C E X H locs cells slots lsC hR hS g1 g2 hl
  exact lv_tableIn C.1 C.2.1 hdg h1 h2 ho ht (k p l e s m args below meth c D base sa Hb R Z C E X H locs cells slots lsC hR hS g1 g2 hl)
theorem al_tswOut {dflt lo hi : Int} {offs : Array Int} {len : Nat} {x : Int32} {tgt : Nat} (hdg : decode M.2.1 pc = .ok (.tableswitch dflt lo hi offs, len)) (h : x.toInt < lo ∨ hi < x.toInt) (ht : (pc : Int) + dflt = (tgt : Int)) (k : al_W L xs M d rc rs tgt ls st hp Q) : al_W L xs M d rc rs pc ls (.int x :: st) hp Q := by
  intro p l e s m args below meth c D base sa Hb R Z C E X H locs cells slots lsC hR hS h1 h2 hl
  exact lv_tableOut C.1 C.2.1 hdg h ht (k p l e s m args below meth c D base sa Hb R Z C E X H locs cells slots lsC hR hS h1 h2 hl)
theorem al_ldc2 {index : Nat} {v : Int64} (hdg : decode M.2.1 pc = .ok (.ldc2_w index, 3)) (hc : Cond.constantLong M.1.cls index v ∈ az_tbl) (k : al_W L xs M d rc rs (pc + 3) ls (.long v :: st) hp Q) : al_W L xs M d rc rs pc ls st hp Q := by
  intro p l e s m args below meth c D base sa Hb R Z C E X H locs cells slots lsC hR hS h1 h2 hl
  exact lv_ldc2 C.1 C.2.1 C.2.2.2.2.1 (C.2.2.2.2.2.1 _ (List.mem_cons_of_mem _ hc)) hdg (k p l e s m args below meth c D base sa Hb R Z C E X H locs cells slots lsC hR hS h1 h2 hl)
theorem al_iret {x : Int32} {ty : FieldType} (hdg : decode M.2.1 pc = .ok (.ireturn, 1)) (hQ : Q (some (.int x)) hp) (hr : M.2.2.2 = some ty := by rfl) (hn : narrow ty (.int x) = .int x := by rfl) : al_W L xs M d rc rs pc ls [.int x] hp Q := by
  intro p l e s m args below meth c D base sa Hb R Z C E X H locs cells slots lsC hR hS h1 h2 hl
  exact E (some (.int x)) hp H locs cells slots pc lsC hQ hR hS (by omega) (by omega) ⟨hdg, ty, hr, hn⟩
theorem al_new {index ci n : Nat} {fs : List Value} (hdg : decode M.2.1 pc = .ok (.new index, 3)) (hc : az_cl M.1.cls index ci fs) (hrc : 1 ≤ rc) (hrs : fs.length ≤ rs)
    (kk : al_W L xs M d (rc - 1) (rs - fs.length) (pc + 3) ls (.ref hp.1 :: st) (az_nw hp (az_O ci fs)) Q) : al_W L xs M d rc rs pc ls st hp Q := by
  intro p l e s m args below meth c D base sa Hb R Z C E X H locs cells slots lsC hR hS h1 h2 hl
  obtain ⟨N0, T, N, ty0, hc, hcl, hins, hini, hin, hty, hN, hdv, hno⟩ := hc
  have hts := C.2.2.2.2.2.1
  have hK := C.2.2.2.2.2.2.2.2.1.1
  have hP : va_P D vwCl [] H := fun k q h => by simp at h
  have hD : va_D (fun q => base ≤ q) [] := ⟨fun i j p q h => by simp at h, fun k q h => by simp at h⟩
  have hKn := hK.1 ci _ hc
  have hz := hR.1
  refine W.newcK C.1 C.2.1 C.2.2.2.2.1 (hts _ (List.mem_cons_of_mem _ hcl)) (hts _ (List.mem_cons_of_mem _ hins)) (hts _ (List.mem_cons_of_mem _ hini)) rfl hdg (by omega) (by omega) hKn.2.1 rfl fun H1 kC hkC e1 z1 o1 => ?_
  have hfs : fs.map (az_tr base sa) = fs := by
    clear hdv hN hrs kk
    induction fs with
    | nil => rfl
    | cons v r ih =>
      simp only [List.all_cons, Bool.and_eq_true] at hno
      rw [List.map_cons, ih hno.2]
      congr 1
      revert hno
      cases v <;> intro hno <;> first | rfl | (simp at hno)
  have hat : az_at D s base sa hp.1 (az_O ci fs) H1 := by
    refine ⟨(N0, T, N), hc, hN, ?_⟩
    rw [hfs, ← hz]
    exact (u_born ty0 hts (fun w h => List.mem_cons_of_mem _ (hin w h)) hKn hkC e1 hty).to hdv
  have k2 := kk p l e s m args below meth c D base sa Hb R Z C E X H1 locs (cells + 1) (slots + N) lsC (hR.nw z1 o1 hat) ⟨Nat.le_trans hS.1 (by omega), fun x g1 g2 => (o1 x (Nat.lt_of_lt_of_le g1 hS.1)).trans (hS.2.1 x g1 g2), hS.2.2⟩ (by omega) (by omega) hl
  have e3 : (Value.ref hp.1 :: st).map (az_tr base sa) = Value.ref H.size :: st.map (az_tr base sa) := by rw [hz]; rfl
  rw [e3] at k2
  exact k2
theorem al_newK {index ci k : Nat} {fs : List Value} (hdg : decode M.2.1 pc = .ok (.new index, 3)) (hc : az_cl M.1.cls index ci fs) (kk : al_W L xs M d (rc - 1) (rs - k) (pc + 3) ls (.ref hp.1 :: st) (az_nw hp (az_O ci fs)) Q) (hk : fs.length = k := by rfl) (hrc : 1 ≤ rc := by omega) (hrs : k ≤ rs := by omega) : al_W L xs M d rc rs pc ls st hp Q := by
  subst hk
  exact al_new (n := 0) hdg hc hrc hrs kk
theorem al_iaddN {x y : Nat} (hdg : decode M.2.1 pc = .ok (.iadd, 1)) (k : al_W L xs M d rc rs (pc + 1) ls (.int (nI (x + y)) :: st) hp Q) : al_W L xs M d rc rs pc ls (.int (nI y) :: .int (nI x) :: st) hp Q :=
  al_iadd hdg (al_Wstk (by rw [nI_add x y]) k)
theorem al_iincN {i x n : Nat} {z : Int} {ls' : List (Nat × Value)} (hdg : decode M.2.1 pc = .ok (.iinc i z, 3)) (k : al_W L xs M d rc rs (pc + 3) ls' st hp Q) (hz : z = (n : Int) := by rfl) (hv : az_get ls i = some (.int (nI x)) := by rfl) (hs : az_set1 ls i (.int (nI (x + n))) = ls' := by rfl) (hn : i < M.2.2.1 := by decide) : al_W L xs M d rc rs pc ls st hp Q :=
  al_iinc (v := nI (x + n)) hdg k hv (by subst hz; rw [← nI_add]; rfl) hs hn
theorem al_lcmp_eq {x y : Int64} {off : Int} {tgt : Nat} (hdg : decode M.2.1 pc = .ok (.lcmp, 1)) (hdg2 : decode M.2.1 (pc + 1) = .ok (.ifCond .eq off, 3)) (kt : x = y → al_W L xs M d rc rs tgt ls st hp Q) (kf : ¬ (x = y) → al_W L xs M d rc rs (pc + 4) ls st hp Q) (ht : ((pc + 1 : Nat) : Int) + off = (tgt : Int) := by decide) : al_W L xs M d rc rs pc ls (.long y :: .long x :: st) hp Q :=
  al_lcmp hdg (al_if_eq hdg2 (fun h => kt ((lg_cmp_eq x y).mp h)) (fun h => kf (fun q => h ((lg_cmp_eq x y).mpr q))) ht)
theorem al_go {p : Program} {l : Launch} {e : Env} {s : State} {m : MethodId} {args a : Array Value} {below : List Frame} {meth : Method} {c : Code} {D : va_G} {base : Nat} {sa : Nat → Nat} {Hb : Heap} {R : Room} {Z : State → Prop} {H : Heap} {locs : List Loc} {cells slots : Nat} {lsC : Array Slot} {stC : List Value}
    (C : az_cx p s m args meth c M D base sa Hb R d) (E : az_end p l e s m args below meth c D base sa Hb R Z M Q) (X0 : al_X L xs s base sa) (hS : va_S (fun q => base ≤ q) s.heap H locs) (h1 : cells + rc ≤ R.cells) (h2 : slots + rs ≤ R.slots) (hl : lv_has lsC M.2.2.1 (az_ls base sa ls)) (hrc : mc ≤ rc) (hrs : ms ≤ rs)
    (hr : va_Run p l e R s m args below meth c H locs cells slots mc ms (F0 m pc lsC stC) (st.map (az_tr base sa)) (az_Qc D base sa Hb Q' a) (fun q => base ≤ q))
    (kk : ∀ v hp1, Q' v hp1 → al_W L xs M d (rc - mc) (rs - ms) (pc + 3) ls (az_psh v st) hp1 Q) : W p l e R s m args below meth c H locs cells slots Z (F0 m pc lsC stC) := by
  intro T hT X
  obtain ⟨v, st₀, t, T', L9, h0, X', hL, e1, e2, ⟨⟨v9, hp1, hv, hp9, hb⟩, hz, hk⟩, stp⟩ := hr T hT X
  cases hv
  rw [h0] at hz hk
  have hal : t.vm.Alike s.vm := by rw [← e2]; exact X'.warmed.alike.symm
  have k2 := kk v9 hp1 hp9 p l e s m args below meth c D base sa Hb R Z C E X0 T'.heap (locs ++ L9) (cells + mc) (slots + ms) lsC (by rw [e1]; exact hb.moved hal) ⟨Nat.le_trans hS.1 (by rw [e1]; exact hz), fun q g1 g2 => by rw [e1, hk q (Nat.lt_of_lt_of_le g1 hS.1) g2]; exact hS.2.1 q g1 g2, fun q hq => (List.mem_append.mp hq).elim (hS.2.2 q) (hL q)⟩ (by omega) (by omega) hl
  have e3 : (az_psh v9 st).map (az_tr base sa) = (v9.map (az_tr base sa)).toList ++ st.map (az_tr base sa) := by cases v9 <;> rfl
  rw [e3] at k2
  obtain ⟨t2, a1, b1⟩ := k2 T' rfl X'
  exact ⟨t2, stp t2 a1, b1⟩
theorem al_callV {b ci : Nat} {fs : List Value} (hdg : decode M.2.1 pc = .ok (.invokevirtual index, 3)) (hm : az_mV M.1.cls index M' n ci) (hb : hp.2 b = some (az_O ci fs)) (hM : az_M M' d' mc ms (.ref b :: av) hp Q') (kk : ∀ v hp1, Q' v hp1 → al_W L xs M d (rc - mc) (rs - ms) (pc + 3) ls (az_psh v st) hp1 Q) (hd : d' + 1 ≤ d := by omega) (hst : stk = av.reverse ++ .ref b :: st := by rfl) (hn : av.length = n := by rfl) (hw : (st.map fun v => v.category).sum ≤ 8 := by exact Nat.le_of_ble_eq_true rfl) (hrc : mc ≤ rc := by omega) (hrs : ms ≤ rs := by omega) : al_W L xs M d rc rs pc ls stk hp Q := by
  intro p l e s m args below meth c D base sa Hb R Z C E X H locs cells slots lsC hR hS h1 h2 hl
  have hts := C.2.2.2.2.2.1
  obtain ⟨m0, m1, m2, m3⟩ := hm
  obtain ⟨r, r1, r2, cell, q1, q2, q3, q4⟩ := hR.2.2 b _ hb
  have hcl : ∃ cellB : Cell, H[base + b]? = some cellB ∧ cellB.vm.isStatics = false ∧ s.vm.findClass M'.1.cls = some cellB.cls := by
    refine ⟨cell, q1, by rw [q3]; rfl, ?_⟩
    have hr := (C.2.2.2.2.2.2.2.2.1.1.1 ci r r1).2.1
    rw [r1] at m3
    simp at m3
    rw [← m3, q2]
    exact hr
  refine al_go (mc := mc) (ms := ms) (rc := rc) (rs := rs) (ls := ls) (st := st) (Q' := Q') C E X hS h1 h2 hl hrc hrs (va_runV (C := M'.1.cls) (b := base + b) (As := av.map (az_tr base sa)) (rest := st.map (az_tr base sa)) (n := n) ⟨C.1, C.2.1, C.2.2.2.1, C.2.2.2.2.1, hts⟩ (hM l D base sa Hb) ⟨az_B C m0 hd, hts _ (List.mem_cons_of_mem _ m1), hts _ (List.mem_cons_of_mem _ m2)⟩ ⟨az_blind, hcl, az_pre C hR hS⟩ rfl (by rw [List.length_map]; exact hn) hl.1 (by rw [hst]; simp [az_tr]) (lv_room (by rw [az_cats]; exact hw)) hdg ⟨by omega, by omega⟩) kk
theorem al_callI {b : Nat} (hdg : decode M.2.1 pc = .ok (.invokespecial index, 3)) (hm : az_mI M.1.cls index M' n) (hrn : M'.2.2.2 = none) (hM : az_M M' d' mc ms (.ref b :: av) hp Q') (kk : ∀ v hp1, Q' v hp1 → al_W L xs M d (rc - mc) (rs - ms) (pc + 3) ls (az_psh v st) hp1 Q) (hd : d' + 1 ≤ d := by omega) (hst : stk = av.reverse ++ .ref b :: st := by rfl) (hn : av.length = n := by rfl) (hw : (st.map fun v => v.category).sum ≤ 8 := by exact Nat.le_of_ble_eq_true rfl) (hrc : mc ≤ rc := by omega) (hrs : ms ≤ rs := by omega) : al_W L xs M d rc rs pc ls stk hp Q := by
  intro p l e s m args below meth c D base sa Hb R Z C E X H locs cells slots lsC hR hS h1 h2 hl
  have hts := C.2.2.2.2.2.1
  have hB := az_B (mc := mc) (ms := ms) C hm.1 hd
  rw [hrn] at hB
  refine al_go (mc := mc) (ms := ms) (rc := rc) (rs := rs) (ls := ls) (st := st) (Q' := Q') C E X hS h1 h2 hl hrc hrs (va_runI (b := base + b) (As := av.map (az_tr base sa)) (rest := st.map (az_tr base sa)) (n := n) ⟨C.1, C.2.1, C.2.2.2.1, C.2.2.2.2.1, hts⟩ (hM l D base sa Hb) ⟨hB, hm.2.2, hts _ (List.mem_cons_of_mem _ hm.2.1)⟩ ⟨az_blind, az_pre C hR hS⟩ rfl (by rw [List.length_map]; exact hn) hl.1 (by rw [hst]; simp [az_tr]) (lv_room (by rw [az_cats]; exact hw)) hdg ⟨by omega, by omega⟩) kk
theorem al_cV {b ci : Nat} {fs : List Value} (hdg : decode M.2.1 pc = .ok (.invokevirtual index, 3)) (hm : az_mV M.1.cls index M' n ci) (hb : hp.2 b = some (az_O ci fs)) (hM : az_M M' d' mc ms (.ref b :: av) hp (fun v hp1 => al_W L xs M d (rc - mc) (rs - ms) (pc + 3) ls (az_psh v st) hp1 Q)) (hd : d' + 1 ≤ d := by omega) (hst : stk = av.reverse ++ .ref b :: st := by rfl) (hn : av.length = n := by rfl) (hw : (st.map fun v => v.category).sum ≤ 8 := by exact Nat.le_of_ble_eq_true rfl) (hrc : mc ≤ rc := by omega) (hrs : ms ≤ rs := by omega) : al_W L xs M d rc rs pc ls stk hp Q :=
  al_callV hdg hm hb hM (fun _ _ h => h) hd hst hn hw hrc hrs
theorem al_cV0 {b ci : Nat} {fs : List Value} (hdg : decode M.2.1 pc = .ok (.invokevirtual index, 3)) (hm : az_mV M.1.cls index M' n ci) (hb : hp.2 b = some (az_O ci fs)) (hM : az_M M' d' 0 0 (.ref b :: av) hp (fun v hp1 => al_W L xs M d rc rs (pc + 3) ls (az_psh v st) hp1 Q)) (hd : d' + 1 ≤ d := by omega) (hst : stk = av.reverse ++ .ref b :: st := by rfl) (hn : av.length = n := by rfl) (hw : (st.map fun v => v.category).sum ≤ 8 := by exact Nat.le_of_ble_eq_true rfl) : al_W L xs M d rc rs pc ls stk hp Q :=
  al_callV hdg hm hb hM (fun _ _ h => h) hd hst hn hw (Nat.zero_le _) (Nat.zero_le _)
theorem al_cI {b : Nat} (hdg : decode M.2.1 pc = .ok (.invokespecial index, 3)) (hm : az_mI M.1.cls index M' n) (hrn : M'.2.2.2 = none) (hM : az_M M' d' mc ms (.ref b :: av) hp (fun v hp1 => al_W L xs M d (rc - mc) (rs - ms) (pc + 3) ls (az_psh v st) hp1 Q)) (hd : d' + 1 ≤ d := by omega) (hst : stk = av.reverse ++ .ref b :: st := by rfl) (hn : av.length = n := by rfl) (hw : (st.map fun v => v.category).sum ≤ 8 := by exact Nat.le_of_ble_eq_true rfl) (hrc : mc ≤ rc := by omega) (hrs : ms ≤ rs := by omega) : al_W L xs M d rc rs pc ls stk hp Q :=
  al_callI hdg hm hrn hM (fun _ _ h => h) hd hst hn hw hrc hrs
theorem al_sld {j : Nat} (hdg : decode M.2.1 pc = .ok (.iaload, 1)) (k : al_W L xs M d rc rs (pc + 1) ls (.int (xs j) :: st) hp Q) (hj : j < L := by omega) (hb : j < 2 ^ 31 := by omega) : al_W L xs M d rc rs pc ls (.int (nI j) :: .retAddr 45 :: st) hp Q := by
  intro p l e s m args below meth c D base sa Hb R Z C E X H locs cells slots lsC hR hS h1 h2 hl
  obtain ⟨i0, i1⟩ := az_ix_nI hb
  have g := va_sld (rest := st.map (az_tr base sa)) (i := nI j) C.1 C.2.1 X.1 (Nat.lt_of_lt_of_le X.2 C.2.2.2.2.2.2.2.2.2.1) (Nat.not_le.mpr X.2) hS (fun q => q.elim i0 (fun q => by rw [i1] at q; omega)) hdg (ls := lsC) (by rw [i1]; exact k p l e s m args below meth c D base sa Hb R Z C E X H locs cells slots lsC hR hS h1 h2 hl)
  exact g
theorem al_slen (hdg : decode M.2.1 pc = .ok (.arraylength, 1)) (k : al_W L xs M d rc rs (pc + 1) ls (.int (nI L) :: st) hp Q) : al_W L xs M d rc rs pc ls (.retAddr 45 :: st) hp Q := by
  intro p l e s m args below meth c D base sa Hb R Z C E X H locs cells slots lsC hR hS h1 h2 hl
  exact va_slen (rest := st.map (az_tr base sa)) C.1 C.2.1 X.1 (Nat.lt_of_lt_of_le X.2 C.2.2.2.2.2.2.2.2.2.1) (Nat.not_le.mpr X.2) hS hdg (ls := lsC) (k p l e s m args below meth c D base sa Hb R Z C E X H locs cells slots lsC hR hS h1 h2 hl)
end ALR
