/-! Object's constructor, arraycopy -/
section AZM
variable {M : az_Me} {d rc rs pc index : Nat} {ls : List (Nat × Value)} {st : List Value} {hp : az_Hp} {Q : Option Value → az_Hp → Prop}
theorem az_oinit {a : Nat} (hdg : decode M.2.1 pc = .ok (.invokespecial index, 3)) (hm : Cond.methodLink M.1.cls index Lib.objectInit ∈ az_tbl) (kk : az_W M d rc rs (pc + 3) ls st hp Q) (hd : 1 ≤ d := by omega) (hw : (st.map fun v => v.category).sum ≤ 8 := by exact Nat.le_of_ble_eq_true rfl) : az_W M d rc rs pc ls (.ref a :: st) hp Q := by
  intro p l e s m args below meth c D base sa Hb R Z C E H locs cells slots lsC hR hS h1 h2 hl
  have hts := C.2.2.2.2.2.1
  obtain ⟨k1, k2⟩ := C.2.2.2.2.2.2.2.2.2.2.2
  exact W.objInit C.1 C.2.1 C.2.2.2.2.1 (hts _ (List.mem_cons_of_mem _ hm)) (hts _ (List.mem_cons_of_mem _ ox_ins)) (hts _ (List.mem_cons_of_mem _ ox_cod)) rfl (hl.1.trans C.2.2.2.1.symm) rfl hdg (by omega) (by show 2 * 0 + ((st.map (az_tr base sa)).map fun v => v.category).sum + 12 ≤ R.locals; rw [az_cats]; omega) (kk p l e s m args below meth c D base sa Hb R Z C E H locs cells slots lsC hR hS h1 h2 hl)
theorem az_copyi {a0 a n0 n1 sp dp n : Nat} {f g : Nat → Int32} {isp idp inn : Int32} (hdg : decode M.2.1 pc = .ok (.invokestatic index, 3)) (hm : Cond.methodLink M.1.cls index arraycopyName ∈ az_tbl) (ha0 : hp.2 a0 = some (az_I n0 f)) (ha : hp.2 a = some (az_I n1 g)) (i1 : az_ix isp sp) (i2 : az_ix idp dp) (i3 : az_ix inn n) (h4 : sp + n ≤ n0) (h5 : dp + n ≤ n1)
    (kk : az_W M d rc rs (pc + 3) ls st (az_up hp a (az_I n1 (va_cpy f g sp dp n))) Q) (hd : 1 ≤ d := by omega) (hw : (st.map fun v => v.category).sum ≤ 8 := by exact Nat.le_of_ble_eq_true rfl) : az_W M d rc rs pc ls (.int inn :: .int idp :: .ref a :: .int isp :: .ref a0 :: st) hp Q := by
  intro p l e s m args below meth c D base sa Hb R Z C E H locs cells slots lsC hR hS h1 h2 hl
  have hts := C.2.2.2.2.2.1
  obtain ⟨k1, k2⟩ := C.2.2.2.2.2.2.2.2.2.2.2
  obtain ⟨c0, A1, A2, A3⟩ := hR.2.2 a0 _ ha0
  obtain ⟨c1, B1, B2, B3⟩ := hR.2.2 a _ ha
  obtain ⟨s0, rfl⟩ := i1
  obtain ⟨d0, rfl⟩ := i2
  obtain ⟨n9, rfl⟩ := i3
  have A3 : H[base + a0]? = some (arrV c0 n0 (fun j => Value.int (f j))) := A3
  have B3 : H[base + a]? = some (arrV c1 n1 (fun j => Value.int (g j))) := B3
  have nn : ∀ z : Int32, ¬ z < 0 → z.toInt = (z.toNatClampNeg : Int) := by
    intro z hz
    have hz0 : (0 : Int) ≤ z.toInt := by
      have := Int32.not_lt.mp hz
      simpa using Int32.le_iff_toInt_le.mp this
    show z.toInt = ((z.toInt.toNat : Nat) : Int)
    omega
  have hnw : nativeFrameWords "java/lang/System" "arraycopy" 5 ≤ 20 := by decide +kernel
  have hw' : ((st.map (az_tr base sa)).map fun v => v.category).sum ≤ 8 := by rw [az_cats]; exact hw
  intro T hT X
  obtain ⟨-, kc0, hk0, cm0, hkk0⟩ := A1 n0 (fun j => Value.int (f j))
  obtain ⟨-, kc1, hk1, cm1, hkk1⟩ := B1 n1 (fun j => Value.int (g j))
  obtain ⟨vm', X', step⟩ := X.arraycopy C.1 C.2.2.2.2.1 (hts _ (List.mem_cons_of_mem _ hm)) (hts _ (List.mem_cons_of_mem _ ax_nat)) (hts _ (List.mem_cons_of_mem _ ax_sta)) (hts _ (List.mem_cons_of_mem _ ax_ini)) (src := base + a0) (dst := base + a) (cs := arrV c0 n0 (fun j => Value.int (f j))) (cd := arrV c1 n1 (fun j => Value.int (g j))) (srcPos := isp) (destPos := idp) (n := inn) (by rw [hT]; exact A3) (by rw [hT]; exact B3)
    (fun _ h => by cases h) (fun _ h => by cases h) (fun h => by cases h) (fun h => by cases h) hk0 hk1 hkk0 hkk1 (by rfl) s0 d0 n9
    (by rw [nn isp s0, nn inn n9, arrV_size]; omega)
    (by rw [nn idp d0, nn inn n9, arrV_size]; omega)
    (fun vm₁ _ i hi => by
      have e : (arrV c0 n0 (fun j => Value.int (f j))).slots.getD (isp.toNatClampNeg + i) .null = Value.int (f (isp.toNatClampNeg + i)) := by
        rw [Array.getD_eq_getD_getElem?, arrV_read _ _ (by omega)]
        rfl
      refine ⟨?_, ?_⟩
      · rw [e]
        rfl
      · rw [e]
        exact trivial)
    (g := F0 m pc lsC (.int inn :: .int idp :: .ref (base + a) :: .int isp :: .ref (base + a0) :: st.map (az_tr base sa))) rfl (by rw [C.2.2.2.1]; exact hl.1) (rest := st.map (az_tr base sa)) rfl (by rw [C.2.1]; exact hdg) (by omega) (by show 2 * 0 + _ + _ ≤ _; omega)
  have e1 : copied (arrV c0 n0 (fun j => Value.int (f j))) (arrV c1 n1 (fun j => Value.int (g j))) isp idp inn = arrV c1 n1 (fun j => Value.int (va_cpy f g isp.toNatClampNeg idp.toNatClampNeg inn.toNatClampNeg j)) := va_copied (fun z => Value.int z) c0 c1 f g h4
  rw [e1] at X' step
  have hlt : base + a < H.size := (Array.getElem?_eq_some_iff.mp B3).1
  generalize hcell : arrV c1 n1 (fun j => Value.int (va_cpy f g isp.toNatClampNeg idp.toNatClampNeg inn.toNatClampNeg j)) = cell at X' step
  have hheap : ((T.setVm vm').setCell (base + a) cell).heap = H.setIfInBounds (base + a) cell := by rw [← hT]; rfl
  have oq : ∀ q : Nat, q ≠ base + a → (H.setIfInBounds (base + a) cell)[q]? = H[q]? := fun q hq => by simp [Array.getElem?_setIfInBounds, Ne.symm hq]
  have hz : (H.setIfInBounds (base + a) cell).size = H.size := by simp
  obtain ⟨t, a1, b1⟩ := kk p l e s m args below meth c D base sa Hb R Z C E (H.setIfInBounds (base + a) cell) _ cells slots lsC (hR.up hz oq ⟨c1, B1, B2, by rw [← hcell]; simp [Array.getElem?_setIfInBounds, hlt]; rfl⟩) ⟨by simp; exact hS.1, fun q g1 g2 => by
      rw [oq q (fun e => g2 (by rw [e]; exact Nat.le_add_right base a))]
      exact hS.2.1 q g1 g2, fun q hq => by
      rcases List.mem_append.mp hq with h | h
      · exact hS.2.2 q h
      · obtain ⟨z, -, hz⟩ := List.mem_map.mp h
        rw [← hz]
        exact Nat.le_add_right base a⟩ h1 h2 hl _ hheap X'
  exact ⟨t, step t a1, b1⟩
theorem az_copyl {a0 a n0 n1 sp dp n : Nat} {f g : Nat → Int64} {isp idp inn : Int32} (hdg : decode M.2.1 pc = .ok (.invokestatic index, 3)) (hm : Cond.methodLink M.1.cls index arraycopyName ∈ az_tbl) (ha0 : hp.2 a0 = some (az_J n0 f)) (ha : hp.2 a = some (az_J n1 g)) (i1 : az_ix isp sp) (i2 : az_ix idp dp) (i3 : az_ix inn n) (h4 : sp + n ≤ n0) (h5 : dp + n ≤ n1)
    (kk : az_W M d rc rs (pc + 3) ls st (az_up hp a (az_J n1 (va_cpy f g sp dp n))) Q) (hd : 1 ≤ d := by omega) (hw : (st.map fun v => v.category).sum ≤ 8 := by exact Nat.le_of_ble_eq_true rfl) : az_W M d rc rs pc ls (.int inn :: .int idp :: .ref a :: .int isp :: .ref a0 :: st) hp Q := by
  intro p l e s m args below meth c D base sa Hb R Z C E H locs cells slots lsC hR hS h1 h2 hl
  have hts := C.2.2.2.2.2.1
  obtain ⟨k1, k2⟩ := C.2.2.2.2.2.2.2.2.2.2.2
  obtain ⟨c0, A1, A2, A3⟩ := hR.2.2 a0 _ ha0
  obtain ⟨c1, B1, B2, B3⟩ := hR.2.2 a _ ha
  obtain ⟨s0, rfl⟩ := i1
  obtain ⟨d0, rfl⟩ := i2
  obtain ⟨n9, rfl⟩ := i3
  have A3 : H[base + a0]? = some (arrV c0 n0 (fun j => Value.long (f j))) := A3
  have B3 : H[base + a]? = some (arrV c1 n1 (fun j => Value.long (g j))) := B3
  have nn : ∀ z : Int32, ¬ z < 0 → z.toInt = (z.toNatClampNeg : Int) := by
    intro z hz
    have hz0 : (0 : Int) ≤ z.toInt := by
      have := Int32.not_lt.mp hz
      simpa using Int32.le_iff_toInt_le.mp this
    show z.toInt = ((z.toInt.toNat : Nat) : Int)
    omega
  have hnw : nativeFrameWords "java/lang/System" "arraycopy" 5 ≤ 20 := by decide +kernel
  have hw' : ((st.map (az_tr base sa)).map fun v => v.category).sum ≤ 8 := by rw [az_cats]; exact hw
  intro T hT X
  obtain ⟨-, kc0, hk0, cm0, hkk0⟩ := A1 n0 (fun j => Value.long (f j))
  obtain ⟨-, kc1, hk1, cm1, hkk1⟩ := B1 n1 (fun j => Value.long (g j))
  obtain ⟨vm', X', step⟩ := X.arraycopy C.1 C.2.2.2.2.1 (hts _ (List.mem_cons_of_mem _ hm)) (hts _ (List.mem_cons_of_mem _ ax_nat)) (hts _ (List.mem_cons_of_mem _ ax_sta)) (hts _ (List.mem_cons_of_mem _ ax_ini)) (src := base + a0) (dst := base + a) (cs := arrV c0 n0 (fun j => Value.long (f j))) (cd := arrV c1 n1 (fun j => Value.long (g j))) (srcPos := isp) (destPos := idp) (n := inn) (by rw [hT]; exact A3) (by rw [hT]; exact B3)
    (fun _ h => by cases h) (fun _ h => by cases h) (fun h => by cases h) (fun h => by cases h) hk0 hk1 hkk0 hkk1 (by rfl) s0 d0 n9
    (by rw [nn isp s0, nn inn n9, arrV_size]; omega)
    (by rw [nn idp d0, nn inn n9, arrV_size]; omega)
    (fun vm₁ _ i hi => by
      have e : (arrV c0 n0 (fun j => Value.long (f j))).slots.getD (isp.toNatClampNeg + i) .null = Value.long (f (isp.toNatClampNeg + i)) := by
        rw [Array.getD_eq_getD_getElem?, arrV_read _ _ (by omega)]
        rfl
      refine ⟨?_, ?_⟩
      · rw [e]
        rfl
      · rw [e]
        exact trivial)
    (g := F0 m pc lsC (.int inn :: .int idp :: .ref (base + a) :: .int isp :: .ref (base + a0) :: st.map (az_tr base sa))) rfl (by rw [C.2.2.2.1]; exact hl.1) (rest := st.map (az_tr base sa)) rfl (by rw [C.2.1]; exact hdg) (by omega) (by show 2 * 0 + _ + _ ≤ _; omega)
  have e1 : copied (arrV c0 n0 (fun j => Value.long (f j))) (arrV c1 n1 (fun j => Value.long (g j))) isp idp inn = arrV c1 n1 (fun j => Value.long (va_cpy f g isp.toNatClampNeg idp.toNatClampNeg inn.toNatClampNeg j)) := va_copied (fun z => Value.long z) c0 c1 f g h4
  rw [e1] at X' step
  have hlt : base + a < H.size := (Array.getElem?_eq_some_iff.mp B3).1
  generalize hcell : arrV c1 n1 (fun j => Value.long (va_cpy f g isp.toNatClampNeg idp.toNatClampNeg inn.toNatClampNeg j)) = cell at X' step
  have hheap : ((T.setVm vm').setCell (base + a) cell).heap = H.setIfInBounds (base + a) cell := by rw [← hT]; rfl
  have oq : ∀ q : Nat, q ≠ base + a → (H.setIfInBounds (base + a) cell)[q]? = H[q]? := fun q hq => by simp [Array.getElem?_setIfInBounds, Ne.symm hq]
  have hz : (H.setIfInBounds (base + a) cell).size = H.size := by simp
  obtain ⟨t, a1, b1⟩ := kk p l e s m args below meth c D base sa Hb R Z C E (H.setIfInBounds (base + a) cell) _ cells slots lsC (hR.up hz oq ⟨c1, B1, B2, by rw [← hcell]; simp [Array.getElem?_setIfInBounds, hlt]; rfl⟩) ⟨by simp; exact hS.1, fun q g1 g2 => by
      rw [oq q (fun e => g2 (by rw [e]; exact Nat.le_add_right base a))]
      exact hS.2.1 q g1 g2, fun q hq => by
      rcases List.mem_append.mp hq with h | h
      · exact hS.2.2 q h
      · obtain ⟨z, -, hz⟩ := List.mem_map.mp h
        rw [← hz]
        exact Nat.le_add_right base a⟩ h1 h2 hl _ hheap X'
  exact ⟨t, step t a1, b1⟩
end AZM
