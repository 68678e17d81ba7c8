/-! Math.min, Math.max at a call -/
section AZMATH
variable {M : az_Me} {d rc rs pc index : Nat} {ls : List (Nat × Value)} {st : List Value} {hp : az_Hp} {Q : Option Value → az_Hp → Prop}
theorem mc_mmin : mJ9_min_7cf53.2.1 = Lib.Math.min.code := by decide +kernel
theorem az_mmin {x y : Int32} (hdg : decode M.2.1 pc = .ok (.invokestatic index, 3)) (hm : az_mS M.1.cls index mJ9_min_7cf53 2) (kk : az_W M d rc rs (pc + 3) ls (.int (if y < x then y else x) :: st) hp Q) (hd : 1 ≤ d := by omega) (hw : (st.map fun v => v.category).sum ≤ 8 := by exact Nat.le_of_ble_eq_true rfl) : az_W M d rc rs pc ls (.int y :: .int x :: st) hp Q := by
  intro p l e s m args below meth c D base sa Hb R Z C E H locs cells slots lsC hR hS h1 h2 hl
  have hts := C.2.2.2.2.2.1
  obtain ⟨k1, k2⟩ := C.2.2.2.2.2.2.2.2.2.2.2
  obtain ⟨⟨m1, m2, m3, -, -⟩, m6⟩ := hm
  have hw' : ((st.map (az_tr base sa)).map fun v => v.category).sum ≤ 8 := by rw [az_cats]; exact hw
  rw [mc_mmin] at m3
  exact va_mmin C.1 C.2.1 (C.2.2.2.1.trans hl.1.symm) C.2.2.2.2.1 (hts _ (List.mem_cons_of_mem _ m1)) (hts _ (List.mem_cons_of_mem _ m6)) (hts _ (List.mem_cons_of_mem _ m2)) (hts _ (List.mem_cons_of_mem _ m3)) (by omega) (by omega) (by omega) (by omega) hdg (kk p l e s m args below meth c D base sa Hb R Z C E H locs cells slots lsC hR hS h1 h2 hl)
theorem az_mminN {x y : Nat} (hdg : decode M.2.1 pc = .ok (.invokestatic index, 3)) (hm : az_mS M.1.cls index mJ9_min_7cf53 2) (kk : az_W M d rc rs (pc + 3) ls (.int (nI (min x y)) :: st) hp Q) (hx : x < 2 ^ 31 := by omega) (hy : y < 2 ^ 31 := by omega) (hd : 1 ≤ d := by omega) (hw : (st.map fun v => v.category).sum ≤ 8 := by exact Nat.le_of_ble_eq_true rfl) : az_W M d rc rs pc ls (.int (nI y) :: .int (nI x) :: st) hp Q :=
  az_mmin hdg hm (az_W.stk (by
    congr 2
    split
    · rename_i h
      first | (rw [nI_ltI hy hx] at h; congr 1; omega) | (rw [nI_ltI hx hy] at h; congr 1; omega)
    · rename_i h
      first | (rw [nI_ltI hy hx] at h; congr 1; omega) | (rw [nI_ltI hx hy] at h; congr 1; omega)) kk) hd hw
theorem mc_mmax : mJ9_max_7cf53.2.1 = Lib.Math.max.code := by decide +kernel
theorem az_mmax {x y : Int32} (hdg : decode M.2.1 pc = .ok (.invokestatic index, 3)) (hm : az_mS M.1.cls index mJ9_max_7cf53 2) (kk : az_W M d rc rs (pc + 3) ls (.int (if x < y then y else x) :: st) hp Q) (hd : 1 ≤ d := by omega) (hw : (st.map fun v => v.category).sum ≤ 8 := by exact Nat.le_of_ble_eq_true rfl) : az_W M d rc rs pc ls (.int y :: .int x :: st) hp Q := by
  intro p l e s m args below meth c D base sa Hb R Z C E H locs cells slots lsC hR hS h1 h2 hl
  have hts := C.2.2.2.2.2.1
  obtain ⟨k1, k2⟩ := C.2.2.2.2.2.2.2.2.2.2.2
  obtain ⟨⟨m1, m2, m3, -, -⟩, m6⟩ := hm
  have hw' : ((st.map (az_tr base sa)).map fun v => v.category).sum ≤ 8 := by rw [az_cats]; exact hw
  rw [mc_mmax] at m3
  exact va_mmax C.1 C.2.1 (C.2.2.2.1.trans hl.1.symm) C.2.2.2.2.1 (hts _ (List.mem_cons_of_mem _ m1)) (hts _ (List.mem_cons_of_mem _ m6)) (hts _ (List.mem_cons_of_mem _ m2)) (hts _ (List.mem_cons_of_mem _ m3)) (by omega) (by omega) (by omega) (by omega) hdg (kk p l e s m args below meth c D base sa Hb R Z C E H locs cells slots lsC hR hS h1 h2 hl)
theorem az_mmaxN {x y : Nat} (hdg : decode M.2.1 pc = .ok (.invokestatic index, 3)) (hm : az_mS M.1.cls index mJ9_max_7cf53 2) (kk : az_W M d rc rs (pc + 3) ls (.int (nI (max x y)) :: st) hp Q) (hx : x < 2 ^ 31 := by omega) (hy : y < 2 ^ 31 := by omega) (hd : 1 ≤ d := by omega) (hw : (st.map fun v => v.category).sum ≤ 8 := by exact Nat.le_of_ble_eq_true rfl) : az_W M d rc rs pc ls (.int (nI y) :: .int (nI x) :: st) hp Q :=
  az_mmax hdg hm (az_W.stk (by
    congr 2
    split
    · rename_i h
      first | (rw [nI_ltI hy hx] at h; congr 1; omega) | (rw [nI_ltI hx hy] at h; congr 1; omega)
    · rename_i h
      first | (rw [nI_ltI hy hx] at h; congr 1; omega) | (rw [nI_ltI hx hy] at h; congr 1; omega)) kk) hd hw
theorem mc_lmin : mJ9_min_f86c9.2.1 = Lib.MathLoose.min_long.code := by decide +kernel
theorem az_lmin {x y : Int64} (hdg : decode M.2.1 pc = .ok (.invokestatic index, 3)) (hm : az_mS M.1.cls index mJ9_min_f86c9 2) (kk : az_W M d rc rs (pc + 3) ls (.long (if y < x then y else x) :: st) hp Q) (hd : 1 ≤ d := by omega) (hw : (st.map fun v => v.category).sum ≤ 8 := by exact Nat.le_of_ble_eq_true rfl) : az_W M d rc rs pc ls (.long y :: .long x :: st) hp Q := by
  intro p l e s m args below meth c D base sa Hb R Z C E H locs cells slots lsC hR hS h1 h2 hl
  have hts := C.2.2.2.2.2.1
  obtain ⟨k1, k2⟩ := C.2.2.2.2.2.2.2.2.2.2.2
  obtain ⟨⟨m1, m2, m3, -, -⟩, m6⟩ := hm
  have hw' : ((st.map (az_tr base sa)).map fun v => v.category).sum ≤ 8 := by rw [az_cats]; exact hw
  rw [mc_lmin] at m3
  exact va_mmin_long C.1 C.2.1 (C.2.2.2.1.trans hl.1.symm) C.2.2.2.2.1 (hts _ (List.mem_cons_of_mem _ m1)) (hts _ (List.mem_cons_of_mem _ m6)) (hts _ (List.mem_cons_of_mem _ m2)) (hts _ (List.mem_cons_of_mem _ m3)) (by omega) (by omega) (by omega) (by omega) hdg (kk p l e s m args below meth c D base sa Hb R Z C E H locs cells slots lsC hR hS h1 h2 hl)
theorem az_lminN {x y : Nat} (hdg : decode M.2.1 pc = .ok (.invokestatic index, 3)) (hm : az_mS M.1.cls index mJ9_min_f86c9 2) (kk : az_W M d rc rs (pc + 3) ls (.long (lN (min x y)) :: st) hp Q) (hx : x < 2 ^ 63 := by omega) (hy : y < 2 ^ 63 := by omega) (hd : 1 ≤ d := by omega) (hw : (st.map fun v => v.category).sum ≤ 8 := by exact Nat.le_of_ble_eq_true rfl) : az_W M d rc rs pc ls (.long (lN y) :: .long (lN x) :: st) hp Q :=
  az_lmin hdg hm (az_W.stk (by
    congr 2
    split
    · rename_i h
      first | (rw [lN_ltN hy hx] at h; congr 1; omega) | (rw [lN_ltN hx hy] at h; congr 1; omega)
    · rename_i h
      first | (rw [lN_ltN hy hx] at h; congr 1; omega) | (rw [lN_ltN hx hy] at h; congr 1; omega)) kk) hd hw
theorem mc_lmax : mJ9_max_f86c9.2.1 = Lib.MathLoose.max_long.code := by decide +kernel
theorem az_lmax {x y : Int64} (hdg : decode M.2.1 pc = .ok (.invokestatic index, 3)) (hm : az_mS M.1.cls index mJ9_max_f86c9 2) (kk : az_W M d rc rs (pc + 3) ls (.long (if y < x then x else y) :: st) hp Q) (hd : 1 ≤ d := by omega) (hw : (st.map fun v => v.category).sum ≤ 8 := by exact Nat.le_of_ble_eq_true rfl) : az_W M d rc rs pc ls (.long y :: .long x :: st) hp Q := by
  intro p l e s m args below meth c D base sa Hb R Z C E H locs cells slots lsC hR hS h1 h2 hl
  have hts := C.2.2.2.2.2.1
  obtain ⟨k1, k2⟩ := C.2.2.2.2.2.2.2.2.2.2.2
  obtain ⟨⟨m1, m2, m3, -, -⟩, m6⟩ := hm
  have hw' : ((st.map (az_tr base sa)).map fun v => v.category).sum ≤ 8 := by rw [az_cats]; exact hw
  rw [mc_lmax] at m3
  exact va_mmax_long C.1 C.2.1 (C.2.2.2.1.trans hl.1.symm) C.2.2.2.2.1 (hts _ (List.mem_cons_of_mem _ m1)) (hts _ (List.mem_cons_of_mem _ m6)) (hts _ (List.mem_cons_of_mem _ m2)) (hts _ (List.mem_cons_of_mem _ m3)) (by omega) (by omega) (by omega) (by omega) hdg (kk p l e s m args below meth c D base sa Hb R Z C E H locs cells slots lsC hR hS h1 h2 hl)
theorem az_lmaxN {x y : Nat} (hdg : decode M.2.1 pc = .ok (.invokestatic index, 3)) (hm : az_mS M.1.cls index mJ9_max_f86c9 2) (kk : az_W M d rc rs (pc + 3) ls (.long (lN (max x y)) :: st) hp Q) (hx : x < 2 ^ 63 := by omega) (hy : y < 2 ^ 63 := by omega) (hd : 1 ≤ d := by omega) (hw : (st.map fun v => v.category).sum ≤ 8 := by exact Nat.le_of_ble_eq_true rfl) : az_W M d rc rs pc ls (.long (lN y) :: .long (lN x) :: st) hp Q :=
  az_lmax hdg hm (az_W.stk (by
    congr 2
    split
    · rename_i h
      first | (rw [lN_ltN hy hx] at h; congr 1; omega) | (rw [lN_ltN hx hy] at h; congr 1; omega)
    · rename_i h
      first | (rw [lN_ltN hy hx] at h; congr 1; omega) | (rw [lN_ltN hx hy] at h; congr 1; omega)) kk) hd hw
end AZMATH
