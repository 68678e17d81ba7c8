/-! String constants: their bytes, String's own methods -/
theorem sw_value : Cond.fieldLink "java/lang/String" 9 "java/lang/String" "value" "[B" ∈ az_tbl := az_me9 35 (by decide +kernel) (by decide +kernel)
theorem sw_coder : Cond.fieldLink "java/lang/String" 15 "java/lang/String" "coder" "B" ∈ az_tbl := az_me9 34 (by decide +kernel) (by decide +kernel)
theorem sw_compact : Cond.fieldLink "java/lang/String" 38 "java/lang/String" "COMPACT_STRINGS" "Z" ∈ az_tbl := az_me2 212 (by decide +kernel) (by decide +kernel)
theorem sw_form : Cond.fieldLink "java/lang/String" 1053 "jdk/internal/util/Preconditions" "SIOOBE_FORMATTER" "Ljava/util/function/BiFunction;" ∈ az_tbl := az_me3 13 (by decide +kernel) (by decide +kernel)
def az_mVS (own : String) (index : Nat) (M' : az_Me) (n : Nat) : Prop := az_m0 own index M' n ∧ Cond.instanceMethod M'.1 ∈ az_tbl ∧ Cond.selects "java/lang/String" M'.1 M'.1 ∈ az_tbl
theorem sw_i_indexOf : Cond.instanceMethod mJ0_indexOf_0f7a4.1 ∈ az_tbl := az_me2 201 (by decide +kernel) (by decide +kernel)
theorem sw_i_indexOf2 : Cond.instanceMethod mJ0_indexOf_7cf53.1 ∈ az_tbl := az_me2 205 (by decide +kernel) (by decide +kernel)
theorem sw_i_isLatin1 : Cond.instanceMethod mJ0_isLatin1_aae02.1 ∈ az_tbl := az_me2 209 (by decide +kernel) (by decide +kernel)
theorem sw_i_length : Cond.instanceMethod mJ0_length_8abf5.1 ∈ az_tbl := az_me2 215 (by decide +kernel) (by decide +kernel)
theorem sw_i_coder : Cond.instanceMethod mJ0_coder_7d493.1 ∈ az_tbl := az_me2 219 (by decide +kernel) (by decide +kernel)
theorem sw_i_charAt : Cond.instanceMethod mJ0_charAt_5068e.1 ∈ az_tbl := az_me3 61 (by decide +kernel) (by decide +kernel)
theorem sw_R_207 : Cond.methodLink "LetterNights$Reader" 207 mJ0_length_8abf5.1 ∈ az_tbl := az_me3 59 (by decide +kernel) (by decide +kernel)
theorem sw_M_115 : Cond.methodLink "LetterNightsModel" 115 mJ0_length_8abf5.1 ∈ az_tbl := az_me7 8 (by decide +kernel) (by decide +kernel)
theorem sw_M_121 : Cond.methodLink "LetterNightsModel" 121 mJ0_charAt_5068e.1 ∈ az_tbl := az_me7 9 (by decide +kernel) (by decide +kernel)
theorem sv_R_207 : az_mVS "LetterNights$Reader" 207 mJ0_length_8abf5 0 := ⟨⟨sw_R_207, tw_15, kJ0_length_8abf5, ⟨by decide +kernel, by decide +kernel, by decide +kernel⟩, by decide⟩, sw_i_length, tw_456⟩
theorem sv_R_212 : az_mVS "LetterNights$Reader" 212 mJ0_charAt_5068e 1 := ⟨⟨tw_540, tw_15, kJ0_charAt_5068e, ⟨by decide +kernel, by decide +kernel, by decide +kernel⟩, by decide⟩, sw_i_charAt, tw_542⟩
theorem sv_R_225 : az_mVS "LetterNights$Reader" 225 mJ0_indexOf_0f7a4 1 := ⟨⟨tw_440, tw_15, kJ0_indexOf_0f7a4, ⟨by decide +kernel, by decide +kernel, by decide +kernel⟩, by decide⟩, sw_i_indexOf, tw_442⟩
theorem sv_M_115 : az_mVS "LetterNightsModel" 115 mJ0_length_8abf5 0 := ⟨⟨sw_M_115, tw_15, kJ0_length_8abf5, ⟨by decide +kernel, by decide +kernel, by decide +kernel⟩, by decide⟩, sw_i_length, tw_456⟩
theorem sv_M_121 : az_mVS "LetterNightsModel" 121 mJ0_charAt_5068e 1 := ⟨⟨sw_M_121, tw_15, kJ0_charAt_5068e, ⟨by decide +kernel, by decide +kernel, by decide +kernel⟩, by decide⟩, sw_i_charAt, tw_542⟩
theorem sv_S_335 : az_mVS "java/lang/String" 335 mJ0_coder_7d493 0 := ⟨⟨tw_458, tw_15, kJ0_coder_7d493, ⟨by decide +kernel, by decide +kernel, by decide +kernel⟩, by decide⟩, sw_i_coder, tw_460⟩
theorem sv_S_492 : az_mVS "java/lang/String" 492 mJ0_isLatin1_aae02 0 := ⟨⟨tw_448, tw_15, kJ0_isLatin1_aae02, ⟨by decide +kernel, by decide +kernel, by decide +kernel⟩, by decide⟩, sw_i_isLatin1, tw_450⟩
theorem sv_S_505 : az_mVS "java/lang/String" 505 mJ0_length_8abf5 0 := ⟨⟨tw_454, tw_15, kJ0_length_8abf5, ⟨by decide +kernel, by decide +kernel, by decide +kernel⟩, by decide⟩, sw_i_length, tw_456⟩
theorem sv_S_633 : az_mVS "java/lang/String" 633 mJ0_indexOf_7cf53 2 := ⟨⟨tw_444, tw_15, kJ0_indexOf_7cf53, ⟨by decide +kernel, by decide +kernel, by decide +kernel⟩, by decide⟩, sw_i_indexOf2, tw_446⟩
section AZSTR
variable {M M' : az_Me} {d d' rc rs pc n index : Nat} {ls : List (Nat × Value)} {st stk av : List Value} {hp : az_Hp} {Q : Option Value → az_Hp → Prop}
theorem az_ldcS {k : Nat} {r : String × Nat × String} (hdg : decode M.2.1 pc = .ok (.ldc index, 2)) (hr : az_txt[k]? = some r) (e1 : r.1 = M.1.cls) (e2 : r.2.1 = index) (kk : az_W M d rc rs (pc + 2) ls (.retAddr (2 * k) :: st) hp Q) : az_W M d rc rs pc ls st hp Q := by
  intro p l e s m args below meth c D base sa Hb R Z C E H locs cells slots lsC hR hS h1 h2 hl
  have hT := (C.2.2.2.2.2.2.2.2.1.2.1.1 k r hr).1
  rw [e1, e2] at hT
  exact va_ldcS C.1 C.2.1 C.2.2.2.2.1 hT hdg (kk p l e s m args below meth c D base sa Hb R Z C E H locs cells slots lsC hR hS h1 h2 hl)
theorem az_low {p : Program} {s : State} {m : MethodId} {args : Array Value} {meth : Method} {c : Code} {D : va_G} {base : Nat} {sa : Nat → Nat} {Hb : Heap} {R : Room} (C : az_cx p s m args meth c M D base sa Hb R d) : ∀ a : Nat, a < Hb.size → ¬ base ≤ a → s.heap[a]? = Hb[a]? := fun a _ h => C.2.2.2.2.2.2.2.2.2.2.1 a (Nat.lt_of_not_le h)
theorem az_getSV {k : Nat} {r : String × Nat × String} (hdg : decode M.2.1 pc = .ok (.getfield 9, 3)) (hM : M.1.cls = "java/lang/String") (hr : az_txt[k]? = some r) (kk : az_W M d rc rs (pc + 3) ls (.retAddr (2 * k + 1) :: st) hp Q) : az_W M d rc rs pc ls (.retAddr (2 * k) :: st) hp Q := by
  intro p l e s m args below meth c D base sa Hb R Z C E H locs cells slots lsC hR hS h1 h2 hl
  have hT := (C.2.2.2.2.2.2.2.2.1.2.1.1 k r hr).2.2.2.1.kept (az_low C)
  exact vk_getf C.1 C.2.1 hT hS C.2.2.2.2.1 (C.2.2.2.2.2.1 _ (List.mem_cons_of_mem _ (by rw [hM]; exact sw_value))) (fun x h => h) hdg (kk p l e s m args below meth c D base sa Hb R Z C E H locs cells slots lsC hR hS h1 h2 hl)
theorem az_getSC {k : Nat} {r : String × Nat × String} (hdg : decode M.2.1 pc = .ok (.getfield 15, 3)) (hM : M.1.cls = "java/lang/String") (hr : az_txt[k]? = some r) (kk : az_W M d rc rs (pc + 3) ls (.int (nI 0) :: st) hp Q) : az_W M d rc rs pc ls (.retAddr (2 * k) :: st) hp Q := by
  intro p l e s m args below meth c D base sa Hb R Z C E H locs cells slots lsC hR hS h1 h2 hl
  have hT := (C.2.2.2.2.2.2.2.2.1.2.1.1 k r hr).2.2.1.kept (az_low C)
  exact vk_getf C.1 C.2.1 hT hS C.2.2.2.2.1 (C.2.2.2.2.2.1 _ (List.mem_cons_of_mem _ (by rw [hM]; exact sw_coder))) (fun x h => h) hdg (kk p l e s m args below meth c D base sa Hb R Z C E H locs cells slots lsC hR hS h1 h2 hl)
theorem az_getsC (hdg : decode M.2.1 pc = .ok (.getstatic 38, 3)) (hM : M.1.cls = "java/lang/String") (kk : az_W M d rc rs (pc + 3) ls (.int (nI 1) :: st) hp Q) : az_W M d rc rs pc ls st hp Q := by
  intro p l e s m args below meth c D base sa Hb R Z C E H locs cells slots lsC hR hS h1 h2 hl
  have hT := C.2.2.2.2.2.2.2.2.1.2.1.2.1.kept (az_low C)
  exact va_gets C.1 C.2.1 hT hS C.2.2.2.2.1 (C.2.2.2.2.2.1 _ (List.mem_cons_of_mem _ (by rw [hM]; exact sw_compact))) (fun x h => h) hdg (kk p l e s m args below meth c D base sa Hb R Z C E H locs cells slots lsC hR hS h1 h2 hl)
theorem az_getsF (hdg : decode M.2.1 pc = .ok (.getstatic 1053, 3)) (hM : M.1.cls = "java/lang/String") (k1 : az_W M d rc rs (pc + 3) ls (.null :: st) hp Q) (k2 : az_W M d rc rs (pc + 3) ls (.retAddr 44 :: st) hp Q) : az_W M d rc rs pc ls st hp Q := by
  intro p l e s m args below meth c D base sa Hb R Z C E H locs cells slots lsC hR hS h1 h2 hl
  rcases C.2.2.2.2.2.2.2.2.1.2.1.2.2 with hT | hT
  · exact va_gets C.1 C.2.1 (hT.kept (az_low C)) hS C.2.2.2.2.1 (C.2.2.2.2.2.1 _ (List.mem_cons_of_mem _ (by rw [hM]; exact sw_form))) (fun x h => h) hdg (k1 p l e s m args below meth c D base sa Hb R Z C E H locs cells slots lsC hR hS h1 h2 hl)
  · exact va_gets C.1 C.2.1 (hT.kept (az_low C)) hS C.2.2.2.2.1 (C.2.2.2.2.2.1 _ (List.mem_cons_of_mem _ (by rw [hM]; exact sw_form))) (fun x h => h) hdg (k2 p l e s m args below meth c D base sa Hb R Z C E H locs cells slots lsC hR hS h1 h2 hl)
theorem az_alenS {k : Nat} {r : String × Nat × String} (hdg : decode M.2.1 pc = .ok (.arraylength, 1)) (hr : az_txt[k]? = some r) (kk : az_W M d rc rs (pc + 1) ls (.int (nI (az_byt r.2.2).length) :: st) hp Q) : az_W M d rc rs pc ls (.retAddr (2 * k + 1) :: st) hp Q := by
  intro p l e s m args below meth c D base sa Hb R Z C E H locs cells slots lsC hR hS h1 h2 hl
  have hT := (C.2.2.2.2.2.2.2.2.1.2.1.1 k r hr).2.2.2.2.kept (az_low C)
  exact va_tlen C.1 C.2.1 hT hS rfl hdg (kk p l e s m args below meth c D base sa Hb R Z C E H locs cells slots lsC hR hS h1 h2 hl)
theorem az_baldS {k j : Nat} {r : String × Nat × String} (hdg : decode M.2.1 pc = .ok (.baload, 1)) (hr : az_txt[k]? = some r) (kk : az_W M d rc rs (pc + 1) ls (.int ((az_byt r.2.2).getD j 0) :: st) hp Q) (hj : j < (az_byt r.2.2).length := by omega) (hn : (az_byt r.2.2).length < 2 ^ 31 := by omega) : az_W M d rc rs pc ls (.int (nI j) :: .retAddr (2 * k + 1) :: st) hp Q := by
  intro p l e s m args below meth c D base sa Hb R Z C E H locs cells slots lsC hR hS h1 h2 hl
  have hT := (C.2.2.2.2.2.2.2.2.1.2.1.1 k r hr).2.2.2.2.kept (az_low C)
  exact va_tb C.1 C.2.1 hT hS (vp_in_nI hj hn) (by rw [nI_clamp (by omega)]; rfl) hdg (kk p l e s m args below meth c D base sa Hb R Z C E H locs cells slots lsC hR hS h1 h2 hl)
theorem az_cVS {k : Nat} {r : String × Nat × String} (hdg : decode M.2.1 pc = .ok (.invokevirtual index, 3)) (hm : az_mVS M.1.cls index M' n) (hcl : M'.1.cls = "java/lang/String") (hr : az_txt[k]? = some r) (hM : az_M M' d' 0 0 (.retAddr (2 * k) :: av) hp (fun v hp1 => az_W M d rc rs (pc + 3) ls (az_psh v st) hp1 Q)) (hd : d' + 1 ≤ d := by omega) (hst : stk = av.reverse ++ .retAddr (2 * k) :: st := by rfl) (hn : av.length = n := by rfl) (hw : (st.map fun v => v.category).sum ≤ 8 := by exact Nat.le_of_ble_eq_true rfl) : az_W M d rc rs pc ls stk hp Q := by
  intro p l e s m args below meth c D base sa Hb R Z C E H locs cells slots lsC hR hS h1 h2 hl
  have hts := C.2.2.2.2.2.1
  obtain ⟨m0, m1, m2⟩ := hm
  have hO := ((C.2.2.2.2.2.2.2.2.1.2.1.1 k r hr).2.1.kept (az_low C)).kept hS.2.1
  have hclx : ∃ cellB : Cell, H[sa (2 * k)]? = some cellB ∧ cellB.vm.isStatics = false ∧ s.vm.findClass "java/lang/String" = some cellB.cls := by
    obtain ⟨cell, q1, q2, q3, -⟩ := hO
    exact ⟨cell, q1, q2, q3⟩
  exact az_go (mc := 0) (ms := 0) (rc := rc) (rs := rs) (ls := ls) (st := st) C E hS h1 h2 hl (Nat.zero_le _) (Nat.zero_le _) (va_runV (C := "java/lang/String") (b := sa (2 * k)) (As := av.map (az_tr base sa)) (rest := st.map (az_tr base sa)) (n := n) ⟨C.1, C.2.1, C.2.2.2.1, C.2.2.2.2.1, hts⟩ (hM l D base sa Hb) ⟨az_B C m0 hd, hts _ (List.mem_cons_of_mem _ m1), hts _ (List.mem_cons_of_mem _ m2)⟩ ⟨az_blind, hclx, az_pre C hR hS⟩ rfl (by rw [List.length_map]; exact hn) hl.1 (by rw [hst]; simp [az_tr]) (lv_room (by rw [az_cats]; exact hw)) hdg ⟨by omega, by omega⟩) (fun _ _ h => h)
end AZSTR
theorem az_byt_lt {k : Nat} {r : String × Nat × String} (hr : az_txt[k]? = some r) : (az_byt r.2.2).length < 128 := by
  have h : ∀ q ∈ az_txt, (az_byt q.2.2).length < 128 := by decide +kernel
  exact h r (List.mem_of_getElem? hr)
theorem az_byt_b {k : Nat} {r : String × Nat × String} (hr : az_txt[k]? = some r) : ∀ j, j < (az_byt r.2.2).length → ∃ x, 1 ≤ x ∧ x < 128 ∧ (az_byt r.2.2).getD j 0 = nI x := by
  have h : ∀ q ∈ az_txt, ∀ v ∈ az_byt q.2.2, 1 ≤ v.toBitVec.toNat ∧ v.toBitVec.toNat < 128 := by decide +kernel
  intro j hj
  have h1 := h r (List.mem_of_getElem? hr) ((az_byt r.2.2).getD j 0) (by rw [List.getD_eq_getElem?_getD, List.getElem?_eq_getElem hj]; exact List.getElem_mem hj)
  exact ⟨_, h1.1, h1.2, (nI_back _).symm⟩
