/-! The model: restore, told, feed -/
set_option maxHeartbeats 4000000 in
set_option maxRecDepth 100000 in
theorem m_restoreW {d n : Nat} {sc : Nat → Value} {A : Nat → Nat} {hp : az_Hp} {Q : Option Value → az_Hp → Prop} (hn : n < 2) (h64 : hp.2 64 = some (mo_o sc)) (h65 : hp.2 65 = some (az_I 3318 (fun j => nI (A j)))) (hQ : ∀ A' : Nat → Nat, (∀ k, k < 1106 → k ≠ 114 → A' k = A (1106 * (n + 1) + k)) → A' 114 = 0 → (∀ q, 1106 ≤ q → A' q = A q) → Q (some (.int (nI 0))) (az_up hp 65 (az_I 3318 (fun j => nI (A' j))))) : az_W mX12_restore d 0 0 30 [(0, .ref 64), (1, .int (nI n))] [] hp Q := by
  have loop : ∀ (k : Nat) (i : Nat) (A9 : Nat → Nat) (h' : az_Hp), 1106 - i = k → (i ≤ 1106) → (∀ j, j < i → A9 j = A (1106 * (n + 1) + j)) → (∀ q, 1106 ≤ q → A9 q = A q) → (h' = az_up hp 65 (az_I 3318 (fun j => nI (A9 j)))) → az_W mX12_restore d 0 0 32 [(0, .ref 64), (1, .int (nI n)), (2, .int (nI i))] [] h' Q := by
    intro k
    induction k using Nat.strongRecOn with
    | _ k ih =>
    intro i A9 h' hk hi hF hG he
    refine az_iload_n dX12_restore_32 ?_
    refine az_sipush (v := nI 1106) dX12_restore_33 ?_
    refine az_icmp_geN (tgt := 65) dX12_restore_36 (fun c36 => ?_) (fun c36 => ?_)
    · refine az_aload_n dX12_restore_65 ?_
      refine az_getf (v := .ref 65) dX12_restore_66 fl_X12_13 (by rw [he]; exact az_up_ne h64) ?_
      refine az_bipush (v := nI 114) dX12_restore_69 ?_
      refine az_iconst (v := nI 0) dX12_restore_71 ?_
      refine az_iastN (j := 114) dX12_restore_72 (by rw [he]; exact az_up_eq) ?_
      rw [az_s_nI]
      refine az_iconst (v := nI 0) dX12_restore_73 ?_
      exact az_iret dX12_restore_74 (by rw [he, az_up_up]; exact hQ _ (fun j hj h4 => (az_s_ne h4).trans (hF j (by omega))) az_s_eq (fun q hq => (az_s_ne (by omega)).trans (hG q hq)))
    · refine az_aload_n dX12_restore_39 ?_
      refine az_getf (v := .ref 65) dX12_restore_40 fl_X12_13 (by rw [he]; exact az_up_ne h64) ?_
      refine az_iload_n dX12_restore_43 ?_
      refine az_aload_n dX12_restore_44 ?_
      refine az_getf (v := .ref 65) dX12_restore_45 fl_X12_13 (by rw [he]; exact az_up_ne h64) ?_
      refine az_sipush (v := nI 1106) dX12_restore_48 ?_
      refine az_iload_n dX12_restore_51 ?_
      refine az_iconst (v := nI 1) dX12_restore_52 ?_
      refine az_iaddN dX12_restore_53 ?_
      refine az_imulN dX12_restore_54 ?_
      refine az_iload_n dX12_restore_55 ?_
      refine az_iaddN dX12_restore_56 ?_
      refine az_ialdN (j := (1106 * (n + 1)) + i) dX12_restore_57 (by rw [he]; exact az_up_eq) ?_
      rw [show A9 (1106 * (n + 1) + i) = A (1106 * (n + 1) + i) from hG _ (by omega)]
      refine az_iastN (j := i) dX12_restore_58 (by rw [he]; exact az_up_eq) ?_
      rw [az_s_nI]
      refine az_iincN (n := 1) (ls' := [(0, .ref 64), (1, .int (nI n)), (2, .int (nI (i + 1)))]) dX12_restore_59 ?_
      refine az_goto (tgt := 32) dX12_restore_62 ?_
      exact ih _ (by omega) (i + 1) (az_s A9 i (A (1106 * (n + 1) + i))) _ rfl (by omega) (fun j hj => if e : j = i then (by rw [e, az_s_eq]) else (by rw [az_s_ne (by omega)]; exact hF j (by omega))) (fun q hq => (az_s_ne (by omega)).trans (hG q hq)) (by rw [he, az_up_up])
  refine az_iconst (v := nI 0) dX12_restore_30 ?_
  refine az_istore_n (ls' := [(0, .ref 64), (1, .int (nI n)), (2, .int (nI 0))]) dX12_restore_31 ?_
  exact loop _ 0 A _ rfl (Nat.zero_le _) (fun j hj => absurd hj (by omega)) (fun _ _ => rfl) (az_up_same h65).symm
set_option maxHeartbeats 4000000 in
set_option maxRecDepth 100000 in
theorem q_restore {d : Nat} {x : Int32} {tp fk mo ni : Nat} {bt : Nat → Nat} {fp : Int32} {v : rd_V} {bs : List Nat} {U : ln_U} {im : Nat → Option (rd_V × ln_Z)} {tr : Nat → Option (Nat × List Int64)} {hp : az_Hp} {Q : Option Value → az_Hp → Prop} (hd : 2 ≤ d) (hok : cs_ok ((tp, bt), (fk, fp), v, (mo, ni, bs), U, im, tr)) (hM : mm hp ((tp, bt), (fk, fp), v, (mo, ni, bs), U, im, tr)) (hQ2 : (∀ n, n < 2 → x ≠ nI n) → ∀ h', mm h' ((tp, bt), (fk, fp), v, (mo, ni, bs), U, im, tr) → az_fr hp h' 64 93 → Q (some (.int (-2))) h') (hQ5 : ∀ n, x = nI n → n < 2 → im n = none → ∀ h', mm h' ((tp, bt), (fk, fp), v, (mo, ni, bs), U, im, tr) → az_fr hp h' 64 93 → Q (some (.int (-5))) h') (hQ : ∀ n v2 z2, x = nI n → n < 2 → im n = some (v2, z2) → ∀ h', mm h' ((tp, bt), (fk, fp), v2, z2, [], im, tr) → az_fr hp h' 64 93 → Q (some (.int (nI 0))) h') : az_M mX12_restore d 0 0 [.ref 64, .int x] hp Q := by
  obtain ⟨sc0, A0, tf0, hI0, rs0, rm0, nu0, o1, o2, -⟩ := id hM
  have hgd : rd_good v := hok.2.2.1
  have hw : ln_ok (rd_w v) := hgd.1
  have hba : ln_ba (rd_w v) bs := hok.2.2.2.1
  have hb : ln_by (rd_w v) bs := hba.b
  have hlen := hb.2.2
  have h60 := hb.1
  have hU10 : U.length ≤ 10 := hok.2.2.2.2.1
  have ht1 := hw.1
  have ht3 := hw.2.1
  refine az_M.of rfl (Nat.le_of_ble_eq_true rfl) ?_
  show az_W _ _ _ _ 0 [(0, .ref 64), (1, .int x)] [] _ _
  refine az_aload_n dX12_restore_0 ?_
  refine az_iconst (v := nI 0) dX12_restore_1 ?_
  refine az_putf (fs' := [.int (nI 0), .ref 65, .ref 66, .ref 67, .ref 68, sc0 5, fI (sc0 6), sc0 7, sc0 8, fI (sc0 9), fI (sc0 10), sc0 11, fI (sc0 12), sc0 13, sc0 14, .ref 69, .ref 70, .ref 71, sc0 18, .ref 72, .ref 73, .ref 74, sc0 22, sc0 23, .ref 75, sc0 25, .ref 76, .ref 77, .ref 78, sc0 29, .ref 79, .ref 80, .ref 81, .ref 82, .ref 83, .ref 84, .ref 85, sc0 37, .ref 86, .ref 87, .ref 88, .ref 89, .ref 90, .ref 91, .ref 92]) dX12_restore_2 fl_X12_1 o1 ?_
  obtain ⟨h1, hf1, hM1, hh1⟩ : ∃ h1, az_fr hp h1 64 93 ∧ mm h1 ((tp, bt), (fk, fp), v, (mo, ni, bs), U, im, tr) ∧ h1 = az_up hp 64 (mo_o (su sc0 0 (.int (nI 0)))) := ⟨_, az_fr.rf.up, hM.O (sc := su sc0 0 (.int (nI 0))) o2.1 o2.2.1 o2.2.2, rfl⟩
  rw [show (az_up hp 64 (az_O 11 [.int (nI 0), .ref 65, .ref 66, .ref 67, .ref 68, sc0 5, fI (sc0 6), sc0 7, sc0 8, fI (sc0 9), fI (sc0 10), sc0 11, fI (sc0 12), sc0 13, sc0 14, .ref 69, .ref 70, .ref 71, sc0 18, .ref 72, .ref 73, .ref 74, sc0 22, sc0 23, .ref 75, sc0 25, .ref 76, .ref 77, .ref 78, sc0 29, .ref 79, .ref 80, .ref 81, .ref 82, .ref 83, .ref 84, .ref 85, sc0 37, .ref 86, .ref 87, .ref 88, .ref 89, .ref 90, .ref 91, .ref 92])) = h1 from hh1.symm]
  obtain ⟨sc, A, tf, hI, rs, rm, nu, a1, a2, a3, a4, a5, a6, a7, a8, a9, a10, a11, a12, a13, a14⟩ := id hM1
  have a4 : mT A v (mo, ni, bs) := a4
  have a5 : mU A U := a5
  have a7 : mI A hI im := a7
  have a9 : ∀ j, j < tp → tf j = bt j := a9
  have a13 : mR rs rm nu tr := a13
  refine az_iload_n dX12_restore_5 ?_
  refine az_i2l dX12_restore_6 ?_
  refine az_lconst (v := lN 0) dX12_restore_7 ?_
  refine az_lconst (v := lN 1) dX12_restore_8 ?_
  refine az_cS0 (st := []) dX12_restore_9 ml_X12_169 (m_withinI (d := d - 1) (lo := 0) (hi := 1) (by decide) (by decide) ?_ ?_)
  · intro n hx hn0 hn1
    refine az_if_neN (tgt := 18) dX12_restore_12 (fun c12 => ?_) (fun c12 => ?_)
    · subst hx
      have hn : n < 2 := (by omega)
      have h7 := a7 n hn
      refine az_aload_n dX12_restore_18 ?_
      refine az_getf (v := .ref 66) dX12_restore_19 fl_X12_17 a1 ?_
      refine az_iload_n dX12_restore_22 ?_
      refine az_zaldN (j := n) dX12_restore_23 a6 ?_
      refine az_if_ne (tgt := 30) dX12_restore_24 (fun c24 => ?_) (fun c24 => ?_)
      · rcases hm : im n with _ | ⟨v2, z2⟩; (rw [hm] at h7; exact absurd h7 c24); (rw [hm] at h7; have hg := hok.2.2.2.2.2.2 n v2 z2 hn hm; refine m_restoreW hn a1 a3 (fun A' k1 k2 k3 => ?_); exact hQ n v2 z2 rfl hn hm _ (mm.go a2 a6 a7 a8 a9 a10 a11 a12 a13 (L := [65]) (mf.rf.up (by decide)) (by decide) (mk.uA a14) (az_up_ne a1) ⟨rfl, rfl, rfl⟩ az_up_eq (h7.2.ext hg.1.1 hg.2.b.1 (fun k hk h4 => k1 k hk h4)) ⟨k2, fun k hk => absurd hk (Nat.not_lt_zero _)⟩ k3) hf1.up)
      · refine az_bipush (v := (-5)) dX12_restore_27 ?_
        exact az_iret dX12_restore_29 (by rcases hm : im n with _ | ⟨v2, z2⟩; exact hQ5 n rfl hn hm h1 hM1 hf1; (rw [hm] at h7; exact absurd (h7.1.symm.trans c24) (by decide)))
    · exact absurd c12 (by omega)
  · intro hx
    refine az_if_neN (tgt := 18) dX12_restore_12 (fun c12 => ?_) (fun c12 => ?_)
    · exact absurd c12 (by omega)
    · refine az_bipush (v := (-2)) dX12_restore_15 ?_
      exact az_iret dX12_restore_17 (hQ2 (fun n hn => hx n (Nat.zero_le _) (by omega)) h1 hM1 hf1)
set_option maxHeartbeats 4000000 in
set_option maxRecDepth 100000 in
theorem m_laysMany {d : Nat} {sc : Nat → Value} {A : Nat → Nat} {v : rd_V} {mo ni : Nat} {bs : List Nat} {hp : az_Hp} {Q : Option Value → az_Hp → Prop} (hd : 3 ≤ d) (hw : ln_ok (rd_w v)) (hb : ln_by (rd_w v) bs) (h64 : hp.2 64 = some (mo_o sc)) (h65 : hp.2 65 = some (az_I 3318 (fun j => nI (A j)))) (hT : mT A v (mo, ni, bs)) (hk : mk hp) (hQ : ∀ (h' : az_Hp) (gm : Nat → Nat), h'.2 81 = some (az_J 84 (fun j => lN (gm j))) → (∀ c, c < 6 → gm c = (ln_str (rd_w v) bs).count c) → mk h' → mf hp h' [71, 81] → Q none h') : az_M mX12_laysMany d 0 0 [.ref 64] hp Q := by
  obtain ⟨f81, e81⟩ := hk.J (q := 81) (n := 84)
  obtain ⟨g81, rfl⟩ := lN_ex f81
  have loop : ∀ (k : Nat) (i : Nat) (h' : az_Hp) (gm : Nat → Nat), 6 - i = k → (i ≤ 6) → (h'.2 81 = some (az_J 84 (fun j => lN (gm j)))) → (∀ j, j < i → gm j = (ln_str (rd_w v) bs).count j) → (mk h') → (mf hp h' [71, 81]) → az_W mX12_laysMany d 0 0 2 [(0, .ref 64), (1, .int (nI i))] [] h' Q := by
    intro k
    induction k using Nat.strongRecOn with
    | _ k ih =>
    intro i h' gm hk hi b81 hF mk1' mf1
    have b64 : h'.2 64 = some (mo_o sc) := mf1.at h64
    have b65 : h'.2 65 = some (az_I 3318 (fun j => nI (A j))) := mf1.at h65
    obtain ⟨f71, b71⟩ := mk1'.J (q := 71) (n := 366)
    refine az_iload_n dX12_laysMany_2 ?_
    refine az_bipush (v := nI 6) dX12_laysMany_3 ?_
    refine az_icmp_geN (tgt := 33) dX12_laysMany_5 (fun c5 => ?_) (fun c5 => ?_)
    · exact az_vret dX12_laysMany_33 (hQ h' gm b81 (fun j hj => hF j (by omega)) mk1' mf1)
    · refine az_aload_n dX12_laysMany_8 ?_
      refine az_iload_n dX12_laysMany_9 ?_
      refine az_cV0 (st := []) dX12_laysMany_10 ml_X12_304 b64 (m_laysOf (d := d - 1) (c := i) (by omega) hw hb (by omega) b64 b65 hT b71 ?_)
      intro g2 hm2
      refine az_aload_n dX12_laysMany_13 ?_
      refine az_getf (v := .ref 81) dX12_laysMany_14 fl_X12_67 (az_up_ne b64) ?_
      refine az_iload_n dX12_laysMany_17 ?_
      refine az_aload_n dX12_laysMany_18 ?_
      refine az_aload_n dX12_laysMany_19 ?_
      refine az_getf (v := .ref 71) dX12_laysMany_20 fl_X12_37 (az_up_ne b64) ?_
      refine az_cV0 (st := [.int (nI i), .ref 81]) dX12_laysMany_23 ml_X12_256 (az_up_ne b64) (m_sumOf (d := d - 1) (v := v) (g9 := g2) hw (az_up_ne b64) (az_up_ne b65) hT.1 az_up_eq ?_)
      rw [hm2.cnt hw hb]
      refine az_lastN (j := i) dX12_laysMany_26 (az_up_ne b81) ?_
      rw [az_s_lN]
      refine az_iincN (n := 1) (ls' := [(0, .ref 64), (1, .int (nI (i + 1)))]) dX12_laysMany_27 ?_
      refine az_goto (tgt := 2) dX12_laysMany_30 ?_
      exact ih _ (by omega) (i + 1) _ (az_s gm i ((ln_str (rd_w v) bs).count i)) rfl (by omega) az_up_eq (fun j hj => if e : j = i then (by rw [e, az_s_eq]) else (by rw [az_s_ne e]; exact hF j (by omega))) (mk.uJ (mk.uJ mk1' rfl) rfl) ((mf1.up (by decide)).up (by decide))
  refine az_M.of rfl (Nat.le_of_ble_eq_true rfl) ?_
  show az_W _ _ _ _ 0 [(0, .ref 64)] [] _ _
  refine az_iconst (v := nI 0) dX12_laysMany_0 ?_
  refine az_istore_n (ls' := [(0, .ref 64), (1, .int (nI 0))]) dX12_laysMany_1 ?_
  exact loop _ 0 hp g81 rfl (Nat.zero_le _) e81 (fun j hj => absurd hj (by omega)) hk mf.rf
/-- of how many kinds -/
def kd (l : List Nat) (k : Nat) : Nat := sm (fun c => if 0 < l.count c then 1 else 0) k
theorem ens_kd : ∀ (l acc : List Nat), (∀ x ∈ l, x < 6) → acc.Nodup → acc.length = sm (fun c => if c ∈ acc then 1 else 0) 6 → (l.foldl ln_en acc).length = sm (fun c => if c ∈ l.foldl ln_en acc then 1 else 0) 6 := by
  intro l
  induction l with
  | nil => intro acc _ _ h; exact h
  | cons x l ih =>
    intro acc hl hn h
    rw [List.foldl_cons]
    have hx := hl x (List.mem_cons_self)
    by_cases hm : x ∈ acc
    · rw [ln_en, if_pos hm]
      exact ih acc (fun z hz => hl z (List.mem_cons_of_mem _ hz)) hn h
    · rw [ln_en, if_neg hm]
      refine ih _ (fun z hz => hl z (List.mem_cons_of_mem _ hz)) ?_ ?_
      · rw [List.nodup_append]
        exact ⟨hn, by simp, fun a ha b hb => by simp at hb; subst hb; exact fun e => hm (e ▸ ha)⟩
      · have := sm_at (f := fun c => if c ∈ acc then 1 else 0) (g := fun c => if c ∈ acc ++ [x] then 1 else 0) (s := x) (k := 6) hx (fun j hj => by simp [hj])
        simp only [hm, if_false, List.mem_append, List.mem_singleton, or_true, if_true] at this
        rw [List.length_append, List.length_singleton, h]
        simp only [List.mem_append, List.mem_singleton]
        omega
theorem dd_kd {l : List Nat} (h : ∀ x ∈ l, x < 6) : (ln_dd l).length = kd l 6 := by
  have := ens_kd l [] h List.nodup_nil rfl
  rw [ln_dd, this, kd]
  apply sm_congr
  intro c _
  show (if c ∈ ln_dd l then 1 else 0) = _
  by_cases hc : c ∈ l
  · rw [if_pos ((dd_mem l c).mpr hc), if_pos (List.count_pos_iff.mpr hc)]
  · rw [if_neg (fun q => hc ((dd_mem l c).mp q)), if_neg (fun q => hc (List.count_pos_iff.mp q))]
theorem kd_s (l : List Nat) (k : Nat) : kd l (k + 1) = kd l k + if 0 < l.count k then 1 else 0 := rfl
theorem kd_le (l : List Nat) (k : Nat) : kd l k ≤ k := by
  induction k with
  | zero => exact Nat.le_refl _
  | succ k ih => rw [kd_s]; split <;> omega
set_option maxHeartbeats 4000000 in
set_option maxRecDepth 100000 in
theorem m_told6W {d : Nat} {sc : Nat → Value} {l9 : List Nat} {n9 : Nat} {gm : Nat → Nat} {hp : az_Hp} {Q : Option Value → az_Hp → Prop} (h64 : hp.2 64 = some (mo_o sc)) (h81 : hp.2 81 = some (az_J 84 (fun j => lN (gm j)))) (hF : ∀ c, c < 6 → gm c = l9.count c) (hl9 : l9.length < 2 ^ 62) (hQ : Q (some (.int (nI (kd l9 6)))) hp) : az_W mX12_told d 0 0 124 [(0, .ref 64), (1, .int (nI 6)), (2, .long (lN n9))] [] hp Q := by
  have loop : ∀ (k : Nat) (i : Nat), 6 - i = k → (i ≤ 6) → az_W mX12_told d 0 0 130 [(0, .ref 64), (1, .int (nI 6)), (2, .long (lN n9)), (4, .int (nI (kd l9 i))), (5, .int (nI i))] [] hp Q := by
    intro k
    induction k using Nat.strongRecOn with
    | _ k ih =>
    intro i hk hi
    refine az_iload dX12_told_130 ?_
    refine az_bipush (v := nI 6) dX12_told_132 ?_
    refine az_icmp_geN (tgt := 165) dX12_told_134 (fun c134 => ?_) (fun c134 => ?_)
    · refine az_iload dX12_told_165 ?_
      exact az_iret dX12_told_167 (by obtain rfl : i = 6 := (by omega); exact hQ)
    · refine az_iload dX12_told_137 ?_
      refine az_aload_n dX12_told_139 ?_
      refine az_getf (v := .ref 81) dX12_told_140 fl_X12_67 h64 ?_
      refine az_iload dX12_told_143 ?_
      refine az_laldN (j := i) dX12_told_145 h81 ?_
      rw [hF i (by omega)]
      refine az_lconst (v := lN 0) dX12_told_146 ?_
      have hcl : l9.count i ≤ l9.length := List.count_le_length
      refine az_lcmp_leN (tgt := 155) dX12_told_147 dX12_told_148 (fun c147 => ?_) (fun c147 => ?_)
      · refine az_iconst (v := nI 0) dX12_told_155 ?_
        refine az_iaddN dX12_told_156 ?_
        refine az_istore (ls' := [(0, .ref 64), (1, .int (nI 6)), (2, .long (lN n9)), (4, .int (nI ((kd l9 i) + 0))), (5, .int (nI i))]) dX12_told_157 ?_
        refine az_iincN (n := 1) (ls' := [(0, .ref 64), (1, .int (nI 6)), (2, .long (lN n9)), (4, .int (nI ((kd l9 i) + 0))), (5, .int (nI (i + 1)))]) dX12_told_159 ?_
        refine az_goto (tgt := 130) dX12_told_162 ?_
        first | (rw [show kd l9 i + 1 = kd l9 (i + 1) from (by rw [kd_s, if_pos (by omega)])]; exact ih _ (by omega) (i + 1) rfl (by omega)) | (rw [show kd l9 i + 0 = kd l9 (i + 1) from (by rw [kd_s, if_neg (by omega)])]; exact ih _ (by omega) (i + 1) rfl (by omega))
      · refine az_iconst (v := nI 1) dX12_told_151 ?_
        refine az_goto (tgt := 156) dX12_told_152 ?_
        refine az_iaddN dX12_told_156 ?_
        refine az_istore (ls' := [(0, .ref 64), (1, .int (nI 6)), (2, .long (lN n9)), (4, .int (nI ((kd l9 i) + 1))), (5, .int (nI i))]) dX12_told_157 ?_
        refine az_iincN (n := 1) (ls' := [(0, .ref 64), (1, .int (nI 6)), (2, .long (lN n9)), (4, .int (nI ((kd l9 i) + 1))), (5, .int (nI (i + 1)))]) dX12_told_159 ?_
        refine az_goto (tgt := 130) dX12_told_162 ?_
        first | (rw [show kd l9 i + 1 = kd l9 (i + 1) from (by rw [kd_s, if_pos (by omega)])]; exact ih _ (by omega) (i + 1) rfl (by omega)) | (rw [show kd l9 i + 0 = kd l9 (i + 1) from (by rw [kd_s, if_neg (by omega)])]; exact ih _ (by omega) (i + 1) rfl (by omega))
  refine az_iconst (v := nI 0) dX12_told_124 ?_
  refine az_istore (ls' := [(0, .ref 64), (1, .int (nI 6)), (2, .long (lN n9)), (4, .int (nI 0))]) dX12_told_125 ?_
  refine az_iconst (v := nI 0) dX12_told_127 ?_
  refine az_istore (ls' := [(0, .ref 64), (1, .int (nI 6)), (2, .long (lN n9)), (4, .int (nI 0)), (5, .int (nI 0))]) dX12_told_128 ?_
  exact loop _ 0 rfl (Nat.zero_le _)

set_option maxHeartbeats 4000000 in
set_option maxRecDepth 100000 in
theorem q_told0 {d : Nat} {tp fk mo ni : Nat} {bt : Nat → Nat} {fp : Int32} {v : rd_V} {bs : List Nat} {U : ln_U} {im : Nat → Option (rd_V × ln_Z)} {tr : Nat → Option (Nat × List Int64)} {hp : az_Hp} {Q : Option Value → az_Hp → Prop} (hd : 5 ≤ d) (hok : cs_ok ((tp, bt), (fk, fp), v, (mo, ni, bs), U, im, tr)) (hM : mm hp ((tp, bt), (fk, fp), v, (mo, ni, bs), U, im, tr)) (hQ : ∀ h', mm h' ((tp, bt), (fk, fp), v, (mo, ni, bs), U, im, tr) → az_fr hp h' 64 93 → Q (some (.int (nI (ln_tb (rd_w v))))) h') : az_M mX12_told d 0 0 [.ref 64, .int (nI 0)] hp Q := by
  obtain ⟨sc0, A0, tf0, hI0, rs0, rm0, nu0, o1, o2, -⟩ := id hM
  have hgd : rd_good v := hok.2.2.1
  have hw : ln_ok (rd_w v) := hgd.1
  have hba : ln_ba (rd_w v) bs := hok.2.2.2.1
  have hb : ln_by (rd_w v) bs := hba.b
  have hlen := hb.2.2
  have h60 := hb.1
  have hU10 : U.length ≤ 10 := hok.2.2.2.2.1
  have ht1 := hw.1
  have ht3 := hw.2.1
  refine az_M.of rfl (Nat.le_of_ble_eq_true rfl) ?_
  show az_W _ _ _ _ 0 [(0, .ref 64), (1, .int (nI 0))] [] _ _
  refine az_aload_n dX12_told_0 ?_
  refine az_iconst (v := nI 0) dX12_told_1 ?_
  refine az_putf (fs' := [.int (nI 0), .ref 65, .ref 66, .ref 67, .ref 68, sc0 5, fI (sc0 6), sc0 7, sc0 8, fI (sc0 9), fI (sc0 10), sc0 11, fI (sc0 12), sc0 13, sc0 14, .ref 69, .ref 70, .ref 71, sc0 18, .ref 72, .ref 73, .ref 74, sc0 22, sc0 23, .ref 75, sc0 25, .ref 76, .ref 77, .ref 78, sc0 29, .ref 79, .ref 80, .ref 81, .ref 82, .ref 83, .ref 84, .ref 85, sc0 37, .ref 86, .ref 87, .ref 88, .ref 89, .ref 90, .ref 91, .ref 92]) dX12_told_2 fl_X12_1 o1 ?_
  obtain ⟨h1, hf1, hM1, hh1⟩ : ∃ h1, az_fr hp h1 64 93 ∧ mm h1 ((tp, bt), (fk, fp), v, (mo, ni, bs), U, im, tr) ∧ h1 = az_up hp 64 (mo_o (su sc0 0 (.int (nI 0)))) := ⟨_, az_fr.rf.up, hM.O (sc := su sc0 0 (.int (nI 0))) o2.1 o2.2.1 o2.2.2, rfl⟩
  rw [show (az_up hp 64 (az_O 11 [.int (nI 0), .ref 65, .ref 66, .ref 67, .ref 68, sc0 5, fI (sc0 6), sc0 7, sc0 8, fI (sc0 9), fI (sc0 10), sc0 11, fI (sc0 12), sc0 13, sc0 14, .ref 69, .ref 70, .ref 71, sc0 18, .ref 72, .ref 73, .ref 74, sc0 22, sc0 23, .ref 75, sc0 25, .ref 76, .ref 77, .ref 78, sc0 29, .ref 79, .ref 80, .ref 81, .ref 82, .ref 83, .ref 84, .ref 85, sc0 37, .ref 86, .ref 87, .ref 88, .ref 89, .ref 90, .ref 91, .ref 92])) = h1 from hh1.symm]
  obtain ⟨sc, A, tf, hI, rs, rm, nu, a1, a2, a3, a4, a5, a6, a7, a8, a9, a10, a11, a12, a13, a14⟩ := id hM1
  have a4 : mT A v (mo, ni, bs) := a4
  have a5 : mU A U := a5
  have a7 : mI A hI im := a7
  have a9 : ∀ j, j < tp → tf j = bt j := a9
  have a13 : mR rs rm nu tr := a13
  obtain ⟨f70, e70⟩ := a14.J (q := 70) (n := 366)
  obtain ⟨f71, e71⟩ := a14.J (q := 71) (n := 366)
  refine az_aload_n dX12_told_5 ?_
  refine az_cV0 (st := []) dX12_told_6 ml_X12_278 a1 (m_lengthNow (d := d - 1) (by omega) hw hb a1 a3 a4 e70 ?_)
  intro g9 hm
  refine az_lstore_n (ls' := [(0, .ref 64), (1, .int (nI 0)), (2, .long (lN ((ln_str (rd_w v) bs).length)))]) dX12_told_9 ?_
  refine az_iload_n dX12_told_10 ?_
  refine az_tswIn (off := 53) (tgt := 64) dX12_told_11 (by decide) (by decide) (by rfl) (by decide) ?_
  refine az_aload_n dX12_told_64 ?_
  refine az_getf (v := .ref 65) dX12_told_65 fl_X12_13 (az_up_ne a1) ?_
  refine az_iconst (v := nI 1) dX12_told_68 ?_
  refine az_ialdN (j := 1) dX12_told_69 (az_up_ne a3) ?_
  rw [show A 1 = ln_tb (rd_w v) from a4.1.2.1]
  exact az_iret dX12_told_70 (hQ _ hM1.J hf1.up)

set_option maxHeartbeats 4000000 in
set_option maxRecDepth 100000 in
theorem q_told1 {d : Nat} {tp fk mo ni : Nat} {bt : Nat → Nat} {fp : Int32} {v : rd_V} {bs : List Nat} {U : ln_U} {im : Nat → Option (rd_V × ln_Z)} {tr : Nat → Option (Nat × List Int64)} {hp : az_Hp} {Q : Option Value → az_Hp → Prop} (hd : 5 ≤ d) (hok : cs_ok ((tp, bt), (fk, fp), v, (mo, ni, bs), U, im, tr)) (hM : mm hp ((tp, bt), (fk, fp), v, (mo, ni, bs), U, im, tr)) (hQ : ∀ h', mm h' ((tp, bt), (fk, fp), v, (mo, ni, bs), U, im, tr) → az_fr hp h' 64 93 → Q (some (.int (nI (mo)))) h') : az_M mX12_told d 0 0 [.ref 64, .int (nI 1)] hp Q := by
  obtain ⟨sc0, A0, tf0, hI0, rs0, rm0, nu0, o1, o2, -⟩ := id hM
  have hgd : rd_good v := hok.2.2.1
  have hw : ln_ok (rd_w v) := hgd.1
  have hba : ln_ba (rd_w v) bs := hok.2.2.2.1
  have hb : ln_by (rd_w v) bs := hba.b
  have hlen := hb.2.2
  have h60 := hb.1
  have hU10 : U.length ≤ 10 := hok.2.2.2.2.1
  have ht1 := hw.1
  have ht3 := hw.2.1
  refine az_M.of rfl (Nat.le_of_ble_eq_true rfl) ?_
  show az_W _ _ _ _ 0 [(0, .ref 64), (1, .int (nI 1))] [] _ _
  refine az_aload_n dX12_told_0 ?_
  refine az_iconst (v := nI 0) dX12_told_1 ?_
  refine az_putf (fs' := [.int (nI 0), .ref 65, .ref 66, .ref 67, .ref 68, sc0 5, fI (sc0 6), sc0 7, sc0 8, fI (sc0 9), fI (sc0 10), sc0 11, fI (sc0 12), sc0 13, sc0 14, .ref 69, .ref 70, .ref 71, sc0 18, .ref 72, .ref 73, .ref 74, sc0 22, sc0 23, .ref 75, sc0 25, .ref 76, .ref 77, .ref 78, sc0 29, .ref 79, .ref 80, .ref 81, .ref 82, .ref 83, .ref 84, .ref 85, sc0 37, .ref 86, .ref 87, .ref 88, .ref 89, .ref 90, .ref 91, .ref 92]) dX12_told_2 fl_X12_1 o1 ?_
  obtain ⟨h1, hf1, hM1, hh1⟩ : ∃ h1, az_fr hp h1 64 93 ∧ mm h1 ((tp, bt), (fk, fp), v, (mo, ni, bs), U, im, tr) ∧ h1 = az_up hp 64 (mo_o (su sc0 0 (.int (nI 0)))) := ⟨_, az_fr.rf.up, hM.O (sc := su sc0 0 (.int (nI 0))) o2.1 o2.2.1 o2.2.2, rfl⟩
  rw [show (az_up hp 64 (az_O 11 [.int (nI 0), .ref 65, .ref 66, .ref 67, .ref 68, sc0 5, fI (sc0 6), sc0 7, sc0 8, fI (sc0 9), fI (sc0 10), sc0 11, fI (sc0 12), sc0 13, sc0 14, .ref 69, .ref 70, .ref 71, sc0 18, .ref 72, .ref 73, .ref 74, sc0 22, sc0 23, .ref 75, sc0 25, .ref 76, .ref 77, .ref 78, sc0 29, .ref 79, .ref 80, .ref 81, .ref 82, .ref 83, .ref 84, .ref 85, sc0 37, .ref 86, .ref 87, .ref 88, .ref 89, .ref 90, .ref 91, .ref 92])) = h1 from hh1.symm]
  obtain ⟨sc, A, tf, hI, rs, rm, nu, a1, a2, a3, a4, a5, a6, a7, a8, a9, a10, a11, a12, a13, a14⟩ := id hM1
  have a4 : mT A v (mo, ni, bs) := a4
  have a5 : mU A U := a5
  have a7 : mI A hI im := a7
  have a9 : ∀ j, j < tp → tf j = bt j := a9
  have a13 : mR rs rm nu tr := a13
  obtain ⟨f70, e70⟩ := a14.J (q := 70) (n := 366)
  obtain ⟨f71, e71⟩ := a14.J (q := 71) (n := 366)
  refine az_aload_n dX12_told_5 ?_
  refine az_cV0 (st := []) dX12_told_6 ml_X12_278 a1 (m_lengthNow (d := d - 1) (by omega) hw hb a1 a3 a4 e70 ?_)
  intro g9 hm
  refine az_lstore_n (ls' := [(0, .ref 64), (1, .int (nI 1)), (2, .long (lN ((ln_str (rd_w v) bs).length)))]) dX12_told_9 ?_
  refine az_iload_n dX12_told_10 ?_
  refine az_tswIn (off := 60) (tgt := 71) dX12_told_11 (by decide) (by decide) (by rfl) (by decide) ?_
  refine az_aload_n dX12_told_71 ?_
  refine az_getf (v := .ref 65) dX12_told_72 fl_X12_13 (az_up_ne a1) ?_
  refine az_bipush (v := nI 111) dX12_told_75 ?_
  refine az_ialdN (j := 111) dX12_told_77 (az_up_ne a3) ?_
  rw [show A 111 = mo from a4.2.1]
  exact az_iret dX12_told_78 (hQ _ hM1.J hf1.up)

set_option maxHeartbeats 4000000 in
set_option maxRecDepth 100000 in
theorem q_told2 {d : Nat} {tp fk mo ni : Nat} {bt : Nat → Nat} {fp : Int32} {v : rd_V} {bs : List Nat} {U : ln_U} {im : Nat → Option (rd_V × ln_Z)} {tr : Nat → Option (Nat × List Int64)} {hp : az_Hp} {Q : Option Value → az_Hp → Prop} (hd : 5 ≤ d) (hok : cs_ok ((tp, bt), (fk, fp), v, (mo, ni, bs), U, im, tr)) (hM : mm hp ((tp, bt), (fk, fp), v, (mo, ni, bs), U, im, tr)) (hQ : ∀ h', mm h' ((tp, bt), (fk, fp), v, (mo, ni, bs), U, im, tr) → az_fr hp h' 64 93 → Q (some (.int (nI (ni)))) h') : az_M mX12_told d 0 0 [.ref 64, .int (nI 2)] hp Q := by
  obtain ⟨sc0, A0, tf0, hI0, rs0, rm0, nu0, o1, o2, -⟩ := id hM
  have hgd : rd_good v := hok.2.2.1
  have hw : ln_ok (rd_w v) := hgd.1
  have hba : ln_ba (rd_w v) bs := hok.2.2.2.1
  have hb : ln_by (rd_w v) bs := hba.b
  have hlen := hb.2.2
  have h60 := hb.1
  have hU10 : U.length ≤ 10 := hok.2.2.2.2.1
  have ht1 := hw.1
  have ht3 := hw.2.1
  refine az_M.of rfl (Nat.le_of_ble_eq_true rfl) ?_
  show az_W _ _ _ _ 0 [(0, .ref 64), (1, .int (nI 2))] [] _ _
  refine az_aload_n dX12_told_0 ?_
  refine az_iconst (v := nI 0) dX12_told_1 ?_
  refine az_putf (fs' := [.int (nI 0), .ref 65, .ref 66, .ref 67, .ref 68, sc0 5, fI (sc0 6), sc0 7, sc0 8, fI (sc0 9), fI (sc0 10), sc0 11, fI (sc0 12), sc0 13, sc0 14, .ref 69, .ref 70, .ref 71, sc0 18, .ref 72, .ref 73, .ref 74, sc0 22, sc0 23, .ref 75, sc0 25, .ref 76, .ref 77, .ref 78, sc0 29, .ref 79, .ref 80, .ref 81, .ref 82, .ref 83, .ref 84, .ref 85, sc0 37, .ref 86, .ref 87, .ref 88, .ref 89, .ref 90, .ref 91, .ref 92]) dX12_told_2 fl_X12_1 o1 ?_
  obtain ⟨h1, hf1, hM1, hh1⟩ : ∃ h1, az_fr hp h1 64 93 ∧ mm h1 ((tp, bt), (fk, fp), v, (mo, ni, bs), U, im, tr) ∧ h1 = az_up hp 64 (mo_o (su sc0 0 (.int (nI 0)))) := ⟨_, az_fr.rf.up, hM.O (sc := su sc0 0 (.int (nI 0))) o2.1 o2.2.1 o2.2.2, rfl⟩
  rw [show (az_up hp 64 (az_O 11 [.int (nI 0), .ref 65, .ref 66, .ref 67, .ref 68, sc0 5, fI (sc0 6), sc0 7, sc0 8, fI (sc0 9), fI (sc0 10), sc0 11, fI (sc0 12), sc0 13, sc0 14, .ref 69, .ref 70, .ref 71, sc0 18, .ref 72, .ref 73, .ref 74, sc0 22, sc0 23, .ref 75, sc0 25, .ref 76, .ref 77, .ref 78, sc0 29, .ref 79, .ref 80, .ref 81, .ref 82, .ref 83, .ref 84, .ref 85, sc0 37, .ref 86, .ref 87, .ref 88, .ref 89, .ref 90, .ref 91, .ref 92])) = h1 from hh1.symm]
  obtain ⟨sc, A, tf, hI, rs, rm, nu, a1, a2, a3, a4, a5, a6, a7, a8, a9, a10, a11, a12, a13, a14⟩ := id hM1
  have a4 : mT A v (mo, ni, bs) := a4
  have a5 : mU A U := a5
  have a7 : mI A hI im := a7
  have a9 : ∀ j, j < tp → tf j = bt j := a9
  have a13 : mR rs rm nu tr := a13
  obtain ⟨f70, e70⟩ := a14.J (q := 70) (n := 366)
  obtain ⟨f71, e71⟩ := a14.J (q := 71) (n := 366)
  refine az_aload_n dX12_told_5 ?_
  refine az_cV0 (st := []) dX12_told_6 ml_X12_278 a1 (m_lengthNow (d := d - 1) (by omega) hw hb a1 a3 a4 e70 ?_)
  intro g9 hm
  refine az_lstore_n (ls' := [(0, .ref 64), (1, .int (nI 2)), (2, .long (lN ((ln_str (rd_w v) bs).length)))]) dX12_told_9 ?_
  refine az_iload_n dX12_told_10 ?_
  refine az_tswIn (off := 68) (tgt := 79) dX12_told_11 (by decide) (by decide) (by rfl) (by decide) ?_
  refine az_aload_n dX12_told_79 ?_
  refine az_getf (v := .ref 65) dX12_told_80 fl_X12_13 (az_up_ne a1) ?_
  refine az_bipush (v := nI 112) dX12_told_83 ?_
  refine az_ialdN (j := 112) dX12_told_85 (az_up_ne a3) ?_
  rw [show A 112 = ni from a4.2.2.1]
  exact az_iret dX12_told_86 (hQ _ hM1.J hf1.up)

set_option maxHeartbeats 4000000 in
set_option maxRecDepth 100000 in
theorem q_told3 {d : Nat} {tp fk mo ni : Nat} {bt : Nat → Nat} {fp : Int32} {v : rd_V} {bs : List Nat} {U : ln_U} {im : Nat → Option (rd_V × ln_Z)} {tr : Nat → Option (Nat × List Int64)} {hp : az_Hp} {Q : Option Value → az_Hp → Prop} (hd : 5 ≤ d) (hok : cs_ok ((tp, bt), (fk, fp), v, (mo, ni, bs), U, im, tr)) (hM : mm hp ((tp, bt), (fk, fp), v, (mo, ni, bs), U, im, tr)) (hQ : ∀ h', mm h' ((tp, bt), (fk, fp), v, (mo, ni, bs), U, im, tr) → az_fr hp h' 64 93 → Q (some (.int (nI (bs.length)))) h') : az_M mX12_told d 0 0 [.ref 64, .int (nI 3)] hp Q := by
  obtain ⟨sc0, A0, tf0, hI0, rs0, rm0, nu0, o1, o2, -⟩ := id hM
  have hgd : rd_good v := hok.2.2.1
  have hw : ln_ok (rd_w v) := hgd.1
  have hba : ln_ba (rd_w v) bs := hok.2.2.2.1
  have hb : ln_by (rd_w v) bs := hba.b
  have hlen := hb.2.2
  have h60 := hb.1
  have hU10 : U.length ≤ 10 := hok.2.2.2.2.1
  have ht1 := hw.1
  have ht3 := hw.2.1
  refine az_M.of rfl (Nat.le_of_ble_eq_true rfl) ?_
  show az_W _ _ _ _ 0 [(0, .ref 64), (1, .int (nI 3))] [] _ _
  refine az_aload_n dX12_told_0 ?_
  refine az_iconst (v := nI 0) dX12_told_1 ?_
  refine az_putf (fs' := [.int (nI 0), .ref 65, .ref 66, .ref 67, .ref 68, sc0 5, fI (sc0 6), sc0 7, sc0 8, fI (sc0 9), fI (sc0 10), sc0 11, fI (sc0 12), sc0 13, sc0 14, .ref 69, .ref 70, .ref 71, sc0 18, .ref 72, .ref 73, .ref 74, sc0 22, sc0 23, .ref 75, sc0 25, .ref 76, .ref 77, .ref 78, sc0 29, .ref 79, .ref 80, .ref 81, .ref 82, .ref 83, .ref 84, .ref 85, sc0 37, .ref 86, .ref 87, .ref 88, .ref 89, .ref 90, .ref 91, .ref 92]) dX12_told_2 fl_X12_1 o1 ?_
  obtain ⟨h1, hf1, hM1, hh1⟩ : ∃ h1, az_fr hp h1 64 93 ∧ mm h1 ((tp, bt), (fk, fp), v, (mo, ni, bs), U, im, tr) ∧ h1 = az_up hp 64 (mo_o (su sc0 0 (.int (nI 0)))) := ⟨_, az_fr.rf.up, hM.O (sc := su sc0 0 (.int (nI 0))) o2.1 o2.2.1 o2.2.2, rfl⟩
  rw [show (az_up hp 64 (az_O 11 [.int (nI 0), .ref 65, .ref 66, .ref 67, .ref 68, sc0 5, fI (sc0 6), sc0 7, sc0 8, fI (sc0 9), fI (sc0 10), sc0 11, fI (sc0 12), sc0 13, sc0 14, .ref 69, .ref 70, .ref 71, sc0 18, .ref 72, .ref 73, .ref 74, sc0 22, sc0 23, .ref 75, sc0 25, .ref 76, .ref 77, .ref 78, sc0 29, .ref 79, .ref 80, .ref 81, .ref 82, .ref 83, .ref 84, .ref 85, sc0 37, .ref 86, .ref 87, .ref 88, .ref 89, .ref 90, .ref 91, .ref 92])) = h1 from hh1.symm]
  obtain ⟨sc, A, tf, hI, rs, rm, nu, a1, a2, a3, a4, a5, a6, a7, a8, a9, a10, a11, a12, a13, a14⟩ := id hM1
  have a4 : mT A v (mo, ni, bs) := a4
  have a5 : mU A U := a5
  have a7 : mI A hI im := a7
  have a9 : ∀ j, j < tp → tf j = bt j := a9
  have a13 : mR rs rm nu tr := a13
  obtain ⟨f70, e70⟩ := a14.J (q := 70) (n := 366)
  obtain ⟨f71, e71⟩ := a14.J (q := 71) (n := 366)
  refine az_aload_n dX12_told_5 ?_
  refine az_cV0 (st := []) dX12_told_6 ml_X12_278 a1 (m_lengthNow (d := d - 1) (by omega) hw hb a1 a3 a4 e70 ?_)
  intro g9 hm
  refine az_lstore_n (ls' := [(0, .ref 64), (1, .int (nI 3)), (2, .long (lN ((ln_str (rd_w v) bs).length)))]) dX12_told_9 ?_
  refine az_iload_n dX12_told_10 ?_
  refine az_tswIn (off := 76) (tgt := 87) dX12_told_11 (by decide) (by decide) (by rfl) (by decide) ?_
  refine az_aload_n dX12_told_87 ?_
  refine az_getf (v := .ref 65) dX12_told_88 fl_X12_13 (az_up_ne a1) ?_
  refine az_bipush (v := nI 113) dX12_told_91 ?_
  refine az_ialdN (j := 113) dX12_told_93 (az_up_ne a3) ?_
  rw [show A 113 = bs.length from a4.2.2.2.1]
  exact az_iret dX12_told_94 (hQ _ hM1.J hf1.up)

set_option maxHeartbeats 4000000 in
set_option maxRecDepth 100000 in
theorem q_told7 {d : Nat} {tp fk mo ni : Nat} {bt : Nat → Nat} {fp : Int32} {v : rd_V} {bs : List Nat} {U : ln_U} {im : Nat → Option (rd_V × ln_Z)} {tr : Nat → Option (Nat × List Int64)} {hp : az_Hp} {Q : Option Value → az_Hp → Prop} (hd : 5 ≤ d) (hok : cs_ok ((tp, bt), (fk, fp), v, (mo, ni, bs), U, im, tr)) (hM : mm hp ((tp, bt), (fk, fp), v, (mo, ni, bs), U, im, tr)) (hQ : ∀ h', mm h' ((tp, bt), (fk, fp), v, (mo, ni, bs), U, im, tr) → az_fr hp h' 64 93 → Q (some (.int (nI (U.length)))) h') : az_M mX12_told d 0 0 [.ref 64, .int (nI 7)] hp Q := by
  obtain ⟨sc0, A0, tf0, hI0, rs0, rm0, nu0, o1, o2, -⟩ := id hM
  have hgd : rd_good v := hok.2.2.1
  have hw : ln_ok (rd_w v) := hgd.1
  have hba : ln_ba (rd_w v) bs := hok.2.2.2.1
  have hb : ln_by (rd_w v) bs := hba.b
  have hlen := hb.2.2
  have h60 := hb.1
  have hU10 : U.length ≤ 10 := hok.2.2.2.2.1
  have ht1 := hw.1
  have ht3 := hw.2.1
  refine az_M.of rfl (Nat.le_of_ble_eq_true rfl) ?_
  show az_W _ _ _ _ 0 [(0, .ref 64), (1, .int (nI 7))] [] _ _
  refine az_aload_n dX12_told_0 ?_
  refine az_iconst (v := nI 0) dX12_told_1 ?_
  refine az_putf (fs' := [.int (nI 0), .ref 65, .ref 66, .ref 67, .ref 68, sc0 5, fI (sc0 6), sc0 7, sc0 8, fI (sc0 9), fI (sc0 10), sc0 11, fI (sc0 12), sc0 13, sc0 14, .ref 69, .ref 70, .ref 71, sc0 18, .ref 72, .ref 73, .ref 74, sc0 22, sc0 23, .ref 75, sc0 25, .ref 76, .ref 77, .ref 78, sc0 29, .ref 79, .ref 80, .ref 81, .ref 82, .ref 83, .ref 84, .ref 85, sc0 37, .ref 86, .ref 87, .ref 88, .ref 89, .ref 90, .ref 91, .ref 92]) dX12_told_2 fl_X12_1 o1 ?_
  obtain ⟨h1, hf1, hM1, hh1⟩ : ∃ h1, az_fr hp h1 64 93 ∧ mm h1 ((tp, bt), (fk, fp), v, (mo, ni, bs), U, im, tr) ∧ h1 = az_up hp 64 (mo_o (su sc0 0 (.int (nI 0)))) := ⟨_, az_fr.rf.up, hM.O (sc := su sc0 0 (.int (nI 0))) o2.1 o2.2.1 o2.2.2, rfl⟩
  rw [show (az_up hp 64 (az_O 11 [.int (nI 0), .ref 65, .ref 66, .ref 67, .ref 68, sc0 5, fI (sc0 6), sc0 7, sc0 8, fI (sc0 9), fI (sc0 10), sc0 11, fI (sc0 12), sc0 13, sc0 14, .ref 69, .ref 70, .ref 71, sc0 18, .ref 72, .ref 73, .ref 74, sc0 22, sc0 23, .ref 75, sc0 25, .ref 76, .ref 77, .ref 78, sc0 29, .ref 79, .ref 80, .ref 81, .ref 82, .ref 83, .ref 84, .ref 85, sc0 37, .ref 86, .ref 87, .ref 88, .ref 89, .ref 90, .ref 91, .ref 92])) = h1 from hh1.symm]
  obtain ⟨sc, A, tf, hI, rs, rm, nu, a1, a2, a3, a4, a5, a6, a7, a8, a9, a10, a11, a12, a13, a14⟩ := id hM1
  have a4 : mT A v (mo, ni, bs) := a4
  have a5 : mU A U := a5
  have a7 : mI A hI im := a7
  have a9 : ∀ j, j < tp → tf j = bt j := a9
  have a13 : mR rs rm nu tr := a13
  obtain ⟨f70, e70⟩ := a14.J (q := 70) (n := 366)
  obtain ⟨f71, e71⟩ := a14.J (q := 71) (n := 366)
  refine az_aload_n dX12_told_5 ?_
  refine az_cV0 (st := []) dX12_told_6 ml_X12_278 a1 (m_lengthNow (d := d - 1) (by omega) hw hb a1 a3 a4 e70 ?_)
  intro g9 hm
  refine az_lstore_n (ls' := [(0, .ref 64), (1, .int (nI 7)), (2, .long (lN ((ln_str (rd_w v) bs).length)))]) dX12_told_9 ?_
  refine az_iload_n dX12_told_10 ?_
  refine az_tswIn (off := 157) (tgt := 168) dX12_told_11 (by decide) (by decide) (by rfl) (by decide) ?_
  refine az_aload_n dX12_told_168 ?_
  refine az_getf (v := .ref 65) dX12_told_169 fl_X12_13 (az_up_ne a1) ?_
  refine az_bipush (v := nI 114) dX12_told_172 ?_
  refine az_ialdN (j := 114) dX12_told_174 (az_up_ne a3) ?_
  rw [show A 114 = U.length from a5.1]
  exact az_iret dX12_told_175 (hQ _ hM1.J hf1.up)

set_option maxHeartbeats 4000000 in
set_option maxRecDepth 100000 in
theorem q_told9 {d : Nat} {tp fk mo ni : Nat} {bt : Nat → Nat} {fp : Int32} {v : rd_V} {bs : List Nat} {U : ln_U} {im : Nat → Option (rd_V × ln_Z)} {tr : Nat → Option (Nat × List Int64)} {hp : az_Hp} {Q : Option Value → az_Hp → Prop} (hd : 5 ≤ d) (hok : cs_ok ((tp, bt), (fk, fp), v, (mo, ni, bs), U, im, tr)) (hM : mm hp ((tp, bt), (fk, fp), v, (mo, ni, bs), U, im, tr)) (hQ : ∀ h', mm h' ((tp, bt), (fk, fp), v, (mo, ni, bs), U, im, tr) → az_fr hp h' 64 93 → Q (some (.int (nI (ln_li (rd_w v))))) h') : az_M mX12_told d 0 0 [.ref 64, .int (nI 9)] hp Q := by
  obtain ⟨sc0, A0, tf0, hI0, rs0, rm0, nu0, o1, o2, -⟩ := id hM
  have hgd : rd_good v := hok.2.2.1
  have hw : ln_ok (rd_w v) := hgd.1
  have hba : ln_ba (rd_w v) bs := hok.2.2.2.1
  have hb : ln_by (rd_w v) bs := hba.b
  have hlen := hb.2.2
  have h60 := hb.1
  have hU10 : U.length ≤ 10 := hok.2.2.2.2.1
  have ht1 := hw.1
  have ht3 := hw.2.1
  refine az_M.of rfl (Nat.le_of_ble_eq_true rfl) ?_
  show az_W _ _ _ _ 0 [(0, .ref 64), (1, .int (nI 9))] [] _ _
  refine az_aload_n dX12_told_0 ?_
  refine az_iconst (v := nI 0) dX12_told_1 ?_
  refine az_putf (fs' := [.int (nI 0), .ref 65, .ref 66, .ref 67, .ref 68, sc0 5, fI (sc0 6), sc0 7, sc0 8, fI (sc0 9), fI (sc0 10), sc0 11, fI (sc0 12), sc0 13, sc0 14, .ref 69, .ref 70, .ref 71, sc0 18, .ref 72, .ref 73, .ref 74, sc0 22, sc0 23, .ref 75, sc0 25, .ref 76, .ref 77, .ref 78, sc0 29, .ref 79, .ref 80, .ref 81, .ref 82, .ref 83, .ref 84, .ref 85, sc0 37, .ref 86, .ref 87, .ref 88, .ref 89, .ref 90, .ref 91, .ref 92]) dX12_told_2 fl_X12_1 o1 ?_
  obtain ⟨h1, hf1, hM1, hh1⟩ : ∃ h1, az_fr hp h1 64 93 ∧ mm h1 ((tp, bt), (fk, fp), v, (mo, ni, bs), U, im, tr) ∧ h1 = az_up hp 64 (mo_o (su sc0 0 (.int (nI 0)))) := ⟨_, az_fr.rf.up, hM.O (sc := su sc0 0 (.int (nI 0))) o2.1 o2.2.1 o2.2.2, rfl⟩
  rw [show (az_up hp 64 (az_O 11 [.int (nI 0), .ref 65, .ref 66, .ref 67, .ref 68, sc0 5, fI (sc0 6), sc0 7, sc0 8, fI (sc0 9), fI (sc0 10), sc0 11, fI (sc0 12), sc0 13, sc0 14, .ref 69, .ref 70, .ref 71, sc0 18, .ref 72, .ref 73, .ref 74, sc0 22, sc0 23, .ref 75, sc0 25, .ref 76, .ref 77, .ref 78, sc0 29, .ref 79, .ref 80, .ref 81, .ref 82, .ref 83, .ref 84, .ref 85, sc0 37, .ref 86, .ref 87, .ref 88, .ref 89, .ref 90, .ref 91, .ref 92])) = h1 from hh1.symm]
  obtain ⟨sc, A, tf, hI, rs, rm, nu, a1, a2, a3, a4, a5, a6, a7, a8, a9, a10, a11, a12, a13, a14⟩ := id hM1
  have a4 : mT A v (mo, ni, bs) := a4
  have a5 : mU A U := a5
  have a7 : mI A hI im := a7
  have a9 : ∀ j, j < tp → tf j = bt j := a9
  have a13 : mR rs rm nu tr := a13
  obtain ⟨f70, e70⟩ := a14.J (q := 70) (n := 366)
  obtain ⟨f71, e71⟩ := a14.J (q := 71) (n := 366)
  refine az_aload_n dX12_told_5 ?_
  refine az_cV0 (st := []) dX12_told_6 ml_X12_278 a1 (m_lengthNow (d := d - 1) (by omega) hw hb a1 a3 a4 e70 ?_)
  intro g9 hm
  refine az_lstore_n (ls' := [(0, .ref 64), (1, .int (nI 9)), (2, .long (lN ((ln_str (rd_w v) bs).length)))]) dX12_told_9 ?_
  refine az_iload_n dX12_told_10 ?_
  refine az_tswIn (off := 170) (tgt := 181) dX12_told_11 (by decide) (by decide) (by rfl) (by decide) ?_
  refine az_aload_n dX12_told_181 ?_
  refine az_getf (v := .ref 65) dX12_told_182 fl_X12_13 (az_up_ne a1) ?_
  refine az_iconst (v := nI 0) dX12_told_185 ?_
  refine az_ialdN (j := 0) dX12_told_186 (az_up_ne a3) ?_
  rw [show A 0 = ln_li (rd_w v) from a4.1.1]
  exact az_iret dX12_told_187 (hQ _ hM1.J hf1.up)

set_option maxHeartbeats 4000000 in
set_option maxRecDepth 100000 in
theorem q_told4 {d : Nat} {tp fk mo ni : Nat} {bt : Nat → Nat} {fp : Int32} {v : rd_V} {bs : List Nat} {U : ln_U} {im : Nat → Option (rd_V × ln_Z)} {tr : Nat → Option (Nat × List Int64)} {hp : az_Hp} {Q : Option Value → az_Hp → Prop} (hd : 5 ≤ d) (hok : cs_ok ((tp, bt), (fk, fp), v, (mo, ni, bs), U, im, tr)) (hM : mm hp ((tp, bt), (fk, fp), v, (mo, ni, bs), U, im, tr)) (hQ : ∀ h', mm h' ((tp, bt), (fk, fp), v, (mo, ni, bs), U, im, tr) → az_fr hp h' 64 93 → Q (some (.int (nI ((ln_str (rd_w v) bs).head?.getD 6)))) h') : az_M mX12_told d 0 0 [.ref 64, .int (nI 4)] hp Q := by
  obtain ⟨sc0, A0, tf0, hI0, rs0, rm0, nu0, o1, o2, -⟩ := id hM
  have hgd : rd_good v := hok.2.2.1
  have hw : ln_ok (rd_w v) := hgd.1
  have hba : ln_ba (rd_w v) bs := hok.2.2.2.1
  have hb : ln_by (rd_w v) bs := hba.b
  have hlen := hb.2.2
  have h60 := hb.1
  have hU10 : U.length ≤ 10 := hok.2.2.2.2.1
  have ht1 := hw.1
  have ht3 := hw.2.1
  refine az_M.of rfl (Nat.le_of_ble_eq_true rfl) ?_
  show az_W _ _ _ _ 0 [(0, .ref 64), (1, .int (nI 4))] [] _ _
  refine az_aload_n dX12_told_0 ?_
  refine az_iconst (v := nI 0) dX12_told_1 ?_
  refine az_putf (fs' := [.int (nI 0), .ref 65, .ref 66, .ref 67, .ref 68, sc0 5, fI (sc0 6), sc0 7, sc0 8, fI (sc0 9), fI (sc0 10), sc0 11, fI (sc0 12), sc0 13, sc0 14, .ref 69, .ref 70, .ref 71, sc0 18, .ref 72, .ref 73, .ref 74, sc0 22, sc0 23, .ref 75, sc0 25, .ref 76, .ref 77, .ref 78, sc0 29, .ref 79, .ref 80, .ref 81, .ref 82, .ref 83, .ref 84, .ref 85, sc0 37, .ref 86, .ref 87, .ref 88, .ref 89, .ref 90, .ref 91, .ref 92]) dX12_told_2 fl_X12_1 o1 ?_
  obtain ⟨h1, hf1, hM1, hh1⟩ : ∃ h1, az_fr hp h1 64 93 ∧ mm h1 ((tp, bt), (fk, fp), v, (mo, ni, bs), U, im, tr) ∧ h1 = az_up hp 64 (mo_o (su sc0 0 (.int (nI 0)))) := ⟨_, az_fr.rf.up, hM.O (sc := su sc0 0 (.int (nI 0))) o2.1 o2.2.1 o2.2.2, rfl⟩
  rw [show (az_up hp 64 (az_O 11 [.int (nI 0), .ref 65, .ref 66, .ref 67, .ref 68, sc0 5, fI (sc0 6), sc0 7, sc0 8, fI (sc0 9), fI (sc0 10), sc0 11, fI (sc0 12), sc0 13, sc0 14, .ref 69, .ref 70, .ref 71, sc0 18, .ref 72, .ref 73, .ref 74, sc0 22, sc0 23, .ref 75, sc0 25, .ref 76, .ref 77, .ref 78, sc0 29, .ref 79, .ref 80, .ref 81, .ref 82, .ref 83, .ref 84, .ref 85, sc0 37, .ref 86, .ref 87, .ref 88, .ref 89, .ref 90, .ref 91, .ref 92])) = h1 from hh1.symm]
  obtain ⟨sc, A, tf, hI, rs, rm, nu, a1, a2, a3, a4, a5, a6, a7, a8, a9, a10, a11, a12, a13, a14⟩ := id hM1
  have a4 : mT A v (mo, ni, bs) := a4
  have a5 : mU A U := a5
  have a7 : mI A hI im := a7
  have a9 : ∀ j, j < tp → tf j = bt j := a9
  have a13 : mR rs rm nu tr := a13
  obtain ⟨f70, e70⟩ := a14.J (q := 70) (n := 366)
  obtain ⟨f71, e71⟩ := a14.J (q := 71) (n := 366)
  refine az_aload_n dX12_told_5 ?_
  refine az_cV0 (st := []) dX12_told_6 ml_X12_278 a1 (m_lengthNow (d := d - 1) (by omega) hw hb a1 a3 a4 e70 ?_)
  intro g9 hm
  refine az_lstore_n (ls' := [(0, .ref 64), (1, .int (nI 4)), (2, .long (lN ((ln_str (rd_w v) bs).length)))]) dX12_told_9 ?_
  refine az_iload_n dX12_told_10 ?_
  refine az_tswIn (off := 84) (tgt := 95) dX12_told_11 (by decide) (by decide) (by rfl) (by decide) ?_
  refine az_aload_n dX12_told_95 ?_
  refine az_lconst (v := lN 0) dX12_told_96 ?_
  refine az_cV0 (st := []) dX12_told_97 ml_X12_282 (az_up_ne a1) (m_letterOf (d := d - 1) (p := 0) (by omega) hw hb (az_up_ne a1) (az_up_ne a3) a4 az_up_eq (az_up_ne e71) hm (by decide) ?_)
  intro q0
  rw [str_0]
  exact az_iret dX12_told_100 (hQ _ ((hM1.J (q := 70) (n := 366) (f := fun j => lN (g9 j))).O (sc := su sc 18 (.long q0)) a2.1 a2.2.1 a2.2.2) hf1.up.up)

set_option maxHeartbeats 4000000 in
set_option maxRecDepth 100000 in
theorem q_told5 {d : Nat} {tp fk mo ni : Nat} {bt : Nat → Nat} {fp : Int32} {v : rd_V} {bs : List Nat} {U : ln_U} {im : Nat → Option (rd_V × ln_Z)} {tr : Nat → Option (Nat × List Int64)} {hp : az_Hp} {Q : Option Value → az_Hp → Prop} (hd : 5 ≤ d) (hok : cs_ok ((tp, bt), (fk, fp), v, (mo, ni, bs), U, im, tr)) (hM : mm hp ((tp, bt), (fk, fp), v, (mo, ni, bs), U, im, tr)) (hQ : ∀ h', mm h' ((tp, bt), (fk, fp), v, (mo, ni, bs), U, im, tr) → az_fr hp h' 64 93 → Q (some (.int (nI ((ln_str (rd_w v) bs).reverse.head?.getD 6)))) h') : az_M mX12_told d 0 0 [.ref 64, .int (nI 5)] hp Q := by
  obtain ⟨sc0, A0, tf0, hI0, rs0, rm0, nu0, o1, o2, -⟩ := id hM
  have hgd : rd_good v := hok.2.2.1
  have hw : ln_ok (rd_w v) := hgd.1
  have hba : ln_ba (rd_w v) bs := hok.2.2.2.1
  have hb : ln_by (rd_w v) bs := hba.b
  have hlen := hb.2.2
  have h60 := hb.1
  have hU10 : U.length ≤ 10 := hok.2.2.2.2.1
  have ht1 := hw.1
  have ht3 := hw.2.1
  refine az_M.of rfl (Nat.le_of_ble_eq_true rfl) ?_
  show az_W _ _ _ _ 0 [(0, .ref 64), (1, .int (nI 5))] [] _ _
  refine az_aload_n dX12_told_0 ?_
  refine az_iconst (v := nI 0) dX12_told_1 ?_
  refine az_putf (fs' := [.int (nI 0), .ref 65, .ref 66, .ref 67, .ref 68, sc0 5, fI (sc0 6), sc0 7, sc0 8, fI (sc0 9), fI (sc0 10), sc0 11, fI (sc0 12), sc0 13, sc0 14, .ref 69, .ref 70, .ref 71, sc0 18, .ref 72, .ref 73, .ref 74, sc0 22, sc0 23, .ref 75, sc0 25, .ref 76, .ref 77, .ref 78, sc0 29, .ref 79, .ref 80, .ref 81, .ref 82, .ref 83, .ref 84, .ref 85, sc0 37, .ref 86, .ref 87, .ref 88, .ref 89, .ref 90, .ref 91, .ref 92]) dX12_told_2 fl_X12_1 o1 ?_
  obtain ⟨h1, hf1, hM1, hh1⟩ : ∃ h1, az_fr hp h1 64 93 ∧ mm h1 ((tp, bt), (fk, fp), v, (mo, ni, bs), U, im, tr) ∧ h1 = az_up hp 64 (mo_o (su sc0 0 (.int (nI 0)))) := ⟨_, az_fr.rf.up, hM.O (sc := su sc0 0 (.int (nI 0))) o2.1 o2.2.1 o2.2.2, rfl⟩
  rw [show (az_up hp 64 (az_O 11 [.int (nI 0), .ref 65, .ref 66, .ref 67, .ref 68, sc0 5, fI (sc0 6), sc0 7, sc0 8, fI (sc0 9), fI (sc0 10), sc0 11, fI (sc0 12), sc0 13, sc0 14, .ref 69, .ref 70, .ref 71, sc0 18, .ref 72, .ref 73, .ref 74, sc0 22, sc0 23, .ref 75, sc0 25, .ref 76, .ref 77, .ref 78, sc0 29, .ref 79, .ref 80, .ref 81, .ref 82, .ref 83, .ref 84, .ref 85, sc0 37, .ref 86, .ref 87, .ref 88, .ref 89, .ref 90, .ref 91, .ref 92])) = h1 from hh1.symm]
  obtain ⟨sc, A, tf, hI, rs, rm, nu, a1, a2, a3, a4, a5, a6, a7, a8, a9, a10, a11, a12, a13, a14⟩ := id hM1
  have a4 : mT A v (mo, ni, bs) := a4
  have a5 : mU A U := a5
  have a7 : mI A hI im := a7
  have a9 : ∀ j, j < tp → tf j = bt j := a9
  have a13 : mR rs rm nu tr := a13
  obtain ⟨f70, e70⟩ := a14.J (q := 70) (n := 366)
  obtain ⟨f71, e71⟩ := a14.J (q := 71) (n := 366)
  refine az_aload_n dX12_told_5 ?_
  refine az_cV0 (st := []) dX12_told_6 ml_X12_278 a1 (m_lengthNow (d := d - 1) (by omega) hw hb a1 a3 a4 e70 ?_)
  intro g9 hm
  refine az_lstore_n (ls' := [(0, .ref 64), (1, .int (nI 5)), (2, .long (lN ((ln_str (rd_w v) bs).length)))]) dX12_told_9 ?_
  refine az_iload_n dX12_told_10 ?_
  refine az_tswIn (off := 90) (tgt := 101) dX12_told_11 (by decide) (by decide) (by rfl) (by decide) ?_
  refine az_lload_n dX12_told_101 ?_
  refine az_lconst (v := lN 0) dX12_told_102 ?_
  refine az_lcmp_neN (tgt := 112) dX12_told_103 dX12_told_104 (fun c103 => ?_) (fun c103 => ?_)
  · refine az_aload_n dX12_told_112 ?_
    refine az_lload_n dX12_told_113 ?_
    refine az_lconst (v := lN 1) dX12_told_114 ?_
    refine az_lsubN dX12_told_115 (by omega) ?_
    refine az_cV0 (st := []) dX12_told_116 ml_X12_282 (az_up_ne a1) (m_letterOf (d := d - 1) (p := (ln_str (rd_w v) bs).length - 1) (by omega) hw hb (az_up_ne a1) (az_up_ne a3) a4 az_up_eq (az_up_ne e71) hm (by omega) ?_)
    intro q0
    rw [str_l]
    exact az_iret dX12_told_119 (by first | exact hQ _ ((hM1.J (q := 70) (n := 366) (f := fun j => lN (g9 j))).O (sc := su sc 18 (.long q0)) a2.1 a2.2.1 a2.2.2) hf1.up.up | (rw [str_n (l := (ln_str (rd_w v) bs)) (by omega)]; exact hQ _ hM1.J hf1.up))
  · refine az_bipush (v := nI 6) dX12_told_107 ?_
    refine az_goto (tgt := 119) dX12_told_109 ?_
    exact az_iret dX12_told_119 (by first | exact hQ _ ((hM1.J (q := 70) (n := 366) (f := fun j => lN (g9 j))).O (sc := su sc 18 (.long q0)) a2.1 a2.2.1 a2.2.2) hf1.up.up | (rw [str_n (l := (ln_str (rd_w v) bs)) (by omega)]; exact hQ _ hM1.J hf1.up))

set_option maxHeartbeats 4000000 in
set_option maxRecDepth 100000 in
theorem q_told6 {d : Nat} {tp fk mo ni : Nat} {bt : Nat → Nat} {fp : Int32} {v : rd_V} {bs : List Nat} {U : ln_U} {im : Nat → Option (rd_V × ln_Z)} {tr : Nat → Option (Nat × List Int64)} {hp : az_Hp} {Q : Option Value → az_Hp → Prop} (hd : 5 ≤ d) (hok : cs_ok ((tp, bt), (fk, fp), v, (mo, ni, bs), U, im, tr)) (hM : mm hp ((tp, bt), (fk, fp), v, (mo, ni, bs), U, im, tr)) (hQ : ∀ h', mm h' ((tp, bt), (fk, fp), v, (mo, ni, bs), U, im, tr) → az_fr hp h' 64 93 → Q (some (.int (nI ((ln_dd (ln_str (rd_w v) bs)).length)))) h') : az_M mX12_told d 0 0 [.ref 64, .int (nI 6)] hp Q := by
  obtain ⟨sc0, A0, tf0, hI0, rs0, rm0, nu0, o1, o2, -⟩ := id hM
  have hgd : rd_good v := hok.2.2.1
  have hw : ln_ok (rd_w v) := hgd.1
  have hba : ln_ba (rd_w v) bs := hok.2.2.2.1
  have hb : ln_by (rd_w v) bs := hba.b
  have hlen := hb.2.2
  have h60 := hb.1
  have hU10 : U.length ≤ 10 := hok.2.2.2.2.1
  have ht1 := hw.1
  have ht3 := hw.2.1
  refine az_M.of rfl (Nat.le_of_ble_eq_true rfl) ?_
  show az_W _ _ _ _ 0 [(0, .ref 64), (1, .int (nI 6))] [] _ _
  refine az_aload_n dX12_told_0 ?_
  refine az_iconst (v := nI 0) dX12_told_1 ?_
  refine az_putf (fs' := [.int (nI 0), .ref 65, .ref 66, .ref 67, .ref 68, sc0 5, fI (sc0 6), sc0 7, sc0 8, fI (sc0 9), fI (sc0 10), sc0 11, fI (sc0 12), sc0 13, sc0 14, .ref 69, .ref 70, .ref 71, sc0 18, .ref 72, .ref 73, .ref 74, sc0 22, sc0 23, .ref 75, sc0 25, .ref 76, .ref 77, .ref 78, sc0 29, .ref 79, .ref 80, .ref 81, .ref 82, .ref 83, .ref 84, .ref 85, sc0 37, .ref 86, .ref 87, .ref 88, .ref 89, .ref 90, .ref 91, .ref 92]) dX12_told_2 fl_X12_1 o1 ?_
  obtain ⟨h1, hf1, hM1, hh1⟩ : ∃ h1, az_fr hp h1 64 93 ∧ mm h1 ((tp, bt), (fk, fp), v, (mo, ni, bs), U, im, tr) ∧ h1 = az_up hp 64 (mo_o (su sc0 0 (.int (nI 0)))) := ⟨_, az_fr.rf.up, hM.O (sc := su sc0 0 (.int (nI 0))) o2.1 o2.2.1 o2.2.2, rfl⟩
  rw [show (az_up hp 64 (az_O 11 [.int (nI 0), .ref 65, .ref 66, .ref 67, .ref 68, sc0 5, fI (sc0 6), sc0 7, sc0 8, fI (sc0 9), fI (sc0 10), sc0 11, fI (sc0 12), sc0 13, sc0 14, .ref 69, .ref 70, .ref 71, sc0 18, .ref 72, .ref 73, .ref 74, sc0 22, sc0 23, .ref 75, sc0 25, .ref 76, .ref 77, .ref 78, sc0 29, .ref 79, .ref 80, .ref 81, .ref 82, .ref 83, .ref 84, .ref 85, sc0 37, .ref 86, .ref 87, .ref 88, .ref 89, .ref 90, .ref 91, .ref 92])) = h1 from hh1.symm]
  obtain ⟨sc, A, tf, hI, rs, rm, nu, a1, a2, a3, a4, a5, a6, a7, a8, a9, a10, a11, a12, a13, a14⟩ := id hM1
  have a4 : mT A v (mo, ni, bs) := a4
  have a5 : mU A U := a5
  have a7 : mI A hI im := a7
  have a9 : ∀ j, j < tp → tf j = bt j := a9
  have a13 : mR rs rm nu tr := a13
  obtain ⟨f70, e70⟩ := a14.J (q := 70) (n := 366)
  obtain ⟨f71, e71⟩ := a14.J (q := 71) (n := 366)
  refine az_aload_n dX12_told_5 ?_
  refine az_cV0 (st := []) dX12_told_6 ml_X12_278 a1 (m_lengthNow (d := d - 1) (by omega) hw hb a1 a3 a4 e70 ?_)
  intro g9 hm
  refine az_lstore_n (ls' := [(0, .ref 64), (1, .int (nI 6)), (2, .long (lN ((ln_str (rd_w v) bs).length)))]) dX12_told_9 ?_
  refine az_iload_n dX12_told_10 ?_
  refine az_tswIn (off := 109) (tgt := 120) dX12_told_11 (by decide) (by decide) (by rfl) (by decide) ?_
  refine az_aload_n dX12_told_120 ?_
  refine az_cV0 (st := []) dX12_told_121 ml_X12_424 (az_up_ne a1) (m_laysMany (d := d - 1) (by omega) hw hb (az_up_ne a1) (az_up_ne a3) a4 (mk.uJ a14 rfl) ?_)
  intro h3 gm d81 hF mk3 mf3
  refine m_told6W (mf3.at (az_up_ne a1)) d81 hF (by omega) ?_
  rw [← dd_kd (ln_str_lt hw bs)]
  exact hQ h3 (hM1.of (L := [70, 71, 81]) ((mf.rf.up (by decide)).tr (mf3.wk (L' := [70, 71, 81])) (by decide)) (by decide) mk3 (mf3.at (az_up_ne a1)) a2.1 a2.2.1 a2.2.2) (hf1.tr (mf.fr (L := [70, 71, 81]) ((mf.rf.up (by decide)).tr (mf3.wk (L' := [70, 71, 81])) (by decide))))

set_option maxHeartbeats 4000000 in
set_option maxRecDepth 100000 in
theorem q_told8 {d : Nat} {tp fk mo ni : Nat} {bt : Nat → Nat} {fp : Int32} {v : rd_V} {bs : List Nat} {U : ln_U} {im : Nat → Option (rd_V × ln_Z)} {tr : Nat → Option (Nat × List Int64)} {hp : az_Hp} {Q : Option Value → az_Hp → Prop} (hd : 5 ≤ d) (hok : cs_ok ((tp, bt), (fk, fp), v, (mo, ni, bs), U, im, tr)) (hM : mm hp ((tp, bt), (fk, fp), v, (mo, ni, bs), U, im, tr)) (hQ : ∀ h', mm h' ((tp, bt), (fk, fp), v, (mo, ni, bs), U, im, tr) → az_fr hp h' 64 93 → Q (some (.int (nI (tp)))) h') : az_M mX12_told d 0 0 [.ref 64, .int (nI 8)] hp Q := by
  obtain ⟨sc0, A0, tf0, hI0, rs0, rm0, nu0, o1, o2, -⟩ := id hM
  have hgd : rd_good v := hok.2.2.1
  have hw : ln_ok (rd_w v) := hgd.1
  have hba : ln_ba (rd_w v) bs := hok.2.2.2.1
  have hb : ln_by (rd_w v) bs := hba.b
  have hlen := hb.2.2
  have h60 := hb.1
  have hU10 : U.length ≤ 10 := hok.2.2.2.2.1
  have ht1 := hw.1
  have ht3 := hw.2.1
  refine az_M.of rfl (Nat.le_of_ble_eq_true rfl) ?_
  show az_W _ _ _ _ 0 [(0, .ref 64), (1, .int (nI 8))] [] _ _
  refine az_aload_n dX12_told_0 ?_
  refine az_iconst (v := nI 0) dX12_told_1 ?_
  refine az_putf (fs' := [.int (nI 0), .ref 65, .ref 66, .ref 67, .ref 68, sc0 5, fI (sc0 6), sc0 7, sc0 8, fI (sc0 9), fI (sc0 10), sc0 11, fI (sc0 12), sc0 13, sc0 14, .ref 69, .ref 70, .ref 71, sc0 18, .ref 72, .ref 73, .ref 74, sc0 22, sc0 23, .ref 75, sc0 25, .ref 76, .ref 77, .ref 78, sc0 29, .ref 79, .ref 80, .ref 81, .ref 82, .ref 83, .ref 84, .ref 85, sc0 37, .ref 86, .ref 87, .ref 88, .ref 89, .ref 90, .ref 91, .ref 92]) dX12_told_2 fl_X12_1 o1 ?_
  obtain ⟨h1, hf1, hM1, hh1⟩ : ∃ h1, az_fr hp h1 64 93 ∧ mm h1 ((tp, bt), (fk, fp), v, (mo, ni, bs), U, im, tr) ∧ h1 = az_up hp 64 (mo_o (su sc0 0 (.int (nI 0)))) := ⟨_, az_fr.rf.up, hM.O (sc := su sc0 0 (.int (nI 0))) o2.1 o2.2.1 o2.2.2, rfl⟩
  rw [show (az_up hp 64 (az_O 11 [.int (nI 0), .ref 65, .ref 66, .ref 67, .ref 68, sc0 5, fI (sc0 6), sc0 7, sc0 8, fI (sc0 9), fI (sc0 10), sc0 11, fI (sc0 12), sc0 13, sc0 14, .ref 69, .ref 70, .ref 71, sc0 18, .ref 72, .ref 73, .ref 74, sc0 22, sc0 23, .ref 75, sc0 25, .ref 76, .ref 77, .ref 78, sc0 29, .ref 79, .ref 80, .ref 81, .ref 82, .ref 83, .ref 84, .ref 85, sc0 37, .ref 86, .ref 87, .ref 88, .ref 89, .ref 90, .ref 91, .ref 92])) = h1 from hh1.symm]
  obtain ⟨sc, A, tf, hI, rs, rm, nu, a1, a2, a3, a4, a5, a6, a7, a8, a9, a10, a11, a12, a13, a14⟩ := id hM1
  have a4 : mT A v (mo, ni, bs) := a4
  have a5 : mU A U := a5
  have a7 : mI A hI im := a7
  have a9 : ∀ j, j < tp → tf j = bt j := a9
  have a13 : mR rs rm nu tr := a13
  have a1' : h1.2 64 = some (az_O 11 [sc 0, .ref 65, .ref 66, .ref 67, .ref 68, .int (nI tp), fI (sc 6), sc 7, sc 8, fI (sc 9), fI (sc 10), sc 11, fI (sc 12), .int (nI fk), .int fp, .ref 69, .ref 70, .ref 71, sc 18, .ref 72, .ref 73, .ref 74, sc 22, sc 23, .ref 75, sc 25, .ref 76, .ref 77, .ref 78, sc 29, .ref 79, .ref 80, .ref 81, .ref 82, .ref 83, .ref 84, .ref 85, sc 37, .ref 86, .ref 87, .ref 88, .ref 89, .ref 90, .ref 91, .ref 92]) := (by have q1 : sc 5 = .int (nI tp) := a2.1; have q2 : sc 13 = .int (nI fk) := a2.2.1; have q3 : sc 14 = .int fp := a2.2.2; rw [← q1, ← q2, ← q3]; exact a1)
  obtain ⟨f70, e70⟩ := a14.J (q := 70) (n := 366)
  obtain ⟨f71, e71⟩ := a14.J (q := 71) (n := 366)
  refine az_aload_n dX12_told_5 ?_
  refine az_cV0 (st := []) dX12_told_6 ml_X12_278 a1' (m_lengthNow (d := d - 1) (by omega) hw hb a1 a3 a4 e70 ?_)
  intro g9 hm
  refine az_lstore_n (ls' := [(0, .ref 64), (1, .int (nI 8)), (2, .long (lN ((ln_str (rd_w v) bs).length)))]) dX12_told_9 ?_
  refine az_iload_n dX12_told_10 ?_
  refine az_tswIn (off := 165) (tgt := 176) dX12_told_11 (by decide) (by decide) (by rfl) (by decide) ?_
  refine az_aload_n dX12_told_176 ?_
  refine az_getf (v := .int (nI tp)) dX12_told_177 fl_X12_107 (az_up_ne a1') ?_
  exact az_iret dX12_told_180 (hQ _ hM1.J hf1.up)

set_option maxHeartbeats 4000000 in
set_option maxRecDepth 100000 in
theorem q_toldN {d : Nat} {x : Int32} {tp fk mo ni : Nat} {bt : Nat → Nat} {fp : Int32} {v : rd_V} {bs : List Nat} {U : ln_U} {im : Nat → Option (rd_V × ln_Z)} {tr : Nat → Option (Nat × List Int64)} {hp : az_Hp} {Q : Option Value → az_Hp → Prop} (hd : 5 ≤ d) (hok : cs_ok ((tp, bt), (fk, fp), v, (mo, ni, bs), U, im, tr)) (hM : mm hp ((tp, bt), (fk, fp), v, (mo, ni, bs), U, im, tr)) (hx : x.toInt < 0 ∨ 9 < x.toInt) (hQ : ∀ h', mm h' ((tp, bt), (fk, fp), v, (mo, ni, bs), U, im, tr) → az_fr hp h' 64 93 → Q (some (.int (-1))) h') : az_M mX12_told d 0 0 [.ref 64, .int x] hp Q := by
  obtain ⟨sc0, A0, tf0, hI0, rs0, rm0, nu0, o1, o2, -⟩ := id hM
  have hgd : rd_good v := hok.2.2.1
  have hw : ln_ok (rd_w v) := hgd.1
  have hba : ln_ba (rd_w v) bs := hok.2.2.2.1
  have hb : ln_by (rd_w v) bs := hba.b
  have hlen := hb.2.2
  have h60 := hb.1
  have hU10 : U.length ≤ 10 := hok.2.2.2.2.1
  have ht1 := hw.1
  have ht3 := hw.2.1
  refine az_M.of rfl (Nat.le_of_ble_eq_true rfl) ?_
  show az_W _ _ _ _ 0 [(0, .ref 64), (1, .int x)] [] _ _
  refine az_aload_n dX12_told_0 ?_
  refine az_iconst (v := nI 0) dX12_told_1 ?_
  refine az_putf (fs' := [.int (nI 0), .ref 65, .ref 66, .ref 67, .ref 68, sc0 5, fI (sc0 6), sc0 7, sc0 8, fI (sc0 9), fI (sc0 10), sc0 11, fI (sc0 12), sc0 13, sc0 14, .ref 69, .ref 70, .ref 71, sc0 18, .ref 72, .ref 73, .ref 74, sc0 22, sc0 23, .ref 75, sc0 25, .ref 76, .ref 77, .ref 78, sc0 29, .ref 79, .ref 80, .ref 81, .ref 82, .ref 83, .ref 84, .ref 85, sc0 37, .ref 86, .ref 87, .ref 88, .ref 89, .ref 90, .ref 91, .ref 92]) dX12_told_2 fl_X12_1 o1 ?_
  obtain ⟨h1, hf1, hM1, hh1⟩ : ∃ h1, az_fr hp h1 64 93 ∧ mm h1 ((tp, bt), (fk, fp), v, (mo, ni, bs), U, im, tr) ∧ h1 = az_up hp 64 (mo_o (su sc0 0 (.int (nI 0)))) := ⟨_, az_fr.rf.up, hM.O (sc := su sc0 0 (.int (nI 0))) o2.1 o2.2.1 o2.2.2, rfl⟩
  rw [show (az_up hp 64 (az_O 11 [.int (nI 0), .ref 65, .ref 66, .ref 67, .ref 68, sc0 5, fI (sc0 6), sc0 7, sc0 8, fI (sc0 9), fI (sc0 10), sc0 11, fI (sc0 12), sc0 13, sc0 14, .ref 69, .ref 70, .ref 71, sc0 18, .ref 72, .ref 73, .ref 74, sc0 22, sc0 23, .ref 75, sc0 25, .ref 76, .ref 77, .ref 78, sc0 29, .ref 79, .ref 80, .ref 81, .ref 82, .ref 83, .ref 84, .ref 85, sc0 37, .ref 86, .ref 87, .ref 88, .ref 89, .ref 90, .ref 91, .ref 92])) = h1 from hh1.symm]
  obtain ⟨sc, A, tf, hI, rs, rm, nu, a1, a2, a3, a4, a5, a6, a7, a8, a9, a10, a11, a12, a13, a14⟩ := id hM1
  have a4 : mT A v (mo, ni, bs) := a4
  have a5 : mU A U := a5
  have a7 : mI A hI im := a7
  have a9 : ∀ j, j < tp → tf j = bt j := a9
  have a13 : mR rs rm nu tr := a13
  obtain ⟨f70, e70⟩ := a14.J (q := 70) (n := 366)
  refine az_aload_n dX12_told_5 ?_
  refine az_cV0 (st := []) dX12_told_6 ml_X12_278 a1 (m_lengthNow (d := d - 1) (by omega) hw hb a1 a3 a4 e70 ?_)
  intro g9 hm
  refine az_lstore_n (ls' := [(0, .ref 64), (1, .int x), (2, .long (lN ((ln_str (rd_w v) bs).length)))]) dX12_told_9 ?_
  refine az_iload_n dX12_told_10 ?_
  refine az_tswOut (tgt := 188) dX12_told_11 hx (by decide) ?_
  refine az_iconst (v := (-1)) dX12_told_188 ?_
  exact az_iret dX12_told_189 (hQ _ hM1.J hf1.up)
theorem q_told {d : Nat} {x : Int32} {tp fk mo ni : Nat} {bt : Nat → Nat} {fp : Int32} {v : rd_V} {bs : List Nat} {U : ln_U} {im : Nat → Option (rd_V × ln_Z)} {tr : Nat → Option (Nat × List Int64)} {hp : az_Hp} {Q : Option Value → az_Hp → Prop} (hd : 5 ≤ d) (hok : cs_ok ((tp, bt), (fk, fp), v, (mo, ni, bs), U, im, tr)) (hM : mm hp ((tp, bt), (fk, fp), v, (mo, ni, bs), U, im, tr)) (hQ : ∀ h', mm h' ((tp, bt), (fk, fp), v, (mo, ni, bs), U, im, tr) → az_fr hp h' 64 93 → Q (some (.int (cs_told ((tp, bt), (fk, fp), v, (mo, ni, bs), U, im, tr) x))) h') : az_M mX12_told d 0 0 [.ref 64, .int x] hp Q := by
  unfold cs_told at hQ
  by_cases h : cs_in x 10
  · rw [if_pos h] at hQ
    obtain ⟨h1, h2⟩ := cs_in_of h
    rw [h1]
    generalize cs_n x = m at h2 hQ
    match m, h2, hQ with
    | 0, _, hQ => exact q_told0 hd hok hM hQ
    | 1, _, hQ => exact q_told1 hd hok hM hQ
    | 2, _, hQ => exact q_told2 hd hok hM hQ
    | 3, _, hQ => exact q_told3 hd hok hM hQ
    | 4, _, hQ => exact q_told4 hd hok hM hQ
    | 5, _, hQ => exact q_told5 hd hok hM hQ
    | 6, _, hQ => exact q_told6 hd hok hM hQ
    | 7, _, hQ => exact q_told7 hd hok hM hQ
    | 8, _, hQ => exact q_told8 hd hok hM hQ
    | 9, _, hQ => exact q_told9 hd hok hM hQ
  · rw [if_neg h] at hQ
    exact q_toldN hd hok hM (by
      by_cases q : x.toInt < 0
      · exact Or.inl q
      · exact Or.inr (by
          apply Classical.byContradiction
          intro q2
          exact h ⟨by omega, by omega⟩)) hQ

