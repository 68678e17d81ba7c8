/-! The start: the texts that the class and the model name -/
def tx_ws (own : String) (k : Nat) (tx : String) : List Cond := .exactly (.string own k) "java/lang/String" :: .eq (.field (.string own k) "java/lang/String" "coder" "B") (.int 0) :: .arrayOf (.field (.string own k) "java/lang/String" "value" "[B") .byte :: .eq (.length (.field (.string own k) "java/lang/String" "value" "[B")) (.int (Int32.ofNat (az_byt tx).length)) :: (List.range (az_byt tx).length).map (fun j => .eq (.elem (.field (.string own k) "java/lang/String" "value" "[B") (.int (Int32.ofNat j))) (.int ((az_byt tx).getD j 0)))
def tx_nar : List Cond := flatC (Jvm.Cond.and given_1 narrow_1)
theorem tx_of {args : Array Value} {s : State} {own : String} {k : Nat} {tx : String} {A : Nat → Prop} (hA : ∀ a : Nat, a < s.heap.size → ¬ A a) (hsr : (Cond.stringRef own k tx).before args s = true) (hw : ∀ w ∈ tx_ws own k tx, w.before args s = true) (hn : (az_byt tx).length < 2 ^ 31) : ∃ q : Nat × Nat, vk_R own k tx q.1 s ∧ va_O "java/lang/String" q.1 A s s.heap ∧ va_OF "java/lang/String" "coder" "B" (.int 0) q.1 A s s.heap ∧ va_OF "java/lang/String" "value" "[B" (.ref q.2) q.1 A s s.heap ∧ va_T .byte q.2 (az_byt tx).length (fun j => .int ((az_byt tx).getD j 0)) A s s.heap := by
  have m0 := hw _ List.mem_cons_self
  have m1 := hw _ (List.mem_cons_of_mem _ List.mem_cons_self)
  have m2 := hw _ (List.mem_cons_of_mem _ (List.mem_cons_of_mem _ List.mem_cons_self))
  have m3 := hw _ (List.mem_cons_of_mem _ (List.mem_cons_of_mem _ (List.mem_cons_of_mem _ List.mem_cons_self)))
  obtain ⟨a, c, cA, kA, q1, q2, q3, q4, q5, q6, -⟩ := Cond.exactly_spec (args := args) (first := s) (o := none) (s := s) (idx := []) (t := .string own k) (cls := "java/lang/String") m0
  obtain ⟨t, ht, hT⟩ := va_Tof (f := fun j => .int ((az_byt tx).getD j 0)) (A := A) hn m2 (va_eqt m3) (fun j hj => va_eqt (hw _ (List.mem_cons_of_mem _ (List.mem_cons_of_mem _ (List.mem_cons_of_mem _ (List.mem_cons_of_mem _ (List.mem_map.mpr ⟨j, List.mem_range.mpr hj, rfl⟩))))))) hA
  exact ⟨(a, t), vk_R.of hsr q1, ⟨cA, q3, q5, by rw [q6]; exact q2, hA a (Array.getElem?_eq_some_iff.mp q3).1⟩, vk_OFof q1 (va_eqt m1) hA, vk_OFof q1 ht hA, hT⟩
theorem tx_in {ws : List Cond} (ps : List Nat) (h : ws = ps.filterMap (fun i => tx_nar[i]?)) : ∀ w ∈ ws, w ∈ tx_nar := by
  intro w hw
  rw [h] at hw
  obtain ⟨i, -, hi⟩ := List.mem_filterMap.mp hw
  exact List.mem_of_getElem? hi
theorem tx_m1 {w : Cond} (i : Nat) (h : tables_1_1[i]? = some w) : w ∈ lw_tbl := List.mem_append_right _ (List.mem_append_left _ (List.mem_of_getElem? h))
theorem tx_m2 {w : Cond} (i : Nat) (h : tables_1_2[i]? = some w) : w ∈ lw_tbl := List.mem_append_right _ (List.mem_append_right _ (List.mem_append_left _ (List.mem_of_getElem? h)))
theorem tx_m3 {w : Cond} (i : Nat) (h : tables_1_3[i]? = some w) : w ∈ lw_tbl := List.mem_append_right _ (List.mem_append_right _ (List.mem_append_right _ (List.mem_append_left _ (List.mem_of_getElem? h))))
theorem tx_m4 {w : Cond} (i : Nat) (h : tables_1_4[i]? = some w) : w ∈ lw_tbl := List.mem_append_right _ (List.mem_append_right _ (List.mem_append_right _ (List.mem_append_right _ (List.mem_append_left _ (List.mem_of_getElem? h)))))
theorem tx_m5 {w : Cond} (i : Nat) (h : tables_1_5[i]? = some w) : w ∈ lw_tbl := List.mem_append_right _ (List.mem_append_right _ (List.mem_append_right _ (List.mem_append_right _ (List.mem_append_right _ (List.mem_append_left _ (List.mem_of_getElem? h))))))
theorem tx_m6 {w : Cond} (i : Nat) (h : tables_1_6[i]? = some w) : w ∈ lw_tbl := List.mem_append_right _ (List.mem_append_right _ (List.mem_append_right _ (List.mem_append_right _ (List.mem_append_right _ (List.mem_append_right _ (List.mem_append_left _ (List.mem_of_getElem? h)))))))
theorem tx_m7 {w : Cond} (i : Nat) (h : tables_1_7[i]? = some w) : w ∈ lw_tbl := List.mem_append_right _ (List.mem_append_right _ (List.mem_append_right _ (List.mem_append_right _ (List.mem_append_right _ (List.mem_append_right _ (List.mem_append_right _ (List.mem_append_left _ (List.mem_of_getElem? h))))))))
theorem tx_m8 {w : Cond} (i : Nat) (h : tables_1_8[i]? = some w) : w ∈ lw_tbl := List.mem_append_right _ (List.mem_append_right _ (List.mem_append_right _ (List.mem_append_right _ (List.mem_append_right _ (List.mem_append_right _ (List.mem_append_right _ (List.mem_append_right _ (List.mem_append_left _ (List.mem_of_getElem? h)))))))))
theorem tx_m9 {w : Cond} (i : Nat) (h : tables_1_9[i]? = some w) : w ∈ lw_tbl := List.mem_append_right _ (List.mem_append_right _ (List.mem_append_right _ (List.mem_append_right _ (List.mem_append_right _ (List.mem_append_right _ (List.mem_append_right _ (List.mem_append_right _ (List.mem_append_right _ ((List.mem_of_getElem? h))))))))))
def tx_ok (r : String × Nat × String) : Prop := (∀ w ∈ tx_ws r.1 r.2.1 r.2.2, w ∈ tx_nar) ∧ Cond.stringRef r.1 r.2.1 r.2.2 ∈ lw_tbl ∧ (az_byt r.2.2).length < 2 ^ 31
theorem tx_k0 : tx_ok ("LetterNights$Reader", 223, ";:+-*()[]=<>") := ⟨tx_in [33, 34, 35, 36, 37, 38, 39, 40, 41, 42, 43, 44, 45, 46, 47, 48] (by decide +kernel), (tx_m2 199 (by decide +kernel)), by decide +kernel⟩
theorem tx_k1 : tx_ok ("LetterNights$Reader", 57, "street") := ⟨tx_in [49, 50, 51, 52, 53, 54, 55, 56, 57, 58] (by decide +kernel), (tx_m3 50 (by decide +kernel)), by decide +kernel⟩
theorem tx_k2 : tx_ok ("LetterNights$Reader", 63, "tables") := ⟨tx_in [60, 61, 62, 63, 64, 65, 66, 67, 68, 69] (by decide +kernel), (tx_m3 84 (by decide +kernel)), by decide +kernel⟩
theorem tx_k3 : tx_ok ("LetterNights$Reader", 74, "moon") := ⟨tx_in [72, 73, 74, 75, 76, 77, 78, 79] (by decide +kernel), (tx_m3 89 (by decide +kernel)), by decide +kernel⟩
theorem tx_k4 : tx_ok ("LetterNights$Reader", 85, "stands") := ⟨tx_in [83, 84, 85, 86, 87, 88, 89, 90, 91, 92] (by decide +kernel), (tx_m3 102 (by decide +kernel)), by decide +kernel⟩
theorem tx_k5 : tx_ok ("LetterNights$Reader", 93, "rule") := ⟨tx_in [97, 98, 99, 100, 101, 102, 103, 104] (by decide +kernel), (tx_m3 111 (by decide +kernel)), by decide +kernel⟩
theorem tx_k6 : tx_ok ("LetterNights$Reader", 143, "nothing") := ⟨tx_in [110, 111, 112, 113, 114, 115, 116, 117, 118, 119, 120] (by decide +kernel), (tx_m3 116 (by decide +kernel)), by decide +kernel⟩
theorem tx_k7 : tx_ok ("LetterNights$Reader", 98, "picks") := ⟨tx_in [127, 128, 129, 130, 131, 132, 133, 134, 135] (by decide +kernel), (tx_m3 117 (by decide +kernel)), by decide +kernel⟩
theorem tx_k8 : tx_ok ("LetterNights$Reader", 182, "if") := ⟨tx_in [143, 144, 145, 146, 147, 148] (by decide +kernel), (tx_m3 138 (by decide +kernel)), by decide +kernel⟩
theorem tx_k9 : tx_ok ("LetterNights$Reader", 164, "not") := ⟨tx_in [157, 158, 159, 160, 161, 162, 163] (by decide +kernel), (tx_m3 155 (by decide +kernel)), by decide +kernel⟩
theorem tx_k10 : tx_ok ("LetterNights$Reader", 162, "and") := ⟨tx_in [173, 174, 175, 176, 177, 178, 179] (by decide +kernel), (tx_m3 164 (by decide +kernel)), by decide +kernel⟩
theorem tx_k11 : tx_ok ("LetterNights$Reader", 151, "or") := ⟨tx_in [190, 191, 192, 193, 194, 195] (by decide +kernel), (tx_m3 165 (by decide +kernel)), by decide +kernel⟩
theorem tx_k12 : tx_ok ("LetterNights$Reader", 190, "then") := ⟨tx_in [207, 208, 209, 210, 211, 212, 213, 214] (by decide +kernel), (tx_m3 166 (by decide +kernel)), by decide +kernel⟩
theorem tx_k13 : tx_ok ("LetterNights$Reader", 192, "else") := ⟨tx_in [227, 228, 229, 230, 231, 232, 233, 234] (by decide +kernel), (tx_m3 167 (by decide +kernel)), by decide +kernel⟩
theorem tx_k14 : tx_ok ("LetterNights$Reader", 194, "end") := ⟨tx_in [248, 249, 250, 251, 252, 253, 254] (by decide +kernel), (tx_m3 168 (by decide +kernel)), by decide +kernel⟩
theorem tx_k15 : tx_ok ("LetterNights$Reader", 196, "night") := ⟨tx_in [269, 270, 271, 272, 273, 274, 275, 276, 277] (by decide +kernel), (tx_m3 173 (by decide +kernel)), by decide +kernel⟩
theorem tx_k16 : tx_ok ("LetterNights$Reader", 198, "front") := ⟨tx_in [293, 294, 295, 296, 297, 298, 299, 300, 301] (by decide +kernel), (tx_m3 174 (by decide +kernel)), by decide +kernel⟩
theorem tx_k17 : tx_ok ("LetterNights$Reader", 200, "back") := ⟨tx_in [318, 319, 320, 321, 322, 323, 324, 325] (by decide +kernel), (tx_m3 175 (by decide +kernel)), by decide +kernel⟩
theorem tx_k18 : tx_ok ("LetterNights$Reader", 202, "rest") := ⟨tx_in [343, 344, 345, 346, 347, 348, 349, 350] (by decide +kernel), (tx_m3 176 (by decide +kernel)), by decide +kernel⟩
theorem tx_k19 : tx_ok ("LetterNights$Reader", 120, "sleeps") := ⟨tx_in [369, 370, 371, 372, 373, 374, 375, 376, 377, 378] (by decide +kernel), (tx_m3 191 (by decide +kernel)), by decide +kernel⟩
theorem tx_k20 : tx_ok ("LetterNightsModel", 113, " street tables moon stands rule nothing picks sleeps if then else end night front back rest and or not ") := ⟨tx_in [398, 399, 400, 401, 402, 403, 404, 405, 406, 407, 408, 409, 410, 411, 412, 413, 414, 415, 416, 417, 418, 419, 420, 421, 422, 423, 424, 425, 426, 427, 428, 429, 430, 431, 432, 433, 434, 435, 436, 437, 438, 439, 440, 441, 442, 443, 444, 445, 446, 447, 448, 449, 450, 451, 452, 453, 454, 455, 456, 457, 458, 459, 460, 461, 462, 463, 464, 465, 466, 467, 468, 469, 470, 471, 472, 473, 474, 475, 476, 477, 478, 479, 480, 481, 482, 483, 484, 485, 486, 487, 488, 489, 490, 491, 492, 493, 494, 495, 496, 497, 498, 499, 500, 501, 502, 503, 504] (by decide +kernel), (tx_m7 7 (by decide +kernel)), by decide +kernel⟩
theorem tx_k21 : tx_ok ("LetterNightsModel", 151, ";:+-*()[]=<>") := ⟨tx_in [525, 526, 527, 528, 529, 530, 531, 532, 533, 534, 535, 536, 537, 538, 539, 540] (by decide +kernel), (tx_m7 13 (by decide +kernel)), by decide +kernel⟩
theorem tx_all : ∀ r ∈ az_txt, tx_ok r := List.forall_mem_cons.mpr ⟨tx_k0, List.forall_mem_cons.mpr ⟨tx_k1, List.forall_mem_cons.mpr ⟨tx_k2, List.forall_mem_cons.mpr ⟨tx_k3, List.forall_mem_cons.mpr ⟨tx_k4, List.forall_mem_cons.mpr ⟨tx_k5, List.forall_mem_cons.mpr ⟨tx_k6, List.forall_mem_cons.mpr ⟨tx_k7, List.forall_mem_cons.mpr ⟨tx_k8, List.forall_mem_cons.mpr ⟨tx_k9, List.forall_mem_cons.mpr ⟨tx_k10, List.forall_mem_cons.mpr ⟨tx_k11, List.forall_mem_cons.mpr ⟨tx_k12, List.forall_mem_cons.mpr ⟨tx_k13, List.forall_mem_cons.mpr ⟨tx_k14, List.forall_mem_cons.mpr ⟨tx_k15, List.forall_mem_cons.mpr ⟨tx_k16, List.forall_mem_cons.mpr ⟨tx_k17, List.forall_mem_cons.mpr ⟨tx_k18, List.forall_mem_cons.mpr ⟨tx_k19, List.forall_mem_cons.mpr ⟨tx_k20, List.forall_mem_cons.mpr ⟨tx_k21, fun _ h => absurd h List.not_mem_nil⟩⟩⟩⟩⟩⟩⟩⟩⟩⟩⟩⟩⟩⟩⟩⟩⟩⟩⟩⟩⟩⟩
theorem tx_T {b : Nat} {s : State} (hts : ∀ w ∈ lw_tbl, w.before #[Value.ref b] s = true) (hgv : (Jvm.Cond.and given_1 narrow_1).before #[Value.ref b] s = true) : ∃ sa : Nat → Nat, sa 45 = b ∧ az_T s.heap.size sa s s.heap := by
  have hA : ∀ a : Nat, a < s.heap.size → ¬ (fun q : Nat => s.heap.size ≤ q) a := fun a h => Nat.not_le.mpr h
  have hn : ∀ w ∈ tx_nar, w.before #[Value.ref b] s = true := flat_of_before _ hgv
  have h0 : ∀ k : Nat, ∃ q : Nat × Nat, ∀ r, az_txt[k]? = some r → vk_R r.1 r.2.1 r.2.2 q.1 s ∧ va_O "java/lang/String" q.1 (fun q => s.heap.size ≤ q) s s.heap ∧ va_OF "java/lang/String" "coder" "B" (.int 0) q.1 (fun q => s.heap.size ≤ q) s s.heap ∧ va_OF "java/lang/String" "value" "[B" (.ref q.2) q.1 (fun q => s.heap.size ≤ q) s s.heap ∧ va_T .byte q.2 (az_byt r.2.2).length (fun j => .int ((az_byt r.2.2).getD j 0)) (fun q => s.heap.size ≤ q) s s.heap := by
    intro k
    cases hk : az_txt[k]? with
    | none => exact ⟨(0, 0), fun r h => nomatch h⟩
    | some r =>
      obtain ⟨g1, g2, g3⟩ := tx_all r (List.mem_of_getElem? hk)
      obtain ⟨q, hq⟩ := tx_of (A := fun q => s.heap.size ≤ q) hA (hts _ g2) (fun w hw => hn w (g1 w hw)) g3
      exact ⟨q, fun r' e => (by cases e; exact hq)⟩
  obtain ⟨ad, had⟩ := Classical.axiomOfChoice h0
  have hc : va_Z "java/lang/String" "COMPACT_STRINGS" "Z" (.int 1) (fun q => s.heap.size ≤ q) s s.heap := va_Zof (hts _ (tx_m2 213 (by decide +kernel))) (hts _ (tx_m1 15 (by decide +kernel))) (va_eqi (hn _ (List.mem_of_getElem? (i := 4) (by decide +kernel)))) hA
  have hf := va_Zqof (A := fun q => s.heap.size ≤ q) (hts (.laysStatic "jdk/internal/util/Preconditions" "SIOOBE_FORMATTER" "Ljava/util/function/BiFunction;") (tx_m3 14 (by decide +kernel))) (hts (.initialized "jdk/internal/util/Preconditions") (tx_m1 18 (by decide +kernel))) (hn _ (List.mem_of_getElem? (i := 5) (by decide +kernel))) hA
  obtain ⟨t9, hf9⟩ : ∃ t9 : Nat, va_Z "jdk/internal/util/Preconditions" "SIOOBE_FORMATTER" "Ljava/util/function/BiFunction;" .null (fun q => s.heap.size ≤ q) s s.heap ∨ va_Z "jdk/internal/util/Preconditions" "SIOOBE_FORMATTER" "Ljava/util/function/BiFunction;" (.ref t9) (fun q => s.heap.size ≤ q) s s.heap := by
    rcases hf with h | ⟨t, h⟩
    · exact ⟨0, Or.inl h⟩
    · exact ⟨t, Or.inr h⟩
  refine ⟨fun k => if k = 45 then b else if k = 44 then t9 else if k % 2 = 0 then (ad (k / 2)).1 else (ad (k / 2)).2, rfl, fun k r hk => ?_, hc, hf9⟩
  have hlt : k < 22 := (List.getElem?_eq_some_iff.mp hk).1
  have e1 : (if 2 * k = 45 then b else if 2 * k = 44 then t9 else if 2 * k % 2 = 0 then (ad (2 * k / 2)).1 else (ad (2 * k / 2)).2) = (ad k).1 := by
    rw [if_neg (by omega), if_neg (by omega), if_pos (by omega), show 2 * k / 2 = k by omega]
  have e2 : (if 2 * k + 1 = 45 then b else if 2 * k + 1 = 44 then t9 else if (2 * k + 1) % 2 = 0 then (ad ((2 * k + 1) / 2)).1 else (ad ((2 * k + 1) / 2)).2) = (ad k).2 := by
    rw [if_neg (by omega), if_neg (by omega), if_neg (by omega), show (2 * k + 1) / 2 = k by omega]
  dsimp only
  rw [e1, e2]
  exact had k r hk
