/-! Reader: advance -/
theorem rd_kA_0 {b : Nat → Nat} {n a : Nat} (h : n ≤ a) : rd_kA b n a = 0 := if_pos h
theorem rd_kA_1 {b : Nat → Nat} {n a : Nat} (h : a < n) (h1 : 97 ≤ b a ∧ b a ≤ 122) : rd_kA b n a = 1 ∧ rd_eA b n a = rd_ro b 97 122 (n - (a + 1)) (a + 1) := by
  unfold rd_kA rd_eA
  rw [if_neg (by omega), if_pos h1, if_neg (by omega), if_pos h1]
  exact ⟨rfl, rfl⟩
theorem rd_kA_2 {b : Nat → Nat} {n a : Nat} (h : a < n) (h1 : 48 ≤ b a ∧ b a ≤ 57) : rd_kA b n a = (if 3 < rd_eA b n a - a then 4 else 2) ∧ rd_eA b n a = rd_ro b 48 57 (n - (a + 1)) (a + 1) := by
  unfold rd_kA
  rw [if_neg (by omega), if_neg (by omega), if_pos h1]
  refine ⟨rfl, ?_⟩
  unfold rd_eA
  rw [if_neg (by omega), if_neg (by omega), if_pos h1]
theorem rd_kA_3 {b : Nat → Nat} {n a : Nat} (h : a < n) (h1 : ¬ (97 ≤ b a ∧ b a ≤ 122)) (h2 : ¬ (48 ≤ b a ∧ b a ≤ 57)) : rd_kA b n a = (if rd_sg (b a) then 3 else 4) ∧ rd_eA b n a = a + 1 := by
  constructor
  · unfold rd_kA
    rw [if_neg (by omega), if_neg h1, if_neg h2]
  · unfold rd_eA
    rw [if_neg (by omega), if_neg h1, if_neg h2]
set_option maxHeartbeats 8000000 in
set_option maxRecDepth 100000 in
theorem s_advance {d q tx n z0 : Nat} {b : Nat → Nat} {tf : Nat → Int32} {fa fp ki aa cd : Value} {va : Int32} {hp : az_Hp} {Q : Option Value → az_Hp → Prop} (hd : 5 ≤ d) (hb : ∀ j, b j < 256) (hn : n ≤ 900) (ht : hp.2 tx = some (az_Y 900 tf)) (hq : tx ≠ q) (htf : ∀ j, j < n → tf j = bI (b j)) (h0 : hp.2 q = some (az_O 4 [fa, fp, .ref tx, .int (nI n), ki, aa, .int (nI z0), .int va, .ref (q + 2), .ref (q + 3), cd])) (hz : z0 ≤ n) (hQ : ∀ va, (rd_kd b n z0 = 2 → va = nI (rd_va b n z0)) → Q none (az_up hp q (az_O 4 [fa, fp, .ref tx, .int (nI n), .int (nI (rd_kd b n z0)), .int (nI (rd_fr b n z0)), .int (nI (rd_en b n z0)), .int va, .ref (q + 2), .ref (q + 3), cd]))) : az_M mX5_advance d 0 0 [.ref q] hp Q := by
  have g76 : ∀ (k : Nat) (a : Nat), 0 = k → (a < n) → (rd_fr b n z0 = a) → az_W mX5_advance d 0 0 76 [(0, .ref q), (1, .int (nI a))] [] (az_up hp q (az_O 4 [fa, fp, .ref tx, .int (nI n), ki, .int (nI a), .int (nI (a + 1)), .int va, .ref (q + 2), .ref (q + 3), cd])) Q := by
    intro k
    induction k using Nat.strongRecOn with
    | _ k ih =>
    intro a hk ha9 ha
    have hQ' := hQ
    rw [show rd_kd b n z0 = rd_kA b n a by (unfold rd_kd; rw [ha]), show rd_va b n z0 = rd_nu b a (rd_eA b n a - a) by (unfold rd_va rd_en; rw [ha]), show rd_en b n z0 = rd_eA b n a by (unfold rd_en; rw [ha]), ha] at hQ'
    refine az_aload_n dX5_advance_76 ?_
    refine az_getf (v := .ref tx) dX5_advance_77 fl_X5_18 az_up_eq ?_
    refine az_iload_n dX5_advance_80 ?_
    refine az_baldN (j := a) dX5_advance_81 (az_up_ne ht) ?_
    rw [htf a (by omega)]
    refine az_bipush (v := nI 97) dX5_advance_82 ?_
    refine az_icmp_lt (tgt := 114) dX5_advance_84 (fun c84 => ?_) (fun c84 => ?_)
    · have hNL : ¬ (97 ≤ b a ∧ b a ≤ 122) := (by first | (rw [bI_lt (hb a) (by omega)] at c84; omega) | (rw [bI_gt (hb a) (by omega)] at c95; omega))
      refine az_aload_n dX5_advance_114 ?_
      refine az_getf (v := .ref tx) dX5_advance_115 fl_X5_18 az_up_eq ?_
      refine az_iload_n dX5_advance_118 ?_
      refine az_baldN (j := a) dX5_advance_119 (az_up_ne ht) ?_
      rw [htf a (by omega)]
      refine az_bipush (v := nI 48) dX5_advance_120 ?_
      refine az_icmp_lt (tgt := 173) dX5_advance_122 (fun c122 => ?_) (fun c122 => ?_)
      · have hND : ¬ (48 ≤ b a ∧ b a ≤ 57) := (by first | (rw [bI_lt (hb a) (by omega)] at c122; omega) | (rw [bI_gt (hb a) (by omega)] at c133; omega))
        refine az_aload_n dX5_advance_173 ?_
        refine az_aload_n dX5_advance_174 ?_
        refine az_getf (v := .ref tx) dX5_advance_175 fl_X5_18 az_up_eq ?_
        refine az_iload_n dX5_advance_178 ?_
        refine az_baldN (j := a) dX5_advance_179 (az_up_ne ht) ?_
        rw [htf a (by omega)]
        refine az_if_le (tgt := 202) dX5_advance_180 (fun c180 => ?_) (fun c180 => ?_)
        · refine az_iconst (v := nI 4) dX5_advance_202 ?_
          refine az_putf (fs' := [fa, fp, .ref tx, .int (nI n), .int (nI 4), .int (nI a), .int (nI (a + 1)), .int va, .ref (q + 2), .ref (q + 3), cd]) dX5_advance_203 fl_X5_51 az_up_eq ?_
          exact az_vret dX5_advance_206 (by (try rw [az_up_up]); first | exact absurd c195 (by omega) | exact absurd c195 (by decide) | (have hA := rd_kA_1 ha9 hL; rw [hA.1, hA.2, ← hz9] at hQ'; exact hQ' va (fun h => absurd h (by omega))) | (obtain ⟨hA1, hA2⟩ := rd_kA_2 ha9 hD; rw [← hz9] at hA2; rw [hA2] at hA1 hQ'; first | (rw [hA1, if_pos (by omega)] at hQ'; exact hQ' va' (fun h => absurd h (by omega))) | (rw [hA1, if_neg (by omega)] at hQ'; exact hQ' va' hva')) | (have hA := rd_kA_3 ha9 hNL hND; rw [hA.1, hA.2] at hQ'; first | (rw [if_pos (by rw [← he]; exact rd_sg_a j hj)] at hQ'; exact hQ' va (fun h => absurd h (by omega))) | (rw [if_neg (rd_sg_n hno)] at hQ'; exact hQ' va (fun h => absurd h (by omega))) | (rw [if_neg (by have h9 : bI (b a) ≤ nI 0 := c180; rw [bI_le (hb a) (by omega)] at h9; omega)] at hQ'; exact hQ' va (fun h => absurd h (by omega)))))
        · have hp9 : b a < 128 ∧ 0 < b a := (by have h9 : nI 0 < bI (b a) := Int32.not_le.mp c180; rw [bI_gt (hb a) (by omega)] at h9; omega)
          refine az_ldcS (k := 0) dX5_advance_183 rfl rfl rfl ?_
          refine az_aload_n dX5_advance_185 ?_
          refine az_getf (v := .ref tx) dX5_advance_186 fl_X5_18 az_up_eq ?_
          refine az_iload_n dX5_advance_189 ?_
          refine az_baldN (j := a) dX5_advance_190 (az_up_ne ht) ?_
          rw [htf a (by omega), bI_nI hp9.1]
          refine az_i2c dX5_advance_191 ?_
          rw [st_c1 hp9.1]
          refine az_cVS (st := [.ref q]) dX5_advance_192 sv_R_225 rfl rfl (s_indexOf (d := d - 1) (k := 0) (r := ("LetterNights$Reader", 223, ";:+-*()[]=<>")) (by omega) rfl (by decide +kernel) hp9.1 ?_ ?_)
          · intro j hj he
            have hj9 : j < 128 := Nat.lt_trans hj (by decide +kernel)
            refine az_if_ltN (tgt := 202) dX5_advance_195 (fun c195 => ?_) (fun c195 => ?_)
            · refine az_iconst (v := nI 4) dX5_advance_202 ?_
              refine az_putf (fs' := [fa, fp, .ref tx, .int (nI n), .int (nI 4), .int (nI a), .int (nI (a + 1)), .int va, .ref (q + 2), .ref (q + 3), cd]) dX5_advance_203 fl_X5_51 az_up_eq ?_
              exact az_vret dX5_advance_206 (by (try rw [az_up_up]); first | exact absurd c195 (by omega) | exact absurd c195 (by decide) | (have hA := rd_kA_1 ha9 hL; rw [hA.1, hA.2, ← hz9] at hQ'; exact hQ' va (fun h => absurd h (by omega))) | (obtain ⟨hA1, hA2⟩ := rd_kA_2 ha9 hD; rw [← hz9] at hA2; rw [hA2] at hA1 hQ'; first | (rw [hA1, if_pos (by omega)] at hQ'; exact hQ' va' (fun h => absurd h (by omega))) | (rw [hA1, if_neg (by omega)] at hQ'; exact hQ' va' hva')) | (have hA := rd_kA_3 ha9 hNL hND; rw [hA.1, hA.2] at hQ'; first | (rw [if_pos (by rw [← he]; exact rd_sg_a j hj)] at hQ'; exact hQ' va (fun h => absurd h (by omega))) | (rw [if_neg (rd_sg_n hno)] at hQ'; exact hQ' va (fun h => absurd h (by omega))) | (rw [if_neg (by have h9 : bI (b a) ≤ nI 0 := c180; rw [bI_le (hb a) (by omega)] at h9; omega)] at hQ'; exact hQ' va (fun h => absurd h (by omega)))))
            · refine az_iconst (v := nI 3) dX5_advance_198 ?_
              refine az_goto (tgt := 203) dX5_advance_199 ?_
              refine az_putf (fs' := [fa, fp, .ref tx, .int (nI n), .int (nI 3), .int (nI a), .int (nI (a + 1)), .int va, .ref (q + 2), .ref (q + 3), cd]) dX5_advance_203 fl_X5_51 az_up_eq ?_
              exact az_vret dX5_advance_206 (by (try rw [az_up_up]); first | exact absurd c195 (by omega) | exact absurd c195 (by decide) | (have hA := rd_kA_1 ha9 hL; rw [hA.1, hA.2, ← hz9] at hQ'; exact hQ' va (fun h => absurd h (by omega))) | (obtain ⟨hA1, hA2⟩ := rd_kA_2 ha9 hD; rw [← hz9] at hA2; rw [hA2] at hA1 hQ'; first | (rw [hA1, if_pos (by omega)] at hQ'; exact hQ' va' (fun h => absurd h (by omega))) | (rw [hA1, if_neg (by omega)] at hQ'; exact hQ' va' hva')) | (have hA := rd_kA_3 ha9 hNL hND; rw [hA.1, hA.2] at hQ'; first | (rw [if_pos (by rw [← he]; exact rd_sg_a j hj)] at hQ'; exact hQ' va (fun h => absurd h (by omega))) | (rw [if_neg (rd_sg_n hno)] at hQ'; exact hQ' va (fun h => absurd h (by omega))) | (rw [if_neg (by have h9 : bI (b a) ≤ nI 0 := c180; rw [bI_le (hb a) (by omega)] at h9; omega)] at hQ'; exact hQ' va (fun h => absurd h (by omega)))))
          · intro hno
            refine az_if_lt (tgt := 202) dX5_advance_195 (fun c195 => ?_) (fun c195 => ?_)
            · refine az_iconst (v := nI 4) dX5_advance_202 ?_
              refine az_putf (fs' := [fa, fp, .ref tx, .int (nI n), .int (nI 4), .int (nI a), .int (nI (a + 1)), .int va, .ref (q + 2), .ref (q + 3), cd]) dX5_advance_203 fl_X5_51 az_up_eq ?_
              exact az_vret dX5_advance_206 (by (try rw [az_up_up]); first | exact absurd c195 (by omega) | exact absurd c195 (by decide) | (have hA := rd_kA_1 ha9 hL; rw [hA.1, hA.2, ← hz9] at hQ'; exact hQ' va (fun h => absurd h (by omega))) | (obtain ⟨hA1, hA2⟩ := rd_kA_2 ha9 hD; rw [← hz9] at hA2; rw [hA2] at hA1 hQ'; first | (rw [hA1, if_pos (by omega)] at hQ'; exact hQ' va' (fun h => absurd h (by omega))) | (rw [hA1, if_neg (by omega)] at hQ'; exact hQ' va' hva')) | (have hA := rd_kA_3 ha9 hNL hND; rw [hA.1, hA.2] at hQ'; first | (rw [if_pos (by rw [← he]; exact rd_sg_a j hj)] at hQ'; exact hQ' va (fun h => absurd h (by omega))) | (rw [if_neg (rd_sg_n hno)] at hQ'; exact hQ' va (fun h => absurd h (by omega))) | (rw [if_neg (by have h9 : bI (b a) ≤ nI 0 := c180; rw [bI_le (hb a) (by omega)] at h9; omega)] at hQ'; exact hQ' va (fun h => absurd h (by omega)))))
            · refine az_iconst (v := nI 3) dX5_advance_198 ?_
              refine az_goto (tgt := 203) dX5_advance_199 ?_
              refine az_putf (fs' := [fa, fp, .ref tx, .int (nI n), .int (nI 3), .int (nI a), .int (nI (a + 1)), .int va, .ref (q + 2), .ref (q + 3), cd]) dX5_advance_203 fl_X5_51 az_up_eq ?_
              exact az_vret dX5_advance_206 (by (try rw [az_up_up]); first | exact absurd c195 (by omega) | exact absurd c195 (by decide) | (have hA := rd_kA_1 ha9 hL; rw [hA.1, hA.2, ← hz9] at hQ'; exact hQ' va (fun h => absurd h (by omega))) | (obtain ⟨hA1, hA2⟩ := rd_kA_2 ha9 hD; rw [← hz9] at hA2; rw [hA2] at hA1 hQ'; first | (rw [hA1, if_pos (by omega)] at hQ'; exact hQ' va' (fun h => absurd h (by omega))) | (rw [hA1, if_neg (by omega)] at hQ'; exact hQ' va' hva')) | (have hA := rd_kA_3 ha9 hNL hND; rw [hA.1, hA.2] at hQ'; first | (rw [if_pos (by rw [← he]; exact rd_sg_a j hj)] at hQ'; exact hQ' va (fun h => absurd h (by omega))) | (rw [if_neg (rd_sg_n hno)] at hQ'; exact hQ' va (fun h => absurd h (by omega))) | (rw [if_neg (by have h9 : bI (b a) ≤ nI 0 := c180; rw [bI_le (hb a) (by omega)] at h9; omega)] at hQ'; exact hQ' va (fun h => absurd h (by omega)))))
      · refine az_aload_n dX5_advance_125 ?_
        refine az_getf (v := .ref tx) dX5_advance_126 fl_X5_18 az_up_eq ?_
        refine az_iload_n dX5_advance_129 ?_
        refine az_baldN (j := a) dX5_advance_130 (az_up_ne ht) ?_
        rw [htf a (by omega)]
        refine az_bipush (v := nI 57) dX5_advance_131 ?_
        refine az_icmp_gt (tgt := 173) dX5_advance_133 (fun c133 => ?_) (fun c133 => ?_)
        · have hND : ¬ (48 ≤ b a ∧ b a ≤ 57) := (by first | (rw [bI_lt (hb a) (by omega)] at c122; omega) | (rw [bI_gt (hb a) (by omega)] at c133; omega))
          refine az_aload_n dX5_advance_173 ?_
          refine az_aload_n dX5_advance_174 ?_
          refine az_getf (v := .ref tx) dX5_advance_175 fl_X5_18 az_up_eq ?_
          refine az_iload_n dX5_advance_178 ?_
          refine az_baldN (j := a) dX5_advance_179 (az_up_ne ht) ?_
          rw [htf a (by omega)]
          refine az_if_le (tgt := 202) dX5_advance_180 (fun c180 => ?_) (fun c180 => ?_)
          · refine az_iconst (v := nI 4) dX5_advance_202 ?_
            refine az_putf (fs' := [fa, fp, .ref tx, .int (nI n), .int (nI 4), .int (nI a), .int (nI (a + 1)), .int va, .ref (q + 2), .ref (q + 3), cd]) dX5_advance_203 fl_X5_51 az_up_eq ?_
            exact az_vret dX5_advance_206 (by (try rw [az_up_up]); first | exact absurd c195 (by omega) | exact absurd c195 (by decide) | (have hA := rd_kA_1 ha9 hL; rw [hA.1, hA.2, ← hz9] at hQ'; exact hQ' va (fun h => absurd h (by omega))) | (obtain ⟨hA1, hA2⟩ := rd_kA_2 ha9 hD; rw [← hz9] at hA2; rw [hA2] at hA1 hQ'; first | (rw [hA1, if_pos (by omega)] at hQ'; exact hQ' va' (fun h => absurd h (by omega))) | (rw [hA1, if_neg (by omega)] at hQ'; exact hQ' va' hva')) | (have hA := rd_kA_3 ha9 hNL hND; rw [hA.1, hA.2] at hQ'; first | (rw [if_pos (by rw [← he]; exact rd_sg_a j hj)] at hQ'; exact hQ' va (fun h => absurd h (by omega))) | (rw [if_neg (rd_sg_n hno)] at hQ'; exact hQ' va (fun h => absurd h (by omega))) | (rw [if_neg (by have h9 : bI (b a) ≤ nI 0 := c180; rw [bI_le (hb a) (by omega)] at h9; omega)] at hQ'; exact hQ' va (fun h => absurd h (by omega)))))
          · have hp9 : b a < 128 ∧ 0 < b a := (by have h9 : nI 0 < bI (b a) := Int32.not_le.mp c180; rw [bI_gt (hb a) (by omega)] at h9; omega)
            refine az_ldcS (k := 0) dX5_advance_183 rfl rfl rfl ?_
            refine az_aload_n dX5_advance_185 ?_
            refine az_getf (v := .ref tx) dX5_advance_186 fl_X5_18 az_up_eq ?_
            refine az_iload_n dX5_advance_189 ?_
            refine az_baldN (j := a) dX5_advance_190 (az_up_ne ht) ?_
            rw [htf a (by omega), bI_nI hp9.1]
            refine az_i2c dX5_advance_191 ?_
            rw [st_c1 hp9.1]
            refine az_cVS (st := [.ref q]) dX5_advance_192 sv_R_225 rfl rfl (s_indexOf (d := d - 1) (k := 0) (r := ("LetterNights$Reader", 223, ";:+-*()[]=<>")) (by omega) rfl (by decide +kernel) hp9.1 ?_ ?_)
            · intro j hj he
              have hj9 : j < 128 := Nat.lt_trans hj (by decide +kernel)
              refine az_if_ltN (tgt := 202) dX5_advance_195 (fun c195 => ?_) (fun c195 => ?_)
              · refine az_iconst (v := nI 4) dX5_advance_202 ?_
                refine az_putf (fs' := [fa, fp, .ref tx, .int (nI n), .int (nI 4), .int (nI a), .int (nI (a + 1)), .int va, .ref (q + 2), .ref (q + 3), cd]) dX5_advance_203 fl_X5_51 az_up_eq ?_
                exact az_vret dX5_advance_206 (by (try rw [az_up_up]); first | exact absurd c195 (by omega) | exact absurd c195 (by decide) | (have hA := rd_kA_1 ha9 hL; rw [hA.1, hA.2, ← hz9] at hQ'; exact hQ' va (fun h => absurd h (by omega))) | (obtain ⟨hA1, hA2⟩ := rd_kA_2 ha9 hD; rw [← hz9] at hA2; rw [hA2] at hA1 hQ'; first | (rw [hA1, if_pos (by omega)] at hQ'; exact hQ' va' (fun h => absurd h (by omega))) | (rw [hA1, if_neg (by omega)] at hQ'; exact hQ' va' hva')) | (have hA := rd_kA_3 ha9 hNL hND; rw [hA.1, hA.2] at hQ'; first | (rw [if_pos (by rw [← he]; exact rd_sg_a j hj)] at hQ'; exact hQ' va (fun h => absurd h (by omega))) | (rw [if_neg (rd_sg_n hno)] at hQ'; exact hQ' va (fun h => absurd h (by omega))) | (rw [if_neg (by have h9 : bI (b a) ≤ nI 0 := c180; rw [bI_le (hb a) (by omega)] at h9; omega)] at hQ'; exact hQ' va (fun h => absurd h (by omega)))))
              · refine az_iconst (v := nI 3) dX5_advance_198 ?_
                refine az_goto (tgt := 203) dX5_advance_199 ?_
                refine az_putf (fs' := [fa, fp, .ref tx, .int (nI n), .int (nI 3), .int (nI a), .int (nI (a + 1)), .int va, .ref (q + 2), .ref (q + 3), cd]) dX5_advance_203 fl_X5_51 az_up_eq ?_
                exact az_vret dX5_advance_206 (by (try rw [az_up_up]); first | exact absurd c195 (by omega) | exact absurd c195 (by decide) | (have hA := rd_kA_1 ha9 hL; rw [hA.1, hA.2, ← hz9] at hQ'; exact hQ' va (fun h => absurd h (by omega))) | (obtain ⟨hA1, hA2⟩ := rd_kA_2 ha9 hD; rw [← hz9] at hA2; rw [hA2] at hA1 hQ'; first | (rw [hA1, if_pos (by omega)] at hQ'; exact hQ' va' (fun h => absurd h (by omega))) | (rw [hA1, if_neg (by omega)] at hQ'; exact hQ' va' hva')) | (have hA := rd_kA_3 ha9 hNL hND; rw [hA.1, hA.2] at hQ'; first | (rw [if_pos (by rw [← he]; exact rd_sg_a j hj)] at hQ'; exact hQ' va (fun h => absurd h (by omega))) | (rw [if_neg (rd_sg_n hno)] at hQ'; exact hQ' va (fun h => absurd h (by omega))) | (rw [if_neg (by have h9 : bI (b a) ≤ nI 0 := c180; rw [bI_le (hb a) (by omega)] at h9; omega)] at hQ'; exact hQ' va (fun h => absurd h (by omega)))))
            · intro hno
              refine az_if_lt (tgt := 202) dX5_advance_195 (fun c195 => ?_) (fun c195 => ?_)
              · refine az_iconst (v := nI 4) dX5_advance_202 ?_
                refine az_putf (fs' := [fa, fp, .ref tx, .int (nI n), .int (nI 4), .int (nI a), .int (nI (a + 1)), .int va, .ref (q + 2), .ref (q + 3), cd]) dX5_advance_203 fl_X5_51 az_up_eq ?_
                exact az_vret dX5_advance_206 (by (try rw [az_up_up]); first | exact absurd c195 (by omega) | exact absurd c195 (by decide) | (have hA := rd_kA_1 ha9 hL; rw [hA.1, hA.2, ← hz9] at hQ'; exact hQ' va (fun h => absurd h (by omega))) | (obtain ⟨hA1, hA2⟩ := rd_kA_2 ha9 hD; rw [← hz9] at hA2; rw [hA2] at hA1 hQ'; first | (rw [hA1, if_pos (by omega)] at hQ'; exact hQ' va' (fun h => absurd h (by omega))) | (rw [hA1, if_neg (by omega)] at hQ'; exact hQ' va' hva')) | (have hA := rd_kA_3 ha9 hNL hND; rw [hA.1, hA.2] at hQ'; first | (rw [if_pos (by rw [← he]; exact rd_sg_a j hj)] at hQ'; exact hQ' va (fun h => absurd h (by omega))) | (rw [if_neg (rd_sg_n hno)] at hQ'; exact hQ' va (fun h => absurd h (by omega))) | (rw [if_neg (by have h9 : bI (b a) ≤ nI 0 := c180; rw [bI_le (hb a) (by omega)] at h9; omega)] at hQ'; exact hQ' va (fun h => absurd h (by omega)))))
              · refine az_iconst (v := nI 3) dX5_advance_198 ?_
                refine az_goto (tgt := 203) dX5_advance_199 ?_
                refine az_putf (fs' := [fa, fp, .ref tx, .int (nI n), .int (nI 3), .int (nI a), .int (nI (a + 1)), .int va, .ref (q + 2), .ref (q + 3), cd]) dX5_advance_203 fl_X5_51 az_up_eq ?_
                exact az_vret dX5_advance_206 (by (try rw [az_up_up]); first | exact absurd c195 (by omega) | exact absurd c195 (by decide) | (have hA := rd_kA_1 ha9 hL; rw [hA.1, hA.2, ← hz9] at hQ'; exact hQ' va (fun h => absurd h (by omega))) | (obtain ⟨hA1, hA2⟩ := rd_kA_2 ha9 hD; rw [← hz9] at hA2; rw [hA2] at hA1 hQ'; first | (rw [hA1, if_pos (by omega)] at hQ'; exact hQ' va' (fun h => absurd h (by omega))) | (rw [hA1, if_neg (by omega)] at hQ'; exact hQ' va' hva')) | (have hA := rd_kA_3 ha9 hNL hND; rw [hA.1, hA.2] at hQ'; first | (rw [if_pos (by rw [← he]; exact rd_sg_a j hj)] at hQ'; exact hQ' va (fun h => absurd h (by omega))) | (rw [if_neg (rd_sg_n hno)] at hQ'; exact hQ' va (fun h => absurd h (by omega))) | (rw [if_neg (by have h9 : bI (b a) ≤ nI 0 := c180; rw [bI_le (hb a) (by omega)] at h9; omega)] at hQ'; exact hQ' va (fun h => absurd h (by omega)))))
        · have hD : 48 ≤ b a ∧ b a ≤ 57 := (by rw [bI_lt (hb a) (by omega)] at c122; rw [bI_gt (hb a) (by omega)] at c133; omega)
          refine az_aload_n dX5_advance_136 ?_
          refine az_bipush (v := nI 48) dX5_advance_137 ?_
          refine az_bipush (v := nI 57) dX5_advance_139 ?_
          refine az_cV0 (st := []) dX5_advance_141 ml_X5_216 az_up_eq (s_runOn (d := d - 1) (lo := 48) (hi := 57) hb hn (az_up_ne ht) hq htf az_up_eq (by omega) (by omega) (by omega) ?_)
          intro z hz9
          have hzl := rd_ro_le b 48 57 (n - (a + 1)) (a + 1)
          rw [← hz9] at hzl
          refine az_aload_n dX5_advance_144 ?_
          refine az_aload_n dX5_advance_145 ?_
          refine az_getf (v := .int (nI z)) dX5_advance_146 fl_X5_38 az_up_eq ?_
          refine az_aload_n dX5_advance_149 ?_
          refine az_getf (v := .int (nI a)) dX5_advance_150 fl_X5_204 az_up_eq ?_
          refine az_isubN dX5_advance_153 (by omega) ?_
          refine az_iconst (v := nI 3) dX5_advance_154 ?_
          refine az_icmp_leN (tgt := 162) dX5_advance_155 (fun c155 => ?_) (fun c155 => ?_)
          · refine az_iconst (v := nI 2) dX5_advance_162 ?_
            refine az_putf (fs' := [fa, fp, .ref tx, .int (nI n), .int (nI 2), .int (nI a), .int (nI z), .int va, .ref (q + 2), .ref (q + 3), cd]) dX5_advance_163 fl_X5_51 az_up_eq ?_
            rw [az_up_up]
            refine az_aload_n dX5_advance_166 ?_
            refine az_cV0 (st := []) dX5_advance_167 ml_X5_220 az_up_eq (s_worth (d := d - 1) (kd := 2) hn (az_up_ne (az_up_ne ht)) hq htf az_up_eq (by omega) (by omega) (by omega) (fun _ j q1 q2 => if e : j = a then (by rw [e]; exact hD) else rd_ro_in b 48 57 (n - (a + 1)) (a + 1) j (by omega) (by omega)) ?_)
            intro va' hva'
            rw [az_up_up]
            refine az_goto (tgt := 206) dX5_advance_170 ?_
            exact az_vret dX5_advance_206 (by (try rw [az_up_up]); first | exact absurd c195 (by omega) | exact absurd c195 (by decide) | (have hA := rd_kA_1 ha9 hL; rw [hA.1, hA.2, ← hz9] at hQ'; exact hQ' va (fun h => absurd h (by omega))) | (obtain ⟨hA1, hA2⟩ := rd_kA_2 ha9 hD; rw [← hz9] at hA2; rw [hA2] at hA1 hQ'; first | (rw [hA1, if_pos (by omega)] at hQ'; exact hQ' va' (fun h => absurd h (by omega))) | (rw [hA1, if_neg (by omega)] at hQ'; exact hQ' va' hva')) | (have hA := rd_kA_3 ha9 hNL hND; rw [hA.1, hA.2] at hQ'; first | (rw [if_pos (by rw [← he]; exact rd_sg_a j hj)] at hQ'; exact hQ' va (fun h => absurd h (by omega))) | (rw [if_neg (rd_sg_n hno)] at hQ'; exact hQ' va (fun h => absurd h (by omega))) | (rw [if_neg (by have h9 : bI (b a) ≤ nI 0 := c180; rw [bI_le (hb a) (by omega)] at h9; omega)] at hQ'; exact hQ' va (fun h => absurd h (by omega)))))
          · refine az_iconst (v := nI 4) dX5_advance_158 ?_
            refine az_goto (tgt := 163) dX5_advance_159 ?_
            refine az_putf (fs' := [fa, fp, .ref tx, .int (nI n), .int (nI 4), .int (nI a), .int (nI z), .int va, .ref (q + 2), .ref (q + 3), cd]) dX5_advance_163 fl_X5_51 az_up_eq ?_
            rw [az_up_up]
            refine az_aload_n dX5_advance_166 ?_
            refine az_cV0 (st := []) dX5_advance_167 ml_X5_220 az_up_eq (s_worth (d := d - 1) (kd := 4) hn (az_up_ne (az_up_ne ht)) hq htf az_up_eq (by omega) (by omega) (by omega) (fun _ j q1 q2 => if e : j = a then (by rw [e]; exact hD) else rd_ro_in b 48 57 (n - (a + 1)) (a + 1) j (by omega) (by omega)) ?_)
            intro va' hva'
            rw [az_up_up]
            refine az_goto (tgt := 206) dX5_advance_170 ?_
            exact az_vret dX5_advance_206 (by (try rw [az_up_up]); first | exact absurd c195 (by omega) | exact absurd c195 (by decide) | (have hA := rd_kA_1 ha9 hL; rw [hA.1, hA.2, ← hz9] at hQ'; exact hQ' va (fun h => absurd h (by omega))) | (obtain ⟨hA1, hA2⟩ := rd_kA_2 ha9 hD; rw [← hz9] at hA2; rw [hA2] at hA1 hQ'; first | (rw [hA1, if_pos (by omega)] at hQ'; exact hQ' va' (fun h => absurd h (by omega))) | (rw [hA1, if_neg (by omega)] at hQ'; exact hQ' va' hva')) | (have hA := rd_kA_3 ha9 hNL hND; rw [hA.1, hA.2] at hQ'; first | (rw [if_pos (by rw [← he]; exact rd_sg_a j hj)] at hQ'; exact hQ' va (fun h => absurd h (by omega))) | (rw [if_neg (rd_sg_n hno)] at hQ'; exact hQ' va (fun h => absurd h (by omega))) | (rw [if_neg (by have h9 : bI (b a) ≤ nI 0 := c180; rw [bI_le (hb a) (by omega)] at h9; omega)] at hQ'; exact hQ' va (fun h => absurd h (by omega)))))
    · refine az_aload_n dX5_advance_87 ?_
      refine az_getf (v := .ref tx) dX5_advance_88 fl_X5_18 az_up_eq ?_
      refine az_iload_n dX5_advance_91 ?_
      refine az_baldN (j := a) dX5_advance_92 (az_up_ne ht) ?_
      rw [htf a (by omega)]
      refine az_bipush (v := nI 122) dX5_advance_93 ?_
      refine az_icmp_gt (tgt := 114) dX5_advance_95 (fun c95 => ?_) (fun c95 => ?_)
      · have hNL : ¬ (97 ≤ b a ∧ b a ≤ 122) := (by first | (rw [bI_lt (hb a) (by omega)] at c84; omega) | (rw [bI_gt (hb a) (by omega)] at c95; omega))
        refine az_aload_n dX5_advance_114 ?_
        refine az_getf (v := .ref tx) dX5_advance_115 fl_X5_18 az_up_eq ?_
        refine az_iload_n dX5_advance_118 ?_
        refine az_baldN (j := a) dX5_advance_119 (az_up_ne ht) ?_
        rw [htf a (by omega)]
        refine az_bipush (v := nI 48) dX5_advance_120 ?_
        refine az_icmp_lt (tgt := 173) dX5_advance_122 (fun c122 => ?_) (fun c122 => ?_)
        · have hND : ¬ (48 ≤ b a ∧ b a ≤ 57) := (by first | (rw [bI_lt (hb a) (by omega)] at c122; omega) | (rw [bI_gt (hb a) (by omega)] at c133; omega))
          refine az_aload_n dX5_advance_173 ?_
          refine az_aload_n dX5_advance_174 ?_
          refine az_getf (v := .ref tx) dX5_advance_175 fl_X5_18 az_up_eq ?_
          refine az_iload_n dX5_advance_178 ?_
          refine az_baldN (j := a) dX5_advance_179 (az_up_ne ht) ?_
          rw [htf a (by omega)]
          refine az_if_le (tgt := 202) dX5_advance_180 (fun c180 => ?_) (fun c180 => ?_)
          · refine az_iconst (v := nI 4) dX5_advance_202 ?_
            refine az_putf (fs' := [fa, fp, .ref tx, .int (nI n), .int (nI 4), .int (nI a), .int (nI (a + 1)), .int va, .ref (q + 2), .ref (q + 3), cd]) dX5_advance_203 fl_X5_51 az_up_eq ?_
            exact az_vret dX5_advance_206 (by (try rw [az_up_up]); first | exact absurd c195 (by omega) | exact absurd c195 (by decide) | (have hA := rd_kA_1 ha9 hL; rw [hA.1, hA.2, ← hz9] at hQ'; exact hQ' va (fun h => absurd h (by omega))) | (obtain ⟨hA1, hA2⟩ := rd_kA_2 ha9 hD; rw [← hz9] at hA2; rw [hA2] at hA1 hQ'; first | (rw [hA1, if_pos (by omega)] at hQ'; exact hQ' va' (fun h => absurd h (by omega))) | (rw [hA1, if_neg (by omega)] at hQ'; exact hQ' va' hva')) | (have hA := rd_kA_3 ha9 hNL hND; rw [hA.1, hA.2] at hQ'; first | (rw [if_pos (by rw [← he]; exact rd_sg_a j hj)] at hQ'; exact hQ' va (fun h => absurd h (by omega))) | (rw [if_neg (rd_sg_n hno)] at hQ'; exact hQ' va (fun h => absurd h (by omega))) | (rw [if_neg (by have h9 : bI (b a) ≤ nI 0 := c180; rw [bI_le (hb a) (by omega)] at h9; omega)] at hQ'; exact hQ' va (fun h => absurd h (by omega)))))
          · have hp9 : b a < 128 ∧ 0 < b a := (by have h9 : nI 0 < bI (b a) := Int32.not_le.mp c180; rw [bI_gt (hb a) (by omega)] at h9; omega)
            refine az_ldcS (k := 0) dX5_advance_183 rfl rfl rfl ?_
            refine az_aload_n dX5_advance_185 ?_
            refine az_getf (v := .ref tx) dX5_advance_186 fl_X5_18 az_up_eq ?_
            refine az_iload_n dX5_advance_189 ?_
            refine az_baldN (j := a) dX5_advance_190 (az_up_ne ht) ?_
            rw [htf a (by omega), bI_nI hp9.1]
            refine az_i2c dX5_advance_191 ?_
            rw [st_c1 hp9.1]
            refine az_cVS (st := [.ref q]) dX5_advance_192 sv_R_225 rfl rfl (s_indexOf (d := d - 1) (k := 0) (r := ("LetterNights$Reader", 223, ";:+-*()[]=<>")) (by omega) rfl (by decide +kernel) hp9.1 ?_ ?_)
            · intro j hj he
              have hj9 : j < 128 := Nat.lt_trans hj (by decide +kernel)
              refine az_if_ltN (tgt := 202) dX5_advance_195 (fun c195 => ?_) (fun c195 => ?_)
              · refine az_iconst (v := nI 4) dX5_advance_202 ?_
                refine az_putf (fs' := [fa, fp, .ref tx, .int (nI n), .int (nI 4), .int (nI a), .int (nI (a + 1)), .int va, .ref (q + 2), .ref (q + 3), cd]) dX5_advance_203 fl_X5_51 az_up_eq ?_
                exact az_vret dX5_advance_206 (by (try rw [az_up_up]); first | exact absurd c195 (by omega) | exact absurd c195 (by decide) | (have hA := rd_kA_1 ha9 hL; rw [hA.1, hA.2, ← hz9] at hQ'; exact hQ' va (fun h => absurd h (by omega))) | (obtain ⟨hA1, hA2⟩ := rd_kA_2 ha9 hD; rw [← hz9] at hA2; rw [hA2] at hA1 hQ'; first | (rw [hA1, if_pos (by omega)] at hQ'; exact hQ' va' (fun h => absurd h (by omega))) | (rw [hA1, if_neg (by omega)] at hQ'; exact hQ' va' hva')) | (have hA := rd_kA_3 ha9 hNL hND; rw [hA.1, hA.2] at hQ'; first | (rw [if_pos (by rw [← he]; exact rd_sg_a j hj)] at hQ'; exact hQ' va (fun h => absurd h (by omega))) | (rw [if_neg (rd_sg_n hno)] at hQ'; exact hQ' va (fun h => absurd h (by omega))) | (rw [if_neg (by have h9 : bI (b a) ≤ nI 0 := c180; rw [bI_le (hb a) (by omega)] at h9; omega)] at hQ'; exact hQ' va (fun h => absurd h (by omega)))))
              · refine az_iconst (v := nI 3) dX5_advance_198 ?_
                refine az_goto (tgt := 203) dX5_advance_199 ?_
                refine az_putf (fs' := [fa, fp, .ref tx, .int (nI n), .int (nI 3), .int (nI a), .int (nI (a + 1)), .int va, .ref (q + 2), .ref (q + 3), cd]) dX5_advance_203 fl_X5_51 az_up_eq ?_
                exact az_vret dX5_advance_206 (by (try rw [az_up_up]); first | exact absurd c195 (by omega) | exact absurd c195 (by decide) | (have hA := rd_kA_1 ha9 hL; rw [hA.1, hA.2, ← hz9] at hQ'; exact hQ' va (fun h => absurd h (by omega))) | (obtain ⟨hA1, hA2⟩ := rd_kA_2 ha9 hD; rw [← hz9] at hA2; rw [hA2] at hA1 hQ'; first | (rw [hA1, if_pos (by omega)] at hQ'; exact hQ' va' (fun h => absurd h (by omega))) | (rw [hA1, if_neg (by omega)] at hQ'; exact hQ' va' hva')) | (have hA := rd_kA_3 ha9 hNL hND; rw [hA.1, hA.2] at hQ'; first | (rw [if_pos (by rw [← he]; exact rd_sg_a j hj)] at hQ'; exact hQ' va (fun h => absurd h (by omega))) | (rw [if_neg (rd_sg_n hno)] at hQ'; exact hQ' va (fun h => absurd h (by omega))) | (rw [if_neg (by have h9 : bI (b a) ≤ nI 0 := c180; rw [bI_le (hb a) (by omega)] at h9; omega)] at hQ'; exact hQ' va (fun h => absurd h (by omega)))))
            · intro hno
              refine az_if_lt (tgt := 202) dX5_advance_195 (fun c195 => ?_) (fun c195 => ?_)
              · refine az_iconst (v := nI 4) dX5_advance_202 ?_
                refine az_putf (fs' := [fa, fp, .ref tx, .int (nI n), .int (nI 4), .int (nI a), .int (nI (a + 1)), .int va, .ref (q + 2), .ref (q + 3), cd]) dX5_advance_203 fl_X5_51 az_up_eq ?_
                exact az_vret dX5_advance_206 (by (try rw [az_up_up]); first | exact absurd c195 (by omega) | exact absurd c195 (by decide) | (have hA := rd_kA_1 ha9 hL; rw [hA.1, hA.2, ← hz9] at hQ'; exact hQ' va (fun h => absurd h (by omega))) | (obtain ⟨hA1, hA2⟩ := rd_kA_2 ha9 hD; rw [← hz9] at hA2; rw [hA2] at hA1 hQ'; first | (rw [hA1, if_pos (by omega)] at hQ'; exact hQ' va' (fun h => absurd h (by omega))) | (rw [hA1, if_neg (by omega)] at hQ'; exact hQ' va' hva')) | (have hA := rd_kA_3 ha9 hNL hND; rw [hA.1, hA.2] at hQ'; first | (rw [if_pos (by rw [← he]; exact rd_sg_a j hj)] at hQ'; exact hQ' va (fun h => absurd h (by omega))) | (rw [if_neg (rd_sg_n hno)] at hQ'; exact hQ' va (fun h => absurd h (by omega))) | (rw [if_neg (by have h9 : bI (b a) ≤ nI 0 := c180; rw [bI_le (hb a) (by omega)] at h9; omega)] at hQ'; exact hQ' va (fun h => absurd h (by omega)))))
              · refine az_iconst (v := nI 3) dX5_advance_198 ?_
                refine az_goto (tgt := 203) dX5_advance_199 ?_
                refine az_putf (fs' := [fa, fp, .ref tx, .int (nI n), .int (nI 3), .int (nI a), .int (nI (a + 1)), .int va, .ref (q + 2), .ref (q + 3), cd]) dX5_advance_203 fl_X5_51 az_up_eq ?_
                exact az_vret dX5_advance_206 (by (try rw [az_up_up]); first | exact absurd c195 (by omega) | exact absurd c195 (by decide) | (have hA := rd_kA_1 ha9 hL; rw [hA.1, hA.2, ← hz9] at hQ'; exact hQ' va (fun h => absurd h (by omega))) | (obtain ⟨hA1, hA2⟩ := rd_kA_2 ha9 hD; rw [← hz9] at hA2; rw [hA2] at hA1 hQ'; first | (rw [hA1, if_pos (by omega)] at hQ'; exact hQ' va' (fun h => absurd h (by omega))) | (rw [hA1, if_neg (by omega)] at hQ'; exact hQ' va' hva')) | (have hA := rd_kA_3 ha9 hNL hND; rw [hA.1, hA.2] at hQ'; first | (rw [if_pos (by rw [← he]; exact rd_sg_a j hj)] at hQ'; exact hQ' va (fun h => absurd h (by omega))) | (rw [if_neg (rd_sg_n hno)] at hQ'; exact hQ' va (fun h => absurd h (by omega))) | (rw [if_neg (by have h9 : bI (b a) ≤ nI 0 := c180; rw [bI_le (hb a) (by omega)] at h9; omega)] at hQ'; exact hQ' va (fun h => absurd h (by omega)))))
        · refine az_aload_n dX5_advance_125 ?_
          refine az_getf (v := .ref tx) dX5_advance_126 fl_X5_18 az_up_eq ?_
          refine az_iload_n dX5_advance_129 ?_
          refine az_baldN (j := a) dX5_advance_130 (az_up_ne ht) ?_
          rw [htf a (by omega)]
          refine az_bipush (v := nI 57) dX5_advance_131 ?_
          refine az_icmp_gt (tgt := 173) dX5_advance_133 (fun c133 => ?_) (fun c133 => ?_)
          · have hND : ¬ (48 ≤ b a ∧ b a ≤ 57) := (by first | (rw [bI_lt (hb a) (by omega)] at c122; omega) | (rw [bI_gt (hb a) (by omega)] at c133; omega))
            refine az_aload_n dX5_advance_173 ?_
            refine az_aload_n dX5_advance_174 ?_
            refine az_getf (v := .ref tx) dX5_advance_175 fl_X5_18 az_up_eq ?_
            refine az_iload_n dX5_advance_178 ?_
            refine az_baldN (j := a) dX5_advance_179 (az_up_ne ht) ?_
            rw [htf a (by omega)]
            refine az_if_le (tgt := 202) dX5_advance_180 (fun c180 => ?_) (fun c180 => ?_)
            · refine az_iconst (v := nI 4) dX5_advance_202 ?_
              refine az_putf (fs' := [fa, fp, .ref tx, .int (nI n), .int (nI 4), .int (nI a), .int (nI (a + 1)), .int va, .ref (q + 2), .ref (q + 3), cd]) dX5_advance_203 fl_X5_51 az_up_eq ?_
              exact az_vret dX5_advance_206 (by (try rw [az_up_up]); first | exact absurd c195 (by omega) | exact absurd c195 (by decide) | (have hA := rd_kA_1 ha9 hL; rw [hA.1, hA.2, ← hz9] at hQ'; exact hQ' va (fun h => absurd h (by omega))) | (obtain ⟨hA1, hA2⟩ := rd_kA_2 ha9 hD; rw [← hz9] at hA2; rw [hA2] at hA1 hQ'; first | (rw [hA1, if_pos (by omega)] at hQ'; exact hQ' va' (fun h => absurd h (by omega))) | (rw [hA1, if_neg (by omega)] at hQ'; exact hQ' va' hva')) | (have hA := rd_kA_3 ha9 hNL hND; rw [hA.1, hA.2] at hQ'; first | (rw [if_pos (by rw [← he]; exact rd_sg_a j hj)] at hQ'; exact hQ' va (fun h => absurd h (by omega))) | (rw [if_neg (rd_sg_n hno)] at hQ'; exact hQ' va (fun h => absurd h (by omega))) | (rw [if_neg (by have h9 : bI (b a) ≤ nI 0 := c180; rw [bI_le (hb a) (by omega)] at h9; omega)] at hQ'; exact hQ' va (fun h => absurd h (by omega)))))
            · have hp9 : b a < 128 ∧ 0 < b a := (by have h9 : nI 0 < bI (b a) := Int32.not_le.mp c180; rw [bI_gt (hb a) (by omega)] at h9; omega)
              refine az_ldcS (k := 0) dX5_advance_183 rfl rfl rfl ?_
              refine az_aload_n dX5_advance_185 ?_
              refine az_getf (v := .ref tx) dX5_advance_186 fl_X5_18 az_up_eq ?_
              refine az_iload_n dX5_advance_189 ?_
              refine az_baldN (j := a) dX5_advance_190 (az_up_ne ht) ?_
              rw [htf a (by omega), bI_nI hp9.1]
              refine az_i2c dX5_advance_191 ?_
              rw [st_c1 hp9.1]
              refine az_cVS (st := [.ref q]) dX5_advance_192 sv_R_225 rfl rfl (s_indexOf (d := d - 1) (k := 0) (r := ("LetterNights$Reader", 223, ";:+-*()[]=<>")) (by omega) rfl (by decide +kernel) hp9.1 ?_ ?_)
              · intro j hj he
                have hj9 : j < 128 := Nat.lt_trans hj (by decide +kernel)
                refine az_if_ltN (tgt := 202) dX5_advance_195 (fun c195 => ?_) (fun c195 => ?_)
                · refine az_iconst (v := nI 4) dX5_advance_202 ?_
                  refine az_putf (fs' := [fa, fp, .ref tx, .int (nI n), .int (nI 4), .int (nI a), .int (nI (a + 1)), .int va, .ref (q + 2), .ref (q + 3), cd]) dX5_advance_203 fl_X5_51 az_up_eq ?_
                  exact az_vret dX5_advance_206 (by (try rw [az_up_up]); first | exact absurd c195 (by omega) | exact absurd c195 (by decide) | (have hA := rd_kA_1 ha9 hL; rw [hA.1, hA.2, ← hz9] at hQ'; exact hQ' va (fun h => absurd h (by omega))) | (obtain ⟨hA1, hA2⟩ := rd_kA_2 ha9 hD; rw [← hz9] at hA2; rw [hA2] at hA1 hQ'; first | (rw [hA1, if_pos (by omega)] at hQ'; exact hQ' va' (fun h => absurd h (by omega))) | (rw [hA1, if_neg (by omega)] at hQ'; exact hQ' va' hva')) | (have hA := rd_kA_3 ha9 hNL hND; rw [hA.1, hA.2] at hQ'; first | (rw [if_pos (by rw [← he]; exact rd_sg_a j hj)] at hQ'; exact hQ' va (fun h => absurd h (by omega))) | (rw [if_neg (rd_sg_n hno)] at hQ'; exact hQ' va (fun h => absurd h (by omega))) | (rw [if_neg (by have h9 : bI (b a) ≤ nI 0 := c180; rw [bI_le (hb a) (by omega)] at h9; omega)] at hQ'; exact hQ' va (fun h => absurd h (by omega)))))
                · refine az_iconst (v := nI 3) dX5_advance_198 ?_
                  refine az_goto (tgt := 203) dX5_advance_199 ?_
                  refine az_putf (fs' := [fa, fp, .ref tx, .int (nI n), .int (nI 3), .int (nI a), .int (nI (a + 1)), .int va, .ref (q + 2), .ref (q + 3), cd]) dX5_advance_203 fl_X5_51 az_up_eq ?_
                  exact az_vret dX5_advance_206 (by (try rw [az_up_up]); first | exact absurd c195 (by omega) | exact absurd c195 (by decide) | (have hA := rd_kA_1 ha9 hL; rw [hA.1, hA.2, ← hz9] at hQ'; exact hQ' va (fun h => absurd h (by omega))) | (obtain ⟨hA1, hA2⟩ := rd_kA_2 ha9 hD; rw [← hz9] at hA2; rw [hA2] at hA1 hQ'; first | (rw [hA1, if_pos (by omega)] at hQ'; exact hQ' va' (fun h => absurd h (by omega))) | (rw [hA1, if_neg (by omega)] at hQ'; exact hQ' va' hva')) | (have hA := rd_kA_3 ha9 hNL hND; rw [hA.1, hA.2] at hQ'; first | (rw [if_pos (by rw [← he]; exact rd_sg_a j hj)] at hQ'; exact hQ' va (fun h => absurd h (by omega))) | (rw [if_neg (rd_sg_n hno)] at hQ'; exact hQ' va (fun h => absurd h (by omega))) | (rw [if_neg (by have h9 : bI (b a) ≤ nI 0 := c180; rw [bI_le (hb a) (by omega)] at h9; omega)] at hQ'; exact hQ' va (fun h => absurd h (by omega)))))
              · intro hno
                refine az_if_lt (tgt := 202) dX5_advance_195 (fun c195 => ?_) (fun c195 => ?_)
                · refine az_iconst (v := nI 4) dX5_advance_202 ?_
                  refine az_putf (fs' := [fa, fp, .ref tx, .int (nI n), .int (nI 4), .int (nI a), .int (nI (a + 1)), .int va, .ref (q + 2), .ref (q + 3), cd]) dX5_advance_203 fl_X5_51 az_up_eq ?_
                  exact az_vret dX5_advance_206 (by (try rw [az_up_up]); first | exact absurd c195 (by omega) | exact absurd c195 (by decide) | (have hA := rd_kA_1 ha9 hL; rw [hA.1, hA.2, ← hz9] at hQ'; exact hQ' va (fun h => absurd h (by omega))) | (obtain ⟨hA1, hA2⟩ := rd_kA_2 ha9 hD; rw [← hz9] at hA2; rw [hA2] at hA1 hQ'; first | (rw [hA1, if_pos (by omega)] at hQ'; exact hQ' va' (fun h => absurd h (by omega))) | (rw [hA1, if_neg (by omega)] at hQ'; exact hQ' va' hva')) | (have hA := rd_kA_3 ha9 hNL hND; rw [hA.1, hA.2] at hQ'; first | (rw [if_pos (by rw [← he]; exact rd_sg_a j hj)] at hQ'; exact hQ' va (fun h => absurd h (by omega))) | (rw [if_neg (rd_sg_n hno)] at hQ'; exact hQ' va (fun h => absurd h (by omega))) | (rw [if_neg (by have h9 : bI (b a) ≤ nI 0 := c180; rw [bI_le (hb a) (by omega)] at h9; omega)] at hQ'; exact hQ' va (fun h => absurd h (by omega)))))
                · refine az_iconst (v := nI 3) dX5_advance_198 ?_
                  refine az_goto (tgt := 203) dX5_advance_199 ?_
                  refine az_putf (fs' := [fa, fp, .ref tx, .int (nI n), .int (nI 3), .int (nI a), .int (nI (a + 1)), .int va, .ref (q + 2), .ref (q + 3), cd]) dX5_advance_203 fl_X5_51 az_up_eq ?_
                  exact az_vret dX5_advance_206 (by (try rw [az_up_up]); first | exact absurd c195 (by omega) | exact absurd c195 (by decide) | (have hA := rd_kA_1 ha9 hL; rw [hA.1, hA.2, ← hz9] at hQ'; exact hQ' va (fun h => absurd h (by omega))) | (obtain ⟨hA1, hA2⟩ := rd_kA_2 ha9 hD; rw [← hz9] at hA2; rw [hA2] at hA1 hQ'; first | (rw [hA1, if_pos (by omega)] at hQ'; exact hQ' va' (fun h => absurd h (by omega))) | (rw [hA1, if_neg (by omega)] at hQ'; exact hQ' va' hva')) | (have hA := rd_kA_3 ha9 hNL hND; rw [hA.1, hA.2] at hQ'; first | (rw [if_pos (by rw [← he]; exact rd_sg_a j hj)] at hQ'; exact hQ' va (fun h => absurd h (by omega))) | (rw [if_neg (rd_sg_n hno)] at hQ'; exact hQ' va (fun h => absurd h (by omega))) | (rw [if_neg (by have h9 : bI (b a) ≤ nI 0 := c180; rw [bI_le (hb a) (by omega)] at h9; omega)] at hQ'; exact hQ' va (fun h => absurd h (by omega)))))
          · have hD : 48 ≤ b a ∧ b a ≤ 57 := (by rw [bI_lt (hb a) (by omega)] at c122; rw [bI_gt (hb a) (by omega)] at c133; omega)
            refine az_aload_n dX5_advance_136 ?_
            refine az_bipush (v := nI 48) dX5_advance_137 ?_
            refine az_bipush (v := nI 57) dX5_advance_139 ?_
            refine az_cV0 (st := []) dX5_advance_141 ml_X5_216 az_up_eq (s_runOn (d := d - 1) (lo := 48) (hi := 57) hb hn (az_up_ne ht) hq htf az_up_eq (by omega) (by omega) (by omega) ?_)
            intro z hz9
            have hzl := rd_ro_le b 48 57 (n - (a + 1)) (a + 1)
            rw [← hz9] at hzl
            refine az_aload_n dX5_advance_144 ?_
            refine az_aload_n dX5_advance_145 ?_
            refine az_getf (v := .int (nI z)) dX5_advance_146 fl_X5_38 az_up_eq ?_
            refine az_aload_n dX5_advance_149 ?_
            refine az_getf (v := .int (nI a)) dX5_advance_150 fl_X5_204 az_up_eq ?_
            refine az_isubN dX5_advance_153 (by omega) ?_
            refine az_iconst (v := nI 3) dX5_advance_154 ?_
            refine az_icmp_leN (tgt := 162) dX5_advance_155 (fun c155 => ?_) (fun c155 => ?_)
            · refine az_iconst (v := nI 2) dX5_advance_162 ?_
              refine az_putf (fs' := [fa, fp, .ref tx, .int (nI n), .int (nI 2), .int (nI a), .int (nI z), .int va, .ref (q + 2), .ref (q + 3), cd]) dX5_advance_163 fl_X5_51 az_up_eq ?_
              rw [az_up_up]
              refine az_aload_n dX5_advance_166 ?_
              refine az_cV0 (st := []) dX5_advance_167 ml_X5_220 az_up_eq (s_worth (d := d - 1) (kd := 2) hn (az_up_ne (az_up_ne ht)) hq htf az_up_eq (by omega) (by omega) (by omega) (fun _ j q1 q2 => if e : j = a then (by rw [e]; exact hD) else rd_ro_in b 48 57 (n - (a + 1)) (a + 1) j (by omega) (by omega)) ?_)
              intro va' hva'
              rw [az_up_up]
              refine az_goto (tgt := 206) dX5_advance_170 ?_
              exact az_vret dX5_advance_206 (by (try rw [az_up_up]); first | exact absurd c195 (by omega) | exact absurd c195 (by decide) | (have hA := rd_kA_1 ha9 hL; rw [hA.1, hA.2, ← hz9] at hQ'; exact hQ' va (fun h => absurd h (by omega))) | (obtain ⟨hA1, hA2⟩ := rd_kA_2 ha9 hD; rw [← hz9] at hA2; rw [hA2] at hA1 hQ'; first | (rw [hA1, if_pos (by omega)] at hQ'; exact hQ' va' (fun h => absurd h (by omega))) | (rw [hA1, if_neg (by omega)] at hQ'; exact hQ' va' hva')) | (have hA := rd_kA_3 ha9 hNL hND; rw [hA.1, hA.2] at hQ'; first | (rw [if_pos (by rw [← he]; exact rd_sg_a j hj)] at hQ'; exact hQ' va (fun h => absurd h (by omega))) | (rw [if_neg (rd_sg_n hno)] at hQ'; exact hQ' va (fun h => absurd h (by omega))) | (rw [if_neg (by have h9 : bI (b a) ≤ nI 0 := c180; rw [bI_le (hb a) (by omega)] at h9; omega)] at hQ'; exact hQ' va (fun h => absurd h (by omega)))))
            · refine az_iconst (v := nI 4) dX5_advance_158 ?_
              refine az_goto (tgt := 163) dX5_advance_159 ?_
              refine az_putf (fs' := [fa, fp, .ref tx, .int (nI n), .int (nI 4), .int (nI a), .int (nI z), .int va, .ref (q + 2), .ref (q + 3), cd]) dX5_advance_163 fl_X5_51 az_up_eq ?_
              rw [az_up_up]
              refine az_aload_n dX5_advance_166 ?_
              refine az_cV0 (st := []) dX5_advance_167 ml_X5_220 az_up_eq (s_worth (d := d - 1) (kd := 4) hn (az_up_ne (az_up_ne ht)) hq htf az_up_eq (by omega) (by omega) (by omega) (fun _ j q1 q2 => if e : j = a then (by rw [e]; exact hD) else rd_ro_in b 48 57 (n - (a + 1)) (a + 1) j (by omega) (by omega)) ?_)
              intro va' hva'
              rw [az_up_up]
              refine az_goto (tgt := 206) dX5_advance_170 ?_
              exact az_vret dX5_advance_206 (by (try rw [az_up_up]); first | exact absurd c195 (by omega) | exact absurd c195 (by decide) | (have hA := rd_kA_1 ha9 hL; rw [hA.1, hA.2, ← hz9] at hQ'; exact hQ' va (fun h => absurd h (by omega))) | (obtain ⟨hA1, hA2⟩ := rd_kA_2 ha9 hD; rw [← hz9] at hA2; rw [hA2] at hA1 hQ'; first | (rw [hA1, if_pos (by omega)] at hQ'; exact hQ' va' (fun h => absurd h (by omega))) | (rw [hA1, if_neg (by omega)] at hQ'; exact hQ' va' hva')) | (have hA := rd_kA_3 ha9 hNL hND; rw [hA.1, hA.2] at hQ'; first | (rw [if_pos (by rw [← he]; exact rd_sg_a j hj)] at hQ'; exact hQ' va (fun h => absurd h (by omega))) | (rw [if_neg (rd_sg_n hno)] at hQ'; exact hQ' va (fun h => absurd h (by omega))) | (rw [if_neg (by have h9 : bI (b a) ≤ nI 0 := c180; rw [bI_le (hb a) (by omega)] at h9; omega)] at hQ'; exact hQ' va (fun h => absurd h (by omega)))))
      · have hL : 97 ≤ b a ∧ b a ≤ 122 := (by rw [bI_lt (hb a) (by omega)] at c84; rw [bI_gt (hb a) (by omega)] at c95; omega)
        refine az_aload_n dX5_advance_98 ?_
        refine az_iconst (v := nI 1) dX5_advance_99 ?_
        refine az_putf (fs' := [fa, fp, .ref tx, .int (nI n), .int (nI 1), .int (nI a), .int (nI (a + 1)), .int va, .ref (q + 2), .ref (q + 3), cd]) dX5_advance_100 fl_X5_51 az_up_eq ?_
        refine az_aload_n dX5_advance_103 ?_
        refine az_bipush (v := nI 97) dX5_advance_104 ?_
        refine az_bipush (v := nI 122) dX5_advance_106 ?_
        refine az_cV0 (st := []) dX5_advance_108 ml_X5_216 az_up_eq (s_runOn (d := d - 1) (lo := 97) (hi := 122) hb hn (az_up_ne (az_up_ne ht)) hq htf az_up_eq (by omega) (by omega) (by omega) ?_)
        intro z hz9
        rw [az_up_up]
        refine az_goto (tgt := 206) dX5_advance_111 ?_
        exact az_vret dX5_advance_206 (by (try rw [az_up_up]); first | exact absurd c195 (by omega) | exact absurd c195 (by decide) | (have hA := rd_kA_1 ha9 hL; rw [hA.1, hA.2, ← hz9] at hQ'; exact hQ' va (fun h => absurd h (by omega))) | (obtain ⟨hA1, hA2⟩ := rd_kA_2 ha9 hD; rw [← hz9] at hA2; rw [hA2] at hA1 hQ'; first | (rw [hA1, if_pos (by omega)] at hQ'; exact hQ' va' (fun h => absurd h (by omega))) | (rw [hA1, if_neg (by omega)] at hQ'; exact hQ' va' hva')) | (have hA := rd_kA_3 ha9 hNL hND; rw [hA.1, hA.2] at hQ'; first | (rw [if_pos (by rw [← he]; exact rd_sg_a j hj)] at hQ'; exact hQ' va (fun h => absurd h (by omega))) | (rw [if_neg (rd_sg_n hno)] at hQ'; exact hQ' va (fun h => absurd h (by omega))) | (rw [if_neg (by have h9 : bI (b a) ≤ nI 0 := c180; rw [bI_le (hb a) (by omega)] at h9; omega)] at hQ'; exact hQ' va (fun h => absurd h (by omega)))))
  have mid : ∀ (k : Nat) (a : Nat), 0 = k → (a ≤ n) → (rd_fr b n z0 = a) → az_W mX5_advance d 0 0 41 [(0, .ref q), (1, .int (nI a))] [] hp Q := by
    intro k
    induction k using Nat.strongRecOn with
    | _ k ih =>
    intro a hk ha9 ha
    have hQ' := hQ
    rw [show rd_kd b n z0 = rd_kA b n a by (unfold rd_kd; rw [ha]), show rd_va b n z0 = rd_nu b a (rd_eA b n a - a) by (unfold rd_va rd_en; rw [ha]), show rd_en b n z0 = rd_eA b n a by (unfold rd_en; rw [ha]), ha] at hQ'
    refine az_aload_n dX5_advance_41 ?_
    refine az_iload_n dX5_advance_42 ?_
    refine az_putf (fs' := [fa, fp, .ref tx, .int (nI n), ki, .int (nI a), .int (nI z0), .int va, .ref (q + 2), .ref (q + 3), cd]) dX5_advance_43 fl_X5_204 h0 ?_
    refine az_aload_n dX5_advance_46 ?_
    refine az_iload_n dX5_advance_47 ?_
    refine az_iconst (v := nI 1) dX5_advance_48 ?_
    refine az_iaddN dX5_advance_49 ?_
    refine az_aload_n dX5_advance_50 ?_
    refine az_getf (v := .int (nI n)) dX5_advance_51 fl_X5_35 az_up_eq ?_
    refine az_mminN dX5_advance_54 ml_X5_29 ?_
    refine az_putf (fs' := [fa, fp, .ref tx, .int (nI n), ki, .int (nI a), .int (nI (min (a + 1) n)), .int va, .ref (q + 2), .ref (q + 3), cd]) dX5_advance_57 fl_X5_38 az_up_eq ?_
    rw [az_up_up]
    refine az_iload_n dX5_advance_60 ?_
    refine az_aload_n dX5_advance_61 ?_
    refine az_getf (v := .int (nI n)) dX5_advance_62 fl_X5_35 az_up_eq ?_
    refine az_icmp_ltN (tgt := 76) dX5_advance_65 (fun c65 => ?_) (fun c65 => ?_)
    · rw [show min (a + 1) n = a + 1 by omega]
      exact g76 _ a rfl (by omega) ha
    · refine az_aload_n dX5_advance_68 ?_
      refine az_iconst (v := nI 0) dX5_advance_69 ?_
      refine az_putf (fs' := [fa, fp, .ref tx, .int (nI n), .int (nI 0), .int (nI a), .int (nI (min (a + 1) n)), .int va, .ref (q + 2), .ref (q + 3), cd]) dX5_advance_70 fl_X5_51 az_up_eq ?_
      rw [az_up_up]
      refine az_goto (tgt := 206) dX5_advance_73 ?_
      exact az_vret dX5_advance_206 (by rw [rd_kA_0 (by omega), rd_eA_n (by omega)] at hQ'; rw [show min (a + 1) n = n by omega]; exact hQ' va (fun h => absurd h (by omega)))
  have sk : ∀ (k : Nat) (a : Nat), n - a = k → (a ≤ n) → (rd_sk b (n - a) a = rd_fr b n z0) → az_W mX5_advance d 0 0 5 [(0, .ref q), (1, .int (nI a))] [] hp Q := by
    intro k
    induction k using Nat.strongRecOn with
    | _ k ih =>
    intro a hk ha9 hR
    refine az_iload_n dX5_advance_5 ?_
    refine az_aload_n dX5_advance_6 ?_
    refine az_getf (v := .int (nI n)) dX5_advance_7 fl_X5_35 h0 ?_
    refine az_icmp_geN (tgt := 41) dX5_advance_10 (fun c10 => ?_) (fun c10 => ?_)
    · exact mid _ a rfl ha9 (by rw [← hR]; first | (rw [show n - a = 0 by omega, rd_sk]) | (rw [show n - a = (n - (a + 1)) + 1 by omega, rd_sk, if_neg (fun q9 => (by rw [bI_eq (hb a) (by omega)] at c21 c32; omega))]))
    · refine az_aload_n dX5_advance_13 ?_
      refine az_getf (v := .ref tx) dX5_advance_14 fl_X5_18 h0 ?_
      refine az_iload_n dX5_advance_17 ?_
      refine az_baldN (j := a) dX5_advance_18 ht ?_
      rw [htf a (by omega)]
      refine az_bipush (v := nI 32) dX5_advance_19 ?_
      refine az_icmp_eq (tgt := 35) dX5_advance_21 (fun c21 => ?_) (fun c21 => ?_)
      · refine az_iincN (n := 1) (ls' := [(0, .ref q), (1, .int (nI (a + 1)))]) dX5_advance_35 ?_
        refine az_goto (tgt := 5) dX5_advance_38 ?_
        exact ih _ (by omega) (a + 1) rfl (by omega) (by rw [← hR, show n - a = (n - (a + 1)) + 1 by omega, rd_sk, if_pos (by first | (rw [bI_eq (hb a) (by omega)] at c21; exact Or.inl c21) | (rw [bI_eq (hb a) (by omega)] at c32; exact Or.inr c32))])
      · refine az_aload_n dX5_advance_24 ?_
        refine az_getf (v := .ref tx) dX5_advance_25 fl_X5_18 h0 ?_
        refine az_iload_n dX5_advance_28 ?_
        refine az_baldN (j := a) dX5_advance_29 ht ?_
        rw [htf a (by omega)]
        refine az_bipush (v := nI 10) dX5_advance_30 ?_
        refine az_icmp_ne (tgt := 41) dX5_advance_32 (fun c32 => ?_) (fun c32 => ?_)
        · exact mid _ a rfl ha9 (by rw [← hR]; first | (rw [show n - a = 0 by omega, rd_sk]) | (rw [show n - a = (n - (a + 1)) + 1 by omega, rd_sk, if_neg (fun q9 => (by rw [bI_eq (hb a) (by omega)] at c21 c32; omega))]))
        · refine az_iincN (n := 1) (ls' := [(0, .ref q), (1, .int (nI (a + 1)))]) dX5_advance_35 ?_
          refine az_goto (tgt := 5) dX5_advance_38 ?_
          exact ih _ (by omega) (a + 1) rfl (by omega) (by rw [← hR, show n - a = (n - (a + 1)) + 1 by omega, rd_sk, if_pos (by first | (rw [bI_eq (hb a) (by omega)] at c21; exact Or.inl c21) | (rw [bI_eq (hb a) (by omega)] at c32; exact Or.inr c32))])
  refine az_M.of rfl (Nat.le_of_ble_eq_true rfl) ?_
  show az_W _ _ _ _ 0 [(0, .ref q)] [] _ _
  refine az_aload_n dX5_advance_0 ?_
  refine az_getf (v := .int (nI z0)) dX5_advance_1 fl_X5_38 h0 ?_
  refine az_istore_n (ls' := [(0, .ref q), (1, .int (nI z0))]) dX5_advance_4 ?_
  exact sk _ z0 rfl hz rfl
