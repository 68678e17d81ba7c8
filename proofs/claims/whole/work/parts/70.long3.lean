/-! Futures.longFrom -/
theorem fu_FF {w : ln_W} {wa : Nat → Int64} {km dp tb : Nat} {c : Nat → Nat} (h : wa dp = -1 ∨ wa dp = lN (fu_b w tb c)) : fu_cat (fun tb => if wa dp = -1 ∨ wa dp = lN (fu_b w tb c) then (fu_lg w wa km (dp + 1) (fu_n w tb c)).map (List.cons tb) else []) (tb + 1) = fu_cat (fun tb => if wa dp = -1 ∨ wa dp = lN (fu_b w tb c) then (fu_lg w wa km (dp + 1) (fu_n w tb c)).map (List.cons tb) else []) tb ++ (fu_lg w wa km (dp + 1) (fu_n w tb c)).map (List.cons tb) := by
  rw [fu_cat, if_pos h]
theorem fu_FN {w : ln_W} {wa : Nat → Int64} {km dp tb : Nat} {c : Nat → Nat} (h : ¬ (wa dp = -1 ∨ wa dp = lN (fu_b w tb c))) : fu_cat (fun tb => if wa dp = -1 ∨ wa dp = lN (fu_b w tb c) then (fu_lg w wa km (dp + 1) (fu_n w tb c)).map (List.cons tb) else []) (tb + 1) = fu_cat (fun tb => if wa dp = -1 ∨ wa dp = lN (fu_b w tb c) then (fu_lg w wa km (dp + 1) (fu_n w tb c)).map (List.cons tb) else []) tb := by
  rw [fu_cat, if_neg h, List.append_nil]
/-- the bits behind one table more -/
theorem fu_se_step {C R : List (List Nat)} {tb dp j sj : Nat} (hj : j ≠ dp) : sj ||| (if j < dp then 0 else fu_or (j - dp) (C ++ R.map (List.cons tb))) = sj ||| (if j < dp then 0 else fu_or (j - dp) C) ||| (if j < dp + 1 then 0 else fu_or (j - (dp + 1)) R) := by
  by_cases h : j < dp
  · rw [if_pos h, if_pos h, if_pos (by omega), Nat.or_zero, Nat.or_zero]
  · rw [if_neg h, if_neg h, if_neg (by omega), fu_or_app, show j - dp = (j - (dp + 1)) + 1 by omega, fu_or_mapS, Nat.or_assoc]
theorem fu_se_at {C R : List (List Nat)} {tb dp sj : Nat} : sj ||| (if dp < dp then 0 else fu_or (dp - dp) (C ++ R.map (List.cons tb))) = sj ||| fu_or 0 C ||| (if R.length = 0 then 0 else 2 ^ tb) := by
  rw [if_neg (by omega), Nat.sub_self, fu_or_app, fu_or_map0, Nat.or_assoc]
theorem fu_se_d {C R : List (List Nat)} {dp sj : Nat} : sj ||| (if dp < dp then 0 else fu_or (dp - dp) C) ||| (if dp < dp + 1 then 0 else fu_or (dp - (dp + 1)) R) = sj ||| fu_or 0 C := by
  rw [if_neg (by omega), Nat.sub_self, if_pos (by omega), Nat.or_zero]
theorem fu_or_one (i : Nat) : fu_or i [[]] = 0 := by rw [fu_or, fu_or]; simp
theorem ta_In.eqv {h h' : az_Hp} {y S n kk kt : Nat} {L : List Nat} (H : ta_In h y S n kk kt L) (h0 : h'.2 y = h.2 y) (h1 : h'.2 kk = h.2 kk) (h2 : h'.2 kt = h.2 kt) (h3 : h'.2 (y + 3) = h.2 (y + 3)) : ta_In h' y S n kk kt L := by
  unfold ta_In at *
  rw [h0, h1, h2, h3]
  exact H
theorem ta_In.up1 {h : az_Hp} {u S n kk kt : Nat} {L : List Nat} {c : az_C} (H : ta_In h (u + 4) S n kk kt L) (hk : fu_k u kk kt) : ta_In (az_up h (u + 1) c) (u + 4) S n kk kt L := by
  obtain ⟨h1, h2⟩ := hk
  exact H.eqv (az_up_ne rfl) (az_up_ne rfl) (az_up_ne rfl) (az_up_ne rfl)
theorem ta_In.up3 {h : az_Hp} {u S n kk kt : Nat} {L : List Nat} {c : az_C} (H : ta_In h (u + 4) S n kk kt L) (hk : fu_k u kk kt) : ta_In (az_up h (u + 3) c) (u + 4) S n kk kt L := by
  obtain ⟨h1, h2⟩ := hk
  exact H.eqv (az_up_ne rfl) (az_up_ne rfl) (az_up_ne rfl) (az_up_ne rfl)
theorem fu_ta_step {w : ln_W} {wa : Nat → Int64} {km dp tb tv y S n kk kt : Nat} {c : Nat → Nat} {L : List Nat} {h : az_Hp} (hcd : wa dp = -1 ∨ wa dp = lN (fu_b w tb c)) (H : ta_In h y S n kk kt (if tv = 0 then (if tv = 0 then L else fu_ads w ((fu_cat (fun tb => if wa dp = -1 ∨ wa dp = lN (fu_b w tb c) then (fu_lg w wa km (dp + 1) (fu_n w tb c)).map (List.cons tb) else []) tb).map (fun r => fu_to w r c)) L) else fu_ads w ((fu_lg w wa km (dp + 1) (fu_n w tb c)).map (fun r => fu_to w r (fu_n w tb c))) (if tv = 0 then L else fu_ads w ((fu_cat (fun tb => if wa dp = -1 ∨ wa dp = lN (fu_b w tb c) then (fu_lg w wa km (dp + 1) (fu_n w tb c)).map (List.cons tb) else []) tb).map (fun r => fu_to w r c)) L))) :
    ta_In h y S n kk kt (if tv = 0 then L else fu_ads w ((fu_cat (fun tb => if wa dp = -1 ∨ wa dp = lN (fu_b w tb c) then (fu_lg w wa km (dp + 1) (fu_n w tb c)).map (List.cons tb) else []) (tb + 1)).map (fun r => fu_to w r c)) L) := by
  by_cases h0 : tv = 0
  · rw [if_pos h0]; rw [if_pos h0, if_pos h0] at H; exact H
  · rw [if_neg h0]; rw [if_neg h0, if_neg h0] at H
    rw [fu_FF hcd, List.map_append, fu_ads_app, fu_to_map]
    exact H
set_option maxHeartbeats 8000000 in
set_option maxRecDepth 100000 in
theorem s_longFrom {w : ln_W} (hw : ln_ok w) {u t wn wx kk kt r S n tv : Nat} {x : Nat × List Int64} {wa : Nat → Int64} (hwa : ∀ j, wa j = x.2.getD j 0) (htv : tv ≤ 1) (hk9 : fu_k u kk kt) (hrd : fu_rd u kk kt r) (hx8 : x.2.length ≤ 8) : ∀ (kn : Nat) {d dp : Nat} {c : Nat → Nat} {f : Nat → Int64} {sb : Nat → Nat} {s : Nat → Int32} {L : List Nat} {hp : az_Hp} {Q : Option Value → az_Hp → Prop} (hd : kn + 6 ≤ d) (hk1 : 1 ≤ kn) (hdp : dp + kn = x.2.length) (hT : fu_To hp t w u kk kt) (hR : ln_Tray hp r (some x)) (h0 : hp.2 u = some (az_O 1 [.ref t, .ref (u + 1), .ref (u + 2), .ref (u + 3), .ref (u + 4), .int (nI tv), .ref wn, .ref wx])) (h1 : hp.2 (u + 1) = some (az_J 54 f)) (h3 : hp.2 (u + 3) = some (az_I 8 s)) (hs : ∀ j, j < 8 → s j = nI (sb j)) (hta : ta_In hp (u + 4) S n kk kt L) (hcap : tv = 1 → L.length + ln_tb w * (fu_lg w wa kn dp c).length ≤ S) (hc : ∀ x, x < 6 → f (dp * 6 + x) = lN (c x)) (hb : fu_l c * 4 ^ (kn + 2) < 2 ^ 62) (hQ : ∀ (h' : az_Hp) (f' : Nat → Int64) (s' : Nat → Int32), h'.2 (u + 1) = some (az_J 54 f') → (∀ j, j < dp * 6 + 6 → f' j = f j) → h'.2 (u + 3) = some (az_I 8 s') → (∀ j, j < 8 → s' j = nI (sb j ||| (if j < dp then 0 else fu_or (j - dp) (fu_lg w wa kn dp c)))) → ta_In h' (u + 4) S n kk kt (if tv = 0 then L else fu_ads w ((fu_lg w wa kn dp c).map (fun r => fu_to w r c)) L) → fu_fr u kk kt hp h' → Q (some (.int (nI (fu_lg w wa kn dp c).length))) h'), az_M mX1_longFrom d 0 0 [.ref u, .ref r, .int (nI dp)] hp Q := by
  intro kn
  induction kn using Nat.strongRecOn with
  | _ kn IH =>
  intro d dp c f sb s L hp Q hd hk1 hdp hT hR h0 h1 h3 hs hta hcap hc hb hQ
  obtain ⟨km, rfl⟩ : ∃ km, kn = km + 1 := ⟨kn - 1, by omega⟩
  have htb := hw.2.1
  have hbk := fun tb => fu_n_l2 hw (tb := tb) hb
  have hcb := fu_c_lt (fu_l_lt hb)
  obtain ⟨hk1', hk2'⟩ := id hk9
  obtain ⟨hr1, hr2, hr3⟩ := id hrd
  obtain ⟨hl40, hso, fr, hr0, -⟩ := id hR
  have hlg : fu_lg w wa (km + 1) dp c = fu_cat (fun tb => if wa dp = -1 ∨ wa dp = lN (fu_b w tb c) then (fu_lg w wa km (dp + 1) (fu_n w tb c)).map (List.cons tb) else []) (ln_tb w) := by rw [fu_lg]
  rw [hlg] at hQ hcap
  have hcp : ∀ tb, tb < ln_tb w → (wa dp = -1 ∨ wa dp = lN (fu_b w tb c)) → tv = 1 → (fu_ads w ((fu_cat (fun tb => if wa dp = -1 ∨ wa dp = lN (fu_b w tb c) then (fu_lg w wa km (dp + 1) (fu_n w tb c)).map (List.cons tb) else []) tb).map (fun r => fu_to w r c)) L).length + ln_tb w * (fu_lg w wa km (dp + 1) (fu_n w tb c)).length ≤ S := by
    intro tb h8 h9 h7
    have q1 := hcap h7
    have q2 := fu_cat_le (fun tb => if wa dp = -1 ∨ wa dp = lN (fu_b w tb c) then (fu_lg w wa km (dp + 1) (fu_n w tb c)).map (List.cons tb) else []) (show tb + 1 ≤ ln_tb w from h8)
    rw [fu_FF h9, List.length_append, List.length_map] at q2
    have q3 := Nat.mul_le_mul_left (ln_tb w) q2
    rw [Nat.mul_add] at q3
    rw [fu_ads_len, List.length_map]
    omega
  have hR0 : ∀ tb, km = 0 → (fu_lg w wa km (dp + 1) (fu_n w tb c)) = [[]] := fun tb h => by rw [h]; rfl
  have upd : ∀ (k : Nat) (tb bh : Nat) (s2 : Nat → Int32) (h2 : az_Hp) (hK : ∀ (s3 : Nat → Int32), (∀ j, j < 8 → s3 j = nI (sb j ||| (if j < dp then 0 else fu_or (j - dp) (fu_cat (fun tb => if wa dp = -1 ∨ wa dp = lN (fu_b w tb c) then (fu_lg w wa km (dp + 1) (fu_n w tb c)).map (List.cons tb) else []) (tb + 1))))) → az_W mX1_longFrom d 0 0 45 [(0, .ref u), (1, .ref r), (2, .int (nI dp)), (3, .long (wa dp)), (5, .int (nI (1 - km))), (6, .int (nI (fu_cat (fun tb => if wa dp = -1 ∨ wa dp = lN (fu_b w tb c) then (fu_lg w wa km (dp + 1) (fu_n w tb c)).map (List.cons tb) else []) (tb + 1)).length)), (7, .int (nI (tb + 1)))] [] (az_up h2 (u + 3) (az_I 8 s3)) Q), 0 = k → (tb < 3) → (wa dp = -1 ∨ wa dp = lN (fu_b w tb c)) → (bh = (fu_lg w wa km (dp + 1) (fu_n w tb c)).length) → (h2.2 u = some (az_O 1 [.ref t, .ref (u + 1), .ref (u + 2), .ref (u + 3), .ref (u + 4), .int (nI tv), .ref wn, .ref wx])) → (h2.2 (u + 3) = some (az_I 8 s2)) → (∀ j, j < 8 → s2 j = nI (sb j ||| (if j < dp then 0 else fu_or (j - dp) (fu_cat (fun tb => if wa dp = -1 ∨ wa dp = lN (fu_b w tb c) then (fu_lg w wa km (dp + 1) (fu_n w tb c)).map (List.cons tb) else []) tb)) ||| (if j < dp + 1 then 0 else fu_or (j - (dp + 1)) (fu_lg w wa km (dp + 1) (fu_n w tb c))))) → az_W mX1_longFrom d 0 0 137 [(0, .ref u), (1, .ref r), (2, .int (nI dp)), (3, .long (wa dp)), (5, .int (nI (1 - km))), (6, .int (nI ((fu_cat (fun tb => if wa dp = -1 ∨ wa dp = lN (fu_b w tb c) then (fu_lg w wa km (dp + 1) (fu_n w tb c)).map (List.cons tb) else []) tb).length))), (7, .int (nI tb)), (8, .int (nI bh))] [] h2 Q := by
    intro k
    induction k using Nat.strongRecOn with
    | _ k ih =>
    intro tb bh s2 h2 hK hk ht3 hcd hbh e0 es hs2
    have hs2d : s2 dp = nI (sb dp ||| fu_or 0 (fu_cat (fun tb => if wa dp = -1 ∨ wa dp = lN (fu_b w tb c) then (fu_lg w wa km (dp + 1) (fu_n w tb c)).map (List.cons tb) else []) tb)) := (by rw [hs2 dp (by omega), fu_se_d])
    refine az_aload_n dX1_longFrom_137 ?_
    refine az_getf (v := .ref (u + 3)) dX1_longFrom_138 fl_X1_19 e0 ?_
    refine az_iload_n dX1_longFrom_141 ?_
    refine az_dup2_11 dX1_longFrom_142 ?_
    refine az_ialdN (j := dp) dX1_longFrom_143 es ?_
    rw [hs2d]
    refine az_iload dX1_longFrom_144 ?_
    have hbl := fu_lg_len hw wa km (dp + 1) (fu_n w tb c)
    have hp8 : 3 ^ km ≤ 3 ^ 8 := Nat.pow_le_pow_right (by decide) (by omega)
    have hp9 : 3 ^ 8 = 6561 := rfl
    refine az_if_leN (tgt := 156) dX1_longFrom_146 (fun c146 => ?_) (fun c146 => ?_)
    · refine az_iconst (v := nI 0) dX1_longFrom_156 ?_
      refine az_iorN dX1_longFrom_157 ?_
      refine az_iastN (j := dp) dX1_longFrom_158 es ?_
      refine az_iload dX1_longFrom_159 ?_
      refine az_iload dX1_longFrom_161 ?_
      refine az_iaddN dX1_longFrom_163 ?_
      refine az_istore (ls' := [(0, .ref u), (1, .ref r), (2, .int (nI dp)), (3, .long (wa dp)), (5, .int (nI (1 - km))), (6, .int (nI (((fu_cat (fun tb => if wa dp = -1 ∨ wa dp = lN (fu_b w tb c) then (fu_lg w wa km (dp + 1) (fu_n w tb c)).map (List.cons tb) else []) tb).length) + bh))), (7, .int (nI tb)), (8, .int (nI bh))]) dX1_longFrom_164 ?_
      refine az_iincN (n := 1) (ls' := [(0, .ref u), (1, .ref r), (2, .int (nI dp)), (3, .long (wa dp)), (5, .int (nI (1 - km))), (6, .int (nI (((fu_cat (fun tb => if wa dp = -1 ∨ wa dp = lN (fu_b w tb c) then (fu_lg w wa km (dp + 1) (fu_n w tb c)).map (List.cons tb) else []) tb).length) + bh))), (7, .int (nI (tb + 1))), (8, .int (nI bh))]) dX1_longFrom_166 ?_
      refine az_goto (tgt := 45) dX1_longFrom_169 ?_
      refine az_W.keep (ls' := [(0, .ref u), (1, .ref r), (2, .int (nI dp)), (3, .long (wa dp)), (5, .int (nI (1 - km))), (6, .int (nI ((fu_cat (fun tb => if wa dp = -1 ∨ wa dp = lN (fu_b w tb c) then (fu_lg w wa km (dp + 1) (fu_n w tb c)).map (List.cons tb) else []) tb).length + bh))), (7, .int (nI (tb + 1)))]) [0, 1, 2, 3, 5, 6, 7] rfl ?_
      rw [show (fu_cat (fun tb => if wa dp = -1 ∨ wa dp = lN (fu_b w tb c) then (fu_lg w wa km (dp + 1) (fu_n w tb c)).map (List.cons tb) else []) tb).length + bh = (fu_cat (fun tb => if wa dp = -1 ∨ wa dp = lN (fu_b w tb c) then (fu_lg w wa km (dp + 1) (fu_n w tb c)).map (List.cons tb) else []) (tb + 1)).length by rw [fu_FF hcd, List.length_append, List.length_map, hbh]]
      refine hK _ (fun j hj => if ej : j = dp then ?_ else (by rw [az_s_ne ej, hs2 j hj, fu_FF hcd, fu_se_step ej]))
      rw [ej, az_s_eq, fu_FF hcd, fu_se_at]
      first | rw [if_neg (by omega)] | rw [if_pos (by omega)]
    · refine az_iconst (v := nI 1) dX1_longFrom_149 ?_
      refine az_iload dX1_longFrom_150 ?_
      refine az_ishl1N dX1_longFrom_152 ?_
      refine az_goto (tgt := 157) dX1_longFrom_153 ?_
      refine az_iorN dX1_longFrom_157 ?_
      refine az_iastN (j := dp) dX1_longFrom_158 es ?_
      refine az_iload dX1_longFrom_159 ?_
      refine az_iload dX1_longFrom_161 ?_
      refine az_iaddN dX1_longFrom_163 ?_
      refine az_istore (ls' := [(0, .ref u), (1, .ref r), (2, .int (nI dp)), (3, .long (wa dp)), (5, .int (nI (1 - km))), (6, .int (nI (((fu_cat (fun tb => if wa dp = -1 ∨ wa dp = lN (fu_b w tb c) then (fu_lg w wa km (dp + 1) (fu_n w tb c)).map (List.cons tb) else []) tb).length) + bh))), (7, .int (nI tb)), (8, .int (nI bh))]) dX1_longFrom_164 ?_
      refine az_iincN (n := 1) (ls' := [(0, .ref u), (1, .ref r), (2, .int (nI dp)), (3, .long (wa dp)), (5, .int (nI (1 - km))), (6, .int (nI (((fu_cat (fun tb => if wa dp = -1 ∨ wa dp = lN (fu_b w tb c) then (fu_lg w wa km (dp + 1) (fu_n w tb c)).map (List.cons tb) else []) tb).length) + bh))), (7, .int (nI (tb + 1))), (8, .int (nI bh))]) dX1_longFrom_166 ?_
      refine az_goto (tgt := 45) dX1_longFrom_169 ?_
      refine az_W.keep (ls' := [(0, .ref u), (1, .ref r), (2, .int (nI dp)), (3, .long (wa dp)), (5, .int (nI (1 - km))), (6, .int (nI ((fu_cat (fun tb => if wa dp = -1 ∨ wa dp = lN (fu_b w tb c) then (fu_lg w wa km (dp + 1) (fu_n w tb c)).map (List.cons tb) else []) tb).length + bh))), (7, .int (nI (tb + 1)))]) [0, 1, 2, 3, 5, 6, 7] rfl ?_
      rw [show (fu_cat (fun tb => if wa dp = -1 ∨ wa dp = lN (fu_b w tb c) then (fu_lg w wa km (dp + 1) (fu_n w tb c)).map (List.cons tb) else []) tb).length + bh = (fu_cat (fun tb => if wa dp = -1 ∨ wa dp = lN (fu_b w tb c) then (fu_lg w wa km (dp + 1) (fu_n w tb c)).map (List.cons tb) else []) (tb + 1)).length by rw [fu_FF hcd, List.length_append, List.length_map, hbh]]
      refine hK _ (fun j hj => if ej : j = dp then ?_ else (by rw [az_s_ne ej, hs2 j hj, fu_FF hcd, fu_se_step ej]))
      rw [ej, az_s_eq, fu_FF hcd, fu_se_at]
      first | rw [if_neg (by omega)] | rw [if_pos (by omega)]
  have loop : ∀ (k : Nat) (tb : Nat) (f' : Nat → Int64) (s' : Nat → Int32) (h' : az_Hp), ln_tb w - tb = k → (tb ≤ ln_tb w) → (h'.2 (u + 1) = some (az_J 54 f')) → (∀ j, j < dp * 6 + 6 → f' j = f j) → (h'.2 (u + 3) = some (az_I 8 s')) → (∀ j, j < 8 → s' j = nI (sb j ||| (if j < dp then 0 else fu_or (j - dp) (fu_cat (fun tb => if wa dp = -1 ∨ wa dp = lN (fu_b w tb c) then (fu_lg w wa km (dp + 1) (fu_n w tb c)).map (List.cons tb) else []) tb)))) → (ta_In h' (u + 4) S n kk kt (if tv = 0 then L else fu_ads w ((fu_cat (fun tb => if wa dp = -1 ∨ wa dp = lN (fu_b w tb c) then (fu_lg w wa km (dp + 1) (fu_n w tb c)).map (List.cons tb) else []) tb).map (fun r => fu_to w r c)) L)) → (fu_fr u kk kt hp h') → az_W mX1_longFrom d 0 0 45 [(0, .ref u), (1, .ref r), (2, .int (nI dp)), (3, .long (wa dp)), (5, .int (nI (1 - km))), (6, .int (nI ((fu_cat (fun tb => if wa dp = -1 ∨ wa dp = lN (fu_b w tb c) then (fu_lg w wa km (dp + 1) (fu_n w tb c)).map (List.cons tb) else []) tb).length))), (7, .int (nI tb))] [] h' Q := by
    intro k
    induction k using Nat.strongRecOn with
    | _ k ih =>
    intro tb f' s' h' hk htl e1 ho es hse hta' hfr
    have hT' : fu_To h' t w u kk kt := hT.fr hfr
    obtain ⟨a4', a5', hT0', -⟩ := id hT'
    have e0 := hfr.at h0
    refine az_iload dX1_longFrom_45 ?_
    refine az_aload_n dX1_longFrom_47 ?_
    refine az_getf (v := .ref t) dX1_longFrom_48 fl_X1_35 e0 ?_
    refine az_getf (v := .int (nI (ln_tb w))) dX1_longFrom_51 fl_X1_83 hT0' ?_
    refine az_icmp_geN (tgt := 172) dX1_longFrom_54 (fun c54 => ?_) (fun c54 => ?_)
    · refine az_iload dX1_longFrom_172 ?_
      exact az_iret dX1_longFrom_174 (by obtain rfl : tb = ln_tb w := (by omega); exact hQ h' f' s' e1 ho es hse hta' hfr)
    · refine az_lload_n dX1_longFrom_57 ?_
      refine az_ldc2 (v := (-1)) dX1_longFrom_58 cn_X1_117 ?_
      refine az_lcmp_eq (tgt := 80) dX1_longFrom_61 dX1_longFrom_62 (fun c61 => ?_) (fun c61 => ?_)
      · have hcd : wa dp = -1 ∨ wa dp = lN (fu_b w tb c) := by first | exact Or.inl c61 | exact Or.inr c73
        refine az_iload dX1_longFrom_80 ?_
        refine az_if_eqN (tgt := 92) dX1_longFrom_82 (fun c82 => ?_) (fun c82 => ?_)
        · refine az_aload_n dX1_longFrom_92 ?_
          refine az_iload_n dX1_longFrom_93 ?_
          refine az_iload dX1_longFrom_94 ?_
          refine az_cV0 (st := []) dX1_longFrom_96 ml_X1_91 e0 (s_passNight (d := d - 1) (by omega) hw (hT'.to.nar (by omega) (by omega)) e0 e1 (dp := dp) (by omega) (tb := tb) (by omega) (c := c) (fun x q => (by rw [ho _ (by omega)]; exact hc x q)) (fun x q => Nat.lt_of_lt_of_le (hcb x q) (by decide)) ?_)
          intro g q1 q2
          refine az_iload dX1_longFrom_99 ?_
          refine az_if_eqN (tgt := 118) dX1_longFrom_101 (fun c101 => ?_) (fun c101 => ?_)
          · refine az_iload dX1_longFrom_118 ?_
            refine az_if_eqN (tgt := 127) dX1_longFrom_120 (fun c120 => ?_) (fun c120 => ?_)
            · refine az_aload_n dX1_longFrom_127 ?_
              refine az_aload_n dX1_longFrom_128 ?_
              refine az_iload_n dX1_longFrom_129 ?_
              refine az_iconst (v := nI 1) dX1_longFrom_130 ?_
              refine az_iaddN dX1_longFrom_131 ?_
              refine az_cV0 (st := []) dX1_longFrom_132 ml_X1_105 (az_up_ne e0) (IH km (by omega) (d := d - 1) (by omega) (by omega) (dp := dp + 1) (by omega) (hT'.fr fu_fr.rf.up1) (hR.fu hfr.up1 hrd) (az_up_ne e0) az_up_eq (az_up_ne es) (sb := fun j => sb j ||| (if j < dp then 0 else fu_or (j - dp) (fu_cat (fun tb => if wa dp = -1 ∨ wa dp = lN (fu_b w tb c) then (fu_lg w wa km (dp + 1) (fu_n w tb c)).map (List.cons tb) else []) tb))) hse (hta'.up1 hk9) (fun h9 => (by rw [if_neg (by omega)]; exact hcp tb (by omega) hcd h9)) (c := fu_n w tb c) (fun x q => (by rw [show (dp + 1) * 6 + x = dp * 6 + 6 + x by omega]; exact q2 x q)) (hbk tb) ?_)
              intro h2 f2 s2 e12 ho2 es2 hs2 hta2 fr2
              refine az_istore (ls' := [(0, .ref u), (1, .ref r), (2, .int (nI dp)), (3, .long (wa dp)), (5, .int (nI (1 - km))), (6, .int (nI ((fu_cat (fun tb => if wa dp = -1 ∨ wa dp = lN (fu_b w tb c) then (fu_lg w wa km (dp + 1) (fu_n w tb c)).map (List.cons tb) else []) tb).length))), (7, .int (nI tb)), (8, .int (nI ((fu_lg w wa km (dp + 1) (fu_n w tb c)).length)))]) dX1_longFrom_135 ?_
              first | (refine upd _ tb 1 s' h' ?_ rfl (by omega) hcd (by rw [hR0 tb (by omega)]; rfl) e0 es (fun j q => (by rw [hse j q, hR0 tb (by omega), fu_or_one, ite_self, Nat.or_zero])); intro s3 hs3; exact ih _ (by omega) (tb + 1) f' s3 _ rfl (by omega) (az_up_ne e1) ho az_up_eq hs3 (by rw [if_pos (by omega)] at hta' ⊢; exact hta'.up3 hk9) hfr.up3) | (refine upd _ tb 1 s' h2 ?_ rfl (by omega) hcd (by rw [hR0 tb (by omega)]; rfl) (fr2.at (az_up_ne e0)) es2 (fun j q => (by rw [hse j q, hR0 tb (by omega), fu_or_one, ite_self, Nat.or_zero])); intro s3 hs3; exact ih _ (by omega) (tb + 1) g s3 _ rfl (by omega) (az_up_ne e12) (fun j q => (by rw [q1 j q]; exact ho j q)) az_up_eq hs3 (by rw [if_neg (by omega), fu_FF hcd, List.map_append, fu_ads_app, fu_to_map, hR0 tb (by omega)]; exact hta2.up3 hk9) fr9.up3) | (refine upd _ tb _ s2 h2 ?_ rfl (by omega) hcd rfl (fr2.at (az_up_ne e0)) es2 hs2; intro s3 hs3; exact ih _ (by omega) (tb + 1) f2 s3 _ rfl (by omega) (az_up_ne e12) (fun j q => (by rw [ho2 j (by omega), q1 j q]; exact ho j q)) az_up_eq hs3 (fu_ta_step hcd (hta2.up3 hk9)) (hfr.up1.tr fr2).up3)
            · exact absurd c120 (by omega)
          · exact absurd c101 (by omega)
        · refine az_aload_n dX1_longFrom_85 ?_
          refine az_getf (v := .int (nI tv)) dX1_longFrom_86 fl_X1_98 e0 ?_
          refine az_if_eqN (tgt := 99) dX1_longFrom_89 (fun c89 => ?_) (fun c89 => ?_)
          · refine az_iload dX1_longFrom_99 ?_
            refine az_if_eqN (tgt := 118) dX1_longFrom_101 (fun c101 => ?_) (fun c101 => ?_)
            · exact absurd c101 (by omega)
            · refine az_aload_n dX1_longFrom_104 ?_
              refine az_getf (v := .int (nI tv)) dX1_longFrom_105 fl_X1_98 e0 ?_
              refine az_if_eqN (tgt := 118) dX1_longFrom_108 (fun c108 => ?_) (fun c108 => ?_)
              · refine az_iload dX1_longFrom_118 ?_
                refine az_if_eqN (tgt := 127) dX1_longFrom_120 (fun c120 => ?_) (fun c120 => ?_)
                · exact absurd c120 (by omega)
                · refine az_iconst (v := nI 1) dX1_longFrom_123 ?_
                  refine az_goto (tgt := 135) dX1_longFrom_124 ?_
                  refine az_istore (ls' := [(0, .ref u), (1, .ref r), (2, .int (nI dp)), (3, .long (wa dp)), (5, .int (nI (1 - km))), (6, .int (nI ((fu_cat (fun tb => if wa dp = -1 ∨ wa dp = lN (fu_b w tb c) then (fu_lg w wa km (dp + 1) (fu_n w tb c)).map (List.cons tb) else []) tb).length))), (7, .int (nI tb)), (8, .int (nI 1))]) dX1_longFrom_135 ?_
                  first | (refine upd _ tb 1 s' h' ?_ rfl (by omega) hcd (by rw [hR0 tb (by omega)]; rfl) e0 es (fun j q => (by rw [hse j q, hR0 tb (by omega), fu_or_one, ite_self, Nat.or_zero])); intro s3 hs3; exact ih _ (by omega) (tb + 1) f' s3 _ rfl (by omega) (az_up_ne e1) ho az_up_eq hs3 (by rw [if_pos (by omega)] at hta' ⊢; exact hta'.up3 hk9) hfr.up3) | (refine upd _ tb 1 s' h2 ?_ rfl (by omega) hcd (by rw [hR0 tb (by omega)]; rfl) e0 es2 (fun j q => (by rw [hse j q, hR0 tb (by omega), fu_or_one, ite_self, Nat.or_zero])); intro s3 hs3; exact ih _ (by omega) (tb + 1) g s3 _ rfl (by omega) (az_up_ne e12) (fun j q => (by rw [q1 j q]; exact ho j q)) az_up_eq hs3 (by rw [if_neg (by omega), fu_FF hcd, List.map_append, fu_ads_app, fu_to_map, hR0 tb (by omega)]; exact hta2.up3 hk9) fr9.up3) | (refine upd _ tb _ s2 h2 ?_ rfl (by omega) hcd rfl e0 es2 hs2; intro s3 hs3; exact ih _ (by omega) (tb + 1) f2 s3 _ rfl (by omega) (az_up_ne e12) (fun j q => (by rw [ho2 j (by omega), q1 j q]; exact ho j q)) az_up_eq hs3 (fu_ta_step hcd (hta2.up3 hk9)) (hfr.up1.tr fr2).up3)
              · exact absurd c108 (by omega)
          · refine az_aload_n dX1_longFrom_92 ?_
            refine az_iload_n dX1_longFrom_93 ?_
            refine az_iload dX1_longFrom_94 ?_
            refine az_cV0 (st := []) dX1_longFrom_96 ml_X1_91 e0 (s_passNight (d := d - 1) (by omega) hw (hT'.to.nar (by omega) (by omega)) e0 e1 (dp := dp) (by omega) (tb := tb) (by omega) (c := c) (fun x q => (by rw [ho _ (by omega)]; exact hc x q)) (fun x q => Nat.lt_of_lt_of_le (hcb x q) (by decide)) ?_)
            intro g q1 q2
            refine az_iload dX1_longFrom_99 ?_
            refine az_if_eqN (tgt := 118) dX1_longFrom_101 (fun c101 => ?_) (fun c101 => ?_)
            · exact absurd c101 (by omega)
            · refine az_aload_n dX1_longFrom_104 ?_
              refine az_getf (v := .int (nI tv)) dX1_longFrom_105 fl_X1_98 (az_up_ne e0) ?_
              refine az_if_eqN (tgt := 118) dX1_longFrom_108 (fun c108 => ?_) (fun c108 => ?_)
              · exact absurd c108 (by omega)
              · refine az_aload_n dX1_longFrom_111 ?_
                refine az_iload_n dX1_longFrom_112 ?_
                refine az_iconst (v := nI 1) dX1_longFrom_113 ?_
                refine az_iaddN dX1_longFrom_114 ?_
                have hta1 := hta'.up1 (c := az_J 54 g) hk9
                rw [if_neg c108] at hta1
                have hcp1 := hcp tb (by omega) hcd (by omega)
                rw [hR0 tb (by omega)] at hcp1
                have hb1 := hbk tb
                rw [show km = 0 by omega] at hb1
                refine az_cV0 (st := []) dX1_longFrom_115 ml_X1_119 (az_up_ne e0) (s_tallyNext (d := d - 1) (by omega) hw hk9 (hT'.fr fu_fr.rf.up1) (az_up_ne e0) az_up_eq hta1 (by simpa using hcp1) (dp := dp + 1) (by omega) (c := fu_n w tb c) (fun x q => (by rw [show (dp + 1) * 6 + x = dp * 6 + 6 + x by omega]; exact q2 x q)) hb1 ?_)
                intro h2 hta2 fr2
                have fr9 : fu_fr u kk kt hp h2 := hfr.up1.f3 fr2
                have e12 : h2.2 (u + 1) = some (az_J 54 g) := (fr2.2 (u + 1) (by omega) (by omega) (by omega)).trans az_up_eq
                have es2 : h2.2 (u + 3) = some (az_I 8 s') := (fr2.2 (u + 3) (by omega) (by omega) (by omega)).trans (az_up_ne es)
                refine az_iload dX1_longFrom_118 ?_
                refine az_if_eqN (tgt := 127) dX1_longFrom_120 (fun c120 => ?_) (fun c120 => ?_)
                · exact absurd c120 (by omega)
                · refine az_iconst (v := nI 1) dX1_longFrom_123 ?_
                  refine az_goto (tgt := 135) dX1_longFrom_124 ?_
                  refine az_istore (ls' := [(0, .ref u), (1, .ref r), (2, .int (nI dp)), (3, .long (wa dp)), (5, .int (nI (1 - km))), (6, .int (nI ((fu_cat (fun tb => if wa dp = -1 ∨ wa dp = lN (fu_b w tb c) then (fu_lg w wa km (dp + 1) (fu_n w tb c)).map (List.cons tb) else []) tb).length))), (7, .int (nI tb)), (8, .int (nI 1))]) dX1_longFrom_135 ?_
                  first | (refine upd _ tb 1 s' h' ?_ rfl (by omega) hcd (by rw [hR0 tb (by omega)]; rfl) e0 es (fun j q => (by rw [hse j q, hR0 tb (by omega), fu_or_one, ite_self, Nat.or_zero])); intro s3 hs3; exact ih _ (by omega) (tb + 1) f' s3 _ rfl (by omega) (az_up_ne e1) ho az_up_eq hs3 (by rw [if_pos (by omega)] at hta' ⊢; exact hta'.up3 hk9) hfr.up3) | (refine upd _ tb 1 s' h2 ?_ rfl (by omega) hcd (by rw [hR0 tb (by omega)]; rfl) (fu_fr.at (u := u) (kk := kk) (kt := kt) (fu_fr.rf.f3 fr2) (az_up_ne e0)) es2 (fun j q => (by rw [hse j q, hR0 tb (by omega), fu_or_one, ite_self, Nat.or_zero])); intro s3 hs3; exact ih _ (by omega) (tb + 1) g s3 _ rfl (by omega) (az_up_ne e12) (fun j q => (by rw [q1 j q]; exact ho j q)) az_up_eq hs3 (by rw [if_neg (by omega), fu_FF hcd, List.map_append, fu_ads_app, fu_to_map, hR0 tb (by omega)]; exact hta2.up3 hk9) fr9.up3) | (refine upd _ tb _ s2 h2 ?_ rfl (by omega) hcd rfl (fu_fr.at (u := u) (kk := kk) (kt := kt) (fu_fr.rf.f3 fr2) (az_up_ne e0)) es2 hs2; intro s3 hs3; exact ih _ (by omega) (tb + 1) f2 s3 _ rfl (by omega) (az_up_ne e12) (fun j q => (by rw [ho2 j (by omega), q1 j q]; exact ho j q)) az_up_eq hs3 (fu_ta_step hcd (hta2.up3 hk9)) (hfr.up1.tr fr2).up3)
      · refine az_lload_n dX1_longFrom_65 ?_
        refine az_aload_n dX1_longFrom_66 ?_
        refine az_iload_n dX1_longFrom_67 ?_
        refine az_iload dX1_longFrom_68 ?_
        refine az_cV0 (st := [.long (wa dp)]) dX1_longFrom_70 ml_X1_87 e0 (s_spanByF (d := d - 1) hw hT'.to.town e0 e1 (dp := dp) (by omega) (tb := tb) (by omega) (c := c) (fun x q => (by rw [ho _ (by omega)]; exact hc x q)) ?_)
        refine az_lcmp_eq (tgt := 80) dX1_longFrom_73 dX1_longFrom_74 (fun c73 => ?_) (fun c73 => ?_)
        · have hcd : wa dp = -1 ∨ wa dp = lN (fu_b w tb c) := by first | exact Or.inl c61 | exact Or.inr c73
          refine az_iload dX1_longFrom_80 ?_
          refine az_if_eqN (tgt := 92) dX1_longFrom_82 (fun c82 => ?_) (fun c82 => ?_)
          · refine az_aload_n dX1_longFrom_92 ?_
            refine az_iload_n dX1_longFrom_93 ?_
            refine az_iload dX1_longFrom_94 ?_
            refine az_cV0 (st := []) dX1_longFrom_96 ml_X1_91 e0 (s_passNight (d := d - 1) (by omega) hw (hT'.to.nar (by omega) (by omega)) e0 e1 (dp := dp) (by omega) (tb := tb) (by omega) (c := c) (fun x q => (by rw [ho _ (by omega)]; exact hc x q)) (fun x q => Nat.lt_of_lt_of_le (hcb x q) (by decide)) ?_)
            intro g q1 q2
            refine az_iload dX1_longFrom_99 ?_
            refine az_if_eqN (tgt := 118) dX1_longFrom_101 (fun c101 => ?_) (fun c101 => ?_)
            · refine az_iload dX1_longFrom_118 ?_
              refine az_if_eqN (tgt := 127) dX1_longFrom_120 (fun c120 => ?_) (fun c120 => ?_)
              · refine az_aload_n dX1_longFrom_127 ?_
                refine az_aload_n dX1_longFrom_128 ?_
                refine az_iload_n dX1_longFrom_129 ?_
                refine az_iconst (v := nI 1) dX1_longFrom_130 ?_
                refine az_iaddN dX1_longFrom_131 ?_
                refine az_cV0 (st := []) dX1_longFrom_132 ml_X1_105 (az_up_ne e0) (IH km (by omega) (d := d - 1) (by omega) (by omega) (dp := dp + 1) (by omega) (hT'.fr fu_fr.rf.up1) (hR.fu hfr.up1 hrd) (az_up_ne e0) az_up_eq (az_up_ne es) (sb := fun j => sb j ||| (if j < dp then 0 else fu_or (j - dp) (fu_cat (fun tb => if wa dp = -1 ∨ wa dp = lN (fu_b w tb c) then (fu_lg w wa km (dp + 1) (fu_n w tb c)).map (List.cons tb) else []) tb))) hse (hta'.up1 hk9) (fun h9 => (by rw [if_neg (by omega)]; exact hcp tb (by omega) hcd h9)) (c := fu_n w tb c) (fun x q => (by rw [show (dp + 1) * 6 + x = dp * 6 + 6 + x by omega]; exact q2 x q)) (hbk tb) ?_)
                intro h2 f2 s2 e12 ho2 es2 hs2 hta2 fr2
                refine az_istore (ls' := [(0, .ref u), (1, .ref r), (2, .int (nI dp)), (3, .long (wa dp)), (5, .int (nI (1 - km))), (6, .int (nI ((fu_cat (fun tb => if wa dp = -1 ∨ wa dp = lN (fu_b w tb c) then (fu_lg w wa km (dp + 1) (fu_n w tb c)).map (List.cons tb) else []) tb).length))), (7, .int (nI tb)), (8, .int (nI ((fu_lg w wa km (dp + 1) (fu_n w tb c)).length)))]) dX1_longFrom_135 ?_
                first | (refine upd _ tb 1 s' h' ?_ rfl (by omega) hcd (by rw [hR0 tb (by omega)]; rfl) e0 es (fun j q => (by rw [hse j q, hR0 tb (by omega), fu_or_one, ite_self, Nat.or_zero])); intro s3 hs3; exact ih _ (by omega) (tb + 1) f' s3 _ rfl (by omega) (az_up_ne e1) ho az_up_eq hs3 (by rw [if_pos (by omega)] at hta' ⊢; exact hta'.up3 hk9) hfr.up3) | (refine upd _ tb 1 s' h2 ?_ rfl (by omega) hcd (by rw [hR0 tb (by omega)]; rfl) (fr2.at (az_up_ne e0)) es2 (fun j q => (by rw [hse j q, hR0 tb (by omega), fu_or_one, ite_self, Nat.or_zero])); intro s3 hs3; exact ih _ (by omega) (tb + 1) g s3 _ rfl (by omega) (az_up_ne e12) (fun j q => (by rw [q1 j q]; exact ho j q)) az_up_eq hs3 (by rw [if_neg (by omega), fu_FF hcd, List.map_append, fu_ads_app, fu_to_map, hR0 tb (by omega)]; exact hta2.up3 hk9) fr9.up3) | (refine upd _ tb _ s2 h2 ?_ rfl (by omega) hcd rfl (fr2.at (az_up_ne e0)) es2 hs2; intro s3 hs3; exact ih _ (by omega) (tb + 1) f2 s3 _ rfl (by omega) (az_up_ne e12) (fun j q => (by rw [ho2 j (by omega), q1 j q]; exact ho j q)) az_up_eq hs3 (fu_ta_step hcd (hta2.up3 hk9)) (hfr.up1.tr fr2).up3)
              · exact absurd c120 (by omega)
            · exact absurd c101 (by omega)
          · refine az_aload_n dX1_longFrom_85 ?_
            refine az_getf (v := .int (nI tv)) dX1_longFrom_86 fl_X1_98 e0 ?_
            refine az_if_eqN (tgt := 99) dX1_longFrom_89 (fun c89 => ?_) (fun c89 => ?_)
            · refine az_iload dX1_longFrom_99 ?_
              refine az_if_eqN (tgt := 118) dX1_longFrom_101 (fun c101 => ?_) (fun c101 => ?_)
              · exact absurd c101 (by omega)
              · refine az_aload_n dX1_longFrom_104 ?_
                refine az_getf (v := .int (nI tv)) dX1_longFrom_105 fl_X1_98 e0 ?_
                refine az_if_eqN (tgt := 118) dX1_longFrom_108 (fun c108 => ?_) (fun c108 => ?_)
                · refine az_iload dX1_longFrom_118 ?_
                  refine az_if_eqN (tgt := 127) dX1_longFrom_120 (fun c120 => ?_) (fun c120 => ?_)
                  · exact absurd c120 (by omega)
                  · refine az_iconst (v := nI 1) dX1_longFrom_123 ?_
                    refine az_goto (tgt := 135) dX1_longFrom_124 ?_
                    refine az_istore (ls' := [(0, .ref u), (1, .ref r), (2, .int (nI dp)), (3, .long (wa dp)), (5, .int (nI (1 - km))), (6, .int (nI ((fu_cat (fun tb => if wa dp = -1 ∨ wa dp = lN (fu_b w tb c) then (fu_lg w wa km (dp + 1) (fu_n w tb c)).map (List.cons tb) else []) tb).length))), (7, .int (nI tb)), (8, .int (nI 1))]) dX1_longFrom_135 ?_
                    first | (refine upd _ tb 1 s' h' ?_ rfl (by omega) hcd (by rw [hR0 tb (by omega)]; rfl) e0 es (fun j q => (by rw [hse j q, hR0 tb (by omega), fu_or_one, ite_self, Nat.or_zero])); intro s3 hs3; exact ih _ (by omega) (tb + 1) f' s3 _ rfl (by omega) (az_up_ne e1) ho az_up_eq hs3 (by rw [if_pos (by omega)] at hta' ⊢; exact hta'.up3 hk9) hfr.up3) | (refine upd _ tb 1 s' h2 ?_ rfl (by omega) hcd (by rw [hR0 tb (by omega)]; rfl) e0 es2 (fun j q => (by rw [hse j q, hR0 tb (by omega), fu_or_one, ite_self, Nat.or_zero])); intro s3 hs3; exact ih _ (by omega) (tb + 1) g s3 _ rfl (by omega) (az_up_ne e12) (fun j q => (by rw [q1 j q]; exact ho j q)) az_up_eq hs3 (by rw [if_neg (by omega), fu_FF hcd, List.map_append, fu_ads_app, fu_to_map, hR0 tb (by omega)]; exact hta2.up3 hk9) fr9.up3) | (refine upd _ tb _ s2 h2 ?_ rfl (by omega) hcd rfl e0 es2 hs2; intro s3 hs3; exact ih _ (by omega) (tb + 1) f2 s3 _ rfl (by omega) (az_up_ne e12) (fun j q => (by rw [ho2 j (by omega), q1 j q]; exact ho j q)) az_up_eq hs3 (fu_ta_step hcd (hta2.up3 hk9)) (hfr.up1.tr fr2).up3)
                · exact absurd c108 (by omega)
            · refine az_aload_n dX1_longFrom_92 ?_
              refine az_iload_n dX1_longFrom_93 ?_
              refine az_iload dX1_longFrom_94 ?_
              refine az_cV0 (st := []) dX1_longFrom_96 ml_X1_91 e0 (s_passNight (d := d - 1) (by omega) hw (hT'.to.nar (by omega) (by omega)) e0 e1 (dp := dp) (by omega) (tb := tb) (by omega) (c := c) (fun x q => (by rw [ho _ (by omega)]; exact hc x q)) (fun x q => Nat.lt_of_lt_of_le (hcb x q) (by decide)) ?_)
              intro g q1 q2
              refine az_iload dX1_longFrom_99 ?_
              refine az_if_eqN (tgt := 118) dX1_longFrom_101 (fun c101 => ?_) (fun c101 => ?_)
              · exact absurd c101 (by omega)
              · refine az_aload_n dX1_longFrom_104 ?_
                refine az_getf (v := .int (nI tv)) dX1_longFrom_105 fl_X1_98 (az_up_ne e0) ?_
                refine az_if_eqN (tgt := 118) dX1_longFrom_108 (fun c108 => ?_) (fun c108 => ?_)
                · exact absurd c108 (by omega)
                · refine az_aload_n dX1_longFrom_111 ?_
                  refine az_iload_n dX1_longFrom_112 ?_
                  refine az_iconst (v := nI 1) dX1_longFrom_113 ?_
                  refine az_iaddN dX1_longFrom_114 ?_
                  have hta1 := hta'.up1 (c := az_J 54 g) hk9
                  rw [if_neg c108] at hta1
                  have hcp1 := hcp tb (by omega) hcd (by omega)
                  rw [hR0 tb (by omega)] at hcp1
                  have hb1 := hbk tb
                  rw [show km = 0 by omega] at hb1
                  refine az_cV0 (st := []) dX1_longFrom_115 ml_X1_119 (az_up_ne e0) (s_tallyNext (d := d - 1) (by omega) hw hk9 (hT'.fr fu_fr.rf.up1) (az_up_ne e0) az_up_eq hta1 (by simpa using hcp1) (dp := dp + 1) (by omega) (c := fu_n w tb c) (fun x q => (by rw [show (dp + 1) * 6 + x = dp * 6 + 6 + x by omega]; exact q2 x q)) hb1 ?_)
                  intro h2 hta2 fr2
                  have fr9 : fu_fr u kk kt hp h2 := hfr.up1.f3 fr2
                  have e12 : h2.2 (u + 1) = some (az_J 54 g) := (fr2.2 (u + 1) (by omega) (by omega) (by omega)).trans az_up_eq
                  have es2 : h2.2 (u + 3) = some (az_I 8 s') := (fr2.2 (u + 3) (by omega) (by omega) (by omega)).trans (az_up_ne es)
                  refine az_iload dX1_longFrom_118 ?_
                  refine az_if_eqN (tgt := 127) dX1_longFrom_120 (fun c120 => ?_) (fun c120 => ?_)
                  · exact absurd c120 (by omega)
                  · refine az_iconst (v := nI 1) dX1_longFrom_123 ?_
                    refine az_goto (tgt := 135) dX1_longFrom_124 ?_
                    refine az_istore (ls' := [(0, .ref u), (1, .ref r), (2, .int (nI dp)), (3, .long (wa dp)), (5, .int (nI (1 - km))), (6, .int (nI ((fu_cat (fun tb => if wa dp = -1 ∨ wa dp = lN (fu_b w tb c) then (fu_lg w wa km (dp + 1) (fu_n w tb c)).map (List.cons tb) else []) tb).length))), (7, .int (nI tb)), (8, .int (nI 1))]) dX1_longFrom_135 ?_
                    first | (refine upd _ tb 1 s' h' ?_ rfl (by omega) hcd (by rw [hR0 tb (by omega)]; rfl) e0 es (fun j q => (by rw [hse j q, hR0 tb (by omega), fu_or_one, ite_self, Nat.or_zero])); intro s3 hs3; exact ih _ (by omega) (tb + 1) f' s3 _ rfl (by omega) (az_up_ne e1) ho az_up_eq hs3 (by rw [if_pos (by omega)] at hta' ⊢; exact hta'.up3 hk9) hfr.up3) | (refine upd _ tb 1 s' h2 ?_ rfl (by omega) hcd (by rw [hR0 tb (by omega)]; rfl) (fu_fr.at (u := u) (kk := kk) (kt := kt) (fu_fr.rf.f3 fr2) (az_up_ne e0)) es2 (fun j q => (by rw [hse j q, hR0 tb (by omega), fu_or_one, ite_self, Nat.or_zero])); intro s3 hs3; exact ih _ (by omega) (tb + 1) g s3 _ rfl (by omega) (az_up_ne e12) (fun j q => (by rw [q1 j q]; exact ho j q)) az_up_eq hs3 (by rw [if_neg (by omega), fu_FF hcd, List.map_append, fu_ads_app, fu_to_map, hR0 tb (by omega)]; exact hta2.up3 hk9) fr9.up3) | (refine upd _ tb _ s2 h2 ?_ rfl (by omega) hcd rfl (fu_fr.at (u := u) (kk := kk) (kt := kt) (fu_fr.rf.f3 fr2) (az_up_ne e0)) es2 hs2; intro s3 hs3; exact ih _ (by omega) (tb + 1) f2 s3 _ rfl (by omega) (az_up_ne e12) (fun j q => (by rw [ho2 j (by omega), q1 j q]; exact ho j q)) az_up_eq hs3 (fu_ta_step hcd (hta2.up3 hk9)) (hfr.up1.tr fr2).up3)
        · refine az_goto (tgt := 166) dX1_longFrom_77 ?_
          refine az_iincN (n := 1) (ls' := [(0, .ref u), (1, .ref r), (2, .int (nI dp)), (3, .long (wa dp)), (5, .int (nI (1 - km))), (6, .int (nI ((fu_cat (fun tb => if wa dp = -1 ∨ wa dp = lN (fu_b w tb c) then (fu_lg w wa km (dp + 1) (fu_n w tb c)).map (List.cons tb) else []) tb).length))), (7, .int (nI (tb + 1)))]) dX1_longFrom_166 ?_
          refine az_goto (tgt := 45) dX1_longFrom_169 ?_
          have hcn : ¬ (wa dp = -1 ∨ wa dp = lN (fu_b w tb c)) := (fun q => q.elim c61 c73)
          rw [← fu_FN (km := km) hcn] at hta' ⊢
          exact ih _ (by omega) (tb + 1) f' s' h' rfl (by omega) e1 ho es (fun j q => (by rw [fu_FN hcn]; exact hse j q)) hta' hfr
  refine az_M.of rfl (Nat.le_of_ble_eq_true rfl) ?_
  show az_W _ _ _ _ 0 [(0, .ref u), (1, .ref r), (2, .int (nI dp))] [] _ _
  refine az_iload_n dX1_longFrom_0 ?_
  refine az_aload_n dX1_longFrom_1 ?_
  refine az_getf (v := .int (nI x.2.length)) dX1_longFrom_2 fl_X1_109 hr0 ?_
  refine az_icmp_geN (tgt := 14) dX1_longFrom_5 (fun c5 => ?_) (fun c5 => ?_)
  · exact absurd c5 (by omega)
  · refine az_iload_n dX1_longFrom_8 ?_
    refine az_bipush (v := nI 8) dX1_longFrom_9 ?_
    refine az_icmp_ltN (tgt := 16) dX1_longFrom_11 (fun c11 => ?_) (fun c11 => ?_)
    · refine az_aload_n dX1_longFrom_16 ?_
      refine az_iload_n dX1_longFrom_17 ?_
      refine az_cV0 (st := []) dX1_longFrom_18 ml_X1_114 hr0 (s_get (d := d - 1) hR (i := dp) (by omega) ?_)
      rw [← hwa]
      refine az_lstore_n (ls' := [(0, .ref u), (1, .ref r), (2, .int (nI dp)), (3, .long (wa dp))]) dX1_longFrom_21 ?_
      refine az_iload_n dX1_longFrom_22 ?_
      refine az_aload_n dX1_longFrom_23 ?_
      refine az_getf (v := .int (nI x.2.length)) dX1_longFrom_24 fl_X1_109 hr0 ?_
      refine az_iconst (v := nI 1) dX1_longFrom_27 ?_
      refine az_isubN dX1_longFrom_28 (by omega) ?_
      refine az_icmp_neN (tgt := 36) dX1_longFrom_29 (fun c29 => ?_) (fun c29 => ?_)
      · refine az_iconst (v := nI 0) dX1_longFrom_36 ?_
        first | rw [show nI 0 = nI (1 - km) by rw [show 1 - km = 0 by omega]] | rw [show nI 1 = nI (1 - km) by rw [show 1 - km = 1 by omega]]
        refine az_istore (ls' := [(0, .ref u), (1, .ref r), (2, .int (nI dp)), (3, .long (wa dp)), (5, .int (nI (1 - km)))]) dX1_longFrom_37 ?_
        refine az_iconst (v := nI 0) dX1_longFrom_39 ?_
        refine az_istore (ls' := [(0, .ref u), (1, .ref r), (2, .int (nI dp)), (3, .long (wa dp)), (5, .int (nI (1 - km))), (6, .int (nI 0))]) dX1_longFrom_40 ?_
        refine az_iconst (v := nI 0) dX1_longFrom_42 ?_
        refine az_istore (ls' := [(0, .ref u), (1, .ref r), (2, .int (nI dp)), (3, .long (wa dp)), (5, .int (nI (1 - km))), (6, .int (nI 0)), (7, .int (nI 0))]) dX1_longFrom_43 ?_
        exact loop _ 0 f s hp rfl (Nat.zero_le _) h1 (fun j _ => rfl) h3 (fun j q => (by rw [hs j q]; show _ = nI (_ ||| (if _ then 0 else 0)); rw [ite_self, Nat.or_zero])) (by show ta_In hp (u + 4) S n kk kt (if tv = 0 then L else L); rw [ite_self]; exact hta) fu_fr.rf
      · refine az_iconst (v := nI 1) dX1_longFrom_32 ?_
        refine az_goto (tgt := 37) dX1_longFrom_33 ?_
        first | rw [show nI 0 = nI (1 - km) by rw [show 1 - km = 0 by omega]] | rw [show nI 1 = nI (1 - km) by rw [show 1 - km = 1 by omega]]
        refine az_istore (ls' := [(0, .ref u), (1, .ref r), (2, .int (nI dp)), (3, .long (wa dp)), (5, .int (nI (1 - km)))]) dX1_longFrom_37 ?_
        refine az_iconst (v := nI 0) dX1_longFrom_39 ?_
        refine az_istore (ls' := [(0, .ref u), (1, .ref r), (2, .int (nI dp)), (3, .long (wa dp)), (5, .int (nI (1 - km))), (6, .int (nI 0))]) dX1_longFrom_40 ?_
        refine az_iconst (v := nI 0) dX1_longFrom_42 ?_
        refine az_istore (ls' := [(0, .ref u), (1, .ref r), (2, .int (nI dp)), (3, .long (wa dp)), (5, .int (nI (1 - km))), (6, .int (nI 0)), (7, .int (nI 0))]) dX1_longFrom_43 ?_
        exact loop _ 0 f s hp rfl (Nat.zero_le _) h1 (fun j _ => rfl) h3 (fun j q => (by rw [hs j q]; show _ = nI (_ ||| (if _ then 0 else 0)); rw [ite_self, Nat.or_zero])) (by show ta_In hp (u + 4) S n kk kt (if tv = 0 then L else L); rw [ite_self]; exact hta) fu_fr.rf
    · exact absurd c11 (by omega)
