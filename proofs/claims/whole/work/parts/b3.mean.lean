/-! The model: mean -/
set_option maxHeartbeats 4000000 in
set_option maxRecDepth 100000 in
theorem m_meanW {sc : Nat → Value} {A : Nat → Nat} {v : rd_V} {d n kk mo ni : Nat} {bs : List Nat} {gm : Nat → Nat} {hp : az_Hp} {Q : Option Value → az_Hp → Prop} (hd : 60 ≤ d) (hw : ln_ok (rd_w v)) (hb : ln_by (rd_w v) bs) (hV : mV A v) (hn : n ≤ 6) (hk2 : kk < 2) (h64 : hp.2 64 = some (mo_o sc)) (h65 : hp.2 65 = some (az_I 3318 (fun j => nI (A j)))) (h81 : hp.2 81 = some (az_J 84 (fun j => lN (gm j)))) (hgm : ∀ c, c < 6 → gm c = (ln_str (rd_w v) bs).count c) (hkm : mk hp) (hQ : ∀ h', mf hp h' [88, 89] → mk h' → Q (some (.long (lN ((if kk = 0 then fu_l (fu_ai (rd_w v) (fun x => (ln_str (rd_w v) bs).count x) n) else ln_tb (rd_w v) ^ n) / Nat.gcd (fu_l (fu_ai (rd_w v) (fun x => (ln_str (rd_w v) bs).count x) n)) (ln_tb (rd_w v) ^ n))))) h') : az_W mX12_mean d 0 0 39 [(0, .ref 64), (1, .int (nI n)), (2, .int (nI kk))] [] hp Q := by
  have ht3 := hw.2.1
  have ht1 := hw.1
  have hA1 : A 1 = ln_tb (rd_w v) := hV.2.1
  have hTn : ln_tb (rd_w v) ^ n ≤ 3 ^ 6 := Nat.le_trans (Nat.pow_le_pow_left ht3 n) (Nat.pow_le_pow_right (by decide) hn)
  have hT1 : 1 ≤ ln_tb (rd_w v) ^ n := Nat.one_le_pow _ _ ht1
  have hp36 : 3 ^ 6 = 729 := rfl
  have hai := fu_ai_lt hw hb hn
  obtain ⟨f88, c88⟩ := hkm.J (q := 88) (n := 6)
  obtain ⟨f89, c89⟩ := hkm.J (q := 89) (n := 6)
  obtain ⟨g88, rfl⟩ := lN_ex f88
  obtain ⟨g89, rfl⟩ := lN_ex f89
  have loopC : ∀ (k : Nat) (i : Nat) (lk : Nat → Nat) (h' : az_Hp) (i3 : Nat) (lt : Nat → Nat) (h0 : az_Hp) (e0 : h0.2 64 = some (mo_o sc)) (e89 : h0.2 89 = some (az_J 6 (fun j => lN (lt j)))) (hK : ∀ lk2 : Nat → Nat, (∀ j, j < 6 → lk2 j = lt j) → ∀ i2 : Nat, az_W mX12_mean d 0 0 209 [(0, .ref 64), (1, .int (nI n)), (2, .int (nI kk)), (3, .int (nI i3)), (4, .int (nI i2))] [] (az_up h0 88 (az_J 6 (fun j => lN (lk2 j)))) Q), 6 - i = k → (i ≤ 6) → (∀ j, j < i → lk j = lt j) → (h' = az_up h0 88 (az_J 6 (fun j => lN (lk j)))) → az_W mX12_mean d 0 0 182 [(0, .ref 64), (1, .int (nI n)), (2, .int (nI kk)), (3, .int (nI i3)), (4, .int (nI i))] [] h' Q := by
    intro k
    induction k using Nat.strongRecOn with
    | _ k ih =>
    intro i lk h' i3 lt h0 e0 e89 hK hk hi hF he
    refine az_iload dX12_mean_182 ?_
    refine az_bipush (v := nI 6) dX12_mean_184 ?_
    refine az_icmp_geN (tgt := 209) dX12_mean_186 (fun c186 => ?_) (fun c186 => ?_)
    · exact (by have := hK lk (fun j hj => hF j (by omega)) i; rw [← he] at this; exact this)
    · refine az_aload_n dX12_mean_189 ?_
      refine az_getf (v := .ref 88) dX12_mean_190 fl_X12_88 (by rw [he]; exact az_up_ne e0) ?_
      refine az_iload dX12_mean_193 ?_
      refine az_aload_n dX12_mean_195 ?_
      refine az_getf (v := .ref 89) dX12_mean_196 fl_X12_91 (by rw [he]; exact az_up_ne e0) ?_
      refine az_iload dX12_mean_199 ?_
      refine az_laldN (j := i) dX12_mean_201 (by rw [he]; exact az_up_ne e89) ?_
      refine az_lastN (j := i) dX12_mean_202 (by rw [he]; exact az_up_eq) ?_
      rw [az_s_lN]
      refine az_iincN (n := 1) (ls' := [(0, .ref 64), (1, .int (nI n)), (2, .int (nI kk)), (3, .int (nI i3)), (4, .int (nI (i + 1)))]) dX12_mean_203 ?_
      refine az_goto (tgt := 182) dX12_mean_206 ?_
      exact ih _ (by omega) (i + 1) (az_s lk i (lt i)) _ i3 lt h0 e0 e89 hK rfl (by omega) (fun j hj => (by by_cases e : j = i; rw [e, az_s_eq]; rw [az_s_ne e]; exact hF j (by omega))) (by rw [he, az_up_up])
  have loopB : ∀ (k : Nat) (tb c i : Nat) (lt : Nat → Nat) (h' : az_Hp) (i3 : Nat) (cf lk : Nat → Nat) (h0 : az_Hp) (e0 : h0.2 64 = some (mo_o sc)) (e65 : h0.2 65 = some (az_I 3318 (fun j => nI (A j)))) (e88 : h0.2 88 = some (az_J 6 (fun j => lN (lk j)))) (hlk : ∀ j, j < 6 → lk j = cf j) (hK : ∀ lt2 : Nat → Nat, (∀ y, y < 6 → lt2 y = sm (fun t9 => fu_n (rd_w v) t9 cf y) (ln_tb (rd_w v))) → ∀ i4 i5 i6 : Nat, az_W mX12_mean d 0 0 179 [(0, .ref 64), (1, .int (nI n)), (2, .int (nI kk)), (3, .int (nI i3)), (4, .int (nI i4)), (5, .int (nI i5)), (6, .int (nI i6))] [] (az_up h0 89 (az_J 6 (fun j => lN (lt2 j)))) Q), ((3 - tb) * 10 + (6 - c)) * 10 + (4 - i) = k → (tb < ln_tb (rd_w v)) → (c < 6) → (i ≤ ln_sz (rd_w v) (tb * 6 + c)) → (∀ y, y < 6 → lt y = sm (fun t9 => fu_n (rd_w v) t9 cf y) tb + fu_p (rd_w v) tb cf c i y) → (h' = az_up h0 89 (az_J 6 (fun j => lN (lt j)))) → az_W mX12_mean d 0 0 123 [(0, .ref 64), (1, .int (nI n)), (2, .int (nI kk)), (3, .int (nI i3)), (4, .int (nI tb)), (5, .int (nI c)), (6, .int (nI i))] [] h' Q := by
    intro k
    induction k using Nat.strongRecOn with
    | _ k ih =>
    intro tb c i lt h' i3 cf lk h0 e0 e65 e88 hlk hK hk htb hc hi hF he
    have b64 : h'.2 64 = some (mo_o sc) := (by rw [he]; exact az_up_ne e0)
    have b65 : h'.2 65 = some (az_I 3318 (fun j => nI (A j))) := (by rw [he]; exact az_up_ne e65)
    have hz4 := hw.2.2.2.2.2.2.1 (tb * 6 + c)
    refine az_iload dX12_mean_123 ?_
    refine az_aload_n dX12_mean_125 ?_
    refine az_iload dX12_mean_126 ?_
    refine az_iload dX12_mean_128 ?_
    refine az_cV0 (st := [.int (nI i)]) dX12_mean_130 ml_X12_239 b64 (m_becomeMany (d := d - 1) (v := v) (tb := tb) (x := c) b64 b65 hV (by omega) (by omega) ?_)
    refine az_icmp_geN (tgt := 167) dX12_mean_133 (fun c133 => ?_) (fun c133 => ?_)
    · refine az_iincN (n := 1) (ls' := [(0, .ref 64), (1, .int (nI n)), (2, .int (nI kk)), (3, .int (nI i3)), (4, .int (nI tb)), (5, .int (nI (c + 1))), (6, .int (nI i))]) dX12_mean_167 ?_
      refine az_goto (tgt := 113) dX12_mean_170 ?_
      refine az_iload dX12_mean_113 ?_
      refine az_bipush (v := nI 6) dX12_mean_115 ?_
      refine az_icmp_geN (tgt := 173) dX12_mean_117 (fun c117 => ?_) (fun c117 => ?_)
      · refine az_iincN (n := 1) (ls' := [(0, .ref 64), (1, .int (nI n)), (2, .int (nI kk)), (3, .int (nI i3)), (4, .int (nI (tb + 1))), (5, .int (nI (c + 1))), (6, .int (nI i))]) dX12_mean_173 ?_
        refine az_goto (tgt := 99) dX12_mean_176 ?_
        refine az_iload dX12_mean_99 ?_
        refine az_aload_n dX12_mean_101 ?_
        refine az_getf (v := .ref 65) dX12_mean_102 fl_X12_13 b64 ?_
        refine az_iconst (v := nI 1) dX12_mean_105 ?_
        refine az_ialdN (j := 1) dX12_mean_106 b65 ?_
        rw [hA1]
        refine az_icmp_geN (tgt := 179) dX12_mean_107 (fun c107 => ?_) (fun c107 => ?_)
        · exact (by have := hK lt (fun y hy => (by rw [hF y hy, show i = ln_sz (rd_w v) (tb * 6 + c) by omega, fu_p_full, show c + 1 = 6 by omega, show ln_tb (rd_w v) = tb + 1 by omega]; rfl)) (tb + 1) (c + 1) i; rw [← he] at this; exact this)
        · refine az_iconst (v := nI 0) dX12_mean_110 ?_
          refine az_istore (ls' := [(0, .ref 64), (1, .int (nI n)), (2, .int (nI kk)), (3, .int (nI i3)), (4, .int (nI (tb + 1))), (5, .int (nI 0)), (6, .int (nI i))]) dX12_mean_111 ?_
          refine az_iload dX12_mean_113 ?_
          refine az_bipush (v := nI 6) dX12_mean_115 ?_
          refine az_icmp_geN (tgt := 173) dX12_mean_117 (fun c117 => ?_) (fun c117 => ?_)
          · exact absurd c117 (by decide)
          · refine az_iconst (v := nI 0) dX12_mean_120 ?_
            refine az_istore (ls' := [(0, .ref 64), (1, .int (nI n)), (2, .int (nI kk)), (3, .int (nI i3)), (4, .int (nI (tb + 1))), (5, .int (nI 0)), (6, .int (nI 0))]) dX12_mean_121 ?_
            first | exact ih _ (by omega) tb c (i + 1) (az_s lt (ln_ch (rd_w v) ((tb * 6 + c) * 4 + i)) (sm (fun t9 => fu_n (rd_w v) t9 cf (ln_ch (rd_w v) ((tb * 6 + c) * 4 + i))) tb + fu_p (rd_w v) tb cf c i (ln_ch (rd_w v) ((tb * 6 + c) * 4 + i)) + cf c)) _ i3 cf lk h0 e0 e65 e88 hlk hK rfl htb hc (by omega) (fun y hy => (by rw [fu_p_step (by omega)]; by_cases e : y = ln_ch (rd_w v) ((tb * 6 + c) * 4 + i); rw [e, az_s_eq, if_pos rfl, Nat.add_assoc]; rw [az_s_ne (by omega), if_neg e, Nat.add_zero]; exact hF y hy)) (by rw [he, az_up_up]) | exact ih _ (by omega) tb (c + 1) 0 lt h' i3 cf lk h0 e0 e65 e88 hlk hK rfl htb (by omega) (Nat.zero_le _) (fun y hy => (by rw [hF y hy, show i = ln_sz (rd_w v) (tb * 6 + c) by omega, fu_p_full, fu_p_0])) he | exact ih _ (by omega) (tb + 1) 0 0 lt h' i3 cf lk h0 e0 e65 e88 hlk hK rfl (by omega) (by decide) (Nat.zero_le _) (fun y hy => (by rw [hF y hy, show i = ln_sz (rd_w v) (tb * 6 + c) by omega, fu_p_full, show c + 1 = 6 by omega]; rfl)) he
      · refine az_iconst (v := nI 0) dX12_mean_120 ?_
        refine az_istore (ls' := [(0, .ref 64), (1, .int (nI n)), (2, .int (nI kk)), (3, .int (nI i3)), (4, .int (nI tb)), (5, .int (nI (c + 1))), (6, .int (nI 0))]) dX12_mean_121 ?_
        first | exact ih _ (by omega) tb c (i + 1) (az_s lt (ln_ch (rd_w v) ((tb * 6 + c) * 4 + i)) (sm (fun t9 => fu_n (rd_w v) t9 cf (ln_ch (rd_w v) ((tb * 6 + c) * 4 + i))) tb + fu_p (rd_w v) tb cf c i (ln_ch (rd_w v) ((tb * 6 + c) * 4 + i)) + cf c)) _ i3 cf lk h0 e0 e65 e88 hlk hK rfl htb hc (by omega) (fun y hy => (by rw [fu_p_step (by omega)]; by_cases e : y = ln_ch (rd_w v) ((tb * 6 + c) * 4 + i); rw [e, az_s_eq, if_pos rfl, Nat.add_assoc]; rw [az_s_ne (by omega), if_neg e, Nat.add_zero]; exact hF y hy)) (by rw [he, az_up_up]) | exact ih _ (by omega) tb (c + 1) 0 lt h' i3 cf lk h0 e0 e65 e88 hlk hK rfl htb (by omega) (Nat.zero_le _) (fun y hy => (by rw [hF y hy, show i = ln_sz (rd_w v) (tb * 6 + c) by omega, fu_p_full, fu_p_0])) he | exact ih _ (by omega) (tb + 1) 0 0 lt h' i3 cf lk h0 e0 e65 e88 hlk hK rfl (by omega) (by decide) (Nat.zero_le _) (fun y hy => (by rw [hF y hy, show i = ln_sz (rd_w v) (tb * 6 + c) by omega, fu_p_full, show c + 1 = 6 by omega]; rfl)) he
    · refine az_aload_n dX12_mean_136 ?_
      refine az_getf (v := .ref 89) dX12_mean_137 fl_X12_91 b64 ?_
      refine az_aload_n dX12_mean_140 ?_
      refine az_iload dX12_mean_141 ?_
      refine az_iload dX12_mean_143 ?_
      refine az_iload dX12_mean_145 ?_
      refine az_cV0 (st := [.ref 89]) dX12_mean_147 ml_X12_242 b64 (m_becomeOf (d := d - 1) (v := v) (tb := tb) (x := c) (i := i) b64 b65 hV hw (by omega) (by omega) (by omega) ?_)
      have hc6 := hw.2.2.2.2.2.2.2.1 ((tb * 6 + c) * 4 + i)
      refine az_dup2_11 dX12_mean_150 ?_
      refine az_laldN (j := ln_ch (rd_w v) ((tb * 6 + c) * 4 + i)) dX12_mean_151 (by rw [he]; exact az_up_eq) ?_
      rw [hF (ln_ch (rd_w v) ((tb * 6 + c) * 4 + i)) hc6]
      refine az_aload_n dX12_mean_152 ?_
      refine az_getf (v := .ref 88) dX12_mean_153 fl_X12_88 b64 ?_
      refine az_iload dX12_mean_156 ?_
      refine az_laldN (j := c) dX12_mean_158 (by rw [he]; exact az_up_ne e88) ?_
      rw [hlk c (by omega)]
      refine az_laddN dX12_mean_159 ?_
      refine az_lastN (j := ln_ch (rd_w v) ((tb * 6 + c) * 4 + i)) dX12_mean_160 (by rw [he]; exact az_up_eq) ?_
      rw [az_s_lN]
      refine az_iincN (n := 1) (ls' := [(0, .ref 64), (1, .int (nI n)), (2, .int (nI kk)), (3, .int (nI i3)), (4, .int (nI tb)), (5, .int (nI c)), (6, .int (nI (i + 1)))]) dX12_mean_161 ?_
      refine az_goto (tgt := 123) dX12_mean_164 ?_
      first | exact ih _ (by omega) tb c (i + 1) (az_s lt (ln_ch (rd_w v) ((tb * 6 + c) * 4 + i)) (sm (fun t9 => fu_n (rd_w v) t9 cf (ln_ch (rd_w v) ((tb * 6 + c) * 4 + i))) tb + fu_p (rd_w v) tb cf c i (ln_ch (rd_w v) ((tb * 6 + c) * 4 + i)) + cf c)) _ i3 cf lk h0 e0 e65 e88 hlk hK rfl htb hc (by omega) (fun y hy => (by rw [fu_p_step (by omega)]; by_cases e : y = ln_ch (rd_w v) ((tb * 6 + c) * 4 + i); rw [e, az_s_eq, if_pos rfl, Nat.add_assoc]; rw [az_s_ne (by omega), if_neg e, Nat.add_zero]; exact hF y hy)) (by rw [he, az_up_up]) | exact ih _ (by omega) tb (c + 1) 0 lt h' i3 cf lk h0 e0 e65 e88 hlk hK rfl htb (by omega) (Nat.zero_le _) (fun y hy => (by rw [hF y hy, show i = ln_sz (rd_w v) (tb * 6 + c) by omega, fu_p_full, fu_p_0])) he | exact ih _ (by omega) (tb + 1) 0 0 lt h' i3 cf lk h0 e0 e65 e88 hlk hK rfl (by omega) (by decide) (Nat.zero_le _) (fun y hy => (by rw [hF y hy, show i = ln_sz (rd_w v) (tb * 6 + c) by omega, fu_p_full, show c + 1 = 6 by omega]; rfl)) he
  have loopA : ∀ (k : Nat) (i : Nat) (lt : Nat → Nat) (h' : az_Hp) (i3 : Nat) (h0 : az_Hp) (e0 : h0.2 64 = some (mo_o sc)) (hK : ∀ lt2 : Nat → Nat, (∀ j, j < 6 → lt2 j = 0) → ∀ i4 : Nat, az_W mX12_mean d 0 0 96 [(0, .ref 64), (1, .int (nI n)), (2, .int (nI kk)), (3, .int (nI i3)), (4, .int (nI i4))] [] (az_up h0 89 (az_J 6 (fun j => lN (lt2 j)))) Q), 6 - i = k → (i ≤ 6) → (∀ j, j < i → lt j = 0) → (h' = az_up h0 89 (az_J 6 (fun j => lN (lt j)))) → az_W mX12_mean d 0 0 75 [(0, .ref 64), (1, .int (nI n)), (2, .int (nI kk)), (3, .int (nI i3)), (4, .int (nI i))] [] h' Q := by
    intro k
    induction k using Nat.strongRecOn with
    | _ k ih =>
    intro i lt h' i3 h0 e0 hK hk hi hF he
    refine az_iload dX12_mean_75 ?_
    refine az_bipush (v := nI 6) dX12_mean_77 ?_
    refine az_icmp_geN (tgt := 96) dX12_mean_79 (fun c79 => ?_) (fun c79 => ?_)
    · exact (by have := hK lt (fun j hj => hF j (by omega)) i; rw [← he] at this; exact this)
    · refine az_aload_n dX12_mean_82 ?_
      refine az_getf (v := .ref 89) dX12_mean_83 fl_X12_91 (by rw [he]; exact az_up_ne e0) ?_
      refine az_iload dX12_mean_86 ?_
      refine az_lconst (v := lN 0) dX12_mean_88 ?_
      refine az_lastN (j := i) dX12_mean_89 (by rw [he]; exact az_up_eq) ?_
      rw [az_s_lN]
      refine az_iincN (n := 1) (ls' := [(0, .ref 64), (1, .int (nI n)), (2, .int (nI kk)), (3, .int (nI i3)), (4, .int (nI (i + 1)))]) dX12_mean_90 ?_
      refine az_goto (tgt := 75) dX12_mean_93 ?_
      exact ih _ (by omega) (i + 1) (az_s lt i 0) _ i3 h0 e0 hK rfl (by omega) (fun j hj => (by by_cases e : j = i; rw [e, az_s_eq]; rw [az_s_ne e]; exact hF j (by omega))) (by rw [he, az_up_up])
  have loopS : ∀ (k : Nat) (i : Nat) (lk : Nat → Nat) (h' : az_Hp) (b64 : h'.2 64 = some (mo_o sc)) (b65 : h'.2 65 = some (az_I 3318 (fun j => nI (A j)))) (b88 : h'.2 88 = some (az_J 6 (fun j => lN (lk j)))) (hF : ∀ j, j < 6 → lk j = (fu_ai (rd_w v) (fun x => (ln_str (rd_w v) bs).count x) n) j) (mf1 : mf hp h' [88, 89]) (mk1' : mk h'), 6 - i = k → (i ≤ 6) → az_W mX12_mean d 0 0 220 [(0, .ref 64), (1, .int (nI n)), (2, .int (nI kk)), (3, .long (lN (sm (fu_ai (rd_w v) (fun x => (ln_str (rd_w v) bs).count x) n) i))), (5, .int (nI i))] [] h' Q := by
    intro k
    induction k using Nat.strongRecOn with
    | _ k ih =>
    intro i lk h' b64 b65 b88 hF mf1 mk1' hk hi
    refine az_iload dX12_mean_220 ?_
    refine az_bipush (v := nI 6) dX12_mean_222 ?_
    refine az_icmp_geN (tgt := 243) dX12_mean_224 (fun c224 => ?_) (fun c224 => ?_)
    · obtain rfl : i = 6 := (by omega)
      rw [show sm (fu_ai (rd_w v) (fun x => (ln_str (rd_w v) bs).count x) n) 6 = fu_l (fu_ai (rd_w v) (fun x => (ln_str (rd_w v) bs).count x) n) from rfl]
      refine az_lload_n dX12_mean_243 ?_
      refine az_aload_n dX12_mean_244 ?_
      refine az_iload_n dX12_mean_245 ?_
      refine az_cV0 (st := [.long (lN (fu_l (fu_ai (rd_w v) (fun x => (ln_str (rd_w v) bs).count x) n)))]) dX12_mean_246 ml_X12_480 b64 (m_wholeOf (d := d - 1) (n := n) b64 b65 hV (by omega) hw ?_)
      refine az_iload_n dX12_mean_249 ?_
      refine az_cS0 (st := []) dX12_mean_250 ml_X12_483 (m_part (d := d - 1) (k9 := 20) (a := fu_l (fu_ai (rd_w v) (fun x => (ln_str (rd_w v) bs).count x) n)) (b := ln_tb (rd_w v) ^ n) (by omega) hai (by omega) hT1 (by omega) hk2 ?_)
      exact az_lret dX12_mean_253 (hQ h' mf1 mk1')
    · refine az_lload_n dX12_mean_227 ?_
      refine az_aload_n dX12_mean_228 ?_
      refine az_getf (v := .ref 88) dX12_mean_229 fl_X12_88 b64 ?_
      refine az_iload dX12_mean_232 ?_
      refine az_laldN (j := i) dX12_mean_234 b88 ?_
      rw [hF i (by omega)]
      refine az_laddN dX12_mean_235 ?_
      rw [show sm (fu_ai (rd_w v) (fun x => (ln_str (rd_w v) bs).count x) n) i + (fu_ai (rd_w v) (fun x => (ln_str (rd_w v) bs).count x) n) i = sm (fu_ai (rd_w v) (fun x => (ln_str (rd_w v) bs).count x) n) (i + 1) from rfl]
      refine az_lstore_n (ls' := [(0, .ref 64), (1, .int (nI n)), (2, .int (nI kk)), (3, .long (lN (sm (fu_ai (rd_w v) (fun x => (ln_str (rd_w v) bs).count x) n) (i + 1)))), (5, .int (nI i))]) dX12_mean_236 ?_
      refine az_iincN (n := 1) (ls' := [(0, .ref 64), (1, .int (nI n)), (2, .int (nI kk)), (3, .long (lN (sm (fu_ai (rd_w v) (fun x => (ln_str (rd_w v) bs).count x) n) (i + 1)))), (5, .int (nI (i + 1)))]) dX12_mean_237 ?_
      refine az_goto (tgt := 220) dX12_mean_240 ?_
      exact ih _ (by omega) (i + 1) lk h' b64 b65 b88 hF mf1 mk1' rfl (by omega)
  have loopN : ∀ (k : Nat) (i3 : Nat) (lk lt : Nat → Nat) (h' : az_Hp), n - i3 = k → (i3 ≤ n) → (h'.2 88 = some (az_J 6 (fun j => lN (lk j)))) → (h'.2 89 = some (az_J 6 (fun j => lN (lt j)))) → (∀ j, j < 6 → lk j = (fu_ai (rd_w v) (fun x => (ln_str (rd_w v) bs).count x) i3) j) → (mf hp h' [88, 89]) → (mk h') → az_W mX12_mean d 0 0 67 [(0, .ref 64), (1, .int (nI n)), (2, .int (nI kk)), (3, .int (nI i3))] [] h' Q := by
    intro k
    induction k using Nat.strongRecOn with
    | _ k ih =>
    intro i3 lk lt h' hk hi3 b88 b89 hF mf1 mk1'
    have b64 : h'.2 64 = some (mo_o sc) := mf1.at h64
    have b65 : h'.2 65 = some (az_I 3318 (fun j => nI (A j))) := mf1.at h65
    refine az_iload_n dX12_mean_67 ?_
    refine az_iload_n dX12_mean_68 ?_
    refine az_icmp_geN (tgt := 215) dX12_mean_69 (fun c69 => ?_) (fun c69 => ?_)
    · refine az_lconst (v := lN 0) dX12_mean_215 ?_
      refine az_lstore_n (ls' := [(0, .ref 64), (1, .int (nI n)), (2, .int (nI kk)), (3, .long (lN 0))]) dX12_mean_216 ?_
      refine az_iconst (v := nI 0) dX12_mean_217 ?_
      refine az_istore (ls' := [(0, .ref 64), (1, .int (nI n)), (2, .int (nI kk)), (3, .long (lN 0)), (5, .int (nI 0))]) dX12_mean_218 ?_
      exact loopS _ 0 lk h' b64 b65 b88 (fun j hj => (by rw [hF j hj, show i3 = n by omega])) mf1 mk1' rfl (Nat.zero_le _)
    · refine az_iconst (v := nI 0) dX12_mean_72 ?_
      refine az_istore (ls' := [(0, .ref 64), (1, .int (nI n)), (2, .int (nI kk)), (3, .int (nI i3)), (4, .int (nI 0))]) dX12_mean_73 ?_
      refine loopA _ 0 lt h' i3 h' b64 (fun lt2 z2 i4 => ?_) rfl (Nat.zero_le _) (fun j hj => absurd hj (by omega)) (az_up_same b89).symm
      refine az_iconst (v := nI 0) dX12_mean_96 ?_
      refine az_istore (ls' := [(0, .ref 64), (1, .int (nI n)), (2, .int (nI kk)), (3, .int (nI i3)), (4, .int (nI 0))]) dX12_mean_97 ?_
      refine az_iload dX12_mean_99 ?_
      refine az_aload_n dX12_mean_101 ?_
      refine az_getf (v := .ref 65) dX12_mean_102 fl_X12_13 (az_up_ne b64) ?_
      refine az_iconst (v := nI 1) dX12_mean_105 ?_
      refine az_ialdN (j := 1) dX12_mean_106 (az_up_ne b65) ?_
      rw [hA1]
      refine az_icmp_geN (tgt := 179) dX12_mean_107 (fun c107 => ?_) (fun c107 => ?_)
      · exact absurd c107 (by omega)
      · refine az_iconst (v := nI 0) dX12_mean_110 ?_
        refine az_istore (ls' := [(0, .ref 64), (1, .int (nI n)), (2, .int (nI kk)), (3, .int (nI i3)), (4, .int (nI 0)), (5, .int (nI 0))]) dX12_mean_111 ?_
        refine az_iload dX12_mean_113 ?_
        refine az_bipush (v := nI 6) dX12_mean_115 ?_
        refine az_icmp_geN (tgt := 173) dX12_mean_117 (fun c117 => ?_) (fun c117 => ?_)
        · exact absurd c117 (by decide)
        · refine az_iconst (v := nI 0) dX12_mean_120 ?_
          refine az_istore (ls' := [(0, .ref 64), (1, .int (nI n)), (2, .int (nI kk)), (3, .int (nI i3)), (4, .int (nI 0)), (5, .int (nI 0)), (6, .int (nI 0))]) dX12_mean_121 ?_
          refine loopB _ 0 0 0 lt2 _ i3 (fu_ai (rd_w v) (fun x => (ln_str (rd_w v) bs).count x) i3) lk _ (az_up_ne b64) (az_up_ne b65) (az_up_ne b88) hF (fun lt3 z3 i4 i5 i6 => ?_) rfl (by omega) (by decide) (Nat.zero_le _) (fun j hj => (by rw [z2 j hj, fu_p_0]; rfl)) (az_up_same az_up_eq).symm
          rw [az_up_up]
          refine az_iconst (v := nI 0) dX12_mean_179 ?_
          refine az_istore (ls' := [(0, .ref 64), (1, .int (nI n)), (2, .int (nI kk)), (3, .int (nI i3)), (4, .int (nI 0)), (5, .int (nI i5)), (6, .int (nI i6))]) dX12_mean_180 ?_
          refine az_W.keep (ls' := [(0, .ref 64), (1, .int (nI n)), (2, .int (nI kk)), (3, .int (nI i3)), (4, .int (nI 0))]) [0, 1, 2, 3, 4] rfl ?_
          refine loopC _ 0 lk _ i3 lt3 _ (az_up_ne b64) az_up_eq (fun lk2 z4 i4 => ?_) rfl (Nat.zero_le _) (fun j hj => absurd hj (by omega)) (az_up_same (az_up_ne b88)).symm
          refine az_iincN (n := 1) (ls' := [(0, .ref 64), (1, .int (nI n)), (2, .int (nI kk)), (3, .int (nI (i3 + 1))), (4, .int (nI i4))]) dX12_mean_209 ?_
          refine az_goto (tgt := 67) dX12_mean_212 ?_
          refine az_W.keep (ls' := [(0, .ref 64), (1, .int (nI n)), (2, .int (nI kk)), (3, .int (nI (i3 + 1)))]) [0, 1, 2, 3] rfl ?_
          exact ih _ (by omega) (i3 + 1) lk2 lt3 _ rfl (by omega) az_up_eq (az_up_ne az_up_eq) (fun j hj => (by rw [z4 j hj, z3 j hj]; rfl)) ((mf1.up (by decide)).up (by decide)) (mk.uJ (mk.uJ mk1' rfl) rfl)
  have loop1 : ∀ (k : Nat) (i : Nat) (lk : Nat → Nat) (h' : az_Hp), 6 - i = k → (i ≤ 6) → (∀ j, j < i → lk j = (fu_ai (rd_w v) (fun x => (ln_str (rd_w v) bs).count x) 0) j) → (h' = az_up hp 88 (az_J 6 (fun j => lN (lk j)))) → az_W mX12_mean d 0 0 41 [(0, .ref 64), (1, .int (nI n)), (2, .int (nI kk)), (3, .int (nI i))] [] h' Q := by
    intro k
    induction k using Nat.strongRecOn with
    | _ k ih =>
    intro i lk h' hk hi hF he
    refine az_iload_n dX12_mean_41 ?_
    refine az_bipush (v := nI 6) dX12_mean_42 ?_
    refine az_icmp_geN (tgt := 65) dX12_mean_44 (fun c44 => ?_) (fun c44 => ?_)
    · refine az_iconst (v := nI 0) dX12_mean_65 ?_
      refine az_istore_n (ls' := [(0, .ref 64), (1, .int (nI n)), (2, .int (nI kk)), (3, .int (nI 0))]) dX12_mean_66 ?_
      exact loopN _ 0 lk g89 h' rfl (Nat.zero_le _) (by rw [he]; exact az_up_eq) (by rw [he]; exact az_up_ne c89) (fun j hj => hF j (by omega)) (by rw [he]; exact mf.rf.up (by decide)) (by rw [he]; exact mk.uJ hkm rfl)
    · refine az_aload_n dX12_mean_47 ?_
      refine az_getf (v := .ref 88) dX12_mean_48 fl_X12_88 (by rw [he]; exact az_up_ne h64) ?_
      refine az_iload_n dX12_mean_51 ?_
      refine az_aload_n dX12_mean_52 ?_
      refine az_getf (v := .ref 81) dX12_mean_53 fl_X12_67 (by rw [he]; exact az_up_ne h64) ?_
      refine az_iload_n dX12_mean_56 ?_
      refine az_laldN (j := i) dX12_mean_57 (by rw [he]; exact az_up_ne h81) ?_
      refine az_lastN (j := i) dX12_mean_58 (by rw [he]; exact az_up_eq) ?_
      rw [az_s_lN]
      refine az_iincN (n := 1) (ls' := [(0, .ref 64), (1, .int (nI n)), (2, .int (nI kk)), (3, .int (nI (i + 1)))]) dX12_mean_59 ?_
      refine az_goto (tgt := 41) dX12_mean_62 ?_
      exact ih _ (by omega) (i + 1) (az_s lk i (gm i)) _ rfl (by omega) (fun j hj => (by by_cases e : j = i; rw [e, az_s_eq]; exact hgm i (by omega); rw [az_s_ne e]; exact hF j (by omega))) (by rw [he, az_up_up])
  refine az_iconst (v := nI 0) dX12_mean_39 ?_
  refine az_istore_n (ls' := [(0, .ref 64), (1, .int (nI n)), (2, .int (nI kk)), (3, .int (nI 0))]) dX12_mean_40 ?_
  exact loop1 _ 0 g88 hp rfl (Nat.zero_le _) (fun j hj => absurd hj (by omega)) (az_up_same c88).symm
set_option maxHeartbeats 4000000 in
set_option maxRecDepth 100000 in
theorem q_mean {d : Nat} {xn xw : Int32} {tp fk mo ni : Nat} {bt : Nat → Nat} {fp : Int32} {v : rd_V} {bs : List Nat} {U : ln_U} {im : Nat → Option (rd_V × ln_Z)} {tr : Nat → Option (Nat × List Int64)} {hp : az_Hp} {Q : Option Value → az_Hp → Prop} (hd : 64 ≤ d) (hok : cs_ok ((tp, bt), (fk, fp), v, (mo, ni, bs), U, im, tr)) (hM : mm hp ((tp, bt), (fk, fp), v, (mo, ni, bs), U, im, tr)) (hQ2 : ¬ cs_in xw 2 → ∀ h', mm h' ((tp, bt), (fk, fp), v, (mo, ni, bs), U, im, tr) → az_fr hp h' 64 93 → Q (some (.long (-2))) h') (hQ3 : cs_in xw 2 → ¬ cs_in xn 7 → ∀ h', mm h' ((tp, bt), (fk, fp), v, (mo, ni, bs), U, im, tr) → az_fr hp h' 64 93 → Q (some (.long (-3))) h') (hQ : ∀ n k, xn = nI n → n < 7 → xw = nI k → k < 2 → ∀ h', mm h' ((tp, bt), (fk, fp), v, (mo, ni, bs), U, im, tr) → az_fr hp h' 64 93 → Q (some (.long (lN ((if k = 0 then fu_l (fu_ai (rd_w v) (fun x => (ln_str (rd_w v) bs).count x) n) else ln_tb (rd_w v) ^ n) / Nat.gcd (fu_l (fu_ai (rd_w v) (fun x => (ln_str (rd_w v) bs).count x) n)) (ln_tb (rd_w v) ^ n))))) h') : az_M mX12_mean d 0 0 [.ref 64, .int xn, .int xw] hp Q := by
  obtain ⟨sc0, A0, tf0, hI0, rs0, rm0, nu0, o1, o2, -⟩ := id hM
  have hgd : rd_good v := hok.2.2.1
  have hw : ln_ok (rd_w v) := hgd.1
  have hba : ln_ba (rd_w v) bs := hok.2.2.2.1
  have hb : ln_by (rd_w v) bs := hba.b
  have hlen := hb.2.2
  have h60 := hb.1
  have hU10 : U.length ≤ 10 := hok.2.2.2.2.1
  have ht1 := hw.1
  have ht3 := hw.2.1
  refine az_M.of rfl (Nat.le_of_ble_eq_true rfl) ?_
  show az_W _ _ _ _ 0 [(0, .ref 64), (1, .int xn), (2, .int xw)] [] _ _
  refine az_aload_n dX12_mean_0 ?_
  refine az_iconst (v := nI 0) dX12_mean_1 ?_
  refine az_putf (fs' := [.int (nI 0), .ref 65, .ref 66, .ref 67, .ref 68, sc0 5, fI (sc0 6), sc0 7, sc0 8, fI (sc0 9), fI (sc0 10), sc0 11, fI (sc0 12), sc0 13, sc0 14, .ref 69, .ref 70, .ref 71, sc0 18, .ref 72, .ref 73, .ref 74, sc0 22, sc0 23, .ref 75, sc0 25, .ref 76, .ref 77, .ref 78, sc0 29, .ref 79, .ref 80, .ref 81, .ref 82, .ref 83, .ref 84, .ref 85, sc0 37, .ref 86, .ref 87, .ref 88, .ref 89, .ref 90, .ref 91, .ref 92]) dX12_mean_2 fl_X12_1 o1 ?_
  obtain ⟨h1, hf1, hM1, hh1⟩ : ∃ h1, az_fr hp h1 64 93 ∧ mm h1 ((tp, bt), (fk, fp), v, (mo, ni, bs), U, im, tr) ∧ h1 = az_up hp 64 (mo_o (su sc0 0 (.int (nI 0)))) := ⟨_, az_fr.rf.up, hM.O (sc := su sc0 0 (.int (nI 0))) o2.1 o2.2.1 o2.2.2, rfl⟩
  rw [show (az_up hp 64 (az_O 11 [.int (nI 0), .ref 65, .ref 66, .ref 67, .ref 68, sc0 5, fI (sc0 6), sc0 7, sc0 8, fI (sc0 9), fI (sc0 10), sc0 11, fI (sc0 12), sc0 13, sc0 14, .ref 69, .ref 70, .ref 71, sc0 18, .ref 72, .ref 73, .ref 74, sc0 22, sc0 23, .ref 75, sc0 25, .ref 76, .ref 77, .ref 78, sc0 29, .ref 79, .ref 80, .ref 81, .ref 82, .ref 83, .ref 84, .ref 85, sc0 37, .ref 86, .ref 87, .ref 88, .ref 89, .ref 90, .ref 91, .ref 92])) = h1 from hh1.symm]
  obtain ⟨sc, A, tf, hI, rs, rm, nu, a1, a2, a3, a4, a5, a6, a7, a8, a9, a10, a11, a12, a13, a14⟩ := id hM1
  have a4 : mT A v (mo, ni, bs) := a4
  have a5 : mU A U := a5
  have a7 : mI A hI im := a7
  have a9 : ∀ j, j < tp → tf j = bt j := a9
  have a13 : mR rs rm nu tr := a13
  refine az_iload_n dX12_mean_5 ?_
  refine az_i2l dX12_mean_6 ?_
  refine az_lconst (v := lN 0) dX12_mean_7 ?_
  refine az_lconst (v := lN 1) dX12_mean_8 ?_
  refine az_cS0 (st := []) dX12_mean_9 ml_X12_169 (m_withinI (d := d - 1) (lo := 0) (hi := 1) (by decide) (by decide) ?_ ?_)
  · intro kk hxw hk0 hk1
    refine az_if_neN (tgt := 19) dX12_mean_12 (fun c12 => ?_) (fun c12 => ?_)
    · refine az_iload_n dX12_mean_19 ?_
      refine az_i2l dX12_mean_20 ?_
      refine az_lconst (v := lN 0) dX12_mean_21 ?_
      refine az_ldc2 (v := lN 6) dX12_mean_22 cn_X12_374 ?_
      refine az_cS0 (st := []) dX12_mean_25 ml_X12_169 (m_withinI (d := d - 1) (lo := 0) (hi := 6) (by decide) (by decide) ?_ ?_)
      · intro n hxn hn0 hn12
        refine az_if_neN (tgt := 35) dX12_mean_28 (fun c28 => ?_) (fun c28 => ?_)
        · subst hxw
          subst hxn
          refine az_aload_n dX12_mean_35 ?_
          refine az_cV0 (st := []) dX12_mean_36 ml_X12_424 a1 (m_laysMany (d := d - 1) (by omega) hw hb a1 a3 a4 a14 ?_)
          intro h2 gm c81 hgm mk2 mf2
          exact m_meanW (mo := mo) (ni := ni) (by omega) hw hb a4.1 hn12 (by omega) (mf2.at a1) (mf2.at a3) c81 hgm mk2 (fun h3 m3 k3 => hQ n kk rfl (by omega) rfl (by omega) h3 (hM1.of (L := [71, 81, 88, 89]) ((mf2.wk (L' := [71, 81, 88, 89])).tr m3 (by decide)) (by decide) k3 (m3.at (mf2.at a1)) a2.1 a2.2.1 a2.2.2) (hf1.tr (mf.fr (L := [71, 81, 88, 89]) ((mf2.wk (L' := [71, 81, 88, 89])).tr m3 (by decide)))))
        · exact absurd c28 (by omega)
      · intro hxn
        refine az_if_neN (tgt := 35) dX12_mean_28 (fun c28 => ?_) (fun c28 => ?_)
        · exact absurd c28 (by omega)
        · refine az_ldc2 (v := (-3)) dX12_mean_31 cn_X12_302 ?_
          exact az_lret dX12_mean_34 (hQ3 (by rw [hxw]; exact (cs_in_n (by omega) (by decide)).1) (cs_in_no (fun n hn => hxn n (Nat.zero_le _) (by omega))) h1 hM1 hf1)
    · exact absurd c12 (by omega)
  · intro hxw
    refine az_if_neN (tgt := 19) dX12_mean_12 (fun c12 => ?_) (fun c12 => ?_)
    · exact absurd c12 (by omega)
    · refine az_ldc2 (v := (-2)) dX12_mean_15 cn_X12_300 ?_
      exact az_lret dX12_mean_18 (hQ2 (cs_in_no (fun n hn => hxw n (Nat.zero_le _) (by omega))) h1 hM1 hf1)

