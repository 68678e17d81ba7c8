/-! The model: told words sought, night by night -/
theorem fm_set {w : ln_W} {bs : List Nat} {g : Nat → Nat} {n : Nat} {rT hH : Nat → Nat} {k y s k' y' s' a b : Nat} (H : fm_E w bs g n rT hH k' y' s') (hy : y < 6) (hs : s < 6) (hy' : y' < 6) (hs' : s' < 6) (hne : ¬ (k' = k ∧ y' = y ∧ s' = s)) : fm_E w bs g n (az_s rT (6 * (6 * k + y) + s) a) (az_s hH (6 * (6 * k + y) + s) b) k' y' s' := by
  obtain ⟨q1, q2⟩ := H
  exact ⟨(az_s_ne (by omega)).trans q1, (az_s_ne (by omega)).trans q2⟩
theorem fm_done {w : ln_W} {bs : List Nat} {g : Nat → Nat} {n : Nat} {rT hH : Nat → Nat} {k y s a b : Nat} (h1 : a = fa_s g n s (ln_run w (bs.drop k) [y])) (h2 : b = min (fa_h g n s (ln_run w (bs.drop k) [y])) 9223372036854775807) : fm_E w bs g n (az_s rT (6 * (6 * k + y) + s) a) (az_s hH (6 * (6 * k + y) + s) b) k y s := ⟨az_s_eq.trans h1, az_s_eq.trans h2⟩
theorem run_nil {w : ln_W} {bs : List Nat} {l : List Nat} : ln_run w bs (l.take 0) = [] := by rw [List.take_zero, ln_run_empty]
theorem run_all {w : ln_W} {bs : List Nat} {k x i : Nat} (h : k < bs.length) (hi : ln_sz w (bs.getD k 0 * 6 + x) ≤ i) : ln_run w (bs.drop (k + 1)) ((ln_sub w (bs.getD k 0) x).take i) = ln_run w (bs.drop k) [x] := by
  rw [← run_take h, List.take_of_length_le (by rw [ln_sub_len]; exact hi), List.take_of_length_le (by rw [ln_sub_len]; exact Nat.le_refl _)]
set_option maxHeartbeats 4000000 in
set_option maxRecDepth 100000 in
theorem m_hitsB {d : Nat} {sc : Nat → Value} {A : Nat → Nat} {v : rd_V} {mo ni : Nat} {bs : List Nat} {hp : az_Hp} {Q : Option Value → az_Hp → Prop} {nw : Nat} {g rT0 hH0 : Nat → Nat} {f77 : Nat → Int32} (hd : 2 ≤ d) (hn1 : 1 ≤ nw) (hn6 : nw ≤ 6) (hw : ln_ok (rd_w v)) (hb : ln_by (rd_w v) bs) (h64 : hp.2 64 = some (mo_o sc)) (h29 : sc 29 = .int (nI nw)) (h65 : hp.2 65 = some (az_I 3318 (fun j => nI (A j)))) (hT : mT A v (mo, ni, bs)) (h77 : hp.2 77 = some (az_I 6 f77)) (hf : ∀ i, i < nw → f77 i = nI (g i)) (hg : ∀ i, i < nw → g i < 6) (h76 : hp.2 76 = some (az_I 2196 (fun j => nI (rT0 j)))) (h78 : hp.2 78 = some (az_J 2196 (fun j => lN (hH0 j)))) (hE0 : ∀ y s, y < 6 → s < nw → fm_E (rd_w v) bs g nw rT0 hH0 bs.length y s) (hk : mk hp) (hQ : ∀ (h' : az_Hp) (rT hH : Nat → Nat), h'.2 76 = some (az_I 2196 (fun j => nI (rT j))) → h'.2 78 = some (az_J 2196 (fun j => lN (hH j))) → (∀ k y s, k ≤ bs.length → y < 6 → s < nw → fm_E (rd_w v) bs g nw rT hH k y s) → mk h' → mf hp h' [76, 78] → Q none h') : az_W mX12_laysHits d 0 0 140 [(0, .ref 64), (1, .int (nI 6))] [] hp Q := by
  have h60 := hb.1
  have hA113 : A 113 = bs.length := hT.2.2.2.1
  have h64' : hp.2 64 = some (az_O 11 [sc 0, .ref 65, .ref 66, .ref 67, .ref 68, sc 5, fI (sc 6), sc 7, sc 8, fI (sc 9), fI (sc 10), sc 11, fI (sc 12), sc 13, sc 14, .ref 69, .ref 70, .ref 71, sc 18, .ref 72, .ref 73, .ref 74, sc 22, sc 23, .ref 75, sc 25, .ref 76, .ref 77, .ref 78, .int (nI nw), .ref 79, .ref 80, .ref 81, .ref 82, .ref 83, .ref 84, .ref 85, sc 37, .ref 86, .ref 87, .ref 88, .ref 89, .ref 90, .ref 91, .ref 92]) := by rw [← h29]; exact h64
  have loop : ∀ (k : Nat) (k9 c s i now sv : Nat) (rT hH : Nat → Nat) (h' : az_Hp), k9 * 1000 + (6 - c) * 100 + (6 - s) * 10 + (4 - i) = k → (k9 < bs.length) → (c < 6) → (s < nw) → (i ≤ 4) → (now < nw) → (sv ≤ 9223372036854775807) → (now = fa_s g nw s (ln_run (rd_w v) (bs.drop (k9 + 1)) ((ln_sub (rd_w v) (bs.getD k9 0) c).take (i)))) → (sv = min (fa_h g nw s (ln_run (rd_w v) (bs.drop (k9 + 1)) ((ln_sub (rd_w v) (bs.getD k9 0) c).take (i)))) 9223372036854775807) → (h'.2 76 = some (az_I 2196 (fun j => nI (rT j)))) → (h'.2 78 = some (az_J 2196 (fun j => lN (hH j)))) → (∀ k y t, k ≤ bs.length → y < 6 → t < nw → (k9 < k ∨ (k = k9 ∧ (y < c ∨ (y = c ∧ t < s)))) → fm_E (rd_w v) bs g nw rT hH k y t) → (mk h') → (mf hp h' [76, 78]) → az_W mX12_laysHits d 0 0 181 [(0, .ref 64), (1, .int (nI k9)), (2, .int (nI c)), (3, .int (nI s)), (4, .int (nI now)), (5, .long (lN sv)), (7, .int (nI i))] [] h' Q := by
    intro k
    induction k using Nat.strongRecOn with
    | _ k ih =>
    intro k9 c s i now sv rT hH h' hk hkl hc hs hi4 hnl hsvl hnw hsv b76 b78 hD mk1' mf1
    have b64 : h'.2 64 = some (mo_o sc) := mf1.at h64
    have b64' : h'.2 64 = some (az_O 11 [sc 0, .ref 65, .ref 66, .ref 67, .ref 68, sc 5, fI (sc 6), sc 7, sc 8, fI (sc 9), fI (sc 10), sc 11, fI (sc 12), sc 13, sc 14, .ref 69, .ref 70, .ref 71, sc 18, .ref 72, .ref 73, .ref 74, sc 22, sc 23, .ref 75, sc 25, .ref 76, .ref 77, .ref 78, .int (nI nw), .ref 79, .ref 80, .ref 81, .ref 82, .ref 83, .ref 84, .ref 85, sc 37, .ref 86, .ref 87, .ref 88, .ref 89, .ref 90, .ref 91, .ref 92]) := (by rw [← h29]; exact b64)
    have b65 : h'.2 65 = some (az_I 3318 (fun j => nI (A j))) := mf1.at h65
    have b77 : h'.2 77 = some (az_I 6 f77) := mf1.at h77
    have hb3 : (bs.getD k9 0) < 3 := Nat.lt_of_lt_of_le (hb.2.1 _ (getD_mem hkl)) hw.2.1
    have hz4 := hw.2.2.2.2.2.2.1 ((bs.getD k9 0) * 6 + c)
    refine az_aload_n dX12_laysHits_181 ?_
    refine az_iload_n dX12_laysHits_182 ?_
    refine az_iload_n dX12_laysHits_183 ?_
    refine az_iload dX12_laysHits_184 ?_
    refine az_cV0 (st := []) dX12_laysHits_186 ml_X12_264 b64' (m_partOf1 (d := d - 1) (k := k9) (x := c) (i := i) (by omega) hw hb hkl hc (by omega) b64 b65 hT ?_)
    refine az_iconst (v := (-1)) dX12_laysHits_189 ?_
    refine az_icmp_eq (tgt := 245) dX12_laysHits_190 (fun c190 => ?_) (fun c190 => ?_)
    · have hno := opt_none (fun x hx => (by have hz := (List.getElem?_eq_some_iff.mp hx).1; rw [ln_sub_len] at hz; rw [sub_get hz] at hx; cases hx; exact hw.2.2.2.2.2.2.2.1 _)) c190
      have hge : ln_sz (rd_w v) ((bs.getD k9 0) * 6 + c) ≤ i := (by have := List.getElem?_eq_none_iff.mp hno; rw [ln_sub_len] at this; exact this)
      have hra := run_all (w := rd_w v) (bs := bs) (x := c) hkl hge
      have hD2 : ∀ k y t, k ≤ bs.length → y < 6 → t < nw → (k9 < k ∨ (k = k9 ∧ (y < c ∨ (y = c ∧ t < s + 1)))) → fm_E (rd_w v) bs g nw (az_s rT (6 * (6 * k9 + c) + s) now) (az_s hH (6 * (6 * k9 + c) + s) sv) k y t := (fun k y t q1 q2 q3 q4 => (by by_cases e : k = k9 ∧ y = c ∧ t = s; (obtain ⟨rfl, rfl, rfl⟩ := e; exact fm_done (by rw [hnw, hra]) (by rw [hsv, hra])); exact fm_set (hD k y t q1 q2 q3 (by omega)) hc (by omega) q2 (by omega) e))
      refine az_aload_n dX12_laysHits_245 ?_
      refine az_getf (v := .ref 76) dX12_laysHits_246 fl_X12_52 b64' ?_
      refine az_bipush (v := nI 6) dX12_laysHits_249 ?_
      refine az_bipush (v := nI 6) dX12_laysHits_251 ?_
      refine az_iload_n dX12_laysHits_253 ?_
      refine az_imulN dX12_laysHits_254 ?_
      refine az_iload_n dX12_laysHits_255 ?_
      refine az_iaddN dX12_laysHits_256 ?_
      refine az_imulN dX12_laysHits_257 ?_
      refine az_iload_n dX12_laysHits_258 ?_
      refine az_iaddN dX12_laysHits_259 ?_
      refine az_iload dX12_laysHits_260 ?_
      refine az_iastN (j := (6 * ((6 * k9) + c)) + s) dX12_laysHits_262 b76 ?_
      rw [az_s_nI]
      refine az_aload_n dX12_laysHits_263 ?_
      refine az_getf (v := .ref 78) dX12_laysHits_264 fl_X12_58 (az_up_ne b64') ?_
      refine az_bipush (v := nI 6) dX12_laysHits_267 ?_
      refine az_bipush (v := nI 6) dX12_laysHits_269 ?_
      refine az_iload_n dX12_laysHits_271 ?_
      refine az_imulN dX12_laysHits_272 ?_
      refine az_iload_n dX12_laysHits_273 ?_
      refine az_iaddN dX12_laysHits_274 ?_
      refine az_imulN dX12_laysHits_275 ?_
      refine az_iload_n dX12_laysHits_276 ?_
      refine az_iaddN dX12_laysHits_277 ?_
      refine az_lload dX12_laysHits_278 ?_
      refine az_lastN (j := (6 * ((6 * k9) + c)) + s) dX12_laysHits_280 (az_up_ne b78) ?_
      rw [az_s_lN]
      refine az_iincN (n := 1) (ls' := [(0, .ref 64), (1, .int (nI k9)), (2, .int (nI c)), (3, .int (nI (s + 1))), (4, .int (nI now)), (5, .long (lN sv)), (7, .int (nI i))]) dX12_laysHits_281 ?_
      refine az_goto (tgt := 164) dX12_laysHits_284 ?_
      refine az_iload_n dX12_laysHits_164 ?_
      refine az_aload_n dX12_laysHits_165 ?_
      refine az_getf (v := .int (nI nw)) dX12_laysHits_166 fl_X12_376 (az_up_ne (az_up_ne b64')) ?_
      refine az_icmp_geN (tgt := 287) dX12_laysHits_169 (fun c169 => ?_) (fun c169 => ?_)
      · refine az_iincN (n := 1) (ls' := [(0, .ref 64), (1, .int (nI k9)), (2, .int (nI (c + 1))), (3, .int (nI (s + 1))), (4, .int (nI now)), (5, .long (lN sv)), (7, .int (nI i))]) dX12_laysHits_287 ?_
        refine az_goto (tgt := 156) dX12_laysHits_290 ?_
        refine az_iload_n dX12_laysHits_156 ?_
        refine az_bipush (v := nI 6) dX12_laysHits_157 ?_
        refine az_icmp_geN (tgt := 293) dX12_laysHits_159 (fun c159 => ?_) (fun c159 => ?_)
        · refine az_iinc (v := nI k9 - nI 1) (ls' := [(0, .ref 64), (1, .int (nI k9 - nI 1)), (2, .int (nI (c + 1))), (3, .int (nI (s + 1))), (4, .int (nI now)), (5, .long (lN sv)), (7, .int (nI i))]) dX12_laysHits_293 ?_ (hx := (nI_dec k9))
          refine az_goto (tgt := 150) dX12_laysHits_296 ?_
          refine az_iload_n dX12_laysHits_150 ?_
          refine az_if_lt (tgt := 299) dX12_laysHits_151 (fun c151 => ?_) (fun c151 => ?_)
          · exact az_vret dX12_laysHits_299 (by have h0 : k9 = 0 := (by by_cases q : k9 = 0; exact q; exact absurd c151 (by rw [nI_subN (by omega)]; exact nI_pos (by omega))); exact hQ _ _ _ (az_up_ne az_up_eq) az_up_eq (fun k y t q1 q2 q3 => hD2 k y t q1 q2 q3 (by omega)) (mk.uJ (mk.uI mk1' rfl) rfl) ((mf1.up (by decide)).up (by decide)))
          · obtain ⟨k8, hk8⟩ : ∃ l, k9 = l + 1 := ⟨k9 - 1, by by_cases q : k9 = 0; rw [q] at c151; exact absurd (by decide) c151; omega⟩
            rw [show nI k9 - nI 1 = nI k8 from (by rw [hk8, nI_subN (by omega)]; rfl)]
            refine az_iconst (v := nI 0) dX12_laysHits_154 ?_
            refine az_istore_n (ls' := [(0, .ref 64), (1, .int (nI k8)), (2, .int (nI 0)), (3, .int (nI (s + 1))), (4, .int (nI now)), (5, .long (lN sv)), (7, .int (nI i))]) dX12_laysHits_155 ?_
            refine az_iload_n dX12_laysHits_156 ?_
            refine az_bipush (v := nI 6) dX12_laysHits_157 ?_
            refine az_icmp_geN (tgt := 293) dX12_laysHits_159 (fun c159 => ?_) (fun c159 => ?_)
            · exact absurd c159 (by omega)
            · refine az_iconst (v := nI 0) dX12_laysHits_162 ?_
              refine az_istore_n (ls' := [(0, .ref 64), (1, .int (nI k8)), (2, .int (nI 0)), (3, .int (nI 0)), (4, .int (nI now)), (5, .long (lN sv)), (7, .int (nI i))]) dX12_laysHits_163 ?_
              refine az_iload_n dX12_laysHits_164 ?_
              refine az_aload_n dX12_laysHits_165 ?_
              refine az_getf (v := .int (nI nw)) dX12_laysHits_166 fl_X12_376 (az_up_ne (az_up_ne b64')) ?_
              refine az_icmp_geN (tgt := 287) dX12_laysHits_169 (fun c169 => ?_) (fun c169 => ?_)
              · exact absurd c169 (by omega)
              · refine az_iload_n dX12_laysHits_172 ?_
                refine az_istore (ls' := [(0, .ref 64), (1, .int (nI k8)), (2, .int (nI 0)), (3, .int (nI 0)), (4, .int (nI 0)), (5, .long (lN sv)), (7, .int (nI i))]) dX12_laysHits_173 ?_
                refine az_lconst (v := lN 0) dX12_laysHits_175 ?_
                refine az_lstore (ls' := [(0, .ref 64), (1, .int (nI k8)), (2, .int (nI 0)), (3, .int (nI 0)), (4, .int (nI 0)), (5, .long (lN 0)), (7, .int (nI i))]) dX12_laysHits_176 ?_
                refine az_iconst (v := nI 0) dX12_laysHits_178 ?_
                refine az_istore (ls' := [(0, .ref 64), (1, .int (nI k8)), (2, .int (nI 0)), (3, .int (nI 0)), (4, .int (nI 0)), (5, .long (lN 0)), (7, .int (nI 0))]) dX12_laysHits_179 ?_
                first | exact ih _ (by omega) k9 c s (i + 1) (fa_s g nw now (ln_run (rd_w v) (bs.drop (k9 + 1)) [x])) (min (sv + min (fa_h g nw now (ln_run (rd_w v) (bs.drop (k9 + 1)) [x])) 9223372036854775807) 9223372036854775807) rT hH h' rfl hkl hc hs (by omega) hfs (by omega) (by rw [run_step hisz, fa_s_app, ← hnw, ← hxe]) (by rw [run_step hisz, fa_h_app, ← hnw, ← hxe, hsv]; omega) b76 b78 hD mk1' mf1 | exact ih _ (by omega) k9 c (s + 1) 0 (s + 1) 0 _ _ _ rfl hkl hc (by omega) (by omega) (by omega) (by omega) (by rw [run_nil]; rfl) (by rw [run_nil]; rfl) (az_up_ne az_up_eq) az_up_eq hD2 (mk.uJ (mk.uI mk1' rfl) rfl) ((mf1.up (by decide)).up (by decide)) | exact ih _ (by omega) k9 (c + 1) 0 0 0 0 _ _ _ rfl hkl (by omega) (by omega) (by omega) (by omega) (by omega) (by rw [run_nil]; rfl) (by rw [run_nil]; rfl) (az_up_ne az_up_eq) az_up_eq (fun k y t q1 q2 q3 q4 => hD2 k y t q1 q2 q3 (by omega)) (mk.uJ (mk.uI mk1' rfl) rfl) ((mf1.up (by decide)).up (by decide)) | exact ih _ (by omega) k8 0 0 0 0 0 _ _ _ rfl (by omega) (by decide) (by omega) (by omega) (by omega) (by omega) (by rw [run_nil]; rfl) (by rw [run_nil]; rfl) (az_up_ne az_up_eq) az_up_eq (fun k y t q1 q2 q3 q4 => hD2 k y t q1 q2 q3 (by omega)) (mk.uJ (mk.uI mk1' rfl) rfl) ((mf1.up (by decide)).up (by decide))
        · refine az_iconst (v := nI 0) dX12_laysHits_162 ?_
          refine az_istore_n (ls' := [(0, .ref 64), (1, .int (nI k9)), (2, .int (nI (c + 1))), (3, .int (nI 0)), (4, .int (nI now)), (5, .long (lN sv)), (7, .int (nI i))]) dX12_laysHits_163 ?_
          refine az_iload_n dX12_laysHits_164 ?_
          refine az_aload_n dX12_laysHits_165 ?_
          refine az_getf (v := .int (nI nw)) dX12_laysHits_166 fl_X12_376 (az_up_ne (az_up_ne b64')) ?_
          refine az_icmp_geN (tgt := 287) dX12_laysHits_169 (fun c169 => ?_) (fun c169 => ?_)
          · exact absurd c169 (by omega)
          · refine az_iload_n dX12_laysHits_172 ?_
            refine az_istore (ls' := [(0, .ref 64), (1, .int (nI k9)), (2, .int (nI (c + 1))), (3, .int (nI 0)), (4, .int (nI 0)), (5, .long (lN sv)), (7, .int (nI i))]) dX12_laysHits_173 ?_
            refine az_lconst (v := lN 0) dX12_laysHits_175 ?_
            refine az_lstore (ls' := [(0, .ref 64), (1, .int (nI k9)), (2, .int (nI (c + 1))), (3, .int (nI 0)), (4, .int (nI 0)), (5, .long (lN 0)), (7, .int (nI i))]) dX12_laysHits_176 ?_
            refine az_iconst (v := nI 0) dX12_laysHits_178 ?_
            refine az_istore (ls' := [(0, .ref 64), (1, .int (nI k9)), (2, .int (nI (c + 1))), (3, .int (nI 0)), (4, .int (nI 0)), (5, .long (lN 0)), (7, .int (nI 0))]) dX12_laysHits_179 ?_
            first | exact ih _ (by omega) k9 c s (i + 1) (fa_s g nw now (ln_run (rd_w v) (bs.drop (k9 + 1)) [x])) (min (sv + min (fa_h g nw now (ln_run (rd_w v) (bs.drop (k9 + 1)) [x])) 9223372036854775807) 9223372036854775807) rT hH h' rfl hkl hc hs (by omega) hfs (by omega) (by rw [run_step hisz, fa_s_app, ← hnw, ← hxe]) (by rw [run_step hisz, fa_h_app, ← hnw, ← hxe, hsv]; omega) b76 b78 hD mk1' mf1 | exact ih _ (by omega) k9 c (s + 1) 0 (s + 1) 0 _ _ _ rfl hkl hc (by omega) (by omega) (by omega) (by omega) (by rw [run_nil]; rfl) (by rw [run_nil]; rfl) (az_up_ne az_up_eq) az_up_eq hD2 (mk.uJ (mk.uI mk1' rfl) rfl) ((mf1.up (by decide)).up (by decide)) | exact ih _ (by omega) k9 (c + 1) 0 0 0 0 _ _ _ rfl hkl (by omega) (by omega) (by omega) (by omega) (by omega) (by rw [run_nil]; rfl) (by rw [run_nil]; rfl) (az_up_ne az_up_eq) az_up_eq (fun k y t q1 q2 q3 q4 => hD2 k y t q1 q2 q3 (by omega)) (mk.uJ (mk.uI mk1' rfl) rfl) ((mf1.up (by decide)).up (by decide)) | exact ih _ (by omega) k8 0 0 0 0 0 _ _ _ rfl (by omega) (by decide) (by omega) (by omega) (by omega) (by omega) (by rw [run_nil]; rfl) (by rw [run_nil]; rfl) (az_up_ne az_up_eq) az_up_eq (fun k y t q1 q2 q3 q4 => hD2 k y t q1 q2 q3 (by omega)) (mk.uJ (mk.uI mk1' rfl) rfl) ((mf1.up (by decide)).up (by decide))
      · refine az_iload_n dX12_laysHits_172 ?_
        refine az_istore (ls' := [(0, .ref 64), (1, .int (nI k9)), (2, .int (nI c)), (3, .int (nI (s + 1))), (4, .int (nI (s + 1))), (5, .long (lN sv)), (7, .int (nI i))]) dX12_laysHits_173 ?_
        refine az_lconst (v := lN 0) dX12_laysHits_175 ?_
        refine az_lstore (ls' := [(0, .ref 64), (1, .int (nI k9)), (2, .int (nI c)), (3, .int (nI (s + 1))), (4, .int (nI (s + 1))), (5, .long (lN 0)), (7, .int (nI i))]) dX12_laysHits_176 ?_
        refine az_iconst (v := nI 0) dX12_laysHits_178 ?_
        refine az_istore (ls' := [(0, .ref 64), (1, .int (nI k9)), (2, .int (nI c)), (3, .int (nI (s + 1))), (4, .int (nI (s + 1))), (5, .long (lN 0)), (7, .int (nI 0))]) dX12_laysHits_179 ?_
        first | exact ih _ (by omega) k9 c s (i + 1) (fa_s g nw now (ln_run (rd_w v) (bs.drop (k9 + 1)) [x])) (min (sv + min (fa_h g nw now (ln_run (rd_w v) (bs.drop (k9 + 1)) [x])) 9223372036854775807) 9223372036854775807) rT hH h' rfl hkl hc hs (by omega) hfs (by omega) (by rw [run_step hisz, fa_s_app, ← hnw, ← hxe]) (by rw [run_step hisz, fa_h_app, ← hnw, ← hxe, hsv]; omega) b76 b78 hD mk1' mf1 | exact ih _ (by omega) k9 c (s + 1) 0 (s + 1) 0 _ _ _ rfl hkl hc (by omega) (by omega) (by omega) (by omega) (by rw [run_nil]; rfl) (by rw [run_nil]; rfl) (az_up_ne az_up_eq) az_up_eq hD2 (mk.uJ (mk.uI mk1' rfl) rfl) ((mf1.up (by decide)).up (by decide)) | exact ih _ (by omega) k9 (c + 1) 0 0 0 0 _ _ _ rfl hkl (by omega) (by omega) (by omega) (by omega) (by omega) (by rw [run_nil]; rfl) (by rw [run_nil]; rfl) (az_up_ne az_up_eq) az_up_eq (fun k y t q1 q2 q3 q4 => hD2 k y t q1 q2 q3 (by omega)) (mk.uJ (mk.uI mk1' rfl) rfl) ((mf1.up (by decide)).up (by decide)) | exact ih _ (by omega) k8 0 0 0 0 0 _ _ _ rfl (by omega) (by decide) (by omega) (by omega) (by omega) (by omega) (by rw [run_nil]; rfl) (by rw [run_nil]; rfl) (az_up_ne az_up_eq) az_up_eq (fun k y t q1 q2 q3 q4 => hD2 k y t q1 q2 q3 (by omega)) (mk.uJ (mk.uI mk1' rfl) rfl) ((mf1.up (by decide)).up (by decide))
    · obtain ⟨x, hx⟩ := opt_some c190
      have hisz : i < ln_sz (rd_w v) ((bs.getD k9 0) * 6 + c) := (by have := (List.getElem?_eq_some_iff.mp hx).1; rw [ln_sub_len] at this; exact this)
      have hxe : x = (ln_ch (rd_w v) (((bs.getD k9 0) * 6 + c) * 4 + i)) := (by rw [sub_get hisz] at hx; cases hx; rfl)
      have hx6 : x < 6 := (by rw [hxe]; exact hw.2.2.2.2.2.2.2.1 _)
      have hEx := hD (k9 + 1) x now (by omega) hx6 hnl (Or.inl (by omega))
      have hfs := fa_s_lt (g := g) (n := nw) (ln_run (rd_w v) (bs.drop (k9 + 1)) [x]) hnl
      refine az_bipush (v := nI 6) dX12_laysHits_193 ?_
      refine az_bipush (v := nI 6) dX12_laysHits_195 ?_
      refine az_iload_n dX12_laysHits_197 ?_
      refine az_iconst (v := nI 1) dX12_laysHits_198 ?_
      refine az_iaddN dX12_laysHits_199 ?_
      refine az_imulN dX12_laysHits_200 ?_
      refine az_aload_n dX12_laysHits_201 ?_
      refine az_iload_n dX12_laysHits_202 ?_
      refine az_iload_n dX12_laysHits_203 ?_
      refine az_iload dX12_laysHits_204 ?_
      refine az_cV0 (st := [.int (nI (6 * (k9 + 1))), .int (nI 6)]) dX12_laysHits_206 ml_X12_264 b64' (m_partOf1 (d := d - 1) (k := k9) (x := c) (i := i) (by omega) hw hb hkl hc (by omega) b64 b65 hT ?_)
      rw [hx, show ln_opt (some x) = nI x from rfl]
      refine az_iaddN dX12_laysHits_209 ?_
      refine az_imulN dX12_laysHits_210 ?_
      refine az_iload dX12_laysHits_211 ?_
      refine az_iaddN dX12_laysHits_213 ?_
      refine az_istore (ls' := [(0, .ref 64), (1, .int (nI k9)), (2, .int (nI c)), (3, .int (nI s)), (4, .int (nI now)), (5, .long (lN sv)), (7, .int (nI i)), (8, .int (nI ((6 * ((6 * (k9 + 1)) + x)) + now)))]) dX12_laysHits_214 ?_
      refine az_lload dX12_laysHits_216 ?_
      refine az_aload_n dX12_laysHits_218 ?_
      refine az_getf (v := .ref 78) dX12_laysHits_219 fl_X12_58 b64' ?_
      refine az_iload dX12_laysHits_222 ?_
      refine az_laldN (j := (6 * ((6 * (k9 + 1)) + x)) + now) dX12_laysHits_224 b78 ?_
      rw [hEx.2]
      refine az_cS0 (st := []) dX12_laysHits_225 ml_X12_245 (m_plus (d := d - 1) (a := sv) (b := min (fa_h g nw now (ln_run (rd_w v) (bs.drop (k9 + 1)) [x])) 9223372036854775807) (by omega) (by omega) ?_)
      refine az_lstore (ls' := [(0, .ref 64), (1, .int (nI k9)), (2, .int (nI c)), (3, .int (nI s)), (4, .int (nI now)), (5, .long (lN (min (sv + min (fa_h g nw now (ln_run (rd_w v) (bs.drop (k9 + 1)) [x])) 9223372036854775807) 9223372036854775807))), (7, .int (nI i)), (8, .int (nI ((6 * ((6 * (k9 + 1)) + x)) + now)))]) dX12_laysHits_228 ?_
      refine az_aload_n dX12_laysHits_230 ?_
      refine az_getf (v := .ref 76) dX12_laysHits_231 fl_X12_52 b64' ?_
      refine az_iload dX12_laysHits_234 ?_
      refine az_ialdN (j := (6 * ((6 * (k9 + 1)) + x)) + now) dX12_laysHits_236 b76 ?_
      rw [hEx.1]
      refine az_istore (ls' := [(0, .ref 64), (1, .int (nI k9)), (2, .int (nI c)), (3, .int (nI s)), (4, .int (nI (fa_s g nw now (ln_run (rd_w v) (bs.drop (k9 + 1)) [x])))), (5, .long (lN (min (sv + min (fa_h g nw now (ln_run (rd_w v) (bs.drop (k9 + 1)) [x])) 9223372036854775807) 9223372036854775807))), (7, .int (nI i)), (8, .int (nI ((6 * ((6 * (k9 + 1)) + x)) + now)))]) dX12_laysHits_237 ?_
      refine az_iincN (n := 1) (ls' := [(0, .ref 64), (1, .int (nI k9)), (2, .int (nI c)), (3, .int (nI s)), (4, .int (nI (fa_s g nw now (ln_run (rd_w v) (bs.drop (k9 + 1)) [x])))), (5, .long (lN (min (sv + min (fa_h g nw now (ln_run (rd_w v) (bs.drop (k9 + 1)) [x])) 9223372036854775807) 9223372036854775807))), (7, .int (nI (i + 1))), (8, .int (nI ((6 * ((6 * (k9 + 1)) + x)) + now)))]) dX12_laysHits_239 ?_
      refine az_goto (tgt := 181) dX12_laysHits_242 ?_
      refine az_W.keep (ls' := [(0, .ref 64), (1, .int (nI k9)), (2, .int (nI c)), (3, .int (nI s)), (4, .int (nI (fa_s g nw now (ln_run (rd_w v) (bs.drop (k9 + 1)) [x])))), (5, .long (lN (min (sv + min (fa_h g nw now (ln_run (rd_w v) (bs.drop (k9 + 1)) [x])) 9223372036854775807) 9223372036854775807))), (7, .int (nI (i + 1)))]) [0, 1, 2, 3, 4, 5, 7] rfl ?_
      first | exact ih _ (by omega) k9 c s (i + 1) (fa_s g nw now (ln_run (rd_w v) (bs.drop (k9 + 1)) [x])) (min (sv + min (fa_h g nw now (ln_run (rd_w v) (bs.drop (k9 + 1)) [x])) 9223372036854775807) 9223372036854775807) rT hH h' rfl hkl hc hs (by omega) hfs (by omega) (by rw [run_step hisz, fa_s_app, ← hnw, ← hxe]) (by rw [run_step hisz, fa_h_app, ← hnw, ← hxe, hsv]; omega) b76 b78 hD mk1' mf1 | exact ih _ (by omega) k9 c (s + 1) 0 (s + 1) 0 _ _ _ rfl hkl hc (by omega) (by omega) (by omega) (by omega) (by rw [run_nil]; rfl) (by rw [run_nil]; rfl) (az_up_ne az_up_eq) az_up_eq hD2 (mk.uJ (mk.uI mk1' rfl) rfl) ((mf1.up (by decide)).up (by decide)) | exact ih _ (by omega) k9 (c + 1) 0 0 0 0 _ _ _ rfl hkl (by omega) (by omega) (by omega) (by omega) (by omega) (by rw [run_nil]; rfl) (by rw [run_nil]; rfl) (az_up_ne az_up_eq) az_up_eq (fun k y t q1 q2 q3 q4 => hD2 k y t q1 q2 q3 (by omega)) (mk.uJ (mk.uI mk1' rfl) rfl) ((mf1.up (by decide)).up (by decide)) | exact ih _ (by omega) k8 0 0 0 0 0 _ _ _ rfl (by omega) (by decide) (by omega) (by omega) (by omega) (by omega) (by rw [run_nil]; rfl) (by rw [run_nil]; rfl) (az_up_ne az_up_eq) az_up_eq (fun k y t q1 q2 q3 q4 => hD2 k y t q1 q2 q3 (by omega)) (mk.uJ (mk.uI mk1' rfl) rfl) ((mf1.up (by decide)).up (by decide))
  refine az_aload_n dX12_laysHits_140 ?_
  refine az_getf (v := .ref 65) dX12_laysHits_141 fl_X12_13 h64' ?_
  refine az_bipush (v := nI 113) dX12_laysHits_144 ?_
  refine az_ialdN (j := 113) dX12_laysHits_146 h65 ?_
  rw [hA113]
  refine az_iconst (v := nI 1) dX12_laysHits_147 ?_
  refine az_isub dX12_laysHits_148 ?_
  refine az_istore_n (ls' := [(0, .ref 64), (1, .int ((nI bs.length) - (nI 1)))]) dX12_laysHits_149 ?_
  refine az_iload_n dX12_laysHits_150 ?_
  refine az_if_lt (tgt := 299) dX12_laysHits_151 (fun c151 => ?_) (fun c151 => ?_)
  · exact az_vret dX12_laysHits_299 (by have h0 : bs.length = 0 := (by by_cases q : bs.length = 0; exact q; exact absurd c151 (by rw [nI_subN (by omega)]; exact nI_pos (by omega))); exact hQ hp rT0 hH0 h76 h78 (fun k y t q1 q2 q3 => (by have e9 : k = bs.length := (by omega); rw [e9]; exact hE0 y t q2 q3)) hk mf.rf)
  · obtain ⟨k8, hk8⟩ : ∃ l, bs.length = l + 1 := ⟨bs.length - 1, by by_cases q : bs.length = 0; rw [q] at c151; exact absurd (by decide) c151; omega⟩
    rw [show nI bs.length - nI 1 = nI k8 from (by rw [hk8, nI_subN (by omega)]; rfl)]
    refine az_iconst (v := nI 0) dX12_laysHits_154 ?_
    refine az_istore_n (ls' := [(0, .ref 64), (1, .int (nI k8)), (2, .int (nI 0))]) dX12_laysHits_155 ?_
    refine az_iload_n dX12_laysHits_156 ?_
    refine az_bipush (v := nI 6) dX12_laysHits_157 ?_
    refine az_icmp_geN (tgt := 293) dX12_laysHits_159 (fun c159 => ?_) (fun c159 => ?_)
    · exact absurd c159 (by omega)
    · refine az_iconst (v := nI 0) dX12_laysHits_162 ?_
      refine az_istore_n (ls' := [(0, .ref 64), (1, .int (nI k8)), (2, .int (nI 0)), (3, .int (nI 0))]) dX12_laysHits_163 ?_
      refine az_iload_n dX12_laysHits_164 ?_
      refine az_aload_n dX12_laysHits_165 ?_
      refine az_getf (v := .int (nI nw)) dX12_laysHits_166 fl_X12_376 h64' ?_
      refine az_icmp_geN (tgt := 287) dX12_laysHits_169 (fun c169 => ?_) (fun c169 => ?_)
      · exact absurd c169 (by omega)
      · refine az_iload_n dX12_laysHits_172 ?_
        refine az_istore (ls' := [(0, .ref 64), (1, .int (nI k8)), (2, .int (nI 0)), (3, .int (nI 0)), (4, .int (nI 0))]) dX12_laysHits_173 ?_
        refine az_lconst (v := lN 0) dX12_laysHits_175 ?_
        refine az_lstore (ls' := [(0, .ref 64), (1, .int (nI k8)), (2, .int (nI 0)), (3, .int (nI 0)), (4, .int (nI 0)), (5, .long (lN 0))]) dX12_laysHits_176 ?_
        refine az_iconst (v := nI 0) dX12_laysHits_178 ?_
        refine az_istore (ls' := [(0, .ref 64), (1, .int (nI k8)), (2, .int (nI 0)), (3, .int (nI 0)), (4, .int (nI 0)), (5, .long (lN 0)), (7, .int (nI 0))]) dX12_laysHits_179 ?_
        exact loop _ k8 0 0 0 0 0 rT0 hH0 hp rfl (by omega) (by decide) (by omega) (by omega) (by omega) (by omega) (by rw [run_nil]; rfl) (by rw [run_nil]; rfl) h76 h78 (fun k y t q1 q2 q3 q4 => (by have e9 : k = bs.length := (by omega); rw [e9]; exact hE0 y t q2 q3)) hk mf.rf
theorem m_laysHits {d : Nat} {sc : Nat → Value} {A : Nat → Nat} {v : rd_V} {mo ni : Nat} {bs : List Nat} {hp : az_Hp} {Q : Option Value → az_Hp → Prop} {nw : Nat} {g : Nat → Nat} {f77 : Nat → Int32} (hd : 2 ≤ d) (hn1 : 1 ≤ nw) (hn6 : nw ≤ 6) (hw : ln_ok (rd_w v)) (hb : ln_by (rd_w v) bs) (h64 : hp.2 64 = some (mo_o sc)) (h29 : sc 29 = .int (nI nw)) (h65 : hp.2 65 = some (az_I 3318 (fun j => nI (A j)))) (hT : mT A v (mo, ni, bs)) (h77 : hp.2 77 = some (az_I 6 f77)) (hf : ∀ i, i < nw → f77 i = nI (g i)) (hg : ∀ i, i < nw → g i < 6) (hk : mk hp) (hQ : ∀ (h' : az_Hp) (rT hH : Nat → Nat), h'.2 76 = some (az_I 2196 (fun j => nI (rT j))) → h'.2 78 = some (az_J 2196 (fun j => lN (hH j))) → (∀ k y s, k ≤ bs.length → y < 6 → s < nw → fm_E (rd_w v) bs g nw rT hH k y s) → mk h' → mf hp h' [76, 78] → Q none h') : az_M mX12_laysHits d 0 0 [.ref 64] hp Q :=
  m_hitsA (by omega) hn1 hn6 hw hb h64 h29 h65 hT h77 hf hg hk (fun h' rT hH b76 b78 hE mk1' mf1 => m_hitsB hd hn1 hn6 hw hb (mf1.at h64) h29 (mf1.at h65) hT (mf1.at h77) hf hg b76 b78 hE mk1' (fun h2 rT2 hH2 c76 c78 hE2 mk2 mf2 => hQ h2 rT2 hH2 c76 c78 hE2 mk2 (mf1.tr mf2 (by decide))))

