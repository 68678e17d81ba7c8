/-! The law's cases -/
theorem pw2 {a b : Nat} (h : 2 ^ a < 2 ^ b) : 2 * 2 ^ a ≤ 2 ^ b := by
  have h1 : a < b := (Nat.pow_lt_pow_iff_right (by decide)).mp h
  have h2 : 2 ^ (a + 1) ≤ 2 ^ b := Nat.pow_le_pow_right (by decide) h1
  rw [Nat.pow_succ] at h2
  omega
theorem lc_feed {L : Nat} {xs : Nat → Int32} {d rc rs K i : Nat} {s : cs_S} {hp : az_Hp} {Q : Option Value → az_Hp → Prop} (hd : 81 ≤ d) (hi : i + 6 ≤ L) (hL : L ≤ 3072) (hC : cs hp s K) (hM : mm hp s) (hK : K ≤ 32768 ∧ ∃ j, K = 2 ^ j) (hrc : 907 ≤ rc) (hrs : 1011 + 4 * (32768 - K) ≤ rs) (kk : ∀ h' s' K' rs', cs h' s' K' → mm h' s' → (K' ≤ 32768 ∧ ∃ j, K' = 2 ^ j) → (K ≤ K' ∧ rs ≤ rs' + 1011 + 4 * (K' - K)) → al_W L xs mL_law d (rc - 907) rs' 1634 [(0, .retAddr 45), (1, .ref 0), (2, .ref 64), (3, .int (nI i))] [] h' Q) : al_W L xs mL_law d rc rs 212 [(0, .retAddr 45), (1, .ref 0), (2, .ref 64), (3, .int (nI i))] [] hp Q := by
  obtain ⟨fs, h0⟩ := hC.o
  refine al_aload_n dL_law_212 ?_
  refine al_aload_nS dL_law_213 ?_
  refine al_iload_n dL_law_214 ?_
  refine al_iconst (v := nI 1) dL_law_215 ?_
  refine al_iaddN dL_law_216 ?_
  refine al_sld (j := i + 1) dL_law_217 ?_
  refine al_aload_nS dL_law_218 ?_
  refine al_iload_n dL_law_219 ?_
  refine al_iconst (v := nI 2) dL_law_220 ?_
  refine al_iaddN dL_law_221 ?_
  refine al_sld (j := i + 2) dL_law_222 ?_
  refine al_aload_nS dL_law_223 ?_
  refine al_iload_n dL_law_224 ?_
  refine al_iconst (v := nI 3) dL_law_225 ?_
  refine al_iaddN dL_law_226 ?_
  refine al_sld (j := i + 3) dL_law_227 ?_
  refine al_aload_nS dL_law_228 ?_
  refine al_iload_n dL_law_229 ?_
  refine al_iconst (v := nI 4) dL_law_230 ?_
  refine al_iaddN dL_law_231 ?_
  refine al_sld (j := i + 4) dL_law_232 ?_
  refine al_aload_nS dL_law_233 ?_
  refine al_iload_n dL_law_234 ?_
  refine al_iconst (v := nI 5) dL_law_235 ?_
  refine al_iaddN dL_law_236 ?_
  refine al_sld (j := i + 5) dL_law_237 ?_
  refine al_cV0 (st := []) dL_law_238 ml_L_13 h0 (az_M.post ?_ (P_feed (d := d - 1) (xa := xs (i + 1)) (xb := xs (i + 2)) (xc := xs (i + 3)) (xd := xs (i + 4)) (xe := xs (i + 5)) (by omega) hC)) (by omega)
  intro o h1 ⟨s1, j1, c1, f1⟩
  obtain ⟨y, rfl⟩ := V_feed j1
  have hM1 := hM.fz f1
  obtain ⟨fs2, h64⟩ := hM1.o
  refine al_aload_n dL_law_241 ?_
  refine al_aload_nS dL_law_242 ?_
  refine al_iload_n dL_law_243 ?_
  refine al_iconst (v := nI 1) dL_law_244 ?_
  refine al_iaddN dL_law_245 ?_
  refine al_sld (j := i + 1) dL_law_246 ?_
  refine al_aload_nS dL_law_247 ?_
  refine al_iload_n dL_law_248 ?_
  refine al_iconst (v := nI 2) dL_law_249 ?_
  refine al_iaddN dL_law_250 ?_
  refine al_sld (j := i + 2) dL_law_251 ?_
  refine al_aload_nS dL_law_252 ?_
  refine al_iload_n dL_law_253 ?_
  refine al_iconst (v := nI 3) dL_law_254 ?_
  refine al_iaddN dL_law_255 ?_
  refine al_sld (j := i + 3) dL_law_256 ?_
  refine al_aload_nS dL_law_257 ?_
  refine al_iload_n dL_law_258 ?_
  refine al_iconst (v := nI 4) dL_law_259 ?_
  refine al_iaddN dL_law_260 ?_
  refine al_sld (j := i + 4) dL_law_261 ?_
  refine al_aload_nS dL_law_262 ?_
  refine al_iload_n dL_law_263 ?_
  refine al_iconst (v := nI 5) dL_law_264 ?_
  refine al_iaddN dL_law_265 ?_
  refine al_sld (j := i + 5) dL_law_266 ?_
  refine al_cV0 (st := [.int y]) dL_law_267 ml_L_17 h64 (az_M.post ?_ (Q_feed (d := d - 1) (xa := xs (i + 1)) (xb := xs (i + 2)) (xc := xs (i + 3)) (xd := xs (i + 4)) (xe := xs (i + 5)) (by omega) hC.ok hM1)) (by omega)
  intro o2 h2 ⟨s2, j2, m2, f2⟩
  obtain ⟨e1, e2⟩ := D_feed hC.ok hM.tl j1 j2
  subst e1
  subst e2
  exact al_icmp_eq (tgt := 1634) dL_law_270 (fun _ => al_W.room (by omega) (Nat.le_refl _) (kk h2 s1 K rs (c1.fz f2) m2 hK (by omega))) (fun c => absurd rfl c)
theorem lc_street {L : Nat} {xs : Nat → Int32} {d rc rs K i : Nat} {s : cs_S} {hp : az_Hp} {Q : Option Value → az_Hp → Prop} (hd : 81 ≤ d) (hi : i + 6 ≤ L) (hL : L ≤ 3072) (hC : cs hp s K) (hM : mm hp s) (hK : K ≤ 32768 ∧ ∃ j, K = 2 ^ j) (hrc : 907 ≤ rc) (hrs : 1011 + 4 * (32768 - K) ≤ rs) (kk : ∀ h' s' K' rs', cs h' s' K' → mm h' s' → (K' ≤ 32768 ∧ ∃ j, K' = 2 ^ j) → (K ≤ K' ∧ rs ≤ rs' + 1011 + 4 * (K' - K)) → al_W L xs mL_law d (rc - 907) rs' 1634 [(0, .retAddr 45), (1, .ref 0), (2, .ref 64), (3, .int (nI i))] [] h' Q) : al_W L xs mL_law d rc rs 275 [(0, .retAddr 45), (1, .ref 0), (2, .ref 64), (3, .int (nI i))] [] hp Q := by
  obtain ⟨fs, h0⟩ := hC.o
  refine al_aload_n dL_law_275 ?_
  refine al_aload_nS dL_law_276 ?_
  refine al_iload_n dL_law_277 ?_
  refine al_iconst (v := nI 1) dL_law_278 ?_
  refine al_iaddN dL_law_279 ?_
  refine al_sld (j := i + 1) dL_law_280 ?_
  refine al_cV (mc := 907) (ms := 1011) (st := []) dL_law_281 ml_L_18 h0 (az_M.post ?_ (P_street (d := d - 1) (x := xs (i + 1)) (by omega) hC)) (by omega) rfl rfl (by exact Nat.le_of_ble_eq_true rfl) (by omega) (by omega)
  intro o h1 ⟨s1, j1, c1, f1⟩
  obtain ⟨y, rfl⟩ := V_street j1
  have hM1 := hM.fz f1
  obtain ⟨fs2, h64⟩ := hM1.o
  refine al_aload_n dL_law_284 ?_
  refine al_aload_nS dL_law_285 ?_
  refine al_iload_n dL_law_286 ?_
  refine al_iconst (v := nI 1) dL_law_287 ?_
  refine al_iaddN dL_law_288 ?_
  refine al_sld (j := i + 1) dL_law_289 ?_
  refine al_cV0 (st := [.int y]) dL_law_290 ml_L_22 h64 (az_M.post ?_ (Q_street (d := d - 1) (x := xs (i + 1)) (by omega) hC.ok hM1)) (by omega)
  intro o2 h2 ⟨s2, j2, m2, f2⟩
  obtain ⟨e1, e2⟩ := D_street hC.ok hM.tl j1 j2
  subst e1
  subst e2
  exact al_icmp_eq (tgt := 1634) dL_law_293 (fun _ => al_W.room (by omega) (Nat.le_refl _) (kk h2 s1 K (rs - 1011) (c1.fz f2) m2 hK (by omega))) (fun c => absurd rfl c)
theorem lc_fault {L : Nat} {xs : Nat → Int32} {d rc rs K i : Nat} {s : cs_S} {hp : az_Hp} {Q : Option Value → az_Hp → Prop} (hd : 81 ≤ d) (hi : i + 6 ≤ L) (hL : L ≤ 3072) (hC : cs hp s K) (hM : mm hp s) (hK : K ≤ 32768 ∧ ∃ j, K = 2 ^ j) (hrc : 907 ≤ rc) (hrs : 1011 + 4 * (32768 - K) ≤ rs) (kk : ∀ h' s' K' rs', cs h' s' K' → mm h' s' → (K' ≤ 32768 ∧ ∃ j, K' = 2 ^ j) → (K ≤ K' ∧ rs ≤ rs' + 1011 + 4 * (K' - K)) → al_W L xs mL_law d (rc - 907) rs' 1634 [(0, .retAddr 45), (1, .ref 0), (2, .ref 64), (3, .int (nI i))] [] h' Q) : al_W L xs mL_law d rc rs 298 [(0, .retAddr 45), (1, .ref 0), (2, .ref 64), (3, .int (nI i))] [] hp Q := by
  obtain ⟨fs, h0⟩ := hC.o
  refine al_aload_n dL_law_298 ?_
  refine al_aload_nS dL_law_299 ?_
  refine al_iload_n dL_law_300 ?_
  refine al_iconst (v := nI 1) dL_law_301 ?_
  refine al_iaddN dL_law_302 ?_
  refine al_sld (j := i + 1) dL_law_303 ?_
  refine al_cV0 (st := []) dL_law_304 ml_L_23 h0 (az_M.post ?_ (P_fault (d := d - 1) (x := xs (i + 1)) (by omega) hC)) (by omega)
  intro o h1 ⟨s1, j1, c1, f1⟩
  obtain ⟨y, rfl⟩ := V_fault j1
  have hM1 := hM.fz f1
  obtain ⟨fs2, h64⟩ := hM1.o
  refine al_aload_n dL_law_307 ?_
  refine al_aload_nS dL_law_308 ?_
  refine al_iload_n dL_law_309 ?_
  refine al_iconst (v := nI 1) dL_law_310 ?_
  refine al_iaddN dL_law_311 ?_
  refine al_sld (j := i + 1) dL_law_312 ?_
  refine al_cV0 (st := [.int y]) dL_law_313 ml_L_26 h64 (az_M.post ?_ (Q_fault (d := d - 1) (x := xs (i + 1)) (by omega) hC.ok hM1)) (by omega)
  intro o2 h2 ⟨s2, j2, m2, f2⟩
  obtain ⟨e1, e2⟩ := D_fault hC.ok hM.tl j1 j2
  subst e1
  subst e2
  exact al_icmp_eq (tgt := 1634) dL_law_316 (fun _ => al_W.room (by omega) (Nat.le_refl _) (kk h2 s1 K rs (c1.fz f2) m2 hK (by omega))) (fun c => absurd rfl c)
theorem lc_becomes {L : Nat} {xs : Nat → Int32} {d rc rs K i : Nat} {s : cs_S} {hp : az_Hp} {Q : Option Value → az_Hp → Prop} (hd : 81 ≤ d) (hi : i + 6 ≤ L) (hL : L ≤ 3072) (hC : cs hp s K) (hM : mm hp s) (hK : K ≤ 32768 ∧ ∃ j, K = 2 ^ j) (hrc : 907 ≤ rc) (hrs : 1011 + 4 * (32768 - K) ≤ rs) (kk : ∀ h' s' K' rs', cs h' s' K' → mm h' s' → (K' ≤ 32768 ∧ ∃ j, K' = 2 ^ j) → (K ≤ K' ∧ rs ≤ rs' + 1011 + 4 * (K' - K)) → al_W L xs mL_law d (rc - 907) rs' 1634 [(0, .retAddr 45), (1, .ref 0), (2, .ref 64), (3, .int (nI i))] [] h' Q) : al_W L xs mL_law d rc rs 321 [(0, .retAddr 45), (1, .ref 0), (2, .ref 64), (3, .int (nI i))] [] hp Q := by
  obtain ⟨fs, h0⟩ := hC.o
  refine al_aload_n dL_law_321 ?_
  refine al_aload_nS dL_law_322 ?_
  refine al_iload_n dL_law_323 ?_
  refine al_iconst (v := nI 1) dL_law_324 ?_
  refine al_iaddN dL_law_325 ?_
  refine al_sld (j := i + 1) dL_law_326 ?_
  refine al_aload_nS dL_law_327 ?_
  refine al_iload_n dL_law_328 ?_
  refine al_iconst (v := nI 2) dL_law_329 ?_
  refine al_iaddN dL_law_330 ?_
  refine al_sld (j := i + 2) dL_law_331 ?_
  refine al_aload_nS dL_law_332 ?_
  refine al_iload_n dL_law_333 ?_
  refine al_iconst (v := nI 3) dL_law_334 ?_
  refine al_iaddN dL_law_335 ?_
  refine al_sld (j := i + 3) dL_law_336 ?_
  refine al_cV0 (st := []) dL_law_337 ml_L_27 h0 (az_M.post ?_ (P_becomes (d := d - 1) (xt := xs (i + 1)) (xl := xs (i + 2)) (xi := xs (i + 3)) (by omega) hC)) (by omega)
  intro o h1 ⟨s1, j1, c1, f1⟩
  obtain ⟨y, rfl⟩ := V_becomes j1
  have hM1 := hM.fz f1
  obtain ⟨fs2, h64⟩ := hM1.o
  refine al_aload_n dL_law_340 ?_
  refine al_aload_nS dL_law_341 ?_
  refine al_iload_n dL_law_342 ?_
  refine al_iconst (v := nI 1) dL_law_343 ?_
  refine al_iaddN dL_law_344 ?_
  refine al_sld (j := i + 1) dL_law_345 ?_
  refine al_aload_nS dL_law_346 ?_
  refine al_iload_n dL_law_347 ?_
  refine al_iconst (v := nI 2) dL_law_348 ?_
  refine al_iaddN dL_law_349 ?_
  refine al_sld (j := i + 2) dL_law_350 ?_
  refine al_aload_nS dL_law_351 ?_
  refine al_iload_n dL_law_352 ?_
  refine al_iconst (v := nI 3) dL_law_353 ?_
  refine al_iaddN dL_law_354 ?_
  refine al_sld (j := i + 3) dL_law_355 ?_
  refine al_cV0 (st := [.int y]) dL_law_356 ml_L_31 h64 (az_M.post ?_ (Q_becomes (d := d - 1) (xt := xs (i + 1)) (xl := xs (i + 2)) (xi := xs (i + 3)) (by omega) hC.ok hM1)) (by omega)
  intro o2 h2 ⟨s2, j2, m2, f2⟩
  obtain ⟨e1, e2⟩ := D_becomes hC.ok hM.tl j1 j2
  subst e1
  subst e2
  exact al_icmp_eq (tgt := 1634) dL_law_359 (fun _ => al_W.room (by omega) (Nat.le_refl _) (kk h2 s1 K rs (c1.fz f2) m2 hK (by omega))) (fun c => absurd rfl c)
theorem lc_picks {L : Nat} {xs : Nat → Int32} {d rc rs K i : Nat} {s : cs_S} {hp : az_Hp} {Q : Option Value → az_Hp → Prop} (hd : 81 ≤ d) (hi : i + 6 ≤ L) (hL : L ≤ 3072) (hC : cs hp s K) (hM : mm hp s) (hK : K ≤ 32768 ∧ ∃ j, K = 2 ^ j) (hrc : 907 ≤ rc) (hrs : 1011 + 4 * (32768 - K) ≤ rs) (kk : ∀ h' s' K' rs', cs h' s' K' → mm h' s' → (K' ≤ 32768 ∧ ∃ j, K' = 2 ^ j) → (K ≤ K' ∧ rs ≤ rs' + 1011 + 4 * (K' - K)) → al_W L xs mL_law d (rc - 907) rs' 1634 [(0, .retAddr 45), (1, .ref 0), (2, .ref 64), (3, .int (nI i))] [] h' Q) : al_W L xs mL_law d rc rs 364 [(0, .retAddr 45), (1, .ref 0), (2, .ref 64), (3, .int (nI i))] [] hp Q := by
  obtain ⟨fs, h0⟩ := hC.o
  refine al_aload_n dL_law_364 ?_
  refine al_cV0 (st := []) dL_law_365 ml_L_32 h0 (az_M.post ?_ (P_picks (d := d - 1)  (by omega) hC)) (by omega)
  intro o h1 ⟨s1, j1, c1, f1⟩
  obtain ⟨y, rfl⟩ := V_picks j1
  have hM1 := hM.fz f1
  obtain ⟨fs2, h64⟩ := hM1.o
  refine al_aload_n dL_law_368 ?_
  refine al_cV0 (st := [.int y]) dL_law_369 ml_L_36 h64 (az_M.post ?_ (Q_picks (d := d - 1)  (by omega) hC.ok hM1)) (by omega)
  intro o2 h2 ⟨s2, j2, m2, f2⟩
  obtain ⟨e1, e2⟩ := D_picks hC.ok hM.tl j1 j2
  subst e1
  subst e2
  exact al_icmp_eq (tgt := 1634) dL_law_372 (fun _ => al_W.room (by omega) (Nat.le_refl _) (kk h2 s1 K rs (c1.fz f2) m2 hK (by omega))) (fun c => absurd rfl c)
theorem lc_length {L : Nat} {xs : Nat → Int32} {d rc rs K i : Nat} {s : cs_S} {hp : az_Hp} {Q : Option Value → az_Hp → Prop} (hd : 81 ≤ d) (hi : i + 6 ≤ L) (hL : L ≤ 3072) (hC : cs hp s K) (hM : mm hp s) (hK : K ≤ 32768 ∧ ∃ j, K = 2 ^ j) (hrc : 907 ≤ rc) (hrs : 1011 + 4 * (32768 - K) ≤ rs) (kk : ∀ h' s' K' rs', cs h' s' K' → mm h' s' → (K' ≤ 32768 ∧ ∃ j, K' = 2 ^ j) → (K ≤ K' ∧ rs ≤ rs' + 1011 + 4 * (K' - K)) → al_W L xs mL_law d (rc - 907) rs' 1634 [(0, .retAddr 45), (1, .ref 0), (2, .ref 64), (3, .int (nI i))] [] h' Q) : al_W L xs mL_law d rc rs 377 [(0, .retAddr 45), (1, .ref 0), (2, .ref 64), (3, .int (nI i))] [] hp Q := by
  obtain ⟨fs, h0⟩ := hC.o
  refine al_aload_n dL_law_377 ?_
  refine al_cV0 (st := []) dL_law_378 ml_L_37 h0 (az_M.post ?_ (P_length (d := d - 1)  (by omega) hC)) (by omega)
  intro o h1 ⟨s1, j1, c1, f1⟩
  obtain ⟨y, rfl⟩ := V_length j1
  have hM1 := hM.fz f1
  obtain ⟨fs2, h64⟩ := hM1.o
  refine al_aload_n dL_law_381 ?_
  refine al_cV0 (st := [.long y]) dL_law_382 ml_L_41 h64 (az_M.post ?_ (Q_length (d := d - 1)  (by omega) hC.ok hM1)) (by omega)
  intro o2 h2 ⟨s2, j2, m2, f2⟩
  obtain ⟨e1, e2⟩ := D_length hC.ok hM.tl j1 j2
  subst e1
  subst e2
  exact al_lcmp_eq (tgt := 1634) dL_law_385 dL_law_386 (fun _ => al_W.room (by omega) (Nat.le_refl _) (kk h2 s1 K rs (c1.fz f2) m2 hK (by omega))) (fun c => absurd rfl c)
theorem lc_letter {L : Nat} {xs : Nat → Int32} {d rc rs K i : Nat} {s : cs_S} {hp : az_Hp} {Q : Option Value → az_Hp → Prop} (hd : 81 ≤ d) (hi : i + 6 ≤ L) (hL : L ≤ 3072) (hC : cs hp s K) (hM : mm hp s) (hK : K ≤ 32768 ∧ ∃ j, K = 2 ^ j) (hrc : 907 ≤ rc) (hrs : 1011 + 4 * (32768 - K) ≤ rs) (kk : ∀ h' s' K' rs', cs h' s' K' → mm h' s' → (K' ≤ 32768 ∧ ∃ j, K' = 2 ^ j) → (K ≤ K' ∧ rs ≤ rs' + 1011 + 4 * (K' - K)) → al_W L xs mL_law d (rc - 907) rs' 1634 [(0, .retAddr 45), (1, .ref 0), (2, .ref 64), (3, .int (nI i))] [] h' Q) : al_W L xs mL_law d rc rs 391 [(0, .retAddr 45), (1, .ref 0), (2, .ref 64), (3, .int (nI i))] [] hp Q := by
  obtain ⟨fs, h0⟩ := hC.o
  refine al_aload_n dL_law_391 ?_
  refine al_aload_nS dL_law_392 ?_
  refine al_iload_n dL_law_393 ?_
  refine al_iconst (v := nI 1) dL_law_394 ?_
  refine al_iaddN dL_law_395 ?_
  refine al_sld (j := i + 1) dL_law_396 ?_
  refine al_i2l dL_law_397 ?_
  refine al_bipush (v := nI 32) dL_law_398 ?_
  refine al_lshl dL_law_400 ?_
  refine al_aload_nS dL_law_401 ?_
  refine al_iload_n dL_law_402 ?_
  refine al_iconst (v := nI 2) dL_law_403 ?_
  refine al_iaddN dL_law_404 ?_
  refine al_sld (j := i + 2) dL_law_405 ?_
  refine al_i2l dL_law_406 ?_
  refine al_ldc2 dL_law_407 cn_L_42 ?_
  refine al_land dL_law_410 ?_
  refine al_lor dL_law_411 ?_
  refine al_cV0 (st := []) dL_law_412 ml_L_44 h0 (az_M.post ?_ (P_letter (d := d - 1) (x := (((xs (i + 1)).toInt64 <<< ((nI 32).toInt64 &&& 63)) ||| ((xs (i + 2)).toInt64 &&& (4294967295)))) (by omega) hC)) (by omega)
  intro o h1 ⟨s1, j1, c1, f1⟩
  obtain ⟨y, rfl⟩ := V_letter j1
  have hM1 := hM.fz f1
  obtain ⟨fs2, h64⟩ := hM1.o
  refine al_aload_n dL_law_415 ?_
  refine al_aload_nS dL_law_416 ?_
  refine al_iload_n dL_law_417 ?_
  refine al_iconst (v := nI 1) dL_law_418 ?_
  refine al_iaddN dL_law_419 ?_
  refine al_sld (j := i + 1) dL_law_420 ?_
  refine al_i2l dL_law_421 ?_
  refine al_bipush (v := nI 32) dL_law_422 ?_
  refine al_lshl dL_law_424 ?_
  refine al_aload_nS dL_law_425 ?_
  refine al_iload_n dL_law_426 ?_
  refine al_iconst (v := nI 2) dL_law_427 ?_
  refine al_iaddN dL_law_428 ?_
  refine al_sld (j := i + 2) dL_law_429 ?_
  refine al_i2l dL_law_430 ?_
  refine al_ldc2 dL_law_431 cn_L_42 ?_
  refine al_land dL_law_434 ?_
  refine al_lor dL_law_435 ?_
  refine al_cV0 (st := [.int y]) dL_law_436 ml_L_48 h64 (az_M.post ?_ (Q_letter (d := d - 1) (x := (((xs (i + 1)).toInt64 <<< ((nI 32).toInt64 &&& 63)) ||| ((xs (i + 2)).toInt64 &&& (4294967295)))) (by omega) hC.ok hM1)) (by omega)
  intro o2 h2 ⟨s2, j2, m2, f2⟩
  obtain ⟨e1, e2⟩ := D_letter hC.ok hM.tl j1 j2
  subst e1
  subst e2
  exact al_icmp_eq (tgt := 1634) dL_law_439 (fun _ => al_W.room (by omega) (Nat.le_refl _) (kk h2 s1 K rs (c1.fz f2) m2 hK (by omega))) (fun c => absurd rfl c)
theorem lc_count {L : Nat} {xs : Nat → Int32} {d rc rs K i : Nat} {s : cs_S} {hp : az_Hp} {Q : Option Value → az_Hp → Prop} (hd : 81 ≤ d) (hi : i + 6 ≤ L) (hL : L ≤ 3072) (hC : cs hp s K) (hM : mm hp s) (hK : K ≤ 32768 ∧ ∃ j, K = 2 ^ j) (hrc : 907 ≤ rc) (hrs : 1011 + 4 * (32768 - K) ≤ rs) (kk : ∀ h' s' K' rs', cs h' s' K' → mm h' s' → (K' ≤ 32768 ∧ ∃ j, K' = 2 ^ j) → (K ≤ K' ∧ rs ≤ rs' + 1011 + 4 * (K' - K)) → al_W L xs mL_law d (rc - 907) rs' 1634 [(0, .retAddr 45), (1, .ref 0), (2, .ref 64), (3, .int (nI i))] [] h' Q) : al_W L xs mL_law d rc rs 444 [(0, .retAddr 45), (1, .ref 0), (2, .ref 64), (3, .int (nI i))] [] hp Q := by
  obtain ⟨fs, h0⟩ := hC.o
  refine al_aload_n dL_law_444 ?_
  refine al_aload_nS dL_law_445 ?_
  refine al_iload_n dL_law_446 ?_
  refine al_iconst (v := nI 1) dL_law_447 ?_
  refine al_iaddN dL_law_448 ?_
  refine al_sld (j := i + 1) dL_law_449 ?_
  refine al_aload_nS dL_law_450 ?_
  refine al_iload_n dL_law_451 ?_
  refine al_iconst (v := nI 2) dL_law_452 ?_
  refine al_iaddN dL_law_453 ?_
  refine al_sld (j := i + 2) dL_law_454 ?_
  refine al_i2l dL_law_455 ?_
  refine al_bipush (v := nI 32) dL_law_456 ?_
  refine al_lshl dL_law_458 ?_
  refine al_aload_nS dL_law_459 ?_
  refine al_iload_n dL_law_460 ?_
  refine al_iconst (v := nI 3) dL_law_461 ?_
  refine al_iaddN dL_law_462 ?_
  refine al_sld (j := i + 3) dL_law_463 ?_
  refine al_i2l dL_law_464 ?_
  refine al_ldc2 dL_law_465 cn_L_42 ?_
  refine al_land dL_law_468 ?_
  refine al_lor dL_law_469 ?_
  refine al_cV0 (st := []) dL_law_470 ml_L_49 h0 (az_M.post ?_ (P_count (d := d - 1) (xl := xs (i + 1)) (x := (((xs (i + 2)).toInt64 <<< ((nI 32).toInt64 &&& 63)) ||| ((xs (i + 3)).toInt64 &&& (4294967295)))) (by omega) hC)) (by omega)
  intro o h1 ⟨s1, j1, c1, f1⟩
  obtain ⟨y, rfl⟩ := V_count j1
  have hM1 := hM.fz f1
  obtain ⟨fs2, h64⟩ := hM1.o
  refine al_aload_n dL_law_473 ?_
  refine al_aload_nS dL_law_474 ?_
  refine al_iload_n dL_law_475 ?_
  refine al_iconst (v := nI 1) dL_law_476 ?_
  refine al_iaddN dL_law_477 ?_
  refine al_sld (j := i + 1) dL_law_478 ?_
  refine al_aload_nS dL_law_479 ?_
  refine al_iload_n dL_law_480 ?_
  refine al_iconst (v := nI 2) dL_law_481 ?_
  refine al_iaddN dL_law_482 ?_
  refine al_sld (j := i + 2) dL_law_483 ?_
  refine al_i2l dL_law_484 ?_
  refine al_bipush (v := nI 32) dL_law_485 ?_
  refine al_lshl dL_law_487 ?_
  refine al_aload_nS dL_law_488 ?_
  refine al_iload_n dL_law_489 ?_
  refine al_iconst (v := nI 3) dL_law_490 ?_
  refine al_iaddN dL_law_491 ?_
  refine al_sld (j := i + 3) dL_law_492 ?_
  refine al_i2l dL_law_493 ?_
  refine al_ldc2 dL_law_494 cn_L_42 ?_
  refine al_land dL_law_497 ?_
  refine al_lor dL_law_498 ?_
  refine al_cV0 (st := [.long y]) dL_law_499 ml_L_53 h64 (az_M.post ?_ (Q_count (d := d - 1) (xl := xs (i + 1)) (x := (((xs (i + 2)).toInt64 <<< ((nI 32).toInt64 &&& 63)) ||| ((xs (i + 3)).toInt64 &&& (4294967295)))) (by omega) hC.ok hM1)) (by omega)
  intro o2 h2 ⟨s2, j2, m2, f2⟩
  obtain ⟨e1, e2⟩ := D_count hC.ok hM.tl j1 j2
  subst e1
  subst e2
  exact al_lcmp_eq (tgt := 1634) dL_law_502 dL_law_503 (fun _ => al_W.room (by omega) (Nat.le_refl _) (kk h2 s1 K rs (c1.fz f2) m2 hK (by omega))) (fun c => absurd rfl c)
theorem lc_place {L : Nat} {xs : Nat → Int32} {d rc rs K i : Nat} {s : cs_S} {hp : az_Hp} {Q : Option Value → az_Hp → Prop} (hd : 81 ≤ d) (hi : i + 6 ≤ L) (hL : L ≤ 3072) (hC : cs hp s K) (hM : mm hp s) (hK : K ≤ 32768 ∧ ∃ j, K = 2 ^ j) (hrc : 907 ≤ rc) (hrs : 1011 + 4 * (32768 - K) ≤ rs) (kk : ∀ h' s' K' rs', cs h' s' K' → mm h' s' → (K' ≤ 32768 ∧ ∃ j, K' = 2 ^ j) → (K ≤ K' ∧ rs ≤ rs' + 1011 + 4 * (K' - K)) → al_W L xs mL_law d (rc - 907) rs' 1634 [(0, .retAddr 45), (1, .ref 0), (2, .ref 64), (3, .int (nI i))] [] h' Q) : al_W L xs mL_law d rc rs 508 [(0, .retAddr 45), (1, .ref 0), (2, .ref 64), (3, .int (nI i))] [] hp Q := by
  obtain ⟨fs, h0⟩ := hC.o
  refine al_aload_n dL_law_508 ?_
  refine al_aload_nS dL_law_509 ?_
  refine al_iload_n dL_law_510 ?_
  refine al_iconst (v := nI 1) dL_law_511 ?_
  refine al_iaddN dL_law_512 ?_
  refine al_sld (j := i + 1) dL_law_513 ?_
  refine al_aload_nS dL_law_514 ?_
  refine al_iload_n dL_law_515 ?_
  refine al_iconst (v := nI 2) dL_law_516 ?_
  refine al_iaddN dL_law_517 ?_
  refine al_sld (j := i + 2) dL_law_518 ?_
  refine al_i2l dL_law_519 ?_
  refine al_bipush (v := nI 32) dL_law_520 ?_
  refine al_lshl dL_law_522 ?_
  refine al_aload_nS dL_law_523 ?_
  refine al_iload_n dL_law_524 ?_
  refine al_iconst (v := nI 3) dL_law_525 ?_
  refine al_iaddN dL_law_526 ?_
  refine al_sld (j := i + 3) dL_law_527 ?_
  refine al_i2l dL_law_528 ?_
  refine al_ldc2 dL_law_529 cn_L_42 ?_
  refine al_land dL_law_532 ?_
  refine al_lor dL_law_533 ?_
  refine al_cV0 (st := []) dL_law_534 ml_L_54 h0 (az_M.post ?_ (P_place (d := d - 1) (xl := xs (i + 1)) (x := (((xs (i + 2)).toInt64 <<< ((nI 32).toInt64 &&& 63)) ||| ((xs (i + 3)).toInt64 &&& (4294967295)))) (by omega) hC)) (by omega)
  intro o h1 ⟨s1, j1, c1, f1⟩
  obtain ⟨y, rfl⟩ := V_place j1
  have hM1 := hM.fz f1
  obtain ⟨fs2, h64⟩ := hM1.o
  refine al_aload_n dL_law_537 ?_
  refine al_aload_nS dL_law_538 ?_
  refine al_iload_n dL_law_539 ?_
  refine al_iconst (v := nI 1) dL_law_540 ?_
  refine al_iaddN dL_law_541 ?_
  refine al_sld (j := i + 1) dL_law_542 ?_
  refine al_aload_nS dL_law_543 ?_
  refine al_iload_n dL_law_544 ?_
  refine al_iconst (v := nI 2) dL_law_545 ?_
  refine al_iaddN dL_law_546 ?_
  refine al_sld (j := i + 2) dL_law_547 ?_
  refine al_i2l dL_law_548 ?_
  refine al_bipush (v := nI 32) dL_law_549 ?_
  refine al_lshl dL_law_551 ?_
  refine al_aload_nS dL_law_552 ?_
  refine al_iload_n dL_law_553 ?_
  refine al_iconst (v := nI 3) dL_law_554 ?_
  refine al_iaddN dL_law_555 ?_
  refine al_sld (j := i + 3) dL_law_556 ?_
  refine al_i2l dL_law_557 ?_
  refine al_ldc2 dL_law_558 cn_L_42 ?_
  refine al_land dL_law_561 ?_
  refine al_lor dL_law_562 ?_
  refine al_cV0 (st := [.long y]) dL_law_563 ml_L_57 h64 (az_M.post ?_ (Q_place (d := d - 1) (xl := xs (i + 1)) (x := (((xs (i + 2)).toInt64 <<< ((nI 32).toInt64 &&& 63)) ||| ((xs (i + 3)).toInt64 &&& (4294967295)))) (by omega) hC.ok hM1)) (by omega)
  intro o2 h2 ⟨s2, j2, m2, f2⟩
  obtain ⟨e1, e2⟩ := D_place hC.ok hM.tl j1 j2
  subst e1
  subst e2
  exact al_lcmp_eq (tgt := 1634) dL_law_566 dL_law_567 (fun _ => al_W.room (by omega) (Nat.le_refl _) (kk h2 s1 K rs (c1.fz f2) m2 hK (by omega))) (fun c => absurd rfl c)
theorem lc_night {L : Nat} {xs : Nat → Int32} {d rc rs K i : Nat} {s : cs_S} {hp : az_Hp} {Q : Option Value → az_Hp → Prop} (hd : 81 ≤ d) (hi : i + 6 ≤ L) (hL : L ≤ 3072) (hC : cs hp s K) (hM : mm hp s) (hK : K ≤ 32768 ∧ ∃ j, K = 2 ^ j) (hrc : 907 ≤ rc) (hrs : 1011 + 4 * (32768 - K) ≤ rs) (kk : ∀ h' s' K' rs', cs h' s' K' → mm h' s' → (K' ≤ 32768 ∧ ∃ j, K' = 2 ^ j) → (K ≤ K' ∧ rs ≤ rs' + 1011 + 4 * (K' - K)) → al_W L xs mL_law d (rc - 907) rs' 1634 [(0, .retAddr 45), (1, .ref 0), (2, .ref 64), (3, .int (nI i))] [] h' Q) : al_W L xs mL_law d rc rs 572 [(0, .retAddr 45), (1, .ref 0), (2, .ref 64), (3, .int (nI i))] [] hp Q := by
  obtain ⟨fs, h0⟩ := hC.o
  refine al_aload_n dL_law_572 ?_
  refine al_aload_nS dL_law_573 ?_
  refine al_iload_n dL_law_574 ?_
  refine al_iconst (v := nI 1) dL_law_575 ?_
  refine al_iaddN dL_law_576 ?_
  refine al_sld (j := i + 1) dL_law_577 ?_
  refine al_cV0 (st := []) dL_law_578 ml_L_58 h0 (az_M.post ?_ (P_night (d := d - 1) (x := xs (i + 1)) (by omega) hC)) (by omega)
  intro o h1 ⟨s1, j1, c1, f1⟩
  obtain ⟨y, rfl⟩ := V_night j1
  have hM1 := hM.fz f1
  obtain ⟨fs2, h64⟩ := hM1.o
  refine al_aload_n dL_law_581 ?_
  refine al_aload_nS dL_law_582 ?_
  refine al_iload_n dL_law_583 ?_
  refine al_iconst (v := nI 1) dL_law_584 ?_
  refine al_iaddN dL_law_585 ?_
  refine al_sld (j := i + 1) dL_law_586 ?_
  refine al_cV0 (st := [.long y]) dL_law_587 ml_L_62 h64 (az_M.post ?_ (Q_night (d := d - 1) (x := xs (i + 1)) (by omega) hC.ok hM1)) (by omega)
  intro o2 h2 ⟨s2, j2, m2, f2⟩
  obtain ⟨e1, e2⟩ := D_night hC.ok hM.tl j1 j2
  subst e1
  subst e2
  exact al_lcmp_eq (tgt := 1634) dL_law_590 dL_law_591 (fun _ => al_W.room (by omega) (Nat.le_refl _) (kk h2 s1 K rs (c1.fz f2) m2 hK (by omega))) (fun c => absurd rfl c)
theorem lc_nights {L : Nat} {xs : Nat → Int32} {d rc rs K i : Nat} {s : cs_S} {hp : az_Hp} {Q : Option Value → az_Hp → Prop} (hd : 81 ≤ d) (hi : i + 6 ≤ L) (hL : L ≤ 3072) (hC : cs hp s K) (hM : mm hp s) (hK : K ≤ 32768 ∧ ∃ j, K = 2 ^ j) (hrc : 907 ≤ rc) (hrs : 1011 + 4 * (32768 - K) ≤ rs) (kk : ∀ h' s' K' rs', cs h' s' K' → mm h' s' → (K' ≤ 32768 ∧ ∃ j, K' = 2 ^ j) → (K ≤ K' ∧ rs ≤ rs' + 1011 + 4 * (K' - K)) → al_W L xs mL_law d (rc - 907) rs' 1634 [(0, .retAddr 45), (1, .ref 0), (2, .ref 64), (3, .int (nI i))] [] h' Q) : al_W L xs mL_law d rc rs 596 [(0, .retAddr 45), (1, .ref 0), (2, .ref 64), (3, .int (nI i))] [] hp Q := by
  obtain ⟨fs, h0⟩ := hC.o
  refine al_aload_n dL_law_596 ?_
  refine al_aload_nS dL_law_597 ?_
  refine al_iload_n dL_law_598 ?_
  refine al_iconst (v := nI 1) dL_law_599 ?_
  refine al_iaddN dL_law_600 ?_
  refine al_sld (j := i + 1) dL_law_601 ?_
  refine al_cV0 (st := []) dL_law_602 ml_L_63 h0 (az_M.post ?_ (P_nights (d := d - 1) (x := xs (i + 1)) (by omega) hC)) (by omega)
  intro o h1 ⟨s1, j1, c1, f1⟩
  obtain ⟨y, rfl⟩ := V_nights j1
  have hM1 := hM.fz f1
  obtain ⟨fs2, h64⟩ := hM1.o
  refine al_aload_n dL_law_605 ?_
  refine al_aload_nS dL_law_606 ?_
  refine al_iload_n dL_law_607 ?_
  refine al_iconst (v := nI 1) dL_law_608 ?_
  refine al_iaddN dL_law_609 ?_
  refine al_sld (j := i + 1) dL_law_610 ?_
  refine al_cV0 (st := [.int y]) dL_law_611 ml_L_66 h64 (az_M.post ?_ (Q_nights (d := d - 1) (x := xs (i + 1)) (by omega) hC.ok hM1)) (by omega)
  intro o2 h2 ⟨s2, j2, m2, f2⟩
  obtain ⟨e1, e2⟩ := D_nights hC.ok hM.tl j1 j2
  subst e1
  subst e2
  exact al_icmp_eq (tgt := 1634) dL_law_614 (fun _ => al_W.room (by omega) (Nat.le_refl _) (kk h2 s1 K rs (c1.fz f2) m2 hK (by omega))) (fun c => absurd rfl c)
theorem lc_moon {L : Nat} {xs : Nat → Int32} {d rc rs K i : Nat} {s : cs_S} {hp : az_Hp} {Q : Option Value → az_Hp → Prop} (hd : 81 ≤ d) (hi : i + 6 ≤ L) (hL : L ≤ 3072) (hC : cs hp s K) (hM : mm hp s) (hK : K ≤ 32768 ∧ ∃ j, K = 2 ^ j) (hrc : 907 ≤ rc) (hrs : 1011 + 4 * (32768 - K) ≤ rs) (kk : ∀ h' s' K' rs', cs h' s' K' → mm h' s' → (K' ≤ 32768 ∧ ∃ j, K' = 2 ^ j) → (K ≤ K' ∧ rs ≤ rs' + 1011 + 4 * (K' - K)) → al_W L xs mL_law d (rc - 907) rs' 1634 [(0, .retAddr 45), (1, .ref 0), (2, .ref 64), (3, .int (nI i))] [] h' Q) : al_W L xs mL_law d rc rs 619 [(0, .retAddr 45), (1, .ref 0), (2, .ref 64), (3, .int (nI i))] [] hp Q := by
  obtain ⟨fs, h0⟩ := hC.o
  refine al_aload_n dL_law_619 ?_
  refine al_aload_nS dL_law_620 ?_
  refine al_iload_n dL_law_621 ?_
  refine al_iconst (v := nI 1) dL_law_622 ?_
  refine al_iaddN dL_law_623 ?_
  refine al_sld (j := i + 1) dL_law_624 ?_
  refine al_cV0 (st := []) dL_law_625 ml_L_67 h0 (az_M.post ?_ (P_moon (d := d - 1) (x := xs (i + 1)) (by omega) hC)) (by omega)
  intro o h1 ⟨s1, j1, c1, f1⟩
  obtain ⟨y, rfl⟩ := V_moon j1
  have hM1 := hM.fz f1
  obtain ⟨fs2, h64⟩ := hM1.o
  refine al_aload_n dL_law_628 ?_
  refine al_aload_nS dL_law_629 ?_
  refine al_iload_n dL_law_630 ?_
  refine al_iconst (v := nI 1) dL_law_631 ?_
  refine al_iaddN dL_law_632 ?_
  refine al_sld (j := i + 1) dL_law_633 ?_
  refine al_cV0 (st := [.int y]) dL_law_634 ml_L_70 h64 (az_M.post ?_ (Q_moon (d := d - 1) (x := xs (i + 1)) (by omega) hC.ok hM1)) (by omega)
  intro o2 h2 ⟨s2, j2, m2, f2⟩
  obtain ⟨e1, e2⟩ := D_moon hC.ok hM.tl j1 j2
  subst e1
  subst e2
  exact al_icmp_eq (tgt := 1634) dL_law_637 (fun _ => al_W.room (by omega) (Nat.le_refl _) (kk h2 s1 K rs (c1.fz f2) m2 hK (by omega))) (fun c => absurd rfl c)
theorem lc_undo {L : Nat} {xs : Nat → Int32} {d rc rs K i : Nat} {s : cs_S} {hp : az_Hp} {Q : Option Value → az_Hp → Prop} (hd : 81 ≤ d) (hi : i + 6 ≤ L) (hL : L ≤ 3072) (hC : cs hp s K) (hM : mm hp s) (hK : K ≤ 32768 ∧ ∃ j, K = 2 ^ j) (hrc : 907 ≤ rc) (hrs : 1011 + 4 * (32768 - K) ≤ rs) (kk : ∀ h' s' K' rs', cs h' s' K' → mm h' s' → (K' ≤ 32768 ∧ ∃ j, K' = 2 ^ j) → (K ≤ K' ∧ rs ≤ rs' + 1011 + 4 * (K' - K)) → al_W L xs mL_law d (rc - 907) rs' 1634 [(0, .retAddr 45), (1, .ref 0), (2, .ref 64), (3, .int (nI i))] [] h' Q) : al_W L xs mL_law d rc rs 642 [(0, .retAddr 45), (1, .ref 0), (2, .ref 64), (3, .int (nI i))] [] hp Q := by
  obtain ⟨fs, h0⟩ := hC.o
  refine al_aload_n dL_law_642 ?_
  refine al_aload_nS dL_law_643 ?_
  refine al_iload_n dL_law_644 ?_
  refine al_iconst (v := nI 1) dL_law_645 ?_
  refine al_iaddN dL_law_646 ?_
  refine al_sld (j := i + 1) dL_law_647 ?_
  refine al_cV0 (st := []) dL_law_648 ml_L_71 h0 (az_M.post ?_ (P_undo (d := d - 1) (x := xs (i + 1)) (by omega) hC)) (by omega)
  intro o h1 ⟨s1, j1, c1, f1⟩
  obtain ⟨y, rfl⟩ := V_undo j1
  have hM1 := hM.fz f1
  obtain ⟨fs2, h64⟩ := hM1.o
  refine al_aload_n dL_law_651 ?_
  refine al_aload_nS dL_law_652 ?_
  refine al_iload_n dL_law_653 ?_
  refine al_iconst (v := nI 1) dL_law_654 ?_
  refine al_iaddN dL_law_655 ?_
  refine al_sld (j := i + 1) dL_law_656 ?_
  refine al_cV0 (st := [.int y]) dL_law_657 ml_L_74 h64 (az_M.post ?_ (Q_undo (d := d - 1) (x := xs (i + 1)) (by omega) hC.ok hM1)) (by omega)
  intro o2 h2 ⟨s2, j2, m2, f2⟩
  obtain ⟨e1, e2⟩ := D_undo hC.ok hM.tl j1 j2
  subst e1
  subst e2
  exact al_icmp_eq (tgt := 1634) dL_law_660 (fun _ => al_W.room (by omega) (Nat.le_refl _) (kk h2 s1 K rs (c1.fz f2) m2 hK (by omega))) (fun c => absurd rfl c)
theorem lc_judge {L : Nat} {xs : Nat → Int32} {d rc rs K i : Nat} {s : cs_S} {hp : az_Hp} {Q : Option Value → az_Hp → Prop} (hd : 81 ≤ d) (hi : i + 6 ≤ L) (hL : L ≤ 3072) (hC : cs hp s K) (hM : mm hp s) (hK : K ≤ 32768 ∧ ∃ j, K = 2 ^ j) (hrc : 907 ≤ rc) (hrs : 1011 + 4 * (32768 - K) ≤ rs) (kk : ∀ h' s' K' rs', cs h' s' K' → mm h' s' → (K' ≤ 32768 ∧ ∃ j, K' = 2 ^ j) → (K ≤ K' ∧ rs ≤ rs' + 1011 + 4 * (K' - K)) → al_W L xs mL_law d (rc - 907) rs' 1634 [(0, .retAddr 45), (1, .ref 0), (2, .ref 64), (3, .int (nI i))] [] h' Q) : al_W L xs mL_law d rc rs 665 [(0, .retAddr 45), (1, .ref 0), (2, .ref 64), (3, .int (nI i))] [] hp Q := by
  obtain ⟨fs, h0⟩ := hC.o
  refine al_aload_n dL_law_665 ?_
  refine al_aload_nS dL_law_666 ?_
  refine al_iload_n dL_law_667 ?_
  refine al_iconst (v := nI 1) dL_law_668 ?_
  refine al_iaddN dL_law_669 ?_
  refine al_sld (j := i + 1) dL_law_670 ?_
  refine al_aload_nS dL_law_671 ?_
  refine al_iload_n dL_law_672 ?_
  refine al_iconst (v := nI 2) dL_law_673 ?_
  refine al_iaddN dL_law_674 ?_
  refine al_sld (j := i + 2) dL_law_675 ?_
  refine al_cV0 (st := []) dL_law_676 ml_L_75 h0 (az_M.post ?_ (P_judge (d := d - 1) (x := xs (i + 1)) (xw := xs (i + 2)) (by omega) hC)) (by omega)
  intro o h1 ⟨s1, j1, c1, f1⟩
  obtain ⟨y, rfl⟩ := V_judge j1
  have hM1 := hM.fz f1
  obtain ⟨fs2, h64⟩ := hM1.o
  refine al_aload_n dL_law_679 ?_
  refine al_aload_nS dL_law_680 ?_
  refine al_iload_n dL_law_681 ?_
  refine al_iconst (v := nI 1) dL_law_682 ?_
  refine al_iaddN dL_law_683 ?_
  refine al_sld (j := i + 1) dL_law_684 ?_
  refine al_aload_nS dL_law_685 ?_
  refine al_iload_n dL_law_686 ?_
  refine al_iconst (v := nI 2) dL_law_687 ?_
  refine al_iaddN dL_law_688 ?_
  refine al_sld (j := i + 2) dL_law_689 ?_
  refine al_cV0 (st := [.int y]) dL_law_690 ml_L_79 h64 (az_M.post ?_ (Q_judge (d := d - 1) (x := xs (i + 1)) (xw := xs (i + 2)) (by omega) hC.ok hM1)) (by omega)
  intro o2 h2 ⟨s2, j2, m2, f2⟩
  obtain ⟨e1, e2⟩ := D_judge hC.ok hM.tl j1 j2
  subst e1
  subst e2
  exact al_icmp_eq (tgt := 1634) dL_law_693 (fun _ => al_W.room (by omega) (Nat.le_refl _) (kk h2 s1 K rs (c1.fz f2) m2 hK (by omega))) (fun c => absurd rfl c)
