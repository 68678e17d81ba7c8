/-! The law's beginning -/
set_option maxHeartbeats 4000000 in
set_option maxRecDepth 100000 in
theorem lw_begin {L : Nat} {xs : Nat → Int32} {d : Nat} {Q : Option Value → az_Hp → Prop} (hd : 81 ≤ d) (hL : L ≤ 3072) (hQ : ∀ h', Q (some (.int 1)) h') : al_W L xs mL_law d 600000 7302250 0 [(0, .retAddr 45)] [] ((0, fun _ => none) : az_Hp) Q := by
  refine al_newK (k := 12) dL_law_0 nw_L_7 ?_ rfl (by omega) (by omega)
  refine al_dup dL_law_3 ?_
  refine al_cI (mc := 63) (ms := 9000) (av := []) (b := 0) (st := [.ref 0]) dL_law_4 ml_L_9 rfl (s_initClass (d := d - 1) (f9 := fun q => if q = 0 then some (az_O 10 [.null, .int 0, .null, .null, .null, .null, .null, .null, .null, .null, .null, .null]) else none) (by omega) rfl ?_) (by omega) rfl rfl (by exact Nat.le_of_ble_eq_true rfl) (by omega) (by omega)
  intro h1 hz1 hc1
  obtain ⟨nn, f1⟩ := h1
  obtain rfl : nn = 64 := hz1
  obtain ⟨F, ia, hH⟩ := hc1 (show 93 ≤ 64 + 29 by decide)
  refine al_astore_n (ls' := [(0, .retAddr 45), (1, .ref 0)]) dL_law_7 ?_
  refine al_newK (k := 45) dL_law_8 nw_L_10 ?_ rfl (by omega) (by omega)
  refine al_dup dL_law_11 ?_
  refine al_cI (mc := 28) (ms := 31604) (av := []) (b := 64) (st := [.ref 64]) dL_law_12 ml_L_12 rfl (m_initModel (d := d - 1) (f0 := (az_nw ((64, f1) : az_Hp) (az_O 11 [.int 0, .null, .null, .null, .null, .int 0, .int 0, .int 0, .int 0, .int 0, .int 0, .int 0, .int 0, .int 0, .int 0, .null, .null, .null, .long 0, .null, .null, .null, .int 0, .int 0, .null, .int 0, .null, .null, .null, .int 0, .null, .null, .null, .null, .null, .null, .null, .int 0, .null, .null, .null, .null, .null, .null, .null])).2) (by omega) rfl ?_) (by omega) rfl rfl (by exact Nat.le_of_ble_eq_true rfl) (by omega) (by omega)
  intro h2 hz2 hlow hM
  have hC : cs h2 cs_0 64 := ⟨cs_0_ok, 24, F, ia, 51, 52, hH.fz hz2 (fun q hq hr => (by
    have h6 : q < 64 := (by have hq : q < 93 := hq; omega)
    rw [hlow q h6]
    exact if_neg (by show ¬ q = 64; omega)))⟩
  refine al_astore_n (ls' := [(0, .retAddr 45), (1, .ref 0), (2, .ref 64)]) dL_law_15 ?_
  refine al_iconst (v := nI 0) dL_law_16 ?_
  refine al_istore_n (ls' := [(0, .retAddr 45), (1, .ref 0), (2, .ref 64), (3, .int (nI 0))]) dL_law_17 ?_
  exact lw_loop hd hL hQ (L - 0) _ _ 64 0 cs_0 h2 rfl (by omega) hC hM ⟨by decide, 6, rfl⟩ (by omega) (by omega)
