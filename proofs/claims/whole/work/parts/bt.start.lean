/-! The start: classes, links -/
def ks_ok (q : vw_C) : Prop := (∀ w ∈ u_ws q.1 q.2.1 q.2.2, w ∈ az_tbl) ∧ Cond.instantiable q.1 q.2.2 ∈ lw_tbl
theorem ks_k0 : ks_ok (RX0, TX0, 8) := ⟨usX0, (tx_m1 120 (by decide +kernel))⟩
theorem ks_k1 : ks_ok (RX1, TX1, 8) := ⟨usX1, (tx_m2 64 (by decide +kernel))⟩
theorem ks_k2 : ks_ok (RX2, TX2, 2) := ⟨usX2, (tx_m1 152 (by decide +kernel))⟩
theorem ks_k3 : ks_ok (RX4, TX4, 4) := ⟨usX4, (tx_m1 75 (by decide +kernel))⟩
theorem ks_k4 : ks_ok (RX5, TX5, 11) := ⟨usX5, (tx_m1 31 (by decide +kernel))⟩
theorem ks_k5 : ks_ok (RX6, TX6, 13) := ⟨usX6, (tx_m1 222 (by decide +kernel))⟩
theorem ks_k6 : ks_ok (RX7, TX7, 4) := ⟨usX7, (tx_m1 99 (by decide +kernel))⟩
theorem ks_k7 : ks_ok (RX8, TX8, 4) := ⟨usX8, (tx_m2 70 (by decide +kernel))⟩
theorem ks_k8 : ks_ok (RX9, TX9, 9) := ⟨usX9, (tx_m1 165 (by decide +kernel))⟩
theorem ks_k9 : ks_ok (RX10, TX10, 3) := ⟨usX10, (tx_m2 113 (by decide +kernel))⟩
theorem ks_k10 : ks_ok (RX11, TX11, 12) := ⟨usX11, (tx_m1 23 (by decide +kernel))⟩
theorem ks_k11 : ks_ok (RX12, TX12, 45) := ⟨usX12, (tx_m6 76 (by decide +kernel))⟩
theorem ks_all : ∀ q ∈ vwCl, ks_ok q := List.forall_mem_cons.mpr ⟨ks_k0, List.forall_mem_cons.mpr ⟨ks_k1, List.forall_mem_cons.mpr ⟨ks_k2, List.forall_mem_cons.mpr ⟨ks_k3, List.forall_mem_cons.mpr ⟨ks_k4, List.forall_mem_cons.mpr ⟨ks_k5, List.forall_mem_cons.mpr ⟨ks_k6, List.forall_mem_cons.mpr ⟨ks_k7, List.forall_mem_cons.mpr ⟨ks_k8, List.forall_mem_cons.mpr ⟨ks_k9, List.forall_mem_cons.mpr ⟨ks_k10, List.forall_mem_cons.mpr ⟨ks_k11, fun _ h => absurd h List.not_mem_nil⟩⟩⟩⟩⟩⟩⟩⟩⟩⟩⟩⟩
theorem kn_k0 : Cond.methodLinkNest RX11 15 yX5_init RX11 ∈ lw_tbl := (tx_m1 32 (by decide +kernel))
theorem kn_k1 : Cond.methodLinkNest RX11 22 yX4_init RX11 ∈ lw_tbl := (tx_m1 76 (by decide +kernel))
theorem kn_k2 : Cond.methodLinkNest RX11 41 yX7_init RX11 ∈ lw_tbl := (tx_m1 100 (by decide +kernel))
theorem kn_k3 : Cond.methodLinkNest RX11 48 yX0_init RX11 ∈ lw_tbl := (tx_m1 121 (by decide +kernel))
theorem kn_k4 : Cond.methodLinkNest RX11 55 yX2_init RX11 ∈ lw_tbl := (tx_m1 153 (by decide +kernel))
theorem kn_k5 : Cond.methodLinkNest RX1 24 yX8_init RX11 ∈ lw_tbl := (tx_m2 71 (by decide +kernel))
theorem kn_k6 : Cond.methodLinkNest RX11 80 yX10_init RX11 ∈ lw_tbl := (tx_m2 114 (by decide +kernel))
theorem kn_all : ∀ r ∈ az_nst, Cond.methodLinkNest r.1 r.2.1 r.2.2 RX11 ∈ lw_tbl := List.forall_mem_cons.mpr ⟨kn_k0, List.forall_mem_cons.mpr ⟨kn_k1, List.forall_mem_cons.mpr ⟨kn_k2, List.forall_mem_cons.mpr ⟨kn_k3, List.forall_mem_cons.mpr ⟨kn_k4, List.forall_mem_cons.mpr ⟨kn_k5, List.forall_mem_cons.mpr ⟨kn_k6, fun _ h => absurd h List.not_mem_nil⟩⟩⟩⟩⟩⟩⟩
theorem az_sub {w : Cond} (h : w ∈ az_tbl) : w ∈ lw_tbl := (List.mem_filter.mp h).1
theorem az_X0 {b : Nat} {s : State} (c0 : ClassId) (hts : ∀ w ∈ lw_tbl, w.before #[Value.ref b] s = true) (hgv : (Jvm.Cond.and given_1 narrow_1).before #[Value.ref b] s = true) : ∃ (D : va_G) (sa : Nat → Nat), sa 45 = b ∧ az_X D s.heap.size sa s.heap s := by
  obtain ⟨sa, h45, hT⟩ := tx_T hts hgv
  have h0 : ∀ k : Nat, ∃ y : ClassId × (Nat → Nat), ∀ q, vwCl[k]? = some q → u_Kn s q.1 q.2.1 q.2.2 y.1 y.2 := by
    intro k
    cases hk : vwCl[k]? with
    | none => exact ⟨(c0, fun _ => 0), fun r h => nomatch h⟩
    | some q =>
      obtain ⟨g1, g2⟩ := ks_all q (List.mem_of_getElem? hk)
      obtain ⟨cC, iS, hKn⟩ := u_known (C := q.1) (T := q.2.1) (N := q.2.2) (n := q.2.2) hts (fun w hw => az_sub (g1 w hw)) (hts _ g2)
      exact ⟨(cC, iS), fun r' e => (by cases e; exact hKn)⟩
  obtain ⟨ad, had⟩ := Classical.axiomOfChoice h0
  refine ⟨(fun k => (ad k).1, fun k => (ad k).2), sa, h45, ⟨fun c q hq => had c q hq, fun k q h => by simp at h⟩, hT, fun r hr => va_Nw.of rfl (hts _ (kn_all r hr)), va_AO.of (hts _ (tx_m1 95 (by decide +kernel))), va_AO.of (hts _ (tx_m1 97 (by decide +kernel)))⟩
