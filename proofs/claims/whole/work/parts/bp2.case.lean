/-! The law's cases -/
theorem lc_perform {L : Nat} {xs : Nat → Int32} {d rc rs K i : Nat} {s : cs_S} {hp : az_Hp} {Q : Option Value → az_Hp → Prop} (hd : 81 ≤ d) (hi : i + 6 ≤ L) (hL : L ≤ 3072) (hC : cs hp s K) (hM : mm hp s) (hK : K ≤ 32768 ∧ ∃ j, K = 2 ^ j) (hrc : 907 ≤ rc) (hrs : 1011 + 4 * (32768 - K) ≤ rs) (kk : ∀ h' s' K' rs', cs h' s' K' → mm h' s' → (K' ≤ 32768 ∧ ∃ j, K' = 2 ^ j) → (K ≤ K' ∧ rs ≤ rs' + 1011 + 4 * (K' - K)) → al_W L xs mL_law d (rc - 907) rs' 1634 [(0, .retAddr 45), (1, .ref 0), (2, .ref 64), (3, .int (nI i))] [] h' Q) : al_W L xs mL_law d rc rs 698 [(0, .retAddr 45), (1, .ref 0), (2, .ref 64), (3, .int (nI i))] [] hp Q := by
  obtain ⟨fs, h0⟩ := hC.o
  refine al_aload_n dL_law_698 ?_
  refine al_aload_nS dL_law_699 ?_
  refine al_iload_n dL_law_700 ?_
  refine al_iconst (v := nI 1) dL_law_701 ?_
  refine al_iaddN dL_law_702 ?_
  refine al_sld (j := i + 1) dL_law_703 ?_
  refine al_cV0 (st := []) dL_law_704 ml_L_80 h0 (az_M.post ?_ (P_perform (d := d - 1) (x := xs (i + 1)) (by omega) hC)) (by omega)
  intro o h1 ⟨s1, j1, c1, f1⟩
  obtain ⟨y, rfl⟩ := V_perform j1
  have hM1 := hM.fz f1
  obtain ⟨fs2, h64⟩ := hM1.o
  refine al_aload_n dL_law_707 ?_
  refine al_aload_nS dL_law_708 ?_
  refine al_iload_n dL_law_709 ?_
  refine al_iconst (v := nI 1) dL_law_710 ?_
  refine al_iaddN dL_law_711 ?_
  refine al_sld (j := i + 1) dL_law_712 ?_
  refine al_cV0 (st := [.int y]) dL_law_713 ml_L_83 h64 (az_M.post ?_ (Q_perform (d := d - 1) (x := xs (i + 1)) (by omega) hC.ok hM1)) (by omega)
  intro o2 h2 ⟨s2, j2, m2, f2⟩
  obtain ⟨e1, e2⟩ := D_perform hC.ok hM.tl j1 j2
  subst e1
  subst e2
  exact al_icmp_eq (tgt := 1634) dL_law_716 (fun _ => al_W.room (by omega) (Nat.le_refl _) (kk h2 s1 K rs (c1.fz f2) m2 hK (by omega))) (fun c => absurd rfl c)
theorem lc_year {L : Nat} {xs : Nat → Int32} {d rc rs K i : Nat} {s : cs_S} {hp : az_Hp} {Q : Option Value → az_Hp → Prop} (hd : 81 ≤ d) (hi : i + 6 ≤ L) (hL : L ≤ 3072) (hC : cs hp s K) (hM : mm hp s) (hK : K ≤ 32768 ∧ ∃ j, K = 2 ^ j) (hrc : 907 ≤ rc) (hrs : 1011 + 4 * (32768 - K) ≤ rs) (kk : ∀ h' s' K' rs', cs h' s' K' → mm h' s' → (K' ≤ 32768 ∧ ∃ j, K' = 2 ^ j) → (K ≤ K' ∧ rs ≤ rs' + 1011 + 4 * (K' - K)) → al_W L xs mL_law d (rc - 907) rs' 1634 [(0, .retAddr 45), (1, .ref 0), (2, .ref 64), (3, .int (nI i))] [] h' Q) : al_W L xs mL_law d rc rs 721 [(0, .retAddr 45), (1, .ref 0), (2, .ref 64), (3, .int (nI i))] [] hp Q := by
  obtain ⟨fs, h0⟩ := hC.o
  refine al_aload_n dL_law_721 ?_
  refine al_aload_nS dL_law_722 ?_
  refine al_iload_n dL_law_723 ?_
  refine al_iconst (v := nI 1) dL_law_724 ?_
  refine al_iaddN dL_law_725 ?_
  refine al_sld (j := i + 1) dL_law_726 ?_
  refine al_aload_nS dL_law_727 ?_
  refine al_iload_n dL_law_728 ?_
  refine al_iconst (v := nI 2) dL_law_729 ?_
  refine al_iaddN dL_law_730 ?_
  refine al_sld (j := i + 2) dL_law_731 ?_
  refine al_cV0 (st := []) dL_law_732 ml_L_84 h0 (az_M.post ?_ (P_year (d := d - 1) (xs := xs (i + 1)) (xt := xs (i + 2)) (by omega) hC)) (by omega)
  intro o h1 ⟨s1, j1, c1, f1⟩
  obtain ⟨y, rfl⟩ := V_year j1
  have hM1 := hM.fz f1
  obtain ⟨fs2, h64⟩ := hM1.o
  refine al_aload_n dL_law_735 ?_
  refine al_aload_nS dL_law_736 ?_
  refine al_iload_n dL_law_737 ?_
  refine al_iconst (v := nI 1) dL_law_738 ?_
  refine al_iaddN dL_law_739 ?_
  refine al_sld (j := i + 1) dL_law_740 ?_
  refine al_aload_nS dL_law_741 ?_
  refine al_iload_n dL_law_742 ?_
  refine al_iconst (v := nI 2) dL_law_743 ?_
  refine al_iaddN dL_law_744 ?_
  refine al_sld (j := i + 2) dL_law_745 ?_
  refine al_cV0 (st := [.int y]) dL_law_746 ml_L_87 h64 (az_M.post ?_ (Q_year (d := d - 1) (xs := xs (i + 1)) (xt := xs (i + 2)) (by omega) hC.ok hM1)) (by omega)
  intro o2 h2 ⟨s2, j2, m2, f2⟩
  obtain ⟨e1, e2⟩ := D_year hC.ok hM.tl j1 j2
  subst e1
  subst e2
  exact al_icmp_eq (tgt := 1634) dL_law_749 (fun _ => al_W.room (by omega) (Nat.le_refl _) (kk h2 s1 K rs (c1.fz f2) m2 hK (by omega))) (fun c => absurd rfl c)
theorem lc_occurs {L : Nat} {xs : Nat → Int32} {d rc rs K i : Nat} {s : cs_S} {hp : az_Hp} {Q : Option Value → az_Hp → Prop} (hd : 81 ≤ d) (hi : i + 6 ≤ L) (hL : L ≤ 3072) (hC : cs hp s K) (hM : mm hp s) (hK : K ≤ 32768 ∧ ∃ j, K = 2 ^ j) (hrc : 907 ≤ rc) (hrs : 1011 + 4 * (32768 - K) ≤ rs) (kk : ∀ h' s' K' rs', cs h' s' K' → mm h' s' → (K' ≤ 32768 ∧ ∃ j, K' = 2 ^ j) → (K ≤ K' ∧ rs ≤ rs' + 1011 + 4 * (K' - K)) → al_W L xs mL_law d (rc - 907) rs' 1634 [(0, .retAddr 45), (1, .ref 0), (2, .ref 64), (3, .int (nI i))] [] h' Q) : al_W L xs mL_law d rc rs 754 [(0, .retAddr 45), (1, .ref 0), (2, .ref 64), (3, .int (nI i))] [] hp Q := by
  obtain ⟨fs, h0⟩ := hC.o
  refine al_aload_n dL_law_754 ?_
  refine al_aload_nS dL_law_755 ?_
  refine al_iload_n dL_law_756 ?_
  refine al_iconst (v := nI 1) dL_law_757 ?_
  refine al_iaddN dL_law_758 ?_
  refine al_sld (j := i + 1) dL_law_759 ?_
  refine al_cV0 (st := []) dL_law_760 ml_L_88 h0 (az_M.post ?_ (P_occurs (d := d - 1) (x := xs (i + 1)) (by omega) hC)) (by omega)
  intro o h1 ⟨s1, j1, c1, f1⟩
  obtain ⟨y, rfl⟩ := V_occurs j1
  have hM1 := hM.fz f1
  obtain ⟨fs2, h64⟩ := hM1.o
  refine al_aload_n dL_law_763 ?_
  refine al_aload_nS dL_law_764 ?_
  refine al_iload_n dL_law_765 ?_
  refine al_iconst (v := nI 1) dL_law_766 ?_
  refine al_iaddN dL_law_767 ?_
  refine al_sld (j := i + 1) dL_law_768 ?_
  refine al_cV0 (st := [.long y]) dL_law_769 ml_L_91 h64 (az_M.post ?_ (Q_occurs (d := d - 1) (x := xs (i + 1)) (by omega) hC.ok hM1)) (by omega)
  intro o2 h2 ⟨s2, j2, m2, f2⟩
  obtain ⟨e1, e2⟩ := D_occurs hC.ok hM.tl j1 j2
  subst e1
  subst e2
  exact al_lcmp_eq (tgt := 1634) dL_law_772 dL_law_773 (fun _ => al_W.room (by omega) (Nat.le_refl _) (kk h2 s1 K rs (c1.fz f2) m2 hK (by omega))) (fun c => absurd rfl c)
theorem lc_first {L : Nat} {xs : Nat → Int32} {d rc rs K i : Nat} {s : cs_S} {hp : az_Hp} {Q : Option Value → az_Hp → Prop} (hd : 81 ≤ d) (hi : i + 6 ≤ L) (hL : L ≤ 3072) (hC : cs hp s K) (hM : mm hp s) (hK : K ≤ 32768 ∧ ∃ j, K = 2 ^ j) (hrc : 907 ≤ rc) (hrs : 1011 + 4 * (32768 - K) ≤ rs) (kk : ∀ h' s' K' rs', cs h' s' K' → mm h' s' → (K' ≤ 32768 ∧ ∃ j, K' = 2 ^ j) → (K ≤ K' ∧ rs ≤ rs' + 1011 + 4 * (K' - K)) → al_W L xs mL_law d (rc - 907) rs' 1634 [(0, .retAddr 45), (1, .ref 0), (2, .ref 64), (3, .int (nI i))] [] h' Q) : al_W L xs mL_law d rc rs 778 [(0, .retAddr 45), (1, .ref 0), (2, .ref 64), (3, .int (nI i))] [] hp Q := by
  obtain ⟨fs, h0⟩ := hC.o
  refine al_aload_n dL_law_778 ?_
  refine al_aload_nS dL_law_779 ?_
  refine al_iload_n dL_law_780 ?_
  refine al_iconst (v := nI 1) dL_law_781 ?_
  refine al_iaddN dL_law_782 ?_
  refine al_sld (j := i + 1) dL_law_783 ?_
  refine al_cV0 (st := []) dL_law_784 ml_L_92 h0 (az_M.post ?_ (P_first (d := d - 1) (x := xs (i + 1)) (by omega) hC)) (by omega)
  intro o h1 ⟨s1, j1, c1, f1⟩
  obtain ⟨y, rfl⟩ := V_first j1
  have hM1 := hM.fz f1
  obtain ⟨fs2, h64⟩ := hM1.o
  refine al_aload_n dL_law_787 ?_
  refine al_aload_nS dL_law_788 ?_
  refine al_iload_n dL_law_789 ?_
  refine al_iconst (v := nI 1) dL_law_790 ?_
  refine al_iaddN dL_law_791 ?_
  refine al_sld (j := i + 1) dL_law_792 ?_
  refine al_cV0 (st := [.long y]) dL_law_793 ml_L_95 h64 (az_M.post ?_ (Q_first (d := d - 1) (x := xs (i + 1)) (by omega) hC.ok hM1)) (by omega)
  intro o2 h2 ⟨s2, j2, m2, f2⟩
  obtain ⟨e1, e2⟩ := D_first hC.ok hM.tl j1 j2
  subst e1
  subst e2
  exact al_lcmp_eq (tgt := 1634) dL_law_796 dL_law_797 (fun _ => al_W.room (by omega) (Nat.le_refl _) (kk h2 s1 K rs (c1.fz f2) m2 hK (by omega))) (fun c => absurd rfl c)
theorem lc_backs {L : Nat} {xs : Nat → Int32} {d rc rs K i : Nat} {s : cs_S} {hp : az_Hp} {Q : Option Value → az_Hp → Prop} (hd : 81 ≤ d) (hi : i + 6 ≤ L) (hL : L ≤ 3072) (hC : cs hp s K) (hM : mm hp s) (hK : K ≤ 32768 ∧ ∃ j, K = 2 ^ j) (hrc : 907 ≤ rc) (hrs : 1011 + 4 * (32768 - K) ≤ rs) (kk : ∀ h' s' K' rs', cs h' s' K' → mm h' s' → (K' ≤ 32768 ∧ ∃ j, K' = 2 ^ j) → (K ≤ K' ∧ rs ≤ rs' + 1011 + 4 * (K' - K)) → al_W L xs mL_law d (rc - 907) rs' 1634 [(0, .retAddr 45), (1, .ref 0), (2, .ref 64), (3, .int (nI i))] [] h' Q) : al_W L xs mL_law d rc rs 802 [(0, .retAddr 45), (1, .ref 0), (2, .ref 64), (3, .int (nI i))] [] hp Q := by
  obtain ⟨fs, h0⟩ := hC.o
  refine al_aload_n dL_law_802 ?_
  refine al_aload_nS dL_law_803 ?_
  refine al_iload_n dL_law_804 ?_
  refine al_iconst (v := nI 1) dL_law_805 ?_
  refine al_iaddN dL_law_806 ?_
  refine al_sld (j := i + 1) dL_law_807 ?_
  refine al_aload_nS dL_law_808 ?_
  refine al_iload_n dL_law_809 ?_
  refine al_iconst (v := nI 2) dL_law_810 ?_
  refine al_iaddN dL_law_811 ?_
  refine al_sld (j := i + 2) dL_law_812 ?_
  refine al_cV0 (st := []) dL_law_813 ml_L_96 h0 (az_M.post ?_ (P_backs (d := d - 1) (x := xs (i + 1)) (xt := xs (i + 2)) (by omega) hC)) (by omega)
  intro o h1 ⟨s1, j1, c1, f1⟩
  obtain ⟨y, rfl⟩ := V_backs j1
  have hM1 := hM.fz f1
  obtain ⟨fs2, h64⟩ := hM1.o
  refine al_aload_n dL_law_816 ?_
  refine al_aload_nS dL_law_817 ?_
  refine al_iload_n dL_law_818 ?_
  refine al_iconst (v := nI 1) dL_law_819 ?_
  refine al_iaddN dL_law_820 ?_
  refine al_sld (j := i + 1) dL_law_821 ?_
  refine al_aload_nS dL_law_822 ?_
  refine al_iload_n dL_law_823 ?_
  refine al_iconst (v := nI 2) dL_law_824 ?_
  refine al_iaddN dL_law_825 ?_
  refine al_sld (j := i + 2) dL_law_826 ?_
  refine al_cV0 (st := [.int y]) dL_law_827 ml_L_99 h64 (az_M.post ?_ (Q_backs (d := d - 1) (x := xs (i + 1)) (xt := xs (i + 2)) (by omega) hC.ok hM1)) (by omega)
  intro o2 h2 ⟨s2, j2, m2, f2⟩
  obtain ⟨e1, e2⟩ := D_backs hC.ok hM.tl j1 j2
  subst e1
  subst e2
  exact al_icmp_eq (tgt := 1634) dL_law_830 (fun _ => al_W.room (by omega) (Nat.le_refl _) (kk h2 s1 K rs (c1.fz f2) m2 hK (by omega))) (fun c => absurd rfl c)
theorem lc_backBy {L : Nat} {xs : Nat → Int32} {d rc rs K i : Nat} {s : cs_S} {hp : az_Hp} {Q : Option Value → az_Hp → Prop} (hd : 81 ≤ d) (hi : i + 6 ≤ L) (hL : L ≤ 3072) (hC : cs hp s K) (hM : mm hp s) (hK : K ≤ 32768 ∧ ∃ j, K = 2 ^ j) (hrc : 907 ≤ rc) (hrs : 1011 + 4 * (32768 - K) ≤ rs) (kk : ∀ h' s' K' rs', cs h' s' K' → mm h' s' → (K' ≤ 32768 ∧ ∃ j, K' = 2 ^ j) → (K ≤ K' ∧ rs ≤ rs' + 1011 + 4 * (K' - K)) → al_W L xs mL_law d (rc - 907) rs' 1634 [(0, .retAddr 45), (1, .ref 0), (2, .ref 64), (3, .int (nI i))] [] h' Q) : al_W L xs mL_law d rc rs 835 [(0, .retAddr 45), (1, .ref 0), (2, .ref 64), (3, .int (nI i))] [] hp Q := by
  obtain ⟨fs, h0⟩ := hC.o
  refine al_aload_n dL_law_835 ?_
  refine al_aload_nS dL_law_836 ?_
  refine al_iload_n dL_law_837 ?_
  refine al_iconst (v := nI 1) dL_law_838 ?_
  refine al_iaddN dL_law_839 ?_
  refine al_sld (j := i + 1) dL_law_840 ?_
  refine al_aload_nS dL_law_841 ?_
  refine al_iload_n dL_law_842 ?_
  refine al_iconst (v := nI 2) dL_law_843 ?_
  refine al_iaddN dL_law_844 ?_
  refine al_sld (j := i + 2) dL_law_845 ?_
  refine al_aload_nS dL_law_846 ?_
  refine al_iload_n dL_law_847 ?_
  refine al_iconst (v := nI 3) dL_law_848 ?_
  refine al_iaddN dL_law_849 ?_
  refine al_sld (j := i + 3) dL_law_850 ?_
  refine al_cV0 (st := []) dL_law_851 ml_L_100 h0 (az_M.post ?_ (P_backBy (d := d - 1) (x := xs (i + 1)) (xt := xs (i + 2)) (xi := xs (i + 3)) (by omega) hC)) (by omega)
  intro o h1 ⟨s1, j1, c1, f1⟩
  obtain ⟨y, rfl⟩ := V_backBy j1
  have hM1 := hM.fz f1
  obtain ⟨fs2, h64⟩ := hM1.o
  refine al_aload_n dL_law_854 ?_
  refine al_aload_nS dL_law_855 ?_
  refine al_iload_n dL_law_856 ?_
  refine al_iconst (v := nI 1) dL_law_857 ?_
  refine al_iaddN dL_law_858 ?_
  refine al_sld (j := i + 1) dL_law_859 ?_
  refine al_aload_nS dL_law_860 ?_
  refine al_iload_n dL_law_861 ?_
  refine al_iconst (v := nI 2) dL_law_862 ?_
  refine al_iaddN dL_law_863 ?_
  refine al_sld (j := i + 2) dL_law_864 ?_
  refine al_aload_nS dL_law_865 ?_
  refine al_iload_n dL_law_866 ?_
  refine al_iconst (v := nI 3) dL_law_867 ?_
  refine al_iaddN dL_law_868 ?_
  refine al_sld (j := i + 3) dL_law_869 ?_
  refine al_cV0 (st := [.int y]) dL_law_870 ml_L_103 h64 (az_M.post ?_ (Q_backBy (d := d - 1) (x := xs (i + 1)) (xt := xs (i + 2)) (xi := xs (i + 3)) (by omega) hC.ok hM1)) (by omega)
  intro o2 h2 ⟨s2, j2, m2, f2⟩
  obtain ⟨e1, e2⟩ := D_backBy hC.ok hM.tl j1 j2
  subst e1
  subst e2
  exact al_icmp_eq (tgt := 1634) dL_law_873 (fun _ => al_W.room (by omega) (Nat.le_refl _) (kk h2 s1 K rs (c1.fz f2) m2 hK (by omega))) (fun c => absurd rfl c)
theorem lc_fate {L : Nat} {xs : Nat → Int32} {d rc rs K i : Nat} {s : cs_S} {hp : az_Hp} {Q : Option Value → az_Hp → Prop} (hd : 81 ≤ d) (hi : i + 6 ≤ L) (hL : L ≤ 3072) (hC : cs hp s K) (hM : mm hp s) (hK : K ≤ 32768 ∧ ∃ j, K = 2 ^ j) (hrc : 907 ≤ rc) (hrs : 1011 + 4 * (32768 - K) ≤ rs) (kk : ∀ h' s' K' rs', cs h' s' K' → mm h' s' → (K' ≤ 32768 ∧ ∃ j, K' = 2 ^ j) → (K ≤ K' ∧ rs ≤ rs' + 1011 + 4 * (K' - K)) → al_W L xs mL_law d (rc - 907) rs' 1634 [(0, .retAddr 45), (1, .ref 0), (2, .ref 64), (3, .int (nI i))] [] h' Q) : al_W L xs mL_law d rc rs 878 [(0, .retAddr 45), (1, .ref 0), (2, .ref 64), (3, .int (nI i))] [] hp Q := by
  obtain ⟨fs, h0⟩ := hC.o
  refine al_aload_n dL_law_878 ?_
  refine al_aload_nS dL_law_879 ?_
  refine al_iload_n dL_law_880 ?_
  refine al_iconst (v := nI 1) dL_law_881 ?_
  refine al_iaddN dL_law_882 ?_
  refine al_sld (j := i + 1) dL_law_883 ?_
  refine al_aload_nS dL_law_884 ?_
  refine al_iload_n dL_law_885 ?_
  refine al_iconst (v := nI 2) dL_law_886 ?_
  refine al_iaddN dL_law_887 ?_
  refine al_sld (j := i + 2) dL_law_888 ?_
  refine al_cV0 (st := []) dL_law_889 ml_L_104 h0 (az_M.post ?_ (P_fate (d := d - 1) (xt := xs (i + 1)) (xl := xs (i + 2)) (by omega) hC)) (by omega)
  intro o h1 ⟨s1, j1, c1, f1⟩
  obtain ⟨y, rfl⟩ := V_fate j1
  have hM1 := hM.fz f1
  obtain ⟨fs2, h64⟩ := hM1.o
  refine al_aload_n dL_law_892 ?_
  refine al_aload_nS dL_law_893 ?_
  refine al_iload_n dL_law_894 ?_
  refine al_iconst (v := nI 1) dL_law_895 ?_
  refine al_iaddN dL_law_896 ?_
  refine al_sld (j := i + 1) dL_law_897 ?_
  refine al_aload_nS dL_law_898 ?_
  refine al_iload_n dL_law_899 ?_
  refine al_iconst (v := nI 2) dL_law_900 ?_
  refine al_iaddN dL_law_901 ?_
  refine al_sld (j := i + 2) dL_law_902 ?_
  refine al_cV0 (st := [.int y]) dL_law_903 ml_L_107 h64 (az_M.post ?_ (Q_fate (d := d - 1) (xt := xs (i + 1)) (xl := xs (i + 2)) (by omega) hC.ok hM1)) (by omega)
  intro o2 h2 ⟨s2, j2, m2, f2⟩
  obtain ⟨e1, e2⟩ := D_fate hC.ok hM.tl j1 j2
  subst e1
  subst e2
  exact al_icmp_eq (tgt := 1634) dL_law_906 (fun _ => al_W.room (by omega) (Nat.le_refl _) (kk h2 s1 K rs (c1.fz f2) m2 hK (by omega))) (fun c => absurd rfl c)
theorem lc_degree {L : Nat} {xs : Nat → Int32} {d rc rs K i : Nat} {s : cs_S} {hp : az_Hp} {Q : Option Value → az_Hp → Prop} (hd : 81 ≤ d) (hi : i + 6 ≤ L) (hL : L ≤ 3072) (hC : cs hp s K) (hM : mm hp s) (hK : K ≤ 32768 ∧ ∃ j, K = 2 ^ j) (hrc : 907 ≤ rc) (hrs : 1011 + 4 * (32768 - K) ≤ rs) (kk : ∀ h' s' K' rs', cs h' s' K' → mm h' s' → (K' ≤ 32768 ∧ ∃ j, K' = 2 ^ j) → (K ≤ K' ∧ rs ≤ rs' + 1011 + 4 * (K' - K)) → al_W L xs mL_law d (rc - 907) rs' 1634 [(0, .retAddr 45), (1, .ref 0), (2, .ref 64), (3, .int (nI i))] [] h' Q) : al_W L xs mL_law d rc rs 911 [(0, .retAddr 45), (1, .ref 0), (2, .ref 64), (3, .int (nI i))] [] hp Q := by
  obtain ⟨fs, h0⟩ := hC.o
  refine al_aload_n dL_law_911 ?_
  refine al_aload_nS dL_law_912 ?_
  refine al_iload_n dL_law_913 ?_
  refine al_iconst (v := nI 1) dL_law_914 ?_
  refine al_iaddN dL_law_915 ?_
  refine al_sld (j := i + 1) dL_law_916 ?_
  refine al_aload_nS dL_law_917 ?_
  refine al_iload_n dL_law_918 ?_
  refine al_iconst (v := nI 2) dL_law_919 ?_
  refine al_iaddN dL_law_920 ?_
  refine al_sld (j := i + 2) dL_law_921 ?_
  refine al_cV0 (st := []) dL_law_922 ml_L_108 h0 (az_M.post ?_ (P_degree (d := d - 1) (xt := xs (i + 1)) (xl := xs (i + 2)) (by omega) hC)) (by omega)
  intro o h1 ⟨s1, j1, c1, f1⟩
  obtain ⟨y, rfl⟩ := V_degree j1
  have hM1 := hM.fz f1
  obtain ⟨fs2, h64⟩ := hM1.o
  refine al_aload_n dL_law_925 ?_
  refine al_aload_nS dL_law_926 ?_
  refine al_iload_n dL_law_927 ?_
  refine al_iconst (v := nI 1) dL_law_928 ?_
  refine al_iaddN dL_law_929 ?_
  refine al_sld (j := i + 1) dL_law_930 ?_
  refine al_aload_nS dL_law_931 ?_
  refine al_iload_n dL_law_932 ?_
  refine al_iconst (v := nI 2) dL_law_933 ?_
  refine al_iaddN dL_law_934 ?_
  refine al_sld (j := i + 2) dL_law_935 ?_
  refine al_cV0 (st := [.int y]) dL_law_936 ml_L_111 h64 (az_M.post ?_ (Q_degree (d := d - 1) (xt := xs (i + 1)) (xl := xs (i + 2)) (by omega) hC.ok hM1)) (by omega)
  intro o2 h2 ⟨s2, j2, m2, f2⟩
  obtain ⟨e1, e2⟩ := D_degree hC.ok hM.tl j1 j2
  subst e1
  subst e2
  exact al_icmp_eq (tgt := 1634) dL_law_939 (fun _ => al_W.room (by omega) (Nat.le_refl _) (kk h2 s1 K rs (c1.fz f2) m2 hK (by omega))) (fun c => absurd rfl c)
theorem lc_begins {L : Nat} {xs : Nat → Int32} {d rc rs K i : Nat} {s : cs_S} {hp : az_Hp} {Q : Option Value → az_Hp → Prop} (hd : 81 ≤ d) (hi : i + 6 ≤ L) (hL : L ≤ 3072) (hC : cs hp s K) (hM : mm hp s) (hK : K ≤ 32768 ∧ ∃ j, K = 2 ^ j) (hrc : 907 ≤ rc) (hrs : 1011 + 4 * (32768 - K) ≤ rs) (kk : ∀ h' s' K' rs', cs h' s' K' → mm h' s' → (K' ≤ 32768 ∧ ∃ j, K' = 2 ^ j) → (K ≤ K' ∧ rs ≤ rs' + 1011 + 4 * (K' - K)) → al_W L xs mL_law d (rc - 907) rs' 1634 [(0, .retAddr 45), (1, .ref 0), (2, .ref 64), (3, .int (nI i))] [] h' Q) : al_W L xs mL_law d rc rs 944 [(0, .retAddr 45), (1, .ref 0), (2, .ref 64), (3, .int (nI i))] [] hp Q := by
  obtain ⟨fs, h0⟩ := hC.o
  refine al_aload_n dL_law_944 ?_
  refine al_aload_nS dL_law_945 ?_
  refine al_iload_n dL_law_946 ?_
  refine al_iconst (v := nI 1) dL_law_947 ?_
  refine al_iaddN dL_law_948 ?_
  refine al_sld (j := i + 1) dL_law_949 ?_
  refine al_cV0 (st := []) dL_law_950 ml_L_112 h0 (az_M.post ?_ (P_begins (d := d - 1) (xt := xs (i + 1)) (by omega) hC)) (by omega)
  intro o h1 ⟨s1, j1, c1, f1⟩
  obtain ⟨y, rfl⟩ := V_begins j1
  have hM1 := hM.fz f1
  obtain ⟨fs2, h64⟩ := hM1.o
  refine al_aload_n dL_law_953 ?_
  refine al_aload_nS dL_law_954 ?_
  refine al_iload_n dL_law_955 ?_
  refine al_iconst (v := nI 1) dL_law_956 ?_
  refine al_iaddN dL_law_957 ?_
  refine al_sld (j := i + 1) dL_law_958 ?_
  refine al_cV0 (st := [.int y]) dL_law_959 ml_L_115 h64 (az_M.post ?_ (Q_begins (d := d - 1) (xt := xs (i + 1)) (by omega) hC.ok hM1)) (by omega)
  intro o2 h2 ⟨s2, j2, m2, f2⟩
  obtain ⟨e1, e2⟩ := D_begins hC.ok hM.tl j1 j2
  subst e1
  subst e2
  exact al_icmp_eq (tgt := 1634) dL_law_962 (fun _ => al_W.room (by omega) (Nat.le_refl _) (kk h2 s1 K rs (c1.fz f2) m2 hK (by omega))) (fun c => absurd rfl c)
theorem lc_comes {L : Nat} {xs : Nat → Int32} {d rc rs K i : Nat} {s : cs_S} {hp : az_Hp} {Q : Option Value → az_Hp → Prop} (hd : 81 ≤ d) (hi : i + 6 ≤ L) (hL : L ≤ 3072) (hC : cs hp s K) (hM : mm hp s) (hK : K ≤ 32768 ∧ ∃ j, K = 2 ^ j) (hrc : 907 ≤ rc) (hrs : 1011 + 4 * (32768 - K) ≤ rs) (kk : ∀ h' s' K' rs', cs h' s' K' → mm h' s' → (K' ≤ 32768 ∧ ∃ j, K' = 2 ^ j) → (K ≤ K' ∧ rs ≤ rs' + 1011 + 4 * (K' - K)) → al_W L xs mL_law d (rc - 907) rs' 1634 [(0, .retAddr 45), (1, .ref 0), (2, .ref 64), (3, .int (nI i))] [] h' Q) : al_W L xs mL_law d rc rs 967 [(0, .retAddr 45), (1, .ref 0), (2, .ref 64), (3, .int (nI i))] [] hp Q := by
  obtain ⟨fs, h0⟩ := hC.o
  refine al_aload_n dL_law_967 ?_
  refine al_aload_nS dL_law_968 ?_
  refine al_iload_n dL_law_969 ?_
  refine al_iconst (v := nI 1) dL_law_970 ?_
  refine al_iaddN dL_law_971 ?_
  refine al_sld (j := i + 1) dL_law_972 ?_
  refine al_cV0 (st := []) dL_law_973 ml_L_116 h0 (az_M.post ?_ (P_comes (d := d - 1) (xl := xs (i + 1)) (by omega) hC)) (by omega)
  intro o h1 ⟨s1, j1, c1, f1⟩
  obtain ⟨y, rfl⟩ := V_comes j1
  have hM1 := hM.fz f1
  obtain ⟨fs2, h64⟩ := hM1.o
  refine al_aload_n dL_law_976 ?_
  refine al_aload_nS dL_law_977 ?_
  refine al_iload_n dL_law_978 ?_
  refine al_iconst (v := nI 1) dL_law_979 ?_
  refine al_iaddN dL_law_980 ?_
  refine al_sld (j := i + 1) dL_law_981 ?_
  refine al_cV0 (st := [.int y]) dL_law_982 ml_L_119 h64 (az_M.post ?_ (Q_comes (d := d - 1) (xl := xs (i + 1)) (by omega) hC.ok hM1)) (by omega)
  intro o2 h2 ⟨s2, j2, m2, f2⟩
  obtain ⟨e1, e2⟩ := D_comes hC.ok hM.tl j1 j2
  subst e1
  subst e2
  exact al_icmp_eq (tgt := 1634) dL_law_985 (fun _ => al_W.room (by omega) (Nat.le_refl _) (kk h2 s1 K rs (c1.fz f2) m2 hK (by omega))) (fun c => absurd rfl c)
theorem lc_soonest {L : Nat} {xs : Nat → Int32} {d rc rs K i : Nat} {s : cs_S} {hp : az_Hp} {Q : Option Value → az_Hp → Prop} (hd : 81 ≤ d) (hi : i + 6 ≤ L) (hL : L ≤ 3072) (hC : cs hp s K) (hM : mm hp s) (hK : K ≤ 32768 ∧ ∃ j, K = 2 ^ j) (hrc : 907 ≤ rc) (hrs : 1011 + 4 * (32768 - K) ≤ rs) (kk : ∀ h' s' K' rs', cs h' s' K' → mm h' s' → (K' ≤ 32768 ∧ ∃ j, K' = 2 ^ j) → (K ≤ K' ∧ rs ≤ rs' + 1011 + 4 * (K' - K)) → al_W L xs mL_law d (rc - 907) rs' 1634 [(0, .retAddr 45), (1, .ref 0), (2, .ref 64), (3, .int (nI i))] [] h' Q) : al_W L xs mL_law d rc rs 990 [(0, .retAddr 45), (1, .ref 0), (2, .ref 64), (3, .int (nI i))] [] hp Q := by
  obtain ⟨fs, h0⟩ := hC.o
  refine al_aload_n dL_law_990 ?_
  refine al_aload_nS dL_law_991 ?_
  refine al_iload_n dL_law_992 ?_
  refine al_iconst (v := nI 1) dL_law_993 ?_
  refine al_iaddN dL_law_994 ?_
  refine al_sld (j := i + 1) dL_law_995 ?_
  refine al_i2l dL_law_996 ?_
  refine al_bipush (v := nI 32) dL_law_997 ?_
  refine al_lshl dL_law_999 ?_
  refine al_aload_nS dL_law_1000 ?_
  refine al_iload_n dL_law_1001 ?_
  refine al_iconst (v := nI 2) dL_law_1002 ?_
  refine al_iaddN dL_law_1003 ?_
  refine al_sld (j := i + 2) dL_law_1004 ?_
  refine al_i2l dL_law_1005 ?_
  refine al_ldc2 dL_law_1006 cn_L_42 ?_
  refine al_land dL_law_1009 ?_
  refine al_lor dL_law_1010 ?_
  refine al_cV0 (st := []) dL_law_1011 ml_L_120 h0 (az_M.post ?_ (P_soonest (d := d - 1) (x := (((xs (i + 1)).toInt64 <<< ((nI 32).toInt64 &&& 63)) ||| ((xs (i + 2)).toInt64 &&& (4294967295)))) (by omega) hC)) (by omega)
  intro o h1 ⟨s1, j1, c1, f1⟩
  obtain ⟨y, rfl⟩ := V_soonest j1
  have hM1 := hM.fz f1
  obtain ⟨fs2, h64⟩ := hM1.o
  refine al_aload_n dL_law_1014 ?_
  refine al_aload_nS dL_law_1015 ?_
  refine al_iload_n dL_law_1016 ?_
  refine al_iconst (v := nI 1) dL_law_1017 ?_
  refine al_iaddN dL_law_1018 ?_
  refine al_sld (j := i + 1) dL_law_1019 ?_
  refine al_i2l dL_law_1020 ?_
  refine al_bipush (v := nI 32) dL_law_1021 ?_
  refine al_lshl dL_law_1023 ?_
  refine al_aload_nS dL_law_1024 ?_
  refine al_iload_n dL_law_1025 ?_
  refine al_iconst (v := nI 2) dL_law_1026 ?_
  refine al_iaddN dL_law_1027 ?_
  refine al_sld (j := i + 2) dL_law_1028 ?_
  refine al_i2l dL_law_1029 ?_
  refine al_ldc2 dL_law_1030 cn_L_42 ?_
  refine al_land dL_law_1033 ?_
  refine al_lor dL_law_1034 ?_
  refine al_cV0 (st := [.int y]) dL_law_1035 ml_L_123 h64 (az_M.post ?_ (Q_soonest (d := d - 1) (x := (((xs (i + 1)).toInt64 <<< ((nI 32).toInt64 &&& 63)) ||| ((xs (i + 2)).toInt64 &&& (4294967295)))) (by omega) hC.ok hM1)) (by omega)
  intro o2 h2 ⟨s2, j2, m2, f2⟩
  obtain ⟨e1, e2⟩ := D_soonest hC.ok hM.tl j1 j2
  subst e1
  subst e2
  exact al_icmp_eq (tgt := 1634) dL_law_1038 (fun _ => al_W.room (by omega) (Nat.le_refl _) (kk h2 s1 K rs (c1.fz f2) m2 hK (by omega))) (fun c => absurd rfl c)
theorem lc_way {L : Nat} {xs : Nat → Int32} {d rc rs K i : Nat} {s : cs_S} {hp : az_Hp} {Q : Option Value → az_Hp → Prop} (hd : 81 ≤ d) (hi : i + 6 ≤ L) (hL : L ≤ 3072) (hC : cs hp s K) (hM : mm hp s) (hK : K ≤ 32768 ∧ ∃ j, K = 2 ^ j) (hrc : 907 ≤ rc) (hrs : 1011 + 4 * (32768 - K) ≤ rs) (kk : ∀ h' s' K' rs', cs h' s' K' → mm h' s' → (K' ≤ 32768 ∧ ∃ j, K' = 2 ^ j) → (K ≤ K' ∧ rs ≤ rs' + 1011 + 4 * (K' - K)) → al_W L xs mL_law d (rc - 907) rs' 1634 [(0, .retAddr 45), (1, .ref 0), (2, .ref 64), (3, .int (nI i))] [] h' Q) : al_W L xs mL_law d rc rs 1043 [(0, .retAddr 45), (1, .ref 0), (2, .ref 64), (3, .int (nI i))] [] hp Q := by
  obtain ⟨fs, h0⟩ := hC.o
  refine al_aload_n dL_law_1043 ?_
  refine al_aload_nS dL_law_1044 ?_
  refine al_iload_n dL_law_1045 ?_
  refine al_iconst (v := nI 1) dL_law_1046 ?_
  refine al_iaddN dL_law_1047 ?_
  refine al_sld (j := i + 1) dL_law_1048 ?_
  refine al_i2l dL_law_1049 ?_
  refine al_bipush (v := nI 32) dL_law_1050 ?_
  refine al_lshl dL_law_1052 ?_
  refine al_aload_nS dL_law_1053 ?_
  refine al_iload_n dL_law_1054 ?_
  refine al_iconst (v := nI 2) dL_law_1055 ?_
  refine al_iaddN dL_law_1056 ?_
  refine al_sld (j := i + 2) dL_law_1057 ?_
  refine al_i2l dL_law_1058 ?_
  refine al_ldc2 dL_law_1059 cn_L_42 ?_
  refine al_land dL_law_1062 ?_
  refine al_lor dL_law_1063 ?_
  refine al_aload_nS dL_law_1064 ?_
  refine al_iload_n dL_law_1065 ?_
  refine al_iconst (v := nI 3) dL_law_1066 ?_
  refine al_iaddN dL_law_1067 ?_
  refine al_sld (j := i + 3) dL_law_1068 ?_
  refine al_cV0 (st := []) dL_law_1069 ml_L_124 h0 (az_M.post ?_ (P_way (d := d - 1) (x := (((xs (i + 1)).toInt64 <<< ((nI 32).toInt64 &&& 63)) ||| ((xs (i + 2)).toInt64 &&& (4294967295)))) (xi := xs (i + 3)) (by omega) hC)) (by omega)
  intro o h1 ⟨s1, j1, c1, f1⟩
  obtain ⟨y, rfl⟩ := V_way j1
  have hM1 := hM.fz f1
  obtain ⟨fs2, h64⟩ := hM1.o
  refine al_aload_n dL_law_1072 ?_
  refine al_aload_nS dL_law_1073 ?_
  refine al_iload_n dL_law_1074 ?_
  refine al_iconst (v := nI 1) dL_law_1075 ?_
  refine al_iaddN dL_law_1076 ?_
  refine al_sld (j := i + 1) dL_law_1077 ?_
  refine al_i2l dL_law_1078 ?_
  refine al_bipush (v := nI 32) dL_law_1079 ?_
  refine al_lshl dL_law_1081 ?_
  refine al_aload_nS dL_law_1082 ?_
  refine al_iload_n dL_law_1083 ?_
  refine al_iconst (v := nI 2) dL_law_1084 ?_
  refine al_iaddN dL_law_1085 ?_
  refine al_sld (j := i + 2) dL_law_1086 ?_
  refine al_i2l dL_law_1087 ?_
  refine al_ldc2 dL_law_1088 cn_L_42 ?_
  refine al_land dL_law_1091 ?_
  refine al_lor dL_law_1092 ?_
  refine al_aload_nS dL_law_1093 ?_
  refine al_iload_n dL_law_1094 ?_
  refine al_iconst (v := nI 3) dL_law_1095 ?_
  refine al_iaddN dL_law_1096 ?_
  refine al_sld (j := i + 3) dL_law_1097 ?_
  refine al_cV0 (st := [.int y]) dL_law_1098 ml_L_128 h64 (az_M.post ?_ (Q_way (d := d - 1) (x := (((xs (i + 1)).toInt64 <<< ((nI 32).toInt64 &&& 63)) ||| ((xs (i + 2)).toInt64 &&& (4294967295)))) (xi := xs (i + 3)) (by omega) hC.ok hM1)) (by omega)
  intro o2 h2 ⟨s2, j2, m2, f2⟩
  obtain ⟨e1, e2⟩ := D_way hC.ok hM.tl j1 j2
  subst e1
  subst e2
  exact al_icmp_eq (tgt := 1634) dL_law_1101 (fun _ => al_W.room (by omega) (Nat.le_refl _) (kk h2 s1 K rs (c1.fz f2) m2 hK (by omega))) (fun c => absurd rfl c)
theorem lc_rows {L : Nat} {xs : Nat → Int32} {d rc rs K i : Nat} {s : cs_S} {hp : az_Hp} {Q : Option Value → az_Hp → Prop} (hd : 81 ≤ d) (hi : i + 6 ≤ L) (hL : L ≤ 3072) (hC : cs hp s K) (hM : mm hp s) (hK : K ≤ 32768 ∧ ∃ j, K = 2 ^ j) (hrc : 907 ≤ rc) (hrs : 1011 + 4 * (32768 - K) ≤ rs) (kk : ∀ h' s' K' rs', cs h' s' K' → mm h' s' → (K' ≤ 32768 ∧ ∃ j, K' = 2 ^ j) → (K ≤ K' ∧ rs ≤ rs' + 1011 + 4 * (K' - K)) → al_W L xs mL_law d (rc - 907) rs' 1634 [(0, .retAddr 45), (1, .ref 0), (2, .ref 64), (3, .int (nI i))] [] h' Q) : al_W L xs mL_law d rc rs 1106 [(0, .retAddr 45), (1, .ref 0), (2, .ref 64), (3, .int (nI i))] [] hp Q := by
  obtain ⟨fs, h0⟩ := hC.o
  refine al_aload_n dL_law_1106 ?_
  refine al_aload_nS dL_law_1107 ?_
  refine al_iload_n dL_law_1108 ?_
  refine al_iconst (v := nI 1) dL_law_1109 ?_
  refine al_iaddN dL_law_1110 ?_
  refine al_sld (j := i + 1) dL_law_1111 ?_
  refine al_i2l dL_law_1112 ?_
  refine al_bipush (v := nI 32) dL_law_1113 ?_
  refine al_lshl dL_law_1115 ?_
  refine al_aload_nS dL_law_1116 ?_
  refine al_iload_n dL_law_1117 ?_
  refine al_iconst (v := nI 2) dL_law_1118 ?_
  refine al_iaddN dL_law_1119 ?_
  refine al_sld (j := i + 2) dL_law_1120 ?_
  refine al_i2l dL_law_1121 ?_
  refine al_ldc2 dL_law_1122 cn_L_42 ?_
  refine al_land dL_law_1125 ?_
  refine al_lor dL_law_1126 ?_
  refine al_aload_nS dL_law_1127 ?_
  refine al_iload_n dL_law_1128 ?_
  refine al_iconst (v := nI 3) dL_law_1129 ?_
  refine al_iaddN dL_law_1130 ?_
  refine al_sld (j := i + 3) dL_law_1131 ?_
  refine al_cV0 (st := []) dL_law_1132 ml_L_129 h0 (az_M.post ?_ (P_rows (d := d - 1) (x := (((xs (i + 1)).toInt64 <<< ((nI 32).toInt64 &&& 63)) ||| ((xs (i + 2)).toInt64 &&& (4294967295)))) (xk := xs (i + 3)) (by omega) hC)) (by omega)
  intro o h1 ⟨s1, j1, c1, f1⟩
  obtain ⟨y, rfl⟩ := V_rows j1
  have hM1 := hM.fz f1
  obtain ⟨fs2, h64⟩ := hM1.o
  refine al_aload_n dL_law_1135 ?_
  refine al_aload_nS dL_law_1136 ?_
  refine al_iload_n dL_law_1137 ?_
  refine al_iconst (v := nI 1) dL_law_1138 ?_
  refine al_iaddN dL_law_1139 ?_
  refine al_sld (j := i + 1) dL_law_1140 ?_
  refine al_i2l dL_law_1141 ?_
  refine al_bipush (v := nI 32) dL_law_1142 ?_
  refine al_lshl dL_law_1144 ?_
  refine al_aload_nS dL_law_1145 ?_
  refine al_iload_n dL_law_1146 ?_
  refine al_iconst (v := nI 2) dL_law_1147 ?_
  refine al_iaddN dL_law_1148 ?_
  refine al_sld (j := i + 2) dL_law_1149 ?_
  refine al_i2l dL_law_1150 ?_
  refine al_ldc2 dL_law_1151 cn_L_42 ?_
  refine al_land dL_law_1154 ?_
  refine al_lor dL_law_1155 ?_
  refine al_aload_nS dL_law_1156 ?_
  refine al_iload_n dL_law_1157 ?_
  refine al_iconst (v := nI 3) dL_law_1158 ?_
  refine al_iaddN dL_law_1159 ?_
  refine al_sld (j := i + 3) dL_law_1160 ?_
  refine al_cV0 (st := [.int y]) dL_law_1161 ml_L_132 h64 (az_M.post ?_ (Q_rows (d := d - 1) (x := (((xs (i + 1)).toInt64 <<< ((nI 32).toInt64 &&& 63)) ||| ((xs (i + 2)).toInt64 &&& (4294967295)))) (xk := xs (i + 3)) (by omega) hC.ok hM1)) (by omega)
  intro o2 h2 ⟨s2, j2, m2, f2⟩
  obtain ⟨e1, e2⟩ := D_rows hC.ok hM.tl j1 j2
  subst e1
  subst e2
  exact al_icmp_eq (tgt := 1634) dL_law_1164 (fun _ => al_W.room (by omega) (Nat.le_refl _) (kk h2 s1 K rs (c1.fz f2) m2 hK (by omega))) (fun c => absurd rfl c)
theorem lc_longBy {L : Nat} {xs : Nat → Int32} {d rc rs K i : Nat} {s : cs_S} {hp : az_Hp} {Q : Option Value → az_Hp → Prop} (hd : 81 ≤ d) (hi : i + 6 ≤ L) (hL : L ≤ 3072) (hC : cs hp s K) (hM : mm hp s) (hK : K ≤ 32768 ∧ ∃ j, K = 2 ^ j) (hrc : 907 ≤ rc) (hrs : 1011 + 4 * (32768 - K) ≤ rs) (kk : ∀ h' s' K' rs', cs h' s' K' → mm h' s' → (K' ≤ 32768 ∧ ∃ j, K' = 2 ^ j) → (K ≤ K' ∧ rs ≤ rs' + 1011 + 4 * (K' - K)) → al_W L xs mL_law d (rc - 907) rs' 1634 [(0, .retAddr 45), (1, .ref 0), (2, .ref 64), (3, .int (nI i))] [] h' Q) : al_W L xs mL_law d rc rs 1169 [(0, .retAddr 45), (1, .ref 0), (2, .ref 64), (3, .int (nI i))] [] hp Q := by
  obtain ⟨fs, h0⟩ := hC.o
  refine al_aload_n dL_law_1169 ?_
  refine al_aload_nS dL_law_1170 ?_
  refine al_iload_n dL_law_1171 ?_
  refine al_iconst (v := nI 1) dL_law_1172 ?_
  refine al_iaddN dL_law_1173 ?_
  refine al_sld (j := i + 1) dL_law_1174 ?_
  refine al_cV0 (st := []) dL_law_1175 ml_L_133 h0 (az_M.post ?_ (P_longBy (d := d - 1) (x := xs (i + 1)) (by omega) hC)) (by omega)
  intro o h1 ⟨s1, j1, c1, f1⟩
  obtain ⟨y, rfl⟩ := V_longBy j1
  have hM1 := hM.fz f1
  obtain ⟨fs2, h64⟩ := hM1.o
  refine al_aload_n dL_law_1178 ?_
  refine al_aload_nS dL_law_1179 ?_
  refine al_iload_n dL_law_1180 ?_
  refine al_iconst (v := nI 1) dL_law_1181 ?_
  refine al_iaddN dL_law_1182 ?_
  refine al_sld (j := i + 1) dL_law_1183 ?_
  refine al_cV0 (st := [.int y]) dL_law_1184 ml_L_136 h64 (az_M.post ?_ (Q_longBy (d := d - 1) (x := xs (i + 1)) (by omega) hC.ok hM1)) (by omega)
  intro o2 h2 ⟨s2, j2, m2, f2⟩
  obtain ⟨e1, e2⟩ := D_longBy hC.ok hM.tl j1 j2
  subst e1
  subst e2
  exact al_icmp_eq (tgt := 1634) dL_law_1187 (fun _ => al_W.room (by omega) (Nat.le_refl _) (kk h2 s1 K rs (c1.fz f2) m2 hK (by omega))) (fun c => absurd rfl c)
