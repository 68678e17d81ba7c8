/-! The model: turned, best -/
theorem tb_yes {F : Nat → Nat} {od tb : Nat} (h : tb = 0 ∨ (od = 0 ∧ (fu_tb F od tb).1 < F tb) ∨ (od ≠ 0 ∧ F tb < (fu_tb F od tb).1)) : fu_tb F od (tb + 1) = (F tb, tb) := by rw [fu_tb, if_pos h]
theorem tb_no {F : Nat → Nat} {od tb : Nat} (h : ¬ (tb = 0 ∨ (od = 0 ∧ (fu_tb F od tb).1 < F tb) ∨ (od ≠ 0 ∧ F tb < (fu_tb F od tb).1))) : fu_tb F od (tb + 1) = fu_tb F od tb := by rw [fu_tb, if_neg h]
set_option maxHeartbeats 4000000 in
set_option maxRecDepth 100000 in
theorem m_turnedFrom {sc : Nat → Value} {A : Nat → Nat} {v : rd_V} (hw : ln_ok (rd_w v)) (hV : mV A v) : ∀ (kn : Nat) {d gone nn : Nat} {gm cf : Nat → Nat} {hp : az_Hp} {Q : Option Value → az_Hp → Prop}, kn + 2 ≤ d → gone + kn = nn → nn ≤ 7 → hp.2 64 = some (mo_o sc) → hp.2 65 = some (az_I 3318 (fun j => nI (A j))) → hp.2 81 = some (az_J 84 (fun j => lN (gm j))) → (∀ c, c < 6 → gm (6 * gone + c) = cf c) → fu_l cf * 4 ^ kn < 2 ^ 62 → (∀ (h' : az_Hp) (gm' : Nat → Nat), h'.2 81 = some (az_J 84 (fun j => lN (gm' j))) → (∀ j, j < 6 * (gone + 1) → gm' j = gm j) → mf hp h' [81] → (mk hp → mk h') → Q (some (.long (lN (fu_t (rd_w v) kn gone cf).1))) h') → az_M mX12_turnedFrom d 0 0 [.ref 64, .int (nI gone), .int (nI nn)] hp Q := by
  have ht3 := hw.2.1
  have ht1 := hw.1
  have hA1 : A 1 = ln_tb (rd_w v) := hV.2.1
  intro kn
  induction kn with
  | zero =>
    intro d gone nn gm cf hp Q hd hnn hgk h64 h65 h81 hrow hcap hQ
    refine az_M.of rfl (Nat.le_of_ble_eq_true rfl) ?_
    show az_W _ _ _ _ 0 [(0, .ref 64), (1, .int (nI gone)), (2, .int (nI nn))] [] _ _
    refine az_iload_n dX12_turnedFrom_0 ?_
    refine az_iload_n dX12_turnedFrom_1 ?_
    refine az_icmp_neN (tgt := 11) dX12_turnedFrom_2 (fun c2 => ?_) (fun c2 => ?_)
    · exact absurd hnn (by omega)
    · refine az_aload_n dX12_turnedFrom_5 ?_
      refine az_iload_n dX12_turnedFrom_6 ?_
      refine az_cV0 (st := []) dX12_turnedFrom_7 ml_X12_434 h64 (m_longIn (d := d - 1) (cf := cf) h64 (by omega) h81 hrow ?_)
      exact az_lret dX12_turnedFrom_10 (hQ hp gm h81 (fun _ _ => rfl) mf.rf (fun q => q))
  | succ kn ihN =>
    intro d gone nn gm cf hp Q hd hnn hgk h64 h65 h81 hrow hcap hQ
    have hB : ∀ tb, (fu_t (rd_w v) kn (gone + 1) (fu_n (rd_w v) tb cf)).1 ≤ 2 ^ 62 := (fun tb => Nat.le_of_lt (Nat.lt_of_le_of_lt (fu_t_le hw kn (gone + 1) _) (fu_n_l hw hcap)))
    have loop : ∀ (k : Nat) (tb : Nat) (h' : az_Hp) (g1 : Nat → Nat), ln_tb (rd_w v) - tb = k → (tb ≤ ln_tb (rd_w v)) → (h'.2 81 = some (az_J 84 (fun j => lN (g1 j)))) → (∀ j, j < 6 * (gone + 1) → g1 j = gm j) → (mf hp h' [81]) → (mk hp → mk h') → az_W mX12_turnedFrom d 0 0 16 [(0, .ref 64), (1, .int (nI gone)), (2, .int (nI nn)), (3, .long (lN ((fu_tb (fun tb => (fu_t (rd_w v) kn (gone + 1) (fu_n (rd_w v) tb cf)).1) (gone % 2) tb).1))), (5, .int (nI tb))] [] h' Q := by
      intro k
      induction k using Nat.strongRecOn with
      | _ k ih =>
      intro tb h' g1 hk htb b81 hg1 mf1 mk1'
      have b64 : h'.2 64 = some (mo_o sc) := mf1.at h64
      have b65 : h'.2 65 = some (az_I 3318 (fun j => nI (A j))) := mf1.at h65
      refine az_iload dX12_turnedFrom_16 ?_
      refine az_aload_n dX12_turnedFrom_18 ?_
      refine az_getf (v := .ref 65) dX12_turnedFrom_19 fl_X12_13 b64 ?_
      refine az_iconst (v := nI 1) dX12_turnedFrom_22 ?_
      refine az_ialdN (j := 1) dX12_turnedFrom_23 b65 ?_
      rw [hA1]
      refine az_icmp_geN (tgt := 85) dX12_turnedFrom_24 (fun c24 => ?_) (fun c24 => ?_)
      · refine az_lload_n dX12_turnedFrom_85 ?_
        exact az_lret dX12_turnedFrom_86 (by obtain rfl : tb = ln_tb (rd_w v) := (by omega); exact hQ h' g1 b81 hg1 mf1 mk1')
      · refine az_aload_n dX12_turnedFrom_27 ?_
        refine az_iload_n dX12_turnedFrom_28 ?_
        refine az_iload dX12_turnedFrom_29 ?_
        refine az_cV0 (st := []) dX12_turnedFrom_31 ml_X12_437 b64 (m_goesMany (d := d - 1) (gone := gone) (tb := tb) (cf := cf) (by omega) hw b64 b65 hV (by omega) (by omega) b81 (fun c hc => (by rw [hg1 _ (by omega)]; exact hrow c hc)) ?_)
        intro g2 q1 q2
        refine az_aload_n dX12_turnedFrom_34 ?_
        refine az_iload_n dX12_turnedFrom_35 ?_
        refine az_iconst (v := nI 1) dX12_turnedFrom_36 ?_
        refine az_iaddN dX12_turnedFrom_37 ?_
        refine az_iload_n dX12_turnedFrom_38 ?_
        refine az_cV0 (st := []) dX12_turnedFrom_39 ml_X12_471 (az_up_ne b64) (ihN (d := d - 1) (gone := gone + 1) (gm := g2) (cf := fu_n (rd_w v) tb cf) (by omega) (show gone + 1 + kn = nn by omega) hgk (az_up_ne b64) (az_up_ne b65) az_up_eq q2 (fu_n_l hw hcap) ?_)
        intro h3 g3 e81 p1 m3 k3
        have hfr : mf hp h3 [81] := mf.tr (mf.up mf1 (by decide)) m3 (by decide)
        have hv9 := hB tb
        have hv8 := fu_tb_le (F := fun tb => (fu_t (rd_w v) kn (gone + 1) (fu_n (rd_w v) tb cf)).1) (od := gone % 2) hB tb
        refine az_lstore (ls' := [(0, .ref 64), (1, .int (nI gone)), (2, .int (nI nn)), (3, .long (lN ((fu_tb (fun tb => (fu_t (rd_w v) kn (gone + 1) (fu_n (rd_w v) tb cf)).1) (gone % 2) tb).1))), (5, .int (nI tb)), (6, .long (lN ((fu_t (rd_w v) kn (gone + 1) (fu_n (rd_w v) tb cf)).1)))]) dX12_turnedFrom_42 ?_
        refine az_iload dX12_turnedFrom_44 ?_
        refine az_if_eqN (tgt := 76) dX12_turnedFrom_46 (fun c46 => ?_) (fun c46 => ?_)
        · refine az_lload dX12_turnedFrom_76 ?_
          refine az_lstore_n (ls' := [(0, .ref 64), (1, .int (nI gone)), (2, .int (nI nn)), (3, .long (lN ((fu_t (rd_w v) kn (gone + 1) (fu_n (rd_w v) tb cf)).1))), (5, .int (nI tb)), (6, .long (lN ((fu_t (rd_w v) kn (gone + 1) (fu_n (rd_w v) tb cf)).1)))]) dX12_turnedFrom_78 ?_
          refine az_iincN (n := 1) (ls' := [(0, .ref 64), (1, .int (nI gone)), (2, .int (nI nn)), (3, .long (lN ((fu_t (rd_w v) kn (gone + 1) (fu_n (rd_w v) tb cf)).1))), (5, .int (nI (tb + 1))), (6, .long (lN ((fu_t (rd_w v) kn (gone + 1) (fu_n (rd_w v) tb cf)).1)))]) dX12_turnedFrom_79 ?_
          refine az_goto (tgt := 16) dX12_turnedFrom_82 ?_
          refine az_W.keep (ls' := [(0, .ref 64), (1, .int (nI gone)), (2, .int (nI nn)), (3, .long (lN ((fu_t (rd_w v) kn (gone + 1) (fu_n (rd_w v) tb cf)).1))), (5, .int (nI (tb + 1)))]) [0, 1, 2, 3, 5] rfl ?_
          first | (rw [show lN ((fu_t (rd_w v) kn (gone + 1) (fu_n (rd_w v) tb cf)).1) = lN (fu_tb (fun tb => (fu_t (rd_w v) kn (gone + 1) (fu_n (rd_w v) tb cf)).1) (gone % 2) (tb + 1)).1 from (by rw [tb_yes (by first | exact Or.inl (by omega) | exact Or.inr (Or.inl ⟨by omega, by omega⟩) | exact Or.inr (Or.inr ⟨by omega, by omega⟩))])]; exact ih _ (by omega) (tb + 1) h3 g3 rfl (by omega) e81 (fun j hj => (by rw [p1 j (by omega), q1 j (by omega)]; exact hg1 j hj)) hfr (fun q => k3 (mk.uJ (mk1' q) rfl))) | (rw [show lN (fu_tb (fun tb => (fu_t (rd_w v) kn (gone + 1) (fu_n (rd_w v) tb cf)).1) (gone % 2) tb).1 = lN (fu_tb (fun tb => (fu_t (rd_w v) kn (gone + 1) (fu_n (rd_w v) tb cf)).1) (gone % 2) (tb + 1)).1 from (by rw [tb_no (fun q => by omega)])]; exact ih _ (by omega) (tb + 1) h3 g3 rfl (by omega) e81 (fun j hj => (by rw [p1 j (by omega), q1 j (by omega)]; exact hg1 j hj)) hfr (fun q => k3 (mk.uJ (mk1' q) rfl)))
        · refine az_iload_n dX12_turnedFrom_49 ?_
          refine az_iconst (v := nI 2) dX12_turnedFrom_50 ?_
          refine az_irem dX12_turnedFrom_51 (by decide) ?_
          rw [irem2 (by omega)]
          refine az_if_neN (tgt := 62) dX12_turnedFrom_52 (fun c52 => ?_) (fun c52 => ?_)
          · refine az_iload_n dX12_turnedFrom_62 ?_
            refine az_iconst (v := nI 2) dX12_turnedFrom_63 ?_
            refine az_irem dX12_turnedFrom_64 (by decide) ?_
            rw [irem2 (by omega)]
            refine az_iconst (v := nI 1) dX12_turnedFrom_65 ?_
            refine az_icmp_neN (tgt := 79) dX12_turnedFrom_66 (fun c66 => ?_) (fun c66 => ?_)
            · refine az_iincN (n := 1) (ls' := [(0, .ref 64), (1, .int (nI gone)), (2, .int (nI nn)), (3, .long (lN ((fu_tb (fun tb => (fu_t (rd_w v) kn (gone + 1) (fu_n (rd_w v) tb cf)).1) (gone % 2) tb).1))), (5, .int (nI (tb + 1))), (6, .long (lN ((fu_t (rd_w v) kn (gone + 1) (fu_n (rd_w v) tb cf)).1)))]) dX12_turnedFrom_79 ?_
              refine az_goto (tgt := 16) dX12_turnedFrom_82 ?_
              refine az_W.keep (ls' := [(0, .ref 64), (1, .int (nI gone)), (2, .int (nI nn)), (3, .long (lN ((fu_tb (fun tb => (fu_t (rd_w v) kn (gone + 1) (fu_n (rd_w v) tb cf)).1) (gone % 2) tb).1))), (5, .int (nI (tb + 1)))]) [0, 1, 2, 3, 5] rfl ?_
              first | (rw [show lN ((fu_t (rd_w v) kn (gone + 1) (fu_n (rd_w v) tb cf)).1) = lN (fu_tb (fun tb => (fu_t (rd_w v) kn (gone + 1) (fu_n (rd_w v) tb cf)).1) (gone % 2) (tb + 1)).1 from (by rw [tb_yes (by first | exact Or.inl (by omega) | exact Or.inr (Or.inl ⟨by omega, by omega⟩) | exact Or.inr (Or.inr ⟨by omega, by omega⟩))])]; exact ih _ (by omega) (tb + 1) h3 g3 rfl (by omega) e81 (fun j hj => (by rw [p1 j (by omega), q1 j (by omega)]; exact hg1 j hj)) hfr (fun q => k3 (mk.uJ (mk1' q) rfl))) | (rw [show lN (fu_tb (fun tb => (fu_t (rd_w v) kn (gone + 1) (fu_n (rd_w v) tb cf)).1) (gone % 2) tb).1 = lN (fu_tb (fun tb => (fu_t (rd_w v) kn (gone + 1) (fu_n (rd_w v) tb cf)).1) (gone % 2) (tb + 1)).1 from (by rw [tb_no (fun q => by omega)])]; exact ih _ (by omega) (tb + 1) h3 g3 rfl (by omega) e81 (fun j hj => (by rw [p1 j (by omega), q1 j (by omega)]; exact hg1 j hj)) hfr (fun q => k3 (mk.uJ (mk1' q) rfl)))
            · refine az_lload dX12_turnedFrom_69 ?_
              refine az_lload_n dX12_turnedFrom_71 ?_
              refine az_lcmp_geN (tgt := 79) dX12_turnedFrom_72 dX12_turnedFrom_73 (fun c72 => ?_) (fun c72 => ?_)
              · refine az_iincN (n := 1) (ls' := [(0, .ref 64), (1, .int (nI gone)), (2, .int (nI nn)), (3, .long (lN ((fu_tb (fun tb => (fu_t (rd_w v) kn (gone + 1) (fu_n (rd_w v) tb cf)).1) (gone % 2) tb).1))), (5, .int (nI (tb + 1))), (6, .long (lN ((fu_t (rd_w v) kn (gone + 1) (fu_n (rd_w v) tb cf)).1)))]) dX12_turnedFrom_79 ?_
                refine az_goto (tgt := 16) dX12_turnedFrom_82 ?_
                refine az_W.keep (ls' := [(0, .ref 64), (1, .int (nI gone)), (2, .int (nI nn)), (3, .long (lN ((fu_tb (fun tb => (fu_t (rd_w v) kn (gone + 1) (fu_n (rd_w v) tb cf)).1) (gone % 2) tb).1))), (5, .int (nI (tb + 1)))]) [0, 1, 2, 3, 5] rfl ?_
                first | (rw [show lN ((fu_t (rd_w v) kn (gone + 1) (fu_n (rd_w v) tb cf)).1) = lN (fu_tb (fun tb => (fu_t (rd_w v) kn (gone + 1) (fu_n (rd_w v) tb cf)).1) (gone % 2) (tb + 1)).1 from (by rw [tb_yes (by first | exact Or.inl (by omega) | exact Or.inr (Or.inl ⟨by omega, by omega⟩) | exact Or.inr (Or.inr ⟨by omega, by omega⟩))])]; exact ih _ (by omega) (tb + 1) h3 g3 rfl (by omega) e81 (fun j hj => (by rw [p1 j (by omega), q1 j (by omega)]; exact hg1 j hj)) hfr (fun q => k3 (mk.uJ (mk1' q) rfl))) | (rw [show lN (fu_tb (fun tb => (fu_t (rd_w v) kn (gone + 1) (fu_n (rd_w v) tb cf)).1) (gone % 2) tb).1 = lN (fu_tb (fun tb => (fu_t (rd_w v) kn (gone + 1) (fu_n (rd_w v) tb cf)).1) (gone % 2) (tb + 1)).1 from (by rw [tb_no (fun q => by omega)])]; exact ih _ (by omega) (tb + 1) h3 g3 rfl (by omega) e81 (fun j hj => (by rw [p1 j (by omega), q1 j (by omega)]; exact hg1 j hj)) hfr (fun q => k3 (mk.uJ (mk1' q) rfl)))
              · refine az_lload dX12_turnedFrom_76 ?_
                refine az_lstore_n (ls' := [(0, .ref 64), (1, .int (nI gone)), (2, .int (nI nn)), (3, .long (lN ((fu_t (rd_w v) kn (gone + 1) (fu_n (rd_w v) tb cf)).1))), (5, .int (nI tb)), (6, .long (lN ((fu_t (rd_w v) kn (gone + 1) (fu_n (rd_w v) tb cf)).1)))]) dX12_turnedFrom_78 ?_
                refine az_iincN (n := 1) (ls' := [(0, .ref 64), (1, .int (nI gone)), (2, .int (nI nn)), (3, .long (lN ((fu_t (rd_w v) kn (gone + 1) (fu_n (rd_w v) tb cf)).1))), (5, .int (nI (tb + 1))), (6, .long (lN ((fu_t (rd_w v) kn (gone + 1) (fu_n (rd_w v) tb cf)).1)))]) dX12_turnedFrom_79 ?_
                refine az_goto (tgt := 16) dX12_turnedFrom_82 ?_
                refine az_W.keep (ls' := [(0, .ref 64), (1, .int (nI gone)), (2, .int (nI nn)), (3, .long (lN ((fu_t (rd_w v) kn (gone + 1) (fu_n (rd_w v) tb cf)).1))), (5, .int (nI (tb + 1)))]) [0, 1, 2, 3, 5] rfl ?_
                first | (rw [show lN ((fu_t (rd_w v) kn (gone + 1) (fu_n (rd_w v) tb cf)).1) = lN (fu_tb (fun tb => (fu_t (rd_w v) kn (gone + 1) (fu_n (rd_w v) tb cf)).1) (gone % 2) (tb + 1)).1 from (by rw [tb_yes (by first | exact Or.inl (by omega) | exact Or.inr (Or.inl ⟨by omega, by omega⟩) | exact Or.inr (Or.inr ⟨by omega, by omega⟩))])]; exact ih _ (by omega) (tb + 1) h3 g3 rfl (by omega) e81 (fun j hj => (by rw [p1 j (by omega), q1 j (by omega)]; exact hg1 j hj)) hfr (fun q => k3 (mk.uJ (mk1' q) rfl))) | (rw [show lN (fu_tb (fun tb => (fu_t (rd_w v) kn (gone + 1) (fu_n (rd_w v) tb cf)).1) (gone % 2) tb).1 = lN (fu_tb (fun tb => (fu_t (rd_w v) kn (gone + 1) (fu_n (rd_w v) tb cf)).1) (gone % 2) (tb + 1)).1 from (by rw [tb_no (fun q => by omega)])]; exact ih _ (by omega) (tb + 1) h3 g3 rfl (by omega) e81 (fun j hj => (by rw [p1 j (by omega), q1 j (by omega)]; exact hg1 j hj)) hfr (fun q => k3 (mk.uJ (mk1' q) rfl)))
          · refine az_lload dX12_turnedFrom_55 ?_
            refine az_lload_n dX12_turnedFrom_57 ?_
            refine az_lcmp_gtN (tgt := 76) dX12_turnedFrom_58 dX12_turnedFrom_59 (fun c58 => ?_) (fun c58 => ?_)
            · refine az_lload dX12_turnedFrom_76 ?_
              refine az_lstore_n (ls' := [(0, .ref 64), (1, .int (nI gone)), (2, .int (nI nn)), (3, .long (lN ((fu_t (rd_w v) kn (gone + 1) (fu_n (rd_w v) tb cf)).1))), (5, .int (nI tb)), (6, .long (lN ((fu_t (rd_w v) kn (gone + 1) (fu_n (rd_w v) tb cf)).1)))]) dX12_turnedFrom_78 ?_
              refine az_iincN (n := 1) (ls' := [(0, .ref 64), (1, .int (nI gone)), (2, .int (nI nn)), (3, .long (lN ((fu_t (rd_w v) kn (gone + 1) (fu_n (rd_w v) tb cf)).1))), (5, .int (nI (tb + 1))), (6, .long (lN ((fu_t (rd_w v) kn (gone + 1) (fu_n (rd_w v) tb cf)).1)))]) dX12_turnedFrom_79 ?_
              refine az_goto (tgt := 16) dX12_turnedFrom_82 ?_
              refine az_W.keep (ls' := [(0, .ref 64), (1, .int (nI gone)), (2, .int (nI nn)), (3, .long (lN ((fu_t (rd_w v) kn (gone + 1) (fu_n (rd_w v) tb cf)).1))), (5, .int (nI (tb + 1)))]) [0, 1, 2, 3, 5] rfl ?_
              first | (rw [show lN ((fu_t (rd_w v) kn (gone + 1) (fu_n (rd_w v) tb cf)).1) = lN (fu_tb (fun tb => (fu_t (rd_w v) kn (gone + 1) (fu_n (rd_w v) tb cf)).1) (gone % 2) (tb + 1)).1 from (by rw [tb_yes (by first | exact Or.inl (by omega) | exact Or.inr (Or.inl ⟨by omega, by omega⟩) | exact Or.inr (Or.inr ⟨by omega, by omega⟩))])]; exact ih _ (by omega) (tb + 1) h3 g3 rfl (by omega) e81 (fun j hj => (by rw [p1 j (by omega), q1 j (by omega)]; exact hg1 j hj)) hfr (fun q => k3 (mk.uJ (mk1' q) rfl))) | (rw [show lN (fu_tb (fun tb => (fu_t (rd_w v) kn (gone + 1) (fu_n (rd_w v) tb cf)).1) (gone % 2) tb).1 = lN (fu_tb (fun tb => (fu_t (rd_w v) kn (gone + 1) (fu_n (rd_w v) tb cf)).1) (gone % 2) (tb + 1)).1 from (by rw [tb_no (fun q => by omega)])]; exact ih _ (by omega) (tb + 1) h3 g3 rfl (by omega) e81 (fun j hj => (by rw [p1 j (by omega), q1 j (by omega)]; exact hg1 j hj)) hfr (fun q => k3 (mk.uJ (mk1' q) rfl)))
            · refine az_iload_n dX12_turnedFrom_62 ?_
              refine az_iconst (v := nI 2) dX12_turnedFrom_63 ?_
              refine az_irem dX12_turnedFrom_64 (by decide) ?_
              rw [irem2 (by omega)]
              refine az_iconst (v := nI 1) dX12_turnedFrom_65 ?_
              refine az_icmp_neN (tgt := 79) dX12_turnedFrom_66 (fun c66 => ?_) (fun c66 => ?_)
              · refine az_iincN (n := 1) (ls' := [(0, .ref 64), (1, .int (nI gone)), (2, .int (nI nn)), (3, .long (lN ((fu_tb (fun tb => (fu_t (rd_w v) kn (gone + 1) (fu_n (rd_w v) tb cf)).1) (gone % 2) tb).1))), (5, .int (nI (tb + 1))), (6, .long (lN ((fu_t (rd_w v) kn (gone + 1) (fu_n (rd_w v) tb cf)).1)))]) dX12_turnedFrom_79 ?_
                refine az_goto (tgt := 16) dX12_turnedFrom_82 ?_
                refine az_W.keep (ls' := [(0, .ref 64), (1, .int (nI gone)), (2, .int (nI nn)), (3, .long (lN ((fu_tb (fun tb => (fu_t (rd_w v) kn (gone + 1) (fu_n (rd_w v) tb cf)).1) (gone % 2) tb).1))), (5, .int (nI (tb + 1)))]) [0, 1, 2, 3, 5] rfl ?_
                first | (rw [show lN ((fu_t (rd_w v) kn (gone + 1) (fu_n (rd_w v) tb cf)).1) = lN (fu_tb (fun tb => (fu_t (rd_w v) kn (gone + 1) (fu_n (rd_w v) tb cf)).1) (gone % 2) (tb + 1)).1 from (by rw [tb_yes (by first | exact Or.inl (by omega) | exact Or.inr (Or.inl ⟨by omega, by omega⟩) | exact Or.inr (Or.inr ⟨by omega, by omega⟩))])]; exact ih _ (by omega) (tb + 1) h3 g3 rfl (by omega) e81 (fun j hj => (by rw [p1 j (by omega), q1 j (by omega)]; exact hg1 j hj)) hfr (fun q => k3 (mk.uJ (mk1' q) rfl))) | (rw [show lN (fu_tb (fun tb => (fu_t (rd_w v) kn (gone + 1) (fu_n (rd_w v) tb cf)).1) (gone % 2) tb).1 = lN (fu_tb (fun tb => (fu_t (rd_w v) kn (gone + 1) (fu_n (rd_w v) tb cf)).1) (gone % 2) (tb + 1)).1 from (by rw [tb_no (fun q => by omega)])]; exact ih _ (by omega) (tb + 1) h3 g3 rfl (by omega) e81 (fun j hj => (by rw [p1 j (by omega), q1 j (by omega)]; exact hg1 j hj)) hfr (fun q => k3 (mk.uJ (mk1' q) rfl)))
              · refine az_lload dX12_turnedFrom_69 ?_
                refine az_lload_n dX12_turnedFrom_71 ?_
                refine az_lcmp_geN (tgt := 79) dX12_turnedFrom_72 dX12_turnedFrom_73 (fun c72 => ?_) (fun c72 => ?_)
                · refine az_iincN (n := 1) (ls' := [(0, .ref 64), (1, .int (nI gone)), (2, .int (nI nn)), (3, .long (lN ((fu_tb (fun tb => (fu_t (rd_w v) kn (gone + 1) (fu_n (rd_w v) tb cf)).1) (gone % 2) tb).1))), (5, .int (nI (tb + 1))), (6, .long (lN ((fu_t (rd_w v) kn (gone + 1) (fu_n (rd_w v) tb cf)).1)))]) dX12_turnedFrom_79 ?_
                  refine az_goto (tgt := 16) dX12_turnedFrom_82 ?_
                  refine az_W.keep (ls' := [(0, .ref 64), (1, .int (nI gone)), (2, .int (nI nn)), (3, .long (lN ((fu_tb (fun tb => (fu_t (rd_w v) kn (gone + 1) (fu_n (rd_w v) tb cf)).1) (gone % 2) tb).1))), (5, .int (nI (tb + 1)))]) [0, 1, 2, 3, 5] rfl ?_
                  first | (rw [show lN ((fu_t (rd_w v) kn (gone + 1) (fu_n (rd_w v) tb cf)).1) = lN (fu_tb (fun tb => (fu_t (rd_w v) kn (gone + 1) (fu_n (rd_w v) tb cf)).1) (gone % 2) (tb + 1)).1 from (by rw [tb_yes (by first | exact Or.inl (by omega) | exact Or.inr (Or.inl ⟨by omega, by omega⟩) | exact Or.inr (Or.inr ⟨by omega, by omega⟩))])]; exact ih _ (by omega) (tb + 1) h3 g3 rfl (by omega) e81 (fun j hj => (by rw [p1 j (by omega), q1 j (by omega)]; exact hg1 j hj)) hfr (fun q => k3 (mk.uJ (mk1' q) rfl))) | (rw [show lN (fu_tb (fun tb => (fu_t (rd_w v) kn (gone + 1) (fu_n (rd_w v) tb cf)).1) (gone % 2) tb).1 = lN (fu_tb (fun tb => (fu_t (rd_w v) kn (gone + 1) (fu_n (rd_w v) tb cf)).1) (gone % 2) (tb + 1)).1 from (by rw [tb_no (fun q => by omega)])]; exact ih _ (by omega) (tb + 1) h3 g3 rfl (by omega) e81 (fun j hj => (by rw [p1 j (by omega), q1 j (by omega)]; exact hg1 j hj)) hfr (fun q => k3 (mk.uJ (mk1' q) rfl)))
                · refine az_lload dX12_turnedFrom_76 ?_
                  refine az_lstore_n (ls' := [(0, .ref 64), (1, .int (nI gone)), (2, .int (nI nn)), (3, .long (lN ((fu_t (rd_w v) kn (gone + 1) (fu_n (rd_w v) tb cf)).1))), (5, .int (nI tb)), (6, .long (lN ((fu_t (rd_w v) kn (gone + 1) (fu_n (rd_w v) tb cf)).1)))]) dX12_turnedFrom_78 ?_
                  refine az_iincN (n := 1) (ls' := [(0, .ref 64), (1, .int (nI gone)), (2, .int (nI nn)), (3, .long (lN ((fu_t (rd_w v) kn (gone + 1) (fu_n (rd_w v) tb cf)).1))), (5, .int (nI (tb + 1))), (6, .long (lN ((fu_t (rd_w v) kn (gone + 1) (fu_n (rd_w v) tb cf)).1)))]) dX12_turnedFrom_79 ?_
                  refine az_goto (tgt := 16) dX12_turnedFrom_82 ?_
                  refine az_W.keep (ls' := [(0, .ref 64), (1, .int (nI gone)), (2, .int (nI nn)), (3, .long (lN ((fu_t (rd_w v) kn (gone + 1) (fu_n (rd_w v) tb cf)).1))), (5, .int (nI (tb + 1)))]) [0, 1, 2, 3, 5] rfl ?_
                  first | (rw [show lN ((fu_t (rd_w v) kn (gone + 1) (fu_n (rd_w v) tb cf)).1) = lN (fu_tb (fun tb => (fu_t (rd_w v) kn (gone + 1) (fu_n (rd_w v) tb cf)).1) (gone % 2) (tb + 1)).1 from (by rw [tb_yes (by first | exact Or.inl (by omega) | exact Or.inr (Or.inl ⟨by omega, by omega⟩) | exact Or.inr (Or.inr ⟨by omega, by omega⟩))])]; exact ih _ (by omega) (tb + 1) h3 g3 rfl (by omega) e81 (fun j hj => (by rw [p1 j (by omega), q1 j (by omega)]; exact hg1 j hj)) hfr (fun q => k3 (mk.uJ (mk1' q) rfl))) | (rw [show lN (fu_tb (fun tb => (fu_t (rd_w v) kn (gone + 1) (fu_n (rd_w v) tb cf)).1) (gone % 2) tb).1 = lN (fu_tb (fun tb => (fu_t (rd_w v) kn (gone + 1) (fu_n (rd_w v) tb cf)).1) (gone % 2) (tb + 1)).1 from (by rw [tb_no (fun q => by omega)])]; exact ih _ (by omega) (tb + 1) h3 g3 rfl (by omega) e81 (fun j hj => (by rw [p1 j (by omega), q1 j (by omega)]; exact hg1 j hj)) hfr (fun q => k3 (mk.uJ (mk1' q) rfl)))
    refine az_M.of rfl (Nat.le_of_ble_eq_true rfl) ?_
    show az_W _ _ _ _ 0 [(0, .ref 64), (1, .int (nI gone)), (2, .int (nI nn))] [] _ _
    refine az_iload_n dX12_turnedFrom_0 ?_
    refine az_iload_n dX12_turnedFrom_1 ?_
    refine az_icmp_neN (tgt := 11) dX12_turnedFrom_2 (fun c2 => ?_) (fun c2 => ?_)
    · refine az_lconst (v := lN 0) dX12_turnedFrom_11 ?_
      refine az_lstore_n (ls' := [(0, .ref 64), (1, .int (nI gone)), (2, .int (nI nn)), (3, .long (lN 0))]) dX12_turnedFrom_12 ?_
      refine az_iconst (v := nI 0) dX12_turnedFrom_13 ?_
      refine az_istore (ls' := [(0, .ref 64), (1, .int (nI gone)), (2, .int (nI nn)), (3, .long (lN 0)), (5, .int (nI 0))]) dX12_turnedFrom_14 ?_
      exact loop _ 0 hp gm rfl (Nat.zero_le _) h81 (fun _ _ => rfl) mf.rf (fun q => q)
    · exact absurd c2 (by omega)
set_option maxHeartbeats 4000000 in
set_option maxRecDepth 100000 in
theorem q_turned {d : Nat} {xk : Int32} {tp fk mo ni : Nat} {bt : Nat → Nat} {fp : Int32} {v : rd_V} {bs : List Nat} {U : ln_U} {im : Nat → Option (rd_V × ln_Z)} {tr : Nat → Option (Nat × List Int64)} {hp : az_Hp} {Q : Option Value → az_Hp → Prop} (hd : 12 ≤ d) (hok : cs_ok ((tp, bt), (fk, fp), v, (mo, ni, bs), U, im, tr)) (hM : mm hp ((tp, bt), (fk, fp), v, (mo, ni, bs), U, im, tr)) (hQ3 : ¬ cs_in xk 8 → ∀ h', mm h' ((tp, bt), (fk, fp), v, (mo, ni, bs), U, im, tr) → az_fr hp h' 64 93 → Q (some (.long (-3))) h') (hQ : ∀ k, xk = nI k → k < 8 → ∀ h', mm h' ((tp, bt), (fk, fp), v, (mo, ni, bs), U, im, tr) → az_fr hp h' 64 93 → Q (some (.long (lN (fu_t (rd_w v) k 0 (fun x => (ln_str (rd_w v) bs).count x)).1))) h') : az_M mX12_turned d 0 0 [.ref 64, .int xk] hp Q := by
  obtain ⟨sc0, A0, tf0, hI0, rs0, rm0, nu0, o1, o2, -⟩ := id hM
  have hgd : rd_good v := hok.2.2.1
  have hw : ln_ok (rd_w v) := hgd.1
  have hba : ln_ba (rd_w v) bs := hok.2.2.2.1
  have hb : ln_by (rd_w v) bs := hba.b
  have hlen := hb.2.2
  have h60 := hb.1
  have hU10 : U.length ≤ 10 := hok.2.2.2.2.1
  have ht1 := hw.1
  have ht3 := hw.2.1
  refine az_M.of rfl (Nat.le_of_ble_eq_true rfl) ?_
  show az_W _ _ _ _ 0 [(0, .ref 64), (1, .int xk)] [] _ _
  refine az_aload_n dX12_turned_0 ?_
  refine az_iconst (v := nI 0) dX12_turned_1 ?_
  refine az_putf (fs' := [.int (nI 0), .ref 65, .ref 66, .ref 67, .ref 68, sc0 5, fI (sc0 6), sc0 7, sc0 8, fI (sc0 9), fI (sc0 10), sc0 11, fI (sc0 12), sc0 13, sc0 14, .ref 69, .ref 70, .ref 71, sc0 18, .ref 72, .ref 73, .ref 74, sc0 22, sc0 23, .ref 75, sc0 25, .ref 76, .ref 77, .ref 78, sc0 29, .ref 79, .ref 80, .ref 81, .ref 82, .ref 83, .ref 84, .ref 85, sc0 37, .ref 86, .ref 87, .ref 88, .ref 89, .ref 90, .ref 91, .ref 92]) dX12_turned_2 fl_X12_1 o1 ?_
  obtain ⟨h1, hf1, hM1, hh1⟩ : ∃ h1, az_fr hp h1 64 93 ∧ mm h1 ((tp, bt), (fk, fp), v, (mo, ni, bs), U, im, tr) ∧ h1 = az_up hp 64 (mo_o (su sc0 0 (.int (nI 0)))) := ⟨_, az_fr.rf.up, hM.O (sc := su sc0 0 (.int (nI 0))) o2.1 o2.2.1 o2.2.2, rfl⟩
  rw [show (az_up hp 64 (az_O 11 [.int (nI 0), .ref 65, .ref 66, .ref 67, .ref 68, sc0 5, fI (sc0 6), sc0 7, sc0 8, fI (sc0 9), fI (sc0 10), sc0 11, fI (sc0 12), sc0 13, sc0 14, .ref 69, .ref 70, .ref 71, sc0 18, .ref 72, .ref 73, .ref 74, sc0 22, sc0 23, .ref 75, sc0 25, .ref 76, .ref 77, .ref 78, sc0 29, .ref 79, .ref 80, .ref 81, .ref 82, .ref 83, .ref 84, .ref 85, sc0 37, .ref 86, .ref 87, .ref 88, .ref 89, .ref 90, .ref 91, .ref 92])) = h1 from hh1.symm]
  obtain ⟨sc, A, tf, hI, rs, rm, nu, a1, a2, a3, a4, a5, a6, a7, a8, a9, a10, a11, a12, a13, a14⟩ := id hM1
  have a4 : mT A v (mo, ni, bs) := a4
  have a5 : mU A U := a5
  have a7 : mI A hI im := a7
  have a9 : ∀ j, j < tp → tf j = bt j := a9
  have a13 : mR rs rm nu tr := a13
  refine az_iload_n dX12_turned_5 ?_
  refine az_i2l dX12_turned_6 ?_
  refine az_lconst (v := lN 0) dX12_turned_7 ?_
  refine az_ldc2 (v := lN 7) dX12_turned_8 cn_X12_452 ?_
  refine az_cS0 (st := []) dX12_turned_11 ml_X12_169 (m_withinI (d := d - 1) (lo := 0) (hi := 7) (by decide) (by decide) ?_ ?_)
  · intro kk hxk hk0 hk7
    refine az_if_neN (tgt := 21) dX12_turned_14 (fun c14 => ?_) (fun c14 => ?_)
    · subst hxk
      refine az_aload_n dX12_turned_21 ?_
      refine az_cV0 (st := []) dX12_turned_22 ml_X12_424 a1 (m_laysMany (d := d - 1) (by omega) hw hb a1 a3 a4 a14 ?_)
      intro h2 gm c81 hgm mk2 mf2
      refine az_aload_n dX12_turned_25 ?_
      refine az_iconst (v := nI 0) dX12_turned_26 ?_
      refine az_iload_n dX12_turned_27 ?_
      refine az_cV0 (st := []) dX12_turned_28 ml_X12_471 (mf2.at a1) (m_turnedFrom hw a4.1 kk (d := d - 1) (gone := 0) (nn := kk) (gm := gm) (cf := (fun x => (ln_str (rd_w v) bs).count x)) (by omega) (Nat.zero_add _) hk7 (mf2.at a1) (mf2.at a3) c81 (fun c hc => (by rw [show 6 * 0 + c = c by omega]; exact hgm c hc)) (str_cap hw hb (by omega)) ?_)
      intro h3 g3 e81 p1 m3 k3
      exact az_lret dX12_turned_31 (hQ kk rfl (by omega) h3 (hM1.of (L := [71, 81]) (mf2.tr m3 (by decide)) (by decide) (k3 mk2) (m3.at (mf2.at a1)) a2.1 a2.2.1 a2.2.2) (hf1.tr (mf.fr (L := [71, 81]) (mf2.tr m3 (by decide)))))
    · exact absurd c14 (by omega)
  · intro hxk
    refine az_if_neN (tgt := 21) dX12_turned_14 (fun c14 => ?_) (fun c14 => ?_)
    · exact absurd c14 (by omega)
    · refine az_ldc2 (v := (-3)) dX12_turned_17 cn_X12_302 ?_
      exact az_lret dX12_turned_20 (hQ3 (cs_in_no (fun n hn => hxk n (Nat.zero_le _) (by omega))) h1 hM1 hf1)
/-- the first table that has the most -/
theorem tb_first {F : Nat → Nat} : ∀ k, 1 ≤ k → (fu_tb F 0 k).2 < k ∧ F (fu_tb F 0 k).2 = (fu_tb F 0 k).1 ∧ (∀ t, t < k → F t ≤ (fu_tb F 0 k).1) ∧ ∀ t, t < (fu_tb F 0 k).2 → F t < (fu_tb F 0 k).1 := by
  intro k
  induction k with
  | zero => intro h; omega
  | succ k ih =>
    intro _
    by_cases q : k = 0 ∨ ((0 : Nat) = 0 ∧ (fu_tb F 0 k).1 < F k) ∨ ((0 : Nat) ≠ 0 ∧ F k < (fu_tb F 0 k).1)
    · rw [tb_yes q]
      refine ⟨by dsimp only; omega, rfl, fun t ht => ?_, fun t ht => ?_⟩
      · show F t ≤ F k
        by_cases e : t = k
        · rw [e]; exact Nat.le_refl _
        · by_cases k0 : k = 0
          · omega
          · have := (ih (by omega)).2.2.1 t (by omega)
            have : (fu_tb F 0 k).1 < F k := by omega
            omega
      · show F t < F k
        have ht : t < k := ht
        have := (ih (by omega)).2.2.1 t (by omega)
        have : (fu_tb F 0 k).1 < F k := by omega
        omega
    · rw [tb_no q]
      obtain ⟨i1, i2, i3, i4⟩ := ih (by omega)
      refine ⟨by omega, i2, fun t ht => ?_, i4⟩
      by_cases e : t = k
      · rw [e]; omega
      · exact i3 t (by omega)
set_option maxHeartbeats 4000000 in
set_option maxRecDepth 100000 in
theorem m_bestW {sc : Nat → Value} {A : Nat → Nat} {v : rd_V} {d kk : Nat} {cf : Nat → Nat} {gm0 : Nat → Nat} {hp : az_Hp} {Q : Option Value → az_Hp → Prop} (hw : ln_ok (rd_w v)) (hV : mV A v) (hd : 12 ≤ d) (hk7 : kk + 1 ≤ 7) (h64 : hp.2 64 = some (mo_o sc)) (h65 : hp.2 65 = some (az_I 3318 (fun j => nI (A j)))) (h81 : hp.2 81 = some (az_J 84 (fun j => lN (gm0 j)))) (hrow : ∀ c, c < 6 → gm0 c = cf c) (hcap : fu_l cf * 4 ^ (kk + 1) < 2 ^ 62) (hQ : ∀ (h' : az_Hp), mf hp h' [81] → (mk hp → mk h') → Q (some (.int (nI (fu_t (rd_w v) (kk + 1) 0 cf).2))) h') : az_W mX12_best d 0 0 37 [(0, .ref 64), (1, .int (nI (kk + 1))), (2, .long (lN (fu_t (rd_w v) (kk + 1) 0 cf).1))] [] hp Q := by
  have ht3 := hw.2.1
  have ht1 := hw.1
  have hF := tb_first (F := fun tb => (fu_t (rd_w v) kk (0 + 1) (fu_n (rd_w v) tb cf)).1) (ln_tb (rd_w v)) ht1
  have hB : ∀ tb, (fu_t (rd_w v) kk (0 + 1) (fu_n (rd_w v) tb cf)).1 ≤ 2 ^ 62 := (fun tb => Nat.le_of_lt (Nat.lt_of_le_of_lt (fu_t_le hw kk (0 + 1) _) (fu_n_l hw hcap)))
  have hB2 := fu_tb_le (od := 0) hB (ln_tb (rd_w v))
  have eR : fu_t (rd_w v) (kk + 1) 0 cf = fu_tb (fun tb => (fu_t (rd_w v) kk (0 + 1) (fu_n (rd_w v) tb cf)).1) 0 (ln_tb (rd_w v)) := rfl
  rw [eR] at hQ ⊢
  generalize hR : fu_tb (fun tb => (fu_t (rd_w v) kk (0 + 1) (fu_n (rd_w v) tb cf)).1) 0 (ln_tb (rd_w v)) = R at *
  have hB3 : R.1 ≤ 2 ^ 62 := hB2
  have loop : ∀ (k : Nat) (tb : Nat) (h' : az_Hp) (g1 : Nat → Nat), 10 - tb = k → (tb ≤ R.2) → (h'.2 81 = some (az_J 84 (fun j => lN (g1 j)))) → (∀ c, c < 6 → g1 c = cf c) → (∀ c, c < 6 → g1 (6 * (0 + 1) + c) = fu_n (rd_w v) tb cf c) → (mf hp h' [81]) → (mk hp → mk h') → az_W mX12_best d 0 0 47 [(0, .ref 64), (1, .int (nI (kk + 1))), (2, .long (lN R.1)), (4, .int (nI tb))] [] h' Q := by
    intro k
    induction k using Nat.strongRecOn with
    | _ k ih =>
    intro tb h' g1 hk htb b81 hg1 hg2 mf1 mk1'
    have b64 : h'.2 64 = some (mo_o sc) := mf1.at h64
    have b65 : h'.2 65 = some (az_I 3318 (fun j => nI (A j))) := mf1.at h65
    have hR2 := hF.1
    refine az_aload_n dX12_best_47 ?_
    refine az_iconst (v := nI 1) dX12_best_48 ?_
    refine az_iload_n dX12_best_49 ?_
    refine az_cV0 (st := []) dX12_best_50 ml_X12_471 b64 (m_turnedFrom hw hV kk (d := d - 1) (gone := 1) (nn := kk + 1) (gm := g1) (cf := fu_n (rd_w v) tb cf) (by omega) (by omega) hk7 b64 b65 b81 (fun c hc => hg2 c hc) (fu_n_l hw hcap) ?_)
    intro h3 g3 e81 p1 m3 k3
    have hv9 : (fu_t (rd_w v) kk 1 (fu_n (rd_w v) tb cf)).1 ≤ 2 ^ 62 := hB tb
    refine az_lload_n dX12_best_53 ?_
    refine az_lcmp_eqN (tgt := 71) dX12_best_54 dX12_best_55 (fun c54 => ?_) (fun c54 => ?_)
    · refine az_iload dX12_best_71 ?_
      exact az_iret dX12_best_73 (by have e9 : tb = R.2 := (by apply Classical.byContradiction; intro q; have q9 : (fu_t (rd_w v) kk (0 + 1) (fu_n (rd_w v) tb cf)).1 < R.1 := hF.2.2.2 tb (by omega); have c9 : (fu_t (rd_w v) kk (0 + 1) (fu_n (rd_w v) tb cf)).1 = R.1 := c54; omega); rw [e9]; exact hQ h3 (mf1.tr m3 (by decide)) (fun q => k3 (mk1' q)))
    · have hne : tb ≠ R.2 := (fun e => c54 (by rw [e]; exact hF.2.1))
      refine az_iincN (n := 1) (ls' := [(0, .ref 64), (1, .int (nI (kk + 1))), (2, .long (lN R.1)), (4, .int (nI (tb + 1)))]) dX12_best_58 ?_
      refine az_aload_n dX12_best_61 ?_
      refine az_iconst (v := nI 0) dX12_best_62 ?_
      refine az_iload dX12_best_63 ?_
      refine az_cV0 (st := []) dX12_best_65 ml_X12_437 (m3.at b64) (m_goesMany (d := d - 1) (gone := 0) (tb := tb + 1) (cf := cf) (by omega) hw (m3.at b64) (m3.at b65) hV (by have := hF.1; omega) (by omega) e81 (fun c hc => (by rw [p1 _ (by omega), show 6 * 0 + c = c by omega]; exact hg1 c hc)) ?_)
      intro g4 q1 q2
      refine az_goto (tgt := 47) dX12_best_68 ?_
      exact ih _ (by omega) (tb + 1) _ g4 rfl (by omega) az_up_eq (fun c hc => (by rw [q1 c (by omega), p1 c (by omega)]; exact hg1 c hc)) q2 ((mf1.tr m3 (by decide)).up (by decide)) (fun q => mk.uJ (k3 (mk1' q)) rfl)
  refine az_iconst (v := nI 0) dX12_best_37 ?_
  refine az_istore (ls' := [(0, .ref 64), (1, .int (nI (kk + 1))), (2, .long (lN R.1)), (4, .int (nI 0))]) dX12_best_38 ?_
  refine az_aload_n dX12_best_40 ?_
  refine az_iconst (v := nI 0) dX12_best_41 ?_
  refine az_iload dX12_best_42 ?_
  refine az_cV0 (st := []) dX12_best_44 ml_X12_437 h64 (m_goesMany (d := d - 1) (gone := 0) (tb := 0) (cf := cf) (by omega) hw h64 h65 hV (by omega) (by omega) h81 (fun c hc => (by rw [show 6 * 0 + c = c by omega]; exact hrow c hc)) ?_)
  intro g4 q1 q2
  exact loop _ 0 _ g4 rfl (Nat.zero_le _) az_up_eq (fun c hc => (by rw [q1 c (by omega)]; exact hrow c hc)) q2 (mf.rf.up (by decide)) (fun q => mk.uJ q rfl)
set_option maxHeartbeats 4000000 in
set_option maxRecDepth 100000 in
theorem q_best {d : Nat} {xk : Int32} {tp fk mo ni : Nat} {bt : Nat → Nat} {fp : Int32} {v : rd_V} {bs : List Nat} {U : ln_U} {im : Nat → Option (rd_V × ln_Z)} {tr : Nat → Option (Nat × List Int64)} {hp : az_Hp} {Q : Option Value → az_Hp → Prop} (hd : 13 ≤ d) (hok : cs_ok ((tp, bt), (fk, fp), v, (mo, ni, bs), U, im, tr)) (hM : mm hp ((tp, bt), (fk, fp), v, (mo, ni, bs), U, im, tr)) (hQ3 : ¬ cs_in xk 8 → ∀ h', mm h' ((tp, bt), (fk, fp), v, (mo, ni, bs), U, im, tr) → az_fr hp h' 64 93 → Q (some (.int (-3))) h') (hQ : ∀ k, xk = nI k → k < 8 → ∀ h', mm h' ((tp, bt), (fk, fp), v, (mo, ni, bs), U, im, tr) → az_fr hp h' 64 93 → Q (some (.int (if k = 0 then (-1) else nI (fu_t (rd_w v) k 0 (fun x => (ln_str (rd_w v) bs).count x)).2))) h') : az_M mX12_best d 0 0 [.ref 64, .int xk] hp Q := by
  obtain ⟨sc0, A0, tf0, hI0, rs0, rm0, nu0, o1, o2, -⟩ := id hM
  have hgd : rd_good v := hok.2.2.1
  have hw : ln_ok (rd_w v) := hgd.1
  have hba : ln_ba (rd_w v) bs := hok.2.2.2.1
  have hb : ln_by (rd_w v) bs := hba.b
  have hlen := hb.2.2
  have h60 := hb.1
  have hU10 : U.length ≤ 10 := hok.2.2.2.2.1
  have ht1 := hw.1
  have ht3 := hw.2.1
  refine az_M.of rfl (Nat.le_of_ble_eq_true rfl) ?_
  show az_W _ _ _ _ 0 [(0, .ref 64), (1, .int xk)] [] _ _
  refine az_aload_n dX12_best_0 ?_
  refine az_iconst (v := nI 0) dX12_best_1 ?_
  refine az_putf (fs' := [.int (nI 0), .ref 65, .ref 66, .ref 67, .ref 68, sc0 5, fI (sc0 6), sc0 7, sc0 8, fI (sc0 9), fI (sc0 10), sc0 11, fI (sc0 12), sc0 13, sc0 14, .ref 69, .ref 70, .ref 71, sc0 18, .ref 72, .ref 73, .ref 74, sc0 22, sc0 23, .ref 75, sc0 25, .ref 76, .ref 77, .ref 78, sc0 29, .ref 79, .ref 80, .ref 81, .ref 82, .ref 83, .ref 84, .ref 85, sc0 37, .ref 86, .ref 87, .ref 88, .ref 89, .ref 90, .ref 91, .ref 92]) dX12_best_2 fl_X12_1 o1 ?_
  obtain ⟨h1, hf1, hM1, hh1⟩ : ∃ h1, az_fr hp h1 64 93 ∧ mm h1 ((tp, bt), (fk, fp), v, (mo, ni, bs), U, im, tr) ∧ h1 = az_up hp 64 (mo_o (su sc0 0 (.int (nI 0)))) := ⟨_, az_fr.rf.up, hM.O (sc := su sc0 0 (.int (nI 0))) o2.1 o2.2.1 o2.2.2, rfl⟩
  rw [show (az_up hp 64 (az_O 11 [.int (nI 0), .ref 65, .ref 66, .ref 67, .ref 68, sc0 5, fI (sc0 6), sc0 7, sc0 8, fI (sc0 9), fI (sc0 10), sc0 11, fI (sc0 12), sc0 13, sc0 14, .ref 69, .ref 70, .ref 71, sc0 18, .ref 72, .ref 73, .ref 74, sc0 22, sc0 23, .ref 75, sc0 25, .ref 76, .ref 77, .ref 78, sc0 29, .ref 79, .ref 80, .ref 81, .ref 82, .ref 83, .ref 84, .ref 85, sc0 37, .ref 86, .ref 87, .ref 88, .ref 89, .ref 90, .ref 91, .ref 92])) = h1 from hh1.symm]
  obtain ⟨sc, A, tf, hI, rs, rm, nu, a1, a2, a3, a4, a5, a6, a7, a8, a9, a10, a11, a12, a13, a14⟩ := id hM1
  have a4 : mT A v (mo, ni, bs) := a4
  have a5 : mU A U := a5
  have a7 : mI A hI im := a7
  have a9 : ∀ j, j < tp → tf j = bt j := a9
  have a13 : mR rs rm nu tr := a13
  refine az_iload_n dX12_best_5 ?_
  refine az_i2l dX12_best_6 ?_
  refine az_lconst (v := lN 0) dX12_best_7 ?_
  refine az_ldc2 (v := lN 7) dX12_best_8 cn_X12_452 ?_
  refine az_cS0 (st := []) dX12_best_11 ml_X12_169 (m_withinI (d := d - 1) (lo := 0) (hi := 7) (by decide) (by decide) ?_ ?_)
  · intro kk hxk hk0 hk7
    refine az_if_neN (tgt := 20) dX12_best_14 (fun c14 => ?_) (fun c14 => ?_)
    · subst hxk
      refine az_iload_n dX12_best_20 ?_
      refine az_if_neN (tgt := 26) dX12_best_21 (fun c21 => ?_) (fun c21 => ?_)
      · obtain ⟨k8, rfl⟩ : ∃ k8, kk = k8 + 1 := ⟨kk - 1, by omega⟩
        refine az_aload_n dX12_best_26 ?_
        refine az_cV0 (st := []) dX12_best_27 ml_X12_424 a1 (m_laysMany (d := d - 1) (by omega) hw hb a1 a3 a4 a14 ?_)
        intro h2 gm c81 hgm mk2 mf2
        refine az_aload_n dX12_best_30 ?_
        refine az_iconst (v := nI 0) dX12_best_31 ?_
        refine az_iload_n dX12_best_32 ?_
        refine az_cV0 (st := []) dX12_best_33 ml_X12_471 (mf2.at a1) (m_turnedFrom hw a4.1 (k8 + 1) (d := d - 1) (gone := 0) (nn := k8 + 1) (gm := gm) (cf := (fun x => (ln_str (rd_w v) bs).count x)) (by omega) (Nat.zero_add _) hk7 (mf2.at a1) (mf2.at a3) c81 (fun c hc => (by rw [show 6 * 0 + c = c by omega]; exact hgm c hc)) (str_cap hw hb (by omega)) ?_)
        intro h3 g3 e81 p1 m3 k3
        refine az_lstore_n (ls' := [(0, .ref 64), (1, .int (nI (k8 + 1))), (2, .long (lN ((fu_t (rd_w v) (k8 + 1) 0 (fun x => (ln_str (rd_w v) bs).count x)).1)))]) dX12_best_36 ?_
        refine m_bestW (cf := (fun x => (ln_str (rd_w v) bs).count x)) hw a4.1 (by omega) hk7 (m3.at (mf2.at a1)) (m3.at (mf2.at a3)) e81 (fun c hc => (by rw [p1 c (by omega)]; exact hgm c hc)) (str_cap hw hb (by omega)) (fun h4 m4 k4 => ?_)
        have hq := hQ (k8 + 1) rfl (by omega) h4 (hM1.of (L := [71, 81]) ((mf2.tr m3 (by decide)).tr m4 (by decide)) (by decide) (k4 (k3 mk2)) (m4.at (m3.at (mf2.at a1))) a2.1 a2.2.1 a2.2.2) (hf1.tr (mf.fr (L := [71, 81]) ((mf2.tr m3 (by decide)).tr m4 (by decide))))
        rw [if_neg (by omega)] at hq
        exact hq
      · refine az_iconst (v := (-1)) dX12_best_24 ?_
        exact az_iret dX12_best_25 (by have hq := hQ kk rfl (by omega) h1 hM1 hf1; rw [if_pos (by omega)] at hq; exact hq)
    · exact absurd c14 (by omega)
  · intro hxk
    refine az_if_neN (tgt := 20) dX12_best_14 (fun c14 => ?_) (fun c14 => ?_)
    · exact absurd c14 (by omega)
    · refine az_bipush (v := (-3)) dX12_best_17 ?_
      exact az_iret dX12_best_19 (hQ3 (cs_in_no (fun n hn => hxk n (Nat.zero_le _) (by omega))) h1 hM1 hf1)

