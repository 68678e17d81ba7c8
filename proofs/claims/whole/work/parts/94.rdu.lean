/-! Reader.readTown -/
theorem az_newK {M : az_Me} {d rc rs pc : Nat} {ls : List (Nat × Value)} {st : List Value} {hp : az_Hp} {Q : Option Value → az_Hp → Prop} {index ci k : Nat} {fs : List Value} (hdg : decode M.2.1 pc = .ok (.new index, 3)) (hc : az_cl M.1.cls index ci fs) (kk : az_W M d (rc - 1) (rs - k) (pc + 3) ls (.ref hp.1 :: st) (az_nw hp (az_O ci fs)) Q) (hk : fs.length = k := by rfl) (hrc : 1 ≤ rc := by omega) (hrs : k ≤ rs := by omega) : az_W M d rc rs pc ls st hp Q := by
  subst hk
  exact az_new (n := 0) hdg hc hrc hrs kk
theorem rd_Sg.eqv {h h' : az_Hp} {q tx n e k5 N : Nat} {b : Nat → Nat} {va : Int32} (hS : rd_Sg h q tx n b e k5 va) (hf : ∀ z, z < N → h'.2 z = h.2 z) (h1 : q + 4 ≤ N) (h2 : tx < N) : rd_Sg h' q tx n b e k5 va := by
  obtain ⟨⟨x1, x2, x3, tf, x4, x5⟩, he, hc, cf, ol, g0, g3, hcf, g2⟩ := hS
  exact ⟨⟨x1, x2, x3, tf, (hf _ h2).trans x4, x5⟩, he, hc, cf, ol, (hf _ (by omega)).trans g0, (hf _ (by omega)).trans g3, hcf, (hf _ (by omega)).trans g2⟩
set_option maxHeartbeats 8000000 in
set_option maxRecDepth 100000 in
theorem s_readTown {d q tx n k5 : Nat} {b : Nat → Nat} {tf cf ol : Nat → Int32} {fa fp tx0 sz0 ki aa zz : Value} {va : Int32} {hp : az_Hp} {Q : Option Value → az_Hp → Prop} (hd : 62 ≤ d) (hb : ∀ j, b j < 256) (hn : n ≤ 900) (ht9 : tx < q ∨ q + 4 ≤ tx) (ht : hp.2 tx = some (az_Y 900 tf)) (htf : ∀ j, j < n → tf j = bI (b j)) (h0 : hp.2 q = some (az_O 4 [fa, fp, tx0, sz0, ki, aa, zz, .int va, .ref (q + 2), .ref (q + 3), .int (nI k5)])) (hk5 : k5 ≤ 900) (h3 : hp.2 (q + 3) = some (az_I 900 cf)) (h2 : hp.2 (q + 2) = some (az_I 1 ol)) (hl : q + 4 ≤ hp.1 ∧ tx < hp.1) (hQ1 : ∀ e v, rd_town b n = .inl (e, v) → ∀ h', rd_Sv h' q tx n b e → rd_To h' hp.1 (rd_w v) q tx → rd_h hp h' q hp.1 → Q (some (.ref hp.1)) h') (hQ0 : ∀ f p, rd_town b n = .inr (f, p) → ∀ h', rd_Er h' q tx n b f p 0 900 → rd_h hp h' q hp.1 → Q (some .null) h') : az_M mX5_readTown d (7 + n) (111 + n) [.ref q, .ref tx, .int (nI n)] hp Q := by
  have bad : ∀ (k : Nat) (rc9 rs9 i f9 p9 : Nat) (h' : az_Hp) (hE9 : rd_Er h' q tx n b f9 p9 0 900) (hQb : Q (some .null) h'), 0 = k → (i ≤ 1000) → az_W mX5_readTown d rc9 rs9 52 [(0, .ref q), (1, .ref tx), (2, .int (nI n)), (3, .ref hp.1), (4, .int (nI 0)), (5, .int (nI i))] [] h' Q := by
    intro k
    induction k using Nat.strongRecOn with
    | _ k ih =>
    intro rc9 rs9 i f9 p9 h' hE9 hQb hk hi9
    obtain ⟨hX9, ki9, aa9, zz9, va9, m9, cf9, ol9, g9, -⟩ := id hE9
    refine az_iload dX5_readTown_52 ?_
    refine az_aload_n dX5_readTown_54 ?_
    refine az_getf (v := .int (nI n)) dX5_readTown_55 fl_X5_35 g9 ?_
    refine az_icmp_gtN (tgt := 86) dX5_readTown_58 (fun c58 => ?_) (fun c58 => ?_)
    · refine az_iload dX5_readTown_86 ?_
      refine az_if_eqN (tgt := 95) dX5_readTown_88 (fun c88 => ?_) (fun c88 => ?_)
      · refine az_null dX5_readTown_95 ?_
        exact az_aretN dX5_readTown_96 (hQb) (hn := by first | exact Or.inl ⟨_, rfl⟩ | exact Or.inr ⟨_, rfl⟩)
      · exact absurd c88 (by omega)
    · refine az_iload dX5_readTown_61 ?_
      refine az_if_eqN (tgt := 86) dX5_readTown_63 (fun c63 => ?_) (fun c63 => ?_)
      · refine az_iload dX5_readTown_86 ?_
        refine az_if_eqN (tgt := 95) dX5_readTown_88 (fun c88 => ?_) (fun c88 => ?_)
        · refine az_null dX5_readTown_95 ?_
          exact az_aretN dX5_readTown_96 (hQb) (hn := by first | exact Or.inl ⟨_, rfl⟩ | exact Or.inr ⟨_, rfl⟩)
        · exact absurd c88 (by omega)
      · exact absurd c63 (by omega)
  have loop : ∀ (k : Nat) (rc9 rs9 i e9 : Nat) (v9 : rd_V) (h' : az_Hp) (hSv9 : rd_Sv h' q tx n b e9) (hT9 : rd_To h' hp.1 (rd_w v9) q tx) (hr9 : rd_h hp h' q hp.1) (hR : rd_ll b n (n + 1 - i) e9 v9 = rd_town b n), n + 1 - i = k → (i ≤ n + 1) → (1 ≤ e9) → (1 ≤ v9.1 ∧ v9.1 ≤ 3) → (n + 1 - i ≤ rc9) → (n - e9 ≤ rs9) → az_W mX5_readTown d rc9 rs9 52 [(0, .ref q), (1, .ref tx), (2, .int (nI n)), (3, .ref hp.1), (4, .int (nI 1)), (5, .int (nI i))] [] h' Q := by
    intro k
    induction k using Nat.strongRecOn with
    | _ k ih =>
    intro rc9 rs9 i e9 v9 h' hSv9 hT9 hr9 hR hk hi9 hge htb hrc hrs
    obtain ⟨k9, va9, hW9⟩ := id hSv9
    obtain ⟨hX9, he9, hc9, cf9, ol9, g9, -⟩ := id hW9
    obtain ⟨LS, hLS⟩ : ∃ LS, LS = (match rd_line b n e9 v9 with | .inl x => x.1 - e9 | .inr _ => n - e9) := ⟨_, rfl⟩
    have hLS1 : ∀ x, rd_line b n e9 v9 = .inl x → LS = x.1 - e9 := (fun x hx => (by rw [hLS, hx]))
    have hLS0 : ∀ x, rd_line b n e9 v9 = .inr x → LS = n - e9 := (fun x hx => (by rw [hLS, hx]))
    have hL1 : ∀ x, rd_line b n e9 v9 = .inl x → x.1 - e9 ≤ LS := (fun x hx => Nat.le_of_eq (hLS1 x hx).symm)
    have hL0 : ∀ x, rd_line b n e9 v9 = .inr x → n - e9 ≤ LS := (fun x hx => Nat.le_of_eq (hLS0 x hx).symm)
    have hLle : LS ≤ rs9 := (by cases hl9 : rd_line b n e9 v9 with | inl x => (rw [hLS1 x hl9]; have := (rd_line_le he9 hl9); omega) | inr x => (rw [hLS0 x hl9]; exact hrs))
    refine az_iload dX5_readTown_52 ?_
    refine az_aload_n dX5_readTown_54 ?_
    refine az_getf (v := .int (nI n)) dX5_readTown_55 fl_X5_35 g9 ?_
    refine az_icmp_gtN (tgt := 86) dX5_readTown_58 (fun c58 => ?_) (fun c58 => ?_)
    · refine az_iload dX5_readTown_86 ?_
      refine az_if_eqN (tgt := 95) dX5_readTown_88 (fun c88 => ?_) (fun c88 => ?_)
      · exact absurd c88 (by omega)
      · refine az_aload_n dX5_readTown_91 ?_
        refine az_goto (tgt := 96) dX5_readTown_92 ?_
        exact az_aret dX5_readTown_96 (hQ1 e9 v9 (by rw [← hR]; first | (rw [show n + 1 - i = 0 by omega, rd_ll]) | (rw [show n + 1 - i = (n - i) + 1 by omega, rd_ll, if_pos c70])) h' hSv9 hT9 hr9) (hn := by first | exact Or.inl ⟨_, rfl⟩ | exact Or.inr ⟨_, rfl⟩)
    · refine az_iload dX5_readTown_61 ?_
      refine az_if_eqN (tgt := 86) dX5_readTown_63 (fun c63 => ?_) (fun c63 => ?_)
      · exact absurd c63 (by omega)
      · refine az_aload_n dX5_readTown_66 ?_
        refine az_getf (v := .int (nI (rd_kd b n e9))) dX5_readTown_67 fl_X5_51 g9 ?_
        have hk4 := rd_kd_le b n e9
        refine az_if_eqN (tgt := 86) dX5_readTown_70 (fun c70 => ?_) (fun c70 => ?_)
        · refine az_iload dX5_readTown_86 ?_
          refine az_if_eqN (tgt := 95) dX5_readTown_88 (fun c88 => ?_) (fun c88 => ?_)
          · exact absurd c88 (by omega)
          · refine az_aload_n dX5_readTown_91 ?_
            refine az_goto (tgt := 96) dX5_readTown_92 ?_
            exact az_aret dX5_readTown_96 (hQ1 e9 v9 (by rw [← hR]; first | (rw [show n + 1 - i = 0 by omega, rd_ll]) | (rw [show n + 1 - i = (n - i) + 1 by omega, rd_ll, if_pos c70])) h' hSv9 hT9 hr9) (hn := by first | exact Or.inl ⟨_, rfl⟩ | exact Or.inr ⟨_, rfl⟩)
        · refine az_aload_n dX5_readTown_73 ?_
          refine az_aload_n dX5_readTown_74 ?_
          refine az_cV (st := []) dX5_readTown_75 ml_X5_54 g9 (s_readLine (d := d - 1) (rs := LS) (by omega) hge hW9 hT9 htb hL1 hL0 (rd_TQ.i ?_ ?_))
          · intro e2 v2 hq2 h2' hSv2 hT2 hr2
            have hle := rd_line_le he9 hq2
            have hls := hLS1 _ hq2
            dsimp only at hls hle
            refine az_istore (ls' := [(0, .ref q), (1, .ref tx), (2, .int (nI n)), (3, .ref hp.1), (4, .int (nI 1)), (5, .int (nI i))]) dX5_readTown_78 ?_
            refine az_iincN (n := 1) (ls' := [(0, .ref q), (1, .ref tx), (2, .int (nI n)), (3, .ref hp.1), (4, .int (nI 1)), (5, .int (nI (i + 1)))]) dX5_readTown_80 ?_
            refine az_goto (tgt := 52) dX5_readTown_83 ?_
            first | exact bad _ _ _ (i + 1) f2 p2 h2' hEv2.1 (hQ0 f2 p2 (by rw [← hR, show n + 1 - i = (n - i) + 1 by omega, rd_ll, if_neg c70, hq2]) h2' hEv2.1 (hr9.tr hr2)) rfl (by omega) | exact ih _ (by omega) _ _ (i + 1) e2 v2 h2' hSv2 hT2 (hr9.tr hr2) (by rw [← hR, show n + 1 - i = (n - i) + 1 by omega, rd_ll, if_neg c70, hq2]; show _ = rd_ll b n (n - i) e2 v2; rw [show n + 1 - (i + 1) = n - i by omega]) rfl (by omega) (by omega) (by rw [hle.2.2]; exact htb) (by omega) (by omega)
          · intro f2 p2 hq2 h2' hEv2 hr2
            refine az_istore (ls' := [(0, .ref q), (1, .ref tx), (2, .int (nI n)), (3, .ref hp.1), (4, .int (nI 0)), (5, .int (nI i))]) dX5_readTown_78 ?_
            refine az_iincN (n := 1) (ls' := [(0, .ref q), (1, .ref tx), (2, .int (nI n)), (3, .ref hp.1), (4, .int (nI 0)), (5, .int (nI (i + 1)))]) dX5_readTown_80 ?_
            refine az_goto (tgt := 52) dX5_readTown_83 ?_
            first | exact bad _ _ _ (i + 1) f2 p2 h2' hEv2.1 (hQ0 f2 p2 (by rw [← hR, show n + 1 - i = (n - i) + 1 by omega, rd_ll, if_neg c70, hq2]) h2' hEv2.1 (hr9.tr hr2)) rfl (by omega) | exact ih _ (by omega) _ _ (i + 1) e2 v2 h2' hSv2 hT2 (hr9.tr hr2) (by rw [← hR, show n + 1 - i = (n - i) + 1 by omega, rd_ll, if_neg c70, hq2]; show _ = rd_ll b n (n - i) e2 v2; rw [show n + 1 - (i + 1) = n - i by omega]) rfl (by omega) (by omega) (by rw [hle.2.2]; exact htb) (by omega) (by omega)
  refine az_M.of rfl (Nat.le_of_ble_eq_true rfl) ?_
  show az_W _ _ _ _ 0 [(0, .ref q), (1, .ref tx), (2, .int (nI n))] [] _ _
  refine az_aload_n dX5_readTown_0 ?_
  refine az_aload_n dX5_readTown_1 ?_
  refine az_putf (fs' := [fa, fp, .ref tx, sz0, ki, aa, zz, .int va, .ref (q + 2), .ref (q + 3), .int (nI k5)]) dX5_readTown_2 fl_X5_18 h0 ?_
  refine az_aload_n dX5_readTown_5 ?_
  refine az_iload_n dX5_readTown_6 ?_
  refine az_aload_n dX5_readTown_7 ?_
  refine az_alen dX5_readTown_8 (az_up_ne ht) ?_
  refine az_mminN dX5_readTown_9 ml_X5_29 ?_
  rw [show min n 900 = n by omega]
  refine az_putf (fs' := [fa, fp, .ref tx, .int (nI n), ki, aa, zz, .int va, .ref (q + 2), .ref (q + 3), .int (nI k5)]) dX5_readTown_12 fl_X5_35 az_up_eq ?_
  rw [az_up_up]
  refine az_aload_n dX5_readTown_15 ?_
  refine az_iconst (v := nI 0) dX5_readTown_16 ?_
  refine az_putf (fs' := [.int (nI 0), fp, .ref tx, .int (nI n), ki, aa, zz, .int va, .ref (q + 2), .ref (q + 3), .int (nI k5)]) dX5_readTown_17 fl_X5_9 az_up_eq ?_
  rw [az_up_up]
  refine az_aload_n dX5_readTown_20 ?_
  refine az_iconst (v := (-1)) dX5_readTown_21 ?_
  refine az_putf (fs' := [.int (nI 0), .int ((-1)), .ref tx, .int (nI n), ki, aa, zz, .int va, .ref (q + 2), .ref (q + 3), .int (nI k5)]) dX5_readTown_22 fl_X5_15 az_up_eq ?_
  rw [az_up_up]
  refine az_aload_n dX5_readTown_25 ?_
  refine az_iconst (v := nI 0) dX5_readTown_26 ?_
  refine az_putf (fs' := [.int (nI 0), .int ((-1)), .ref tx, .int (nI n), ki, aa, .int (nI 0), .int va, .ref (q + 2), .ref (q + 3), .int (nI k5)]) dX5_readTown_27 fl_X5_38 az_up_eq ?_
  rw [az_up_up]
  refine az_aload_n dX5_readTown_30 ?_
  refine az_cV0 (st := []) dX5_readTown_31 ml_X5_41 az_up_eq (s_advance (d := d - 1) (by omega) hb hn (az_up_ne ht) (by omega) htf az_up_eq (Nat.zero_le _) ?_)
  intro va1 hv1
  rw [az_up_up]
  refine az_newK (k := 9) dX5_readTown_34 nw_X5_44 ?_
  show az_W _ _ _ _ 37 [(0, .ref q), (1, .ref tx), (2, .int (nI n))] [.ref hp.1] _ _
  refine az_dup dX5_readTown_37 ?_
  refine az_cI (st := [.ref hp.1]) dX5_readTown_38 ml_X5_46 rfl (s_initTown (d := d - 1) (t := hp.1) (by omega) az_nw_eqN ?_)
  intro h2' u1 u2 u3 u4 u5 u6 u7 u8
  have hk2 : ∀ z, z < hp.1 → h2'.2 z = (az_up hp q (az_O 4 [.int (nI 0), .int (-1), .ref tx, .int (nI n), .int (nI (rd_kd b n 0)), .int (nI (rd_fr b n 0)), .int (nI (rd_en b n 0)), .int va1, .ref (q + 2), .ref (q + 3), .int (nI k5)])).2 z := (fun z hz => (u2 z hz).trans (az_nw_neN (N := hp.1) rfl))
  have hWz : rd_Sg (az_up hp q (az_O 4 [.int (nI 0), .int (-1), .ref tx, .int (nI n), .int (nI (rd_kd b n 0)), .int (nI (rd_fr b n 0)), .int (nI (rd_en b n 0)), .int va1, .ref (q + 2), .ref (q + 3), .int (nI k5)])) q tx n b 0 k5 va1 := ⟨⟨hb, hn, ht9, tf, az_up_ne ht, htf⟩, Nat.zero_le _, hk5, cf, ol, az_up_eq, az_up_ne h3, True.intro, az_up_ne h2⟩
  have hSn : rd_Sn h2' q tx n b 0 k5 := ⟨va1, hWz.eqv hk2 hl.1 hl.2, hk5, hv1⟩
  have hT2 : rd_To h2' hp.1 (rd_w rd_v0) q tx := ⟨hp.1 + 4, hp.1 + 5, u3, u4, u5, u6, u7, u8, hl.1, hl.2, by omega, by omega, by omega, by omega⟩
  have hr2 : rd_h hp h2' q hp.1 := ⟨by omega, fun z a _ _ _ => (hk2 z a).trans (az_up_ne rfl)⟩
  refine az_astore_n (ls' := [(0, .ref q), (1, .ref tx), (2, .int (nI n)), (3, .ref hp.1)]) dX5_readTown_41 ?_
  refine az_aload_n dX5_readTown_42 ?_
  refine az_aload_n dX5_readTown_43 ?_
  refine az_cV0 (st := []) dX5_readTown_44 ml_X5_47 ((hk2 q (by omega)).trans az_up_eq) (s_readHead (d := d - 1) (by omega) hSn hT2 (rd_TQ.i ?_ ?_))
  · intro e1 v1 hq1 h3' hSv1 hT1 hr1
    have hhl := rd_head_le (Nat.zero_le _) hq1
    dsimp only at hhl
    refine az_istore (ls' := [(0, .ref q), (1, .ref tx), (2, .int (nI n)), (3, .ref hp.1), (4, .int (nI 1))]) dX5_readTown_47 ?_
    refine az_iconst (v := nI 0) dX5_readTown_49 ?_
    refine az_istore (ls' := [(0, .ref q), (1, .ref tx), (2, .int (nI n)), (3, .ref hp.1), (4, .int (nI 1)), (5, .int (nI 0))]) dX5_readTown_50 ?_
    first | exact bad _ _ _ 0 f1 p1 h3' hEv1.1 (hQ0 f1 p1 (by rw [rd_town, hq1]) h3' hEv1.1 (hr2.tr hr1)) rfl (by omega) | exact loop _ _ _ 0 e1 v1 h3' hSv1 hT1 (hr2.tr hr1) (by rw [rd_town, hq1]; rfl) rfl (by omega) (by omega) hhl.2.2 (by omega) (by omega)
  · intro f1 p1 hq1 h3' hEv1 hr1
    refine az_istore (ls' := [(0, .ref q), (1, .ref tx), (2, .int (nI n)), (3, .ref hp.1), (4, .int (nI 0))]) dX5_readTown_47 ?_
    refine az_iconst (v := nI 0) dX5_readTown_49 ?_
    refine az_istore (ls' := [(0, .ref q), (1, .ref tx), (2, .int (nI n)), (3, .ref hp.1), (4, .int (nI 0)), (5, .int (nI 0))]) dX5_readTown_50 ?_
    first | exact bad _ _ _ 0 f1 p1 h3' hEv1.1 (hQ0 f1 p1 (by rw [rd_town, hq1]) h3' hEv1.1 (hr2.tr hr1)) rfl (by omega) | exact loop _ _ _ 0 e1 v1 h3' hSv1 hT1 (hr2.tr hr1) (by rw [rd_town, hq1]; rfl) rfl (by omega) (by omega) hhl.2.2 (by omega) (by omega)
