/-! The model: comes, the walk -/
set_option maxHeartbeats 4000000 in
set_option maxRecDepth 100000 in
theorem m_comesW {d lt s0 : Nat} {sc : Nat → Value} {A : Nat → Nat} {v : rd_V} {F0 : Nat → Nat} {hp : az_Hp} {Q : Option Value → az_Hp → Prop} (hd : 2 ≤ d) (hw : ln_ok (rd_w v)) (h64 : hp.2 64 = some (mo_o sc)) (h65 : hp.2 65 = some (az_I 3318 (fun j => nI (A j)))) (hV : mV A v) (hl6 : lt < 6) (hs0 : s0 < 64) (h82 : hp.2 82 = some (az_I 64 (fun j => nI (F0 j)))) (hI0 : cI (rd_w v) s0 lt F0 0 0) (hQ : ∀ F : Nat → Nat, Q (some (.int (ln_opt (cm (rd_w v) lt 6 0 s0)))) (az_up hp 82 (az_I 64 (fun j => nI (F j))))) : az_W mX12_comes d 0 0 53 [(0, .ref 64), (1, .int (nI lt))] [] hp Q := by
  have ht3 := hw.2.1
  have hA1 : A 1 = ln_tb (rd_w v) := hV.2.1
  have inner : ∀ (k : Nat) (n st tb : Nat) (F : Nat → Nat) (h' : az_Hp) (hn : n < 64) (hst : st < 64) (hK : ∀ (F : Nat → Nat) (h' : az_Hp), cI (rd_w v) s0 lt F n (st + 1) → h' = az_up hp 82 (az_I 64 (fun j => nI (F j))) → az_W mX12_comes d 0 0 146 [(0, .ref 64), (1, .int (nI lt)), (2, .int (nI n)), (3, .int (nI st)), (4, .int (nI (ln_tb (rd_w v))))] [] h' Q), ln_tb (rd_w v) - tb = k → (tb ≤ ln_tb (rd_w v)) → (cJ (rd_w v) s0 lt F n st tb) → (h' = az_up hp 82 (az_I 64 (fun j => nI (F j)))) → az_W mX12_comes d 0 0 96 [(0, .ref 64), (1, .int (nI lt)), (2, .int (nI n)), (3, .int (nI st)), (4, .int (nI tb))] [] h' Q := by
    intro k
    induction k using Nat.strongRecOn with
    | _ k ih =>
    intro n st tb F h' hn hst hK hk ht9 H he
    have b64 : h'.2 64 = some (mo_o sc) := (by rw [he]; exact az_up_ne h64)
    have b65 : h'.2 65 = some (az_I 3318 (fun j => nI (A j))) := (by rw [he]; exact az_up_ne h65)
    have b82 : h'.2 82 = some (az_I 64 (fun j => nI (F j))) := (by rw [he]; exact az_up_eq)
    refine az_iload dX12_comes_96 ?_
    refine az_aload_n dX12_comes_98 ?_
    refine az_getf (v := .ref 65) dX12_comes_99 fl_X12_13 b64 ?_
    refine az_iconst (v := nI 1) dX12_comes_102 ?_
    refine az_ialdN (j := 1) dX12_comes_103 b65 ?_
    rw [hA1]
    refine az_icmp_geN (tgt := 146) dX12_comes_104 (fun c104 => ?_) (fun c104 => ?_)
    · obtain rfl : tb = ln_tb (rd_w v) := (by omega)
      exact hK F h' (cJ_end H) he
    · refine az_aload_n dX12_comes_107 ?_
      refine az_getf (v := .ref 82) dX12_comes_108 fl_X12_70 b64 ?_
      refine az_aload_n dX12_comes_111 ?_
      refine az_iload_n dX12_comes_112 ?_
      refine az_iload dX12_comes_113 ?_
      refine az_cV0 (st := [.ref 82]) dX12_comes_115 ml_X12_431 b64 (m_kindsTo (d := d - 1) (tb := tb) (s := st) (by omega) hw b64 b65 hV (by omega) hst ?_)
      have hcl := ln_ca_lt hw tb st 6
      have hF9 := H.1.2.2.2 (ln_ca (rd_w v) tb st 6) hcl
      refine az_ialdN (j := ln_ca (rd_w v) tb st 6) dX12_comes_118 b82 ?_
      refine az_ldcw (v := nI 268435456) dX12_comes_119 cn_X12_427 ?_
      refine az_icmp_neN (tgt := 140) dX12_comes_122 (fun c122 => ?_) (fun c122 => ?_)
      · refine az_iincN (n := 1) (ls' := [(0, .ref 64), (1, .int (nI lt)), (2, .int (nI n)), (3, .int (nI st)), (4, .int (nI (tb + 1)))]) dX12_comes_140 ?_
        refine az_goto (tgt := 96) dX12_comes_143 ?_
        first | exact ih _ (by omega) n st (tb + 1) (az_s F (ln_ca (rd_w v) tb st 6) (n + 1)) _ hn hst hK rfl (by omega) (cJ_new hw hn hst (by omega) H c122) (by rw [he, az_up_up]) | exact ih _ (by omega) n st (tb + 1) F h' hn hst hK rfl (by omega) (cJ_old hw H c122) he
      · refine az_aload_n dX12_comes_125 ?_
        refine az_getf (v := .ref 82) dX12_comes_126 fl_X12_70 b64 ?_
        refine az_aload_n dX12_comes_129 ?_
        refine az_iload_n dX12_comes_130 ?_
        refine az_iload dX12_comes_131 ?_
        refine az_cV0 (st := [.ref 82]) dX12_comes_133 ml_X12_431 b64 (m_kindsTo (d := d - 1) (tb := tb) (s := st) (by omega) hw b64 b65 hV (by omega) hst ?_)
        refine az_iload_n dX12_comes_136 ?_
        refine az_iconst (v := nI 1) dX12_comes_137 ?_
        refine az_iaddN dX12_comes_138 ?_
        refine az_iastN (j := ln_ca (rd_w v) tb st 6) dX12_comes_139 b82 ?_
        rw [az_s_nI]
        refine az_iincN (n := 1) (ls' := [(0, .ref 64), (1, .int (nI lt)), (2, .int (nI n)), (3, .int (nI st)), (4, .int (nI (tb + 1)))]) dX12_comes_140 ?_
        refine az_goto (tgt := 96) dX12_comes_143 ?_
        first | exact ih _ (by omega) n st (tb + 1) (az_s F (ln_ca (rd_w v) tb st 6) (n + 1)) _ hn hst hK rfl (by omega) (cJ_new hw hn hst (by omega) H c122) (by rw [he, az_up_up]) | exact ih _ (by omega) n st (tb + 1) F h' hn hst hK rfl (by omega) (cJ_old hw H c122) he
  have outer : ∀ (k : Nat) (n st : Nat) (F : Nat → Nat) (h' : az_Hp), (64 - n) * 100 + (64 - st) = k → (n < 64) → (st ≤ 64) → (cI (rd_w v) s0 lt F n st) → (h' = az_up hp 82 (az_I 64 (fun j => nI (F j)))) → az_W mX12_comes d 0 0 63 [(0, .ref 64), (1, .int (nI lt)), (2, .int (nI n)), (3, .int (nI st))] [] h' Q := by
    intro k
    induction k using Nat.strongRecOn with
    | _ k ih =>
    intro n st F h' hk hn hst9 H he
    have b64 : h'.2 64 = some (mo_o sc) := (by rw [he]; exact az_up_ne h64)
    have b65 : h'.2 65 = some (az_I 3318 (fun j => nI (A j))) := (by rw [he]; exact az_up_ne h65)
    have b82 : h'.2 82 = some (az_I 64 (fun j => nI (F j))) := (by rw [he]; exact az_up_eq)
    refine az_iload_n dX12_comes_63 ?_
    refine az_bipush (v := nI 64) dX12_comes_64 ?_
    refine az_icmp_geN (tgt := 152) dX12_comes_66 (fun c66 => ?_) (fun c66 => ?_)
    · refine az_iincN (n := 1) (ls' := [(0, .ref 64), (1, .int (nI lt)), (2, .int (nI (n + 1))), (3, .int (nI st))]) dX12_comes_152 ?_
      refine az_goto (tgt := 55) dX12_comes_155 ?_
      refine az_iload_n dX12_comes_55 ?_
      refine az_bipush (v := nI 64) dX12_comes_56 ?_
      refine az_icmp_geN (tgt := 158) dX12_comes_58 (fun c58 => ?_) (fun c58 => ?_)
      · refine az_iconst (v := (-1)) dX12_comes_158 ?_
        exact az_iret dX12_comes_159 (by have hm := cI_miss (w := rd_w v) (s0 := s0) (lt := lt) (F := F) (by have q := cI_next hw hn (by rw [show st = 64 by omega] at H; exact H); rw [show n + 1 = 64 by omega] at q; exact q); rw [he]; have hq := hQ F; rw [hm] at hq; exact hq)
      · refine az_iconst (v := nI 0) dX12_comes_61 ?_
        refine az_istore_n (ls' := [(0, .ref 64), (1, .int (nI lt)), (2, .int (nI (n + 1))), (3, .int (nI 0))]) dX12_comes_62 ?_
        first | (have _g := hJ; exact ih _ (by omega) n (st + 1) F h' rfl hn (by omega) hJ he) | (have _g := c76; exact ih _ (by omega) n (st + 1) F h' rfl hn (by omega) (cI_skip H c76) he) | exact ih _ (by omega) (n + 1) 0 F h' rfl (by omega) (by omega) (cI_next hw hn (by rw [show st = 64 by omega] at H; exact H)) he
    · have hst : st < 64 := (by omega)
      have hFs := H.2.2.2 st hst
      refine az_aload_n dX12_comes_69 ?_
      refine az_getf (v := .ref 82) dX12_comes_70 fl_X12_70 b64 ?_
      refine az_iload_n dX12_comes_73 ?_
      refine az_ialdN (j := st) dX12_comes_74 b82 ?_
      refine az_iload_n dX12_comes_75 ?_
      refine az_icmp_eqN (tgt := 82) dX12_comes_76 (fun c76 => ?_) (fun c76 => ?_)
      · refine az_iload_n dX12_comes_82 ?_
        refine az_i2lN dX12_comes_83 ?_
        refine az_iload_n dX12_comes_84 ?_
        refine az_cS0 (st := []) dX12_comes_85 ml_X12_401 (m_isIn (d := d - 1) (s := st) (k9 := lt) hst hl6 ?_ ?_)
        · intro hyes
          refine az_if_eqN (tgt := 93) dX12_comes_88 (fun c88 => ?_) (fun c88 => ?_)
          · exact absurd c88 (by omega)
          · refine az_iload_n dX12_comes_91 ?_
            exact az_iret dX12_comes_92 (by rw [he]; have hq := hQ F; rw [cI_hit hw hs0 hl6 hst H c76 (by cases hb : st.testBit lt with | true => rfl | false => exact absurd ((tb_0 _ _).mpr hb) hyes)] at hq; exact hq)
        · intro hno
          refine az_if_eqN (tgt := 93) dX12_comes_88 (fun c88 => ?_) (fun c88 => ?_)
          · refine az_iconst (v := nI 0) dX12_comes_93 ?_
            refine az_istore (ls' := [(0, .ref 64), (1, .int (nI lt)), (2, .int (nI n)), (3, .int (nI st)), (4, .int (nI 0))]) dX12_comes_94 ?_
            refine inner _ n st 0 F h' hn hst ?_ rfl (Nat.zero_le _) ⟨H, c76, (tb_0 _ _).mp hno, fun t ht => absurd ht (by omega)⟩ he
            intro F h' hJ he
            refine az_iincN (n := 1) (ls' := [(0, .ref 64), (1, .int (nI lt)), (2, .int (nI n)), (3, .int (nI (st + 1))), (4, .int (nI (ln_tb (rd_w v))))]) dX12_comes_146 ?_
            refine az_goto (tgt := 63) dX12_comes_149 ?_
            refine az_W.keep (ls' := [(0, .ref 64), (1, .int (nI lt)), (2, .int (nI n)), (3, .int (nI (st + 1)))]) [0, 1, 2, 3] rfl ?_
            first | (have _g := hJ; exact ih _ (by omega) n (st + 1) F h' rfl hn (by omega) hJ he) | (have _g := c76; exact ih _ (by omega) n (st + 1) F h' rfl hn (by omega) (cI_skip H c76) he) | exact ih _ (by omega) (n + 1) 0 F h' rfl (by omega) (by omega) (cI_next hw hn (by rw [show st = 64 by omega] at H; exact H)) he
          · exact absurd c88 (by omega)
      · refine az_goto (tgt := 146) dX12_comes_79 ?_
        refine az_iincN (n := 1) (ls' := [(0, .ref 64), (1, .int (nI lt)), (2, .int (nI n)), (3, .int (nI (st + 1)))]) dX12_comes_146 ?_
        refine az_goto (tgt := 63) dX12_comes_149 ?_
        first | (have _g := hJ; exact ih _ (by omega) n (st + 1) F h' rfl hn (by omega) hJ he) | (have _g := c76; exact ih _ (by omega) n (st + 1) F h' rfl hn (by omega) (cI_skip H c76) he) | exact ih _ (by omega) (n + 1) 0 F h' rfl (by omega) (by omega) (cI_next hw hn (by rw [show st = 64 by omega] at H; exact H)) he
  refine az_iconst (v := nI 0) dX12_comes_53 ?_
  refine az_istore_n (ls' := [(0, .ref 64), (1, .int (nI lt)), (2, .int (nI 0))]) dX12_comes_54 ?_
  refine az_iload_n dX12_comes_55 ?_
  refine az_bipush (v := nI 64) dX12_comes_56 ?_
  refine az_icmp_geN (tgt := 158) dX12_comes_58 (fun c58 => ?_) (fun c58 => ?_)
  · exact absurd c58 (by omega)
  · refine az_iconst (v := nI 0) dX12_comes_61 ?_
    refine az_istore_n (ls' := [(0, .ref 64), (1, .int (nI lt)), (2, .int (nI 0)), (3, .int (nI 0))]) dX12_comes_62 ?_
    exact outer _ 0 0 F0 hp rfl (by decide) (by decide) hI0 (az_up_same h82).symm
set_option maxHeartbeats 4000000 in
set_option maxRecDepth 100000 in
theorem m_farW {d lt : Nat} {sc : Nat → Value} {f0 : Nat → Int32} {hp : az_Hp} {Q : Option Value → az_Hp → Prop} (h64 : hp.2 64 = some (mo_o sc)) (h82 : hp.2 82 = some (az_I 64 f0)) (hK : ∀ F : Nat → Nat, (∀ s, s < 64 → F s = 268435456) → az_W mX12_comes d 0 0 43 [(0, .ref 64), (1, .int (nI lt)), (2, .int (nI 64))] [] (az_up hp 82 (az_I 64 (fun j => nI (F j)))) Q) : az_W mX12_comes d 0 0 20 [(0, .ref 64), (1, .int (nI lt))] [] hp Q := by
  obtain ⟨g0, rfl⟩ := nI_ex f0
  have loop : ∀ (k : Nat) (i : Nat) (F : Nat → Nat) (h' : az_Hp), 64 - i = k → (i ≤ 64) → (∀ s, s < i → F s = 268435456) → (h' = az_up hp 82 (az_I 64 (fun j => nI (F j)))) → az_W mX12_comes d 0 0 22 [(0, .ref 64), (1, .int (nI lt)), (2, .int (nI i))] [] h' Q := by
    intro k
    induction k using Nat.strongRecOn with
    | _ k ih =>
    intro i F h' hk hi hF he
    refine az_iload_n dX12_comes_22 ?_
    refine az_bipush (v := nI 64) dX12_comes_23 ?_
    refine az_icmp_geN (tgt := 43) dX12_comes_25 (fun c25 => ?_) (fun c25 => ?_)
    · obtain rfl : i = 64 := (by omega)
      rw [he]
      exact hK F (fun s hs => hF s hs)
    · refine az_aload_n dX12_comes_28 ?_
      refine az_getf (v := .ref 82) dX12_comes_29 fl_X12_70 (by rw [he]; exact az_up_ne h64) ?_
      refine az_iload_n dX12_comes_32 ?_
      refine az_ldcw (v := nI 268435456) dX12_comes_33 cn_X12_427 ?_
      refine az_iastN (j := i) dX12_comes_36 (by rw [he]; exact az_up_eq) ?_
      rw [az_s_nI]
      refine az_iincN (n := 1) (ls' := [(0, .ref 64), (1, .int (nI lt)), (2, .int (nI (i + 1)))]) dX12_comes_37 ?_
      refine az_goto (tgt := 22) dX12_comes_40 ?_
      exact ih _ (by omega) (i + 1) (az_s F i 268435456) _ rfl (by omega) (fun s hs => if e : s = i then (by rw [e, az_s_eq]) else (by rw [az_s_ne e]; exact hF s (by omega))) (by rw [he, az_up_up])
  refine az_iconst (v := nI 0) dX12_comes_20 ?_
  refine az_istore_n (ls' := [(0, .ref 64), (1, .int (nI lt)), (2, .int (nI 0))]) dX12_comes_21 ?_
  exact loop _ 0 g0 _ rfl (Nat.zero_le _) (fun s hs => absurd hs (by omega)) (az_up_same h82).symm
set_option maxHeartbeats 4000000 in
set_option maxRecDepth 100000 in
theorem q_comes {d : Nat} {xl : Int32} {tp fk mo ni : Nat} {bt : Nat → Nat} {fp : Int32} {v : rd_V} {bs : List Nat} {U : ln_U} {im : Nat → Option (rd_V × ln_Z)} {tr : Nat → Option (Nat × List Int64)} {hp : az_Hp} {Q : Option Value → az_Hp → Prop} (hd : 5 ≤ d) (hok : cs_ok ((tp, bt), (fk, fp), v, (mo, ni, bs), U, im, tr)) (hM : mm hp ((tp, bt), (fk, fp), v, (mo, ni, bs), U, im, tr)) (hQ2 : ¬ cs_in xl 6 → ∀ h', mm h' ((tp, bt), (fk, fp), v, (mo, ni, bs), U, im, tr) → az_fr hp h' 64 93 → Q (some (.int (-2))) h') (hQ : ∀ lt, xl = nI lt → lt < 6 → ∀ h', mm h' ((tp, bt), (fk, fp), v, (mo, ni, bs), U, im, tr) → az_fr hp h' 64 93 → Q (some (.int (ln_opt (cm (rd_w v) lt 6 0 (ln_sb (ln_str (rd_w v) bs) 6))))) h') : az_M mX12_comes d 0 0 [.ref 64, .int xl] hp Q := by
  obtain ⟨sc0, A0, tf0, hI0, rs0, rm0, nu0, o1, o2, -⟩ := id hM
  have hgd : rd_good v := hok.2.2.1
  have hw : ln_ok (rd_w v) := hgd.1
  have hba : ln_ba (rd_w v) bs := hok.2.2.2.1
  have hb : ln_by (rd_w v) bs := hba.b
  have hlen := hb.2.2
  have h60 := hb.1
  have hU10 : U.length ≤ 10 := hok.2.2.2.2.1
  have ht1 := hw.1
  have ht3 := hw.2.1
  refine az_M.of rfl (Nat.le_of_ble_eq_true rfl) ?_
  show az_W _ _ _ _ 0 [(0, .ref 64), (1, .int xl)] [] _ _
  refine az_aload_n dX12_comes_0 ?_
  refine az_iconst (v := nI 0) dX12_comes_1 ?_
  refine az_putf (fs' := [.int (nI 0), .ref 65, .ref 66, .ref 67, .ref 68, sc0 5, fI (sc0 6), sc0 7, sc0 8, fI (sc0 9), fI (sc0 10), sc0 11, fI (sc0 12), sc0 13, sc0 14, .ref 69, .ref 70, .ref 71, sc0 18, .ref 72, .ref 73, .ref 74, sc0 22, sc0 23, .ref 75, sc0 25, .ref 76, .ref 77, .ref 78, sc0 29, .ref 79, .ref 80, .ref 81, .ref 82, .ref 83, .ref 84, .ref 85, sc0 37, .ref 86, .ref 87, .ref 88, .ref 89, .ref 90, .ref 91, .ref 92]) dX12_comes_2 fl_X12_1 o1 ?_
  obtain ⟨h1, hf1, hM1, hh1⟩ : ∃ h1, az_fr hp h1 64 93 ∧ mm h1 ((tp, bt), (fk, fp), v, (mo, ni, bs), U, im, tr) ∧ h1 = az_up hp 64 (mo_o (su sc0 0 (.int (nI 0)))) := ⟨_, az_fr.rf.up, hM.O (sc := su sc0 0 (.int (nI 0))) o2.1 o2.2.1 o2.2.2, rfl⟩
  rw [show (az_up hp 64 (az_O 11 [.int (nI 0), .ref 65, .ref 66, .ref 67, .ref 68, sc0 5, fI (sc0 6), sc0 7, sc0 8, fI (sc0 9), fI (sc0 10), sc0 11, fI (sc0 12), sc0 13, sc0 14, .ref 69, .ref 70, .ref 71, sc0 18, .ref 72, .ref 73, .ref 74, sc0 22, sc0 23, .ref 75, sc0 25, .ref 76, .ref 77, .ref 78, sc0 29, .ref 79, .ref 80, .ref 81, .ref 82, .ref 83, .ref 84, .ref 85, sc0 37, .ref 86, .ref 87, .ref 88, .ref 89, .ref 90, .ref 91, .ref 92])) = h1 from hh1.symm]
  obtain ⟨sc, A, tf, hI, rs, rm, nu, a1, a2, a3, a4, a5, a6, a7, a8, a9, a10, a11, a12, a13, a14⟩ := id hM1
  have a4 : mT A v (mo, ni, bs) := a4
  have a5 : mU A U := a5
  have a7 : mI A hI im := a7
  have a9 : ∀ j, j < tp → tf j = bt j := a9
  have a13 : mR rs rm nu tr := a13
  refine az_iload_n dX12_comes_5 ?_
  refine az_i2l dX12_comes_6 ?_
  refine az_cS0 (st := []) dX12_comes_7 ml_X12_293 (m_isLetterI (d := d - 1) (by omega) ?_ ?_)
  · intro lt hxl hlt6
    refine az_if_neN (tgt := 16) dX12_comes_10 (fun c10 => ?_) (fun c10 => ?_)
    · subst hxl
      refine az_aload_n dX12_comes_16 ?_
      refine az_cV0 (st := []) dX12_comes_17 ml_X12_424 a1 (m_laysMany (d := d - 1) (by omega) hw hb a1 a3 a4 a14 ?_)
      intro h2 gm c81 hgm mk2 mf2
      obtain ⟨f82, c82⟩ := mk2.I (q := 82) (n := 64)
      have hs64 := ln_sb_lt (ln_str (rd_w v) bs) (Nat.le_refl 6)
      refine m_farW (mf2.at a1) c82 (fun F hF => ?_)
      refine az_aload_n dX12_comes_43 ?_
      refine az_getf (v := .ref 82) dX12_comes_44 fl_X12_70 (az_up_ne (mf2.at a1)) ?_
      refine az_aload_n dX12_comes_47 ?_
      refine az_cV0 (st := [.ref 82]) dX12_comes_48 ml_X12_428 (az_up_ne (mf2.at a1)) (m_kindsIn (d := d - 1) (l9 := (ln_str (rd_w v) bs)) (az_up_ne (mf2.at a1)) (az_up_ne c81) hgm (by omega) ?_)
      refine az_iconst (v := nI 0) dX12_comes_51 ?_
      refine az_iastN (j := (ln_sb (ln_str (rd_w v) bs) 6)) dX12_comes_52 az_up_eq ?_
      rw [az_s_nI]
      rw [az_up_up]
      refine az_W.keep (ls' := [(0, .ref 64), (1, .int (nI lt))]) [0, 1] rfl ?_
      refine m_comesW (F0 := az_s F (ln_sb (ln_str (rd_w v) bs) 6) 0) (s0 := (ln_sb (ln_str (rd_w v) bs) 6)) (by omega) hw (az_up_ne (mf2.at a1)) (az_up_ne (mf2.at a3)) a4.1 hlt6 hs64 az_up_eq (cI_0 hs64 az_s_eq (fun s hs hne => (az_s_ne hne).trans (hF s hs))) (fun F2 => ?_)
      rw [az_up_up]
      exact hQ lt rfl hlt6 _ (hM1.of (L := [71, 81, 82]) ((mf2.wk (L' := [71, 81, 82])).up (by decide)) (by decide) (mk.uI mk2 rfl) (az_up_ne (mf2.at a1)) a2.1 a2.2.1 a2.2.2) (hf1.tr (mf.fr (L := [71, 81, 82]) ((mf2.wk (L' := [71, 81, 82])).up (by decide))))
    · exact absurd c10 (by omega)
  · intro hxl
    refine az_if_neN (tgt := 16) dX12_comes_10 (fun c10 => ?_) (fun c10 => ?_)
    · exact absurd c10 (by omega)
    · refine az_bipush (v := (-2)) dX12_comes_13 ?_
      exact az_iret dX12_comes_15 (hQ2 (cs_in_no hxl) h1 hM1 hf1)

