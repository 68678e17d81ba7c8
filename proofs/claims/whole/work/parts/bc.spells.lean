/-! The model's reader: letters -/
theorem ky_af : ∀ i : Fin 19, ∃ j : Fin 8, j.val < kyN i.val ∧ 102 < az_ch kyT (kyP i.val + j.val) := by decide +kernel
theorem af_22 {b : Nat → Nat} {n e k : Nat} (hk : mrK b n e k) (h1 : rd_kd b n e = 1) (ha : rd_af b n e) : k = 22 := by
  rcases hk with ⟨p, q⟩ | ⟨p, ⟨q1, q2⟩ | ⟨q1, q2⟩⟩ | ⟨p, q⟩ | ⟨p, q⟩ | ⟨p, q⟩
  · omega
  · obtain ⟨j, j1, j2⟩ := ky_af ⟨k, q1⟩
    have h2 := q2.2 j.val j1
    have h3 := ha j.val (by have := q2.1; have j1 : j.val < kyN k := j1; omega)
    have j2 : 102 < az_ch kyT (kyP k + j.val) := j2
    omega
  · exact q1
  · omega
  · omega
  · omega
theorem k22_1 {b : Nat → Nat} {n e : Nat} (hk : mrK b n e 22) : rd_kd b n e = 1 := by
  rcases hk with ⟨p, q⟩ | ⟨p, q⟩ | ⟨p, q⟩ | ⟨p, i, i1, i2, i3⟩ | ⟨p, q⟩ <;> first | exact p | omega
theorem tl_no {b : Nat → Nat} {n m : Nat} {r : rd_R} (h : ∀ e c, r = .inl (e, c) → ¬ (rd_kd b n e = 1 ∧ rd_af b n e)) : rd_b r (rd_tl b n m) = rd_b r (fun e _ => rd_fail b n 2 e) := by
  match r, h with
  | .inr x, _ => rfl
  | .inl (e, c), h =>
    show rd_tl b n m e c = rd_fail b n 2 e
    unfold rd_tl
    by_cases h1 : rd_kd b n e = 1
    · rw [if_neg (fun q => q h1), if_pos (fun q => h e c rfl ⟨h1, q⟩)]
    · rw [if_pos h1]
set_option maxHeartbeats 4000000 in
set_option maxRecDepth 100000 in
theorem m_spellsE {d m : Nat} {v2 v3 : Int32} {sc : Nat → Value} {b : Nat → Nat} {n : Nat} {fr : Nat → Nat} {k0 : Nat} {x : Nat × Nat} {hp : az_Hp} {Q : Option Value → az_Hp → Prop} (hd : 1 ≤ d) (hm : m < 100) (H : mr_R hp sc b n fr k0 (.inr x)) (hQ : ∀ h', mr_R h' sc b n fr k0 (.inr x) → mf hp h' [64, 69] → Q (some (.int (nI 0))) h') : az_W mX12_spells d 0 0 56 [(0, .ref 64), (1, .int (nI m)), (2, .int v2), (3, .int v3)] [] hp Q := by
  obtain ⟨a0, z0, ki0, nu0, wa0, e0, w0, hki0, hnu0⟩ := H.o
  have hne := mr_w2 H
  refine az_aload_n dX12_spells_56 ?_
  refine az_getf (v := .int (nI z0)) dX12_spells_57 fl_X12_128 e0 ?_
  refine az_aload_n dX12_spells_60 ?_
  refine az_getf (v := .int (nI a0)) dX12_spells_61 fl_X12_125 e0 ?_
  refine az_isub dX12_spells_64 ?_
  refine az_istore_n (ls' := [(0, .ref 64), (1, .int (nI m)), (2, .int v2), (3, .int ((nI z0) - (nI a0)))]) dX12_spells_65 ?_
  refine az_iload_n dX12_spells_66 ?_
  refine az_iload_n dX12_spells_67 ?_
  refine az_icmp_le (tgt := 76) dX12_spells_68 (fun c68 => ?_) (fun c68 => ?_)
  · refine az_aload_n dX12_spells_76 ?_
    refine az_getf (v := .int (nI (mr_w (.inr x)))) dX12_spells_77 fl_X12_153 e0 ?_
    refine az_if_eqN (tgt := 85) dX12_spells_80 (fun c80 => ?_) (fun c80 => ?_)
    · exact absurd (by first | exact c80 | omega) hne
    · refine az_iconst (v := nI 0) dX12_spells_83 ?_
      exact az_iret dX12_spells_84 (by first | exact hQ h1 H1 mf1.wk | exact hQ hp H mf.rf)
  · refine az_aload_n dX12_spells_71 ?_
    refine az_iconst (v := nI 3) dX12_spells_72 ?_
    refine az_cV0 (st := []) dX12_spells_73 ml_X12_165 e0 (m_fails (d := d - 1) (f9 := 3) (by decide) (by decide) H ?_)
    intro h1 H1 mf1
    have H1 : mr_R h1 sc b n fr k0 (.inr x) := H1
    obtain ⟨a1, z1, ki1, nu1, wa1, e1, w1, hki1, hnu1⟩ := H1.o
    refine az_aload_n dX12_spells_76 ?_
    refine az_getf (v := .int (nI (mr_w (.inr x)))) dX12_spells_77 fl_X12_153 e1 ?_
    refine az_if_eqN (tgt := 85) dX12_spells_80 (fun c80 => ?_) (fun c80 => ?_)
    · exact absurd (by first | exact c80 | omega) hne
    · refine az_iconst (v := nI 0) dX12_spells_83 ?_
      exact az_iret dX12_spells_84 (by first | exact hQ h1 H1 mf1.wk | exact hQ hp H mf.rf)
set_option maxHeartbeats 4000000 in
set_option maxRecDepth 100000 in
theorem m_spellsS {d m : Nat} {v2 v3 : Int32} {sc : Nat → Value} {b : Nat → Nat} {n : Nat} {fr : Nat → Nat} {k0 : Nat} {e : Nat} {c : List Nat} {hp : az_Hp} {Q : Option Value → az_Hp → Prop} (hd : 8 ≤ d) (hm : m ≤ 12) (H : mr_R hp sc b n fr k0 (.inl (e, c))) (hkd : rd_kd b n e = 1) (haf : rd_af b n e) (hQ0 : ∀ h', mr_R h' sc b n fr k0 (rd_fail b n 3 e) → m < rd_en b n e - rd_fr b n e → mf hp h' [64, 69] → Q (some (.int (nI 0))) h') (hQ : ∀ h' (g : Nat → Nat), mr_R h' sc b n fr k0 (.inl (rd_en b n e, c)) → rd_en b n e - rd_fr b n e ≤ m → h'.2 69 = some (az_I 12 (fun i => nI (g i))) → (∀ i, i < rd_en b n e - rd_fr b n e → g i = b (rd_fr b n e + i) - 97) → mf hp h' [64, 69] → Q (some (.int (nI (rd_en b n e - rd_fr b n e)))) h') : az_W mX12_spells d 0 0 56 [(0, .ref 64), (1, .int (nI m)), (2, .int v2), (3, .int v3)] [] hp Q := by
  obtain ⟨hT, h1, h2, ⟨kk, nu, wa, hkk, hnu, h64⟩, hC⟩ := id H
  have h1 : e ≤ n := h1
  have h2 : k0 + c.length ≤ e := h2
  obtain ⟨t1, t2, ⟨tf, t3, t4⟩, sp, t5⟩ := id hT
  obtain ⟨sp', rfl⟩ := nI_ex sp
  have hen := rd_en_lt (b := b) h1 (by omega)
  have hk1 := rd_k1 (b := b) h1 hkd
  have lp : ∀ (k : Nat) (j : Nat) (h' : az_Hp) (g : Nat → Nat), rd_en b n e - rd_fr b n e - j = k → (rd_en b n e - rd_fr b n e ≤ m) → (j ≤ rd_en b n e - rd_fr b n e) → (h'.2 69 = some (az_I 12 (fun i => nI (g i)))) → (∀ i, i < j → g i = b (rd_fr b n e + i) - 97) → (mf hp h' [69]) → az_W mX12_spells d 0 0 88 [(0, .ref 64), (1, .int (nI m)), (2, .int v2), (3, .int (nI (rd_en b n e - rd_fr b n e))), (4, .int (nI j))] [] h' Q := by
    intro k
    induction k using Nat.strongRecOn with
    | _ k ih =>
    intro j h' g hk hlm hj h69 hg mf9
    refine az_iload dX12_spells_88 ?_
    refine az_iload_n dX12_spells_90 ?_
    refine az_icmp_geN (tgt := 122) dX12_spells_91 (fun c91 => ?_) (fun c91 => ?_)
    · obtain rfl : j = rd_en b n e - rd_fr b n e := (by omega)
      have H9 : mr_R h' sc b n fr k0 (.inl (e, c)) := ⟨⟨t1, t2, ⟨tf, mf9.at t3, t4⟩, _, h69⟩, h1, h2, ⟨kk, nu, wa, hkk, hnu, mf9.at h64⟩, hC.fr mf9⟩
      refine az_aload_n dX12_spells_122 ?_
      refine az_cV0 (st := []) dX12_spells_123 ml_X12_162 (mf9.at h64) (m_nextR (d := d - 1) (e := e) (c := c) (c' := c) (sc := sc) (b := b) (n := n) (fr := fr) (k0 := k0) (by omega) H9.1 H9.2.1 (by have h1 := H9.2.1; have h2 := H9.2.2.1; have h3 := rd_en_le2 (b := b) h1; exact Nat.le_trans h2 h3) H9.2.2.2.1 H9.2.2.2.2 ?_)
      intro h7 H7 mf7
      refine az_iload_n dX12_spells_126 ?_
      exact az_iret dX12_spells_127 (hQ h7 g H7 (by omega) (mf7.at h69) hg ((mf9.wk (L' := [64, 69])).tr mf7 (by decide)))
    · refine az_aload_n dX12_spells_94 ?_
      refine az_getf (v := .ref 69) dX12_spells_95 fl_X12_30 (mf9.at h64) ?_
      refine az_iload dX12_spells_98 ?_
      refine az_aload_n dX12_spells_100 ?_
      refine az_getf (v := .ref 67) dX12_spells_101 fl_X12_21 (mf9.at h64) ?_
      refine az_aload_n dX12_spells_104 ?_
      refine az_getf (v := .int (nI (rd_fr b n e))) dX12_spells_105 fl_X12_125 (mf9.at h64) ?_
      refine az_iload dX12_spells_108 ?_
      refine az_iaddN dX12_spells_110 ?_
      refine az_ialdN (j := (rd_fr b n e) + j) dX12_spells_111 (mf9.at t3) ?_ (by omega)
      refine az_bipush (v := nI 97) dX12_spells_112 ?_
      refine az_isubN dX12_spells_114 (by rw [t4 _ (by omega)]; have := hk1 (rd_fr b n e + j) (by omega) (by omega); omega) ?_
      refine az_iastN (j := j) dX12_spells_115 h69 ?_ (by omega)
      rw [az_s_nI]
      refine az_iincN (n := 1) (ls' := [(0, .ref 64), (1, .int (nI m)), (2, .int v2), (3, .int (nI (rd_en b n e - rd_fr b n e))), (4, .int (nI (j + 1)))]) dX12_spells_116 ?_
      refine az_goto (tgt := 88) dX12_spells_119 ?_
      exact ih _ (by omega) (j + 1) _ (az_s g j (tf (rd_fr b n e + j) - 97)) rfl hlm (by omega) az_up_eq (fun i hi => (by by_cases e9 : i = j; rw [e9, az_s_eq, t4 _ (by omega)]; rw [az_s_ne e9]; exact hg i (by omega))) (mf9.up (by decide))
  refine az_aload_n dX12_spells_56 ?_
  refine az_getf (v := .int (nI (rd_en b n e))) dX12_spells_57 fl_X12_128 h64 ?_
  refine az_aload_n dX12_spells_60 ?_
  refine az_getf (v := .int (nI (rd_fr b n e))) dX12_spells_61 fl_X12_125 h64 ?_
  refine az_isubN dX12_spells_64 (by omega) ?_
  refine az_istore_n (ls' := [(0, .ref 64), (1, .int (nI m)), (2, .int v2), (3, .int (nI ((rd_en b n e) - (rd_fr b n e))))]) dX12_spells_65 ?_
  refine az_iload_n dX12_spells_66 ?_
  refine az_iload_n dX12_spells_67 ?_
  refine az_icmp_leN (tgt := 76) dX12_spells_68 (fun c68 => ?_) (fun c68 => ?_)
  · refine az_aload_n dX12_spells_76 ?_
    refine az_getf (v := .int (nI 0)) dX12_spells_77 fl_X12_153 h64 ?_
    refine az_if_eqN (tgt := 85) dX12_spells_80 (fun c80 => ?_) (fun c80 => ?_)
    · refine az_iconst (v := nI 0) dX12_spells_85 ?_
      refine az_istore (ls' := [(0, .ref 64), (1, .int (nI m)), (2, .int v2), (3, .int (nI ((rd_en b n e) - (rd_fr b n e)))), (4, .int (nI 0))]) dX12_spells_86 ?_
      first | exact absurd c80 (mr_w2 (x := (if rd_kd b n e = 4 then 1 else 3, rd_fr b n e)) H8) | exact lp _ 0 hp sp' rfl (by omega) (Nat.zero_le _) t5 (fun i hi => absurd hi (Nat.not_lt_zero i)) mf.rf
    · exact absurd c80 (by omega)
  · refine az_aload_n dX12_spells_71 ?_
    refine az_iconst (v := nI 3) dX12_spells_72 ?_
    refine az_cV0 (st := []) dX12_spells_73 ml_X12_165 h64 (m_fails (d := d - 1) (f9 := 3) (by decide) (by decide) H ?_)
    intro h8 H8 mf8
    have H8 : mr_R h8 sc b n fr k0 (rd_fail b n 3 e) := H8
    obtain ⟨a3, z3, ki3, nu3, wa3, e3, w3, hki3, hnu3⟩ := H8.o
    refine az_aload_n dX12_spells_76 ?_
    refine az_getf (v := .int (nI (mr_w (rd_fail b n 3 e)))) dX12_spells_77 fl_X12_153 e3 ?_
    refine az_if_eqN (tgt := 85) dX12_spells_80 (fun c80 => ?_) (fun c80 => ?_)
    · refine az_iconst (v := nI 0) dX12_spells_85 ?_
      refine az_istore (ls' := [(0, .ref 64), (1, .int (nI m)), (2, .int v2), (3, .int (nI ((rd_en b n e) - (rd_fr b n e)))), (4, .int (nI 0))]) dX12_spells_86 ?_
      first | exact absurd c80 (mr_w2 (x := (if rd_kd b n e = 4 then 1 else 3, rd_fr b n e)) H8) | exact lp _ 0 hp sp' rfl (by omega) (Nat.zero_le _) t5 (fun i hi => absurd hi (Nat.not_lt_zero i)) mf.rf
    · refine az_iconst (v := nI 0) dX12_spells_83 ?_
      exact az_iret dX12_spells_84 (by first | exact hQ0 h8 H8 (by omega) mf8.wk | exact absurd rfl c80)
set_option maxHeartbeats 4000000 in
set_option maxRecDepth 100000 in
theorem m_spellsL {d m : Nat} {sc : Nat → Value} {b : Nat → Nat} {n : Nat} {fr : Nat → Nat} {k0 : Nat} {e : Nat} {c : List Nat} {hp : az_Hp} {Q : Option Value → az_Hp → Prop} (H : mr_R hp sc b n fr k0 (.inl (e, c))) (hkd : rd_kd b n e = 1) (hQ1 : rd_af b n e → ∀ v3 : Int32, az_W mX12_spells d 0 0 47 [(0, .ref 64), (1, .int (nI m)), (2, .int (nI 1)), (3, .int v3)] [] hp Q) (hQ0 : ¬ rd_af b n e → ∀ v3 : Int32, az_W mX12_spells d 0 0 47 [(0, .ref 64), (1, .int (nI m)), (2, .int (nI 0)), (3, .int v3)] [] hp Q) : az_W mX12_spells d 0 0 7 [(0, .ref 64), (1, .int (nI m)), (2, .int (nI 1))] [] hp Q := by
  obtain ⟨hT, h1, h2, ⟨kk, nu, wa, hkk, hnu, h64⟩, hC⟩ := id H
  have h1 : e ≤ n := h1
  obtain ⟨t1, t2, ⟨tf, t3, t4⟩, sp, t5⟩ := id hT
  have hen := rd_en_lt (b := b) h1 (by omega)
  have lp : ∀ (k : Nat) (x : Nat) (q : Nat), rd_en b n e - q = k → (rd_fr b n e ≤ q) → (q ≤ rd_en b n e) → ((x = 1 ∧ ∀ j, rd_fr b n e ≤ j → j < q → b j ≤ 102) ∨ (x = 0 ∧ ¬ rd_af b n e)) → az_W mX12_spells d 0 0 12 [(0, .ref 64), (1, .int (nI m)), (2, .int (nI x)), (3, .int (nI q))] [] hp Q := by
    intro k
    induction k using Nat.strongRecOn with
    | _ k ih =>
    intro x q hk hq hq2 hI
    have hbq := t1 q
    refine az_iload_n dX12_spells_12 ?_
    refine az_if_eqN (tgt := 47) dX12_spells_13 (fun c13 => ?_) (fun c13 => ?_)
    · first | (have _g := c21; have hx := hI.resolve_right (fun q9 => c13 q9.1); obtain rfl : x = 1 := hx.1; exact hQ1 (fun i hi => hx.2 (rd_fr b n e + i) (by omega) (by omega)) _) | (obtain rfl : x = 0 := c13; exact hQ0 (hI.resolve_left (fun q9 => absurd q9.1 (by decide))).2 _)
    · refine az_iload_n dX12_spells_16 ?_
      refine az_aload_n dX12_spells_17 ?_
      refine az_getf (v := .int (nI (rd_en b n e))) dX12_spells_18 fl_X12_128 h64 ?_
      refine az_icmp_geN (tgt := 47) dX12_spells_21 (fun c21 => ?_) (fun c21 => ?_)
      · first | (have _g := c21; have hx := hI.resolve_right (fun q9 => c13 q9.1); obtain rfl : x = 1 := hx.1; exact hQ1 (fun i hi => hx.2 (rd_fr b n e + i) (by omega) (by omega)) _) | (obtain rfl : x = 0 := c13; exact hQ0 (hI.resolve_left (fun q9 => absurd q9.1 (by decide))).2 _)
      · refine az_aload_n dX12_spells_24 ?_
        refine az_getf (v := .ref 67) dX12_spells_25 fl_X12_21 h64 ?_
        refine az_iload_n dX12_spells_28 ?_
        refine az_ialdN (j := q) dX12_spells_29 t3 ?_ (by omega)
        rw [t4 _ (by omega)]
        refine az_bipush (v := nI 102) dX12_spells_30 ?_
        refine az_icmp_gtN (tgt := 39) dX12_spells_32 (fun c32 => ?_) (fun c32 => ?_)
        · refine az_iconst (v := nI 0) dX12_spells_39 ?_
          refine az_istore_n (ls' := [(0, .ref 64), (1, .int (nI m)), (2, .int (nI 0)), (3, .int (nI q))]) dX12_spells_40 ?_
          refine az_iincN (n := 1) (ls' := [(0, .ref 64), (1, .int (nI m)), (2, .int (nI 0)), (3, .int (nI (q + 1)))]) dX12_spells_41 ?_
          refine az_goto (tgt := 12) dX12_spells_44 ?_
          have hx := hI.resolve_right (fun q9 => c13 q9.1)
          first | exact ih _ (by omega) 1 (q + 1) rfl (by omega) (by omega) (Or.inl ⟨rfl, fun j j1 j2 => (by by_cases e9 : j = q; rw [e9]; omega; exact hx.2 j j1 (by omega))⟩) | exact ih _ (by omega) 0 (q + 1) rfl (by omega) (by omega) (Or.inr ⟨rfl, fun ha => (by have q8 := ha (q - rd_fr b n e) (by omega); rw [show rd_fr b n e + (q - rd_fr b n e) = q by omega] at q8; omega)⟩)
        · refine az_iconst (v := nI 1) dX12_spells_35 ?_
          refine az_goto (tgt := 40) dX12_spells_36 ?_
          refine az_istore_n (ls' := [(0, .ref 64), (1, .int (nI m)), (2, .int (nI 1)), (3, .int (nI q))]) dX12_spells_40 ?_
          refine az_iincN (n := 1) (ls' := [(0, .ref 64), (1, .int (nI m)), (2, .int (nI 1)), (3, .int (nI (q + 1)))]) dX12_spells_41 ?_
          refine az_goto (tgt := 12) dX12_spells_44 ?_
          have hx := hI.resolve_right (fun q9 => c13 q9.1)
          first | exact ih _ (by omega) 1 (q + 1) rfl (by omega) (by omega) (Or.inl ⟨rfl, fun j j1 j2 => (by by_cases e9 : j = q; rw [e9]; omega; exact hx.2 j j1 (by omega))⟩) | exact ih _ (by omega) 0 (q + 1) rfl (by omega) (by omega) (Or.inr ⟨rfl, fun ha => (by have q8 := ha (q - rd_fr b n e) (by omega); rw [show rd_fr b n e + (q - rd_fr b n e) = q by omega] at q8; omega)⟩)
  refine az_aload_n dX12_spells_7 ?_
  refine az_getf (v := .int (nI (rd_fr b n e))) dX12_spells_8 fl_X12_125 h64 ?_
  refine az_istore_n (ls' := [(0, .ref 64), (1, .int (nI m)), (2, .int (nI 1)), (3, .int (nI (rd_fr b n e)))]) dX12_spells_11 ?_
  exact lp _ 1 _ rfl (Nat.le_refl _) (by omega) (Or.inl ⟨rfl, fun j j1 j2 => absurd j1 (by omega)⟩)
set_option maxHeartbeats 4000000 in
set_option maxRecDepth 100000 in
theorem m_spells0 {d m : Nat} {v3 : Int32} {sc : Nat → Value} {b : Nat → Nat} {n : Nat} {fr : Nat → Nat} {k0 : Nat} {r : rd_R} {hp : az_Hp} {Q : Option Value → az_Hp → Prop} (hd : 1 ≤ d) (H : mr_R hp sc b n fr k0 (r)) (hQ : ∀ h1, mr_R h1 sc b n fr k0 (rd_b r (fun e _ => rd_fail b n 2 e)) → mf hp h1 [64] → az_W mX12_spells d 0 0 56 [(0, .ref 64), (1, .int (nI m)), (2, .int (nI 0)), (3, .int v3)] [] h1 Q) : az_W mX12_spells d 0 0 47 [(0, .ref 64), (1, .int (nI m)), (2, .int (nI 0)), (3, .int v3)] [] hp Q := by
  obtain ⟨a0, z0, ki0, nu0, wa0, e0, w0, hki0, hnu0⟩ := H.o
  refine az_iload_n dX12_spells_47 ?_
  refine az_if_neN (tgt := 56) dX12_spells_48 (fun c48 => ?_) (fun c48 => ?_)
  · exact absurd c48 (by omega)
  · refine az_aload_n dX12_spells_51 ?_
    refine az_iconst (v := nI 2) dX12_spells_52 ?_
    refine az_cV0 (st := []) dX12_spells_53 ml_X12_165 e0 (m_fails (d := d - 1) (f9 := 2) (by decide) (by decide) H ?_)
    intro h1 H1 mf1
    exact hQ h1 H1 mf1
set_option maxHeartbeats 4000000 in
set_option maxRecDepth 100000 in
theorem m_spellsN {d m : Nat} {sc : Nat → Value} {b : Nat → Nat} {n : Nat} {fr : Nat → Nat} {k0 : Nat} {r : rd_R} {hp : az_Hp} {Q : Option Value → az_Hp → Prop} (H : mr_R hp sc b n fr k0 (r)) (hQ : ∀ v3 : Int32, az_W mX12_spells d 0 0 47 [(0, .ref 64), (1, .int (nI m)), (2, .int (nI 0)), (3, .int v3)] [] hp Q) : az_W mX12_spells d 0 0 7 [(0, .ref 64), (1, .int (nI m)), (2, .int (nI 0))] [] hp Q := by
  obtain ⟨a0, z0, ki0, nu0, wa0, e0, w0, hki0, hnu0⟩ := H.o
  refine az_aload_n dX12_spells_7 ?_
  refine az_getf (v := .int (nI a0)) dX12_spells_8 fl_X12_125 e0 ?_
  refine az_istore_n (ls' := [(0, .ref 64), (1, .int (nI m)), (2, .int (nI 0)), (3, .int (nI a0))]) dX12_spells_11 ?_
  refine az_iload_n dX12_spells_12 ?_
  refine az_if_eqN (tgt := 47) dX12_spells_13 (fun c13 => ?_) (fun c13 => ?_)
  · exact hQ _
  · exact absurd c13 (by omega)
set_option maxHeartbeats 4000000 in
set_option maxRecDepth 100000 in
theorem m_spells1 {d m : Nat} {v3 : Int32} {hp : az_Hp} {Q : Option Value → az_Hp → Prop} (hQ : az_W mX12_spells d 0 0 56 [(0, .ref 64), (1, .int (nI m)), (2, .int (nI 1)), (3, .int v3)] [] hp Q) : az_W mX12_spells d 0 0 47 [(0, .ref 64), (1, .int (nI m)), (2, .int (nI 1)), (3, .int v3)] [] hp Q := by
  refine az_iload_n dX12_spells_47 ?_
  refine az_if_neN (tgt := 56) dX12_spells_48 (fun c48 => ?_) (fun c48 => ?_)
  · exact hQ
  · exact absurd c48 (by omega)
set_option maxHeartbeats 4000000 in
set_option maxRecDepth 100000 in
theorem m_spells {d m : Nat} {sc : Nat → Value} {b : Nat → Nat} {n : Nat} {fr : Nat → Nat} {k0 : Nat} {r : rd_R} {hp : az_Hp} {Q : Option Value → az_Hp → Prop} (hd : 9 ≤ d) (hm : m ≤ 12) (H : mr_R hp sc b n fr k0 (r)) (hQ : ∀ h' (y : Int32), mr_R h' sc b n fr k0 (rd_b r (rd_tl b n m)) → mf hp h' [64, 69] → (∀ e c z, r = .inl (e, c) → rd_tl b n m e c = .inl z → y = nI (rd_en b n e - rd_fr b n e) ∧ rd_en b n e - rd_fr b n e ≤ m ∧ 1 ≤ rd_en b n e - rd_fr b n e ∧ (∀ i, i < rd_en b n e - rd_fr b n e → b (rd_fr b n e + i) - 97 < 6) ∧ ∃ g : Nat → Nat, h'.2 69 = some (az_I 12 (fun i => nI (g i))) ∧ ∀ i, i < rd_en b n e - rd_fr b n e → g i = b (rd_fr b n e + i) - 97) → Q (some (.int y)) h') : az_M mX12_spells d 0 0 [.ref 64, .int (nI m)] hp Q := by
  obtain ⟨a0, z0, ki0, nu0, wa0, e0, w0, hki0, hnu0⟩ := H.o
  have bad : ∀ (v2 v3 : Int32) h1, mr_R h1 sc b n fr k0 (rd_b r (fun e _ => rd_fail b n 2 e)) → mf hp h1 [64] → (∀ e c, r = .inl (e, c) → ¬ (rd_kd b n e = 1 ∧ rd_af b n e)) → az_W mX12_spells d 0 0 56 [(0, .ref 64), (1, .int (nI m)), (2, .int v2), (3, .int v3)] [] h1 Q := by
    intro v2 v3 h1 H1 mf1 hno
    obtain ⟨x, hx⟩ := fail_inr (b := b) (n := n) (f := 2) r
    have q9 : rd_b r (rd_tl b n m) = .inr x := (tl_no hno).trans hx
    rw [hx] at H1
    refine m_spellsE (by omega) (by omega) H1 (fun h2 H2 mf2 => hQ h2 _ (by rw [q9]; exact H2) ((mf1.wk (L' := [64, 69])).tr mf2 (by decide)) ?_)
    intro e c z q q2
    rw [q] at q9
    exact absurd (q2.symm.trans q9) (by intro q; cases q)
  have good : ∀ (v2 v3 : Int32) (e : Nat) (c : List Nat), r = .inl (e, c) → rd_kd b n e = 1 → rd_af b n e → az_W mX12_spells d 0 0 56 [(0, .ref 64), (1, .int (nI m)), (2, .int v2), (3, .int v3)] [] hp Q := by
    intro v2 v3 e c hr hkd haf
    have H5 := H
    rw [hr] at H5
    have hle := H.le e c hr
    have hen := rd_en_lt (b := b) hle.1 (by omega)
    have hk1 := rd_k1 (b := b) hle.1 hkd
    have s1 : rd_tl b n m e c = if m < rd_en b n e - rd_fr b n e then rd_fail b n 3 e else .inl (rd_en b n e, c) := (if_neg (fun q => q hkd)).trans (if_neg (fun q => q haf))
    refine m_spellsS (by omega) hm H5 hkd haf (fun h2 H2 hl mf2 => hQ h2 _ ?_ mf2 ?_) (fun h2 g H2 hl h69 hg mf2 => hQ h2 _ ?_ mf2 ?_)
    · rw [hr]; show mr_R h2 sc b n fr k0 (rd_tl b n m e c); rw [s1, if_pos hl]; exact H2
    · intro e9 c9 z q q2
      rw [hr] at q; cases q
      rw [s1, if_pos hl] at q2
      cases q2
    · rw [hr]; show mr_R h2 sc b n fr k0 (rd_tl b n m e c); rw [s1, if_neg (by omega)]; exact H2
    · intro e9 c9 z q q2
      rw [hr] at q; cases q
      refine ⟨rfl, hl, by omega, fun i hi => ?_, g, h69, hg⟩
      have := haf i hi
      omega
  refine az_M.of rfl (Nat.le_of_ble_eq_true rfl) ?_
  show az_W _ _ _ _ 0 [(0, .ref 64), (1, .int (nI m))] [] _ _
  refine az_aload_n dX12_spells_0 ?_
  refine az_bipush (v := nI 22) dX12_spells_1 ?_
  refine az_cV0 (st := []) dX12_spells_3 ml_X12_159 e0 (m_is (d := d - 1) (k9 := 22) (by decide) H ?_ ?_)
  · intro e c hr hm9
    refine az_istore_n (ls' := [(0, .ref 64), (1, .int (nI m)), (2, .int (nI 1))]) dX12_spells_6 ?_
    first | (have _g := hno; exact m_spellsN H (fun v3 => m_spells0 (by omega) H (fun h1 H1 mf1 => bad _ v3 h1 H1 mf1 (fun e2 c2 q q2 => (by have H5 := H; rw [q] at H5; obtain ⟨k, nu, wa, hk, hnu, h64⟩ := H5.2.2.2.1; exact hno e2 c2 q (by rw [← af_22 hk q2.1 q2.2]; exact hk)))))) | (have hkd := k22_1 hm9; have H5 := H; rw [hr] at H5; exact m_spellsL H5 hkd (fun haf v3 => m_spells1 (good _ v3 e c hr hkd haf)) (fun haf v3 => m_spells0 (by omega) H (fun h1 H1 mf1 => bad _ v3 h1 H1 mf1 (fun e2 c2 q q2 => (by rw [hr] at q; cases q; exact haf q2.2)))))
  · intro hno
    refine az_istore_n (ls' := [(0, .ref 64), (1, .int (nI m)), (2, .int (nI 0))]) dX12_spells_6 ?_
    first | (have _g := hno; exact m_spellsN H (fun v3 => m_spells0 (by omega) H (fun h1 H1 mf1 => bad _ v3 h1 H1 mf1 (fun e2 c2 q q2 => (by have H5 := H; rw [q] at H5; obtain ⟨k, nu, wa, hk, hnu, h64⟩ := H5.2.2.2.1; exact hno e2 c2 q (by rw [← af_22 hk q2.1 q2.2]; exact hk)))))) | (have hkd := k22_1 hm9; have H5 := H; rw [hr] at H5; exact m_spellsL H5 hkd (fun haf v3 => m_spells1 (good _ v3 e c hr hkd haf)) (fun haf v3 => m_spells0 (by omega) H (fun h1 H1 mf1 => bad _ v3 h1 H1 mf1 (fun e2 c2 q q2 => (by rw [hr] at q; cases q; exact haf q2.2)))))
