/-! The model: moons -/
theorem wnext_pf (z : ln_Z) (p : Option Nat) : ∃ l, (wnext z p).2.2 = z.2.2 ++ l := by
  cases p with
  | none => exact ⟨[], (List.append_nil _).symm⟩
  | some tb => exact ⟨[tb], rfl⟩
theorem mZ.pf {A : Nat → Nat} {m n : Nat} {bs l : List Nat} (H : mZ A (m, n, bs ++ l)) : ∀ q, q < bs.length → A (145 + q) = bs.getD q 0 := fun q hq => by
  rw [H.2.2.2 q (by show q < (bs ++ l).length; rw [List.length_append]; omega)]
  show (bs ++ l).getD q 0 = _
  simp only [List.getD, List.getElem?_append_left hq]
theorem mb_lt {w : ln_W} {pk sl : List Nat} {l : List Int64} {ni : Nat} {bs : List Nat} : ∀ k, mb w pk sl l ni bs k < 2 ^ k := by
  intro k
  induction k with
  | zero => exact Nat.zero_lt_one
  | succ k ih =>
    rw [mb]
    have h2 : 2 ^ k < 2 ^ (k + 1) := Nat.pow_lt_pow_right (by decide) (by omega)
    split
    · omega
    · exact Nat.or_lt_two_pow (by omega) h2
set_option maxHeartbeats 4000000 in
set_option maxRecDepth 100000 in
theorem m_moonsW {d n : Nat} {sc : Nat → Value} {A wn wb : Nat → Nat} {rm : Nat → Int32} {nu : Nat → Int64} {v : rd_V} {mo ni : Nat} {bs : List Nat} {y : Nat × List Int64} {hp : az_Hp} {Q : Option Value → az_Hp → Prop} (hgd : rd_good v) (hb : ln_by (rd_w v) bs) (hd : 9 ≤ d) (hn : n < 4) (hy8 : y.2.length ≤ 8) (h91 : hp.2 91 = some (az_I 4 rm)) (h92 : hp.2 92 = some (az_J 160 nu)) (r2 : rm n = nI y.2.length) (r5 : ∀ j, j < y.2.length → nu (40 * n + j) = y.2.getD j 0) (h64 : hp.2 64 = some (mo_o sc)) (h65 : hp.2 65 = some (az_I 3318 (fun j => nI (A j)))) (hT : mT A v (mo, ni, bs)) (h74 : hp.2 74 = some (az_I 3 (fun j => nI (wn j)))) (h75 : hp.2 75 = some (az_I 60 (fun j => nI (wb j)))) (hwn : ∀ k, k < 3 → wn k = A (111 + k)) (hwb : ∀ k, k < 60 → wb k = A (145 + k)) (hkm : mk hp) (hQ : ∀ h' sc', h'.2 64 = some (mo_o sc') → (∀ j, j ≠ 18 → j ≠ 22 → sc' j = sc j) → h'.2 65 = some (az_I 3318 (fun j => nI (A j))) → mk h' → mf hp h' [64, 65, 70, 72, 73] → Q (some (.int (nI (mb (rd_w v) v.2.2.2.2.2.2.2.1 v.2.2.2.2.2.2.2.2 y.2 ni bs 10)))) h') : az_W mX12_moons d 0 0 26 [(0, .ref 64), (1, .int (nI n)), (2, .int (nI 0))] [] hp Q := by
  have hw : ln_ok (rd_w v) := hgd.1
  have ht1 := hw.1
  have ht3 := hw.2.1
  have hA113 : A 113 = bs.length := hT.2.2.2.1
  have hA112 : A 112 = ni := hT.2.2.1
  have loopI : ∀ (k : Nat) (i m9 n9 : Nat) (b9 : List Nat) (h' : az_Hp) (sc1 : Nat → Value) (A1 : Nat → Nat) (bt9 k9 : Nat) (hb9 : bt9 < 2 ^ 31) (hk9 : k9 < 10) (hK : ∀ (i : Nat) (h2 : az_Hp) (sc2 : Nat → Value) (A2 : Nat → Nat), (mi (rd_w v) v.2.2.2.2.2.2.2.1 v.2.2.2.2.2.2.2.2 y.2 (k9, ni, bs) = 1 ∧ i = y.2.length) ∨ (mi (rd_w v) v.2.2.2.2.2.2.2.1 v.2.2.2.2.2.2.2.2 y.2 (k9, ni, bs) = 0 ∧ i < y.2.length) → h2.2 64 = some (mo_o sc2) → (∀ j, j ≠ 18 → j ≠ 22 → sc2 j = sc j) → h2.2 65 = some (az_I 3318 (fun j => nI (A2 j))) → (∀ j, (j < 111 ∨ (114 ≤ j ∧ j < 145) ∨ 205 ≤ j) → A2 j = A j) → (∀ q, q < bs.length → A2 (145 + q) = bs.getD q 0) → mk h2 → mf hp h2 [64, 65, 70, 72, 73] → az_W mX12_moons d 0 0 106 [(0, .ref 64), (1, .int (nI n)), (2, .int (nI 0)), (3, .int (nI bt9)), (4, .int (nI k9)), (5, .int (nI i))] [] h2 Q), y.2.length - i = k → (i ≤ y.2.length) → (ln_by (rd_w v) b9) → (∃ l, b9 = bs ++ l) → (h'.2 64 = some (mo_o sc1)) → ((∀ j, j ≠ 18 → j ≠ 22 → sc1 j = sc j)) → (h'.2 65 = some (az_I 3318 (fun j => nI (A1 j)))) → (mT A1 v (m9, n9, b9)) → (∀ j, (j < 111 ∨ (114 ≤ j ∧ j < 145) ∨ 205 ≤ j) → A1 j = A j) → (mk h') → (mf hp h' [64, 65, 70, 72, 73]) → (mi (rd_w v) v.2.2.2.2.2.2.2.1 v.2.2.2.2.2.2.2.2 (y.2.drop i) (m9, n9, b9) = mi (rd_w v) v.2.2.2.2.2.2.2.1 v.2.2.2.2.2.2.2.2 y.2 (k9, ni, bs)) → az_W mX12_moons d 0 0 54 [(0, .ref 64), (1, .int (nI n)), (2, .int (nI 0)), (3, .int (nI bt9)), (4, .int (nI k9)), (5, .int (nI i))] [] h' Q := by
    intro k
    induction k using Nat.strongRecOn with
    | _ k ih =>
    intro i m9 n9 b9 h' sc1 A1 bt9 k9 hb9 hk9 hK hk hi hby hpf b64 hs1 b65 hT1 hA1 mk1' mf1 hD
    refine az_iload dX12_moons_54 ?_
    refine az_aload_n dX12_moons_56 ?_
    refine az_getf (v := .ref 91) dX12_moons_57 fl_X12_97 b64 ?_
    refine az_iload_n dX12_moons_60 ?_
    refine az_ialdN (j := n) dX12_moons_61 (mf1.at h91) ?_
    rw [r2]
    refine az_icmp_geN (tgt := 106) dX12_moons_62 (fun c62 => ?_) (fun c62 => ?_)
    · first | (have _g := k1; rw [if_pos (by omega), if_neg c93] at hD; exact hK i _ sc2 A2 (Or.inr ⟨hD.symm, by omega⟩) b64 (fun j e1 e2 => (hs2 j e1 e2).trans (hs1 j e1 e2)) b65 (fun j hj => (k2 j hj).trans (hA1 j hj)) (by obtain ⟨l1, e1⟩ := hpf2; have k3 : mZ A2 ((dz (rd_w v) v.2.2.2.2.2.2.2.1 v.2.2.2.2.2.2.2.2 (m9, n9, b9) (lN 0)).2.1, (dz (rd_w v) v.2.2.2.2.2.2.2.1 v.2.2.2.2.2.2.2.2 (m9, n9, b9) (lN 0)).2.2.1, bs ++ l1) := (by rw [← e1]; exact k1.2); exact k3.pf) (mk.uJ (mk.uA mk2) rfl) (((mf1.tr (mf2.wk (L' := [64, 65, 70, 72, 73])) (by decide)).up (by decide)).up (by decide))) | (have _g := d64; rw [if_neg (by omega)] at hD; exact hK i h2 sc2 A1 (Or.inr ⟨hD.symm, by omega⟩) d64 (fun j e1 e2 => (hs2 j e1 e2).trans (hs1 j e1 e2)) (mf2.at b65) hA1 (by obtain ⟨l1, e1⟩ := hpf; have k3 : mZ A1 (m9, n9, bs ++ l1) := (by rw [← e1]; exact hT1.2); exact k3.pf) mk2 (mf1.tr (mf2.wk (L' := [64, 65, 70, 72, 73])) (by decide))) | (rw [List.drop_of_length_le (i := i) (l := y.2) (by omega), mi] at hD; exact hK i h' sc1 A1 (Or.inl ⟨hD.symm, by omega⟩) b64 hs1 b65 hA1 (by obtain ⟨l1, e1⟩ := hpf; have k3 : mZ A1 (m9, n9, bs ++ l1) := (by rw [← e1]; exact hT1.2); exact k3.pf) mk1' mf1)
    · refine az_aload_n dX12_moons_65 ?_
      refine az_lconst (v := lN 0) dX12_moons_66 ?_
      refine az_cV0 (st := []) dX12_moons_67 ml_X12_318 b64 (m_whyNight0 (d := d - 1) (by omega) hgd hby b64 b65 hT1 mk1' ?_)
      intro h2 sc2 d64 b22 hs2 mk2 mf2
      have hco := dz_co (rd_w v) v.2.2.2.2.2.2.2.1 v.2.2.2.2.2.2.2.2 (m9, n9, b9) (lN 0)
      have hby2 := dz_by (pk := v.2.2.2.2.2.2.2.1) (sl := v.2.2.2.2.2.2.2.2) (z := (m9, n9, b9)) (v := lN 0) hw hby
      have hlen2 := hby2.2.2
      rw [dropJ (i := i) (l := y.2) (by omega), mi] at hD
      refine az_if_neN (tgt := 106) dX12_moons_70 (fun c70 => ?_) (fun c70 => ?_)
      · first | (have _g := k1; rw [if_pos (by omega), if_neg c93] at hD; exact hK i _ sc2 A2 (Or.inr ⟨hD.symm, by omega⟩) d64 (fun j e1 e2 => (hs2 j e1 e2).trans (hs1 j e1 e2)) (mf2.at b65) (fun j hj => (k2 j hj).trans (hA1 j hj)) (by obtain ⟨l1, e1⟩ := hpf2; have k3 : mZ A2 ((dz (rd_w v) v.2.2.2.2.2.2.2.1 v.2.2.2.2.2.2.2.2 (m9, n9, b9) (lN 0)).2.1, (dz (rd_w v) v.2.2.2.2.2.2.2.1 v.2.2.2.2.2.2.2.2 (m9, n9, b9) (lN 0)).2.2.1, bs ++ l1) := (by rw [← e1]; exact k1.2); exact k3.pf) (mk.uJ (mk.uA mk2) rfl) (((mf1.tr (mf2.wk (L' := [64, 65, 70, 72, 73])) (by decide)).up (by decide)).up (by decide))) | (have _g := d64; rw [if_neg (by omega)] at hD; exact hK i h2 sc2 A1 (Or.inr ⟨hD.symm, by omega⟩) d64 (fun j e1 e2 => (hs2 j e1 e2).trans (hs1 j e1 e2)) (mf2.at b65) hA1 (by obtain ⟨l1, e1⟩ := hpf; have k3 : mZ A1 (m9, n9, bs ++ l1) := (by rw [← e1]; exact hT1.2); exact k3.pf) mk2 (mf1.tr (mf2.wk (L' := [64, 65, 70, 72, 73])) (by decide))) | (rw [List.drop_of_length_le (i := i) (l := y.2) (by omega), mi] at hD; exact hK i h' sc1 A1 (Or.inl ⟨hD.symm, by omega⟩) b64 hs1 b65 hA1 (by obtain ⟨l1, e1⟩ := hpf; have k3 : mZ A1 (m9, n9, bs ++ l1) := (by rw [← e1]; exact hT1.2); exact k3.pf) mk1' mf1)
      · refine az_aload_n dX12_moons_73 ?_
        refine az_cV0 (st := []) dX12_moons_74 ml_X12_324 d64 (m_goesNight (d := d - 1) (p := mpk v (m9, n9, b9) 0) hw hby d64 b22 (mf2.at b65) hT1 (fun tb h => (by have := mpk_lt hw (Nat.zero_le _) h; omega)) (fun tb h => wnext_60 hw (Nat.zero_le _) (by omega) h) ?_)
        intro A2 k1 k2
        rw [wnext_dz hw (Nat.zero_le _) (by omega)] at k1
        have hpf2 : ∃ l, (dz (rd_w v) v.2.2.2.2.2.2.2.1 v.2.2.2.2.2.2.2.2 (m9, n9, b9) (lN 0)).2.2.2 = bs ++ l := (by obtain ⟨l1, e1⟩ := hpf; obtain ⟨l2, e2⟩ := wnext_pf (m9, n9, b9) (mpk v (m9, n9, b9) 0); rw [wnext_dz hw (Nat.zero_le _) (by omega)] at e2; exact ⟨l1 ++ l2, by rw [e2, ← List.append_assoc, ← e1]⟩)
        obtain ⟨g70, b70⟩ := mk2.J (q := 70) (n := 366)
        refine az_aload_n dX12_moons_77 ?_
        refine az_cV0 (st := []) dX12_moons_78 ml_X12_278 (az_up_ne d64) (m_lengthNow (d := d - 1) (bs := (dz (rd_w v) v.2.2.2.2.2.2.2.1 v.2.2.2.2.2.2.2.2 (m9, n9, b9) (lN 0)).2.2.2) (mo := (dz (rd_w v) v.2.2.2.2.2.2.2.1 v.2.2.2.2.2.2.2.2 (m9, n9, b9) (lN 0)).2.1) (ni := (dz (rd_w v) v.2.2.2.2.2.2.2.1 v.2.2.2.2.2.2.2.2 (m9, n9, b9) (lN 0)).2.2.1) (by omega) hw hby2 (az_up_ne d64) az_up_eq k1 (az_up_ne b70) ?_)
        intro g9 hm
        refine az_aload_n dX12_moons_81 ?_
        refine az_getf (v := .ref 92) dX12_moons_82 fl_X12_100 (az_up_ne (az_up_ne d64)) ?_
        refine az_bipush (v := nI 40) dX12_moons_85 ?_
        refine az_iload_n dX12_moons_87 ?_
        refine az_imulN dX12_moons_88 ?_
        refine az_iload dX12_moons_89 ?_
        refine az_iaddN dX12_moons_91 ?_
        refine az_laldN (j := (40 * n) + i) dX12_moons_92 (az_up_ne (az_up_ne (mf2.at (mf1.at h92)))) ?_
        rw [r5 i (by omega)]
        refine az_lcmp_eq (tgt := 100) dX12_moons_93 dX12_moons_94 (fun c93 => ?_) (fun c93 => ?_)
        · refine az_iincN (n := 1) (ls' := [(0, .ref 64), (1, .int (nI n)), (2, .int (nI 0)), (3, .int (nI bt9)), (4, .int (nI k9)), (5, .int (nI (i + 1)))]) dX12_moons_100 ?_
          refine az_goto (tgt := 54) dX12_moons_103 ?_
          rw [if_pos (by omega), if_pos c93] at hD
          exact ih _ (by omega) (i + 1) (dz (rd_w v) v.2.2.2.2.2.2.2.1 v.2.2.2.2.2.2.2.2 (m9, n9, b9) (lN 0)).2.1 (dz (rd_w v) v.2.2.2.2.2.2.2.1 v.2.2.2.2.2.2.2.2 (m9, n9, b9) (lN 0)).2.2.1 (dz (rd_w v) v.2.2.2.2.2.2.2.1 v.2.2.2.2.2.2.2.2 (m9, n9, b9) (lN 0)).2.2.2 _ sc2 A2 bt9 k9 hb9 hk9 hK rfl (by omega) hby2 hpf2 (az_up_ne (az_up_ne d64)) (fun j e1 e2 => (hs2 j e1 e2).trans (hs1 j e1 e2)) (az_up_ne az_up_eq) k1 (fun j hj => (k2 j hj).trans (hA1 j hj)) (mk.uJ (mk.uA mk2) rfl) (((mf1.tr (mf2.wk (L' := [64, 65, 70, 72, 73])) (by decide)).up (by decide)).up (by decide)) hD
        · refine az_goto (tgt := 106) dX12_moons_97 ?_
          first | (have _g := k1; rw [if_pos (by omega), if_neg c93] at hD; exact hK i _ sc2 A2 (Or.inr ⟨hD.symm, by omega⟩) (az_up_ne (az_up_ne d64)) (fun j e1 e2 => (hs2 j e1 e2).trans (hs1 j e1 e2)) (az_up_ne az_up_eq) (fun j hj => (k2 j hj).trans (hA1 j hj)) (by obtain ⟨l1, e1⟩ := hpf2; have k3 : mZ A2 ((dz (rd_w v) v.2.2.2.2.2.2.2.1 v.2.2.2.2.2.2.2.2 (m9, n9, b9) (lN 0)).2.1, (dz (rd_w v) v.2.2.2.2.2.2.2.1 v.2.2.2.2.2.2.2.2 (m9, n9, b9) (lN 0)).2.2.1, bs ++ l1) := (by rw [← e1]; exact k1.2); exact k3.pf) (mk.uJ (mk.uA mk2) rfl) (((mf1.tr (mf2.wk (L' := [64, 65, 70, 72, 73])) (by decide)).up (by decide)).up (by decide))) | (have _g := d64; rw [if_neg (by omega)] at hD; exact hK i h2 sc2 A1 (Or.inr ⟨hD.symm, by omega⟩) d64 (fun j e1 e2 => (hs2 j e1 e2).trans (hs1 j e1 e2)) (mf2.at b65) hA1 (by obtain ⟨l1, e1⟩ := hpf; have k3 : mZ A1 (m9, n9, bs ++ l1) := (by rw [← e1]; exact hT1.2); exact k3.pf) mk2 (mf1.tr (mf2.wk (L' := [64, 65, 70, 72, 73])) (by decide))) | (rw [List.drop_of_length_le (i := i) (l := y.2) (by omega), mi] at hD; exact hK i h' sc1 A1 (Or.inl ⟨hD.symm, by omega⟩) b64 hs1 b65 hA1 (by obtain ⟨l1, e1⟩ := hpf; have k3 : mZ A1 (m9, n9, bs ++ l1) := (by rw [← e1]; exact hT1.2); exact k3.pf) mk1' mf1)
  have loopK : ∀ (k : Nat) (kk bt9 : Nat) (h' : az_Hp) (sc1 : Nat → Value) (A1 : Nat → Nat), 10 - kk = k → (kk ≤ 10) → (bt9 = mb (rd_w v) v.2.2.2.2.2.2.2.1 v.2.2.2.2.2.2.2.2 y.2 ni bs kk) → (h'.2 64 = some (mo_o sc1)) → ((∀ j, j ≠ 18 → j ≠ 22 → sc1 j = sc j)) → (h'.2 65 = some (az_I 3318 (fun j => nI (A1 j)))) → (∀ j, (j < 111 ∨ (114 ≤ j ∧ j < 145) ∨ 205 ≤ j) → A1 j = A j) → (∀ q, q < bs.length → A1 (145 + q) = bs.getD q 0) → (mk h') → (mf hp h' [64, 65, 70, 72, 73]) → az_W mX12_moons d 0 0 31 [(0, .ref 64), (1, .int (nI n)), (2, .int (nI 0)), (3, .int (nI bt9)), (4, .int (nI kk))] [] h' Q := by
    intro k
    induction k using Nat.strongRecOn with
    | _ k ih =>
    intro kk bt9 h' sc1 A1 hk hkk hbt b64 hs1 b65 hA1 hpf mk1' mf1
    have h9 := mb_lt (w := rd_w v) (pk := v.2.2.2.2.2.2.2.1) (sl := v.2.2.2.2.2.2.2.2) (l := y.2) (ni := ni) (bs := bs) kk
    have h8 : 2 ^ kk ≤ 2 ^ 10 := Nat.pow_le_pow_right (by decide) hkk
    have hbl : bt9 < 2 ^ 31 := (by rw [hbt]; omega)
    refine az_iload dX12_moons_31 ?_
    refine az_bipush (v := nI 10) dX12_moons_33 ?_
    refine az_icmp_geN (tgt := 134) dX12_moons_35 (fun c35 => ?_) (fun c35 => ?_)
    · refine az_aload_n dX12_moons_134 ?_
      refine az_cV0 (st := []) dX12_moons_135 ml_X12_356 b64 (m_isAgain (d := d - 1) (wn := wn) b64 b65 (mf1.at h74) ?_)
      intro A2 k1 k2
      refine az_aload_n dX12_moons_138 ?_
      refine az_cV0 (st := []) dX12_moons_139 ml_X12_359 (az_up_ne b64) (m_isAgainBy (d := d - 1) (wn := wb) (az_up_ne b64) az_up_eq (az_up_ne (mf1.at h75)) ?_)
      intro A4 k3 k4
      have hA4 : A4 = A := (funext fun j => (by by_cases q1 : 145 ≤ j ∧ j < 205; rw [show j = 145 + (j - 145) by omega, k3 _ (by omega)]; exact hwb _ (by omega); rw [k4 j (by omega)]; by_cases q2 : 111 ≤ j ∧ j < 114; rw [show j = 111 + (j - 111) by omega, k1 _ (by omega)]; exact hwn _ (by omega); rw [k2 j (by omega)]; exact hA1 j (by omega)))
      subst hA4
      refine az_iload_n dX12_moons_142 ?_
      exact az_iret dX12_moons_143 (by rw [hbt, show kk = 10 by omega]; exact hQ _ sc1 (az_up_ne (az_up_ne b64)) hs1 az_up_eq (mk.uA (mk.uA mk1')) ((mf1.up (by decide)).up (by decide)))
    · refine az_aload_n dX12_moons_38 ?_
      refine az_cV0 (st := []) dX12_moons_39 ml_X12_356 b64 (m_isAgain (d := d - 1) (wn := wn) b64 b65 (mf1.at h74) ?_)
      intro A2 k1 k2
      refine az_aload_n dX12_moons_42 ?_
      refine az_getf (v := .ref 65) dX12_moons_43 fl_X12_13 (az_up_ne b64) ?_
      refine az_bipush (v := nI 111) dX12_moons_46 ?_
      refine az_iload dX12_moons_48 ?_
      refine az_iastN (j := 111) dX12_moons_50 az_up_eq ?_
      rw [az_s_nI]
      refine az_iconst (v := nI 0) dX12_moons_51 ?_
      refine az_istore (ls' := [(0, .ref 64), (1, .int (nI n)), (2, .int (nI 0)), (3, .int (nI bt9)), (4, .int (nI kk)), (5, .int (nI 0))]) dX12_moons_52 ?_
      have hz0 := k1 0 (by decide)
      have hz1 := k1 1 (by decide)
      have hz2 := k1 2 (by decide)
      rw [hwn 1 (by decide)] at hz1
      rw [hwn 2 (by decide)] at hz2
      have hKE : ∀ j, (j < 111 ∨ (114 ≤ j ∧ j < 145) ∨ 205 ≤ j) → (az_s A2 111 kk) j = A j := (fun j hj => (by rw [az_s_ne (by omega), k2 j (by omega)]; exact hA1 j hj))
      have hT3 : mT (az_s A2 111 kk) v (kk, ni, bs) := ⟨hT.1.keep hw hKE, az_s_eq, (by rw [az_s_ne (by decide)]; exact hz1.trans hA112), (by rw [az_s_ne (by decide)]; exact hz2.trans hA113), fun q hq => (by have h60 := hb.1; have hq : q < bs.length := hq; rw [az_s_ne (by omega), k2 _ (by omega)]; exact hpf q hq)⟩
      refine loopI _ 0 kk ni bs _ sc1 (az_s A2 111 kk) bt9 kk (by omega) (by omega) (fun i5 h2 sc2 A5 hmi d64 hs2 d65 hA5 hpf5 mk2 mf2 => ?_) rfl (Nat.zero_le _) hb ⟨[], (List.append_nil _).symm⟩ (az_up_ne (az_up_ne b64)) hs1 az_up_eq hT3 hKE (mk.uA (mk.uA mk1')) ((mf1.up (by decide)).up (by decide)) (by rw [List.drop_zero])
      refine az_iload_n dX12_moons_106 ?_
      refine az_iload dX12_moons_107 ?_
      refine az_aload_n dX12_moons_109 ?_
      refine az_getf (v := .ref 91) dX12_moons_110 fl_X12_97 d64 ?_
      refine az_iload_n dX12_moons_113 ?_
      refine az_ialdN (j := n) dX12_moons_114 (mf2.at h91) ?_
      rw [r2]
      refine az_icmp_neN (tgt := 125) dX12_moons_115 (fun c115 => ?_) (fun c115 => ?_)
      · refine az_iconst (v := nI 0) dX12_moons_125 ?_
        refine az_iorN dX12_moons_126 ?_
        refine az_istore_n (ls' := [(0, .ref 64), (1, .int (nI n)), (2, .int (nI 0)), (3, .int (nI (bt9 ||| 0))), (4, .int (nI kk)), (5, .int (nI i5))]) dX12_moons_127 ?_
        refine az_iincN (n := 1) (ls' := [(0, .ref 64), (1, .int (nI n)), (2, .int (nI 0)), (3, .int (nI (bt9 ||| 0))), (4, .int (nI (kk + 1))), (5, .int (nI i5))]) dX12_moons_128 ?_
        refine az_goto (tgt := 31) dX12_moons_131 ?_
        refine az_W.keep (ls' := [(0, .ref 64), (1, .int (nI n)), (2, .int (nI 0)), (3, .int (nI (bt9 ||| 0))), (4, .int (nI (kk + 1)))]) [0, 1, 2, 3, 4] rfl ?_
        exact ih _ (by omega) (kk + 1) _ h2 sc2 A5 rfl (by omega) (by rw [mb]; first | (have _g := c115; rw [if_neg (by omega)]; rw [hbt]) | (rw [if_pos (by omega), hbt, Nat.or_zero])) d64 hs2 d65 hA5 hpf5 mk2 mf2
      · refine az_iconst (v := nI 1) dX12_moons_118 ?_
        refine az_iload dX12_moons_119 ?_
        refine az_ishl1N dX12_moons_121 ?_
        refine az_goto (tgt := 126) dX12_moons_122 ?_
        refine az_iorN dX12_moons_126 ?_
        refine az_istore_n (ls' := [(0, .ref 64), (1, .int (nI n)), (2, .int (nI 0)), (3, .int (nI (bt9 ||| (2 ^ kk)))), (4, .int (nI kk)), (5, .int (nI i5))]) dX12_moons_127 ?_
        refine az_iincN (n := 1) (ls' := [(0, .ref 64), (1, .int (nI n)), (2, .int (nI 0)), (3, .int (nI (bt9 ||| (2 ^ kk)))), (4, .int (nI (kk + 1))), (5, .int (nI i5))]) dX12_moons_128 ?_
        refine az_goto (tgt := 31) dX12_moons_131 ?_
        refine az_W.keep (ls' := [(0, .ref 64), (1, .int (nI n)), (2, .int (nI 0)), (3, .int (nI (bt9 ||| (2 ^ kk)))), (4, .int (nI (kk + 1)))]) [0, 1, 2, 3, 4] rfl ?_
        exact ih _ (by omega) (kk + 1) _ h2 sc2 A5 rfl (by omega) (by rw [mb]; first | (have _g := c115; rw [if_neg (by omega)]; rw [hbt]) | (rw [if_pos (by omega), hbt, Nat.or_zero])) d64 hs2 d65 hA5 hpf5 mk2 mf2
  refine az_iconst (v := nI 0) dX12_moons_26 ?_
  refine az_istore_n (ls' := [(0, .ref 64), (1, .int (nI n)), (2, .int (nI 0)), (3, .int (nI 0))]) dX12_moons_27 ?_
  refine az_iconst (v := nI 0) dX12_moons_28 ?_
  refine az_istore (ls' := [(0, .ref 64), (1, .int (nI n)), (2, .int (nI 0)), (3, .int (nI 0)), (4, .int (nI 0))]) dX12_moons_29 ?_
  exact loopK _ 0 0 hp sc A rfl (Nat.zero_le _) rfl h64 (fun _ _ _ => rfl) h65 (fun _ _ => rfl) (fun q hq => hT.2.2.2.2 q hq) hkm mf.rf
set_option maxHeartbeats 4000000 in
set_option maxRecDepth 100000 in
theorem q_moons {d : Nat} {x : Int32} {tp fk mo ni : Nat} {bt : Nat → Nat} {fp : Int32} {v : rd_V} {bs : List Nat} {U : ln_U} {im : Nat → Option (rd_V × ln_Z)} {tr : Nat → Option (Nat × List Int64)} {hp : az_Hp} {Q : Option Value → az_Hp → Prop} (hd : 11 ≤ d) (hok : cs_ok ((tp, bt), (fk, fp), v, (mo, ni, bs), U, im, tr)) (hM : mm hp ((tp, bt), (fk, fp), v, (mo, ni, bs), U, im, tr)) (hQ2 : (∀ n, n < 4 → x ≠ nI n) → ∀ h', mm h' ((tp, bt), (fk, fp), v, (mo, ni, bs), U, im, tr) → az_fr hp h' 64 93 → Q (some (.int (-2))) h') (hQ6 : ∀ n, x = nI n → n < 4 → tr n = none → ∀ h', mm h' ((tp, bt), (fk, fp), v, (mo, ni, bs), U, im, tr) → az_fr hp h' 64 93 → Q (some (.int (-6))) h') (hQ4 : ∀ n y, x = nI n → n < 4 → tr n = some y → ¬ (1 ≤ y.2.length ∧ y.2.length ≤ 8) → ∀ h', mm h' ((tp, bt), (fk, fp), v, (mo, ni, bs), U, im, tr) → az_fr hp h' 64 93 → Q (some (.int (-4))) h') (hQ3 : ∀ n y, x = nI n → n < 4 → tr n = some y → 1 ≤ y.2.length → y.2.length ≤ 8 → ¬ cs_ln y.2 (lN 0) → ∀ h', mm h' ((tp, bt), (fk, fp), v, (mo, ni, bs), U, im, tr) → az_fr hp h' 64 93 → Q (some (.int (-3))) h') (hQ : ∀ n y, x = nI n → n < 4 → tr n = some y → 1 ≤ y.2.length → y.2.length ≤ 8 → cs_ln y.2 (lN 0) → ∀ h', mm h' ((tp, bt), (fk, fp), v, (mo, ni, bs), U, im, tr) → az_fr hp h' 64 93 → Q (some (.int (nI (mb (rd_w v) v.2.2.2.2.2.2.2.1 v.2.2.2.2.2.2.2.2 y.2 ni bs 10)))) h') : az_M mX12_moons d 0 0 [.ref 64, .int x] hp Q := by
  obtain ⟨sc0, A0, tf0, hI0, rs0, rm0, nu0, o1, o2, -⟩ := id hM
  have hgd : rd_good v := hok.2.2.1
  have hw : ln_ok (rd_w v) := hgd.1
  have hba : ln_ba (rd_w v) bs := hok.2.2.2.1
  have hb : ln_by (rd_w v) bs := hba.b
  have hlen := hb.2.2
  have h60 := hb.1
  have hU10 : U.length ≤ 10 := hok.2.2.2.2.1
  have ht1 := hw.1
  have ht3 := hw.2.1
  refine az_M.of rfl (Nat.le_of_ble_eq_true rfl) ?_
  show az_W _ _ _ _ 0 [(0, .ref 64), (1, .int x)] [] _ _
  refine az_aload_n dX12_moons_0 ?_
  refine az_iconst (v := nI 0) dX12_moons_1 ?_
  refine az_putf (fs' := [.int (nI 0), .ref 65, .ref 66, .ref 67, .ref 68, sc0 5, fI (sc0 6), sc0 7, sc0 8, fI (sc0 9), fI (sc0 10), sc0 11, fI (sc0 12), sc0 13, sc0 14, .ref 69, .ref 70, .ref 71, sc0 18, .ref 72, .ref 73, .ref 74, sc0 22, sc0 23, .ref 75, sc0 25, .ref 76, .ref 77, .ref 78, sc0 29, .ref 79, .ref 80, .ref 81, .ref 82, .ref 83, .ref 84, .ref 85, sc0 37, .ref 86, .ref 87, .ref 88, .ref 89, .ref 90, .ref 91, .ref 92]) dX12_moons_2 fl_X12_1 o1 ?_
  obtain ⟨h1, hf1, hM1, hh1⟩ : ∃ h1, az_fr hp h1 64 93 ∧ mm h1 ((tp, bt), (fk, fp), v, (mo, ni, bs), U, im, tr) ∧ h1 = az_up hp 64 (mo_o (su sc0 0 (.int (nI 0)))) := ⟨_, az_fr.rf.up, hM.O (sc := su sc0 0 (.int (nI 0))) o2.1 o2.2.1 o2.2.2, rfl⟩
  rw [show (az_up hp 64 (az_O 11 [.int (nI 0), .ref 65, .ref 66, .ref 67, .ref 68, sc0 5, fI (sc0 6), sc0 7, sc0 8, fI (sc0 9), fI (sc0 10), sc0 11, fI (sc0 12), sc0 13, sc0 14, .ref 69, .ref 70, .ref 71, sc0 18, .ref 72, .ref 73, .ref 74, sc0 22, sc0 23, .ref 75, sc0 25, .ref 76, .ref 77, .ref 78, sc0 29, .ref 79, .ref 80, .ref 81, .ref 82, .ref 83, .ref 84, .ref 85, sc0 37, .ref 86, .ref 87, .ref 88, .ref 89, .ref 90, .ref 91, .ref 92])) = h1 from hh1.symm]
  obtain ⟨sc, A, tf, hI, rs, rm, nu, a1, a2, a3, a4, a5, a6, a7, a8, a9, a10, a11, a12, a13, a14⟩ := id hM1
  have a4 : mT A v (mo, ni, bs) := a4
  have a5 : mU A U := a5
  have a7 : mI A hI im := a7
  have a9 : ∀ j, j < tp → tf j = bt j := a9
  have a13 : mR rs rm nu tr := a13
  obtain ⟨f74, e74⟩ := a14.I (q := 74) (n := 3)
  obtain ⟨f75, e75⟩ := a14.I (q := 75) (n := 60)
  refine az_aload_n dX12_moons_5 ?_
  refine az_iload_n dX12_moons_6 ?_
  refine az_iconst (v := nI 0) dX12_moons_7 ?_
  refine az_cV0 (st := []) dX12_moons_8 ml_X12_462 a1 (m_noLong (d := d - 1) (lo := nI 0) (by omega) a1 a10 a11 a12 a13 ?_ ?_ ?_ ?_ ?_)
  · intro hno
    refine az_istore_n (ls' := [(0, .ref 64), (1, .int x), (2, .int ((-2)))]) dX12_moons_11 ?_
    refine az_iload_n dX12_moons_12 ?_
    refine az_if_eq (tgt := 18) dX12_moons_13 (fun c13 => ?_) (fun c13 => ?_)
    · exact absurd c13 (by decide)
    · refine az_iload_n dX12_moons_16 ?_
      exact az_iret dX12_moons_17 (by first | exact hQ2 hno h1 hM1 hf1 | exact hQ6 n hx hn hno h1 hM1 hf1 | exact hQ4 n y hx hn hy hno h1 hM1 hf1 | exact hQ3 n y hx hn hy h1' h8' hno h1 hM1 hf1)
  · intro n hx hn hno
    refine az_istore_n (ls' := [(0, .ref 64), (1, .int x), (2, .int ((-6)))]) dX12_moons_11 ?_
    refine az_iload_n dX12_moons_12 ?_
    refine az_if_eq (tgt := 18) dX12_moons_13 (fun c13 => ?_) (fun c13 => ?_)
    · exact absurd c13 (by decide)
    · refine az_iload_n dX12_moons_16 ?_
      exact az_iret dX12_moons_17 (by first | exact hQ2 hno h1 hM1 hf1 | exact hQ6 n hx hn hno h1 hM1 hf1 | exact hQ4 n y hx hn hy hno h1 hM1 hf1 | exact hQ3 n y hx hn hy h1' h8' hno h1 hM1 hf1)
  · intro n y hx hn hy hno
    refine az_istore_n (ls' := [(0, .ref 64), (1, .int x), (2, .int ((-4)))]) dX12_moons_11 ?_
    refine az_iload_n dX12_moons_12 ?_
    refine az_if_eq (tgt := 18) dX12_moons_13 (fun c13 => ?_) (fun c13 => ?_)
    · exact absurd c13 (by decide)
    · refine az_iload_n dX12_moons_16 ?_
      exact az_iret dX12_moons_17 (by first | exact hQ2 hno h1 hM1 hf1 | exact hQ6 n hx hn hno h1 hM1 hf1 | exact hQ4 n y hx hn hy hno h1 hM1 hf1 | exact hQ3 n y hx hn hy h1' h8' hno h1 hM1 hf1)
  · intro n y hx hn hy h1' h8' hno
    rw [show (nI 0).toInt64 = lN 0 from (by decide)] at hno
    refine az_istore_n (ls' := [(0, .ref 64), (1, .int x), (2, .int ((-3)))]) dX12_moons_11 ?_
    refine az_iload_n dX12_moons_12 ?_
    refine az_if_eq (tgt := 18) dX12_moons_13 (fun c13 => ?_) (fun c13 => ?_)
    · exact absurd c13 (by decide)
    · refine az_iload_n dX12_moons_16 ?_
      exact az_iret dX12_moons_17 (by first | exact hQ2 hno h1 hM1 hf1 | exact hQ6 n hx hn hno h1 hM1 hf1 | exact hQ4 n y hx hn hy hno h1 hM1 hf1 | exact hQ3 n y hx hn hy h1' h8' hno h1 hM1 hf1)
  · intro n y hx hn hy h1' h8' hln
    rw [show (nI 0).toInt64 = lN 0 from (by decide)] at hln
    have h3 := a13 n hn
    rw [hy] at h3
    obtain ⟨r1, r2, r3, r4, r5⟩ := h3
    refine az_istore_n (ls' := [(0, .ref 64), (1, .int x), (2, .int (nI 0))]) dX12_moons_11 ?_
    refine az_iload_n dX12_moons_12 ?_
    refine az_if_eqN (tgt := 18) dX12_moons_13 (fun c13 => ?_) (fun c13 => ?_)
    · subst hx
      refine az_aload_n dX12_moons_18 ?_
      refine az_cV0 (st := []) dX12_moons_19 ml_X12_321 a1 (m_stores (d := d - 1) a1 a3 e74 ?_)
      intro wn hwn
      refine az_aload_n dX12_moons_22 ?_
      refine az_cV0 (st := []) dX12_moons_23 ml_X12_350 (az_up_ne a1) (m_storesBy (d := d - 1) (az_up_ne a1) (az_up_ne a3) (az_up_ne e75) ?_)
      intro wb hwb
      exact m_moonsW (y := y) hgd hb (by omega) hn h8' (az_up_ne (az_up_ne a11)) (az_up_ne (az_up_ne a12)) r2 r5 (az_up_ne (az_up_ne a1)) (az_up_ne (az_up_ne a3)) a4 (az_up_ne az_up_eq) az_up_eq hwn hwb (mk.uI (mk.uI a14 rfl) rfl) (fun h3 sc3 d64 hs3 d65 mk3 mf3 => hQ n y rfl hn hy h1' h8' hln h3 (mm.go a2 a6 a7 a8 a9 a10 a11 a12 a13 (L := [64, 65, 70, 72, 73, 74, 75]) (((mf.rf.up (by decide)).up (by decide)).tr (mf3.wk (L' := [64, 65, 70, 72, 73, 74, 75])) (by decide)) (by decide) mk3 d64 ⟨hs3 5 (by decide) (by decide), hs3 13 (by decide) (by decide), hs3 14 (by decide) (by decide)⟩ d65 a4 a5 (fun j hj => rfl)) (hf1.tr (mf.fr (L := [64, 65, 70, 72, 73, 74, 75]) (((mf.rf.up (by decide)).up (by decide)).tr (mf3.wk (L' := [64, 65, 70, 72, 73, 74, 75])) (by decide)))))
    · exact absurd c13 (by omega)

