/-! The model: where so manieth ones stand -/
set_option maxHeartbeats 4000000 in
set_option maxRecDepth 100000 in
theorem m_placeW {d : Nat} {sc : Nat → Value} {A : Nat → Nat} {v : rd_V} {mo ni : Nat} {bs : List Nat} {hp : az_Hp} {Q : Option Value → az_Hp → Prop} {l9 k0 : Nat} {g1 g2 : Nat → Nat} {r : Option Nat × Nat × Nat} (hd : 2 ≤ d) (hw : ln_ok (rd_w v)) (hb : ln_by (rd_w v) bs) (b1 : hp.2 64 = some (mo_o sc)) (b3 : hp.2 65 = some (az_I 3318 (fun j => nI (A j)))) (hT : mT A v (mo, ni, bs)) (b70 : hp.2 70 = some (az_J 366 (fun j => lN (g1 j)))) (b71 : hp.2 71 = some (az_J 366 (fun j => lN (g2 j)))) (hm : ∀ k x, k ≤ bs.length → x < 6 → g2 (6 * k + x) < 2 ^ 63) (hk63 : k0 + 1 < 2 ^ 63) (hr0 : GO (rd_w v) bs g2 g1 k0 = r) (hrs : r.1 ≠ none) (hQ : Q (some (.long (lN r.2.2))) hp) : az_W mX12_place d 0 0 53 [(0, .ref 64), (1, .int (nI l9)), (2, .long (lN (k0 + 1)))] [] hp Q := by
  have h60 := hb.1
  have hA113 : A 113 = bs.length := hT.2.2.2.1
  have inner : ∀ (k : Nat) (k9 i : Nat) (c : Option Nat) (l q : Nat) (S : Option Nat × Nat × Nat) (hk9 : k9 ≤ bs.length) (hc : ∀ x, c = some x → x < 6) (hc1 : k9 ≠ 0 → ∃ x, c = some x) (hSn : S.1 ≠ none) (hK : ∀ i : Nat, az_W mX12_place d 0 0 168 [(0, .ref 64), (1, .int (nI l9)), (2, .long (lN (k0 + 1))), (4, .long (lN (S.2.1 + 1))), (6, .long (lN S.2.2)), (8, .int (ln_opt c)), (9, .int (nI k9)), (10, .int (nI i)), (11, .int (ln_opt S.1))] [] hp Q), 12 - i = k → (i ≤ 12) → (l + 1 < 2 ^ 63) → (ln_scan ((fun k x => g2 (6 * k + x)) k9) ((fun k x => g1 (6 * k + x)) k9) ((mP (rd_w v) bs k9 c).drop i) l q = S) → az_W mX12_place d 0 0 93 [(0, .ref 64), (1, .int (nI l9)), (2, .long (lN (k0 + 1))), (4, .long (lN (l + 1))), (6, .long (lN q)), (8, .int (ln_opt c)), (9, .int (nI k9)), (10, .int (nI i)), (11, .int (ln_opt (mP (rd_w v) bs k9 c)[i]?))] [] hp Q := by
    intro k
    induction k using Nat.strongRecOn with
    | _ k ih =>
    intro k9 i c l q S hk9 hc hc1 hSn hK hk hi hl hS
    have hP12 := mP_len hw (bs := bs) (k := k9) (c := c)
    refine az_lload dX12_place_93 ?_
    obtain ⟨x, hx⟩ : ∃ x, (mP (rd_w v) bs k9 c)[i]? = some x := (by cases hq : (mP (rd_w v) bs k9 c)[i]? with | some x => exact ⟨x, rfl⟩ | none => exfalso; rw [List.drop_eq_nil_of_le (List.getElem?_eq_none_iff.mp hq)] at hS; exact hSn (by rw [← hS]; rfl))
    have hx6 : x < 6 := mP_lt hw (List.mem_of_getElem? hx)
    have hxm := hm k9 x hk9 hx6
    have hil : i < (mP (rd_w v) bs k9 c).length := (List.getElem?_eq_some_iff.mp hx).1
    rw [hx, show ln_opt (some x) = nI x from rfl]
    rw [scan_get hx] at hS
    dsimp only at hS
    refine az_aload_n dX12_place_95 ?_
    refine az_getf (v := .ref 71) dX12_place_96 fl_X12_37 b1 ?_
    refine az_bipush (v := nI 6) dX12_place_99 ?_
    refine az_iload dX12_place_101 ?_
    refine az_imulN dX12_place_103 ?_
    refine az_iload dX12_place_104 ?_
    refine az_iaddN dX12_place_106 ?_
    refine az_laldN (j := (6 * k9) + x) dX12_place_107 b71 ?_
    refine az_lcmp_leN (tgt := 168) dX12_place_108 dX12_place_109 (fun c108 => ?_) (fun c108 => ?_)
    · rw [if_pos (by omega)] at hS
      subst hS
      exact hK i
    · refine az_lload dX12_place_112 ?_
      refine az_aload_n dX12_place_114 ?_
      refine az_getf (v := .ref 71) dX12_place_115 fl_X12_37 b1 ?_
      refine az_bipush (v := nI 6) dX12_place_118 ?_
      refine az_iload dX12_place_120 ?_
      refine az_imulN dX12_place_122 ?_
      refine az_iload dX12_place_123 ?_
      refine az_iaddN dX12_place_125 ?_
      refine az_laldN (j := (6 * k9) + x) dX12_place_126 b71 ?_
      refine az_lsubN dX12_place_127 (by omega) ?_
      rw [show l + 1 - g2 (6 * k9 + x) = (l - g2 (6 * k9 + x)) + 1 by omega]
      refine az_lstore (ls' := [(0, .ref 64), (1, .int (nI l9)), (2, .long (lN (k0 + 1))), (4, .long (lN ((l - g2 (6 * k9 + x)) + 1))), (6, .long (lN q)), (8, .int (ln_opt c)), (9, .int (nI k9)), (10, .int (nI i)), (11, .int (nI x))]) dX12_place_128 ?_
      refine az_lload dX12_place_130 ?_
      refine az_aload_n dX12_place_132 ?_
      refine az_getf (v := .ref 70) dX12_place_133 fl_X12_33 b1 ?_
      refine az_bipush (v := nI 6) dX12_place_136 ?_
      refine az_iload dX12_place_138 ?_
      refine az_imulN dX12_place_140 ?_
      refine az_iload dX12_place_141 ?_
      refine az_iaddN dX12_place_143 ?_
      refine az_laldN (j := (6 * k9) + x) dX12_place_144 b70 ?_
      refine az_laddN dX12_place_145 ?_
      refine az_lstore (ls' := [(0, .ref 64), (1, .int (nI l9)), (2, .long (lN (k0 + 1))), (4, .long (lN ((l - g2 (6 * k9 + x)) + 1))), (6, .long (lN (q + (g1 ((6 * k9) + x))))), (8, .int (ln_opt c)), (9, .int (nI k9)), (10, .int (nI i)), (11, .int (nI x))]) dX12_place_146 ?_
      refine az_iincN (n := 1) (ls' := [(0, .ref 64), (1, .int (nI l9)), (2, .long (lN (k0 + 1))), (4, .long (lN ((l - g2 (6 * k9 + x)) + 1))), (6, .long (lN (q + (g1 ((6 * k9) + x))))), (8, .int (ln_opt c)), (9, .int (nI k9)), (10, .int (nI (i + 1))), (11, .int (nI x))]) dX12_place_148 ?_
      refine az_aload_n dX12_place_151 ?_
      refine az_iload dX12_place_152 ?_
      refine az_iconst (v := nI 1) dX12_place_154 ?_
      refine az_isub dX12_place_155 ?_
      refine az_iload dX12_place_156 ?_
      refine az_iload dX12_place_158 ?_
      refine az_cV0 (st := []) dX12_place_160 ml_X12_264 b1 (m_partOf (d := d - 1) (v := v) (k := k9) (c := c) (i := i + 1) (by omega) hw hb hk9 hc hc1 (by omega) b1 b3 hT ?_)
      refine az_istore (ls' := [(0, .ref 64), (1, .int (nI l9)), (2, .long (lN (k0 + 1))), (4, .long (lN ((l - g2 (6 * k9 + x)) + 1))), (6, .long (lN (q + (g1 ((6 * k9) + x))))), (8, .int (ln_opt c)), (9, .int (nI k9)), (10, .int (nI (i + 1))), (11, .int (ln_opt (mP (rd_w v) bs k9 c)[i + 1]?))]) dX12_place_163 ?_
      refine az_goto (tgt := 93) dX12_place_165 ?_
      rw [if_neg (by omega)] at hS
      exact ih _ (by omega) k9 (i + 1) c (l - g2 (6 * k9 + x)) (q + g1 (6 * k9 + x)) S hk9 hc hc1 hSn hK rfl (by omega) (by omega) hS
  have outer : ∀ (k : Nat) (k9 : Nat) (c : Option Nat) (l q : Nat), bs.length + 1 - k9 = k → (k9 ≤ bs.length + 1) → (l + 1 < 2 ^ 63) → (∀ x, c = some x → x < 6) → (k9 ≠ 0 → ∃ x, c = some x) → (k9 ≤ bs.length → ln_go (rd_w v) bs (fun k x => g2 (6 * k + x)) (fun k x => g1 (6 * k + x)) (bs.length - k9) k9 (ln_scan ((fun k x => g2 (6 * k + x)) k9) ((fun k x => g1 (6 * k + x)) k9) (mP (rd_w v) bs k9 c) l q).1 (ln_scan ((fun k x => g2 (6 * k + x)) k9) ((fun k x => g1 (6 * k + x)) k9) (mP (rd_w v) bs k9 c) l q).2.1 (ln_scan ((fun k x => g2 (6 * k + x)) k9) ((fun k x => g1 (6 * k + x)) k9) (mP (rd_w v) bs k9 c) l q).2.2 = r) → (k9 = bs.length + 1 → (c, l, q) = r) → az_W mX12_place d 0 0 65 [(0, .ref 64), (1, .int (nI l9)), (2, .long (lN (k0 + 1))), (4, .long (lN (l + 1))), (6, .long (lN q)), (8, .int (ln_opt c)), (9, .int (nI k9))] [] hp Q := by
    intro k
    induction k using Nat.strongRecOn with
    | _ k ih =>
    intro k9 c l q hk hk9 hl hc hc1 hr1 hr2
    refine az_iload dX12_place_65 ?_
    refine az_aload_n dX12_place_67 ?_
    refine az_getf (v := .ref 65) dX12_place_68 fl_X12_13 b1 ?_
    refine az_bipush (v := nI 113) dX12_place_71 ?_
    refine az_ialdN (j := 113) dX12_place_73 b3 ?_
    rw [hA113]
    refine az_icmp_gtN (tgt := 178) dX12_place_74 (fun c74 => ?_) (fun c74 => ?_)
    · refine az_lload dX12_place_178 ?_
      exact az_lret dX12_place_180 (by have hr := hr2 (by omega); subst hr; exact hQ)
    · refine az_iconst (v := nI 0) dX12_place_77 ?_
      refine az_istore (ls' := [(0, .ref 64), (1, .int (nI l9)), (2, .long (lN (k0 + 1))), (4, .long (lN (l + 1))), (6, .long (lN q)), (8, .int (ln_opt c)), (9, .int (nI k9)), (10, .int (nI 0))]) dX12_place_78 ?_
      refine az_aload_n dX12_place_80 ?_
      refine az_iload dX12_place_81 ?_
      refine az_iconst (v := nI 1) dX12_place_83 ?_
      refine az_isub dX12_place_84 ?_
      refine az_iload dX12_place_85 ?_
      refine az_iconst (v := nI 0) dX12_place_87 ?_
      refine az_cV0 (st := []) dX12_place_88 ml_X12_264 b1 (m_partOf (d := d - 1) (v := v) (k := k9) (c := c) (i := 0) (by omega) hw hb (by omega) hc hc1 (by omega) b1 b3 hT ?_)
      refine az_istore (ls' := [(0, .ref 64), (1, .int (nI l9)), (2, .long (lN (k0 + 1))), (4, .long (lN (l + 1))), (6, .long (lN q)), (8, .int (ln_opt c)), (9, .int (nI k9)), (10, .int (nI 0)), (11, .int (ln_opt (mP (rd_w v) bs k9 c)[0]?))]) dX12_place_91 ?_
      obtain ⟨S, hS⟩ : ∃ S, ln_scan ((fun k x => g2 (6 * k + x)) k9) ((fun k x => g1 (6 * k + x)) k9) (mP (rd_w v) bs k9 c) l q = S := ⟨_, rfl⟩
      have hSn : S.1 ≠ none := (fun hn => (by have hr := hr1 (by omega); rw [hS, hn, go_none] at hr; exact hrs (by rw [← hr])))
      refine inner _ k9 0 c l q S (by omega) hc hc1 hSn ?_ rfl (Nat.zero_le _) hl (by rw [List.drop_zero]; exact hS)
      intro i
      refine az_iload dX12_place_168 ?_
      refine az_istore (ls' := [(0, .ref 64), (1, .int (nI l9)), (2, .long (lN (k0 + 1))), (4, .long (lN (S.2.1 + 1))), (6, .long (lN S.2.2)), (8, .int (ln_opt S.1)), (9, .int (nI k9)), (10, .int (nI i)), (11, .int (ln_opt S.1))]) dX12_place_170 ?_
      refine az_iincN (n := 1) (ls' := [(0, .ref 64), (1, .int (nI l9)), (2, .long (lN (k0 + 1))), (4, .long (lN (S.2.1 + 1))), (6, .long (lN S.2.2)), (8, .int (ln_opt S.1)), (9, .int (nI (k9 + 1))), (10, .int (nI i)), (11, .int (ln_opt S.1))]) dX12_place_172 ?_
      refine az_goto (tgt := 65) dX12_place_175 ?_
      refine az_W.keep (ls' := [(0, .ref 64), (1, .int (nI l9)), (2, .long (lN (k0 + 1))), (4, .long (lN (S.2.1 + 1))), (6, .long (lN S.2.2)), (8, .int (ln_opt S.1)), (9, .int (nI (k9 + 1)))]) [0, 1, 2, 4, 6, 8, 9] rfl ?_
      obtain ⟨x, hx⟩ : ∃ x, S.1 = some x := (by cases hq : S.1 with | some x => exact ⟨x, rfl⟩ | none => exact absurd hq hSn)
      exact ih _ (by omega) (k9 + 1) S.1 S.2.1 S.2.2 rfl (by omega) (by have := scan_le (F := (fun k x => g2 (6 * k + x)) k9) (F2 := (fun k x => g1 (6 * k + x)) k9) (l := (mP (rd_w v) bs k9 c)) (k := l) (p := q); rw [hS] at this; omega) (fun x hx => mP_lt hw (scan_mem (by rw [hS]; exact hx))) (fun _ => ⟨x, hx⟩) (fun hle => (by have hr := hr1 (by omega); rw [hS, hx, show bs.length - k9 = (bs.length - (k9 + 1)) + 1 by omega, ln_go] at hr; rw [hx]; exact hr)) (fun hle => (by have hr := hr1 (by omega); rw [hS, show bs.length - k9 = 0 by omega, ln_go] at hr; exact hr))
  refine az_lload_n dX12_place_53 ?_
  refine az_lstore (ls' := [(0, .ref 64), (1, .int (nI l9)), (2, .long (lN (k0 + 1))), (4, .long (lN (k0 + 1)))]) dX12_place_54 ?_
  refine az_lconst (v := lN 0) dX12_place_56 ?_
  refine az_lstore (ls' := [(0, .ref 64), (1, .int (nI l9)), (2, .long (lN (k0 + 1))), (4, .long (lN (k0 + 1))), (6, .long (lN 0))]) dX12_place_57 ?_
  refine az_iconst (v := (-1)) dX12_place_59 ?_
  refine az_istore (ls' := [(0, .ref 64), (1, .int (nI l9)), (2, .long (lN (k0 + 1))), (4, .long (lN (k0 + 1))), (6, .long (lN 0)), (8, .int ((-1)))]) dX12_place_60 ?_
  refine az_iconst (v := nI 0) dX12_place_62 ?_
  refine az_istore (ls' := [(0, .ref 64), (1, .int (nI l9)), (2, .long (lN (k0 + 1))), (4, .long (lN (k0 + 1))), (6, .long (lN 0)), (8, .int ((-1))), (9, .int (nI 0))]) dX12_place_63 ?_
  exact outer _ 0 none k0 0 rfl (Nat.zero_le _) (by omega) (fun x hx => by cases hx) (fun h => absurd rfl h) (fun _ => hr0) (fun h => by omega)
theorem go_place {w : ln_W} {bs : List Nat} {g1 g2 : Nat → Nat} {c k : Nat} (hm : mc w bs (fun _ => 1) g1) (h2 : mc w bs (fun x => if x = c then 1 else 0) g2) (hw : ln_ok w) (hb : ln_by w bs) (hk : k < (ln_str w bs).count c) : GO w bs g2 g1 k = ln_scan (fun x => if x = c then 1 else 0) (fun _ => 1) (ln_str w bs) k 0 := by
  have hlen := hb.2.2
  have hcl : (ln_str w bs).count c ≤ (ln_str w bs).length := List.count_le_length
  have key := go_eq (F := fun k y => g2 (6 * k + y)) (F2 := fun k y => g1 (6 * k + y)) h2 hm hw bs.length 0 rfl (ln_word w) k 0 (fun x hx => ln_word_lt hw hx) (by rw [str_wl, wl_cnt]; omega) (by rw [str_wl, wl_len]; omega) (by rw [str_wl, wl_cnt]; exact hk)
  rw [str_wl] at key
  exact key
theorem scan_some {F F2 : Nat → Nat} : ∀ (l : List Nat) {k p : Nat}, k < ln_wl F l → (ln_scan F F2 l k p).1 ≠ none := by
  intro l
  induction l with
  | nil => intro k p h; simp [ln_wl] at h
  | cons x l ih =>
    intro k p h
    rw [ln_scan]
    split
    · exact fun q => by cases q
    · refine ih ?_
      have : ln_wl F (x :: l) = F x + ln_wl F l := by simp [ln_wl]
      omega
set_option maxHeartbeats 4000000 in
set_option maxRecDepth 100000 in
theorem q_place {d : Nat} {xl : Int32} {x : Int64} {tp fk mo ni : Nat} {bt : Nat → Nat} {fp : Int32} {v : rd_V} {bs : List Nat} {U : ln_U} {im : Nat → Option (rd_V × ln_Z)} {tr : Nat → Option (Nat × List Int64)} {hp : az_Hp} {Q : Option Value → az_Hp → Prop} (hd : 4 ≤ d) (hok : cs_ok ((tp, bt), (fk, fp), v, (mo, ni, bs), U, im, tr)) (hM : mm hp ((tp, bt), (fk, fp), v, (mo, ni, bs), U, im, tr)) (hQ2 : ¬ cs_in xl 6 → ∀ h', mm h' ((tp, bt), (fk, fp), v, (mo, ni, bs), U, im, tr) → az_fr hp h' 64 93 → Q (some (.long (-2))) h') (hQ3 : cs_in xl 6 → x < lN 1 → ∀ h', mm h' ((tp, bt), (fk, fp), v, (mo, ni, bs), U, im, tr) → az_fr hp h' 64 93 → Q (some (.long (-3))) h') (hQN : ∀ l k, xl = nI l → l < 6 → x = lN k → 1 ≤ k → k < 2 ^ 63 → (ln_str (rd_w v) bs).count l < k → ∀ h', mm h' ((tp, bt), (fk, fp), v, (mo, ni, bs), U, im, tr) → az_fr hp h' 64 93 → Q (some (.long (-1))) h') (hQ : ∀ l k, xl = nI l → l < 6 → x = lN k → 1 ≤ k → k ≤ (ln_str (rd_w v) bs).count l → ∀ h', mm h' ((tp, bt), (fk, fp), v, (mo, ni, bs), U, im, tr) → az_fr hp h' 64 93 → Q (some (.long (lN (ln_pos l (ln_str (rd_w v) bs) (k - 1))))) h') : az_M mX12_place d 0 0 [.ref 64, .int xl, .long x] hp Q := by
  obtain ⟨sc0, A0, tf0, hI0, rs0, rm0, nu0, o1, o2, -⟩ := id hM
  have hgd : rd_good v := hok.2.2.1
  have hw : ln_ok (rd_w v) := hgd.1
  have hba : ln_ba (rd_w v) bs := hok.2.2.2.1
  have hb : ln_by (rd_w v) bs := hba.b
  have hlen := hb.2.2
  have h60 := hb.1
  have hU10 : U.length ≤ 10 := hok.2.2.2.2.1
  have ht1 := hw.1
  have ht3 := hw.2.1
  refine az_M.of rfl (Nat.le_of_ble_eq_true rfl) ?_
  show az_W _ _ _ _ 0 [(0, .ref 64), (1, .int xl), (2, .long x)] [] _ _
  refine az_aload_n dX12_place_0 ?_
  refine az_iconst (v := nI 0) dX12_place_1 ?_
  refine az_putf (fs' := [.int (nI 0), .ref 65, .ref 66, .ref 67, .ref 68, sc0 5, fI (sc0 6), sc0 7, sc0 8, fI (sc0 9), fI (sc0 10), sc0 11, fI (sc0 12), sc0 13, sc0 14, .ref 69, .ref 70, .ref 71, sc0 18, .ref 72, .ref 73, .ref 74, sc0 22, sc0 23, .ref 75, sc0 25, .ref 76, .ref 77, .ref 78, sc0 29, .ref 79, .ref 80, .ref 81, .ref 82, .ref 83, .ref 84, .ref 85, sc0 37, .ref 86, .ref 87, .ref 88, .ref 89, .ref 90, .ref 91, .ref 92]) dX12_place_2 fl_X12_1 o1 ?_
  obtain ⟨h1, hf1, hM1, hh1⟩ : ∃ h1, az_fr hp h1 64 93 ∧ mm h1 ((tp, bt), (fk, fp), v, (mo, ni, bs), U, im, tr) ∧ h1 = az_up hp 64 (mo_o (su sc0 0 (.int (nI 0)))) := ⟨_, az_fr.rf.up, hM.O (sc := su sc0 0 (.int (nI 0))) o2.1 o2.2.1 o2.2.2, rfl⟩
  rw [show (az_up hp 64 (az_O 11 [.int (nI 0), .ref 65, .ref 66, .ref 67, .ref 68, sc0 5, fI (sc0 6), sc0 7, sc0 8, fI (sc0 9), fI (sc0 10), sc0 11, fI (sc0 12), sc0 13, sc0 14, .ref 69, .ref 70, .ref 71, sc0 18, .ref 72, .ref 73, .ref 74, sc0 22, sc0 23, .ref 75, sc0 25, .ref 76, .ref 77, .ref 78, sc0 29, .ref 79, .ref 80, .ref 81, .ref 82, .ref 83, .ref 84, .ref 85, sc0 37, .ref 86, .ref 87, .ref 88, .ref 89, .ref 90, .ref 91, .ref 92])) = h1 from hh1.symm]
  obtain ⟨sc, A, tf, hI, rs, rm, nu, a1, a2, a3, a4, a5, a6, a7, a8, a9, a10, a11, a12, a13, a14⟩ := id hM1
  have a4 : mT A v (mo, ni, bs) := a4
  have a5 : mU A U := a5
  have a7 : mI A hI im := a7
  have a9 : ∀ j, j < tp → tf j = bt j := a9
  have a13 : mR rs rm nu tr := a13
  obtain ⟨f70, e70⟩ := a14.J (q := 70) (n := 366)
  obtain ⟨f71, e71⟩ := a14.J (q := 71) (n := 366)
  refine az_iload_n dX12_place_5 ?_
  refine az_i2l dX12_place_6 ?_
  refine az_cS0 (st := []) dX12_place_7 ml_X12_293 (m_isLetterI (d := d - 1) (by omega) ?_ ?_)
  · intro l9 hxl hl6
    subst hxl
    refine az_if_neN (tgt := 17) dX12_place_10 (fun c10 => ?_) (fun c10 => ?_)
    · have hcl : (ln_str (rd_w v) bs).count l9 ≤ (ln_str (rd_w v) bs).length := List.count_le_length
      refine az_lload_n dX12_place_17 ?_
      refine az_lconst (v := lN 1) dX12_place_18 ?_
      refine az_lcmp_ge (tgt := 27) dX12_place_19 dX12_place_20 (fun c19 => ?_) (fun c19 => ?_)
      · obtain ⟨k9, hk63, hx⟩ := J_of (x := x) (fun q => by have q1 := Int64.lt_iff_toInt_lt.mp q; have q2 := Int64.le_iff_toInt_le.mp c19; rw [lN_toI (by omega)] at q1 q2; omega)
        subst hx
        have hk1 := (lN_leN (by omega) (by omega)).mp c19
        obtain ⟨k0, rfl⟩ : ∃ k0, k9 = k0 + 1 := ⟨k9 - 1, by omega⟩
        refine az_aload_n dX12_place_27 ?_
        refine az_cV0 (st := []) dX12_place_28 ml_X12_253 a1 (m_laysLong (d := d - 1) (by omega) hw hb a1 a3 a4 e70 ?_)
        intro g9 hm
        refine az_aload_n dX12_place_31 ?_
        refine az_iload_n dX12_place_32 ?_
        refine az_cV0 (st := []) dX12_place_33 ml_X12_304 (az_up_ne a1) (m_laysOf (d := d - 1) (c := l9) (by omega) hw hb hl6 (az_up_ne a1) (az_up_ne a3) a4 (az_up_ne e71) ?_)
        intro g2 hm2
        refine az_aload_n dX12_place_36 ?_
        refine az_aload_n dX12_place_37 ?_
        refine az_getf (v := .ref 71) dX12_place_38 fl_X12_37 (az_up_ne (az_up_ne a1)) ?_
        refine az_cV0 (st := []) dX12_place_41 ml_X12_256 (az_up_ne (az_up_ne a1)) (m_sumOf (d := d - 1) (v := v) (g9 := g2) hw (az_up_ne (az_up_ne a1)) (az_up_ne (az_up_ne a3)) a4.1 az_up_eq ?_)
        rw [hm2.cnt hw hb]
        refine az_lload_n dX12_place_44 ?_
        refine az_lcmp_geN (tgt := 53) dX12_place_45 dX12_place_46 (fun c45 => ?_) (fun c45 => ?_)
        · have hgp := go_place (k := k0) hm hm2 hw hb (by omega)
          exact m_placeW (g1 := g9) (g2 := g2) (by omega) hw hb (az_up_ne (az_up_ne a1)) (az_up_ne (az_up_ne a3)) a4 (az_up_ne az_up_eq) az_up_eq (fun k x hk hx => hm2.lt hk hx) hk63 hgp (scan_some _ (by rw [wl_cnt]; omega)) (hQ l9 (k0 + 1) rfl hl6 rfl hk1 (by omega) _ ((hM1.J (q := 70) (n := 366) (f := fun j => lN (g9 j))).J (q := 71) (n := 366) (f := fun j => lN (g2 j))) hf1.up.up)
        · refine az_ldc2 (v := (-1)) dX12_place_49 cn_X12_307 ?_
          exact az_lret dX12_place_52 (hQN l9 (k0 + 1) rfl hl6 rfl hk1 hk63 (by omega) _ ((hM1.J (q := 70) (n := 366) (f := fun j => lN (g9 j))).J (q := 71) (n := 366) (f := fun j => lN (g2 j))) hf1.up.up)
      · refine az_ldc2 (v := (-3)) dX12_place_23 cn_X12_302 ?_
        exact az_lret dX12_place_26 (hQ3 (cs_in_n hl6 (by decide)).1 (Int64.not_le.mp c19) h1 hM1 hf1)
    · exact absurd c10 (by omega)
  · intro hxl
    refine az_if_neN (tgt := 17) dX12_place_10 (fun c10 => ?_) (fun c10 => ?_)
    · exact absurd c10 (by omega)
    · refine az_ldc2 (v := (-2)) dX12_place_13 cn_X12_300 ?_
      exact az_lret dX12_place_16 (hQ2 (cs_in_no hxl) h1 hM1 hf1)

