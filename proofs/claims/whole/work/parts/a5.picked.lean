/-! The model: which letter, how many; the table of a night of itself -/
theorem scan_fst {F F2 F2' : Nat → Nat} : ∀ (l : List Nat) (k p p' : Nat), (ln_scan F F2 l k p).1 = (ln_scan F F2' l k p').1 ∧ (ln_scan F F2 l k p).2.1 = (ln_scan F F2' l k p').2.1 := by
  intro l
  induction l with
  | nil => intro k p p'; exact ⟨rfl, rfl⟩
  | cons x l ih =>
    intro k p p'
    rw [ln_scan, ln_scan]
    split
    · exact ⟨rfl, rfl⟩
    · exact ih _ _ _
theorem go_fst {w : ln_W} {bs : List Nat} {F F2 F2' : Nat → Nat → Nat} : ∀ (n lv : Nat) (c : Option Nat) (k p p' : Nat), (ln_go w bs F F2 n lv c k p).1 = (ln_go w bs F F2' n lv c k p').1 := by
  intro n
  induction n with
  | zero => intro lv c k p p'; rfl
  | succ n ih =>
    intro lv c k p p'
    cases c with
    | none => rfl
    | some x =>
      rw [ln_go, ln_go]
      have h := scan_fst (F := F (lv + 1)) (F2 := F2 (lv + 1)) (F2' := F2' (lv + 1)) (ln_sub w (bs.getD lv 0) x) k p p'
      rw [← h.1, ← h.2]
      exact ih _ _ _ _ _
def GO (w : ln_W) (bs : List Nat) (g1 g2 : Nat → Nat) (p : Nat) : Option Nat × Nat × Nat := ln_go w bs (fun k x => g1 (6 * k + x)) (fun k x => g2 (6 * k + x)) bs.length 0 (ln_scan (fun x => g1 (6 * 0 + x)) (fun x => g2 (6 * 0 + x)) (ln_word w) p 0).1 (ln_scan (fun x => g1 (6 * 0 + x)) (fun x => g2 (6 * 0 + x)) (ln_word w) p 0).2.1 (ln_scan (fun x => g1 (6 * 0 + x)) (fun x => g2 (6 * 0 + x)) (ln_word w) p 0).2.2
theorem scan_all {F F2 : Nat → Nat} {l : List Nat} {k p : Nat} (h : ln_wl F l ≤ k) : ln_scan F F2 l k p = (none, k - ln_wl F l, p + ln_wl F2 l) := by
  have := scan_skip (g := F) (g2 := F2) (B := []) l (k := k) (p := p) h
  rw [List.append_nil] at this
  exact this
theorem wl_0 (g : Nat → Nat) (l : List Nat) : ln_wl (fun x => g (6 * 0 + x)) l = (l.map g).sum := by
  simp [ln_wl]
theorem go_letter {w : ln_W} {bs : List Nat} {g1 : Nat → Nat} (hm : mc w bs (fun _ => 1) g1) (hw : ln_ok w) (hb : ln_by w bs) (g2 : Nat → Nat) (p : Nat) : (GO w bs g1 g2 p).1 = (ln_str w bs)[p]? := by
  have hlen := hb.2.2
  by_cases hp : p < (ln_str w bs).length
  · have key := go_eq (F := fun k y => g1 (6 * k + y)) (F2 := fun k y => g1 (6 * k + y)) hm hm hw bs.length 0 rfl (ln_word w) p 0 (fun x hx => ln_word_lt hw hx) (by rw [str_wl, wl_len]; omega) (by rw [str_wl, wl_len]; omega) (by rw [str_wl, wl_len]; exact hp)
    rw [str_wl, scan_one _ hp] at key
    have h := scan_fst (F := fun x => g1 (6 * 0 + x)) (F2 := fun x => g2 (6 * 0 + x)) (F2' := fun x => g1 (6 * 0 + x)) (ln_word w) p 0 0
    unfold GO
    rw [h.1, h.2, go_fst (F2' := fun k y => g1 (6 * k + y)) _ _ _ _ _ (ln_scan (fun x => g1 (6 * 0 + x)) (fun x => g1 (6 * 0 + x)) (ln_word w) p 0).2.2, key]
    show some _ = _
    rw [List.getElem?_eq_getElem hp, List.getD_eq_getElem?_getD, List.getElem?_eq_getElem hp]
    rfl
  · unfold GO
    rw [scan_all (by rw [wl_0, hm.str hw hb]; omega), go_none]
    exact (List.getElem?_eq_none (by omega)).symm
theorem go_count {w : ln_W} {bs : List Nat} {g1 g2 : Nat → Nat} {c : Nat} (hm : mc w bs (fun _ => 1) g1) (h2 : mc w bs (fun x => if x = c then 1 else 0) g2) (hw : ln_ok w) (hb : ln_by w bs) {p : Nat} (hp : p ≤ (ln_str w bs).length) : (GO w bs g1 g2 p).2.2 = ((ln_str w bs).take p).count c := by
  have hlen := hb.2.2
  have hcl : (ln_str w bs).count c ≤ (ln_str w bs).length := List.count_le_length
  by_cases hp9 : p < (ln_str w bs).length
  · have key := go_eq (F := fun k y => g1 (6 * k + y)) (F2 := fun k y => g2 (6 * k + y)) hm h2 hw bs.length 0 rfl (ln_word w) p 0 (fun x hx => ln_word_lt hw hx) (by rw [str_wl, wl_len]; omega) (by rw [str_wl, wl_cnt]; omega) (by rw [str_wl, wl_len]; exact hp9)
    rw [str_wl, scan_one _ hp9] at key
    unfold GO
    rw [key]
    show 0 + ln_wl _ _ = _
    rw [wl_cnt, Nat.zero_add]
  · unfold GO
    rw [scan_all (by rw [wl_0, hm.str hw hb]; omega), go_none]
    show 0 + ln_wl _ _ = _
    rw [wl_0, h2.cnt hw hb, Nat.zero_add, List.take_of_length_le (by omega)]
theorem m_letterOf {d : Nat} {sc : Nat → Value} {A : Nat → Nat} {v : rd_V} {mo ni : Nat} {bs : List Nat} {hp : az_Hp} {Q : Option Value → az_Hp → Prop} {p : Nat} {g1 : Nat → Nat} {f71 : Nat → Int64} (hd : 3 ≤ d) (hw : ln_ok (rd_w v)) (hb : ln_by (rd_w v) bs) (h64 : hp.2 64 = some (mo_o sc)) (h65 : hp.2 65 = some (az_I 3318 (fun j => nI (A j)))) (hT : mT A v (mo, ni, bs)) (h70 : hp.2 70 = some (az_J 366 (fun j => lN (g1 j)))) (h71 : hp.2 71 = some (az_J 366 f71)) (hm : mc (rd_w v) bs (fun _ => 1) g1) (hp9 : p < 2 ^ 63) (hQ : ∀ q : Int64, Q (some (.int (nI ((ln_str (rd_w v) bs)[p]?.getD 6)))) (az_up hp 64 (mo_o (su sc 18 (.long q))))) : az_M mX12_letterAt d 0 0 [.ref 64, .long (lN p)] hp Q := by
  obtain ⟨g2, rfl⟩ := lN_ex f71
  have e := go_letter hm hw hb g2 p
  refine m_letterAt (r := GO (rd_w v) bs g1 g2 p) hd hw hb h64 h65 hT h70 h71 hm hp9 (fun x hx => ?_) rfl ?_
  · rw [e] at hx
    exact ln_str_lt hw bs x (List.mem_of_getElem? hx)
  · rw [e]
    exact hQ _
/-- outside these cells nothing changes -/
def mf (h h' : az_Hp) (L : List Nat) : Prop := h'.1 = h.1 ∧ ∀ q, q ∉ L → h'.2 q = h.2 q
theorem mf.rf {h : az_Hp} {L : List Nat} : mf h h L := ⟨rfl, fun _ _ => rfl⟩
theorem mf.up {h h' : az_Hp} {L : List Nat} {a : Nat} {c : az_C} (H : mf h h' L) (ha : a ∈ L) : mf h (az_up h' a c) L := ⟨H.1, fun q hq => (az_up_ne rfl (fun e => hq (by rw [e]; exact ha))).trans (H.2 q hq)⟩
theorem mf.tr {h h' h'' : az_Hp} {L L' : List Nat} (H : mf h h' L) (H2 : mf h' h'' L') (hs : ∀ q ∈ L', q ∈ L) : mf h h'' L := ⟨H2.1.trans H.1, fun q hq => (H2.2 q (fun e => hq (hs q e))).trans (H.2 q hq)⟩
theorem mf.at {h h' : az_Hp} {L : List Nat} {q : Nat} {x : Option az_C} (H : mf h h' L) (hx : h.2 q = x) (hq : q ∉ L := by decide) : h'.2 q = x := (H.2 q hq).trans hx
theorem mf.fr {h h' : az_Hp} {L : List Nat} (H : mf h h' L) (hL : ∀ q ∈ L, 64 ≤ q ∧ q < 93 := by decide) : az_fr h h' 64 93 := ⟨H.1, fun q hq => H.2 q (fun e => by have := hL q e; omega)⟩
theorem mk.uJ {h : az_Hp} {q n : Nat} {f : Nat → Int64} (H : mk h) (hs : mo_sh q = (true, n) := by rfl) : mk (az_up h q (az_J n f)) := H.up (Or.inr (Or.inr (mk1.J hs)))
theorem mk.uI {h : az_Hp} {q n : Nat} {f : Nat → Int32} (H : mk h) (hs : mo_sh q = (false, n) := by rfl) : mk (az_up h q (az_I n f)) := H.up (Or.inr (Or.inr (mk1.I hs)))
theorem mk.uO {h : az_Hp} {c : az_C} (H : mk h) : mk (az_up h 64 c) := H.up (Or.inl (by decide))
theorem mk.uA {h : az_Hp} {c : az_C} (H : mk h) : mk (az_up h 65 c) := H.up (Or.inl (by decide))
theorem picks_0 {v : rd_V} {mo ni : Nat} {bs : List Nat} (h : ln_as (ln_env (rd_w v) bs mo ni) v.2.2.2.2.2.2.2.2 = 0) : cs_picks v mo ni bs = nI (ln_pi (ln_env (rd_w v) bs mo ni) v.2.2.2.2.2.2.2.1 (ln_tb (rd_w v))) := if_pos h
theorem picks_1 {v : rd_V} {mo ni : Nat} {bs : List Nat} (h : ln_as (ln_env (rd_w v) bs mo ni) v.2.2.2.2.2.2.2.2 = 1) : cs_picks v mo ni bs = (-1) := if_neg (by rw [h]; decide)
theorem pi_0 {en : Nat → Int32} {pk : List Nat} {T : Nat} (h : pk = []) : ln_pi en pk T = 0 := if_pos h
theorem pi_1 {en : Nat → Int32} {pk : List Nat} {T : Nat} {x : Int32} (h : ¬ pk = []) (h2 : lw_ev en pk = [x]) : ln_pi en pk T = ln_pt x T := by rw [ln_pi, if_neg h, h2]; rfl
theorem as_0 {en : Nat → Int32} {sl : List Nat} (h : sl = []) : ln_as en sl = 0 := if_pos h
theorem mL.is {A : Nat → Nat} {l : Nat} {k : List Nat} (H : mL A l k) : (k = [] ∧ A (105 + l) = 0) ∨ (¬ k = [] ∧ A (105 + l) = 1) := by
  by_cases h : k = []
  · exact Or.inl ⟨h, H.1 h⟩
  · exact Or.inr ⟨h, (H.2 h).1⟩
theorem str_0 (l : List Nat) : l[0]?.getD 6 = l.head?.getD 6 := by rw [List.head?_eq_getElem?]
theorem str_l (l : List Nat) : l[l.length - 1]?.getD 6 = l.reverse.head?.getD 6 := by rw [List.head?_reverse, List.getLast?_eq_getElem?]
theorem str_n {l : List Nat} (h : l.length = 0) : (6 : Nat) = l.reverse.head?.getD 6 := by rw [List.length_eq_zero_iff.mp h]; rfl
set_option maxHeartbeats 4000000 in
set_option maxRecDepth 100000 in
theorem m_pickedNow {d : Nat} {sc : Nat → Value} {A : Nat → Nat} {v : rd_V} {mo ni : Nat} {bs : List Nat} {hp : az_Hp} {Q : Option Value → az_Hp → Prop} (hd : 5 ≤ d) (hgd : rd_good v) (hb : ln_by (rd_w v) bs) (h64 : hp.2 64 = some (mo_o sc)) (h65 : hp.2 65 = some (az_I 3318 (fun j => nI (A j)))) (hT : mT A v (mo, ni, bs)) (hk : mk hp) (hQ : ∀ h' sc', h'.2 64 = some (mo_o sc') → (∀ j, j ≠ 18 → sc' j = sc j) → mk h' → mf hp h' [64, 70, 72, 73] → Q (some (.int (cs_picks v mo ni bs))) h') : az_M mX12_pickedNow d 0 0 [.ref 64] hp Q := by
  have hw : ln_ok (rd_w v) := hgd.1
  have hlen := hb.2.2
  obtain ⟨f70, e70⟩ := hk.J (q := 70) (n := 366)
  obtain ⟨f71, e71⟩ := hk.J (q := 71) (n := 366)
  obtain ⟨f72, e72⟩ := hk.I (q := 72) (n := 900)
  obtain ⟨f73, e73⟩ := hk.I (q := 73) (n := 5)
  have hA1 : A 1 = ln_tb (rd_w v) := hT.1.2.1
  have hA111 : A 111 = mo := hT.2.1
  have hA112 : A 112 = ni := hT.2.2.1
  have hL0 : mL A 0 v.2.2.2.2.2.2.2.1 := hT.1.2.2.2.2.2.2.1
  have hL1 : mL A 1 v.2.2.2.2.2.2.2.2 := hT.1.2.2.2.2.2.2.2
  have hi0 : (v.2.2.2.2.2.2.2.1 = [] ∧ A 105 = 0) ∨ (¬ v.2.2.2.2.2.2.2.1 = [] ∧ A 105 = 1) := hL0.is
  have hi1 : (v.2.2.2.2.2.2.2.2 = [] ∧ A 106 = 0) ∨ (¬ v.2.2.2.2.2.2.2.2 = [] ∧ A 106 = 1) := hL1.is
  have hj0 : A 105 ≤ 1 := (by rcases hi0 with q | q <;> omega)
  have hj1 : A 106 ≤ 1 := (by rcases hi1 with q | q <;> omega)
  have ht1 := hw.1
  have ht3 := hw.2.1
  have hT0 : ¬ nI (ln_tb (rd_w v)) = 0 := (fun q => by have := congrArg Int32.toInt q; rw [nI_toInt (by omega)] at this; have h00 : (0 : Int32).toInt = 0 := rfl; omega)
  refine az_M.of rfl (Nat.le_of_ble_eq_true rfl) ?_
  show az_W _ _ _ _ 0 [(0, .ref 64)] [] _ _
  refine az_aload_n dX12_pickedNow_0 ?_
  refine az_cV0 (st := []) dX12_pickedNow_1 ml_X12_278 h64 (m_lengthNow (d := d - 1) (by omega) hw hb h64 h65 hT e70 ?_)
  intro g1 hm
  refine az_lstore_n (ls' := [(0, .ref 64), (1, .long (lN ((ln_str (rd_w v) bs).length)))]) dX12_pickedNow_4 ?_
  refine az_aload_n dX12_pickedNow_5 ?_
  refine az_getf (v := .ref 73) dX12_pickedNow_6 fl_X12_43 (az_up_ne h64) ?_
  refine az_iconst (v := nI 0) dX12_pickedNow_9 ?_
  refine az_aload_n dX12_pickedNow_10 ?_
  refine az_getf (v := .ref 65) dX12_pickedNow_11 fl_X12_13 (az_up_ne h64) ?_
  refine az_bipush (v := nI 112) dX12_pickedNow_14 ?_
  refine az_ialdN (j := 112) dX12_pickedNow_16 (az_up_ne h65) ?_
  rw [hA112]
  refine az_iastN (j := 0) dX12_pickedNow_17 (az_up_ne e73) ?_
  refine az_aload_n dX12_pickedNow_18 ?_
  refine az_getf (v := .ref 73) dX12_pickedNow_19 fl_X12_43 (az_up_ne (az_up_ne h64)) ?_
  refine az_iconst (v := nI 1) dX12_pickedNow_22 ?_
  refine az_aload_n dX12_pickedNow_23 ?_
  refine az_getf (v := .ref 65) dX12_pickedNow_24 fl_X12_13 (az_up_ne (az_up_ne h64)) ?_
  refine az_bipush (v := nI 111) dX12_pickedNow_27 ?_
  refine az_ialdN (j := 111) dX12_pickedNow_29 (az_up_ne (az_up_ne h65)) ?_
  rw [hA111]
  refine az_iastN (j := 1) dX12_pickedNow_30 az_up_eq ?_
  refine az_aload_n dX12_pickedNow_31 ?_
  refine az_getf (v := .ref 73) dX12_pickedNow_32 fl_X12_43 (az_up_ne (az_up_ne (az_up_ne h64))) ?_
  refine az_iconst (v := nI 2) dX12_pickedNow_35 ?_
  refine az_aload_n dX12_pickedNow_36 ?_
  refine az_lconst (v := lN 0) dX12_pickedNow_37 ?_
  refine az_cV0 (st := [.int (nI 2), .ref 73]) dX12_pickedNow_38 ml_X12_282 (az_up_ne (az_up_ne (az_up_ne h64))) (m_letterOf (d := d - 1) (p := 0) (by omega) hw hb (az_up_ne (az_up_ne (az_up_ne h64))) (az_up_ne (az_up_ne (az_up_ne h65))) hT (az_up_ne (az_up_ne az_up_eq)) (az_up_ne (az_up_ne (az_up_ne e71))) hm (by decide) ?_)
  intro q0
  rw [str_0]
  refine az_iastN (j := 2) dX12_pickedNow_41 (az_up_ne az_up_eq) ?_
  refine az_aload_n dX12_pickedNow_42 ?_
  refine az_getf (v := .ref 73) dX12_pickedNow_43 fl_X12_43 (az_up_ne az_up_eq) ?_
  refine az_iconst (v := nI 3) dX12_pickedNow_46 ?_
  refine az_lload_n dX12_pickedNow_47 ?_
  refine az_lconst (v := lN 0) dX12_pickedNow_48 ?_
  refine az_lcmp_neN (tgt := 58) dX12_pickedNow_49 dX12_pickedNow_50 (fun c49 => ?_) (fun c49 => ?_)
  · refine az_aload_n dX12_pickedNow_58 ?_
    refine az_lload_n dX12_pickedNow_59 ?_
    refine az_lconst (v := lN 1) dX12_pickedNow_60 ?_
    refine az_lsubN dX12_pickedNow_61 (by omega) ?_
    refine az_cV0 (st := [.int (nI 3), .ref 73]) dX12_pickedNow_62 ml_X12_282 (az_up_ne az_up_eq) (m_letterOf (d := d - 1) (p := (ln_str (rd_w v) bs).length - 1) (sc := su sc 18 (.long q0)) (by omega) hw hb (az_up_ne az_up_eq) (az_up_ne (az_up_ne (az_up_ne (az_up_ne (az_up_ne h65))))) hT (az_up_ne (az_up_ne (az_up_ne (az_up_ne az_up_eq)))) (az_up_ne (az_up_ne (az_up_ne (az_up_ne (az_up_ne e71))))) hm (by omega) ?_)
    intro q1
    rw [str_l]
    refine az_iastN (j := 3) dX12_pickedNow_65 (az_up_ne az_up_eq) ?_
    refine az_aload_n dX12_pickedNow_66 ?_
    refine az_getf (v := .ref 73) dX12_pickedNow_67 fl_X12_43 (az_up_ne az_up_eq) ?_
    refine az_iconst (v := nI 4) dX12_pickedNow_70 ?_
    refine az_lload_n dX12_pickedNow_71 ?_
    refine az_ldc2 (v := lN 10) dX12_pickedNow_72 cn_X12_285 ?_
    refine az_lrem dX12_pickedNow_75 (by decide) ?_
    refine az_l2i dX12_pickedNow_76 ?_
    first | rw [show nI 6 = (ln_env (rd_w v) bs mo ni) 3 from congrArg nI (str_n (by omega))] | rw [show nI ((ln_str (rd_w v) bs).reverse.head?.getD 6) = (ln_env (rd_w v) bs mo ni) 3 from rfl]
    refine az_iastN (j := 4) dX12_pickedNow_77 az_up_eq ?_
    have hen : ∀ j, j < 5 → (az_s (az_s (az_s (az_s (az_s f73 0 (nI ni)) 1 (nI mo)) 2 (nI ((ln_str (rd_w v) bs).head?.getD 6))) 3 ((ln_env (rd_w v) bs mo ni) 3)) 4 ((ln_env (rd_w v) bs mo ni) 4)) j = (ln_env (rd_w v) bs mo ni) j := (fun j hj => by have h9 : j = 0 ∨ j = 1 ∨ j = 2 ∨ j = 3 ∨ j = 4 := (by omega); rcases h9 with rfl | rfl | rfl | rfl | rfl <;> rfl)
    refine az_aload_n dX12_pickedNow_78 ?_
    refine az_getf (v := .ref 65) dX12_pickedNow_79 fl_X12_13 (az_up_ne (az_up_ne az_up_eq)) ?_
    refine az_bipush (v := nI 106) dX12_pickedNow_82 ?_
    refine az_ialdN (j := 106) dX12_pickedNow_84 (az_up_ne (az_up_ne (az_up_ne (az_up_ne (az_up_ne (az_up_ne (az_up_ne (az_up_ne h65)))))))) ?_
    refine az_iconst (v := nI 1) dX12_pickedNow_85 ?_
    refine az_icmp_neN (tgt := 100) dX12_pickedNow_86 (fun c86 => ?_) (fun c86 => ?_)
    · have has : ln_as (ln_env (rd_w v) bs mo ni) v.2.2.2.2.2.2.2.2 = 0 := (by first | exact as_0 (by rcases hi1 with q | q; exact q.1; exact absurd q.2 (by omega)) | exact ln_as0 (by rcases hi1 with q | q; exact absurd c86 (by omega); exact q.1) hev ((htv rfl).resolve_right c95))
      refine az_aload_n dX12_pickedNow_100 ?_
      refine az_getf (v := .ref 65) dX12_pickedNow_101 fl_X12_13 (az_up_ne (az_up_ne az_up_eq)) ?_
      refine az_bipush (v := nI 105) dX12_pickedNow_104 ?_
      refine az_ialdN (j := 105) dX12_pickedNow_106 (az_up_ne (az_up_ne (az_up_ne (az_up_ne (az_up_ne (az_up_ne (az_up_ne (az_up_ne h65)))))))) ?_
      refine az_iconst (v := nI 1) dX12_pickedNow_107 ?_
      refine az_icmp_neN (tgt := 126) dX12_pickedNow_108 (fun c108 => ?_) (fun c108 => ?_)
      · refine az_iconst (v := nI 0) dX12_pickedNow_126 ?_
        refine az_istore_n (ls' := [(0, .ref 64), (1, .long (lN ((ln_str (rd_w v) bs).length))), (3, .int (nI 0))]) dX12_pickedNow_127 ?_
        refine az_iload_n dX12_pickedNow_128 ?_
        refine az_if_geN (tgt := 143) dX12_pickedNow_129 (fun c129 => ?_) (fun c129 => ?_)
        · refine az_iload_n dX12_pickedNow_143 ?_
          exact az_iret dX12_pickedNow_144 (by first | (rw [show nI 0 = cs_picks v mo ni bs from (by rw [picks_0 has, pi_0 (by rcases hi0 with q | q; exact q.1; exact absurd q.2 (by omega))])]; exact hQ _ _ (az_up_ne (az_up_ne az_up_eq)) (fun j hj => by simp [su, hj]) (by repeat (first | exact hk | refine mk.uJ ?_ rfl | refine mk.uI ?_ rfl | refine mk.uO ?_)) (by repeat (first | exact mf.rf | refine mf.up ?_ (by decide)))) | (rw [show v8 - v8 / nI (ln_tb (rd_w v)) * nI (ln_tb (rd_w v)) = cs_picks v mo ni bs from (by rw [picks_0 has, pi_1 (by rcases hi0 with q | q; exact absurd c108 (by omega); exact q.1) hev8]; exact (rem_pt ht1 ht3).1 (Int32.not_lt.mpr c129))]; exact hQ _ _ (az_up_ne (az_up_ne az_up_eq)) (fun j hj => by simp [su, hj]) (by repeat (first | exact hk | refine mk.uJ ?_ rfl | refine mk.uI ?_ rfl | refine mk.uO ?_)) (by repeat (first | exact mf.rf | refine mf.up ?_ (by decide)))) | (rw [show v8 - v8 / nI (ln_tb (rd_w v)) * nI (ln_tb (rd_w v)) + nI (ln_tb (rd_w v)) = cs_picks v mo ni bs from (by rw [picks_0 has, pi_1 (by rcases hi0 with q | q; exact absurd c108 (by omega); exact q.1) hev8]; exact (rem_pt ht1 ht3).2 (Int32.not_le.mp c129))]; exact hQ _ _ (az_up_ne (az_up_ne az_up_eq)) (fun j hj => by simp [su, hj]) (by repeat (first | exact hk | refine mk.uJ ?_ rfl | refine mk.uI ?_ rfl | refine mk.uO ?_)) (by repeat (first | exact mf.rf | refine mf.up ?_ (by decide)))) | exact absurd c129 (by omega))
        · refine az_iload_n dX12_pickedNow_132 ?_
          refine az_aload_n dX12_pickedNow_133 ?_
          refine az_getf (v := .ref 65) dX12_pickedNow_134 fl_X12_13 (az_up_ne (az_up_ne az_up_eq)) ?_
          refine az_iconst (v := nI 1) dX12_pickedNow_137 ?_
          refine az_ialdN (j := 1) dX12_pickedNow_138 (az_up_ne (az_up_ne (az_up_ne (az_up_ne (az_up_ne (az_up_ne (az_up_ne (az_up_ne h65)))))))) ?_
          rw [hA1]
          refine az_iaddN dX12_pickedNow_139 ?_
          refine az_goto (tgt := 144) dX12_pickedNow_140 ?_
          exact az_iret dX12_pickedNow_144 (by first | (rw [show nI 0 = cs_picks v mo ni bs from (by rw [picks_0 has, pi_0 (by rcases hi0 with q | q; exact q.1; exact absurd q.2 (by omega))])]; exact hQ _ _ (az_up_ne (az_up_ne az_up_eq)) (fun j hj => by simp [su, hj]) (by repeat (first | exact hk | refine mk.uJ ?_ rfl | refine mk.uI ?_ rfl | refine mk.uO ?_)) (by repeat (first | exact mf.rf | refine mf.up ?_ (by decide)))) | (rw [show v8 - v8 / nI (ln_tb (rd_w v)) * nI (ln_tb (rd_w v)) = cs_picks v mo ni bs from (by rw [picks_0 has, pi_1 (by rcases hi0 with q | q; exact absurd c108 (by omega); exact q.1) hev8]; exact (rem_pt ht1 ht3).1 (Int32.not_lt.mpr c129))]; exact hQ _ _ (az_up_ne (az_up_ne az_up_eq)) (fun j hj => by simp [su, hj]) (by repeat (first | exact hk | refine mk.uJ ?_ rfl | refine mk.uI ?_ rfl | refine mk.uO ?_)) (by repeat (first | exact mf.rf | refine mf.up ?_ (by decide)))) | (rw [show v8 - v8 / nI (ln_tb (rd_w v)) * nI (ln_tb (rd_w v)) + nI (ln_tb (rd_w v)) = cs_picks v mo ni bs from (by rw [picks_0 has, pi_1 (by rcases hi0 with q | q; exact absurd c108 (by omega); exact q.1) hev8]; exact (rem_pt ht1 ht3).2 (Int32.not_le.mp c129))]; exact hQ _ _ (az_up_ne (az_up_ne az_up_eq)) (fun j hj => by simp [su, hj]) (by repeat (first | exact hk | refine mk.uJ ?_ rfl | refine mk.uI ?_ rfl | refine mk.uO ?_)) (by repeat (first | exact mf.rf | refine mf.up ?_ (by decide)))) | exact absurd c129 (by omega))
      · refine az_aload_n dX12_pickedNow_111 ?_
        refine az_iconst (v := nI 0) dX12_pickedNow_112 ?_
        refine az_cV0 (st := []) dX12_pickedNow_113 ml_X12_287 (az_up_ne (az_up_ne az_up_eq)) (m_reckons (d := d - 1) (l := 0) (ks := v.2.2.2.2.2.2.2.1) (t9 := false) (en := (ln_env (rd_w v) bs mo ni)) (by omega) (by decide) (by rcases hi0 with q | q; exact absurd c108 (by omega); exact q.1) ((hgd.2.1.2.2).resolve_left (by rcases hi0 with q | q; exact absurd c108 (by omega); exact q.1)) (az_up_ne (az_up_ne az_up_eq)) (az_up_ne (az_up_ne (az_up_ne (az_up_ne (az_up_ne (az_up_ne (az_up_ne (az_up_ne h65)))))))) hL0 (az_up_ne (az_up_ne (az_up_ne (az_up_ne (az_up_ne (az_up_ne (az_up_ne (az_up_ne e72)))))))) az_up_eq hen ?_)
        intro v8 wa8 hev8 _
        refine az_aload_n dX12_pickedNow_116 ?_
        refine az_getf (v := .ref 65) dX12_pickedNow_117 fl_X12_13 (az_up_ne (az_up_ne (az_up_ne az_up_eq))) ?_
        refine az_iconst (v := nI 1) dX12_pickedNow_120 ?_
        refine az_ialdN (j := 1) dX12_pickedNow_121 (az_up_ne (az_up_ne (az_up_ne (az_up_ne (az_up_ne (az_up_ne (az_up_ne (az_up_ne (az_up_ne h65))))))))) ?_
        rw [hA1]
        refine az_irem dX12_pickedNow_122 hT0 ?_
        refine az_goto (tgt := 127) dX12_pickedNow_123 ?_
        refine az_istore_n (ls' := [(0, .ref 64), (1, .long (lN ((ln_str (rd_w v) bs).length))), (3, .int (v8 - v8 / (nI (ln_tb (rd_w v))) * (nI (ln_tb (rd_w v)))))]) dX12_pickedNow_127 ?_
        refine az_iload_n dX12_pickedNow_128 ?_
        refine az_if_ge (tgt := 143) dX12_pickedNow_129 (fun c129 => ?_) (fun c129 => ?_)
        · refine az_iload_n dX12_pickedNow_143 ?_
          exact az_iret dX12_pickedNow_144 (by first | (rw [show nI 0 = cs_picks v mo ni bs from (by rw [picks_0 has, pi_0 (by rcases hi0 with q | q; exact q.1; exact absurd q.2 (by omega))])]; exact hQ _ _ (az_up_ne (az_up_ne (az_up_ne az_up_eq))) (fun j hj => by simp [su, hj]) (by repeat (first | exact hk | refine mk.uJ ?_ rfl | refine mk.uI ?_ rfl | refine mk.uO ?_)) (by repeat (first | exact mf.rf | refine mf.up ?_ (by decide)))) | (rw [show v8 - v8 / nI (ln_tb (rd_w v)) * nI (ln_tb (rd_w v)) = cs_picks v mo ni bs from (by rw [picks_0 has, pi_1 (by rcases hi0 with q | q; exact absurd c108 (by omega); exact q.1) hev8]; exact (rem_pt ht1 ht3).1 (Int32.not_lt.mpr c129))]; exact hQ _ _ (az_up_ne (az_up_ne (az_up_ne az_up_eq))) (fun j hj => by simp [su, hj]) (by repeat (first | exact hk | refine mk.uJ ?_ rfl | refine mk.uI ?_ rfl | refine mk.uO ?_)) (by repeat (first | exact mf.rf | refine mf.up ?_ (by decide)))) | (rw [show v8 - v8 / nI (ln_tb (rd_w v)) * nI (ln_tb (rd_w v)) + nI (ln_tb (rd_w v)) = cs_picks v mo ni bs from (by rw [picks_0 has, pi_1 (by rcases hi0 with q | q; exact absurd c108 (by omega); exact q.1) hev8]; exact (rem_pt ht1 ht3).2 (Int32.not_le.mp c129))]; exact hQ _ _ (az_up_ne (az_up_ne (az_up_ne az_up_eq))) (fun j hj => by simp [su, hj]) (by repeat (first | exact hk | refine mk.uJ ?_ rfl | refine mk.uI ?_ rfl | refine mk.uO ?_)) (by repeat (first | exact mf.rf | refine mf.up ?_ (by decide)))) | exact absurd c129 (by omega))
        · refine az_iload_n dX12_pickedNow_132 ?_
          refine az_aload_n dX12_pickedNow_133 ?_
          refine az_getf (v := .ref 65) dX12_pickedNow_134 fl_X12_13 (az_up_ne (az_up_ne (az_up_ne az_up_eq))) ?_
          refine az_iconst (v := nI 1) dX12_pickedNow_137 ?_
          refine az_ialdN (j := 1) dX12_pickedNow_138 (az_up_ne (az_up_ne (az_up_ne (az_up_ne (az_up_ne (az_up_ne (az_up_ne (az_up_ne (az_up_ne h65))))))))) ?_
          rw [hA1]
          refine az_iadd dX12_pickedNow_139 ?_
          refine az_goto (tgt := 144) dX12_pickedNow_140 ?_
          exact az_iret dX12_pickedNow_144 (by first | (rw [show nI 0 = cs_picks v mo ni bs from (by rw [picks_0 has, pi_0 (by rcases hi0 with q | q; exact q.1; exact absurd q.2 (by omega))])]; exact hQ _ _ (az_up_ne (az_up_ne (az_up_ne az_up_eq))) (fun j hj => by simp [su, hj]) (by repeat (first | exact hk | refine mk.uJ ?_ rfl | refine mk.uI ?_ rfl | refine mk.uO ?_)) (by repeat (first | exact mf.rf | refine mf.up ?_ (by decide)))) | (rw [show v8 - v8 / nI (ln_tb (rd_w v)) * nI (ln_tb (rd_w v)) = cs_picks v mo ni bs from (by rw [picks_0 has, pi_1 (by rcases hi0 with q | q; exact absurd c108 (by omega); exact q.1) hev8]; exact (rem_pt ht1 ht3).1 (Int32.not_lt.mpr c129))]; exact hQ _ _ (az_up_ne (az_up_ne (az_up_ne az_up_eq))) (fun j hj => by simp [su, hj]) (by repeat (first | exact hk | refine mk.uJ ?_ rfl | refine mk.uI ?_ rfl | refine mk.uO ?_)) (by repeat (first | exact mf.rf | refine mf.up ?_ (by decide)))) | (rw [show v8 - v8 / nI (ln_tb (rd_w v)) * nI (ln_tb (rd_w v)) + nI (ln_tb (rd_w v)) = cs_picks v mo ni bs from (by rw [picks_0 has, pi_1 (by rcases hi0 with q | q; exact absurd c108 (by omega); exact q.1) hev8]; exact (rem_pt ht1 ht3).2 (Int32.not_le.mp c129))]; exact hQ _ _ (az_up_ne (az_up_ne (az_up_ne az_up_eq))) (fun j hj => by simp [su, hj]) (by repeat (first | exact hk | refine mk.uJ ?_ rfl | refine mk.uI ?_ rfl | refine mk.uO ?_)) (by repeat (first | exact mf.rf | refine mf.up ?_ (by decide)))) | exact absurd c129 (by omega))
    · refine az_aload_n dX12_pickedNow_89 ?_
      refine az_iconst (v := nI 1) dX12_pickedNow_90 ?_
      refine az_cV0 (st := []) dX12_pickedNow_91 ml_X12_287 (az_up_ne (az_up_ne az_up_eq)) (m_reckons (d := d - 1) (l := 1) (ks := v.2.2.2.2.2.2.2.2) (t9 := true) (en := (ln_env (rd_w v) bs mo ni)) (by omega) (by decide) (by rcases hi1 with q | q; exact absurd c86 (by omega); exact q.1) ((hgd.2.2.2.2).resolve_left (by rcases hi1 with q | q; exact absurd c86 (by omega); exact q.1)) (az_up_ne (az_up_ne az_up_eq)) (az_up_ne (az_up_ne (az_up_ne (az_up_ne (az_up_ne (az_up_ne (az_up_ne (az_up_ne h65)))))))) hL1 (az_up_ne (az_up_ne (az_up_ne (az_up_ne (az_up_ne (az_up_ne (az_up_ne (az_up_ne e72)))))))) az_up_eq hen ?_)
      intro v9 wa9 hev htv
      refine az_iconst (v := nI 1) dX12_pickedNow_94 ?_
      refine az_icmp_ne (tgt := 100) dX12_pickedNow_95 (fun c95 => ?_) (fun c95 => ?_)
      · have has : ln_as (ln_env (rd_w v) bs mo ni) v.2.2.2.2.2.2.2.2 = 0 := (by first | exact as_0 (by rcases hi1 with q | q; exact q.1; exact absurd q.2 (by omega)) | exact ln_as0 (by rcases hi1 with q | q; exact absurd c86 (by omega); exact q.1) hev ((htv rfl).resolve_right c95))
        refine az_aload_n dX12_pickedNow_100 ?_
        refine az_getf (v := .ref 65) dX12_pickedNow_101 fl_X12_13 (az_up_ne (az_up_ne (az_up_ne az_up_eq))) ?_
        refine az_bipush (v := nI 105) dX12_pickedNow_104 ?_
        refine az_ialdN (j := 105) dX12_pickedNow_106 (az_up_ne (az_up_ne (az_up_ne (az_up_ne (az_up_ne (az_up_ne (az_up_ne (az_up_ne (az_up_ne h65))))))))) ?_
        refine az_iconst (v := nI 1) dX12_pickedNow_107 ?_
        refine az_icmp_neN (tgt := 126) dX12_pickedNow_108 (fun c108 => ?_) (fun c108 => ?_)
        · refine az_iconst (v := nI 0) dX12_pickedNow_126 ?_
          refine az_istore_n (ls' := [(0, .ref 64), (1, .long (lN ((ln_str (rd_w v) bs).length))), (3, .int (nI 0))]) dX12_pickedNow_127 ?_
          refine az_iload_n dX12_pickedNow_128 ?_
          refine az_if_geN (tgt := 143) dX12_pickedNow_129 (fun c129 => ?_) (fun c129 => ?_)
          · refine az_iload_n dX12_pickedNow_143 ?_
            exact az_iret dX12_pickedNow_144 (by first | (rw [show nI 0 = cs_picks v mo ni bs from (by rw [picks_0 has, pi_0 (by rcases hi0 with q | q; exact q.1; exact absurd q.2 (by omega))])]; exact hQ _ _ (az_up_ne (az_up_ne (az_up_ne az_up_eq))) (fun j hj => by simp [su, hj]) (by repeat (first | exact hk | refine mk.uJ ?_ rfl | refine mk.uI ?_ rfl | refine mk.uO ?_)) (by repeat (first | exact mf.rf | refine mf.up ?_ (by decide)))) | (rw [show v8 - v8 / nI (ln_tb (rd_w v)) * nI (ln_tb (rd_w v)) = cs_picks v mo ni bs from (by rw [picks_0 has, pi_1 (by rcases hi0 with q | q; exact absurd c108 (by omega); exact q.1) hev8]; exact (rem_pt ht1 ht3).1 (Int32.not_lt.mpr c129))]; exact hQ _ _ (az_up_ne (az_up_ne (az_up_ne az_up_eq))) (fun j hj => by simp [su, hj]) (by repeat (first | exact hk | refine mk.uJ ?_ rfl | refine mk.uI ?_ rfl | refine mk.uO ?_)) (by repeat (first | exact mf.rf | refine mf.up ?_ (by decide)))) | (rw [show v8 - v8 / nI (ln_tb (rd_w v)) * nI (ln_tb (rd_w v)) + nI (ln_tb (rd_w v)) = cs_picks v mo ni bs from (by rw [picks_0 has, pi_1 (by rcases hi0 with q | q; exact absurd c108 (by omega); exact q.1) hev8]; exact (rem_pt ht1 ht3).2 (Int32.not_le.mp c129))]; exact hQ _ _ (az_up_ne (az_up_ne (az_up_ne az_up_eq))) (fun j hj => by simp [su, hj]) (by repeat (first | exact hk | refine mk.uJ ?_ rfl | refine mk.uI ?_ rfl | refine mk.uO ?_)) (by repeat (first | exact mf.rf | refine mf.up ?_ (by decide)))) | exact absurd c129 (by omega))
          · refine az_iload_n dX12_pickedNow_132 ?_
            refine az_aload_n dX12_pickedNow_133 ?_
            refine az_getf (v := .ref 65) dX12_pickedNow_134 fl_X12_13 (az_up_ne (az_up_ne (az_up_ne az_up_eq))) ?_
            refine az_iconst (v := nI 1) dX12_pickedNow_137 ?_
            refine az_ialdN (j := 1) dX12_pickedNow_138 (az_up_ne (az_up_ne (az_up_ne (az_up_ne (az_up_ne (az_up_ne (az_up_ne (az_up_ne (az_up_ne h65))))))))) ?_
            rw [hA1]
            refine az_iaddN dX12_pickedNow_139 ?_
            refine az_goto (tgt := 144) dX12_pickedNow_140 ?_
            exact az_iret dX12_pickedNow_144 (by first | (rw [show nI 0 = cs_picks v mo ni bs from (by rw [picks_0 has, pi_0 (by rcases hi0 with q | q; exact q.1; exact absurd q.2 (by omega))])]; exact hQ _ _ (az_up_ne (az_up_ne (az_up_ne az_up_eq))) (fun j hj => by simp [su, hj]) (by repeat (first | exact hk | refine mk.uJ ?_ rfl | refine mk.uI ?_ rfl | refine mk.uO ?_)) (by repeat (first | exact mf.rf | refine mf.up ?_ (by decide)))) | (rw [show v8 - v8 / nI (ln_tb (rd_w v)) * nI (ln_tb (rd_w v)) = cs_picks v mo ni bs from (by rw [picks_0 has, pi_1 (by rcases hi0 with q | q; exact absurd c108 (by omega); exact q.1) hev8]; exact (rem_pt ht1 ht3).1 (Int32.not_lt.mpr c129))]; exact hQ _ _ (az_up_ne (az_up_ne (az_up_ne az_up_eq))) (fun j hj => by simp [su, hj]) (by repeat (first | exact hk | refine mk.uJ ?_ rfl | refine mk.uI ?_ rfl | refine mk.uO ?_)) (by repeat (first | exact mf.rf | refine mf.up ?_ (by decide)))) | (rw [show v8 - v8 / nI (ln_tb (rd_w v)) * nI (ln_tb (rd_w v)) + nI (ln_tb (rd_w v)) = cs_picks v mo ni bs from (by rw [picks_0 has, pi_1 (by rcases hi0 with q | q; exact absurd c108 (by omega); exact q.1) hev8]; exact (rem_pt ht1 ht3).2 (Int32.not_le.mp c129))]; exact hQ _ _ (az_up_ne (az_up_ne (az_up_ne az_up_eq))) (fun j hj => by simp [su, hj]) (by repeat (first | exact hk | refine mk.uJ ?_ rfl | refine mk.uI ?_ rfl | refine mk.uO ?_)) (by repeat (first | exact mf.rf | refine mf.up ?_ (by decide)))) | exact absurd c129 (by omega))
        · refine az_aload_n dX12_pickedNow_111 ?_
          refine az_iconst (v := nI 0) dX12_pickedNow_112 ?_
          refine az_cV0 (st := []) dX12_pickedNow_113 ml_X12_287 (az_up_ne (az_up_ne (az_up_ne az_up_eq))) (m_reckons (d := d - 1) (l := 0) (ks := v.2.2.2.2.2.2.2.1) (t9 := false) (en := (ln_env (rd_w v) bs mo ni)) (by omega) (by decide) (by rcases hi0 with q | q; exact absurd c108 (by omega); exact q.1) ((hgd.2.1.2.2).resolve_left (by rcases hi0 with q | q; exact absurd c108 (by omega); exact q.1)) (az_up_ne (az_up_ne (az_up_ne az_up_eq))) (az_up_ne (az_up_ne (az_up_ne (az_up_ne (az_up_ne (az_up_ne (az_up_ne (az_up_ne (az_up_ne h65))))))))) hL0 az_up_eq (az_up_ne az_up_eq) hen ?_)
          intro v8 wa8 hev8 _
          refine az_aload_n dX12_pickedNow_116 ?_
          refine az_getf (v := .ref 65) dX12_pickedNow_117 fl_X12_13 (az_up_ne (az_up_ne (az_up_ne (az_up_ne az_up_eq)))) ?_
          refine az_iconst (v := nI 1) dX12_pickedNow_120 ?_
          refine az_ialdN (j := 1) dX12_pickedNow_121 (az_up_ne (az_up_ne (az_up_ne (az_up_ne (az_up_ne (az_up_ne (az_up_ne (az_up_ne (az_up_ne (az_up_ne h65)))))))))) ?_
          rw [hA1]
          refine az_irem dX12_pickedNow_122 hT0 ?_
          refine az_goto (tgt := 127) dX12_pickedNow_123 ?_
          refine az_istore_n (ls' := [(0, .ref 64), (1, .long (lN ((ln_str (rd_w v) bs).length))), (3, .int (v8 - v8 / (nI (ln_tb (rd_w v))) * (nI (ln_tb (rd_w v)))))]) dX12_pickedNow_127 ?_
          refine az_iload_n dX12_pickedNow_128 ?_
          refine az_if_ge (tgt := 143) dX12_pickedNow_129 (fun c129 => ?_) (fun c129 => ?_)
          · refine az_iload_n dX12_pickedNow_143 ?_
            exact az_iret dX12_pickedNow_144 (by first | (rw [show nI 0 = cs_picks v mo ni bs from (by rw [picks_0 has, pi_0 (by rcases hi0 with q | q; exact q.1; exact absurd q.2 (by omega))])]; exact hQ _ _ (az_up_ne (az_up_ne (az_up_ne (az_up_ne az_up_eq)))) (fun j hj => by simp [su, hj]) (by repeat (first | exact hk | refine mk.uJ ?_ rfl | refine mk.uI ?_ rfl | refine mk.uO ?_)) (by repeat (first | exact mf.rf | refine mf.up ?_ (by decide)))) | (rw [show v8 - v8 / nI (ln_tb (rd_w v)) * nI (ln_tb (rd_w v)) = cs_picks v mo ni bs from (by rw [picks_0 has, pi_1 (by rcases hi0 with q | q; exact absurd c108 (by omega); exact q.1) hev8]; exact (rem_pt ht1 ht3).1 (Int32.not_lt.mpr c129))]; exact hQ _ _ (az_up_ne (az_up_ne (az_up_ne (az_up_ne az_up_eq)))) (fun j hj => by simp [su, hj]) (by repeat (first | exact hk | refine mk.uJ ?_ rfl | refine mk.uI ?_ rfl | refine mk.uO ?_)) (by repeat (first | exact mf.rf | refine mf.up ?_ (by decide)))) | (rw [show v8 - v8 / nI (ln_tb (rd_w v)) * nI (ln_tb (rd_w v)) + nI (ln_tb (rd_w v)) = cs_picks v mo ni bs from (by rw [picks_0 has, pi_1 (by rcases hi0 with q | q; exact absurd c108 (by omega); exact q.1) hev8]; exact (rem_pt ht1 ht3).2 (Int32.not_le.mp c129))]; exact hQ _ _ (az_up_ne (az_up_ne (az_up_ne (az_up_ne az_up_eq)))) (fun j hj => by simp [su, hj]) (by repeat (first | exact hk | refine mk.uJ ?_ rfl | refine mk.uI ?_ rfl | refine mk.uO ?_)) (by repeat (first | exact mf.rf | refine mf.up ?_ (by decide)))) | exact absurd c129 (by omega))
          · refine az_iload_n dX12_pickedNow_132 ?_
            refine az_aload_n dX12_pickedNow_133 ?_
            refine az_getf (v := .ref 65) dX12_pickedNow_134 fl_X12_13 (az_up_ne (az_up_ne (az_up_ne (az_up_ne az_up_eq)))) ?_
            refine az_iconst (v := nI 1) dX12_pickedNow_137 ?_
            refine az_ialdN (j := 1) dX12_pickedNow_138 (az_up_ne (az_up_ne (az_up_ne (az_up_ne (az_up_ne (az_up_ne (az_up_ne (az_up_ne (az_up_ne (az_up_ne h65)))))))))) ?_
            rw [hA1]
            refine az_iadd dX12_pickedNow_139 ?_
            refine az_goto (tgt := 144) dX12_pickedNow_140 ?_
            exact az_iret dX12_pickedNow_144 (by first | (rw [show nI 0 = cs_picks v mo ni bs from (by rw [picks_0 has, pi_0 (by rcases hi0 with q | q; exact q.1; exact absurd q.2 (by omega))])]; exact hQ _ _ (az_up_ne (az_up_ne (az_up_ne (az_up_ne az_up_eq)))) (fun j hj => by simp [su, hj]) (by repeat (first | exact hk | refine mk.uJ ?_ rfl | refine mk.uI ?_ rfl | refine mk.uO ?_)) (by repeat (first | exact mf.rf | refine mf.up ?_ (by decide)))) | (rw [show v8 - v8 / nI (ln_tb (rd_w v)) * nI (ln_tb (rd_w v)) = cs_picks v mo ni bs from (by rw [picks_0 has, pi_1 (by rcases hi0 with q | q; exact absurd c108 (by omega); exact q.1) hev8]; exact (rem_pt ht1 ht3).1 (Int32.not_lt.mpr c129))]; exact hQ _ _ (az_up_ne (az_up_ne (az_up_ne (az_up_ne az_up_eq)))) (fun j hj => by simp [su, hj]) (by repeat (first | exact hk | refine mk.uJ ?_ rfl | refine mk.uI ?_ rfl | refine mk.uO ?_)) (by repeat (first | exact mf.rf | refine mf.up ?_ (by decide)))) | (rw [show v8 - v8 / nI (ln_tb (rd_w v)) * nI (ln_tb (rd_w v)) + nI (ln_tb (rd_w v)) = cs_picks v mo ni bs from (by rw [picks_0 has, pi_1 (by rcases hi0 with q | q; exact absurd c108 (by omega); exact q.1) hev8]; exact (rem_pt ht1 ht3).2 (Int32.not_le.mp c129))]; exact hQ _ _ (az_up_ne (az_up_ne (az_up_ne (az_up_ne az_up_eq)))) (fun j hj => by simp [su, hj]) (by repeat (first | exact hk | refine mk.uJ ?_ rfl | refine mk.uI ?_ rfl | refine mk.uO ?_)) (by repeat (first | exact mf.rf | refine mf.up ?_ (by decide)))) | exact absurd c129 (by omega))
      · refine az_iconst (v := (-1)) dX12_pickedNow_98 ?_
        exact az_iret dX12_pickedNow_99 (by rw [← picks_1 (v := v) (mo := mo) (ni := ni) (bs := bs) (ln_as1 (by rcases hi1 with q | q; exact absurd c86 (by omega); exact q.1) hev (by rw [show v9 = nI 1 from (by first | exact c95 | exact Decidable.byContradiction c95)]; decide))]; exact hQ _ _ (az_up_ne (az_up_ne (az_up_ne az_up_eq))) (fun j hj => by simp [su, hj]) (by repeat (first | exact hk | refine mk.uJ ?_ rfl | refine mk.uI ?_ rfl | refine mk.uO ?_)) (by repeat (first | exact mf.rf | refine mf.up ?_ (by decide))))
  · refine az_bipush (v := nI 6) dX12_pickedNow_53 ?_
    refine az_goto (tgt := 65) dX12_pickedNow_55 ?_
    refine az_iastN (j := 3) dX12_pickedNow_65 az_up_eq ?_
    refine az_aload_n dX12_pickedNow_66 ?_
    refine az_getf (v := .ref 73) dX12_pickedNow_67 fl_X12_43 (az_up_ne (az_up_ne az_up_eq)) ?_
    refine az_iconst (v := nI 4) dX12_pickedNow_70 ?_
    refine az_lload_n dX12_pickedNow_71 ?_
    refine az_ldc2 (v := lN 10) dX12_pickedNow_72 cn_X12_285 ?_
    refine az_lrem dX12_pickedNow_75 (by decide) ?_
    refine az_l2i dX12_pickedNow_76 ?_
    first | rw [show nI 6 = (ln_env (rd_w v) bs mo ni) 3 from congrArg nI (str_n (by omega))] | rw [show nI ((ln_str (rd_w v) bs).reverse.head?.getD 6) = (ln_env (rd_w v) bs mo ni) 3 from rfl]
    refine az_iastN (j := 4) dX12_pickedNow_77 az_up_eq ?_
    have hen : ∀ j, j < 5 → (az_s (az_s (az_s (az_s (az_s f73 0 (nI ni)) 1 (nI mo)) 2 (nI ((ln_str (rd_w v) bs).head?.getD 6))) 3 ((ln_env (rd_w v) bs mo ni) 3)) 4 ((ln_env (rd_w v) bs mo ni) 4)) j = (ln_env (rd_w v) bs mo ni) j := (fun j hj => by have h9 : j = 0 ∨ j = 1 ∨ j = 2 ∨ j = 3 ∨ j = 4 := (by omega); rcases h9 with rfl | rfl | rfl | rfl | rfl <;> rfl)
    refine az_aload_n dX12_pickedNow_78 ?_
    refine az_getf (v := .ref 65) dX12_pickedNow_79 fl_X12_13 (az_up_ne (az_up_ne (az_up_ne az_up_eq))) ?_
    refine az_bipush (v := nI 106) dX12_pickedNow_82 ?_
    refine az_ialdN (j := 106) dX12_pickedNow_84 (az_up_ne (az_up_ne (az_up_ne (az_up_ne (az_up_ne (az_up_ne (az_up_ne h65))))))) ?_
    refine az_iconst (v := nI 1) dX12_pickedNow_85 ?_
    refine az_icmp_neN (tgt := 100) dX12_pickedNow_86 (fun c86 => ?_) (fun c86 => ?_)
    · have has : ln_as (ln_env (rd_w v) bs mo ni) v.2.2.2.2.2.2.2.2 = 0 := (by first | exact as_0 (by rcases hi1 with q | q; exact q.1; exact absurd q.2 (by omega)) | exact ln_as0 (by rcases hi1 with q | q; exact absurd c86 (by omega); exact q.1) hev ((htv rfl).resolve_right c95))
      refine az_aload_n dX12_pickedNow_100 ?_
      refine az_getf (v := .ref 65) dX12_pickedNow_101 fl_X12_13 (az_up_ne (az_up_ne (az_up_ne az_up_eq))) ?_
      refine az_bipush (v := nI 105) dX12_pickedNow_104 ?_
      refine az_ialdN (j := 105) dX12_pickedNow_106 (az_up_ne (az_up_ne (az_up_ne (az_up_ne (az_up_ne (az_up_ne (az_up_ne h65))))))) ?_
      refine az_iconst (v := nI 1) dX12_pickedNow_107 ?_
      refine az_icmp_neN (tgt := 126) dX12_pickedNow_108 (fun c108 => ?_) (fun c108 => ?_)
      · refine az_iconst (v := nI 0) dX12_pickedNow_126 ?_
        refine az_istore_n (ls' := [(0, .ref 64), (1, .long (lN ((ln_str (rd_w v) bs).length))), (3, .int (nI 0))]) dX12_pickedNow_127 ?_
        refine az_iload_n dX12_pickedNow_128 ?_
        refine az_if_geN (tgt := 143) dX12_pickedNow_129 (fun c129 => ?_) (fun c129 => ?_)
        · refine az_iload_n dX12_pickedNow_143 ?_
          exact az_iret dX12_pickedNow_144 (by first | (rw [show nI 0 = cs_picks v mo ni bs from (by rw [picks_0 has, pi_0 (by rcases hi0 with q | q; exact q.1; exact absurd q.2 (by omega))])]; exact hQ _ _ (az_up_ne (az_up_ne (az_up_ne az_up_eq))) (fun j hj => by simp [su, hj]) (by repeat (first | exact hk | refine mk.uJ ?_ rfl | refine mk.uI ?_ rfl | refine mk.uO ?_)) (by repeat (first | exact mf.rf | refine mf.up ?_ (by decide)))) | (rw [show v8 - v8 / nI (ln_tb (rd_w v)) * nI (ln_tb (rd_w v)) = cs_picks v mo ni bs from (by rw [picks_0 has, pi_1 (by rcases hi0 with q | q; exact absurd c108 (by omega); exact q.1) hev8]; exact (rem_pt ht1 ht3).1 (Int32.not_lt.mpr c129))]; exact hQ _ _ (az_up_ne (az_up_ne (az_up_ne az_up_eq))) (fun j hj => by simp [su, hj]) (by repeat (first | exact hk | refine mk.uJ ?_ rfl | refine mk.uI ?_ rfl | refine mk.uO ?_)) (by repeat (first | exact mf.rf | refine mf.up ?_ (by decide)))) | (rw [show v8 - v8 / nI (ln_tb (rd_w v)) * nI (ln_tb (rd_w v)) + nI (ln_tb (rd_w v)) = cs_picks v mo ni bs from (by rw [picks_0 has, pi_1 (by rcases hi0 with q | q; exact absurd c108 (by omega); exact q.1) hev8]; exact (rem_pt ht1 ht3).2 (Int32.not_le.mp c129))]; exact hQ _ _ (az_up_ne (az_up_ne (az_up_ne az_up_eq))) (fun j hj => by simp [su, hj]) (by repeat (first | exact hk | refine mk.uJ ?_ rfl | refine mk.uI ?_ rfl | refine mk.uO ?_)) (by repeat (first | exact mf.rf | refine mf.up ?_ (by decide)))) | exact absurd c129 (by omega))
        · refine az_iload_n dX12_pickedNow_132 ?_
          refine az_aload_n dX12_pickedNow_133 ?_
          refine az_getf (v := .ref 65) dX12_pickedNow_134 fl_X12_13 (az_up_ne (az_up_ne (az_up_ne az_up_eq))) ?_
          refine az_iconst (v := nI 1) dX12_pickedNow_137 ?_
          refine az_ialdN (j := 1) dX12_pickedNow_138 (az_up_ne (az_up_ne (az_up_ne (az_up_ne (az_up_ne (az_up_ne (az_up_ne h65))))))) ?_
          rw [hA1]
          refine az_iaddN dX12_pickedNow_139 ?_
          refine az_goto (tgt := 144) dX12_pickedNow_140 ?_
          exact az_iret dX12_pickedNow_144 (by first | (rw [show nI 0 = cs_picks v mo ni bs from (by rw [picks_0 has, pi_0 (by rcases hi0 with q | q; exact q.1; exact absurd q.2 (by omega))])]; exact hQ _ _ (az_up_ne (az_up_ne (az_up_ne az_up_eq))) (fun j hj => by simp [su, hj]) (by repeat (first | exact hk | refine mk.uJ ?_ rfl | refine mk.uI ?_ rfl | refine mk.uO ?_)) (by repeat (first | exact mf.rf | refine mf.up ?_ (by decide)))) | (rw [show v8 - v8 / nI (ln_tb (rd_w v)) * nI (ln_tb (rd_w v)) = cs_picks v mo ni bs from (by rw [picks_0 has, pi_1 (by rcases hi0 with q | q; exact absurd c108 (by omega); exact q.1) hev8]; exact (rem_pt ht1 ht3).1 (Int32.not_lt.mpr c129))]; exact hQ _ _ (az_up_ne (az_up_ne (az_up_ne az_up_eq))) (fun j hj => by simp [su, hj]) (by repeat (first | exact hk | refine mk.uJ ?_ rfl | refine mk.uI ?_ rfl | refine mk.uO ?_)) (by repeat (first | exact mf.rf | refine mf.up ?_ (by decide)))) | (rw [show v8 - v8 / nI (ln_tb (rd_w v)) * nI (ln_tb (rd_w v)) + nI (ln_tb (rd_w v)) = cs_picks v mo ni bs from (by rw [picks_0 has, pi_1 (by rcases hi0 with q | q; exact absurd c108 (by omega); exact q.1) hev8]; exact (rem_pt ht1 ht3).2 (Int32.not_le.mp c129))]; exact hQ _ _ (az_up_ne (az_up_ne (az_up_ne az_up_eq))) (fun j hj => by simp [su, hj]) (by repeat (first | exact hk | refine mk.uJ ?_ rfl | refine mk.uI ?_ rfl | refine mk.uO ?_)) (by repeat (first | exact mf.rf | refine mf.up ?_ (by decide)))) | exact absurd c129 (by omega))
      · refine az_aload_n dX12_pickedNow_111 ?_
        refine az_iconst (v := nI 0) dX12_pickedNow_112 ?_
        refine az_cV0 (st := []) dX12_pickedNow_113 ml_X12_287 (az_up_ne (az_up_ne (az_up_ne az_up_eq))) (m_reckons (d := d - 1) (l := 0) (ks := v.2.2.2.2.2.2.2.1) (t9 := false) (en := (ln_env (rd_w v) bs mo ni)) (by omega) (by decide) (by rcases hi0 with q | q; exact absurd c108 (by omega); exact q.1) ((hgd.2.1.2.2).resolve_left (by rcases hi0 with q | q; exact absurd c108 (by omega); exact q.1)) (az_up_ne (az_up_ne (az_up_ne az_up_eq))) (az_up_ne (az_up_ne (az_up_ne (az_up_ne (az_up_ne (az_up_ne (az_up_ne h65))))))) hL0 (az_up_ne (az_up_ne (az_up_ne (az_up_ne (az_up_ne (az_up_ne (az_up_ne e72))))))) az_up_eq hen ?_)
        intro v8 wa8 hev8 _
        refine az_aload_n dX12_pickedNow_116 ?_
        refine az_getf (v := .ref 65) dX12_pickedNow_117 fl_X12_13 (az_up_ne (az_up_ne (az_up_ne (az_up_ne az_up_eq)))) ?_
        refine az_iconst (v := nI 1) dX12_pickedNow_120 ?_
        refine az_ialdN (j := 1) dX12_pickedNow_121 (az_up_ne (az_up_ne (az_up_ne (az_up_ne (az_up_ne (az_up_ne (az_up_ne (az_up_ne h65)))))))) ?_
        rw [hA1]
        refine az_irem dX12_pickedNow_122 hT0 ?_
        refine az_goto (tgt := 127) dX12_pickedNow_123 ?_
        refine az_istore_n (ls' := [(0, .ref 64), (1, .long (lN ((ln_str (rd_w v) bs).length))), (3, .int (v8 - v8 / (nI (ln_tb (rd_w v))) * (nI (ln_tb (rd_w v)))))]) dX12_pickedNow_127 ?_
        refine az_iload_n dX12_pickedNow_128 ?_
        refine az_if_ge (tgt := 143) dX12_pickedNow_129 (fun c129 => ?_) (fun c129 => ?_)
        · refine az_iload_n dX12_pickedNow_143 ?_
          exact az_iret dX12_pickedNow_144 (by first | (rw [show nI 0 = cs_picks v mo ni bs from (by rw [picks_0 has, pi_0 (by rcases hi0 with q | q; exact q.1; exact absurd q.2 (by omega))])]; exact hQ _ _ (az_up_ne (az_up_ne (az_up_ne (az_up_ne az_up_eq)))) (fun j hj => by simp [su, hj]) (by repeat (first | exact hk | refine mk.uJ ?_ rfl | refine mk.uI ?_ rfl | refine mk.uO ?_)) (by repeat (first | exact mf.rf | refine mf.up ?_ (by decide)))) | (rw [show v8 - v8 / nI (ln_tb (rd_w v)) * nI (ln_tb (rd_w v)) = cs_picks v mo ni bs from (by rw [picks_0 has, pi_1 (by rcases hi0 with q | q; exact absurd c108 (by omega); exact q.1) hev8]; exact (rem_pt ht1 ht3).1 (Int32.not_lt.mpr c129))]; exact hQ _ _ (az_up_ne (az_up_ne (az_up_ne (az_up_ne az_up_eq)))) (fun j hj => by simp [su, hj]) (by repeat (first | exact hk | refine mk.uJ ?_ rfl | refine mk.uI ?_ rfl | refine mk.uO ?_)) (by repeat (first | exact mf.rf | refine mf.up ?_ (by decide)))) | (rw [show v8 - v8 / nI (ln_tb (rd_w v)) * nI (ln_tb (rd_w v)) + nI (ln_tb (rd_w v)) = cs_picks v mo ni bs from (by rw [picks_0 has, pi_1 (by rcases hi0 with q | q; exact absurd c108 (by omega); exact q.1) hev8]; exact (rem_pt ht1 ht3).2 (Int32.not_le.mp c129))]; exact hQ _ _ (az_up_ne (az_up_ne (az_up_ne (az_up_ne az_up_eq)))) (fun j hj => by simp [su, hj]) (by repeat (first | exact hk | refine mk.uJ ?_ rfl | refine mk.uI ?_ rfl | refine mk.uO ?_)) (by repeat (first | exact mf.rf | refine mf.up ?_ (by decide)))) | exact absurd c129 (by omega))
        · refine az_iload_n dX12_pickedNow_132 ?_
          refine az_aload_n dX12_pickedNow_133 ?_
          refine az_getf (v := .ref 65) dX12_pickedNow_134 fl_X12_13 (az_up_ne (az_up_ne (az_up_ne (az_up_ne az_up_eq)))) ?_
          refine az_iconst (v := nI 1) dX12_pickedNow_137 ?_
          refine az_ialdN (j := 1) dX12_pickedNow_138 (az_up_ne (az_up_ne (az_up_ne (az_up_ne (az_up_ne (az_up_ne (az_up_ne (az_up_ne h65)))))))) ?_
          rw [hA1]
          refine az_iadd dX12_pickedNow_139 ?_
          refine az_goto (tgt := 144) dX12_pickedNow_140 ?_
          exact az_iret dX12_pickedNow_144 (by first | (rw [show nI 0 = cs_picks v mo ni bs from (by rw [picks_0 has, pi_0 (by rcases hi0 with q | q; exact q.1; exact absurd q.2 (by omega))])]; exact hQ _ _ (az_up_ne (az_up_ne (az_up_ne (az_up_ne az_up_eq)))) (fun j hj => by simp [su, hj]) (by repeat (first | exact hk | refine mk.uJ ?_ rfl | refine mk.uI ?_ rfl | refine mk.uO ?_)) (by repeat (first | exact mf.rf | refine mf.up ?_ (by decide)))) | (rw [show v8 - v8 / nI (ln_tb (rd_w v)) * nI (ln_tb (rd_w v)) = cs_picks v mo ni bs from (by rw [picks_0 has, pi_1 (by rcases hi0 with q | q; exact absurd c108 (by omega); exact q.1) hev8]; exact (rem_pt ht1 ht3).1 (Int32.not_lt.mpr c129))]; exact hQ _ _ (az_up_ne (az_up_ne (az_up_ne (az_up_ne az_up_eq)))) (fun j hj => by simp [su, hj]) (by repeat (first | exact hk | refine mk.uJ ?_ rfl | refine mk.uI ?_ rfl | refine mk.uO ?_)) (by repeat (first | exact mf.rf | refine mf.up ?_ (by decide)))) | (rw [show v8 - v8 / nI (ln_tb (rd_w v)) * nI (ln_tb (rd_w v)) + nI (ln_tb (rd_w v)) = cs_picks v mo ni bs from (by rw [picks_0 has, pi_1 (by rcases hi0 with q | q; exact absurd c108 (by omega); exact q.1) hev8]; exact (rem_pt ht1 ht3).2 (Int32.not_le.mp c129))]; exact hQ _ _ (az_up_ne (az_up_ne (az_up_ne (az_up_ne az_up_eq)))) (fun j hj => by simp [su, hj]) (by repeat (first | exact hk | refine mk.uJ ?_ rfl | refine mk.uI ?_ rfl | refine mk.uO ?_)) (by repeat (first | exact mf.rf | refine mf.up ?_ (by decide)))) | exact absurd c129 (by omega))
    · refine az_aload_n dX12_pickedNow_89 ?_
      refine az_iconst (v := nI 1) dX12_pickedNow_90 ?_
      refine az_cV0 (st := []) dX12_pickedNow_91 ml_X12_287 (az_up_ne (az_up_ne (az_up_ne az_up_eq))) (m_reckons (d := d - 1) (l := 1) (ks := v.2.2.2.2.2.2.2.2) (t9 := true) (en := (ln_env (rd_w v) bs mo ni)) (by omega) (by decide) (by rcases hi1 with q | q; exact absurd c86 (by omega); exact q.1) ((hgd.2.2.2.2).resolve_left (by rcases hi1 with q | q; exact absurd c86 (by omega); exact q.1)) (az_up_ne (az_up_ne (az_up_ne az_up_eq))) (az_up_ne (az_up_ne (az_up_ne (az_up_ne (az_up_ne (az_up_ne (az_up_ne h65))))))) hL1 (az_up_ne (az_up_ne (az_up_ne (az_up_ne (az_up_ne (az_up_ne (az_up_ne e72))))))) az_up_eq hen ?_)
      intro v9 wa9 hev htv
      refine az_iconst (v := nI 1) dX12_pickedNow_94 ?_
      refine az_icmp_ne (tgt := 100) dX12_pickedNow_95 (fun c95 => ?_) (fun c95 => ?_)
      · have has : ln_as (ln_env (rd_w v) bs mo ni) v.2.2.2.2.2.2.2.2 = 0 := (by first | exact as_0 (by rcases hi1 with q | q; exact q.1; exact absurd q.2 (by omega)) | exact ln_as0 (by rcases hi1 with q | q; exact absurd c86 (by omega); exact q.1) hev ((htv rfl).resolve_right c95))
        refine az_aload_n dX12_pickedNow_100 ?_
        refine az_getf (v := .ref 65) dX12_pickedNow_101 fl_X12_13 (az_up_ne (az_up_ne (az_up_ne (az_up_ne az_up_eq)))) ?_
        refine az_bipush (v := nI 105) dX12_pickedNow_104 ?_
        refine az_ialdN (j := 105) dX12_pickedNow_106 (az_up_ne (az_up_ne (az_up_ne (az_up_ne (az_up_ne (az_up_ne (az_up_ne (az_up_ne h65)))))))) ?_
        refine az_iconst (v := nI 1) dX12_pickedNow_107 ?_
        refine az_icmp_neN (tgt := 126) dX12_pickedNow_108 (fun c108 => ?_) (fun c108 => ?_)
        · refine az_iconst (v := nI 0) dX12_pickedNow_126 ?_
          refine az_istore_n (ls' := [(0, .ref 64), (1, .long (lN ((ln_str (rd_w v) bs).length))), (3, .int (nI 0))]) dX12_pickedNow_127 ?_
          refine az_iload_n dX12_pickedNow_128 ?_
          refine az_if_geN (tgt := 143) dX12_pickedNow_129 (fun c129 => ?_) (fun c129 => ?_)
          · refine az_iload_n dX12_pickedNow_143 ?_
            exact az_iret dX12_pickedNow_144 (by first | (rw [show nI 0 = cs_picks v mo ni bs from (by rw [picks_0 has, pi_0 (by rcases hi0 with q | q; exact q.1; exact absurd q.2 (by omega))])]; exact hQ _ _ (az_up_ne (az_up_ne (az_up_ne (az_up_ne az_up_eq)))) (fun j hj => by simp [su, hj]) (by repeat (first | exact hk | refine mk.uJ ?_ rfl | refine mk.uI ?_ rfl | refine mk.uO ?_)) (by repeat (first | exact mf.rf | refine mf.up ?_ (by decide)))) | (rw [show v8 - v8 / nI (ln_tb (rd_w v)) * nI (ln_tb (rd_w v)) = cs_picks v mo ni bs from (by rw [picks_0 has, pi_1 (by rcases hi0 with q | q; exact absurd c108 (by omega); exact q.1) hev8]; exact (rem_pt ht1 ht3).1 (Int32.not_lt.mpr c129))]; exact hQ _ _ (az_up_ne (az_up_ne (az_up_ne (az_up_ne az_up_eq)))) (fun j hj => by simp [su, hj]) (by repeat (first | exact hk | refine mk.uJ ?_ rfl | refine mk.uI ?_ rfl | refine mk.uO ?_)) (by repeat (first | exact mf.rf | refine mf.up ?_ (by decide)))) | (rw [show v8 - v8 / nI (ln_tb (rd_w v)) * nI (ln_tb (rd_w v)) + nI (ln_tb (rd_w v)) = cs_picks v mo ni bs from (by rw [picks_0 has, pi_1 (by rcases hi0 with q | q; exact absurd c108 (by omega); exact q.1) hev8]; exact (rem_pt ht1 ht3).2 (Int32.not_le.mp c129))]; exact hQ _ _ (az_up_ne (az_up_ne (az_up_ne (az_up_ne az_up_eq)))) (fun j hj => by simp [su, hj]) (by repeat (first | exact hk | refine mk.uJ ?_ rfl | refine mk.uI ?_ rfl | refine mk.uO ?_)) (by repeat (first | exact mf.rf | refine mf.up ?_ (by decide)))) | exact absurd c129 (by omega))
          · refine az_iload_n dX12_pickedNow_132 ?_
            refine az_aload_n dX12_pickedNow_133 ?_
            refine az_getf (v := .ref 65) dX12_pickedNow_134 fl_X12_13 (az_up_ne (az_up_ne (az_up_ne (az_up_ne az_up_eq)))) ?_
            refine az_iconst (v := nI 1) dX12_pickedNow_137 ?_
            refine az_ialdN (j := 1) dX12_pickedNow_138 (az_up_ne (az_up_ne (az_up_ne (az_up_ne (az_up_ne (az_up_ne (az_up_ne (az_up_ne h65)))))))) ?_
            rw [hA1]
            refine az_iaddN dX12_pickedNow_139 ?_
            refine az_goto (tgt := 144) dX12_pickedNow_140 ?_
            exact az_iret dX12_pickedNow_144 (by first | (rw [show nI 0 = cs_picks v mo ni bs from (by rw [picks_0 has, pi_0 (by rcases hi0 with q | q; exact q.1; exact absurd q.2 (by omega))])]; exact hQ _ _ (az_up_ne (az_up_ne (az_up_ne (az_up_ne az_up_eq)))) (fun j hj => by simp [su, hj]) (by repeat (first | exact hk | refine mk.uJ ?_ rfl | refine mk.uI ?_ rfl | refine mk.uO ?_)) (by repeat (first | exact mf.rf | refine mf.up ?_ (by decide)))) | (rw [show v8 - v8 / nI (ln_tb (rd_w v)) * nI (ln_tb (rd_w v)) = cs_picks v mo ni bs from (by rw [picks_0 has, pi_1 (by rcases hi0 with q | q; exact absurd c108 (by omega); exact q.1) hev8]; exact (rem_pt ht1 ht3).1 (Int32.not_lt.mpr c129))]; exact hQ _ _ (az_up_ne (az_up_ne (az_up_ne (az_up_ne az_up_eq)))) (fun j hj => by simp [su, hj]) (by repeat (first | exact hk | refine mk.uJ ?_ rfl | refine mk.uI ?_ rfl | refine mk.uO ?_)) (by repeat (first | exact mf.rf | refine mf.up ?_ (by decide)))) | (rw [show v8 - v8 / nI (ln_tb (rd_w v)) * nI (ln_tb (rd_w v)) + nI (ln_tb (rd_w v)) = cs_picks v mo ni bs from (by rw [picks_0 has, pi_1 (by rcases hi0 with q | q; exact absurd c108 (by omega); exact q.1) hev8]; exact (rem_pt ht1 ht3).2 (Int32.not_le.mp c129))]; exact hQ _ _ (az_up_ne (az_up_ne (az_up_ne (az_up_ne az_up_eq)))) (fun j hj => by simp [su, hj]) (by repeat (first | exact hk | refine mk.uJ ?_ rfl | refine mk.uI ?_ rfl | refine mk.uO ?_)) (by repeat (first | exact mf.rf | refine mf.up ?_ (by decide)))) | exact absurd c129 (by omega))
        · refine az_aload_n dX12_pickedNow_111 ?_
          refine az_iconst (v := nI 0) dX12_pickedNow_112 ?_
          refine az_cV0 (st := []) dX12_pickedNow_113 ml_X12_287 (az_up_ne (az_up_ne (az_up_ne (az_up_ne az_up_eq)))) (m_reckons (d := d - 1) (l := 0) (ks := v.2.2.2.2.2.2.2.1) (t9 := false) (en := (ln_env (rd_w v) bs mo ni)) (by omega) (by decide) (by rcases hi0 with q | q; exact absurd c108 (by omega); exact q.1) ((hgd.2.1.2.2).resolve_left (by rcases hi0 with q | q; exact absurd c108 (by omega); exact q.1)) (az_up_ne (az_up_ne (az_up_ne (az_up_ne az_up_eq)))) (az_up_ne (az_up_ne (az_up_ne (az_up_ne (az_up_ne (az_up_ne (az_up_ne (az_up_ne h65)))))))) hL0 az_up_eq (az_up_ne az_up_eq) hen ?_)
          intro v8 wa8 hev8 _
          refine az_aload_n dX12_pickedNow_116 ?_
          refine az_getf (v := .ref 65) dX12_pickedNow_117 fl_X12_13 (az_up_ne (az_up_ne (az_up_ne (az_up_ne (az_up_ne az_up_eq))))) ?_
          refine az_iconst (v := nI 1) dX12_pickedNow_120 ?_
          refine az_ialdN (j := 1) dX12_pickedNow_121 (az_up_ne (az_up_ne (az_up_ne (az_up_ne (az_up_ne (az_up_ne (az_up_ne (az_up_ne (az_up_ne h65))))))))) ?_
          rw [hA1]
          refine az_irem dX12_pickedNow_122 hT0 ?_
          refine az_goto (tgt := 127) dX12_pickedNow_123 ?_
          refine az_istore_n (ls' := [(0, .ref 64), (1, .long (lN ((ln_str (rd_w v) bs).length))), (3, .int (v8 - v8 / (nI (ln_tb (rd_w v))) * (nI (ln_tb (rd_w v)))))]) dX12_pickedNow_127 ?_
          refine az_iload_n dX12_pickedNow_128 ?_
          refine az_if_ge (tgt := 143) dX12_pickedNow_129 (fun c129 => ?_) (fun c129 => ?_)
          · refine az_iload_n dX12_pickedNow_143 ?_
            exact az_iret dX12_pickedNow_144 (by first | (rw [show nI 0 = cs_picks v mo ni bs from (by rw [picks_0 has, pi_0 (by rcases hi0 with q | q; exact q.1; exact absurd q.2 (by omega))])]; exact hQ _ _ (az_up_ne (az_up_ne (az_up_ne (az_up_ne (az_up_ne az_up_eq))))) (fun j hj => by simp [su, hj]) (by repeat (first | exact hk | refine mk.uJ ?_ rfl | refine mk.uI ?_ rfl | refine mk.uO ?_)) (by repeat (first | exact mf.rf | refine mf.up ?_ (by decide)))) | (rw [show v8 - v8 / nI (ln_tb (rd_w v)) * nI (ln_tb (rd_w v)) = cs_picks v mo ni bs from (by rw [picks_0 has, pi_1 (by rcases hi0 with q | q; exact absurd c108 (by omega); exact q.1) hev8]; exact (rem_pt ht1 ht3).1 (Int32.not_lt.mpr c129))]; exact hQ _ _ (az_up_ne (az_up_ne (az_up_ne (az_up_ne (az_up_ne az_up_eq))))) (fun j hj => by simp [su, hj]) (by repeat (first | exact hk | refine mk.uJ ?_ rfl | refine mk.uI ?_ rfl | refine mk.uO ?_)) (by repeat (first | exact mf.rf | refine mf.up ?_ (by decide)))) | (rw [show v8 - v8 / nI (ln_tb (rd_w v)) * nI (ln_tb (rd_w v)) + nI (ln_tb (rd_w v)) = cs_picks v mo ni bs from (by rw [picks_0 has, pi_1 (by rcases hi0 with q | q; exact absurd c108 (by omega); exact q.1) hev8]; exact (rem_pt ht1 ht3).2 (Int32.not_le.mp c129))]; exact hQ _ _ (az_up_ne (az_up_ne (az_up_ne (az_up_ne (az_up_ne az_up_eq))))) (fun j hj => by simp [su, hj]) (by repeat (first | exact hk | refine mk.uJ ?_ rfl | refine mk.uI ?_ rfl | refine mk.uO ?_)) (by repeat (first | exact mf.rf | refine mf.up ?_ (by decide)))) | exact absurd c129 (by omega))
          · refine az_iload_n dX12_pickedNow_132 ?_
            refine az_aload_n dX12_pickedNow_133 ?_
            refine az_getf (v := .ref 65) dX12_pickedNow_134 fl_X12_13 (az_up_ne (az_up_ne (az_up_ne (az_up_ne (az_up_ne az_up_eq))))) ?_
            refine az_iconst (v := nI 1) dX12_pickedNow_137 ?_
            refine az_ialdN (j := 1) dX12_pickedNow_138 (az_up_ne (az_up_ne (az_up_ne (az_up_ne (az_up_ne (az_up_ne (az_up_ne (az_up_ne (az_up_ne h65))))))))) ?_
            rw [hA1]
            refine az_iadd dX12_pickedNow_139 ?_
            refine az_goto (tgt := 144) dX12_pickedNow_140 ?_
            exact az_iret dX12_pickedNow_144 (by first | (rw [show nI 0 = cs_picks v mo ni bs from (by rw [picks_0 has, pi_0 (by rcases hi0 with q | q; exact q.1; exact absurd q.2 (by omega))])]; exact hQ _ _ (az_up_ne (az_up_ne (az_up_ne (az_up_ne (az_up_ne az_up_eq))))) (fun j hj => by simp [su, hj]) (by repeat (first | exact hk | refine mk.uJ ?_ rfl | refine mk.uI ?_ rfl | refine mk.uO ?_)) (by repeat (first | exact mf.rf | refine mf.up ?_ (by decide)))) | (rw [show v8 - v8 / nI (ln_tb (rd_w v)) * nI (ln_tb (rd_w v)) = cs_picks v mo ni bs from (by rw [picks_0 has, pi_1 (by rcases hi0 with q | q; exact absurd c108 (by omega); exact q.1) hev8]; exact (rem_pt ht1 ht3).1 (Int32.not_lt.mpr c129))]; exact hQ _ _ (az_up_ne (az_up_ne (az_up_ne (az_up_ne (az_up_ne az_up_eq))))) (fun j hj => by simp [su, hj]) (by repeat (first | exact hk | refine mk.uJ ?_ rfl | refine mk.uI ?_ rfl | refine mk.uO ?_)) (by repeat (first | exact mf.rf | refine mf.up ?_ (by decide)))) | (rw [show v8 - v8 / nI (ln_tb (rd_w v)) * nI (ln_tb (rd_w v)) + nI (ln_tb (rd_w v)) = cs_picks v mo ni bs from (by rw [picks_0 has, pi_1 (by rcases hi0 with q | q; exact absurd c108 (by omega); exact q.1) hev8]; exact (rem_pt ht1 ht3).2 (Int32.not_le.mp c129))]; exact hQ _ _ (az_up_ne (az_up_ne (az_up_ne (az_up_ne (az_up_ne az_up_eq))))) (fun j hj => by simp [su, hj]) (by repeat (first | exact hk | refine mk.uJ ?_ rfl | refine mk.uI ?_ rfl | refine mk.uO ?_)) (by repeat (first | exact mf.rf | refine mf.up ?_ (by decide)))) | exact absurd c129 (by omega))
      · refine az_iconst (v := (-1)) dX12_pickedNow_98 ?_
        exact az_iret dX12_pickedNow_99 (by rw [← picks_1 (v := v) (mo := mo) (ni := ni) (bs := bs) (ln_as1 (by rcases hi1 with q | q; exact absurd c86 (by omega); exact q.1) hev (by rw [show v9 = nI 1 from (by first | exact c95 | exact Decidable.byContradiction c95)]; decide))]; exact hQ _ _ (az_up_ne (az_up_ne (az_up_ne (az_up_ne az_up_eq)))) (fun j hj => by simp [su, hj]) (by repeat (first | exact hk | refine mk.uJ ?_ rfl | refine mk.uI ?_ rfl | refine mk.uO ?_)) (by repeat (first | exact mf.rf | refine mf.up ?_ (by decide))))

