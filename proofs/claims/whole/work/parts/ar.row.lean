/-! The model: fates -/
theorem all_0 {f : Nat → Nat} {x y : Nat} : (f x ||| 2 ^ x) >>> y &&& 1 = 0 ↔ (kb f x y = 0 ∧ ¬ y = x) := by
  rw [tb_0, Nat.testBit_or, kb_0, Nat.testBit_two_pow]
  simp only [Bool.or_eq_false_iff, decide_eq_false_iff_not]
  exact ⟨fun h => ⟨h.1, fun e => h.2 e.symm⟩, fun h => ⟨h.1, fun e => h.2 e.symm⟩⟩
theorem in_0 {f : Nat → Nat} {x y : Nat} : f x >>> y &&& 1 = 0 ↔ kb f x y = 0 := by rw [tb_0, kb_0]
theorem all_lt {f : Nat → Nat} {x : Nat} (h : f x < 64) (hx : x < 6) : f x ||| 2 ^ x < 64 := or_lt64 h (two_lt64 hx)
set_option maxHeartbeats 4000000 in
set_option maxRecDepth 100000 in
theorem m_itsAll {d x : Nat} {sc : Nat → Value} {F9 f : Nat → Nat} {hp : az_Hp} {Q : Option Value → az_Hp → Prop} (h64 : hp.2 64 = some (mo_o sc)) (h80 : hp.2 80 = some (az_I 6 (fun j => nI (F9 j)))) (hF : ∀ x, x < 6 → F9 x = f x) (hlt : ∀ x, f x < 64) (hx : x < 6) (hQ : Q (some (.int (nI (f x ||| 2 ^ x)))) hp) : az_M mX12_itsAll d 0 0 [.ref 64, .int (nI x)] hp Q := by
  have hl := hlt x
  have h2 := two_lt64 hx
  refine az_M.of rfl (Nat.le_of_ble_eq_true rfl) ?_
  show az_W _ _ _ _ 0 [(0, .ref 64), (1, .int (nI x))] [] _ _
  refine az_aload_n dX12_itsAll_0 ?_
  refine az_getf (v := .ref 80) dX12_itsAll_1 fl_X12_64 h64 ?_
  refine az_iload_n dX12_itsAll_4 ?_
  refine az_ialdN (j := x) dX12_itsAll_5 h80 ?_
  rw [hF x hx]
  refine az_iconst (v := nI 1) dX12_itsAll_6 ?_
  refine az_iload_n dX12_itsAll_7 ?_
  refine az_ishl1N dX12_itsAll_8 ?_
  refine az_iorN dX12_itsAll_9 ?_
  exact az_iret dX12_itsAll_10 (hQ)
set_option maxHeartbeats 4000000 in
set_option maxRecDepth 100000 in
theorem m_isDoubled {d tb : Nat} {sc : Nat → Value} {A : Nat → Nat} {v : rd_V} {hp : az_Hp} {Q : Option Value → az_Hp → Prop} {x : Nat} {F9 f : Nat → Nat} (hd : 1 ≤ d) (hw : ln_ok (rd_w v)) (h64 : hp.2 64 = some (mo_o sc)) (h65 : hp.2 65 = some (az_I 3318 (fun j => nI (A j)))) (hV : mV A v) (h3 : tb < 3) (h80 : hp.2 80 = some (az_I 6 (fun j => nI (F9 j)))) (hF : ∀ x, x < 6 → F9 x = f x) (hlt : ∀ x, f x < 64) (hx : x < 6) (hQ : Q (some (.int (nI (kn_db (rd_w v) f tb x)))) hp) : az_M mX12_isDoubled d 0 0 [.ref 64, .int (nI tb), .int (nI x)] hp Q := by
  have hz4 := hw.2.2.2.2.2.2.1 (tb * 6 + x)
  have loop : ∀ (k : Nat) (i : Nat), ln_sz (rd_w v) (tb * 6 + x) - i = k → (i ≤ ln_sz (rd_w v) (tb * 6 + x)) → az_W mX12_isDoubled d 0 0 5 [(0, .ref 64), (1, .int (nI tb)), (2, .int (nI x)), (3, .int (nI (kn_ag (rd_w v) f tb x i))), (4, .int (nI i))] [] hp Q := by
    intro k
    induction k using Nat.strongRecOn with
    | _ k ih =>
    intro i hk hi
    refine az_iload dX12_isDoubled_5 ?_
    refine az_aload_n dX12_isDoubled_7 ?_
    refine az_iload_n dX12_isDoubled_8 ?_
    refine az_iload_n dX12_isDoubled_9 ?_
    refine az_cV0 (st := [.int (nI i)]) dX12_isDoubled_10 ml_X12_239 h64 (m_becomeMany (d := d - 1) (v := v) (tb := tb) (x := x) h64 h65 hV h3 hx ?_)
    refine az_icmp_geN (tgt := 50) dX12_isDoubled_13 (fun c13 => ?_) (fun c13 => ?_)
    · obtain rfl : i = ln_sz (rd_w v) (tb * 6 + x) := (by omega)
      have hal := kn_ag_le (rd_w v) f tb x (ln_sz (rd_w v) (tb * 6 + x))
      refine az_iload_n dX12_isDoubled_50 ?_
      refine az_iconst (v := nI 1) dX12_isDoubled_51 ?_
      refine az_icmp_leN (tgt := 59) dX12_isDoubled_52 (fun c52 => ?_) (fun c52 => ?_)
      · refine az_iconst (v := nI 0) dX12_isDoubled_59 ?_
        exact az_iret dX12_isDoubled_60 (by first | (rw [kn_db, if_pos (by omega)] at hQ; exact hQ) | (rw [kn_db, if_neg (by omega)] at hQ; exact hQ))
      · refine az_iconst (v := nI 1) dX12_isDoubled_55 ?_
        refine az_goto (tgt := 60) dX12_isDoubled_56 ?_
        exact az_iret dX12_isDoubled_60 (by first | (rw [kn_db, if_pos (by omega)] at hQ; exact hQ) | (rw [kn_db, if_neg (by omega)] at hQ; exact hQ))
    · refine az_iload_n dX12_isDoubled_16 ?_
      refine az_aload_n dX12_isDoubled_17 ?_
      refine az_aload_n dX12_isDoubled_18 ?_
      refine az_iload_n dX12_isDoubled_19 ?_
      refine az_iload_n dX12_isDoubled_20 ?_
      refine az_iload dX12_isDoubled_21 ?_
      refine az_cV0 (st := [.ref 64, .int (nI (kn_ag (rd_w v) f tb x i))]) dX12_isDoubled_23 ml_X12_242 h64 (m_becomeOf (d := d - 1) (v := v) (tb := tb) (x := x) (i := i) h64 h65 hV hw h3 hx (by omega) ?_)
      have hc6 := hw.2.2.2.2.2.2.2.1 ((tb * 6 + x) * 4 + i)
      have hcl := all_lt (hlt (ln_ch (rd_w v) ((tb * 6 + x) * 4 + i))) hc6
      have hal := kn_ag_le (rd_w v) f tb x i
      refine az_cV0 (st := [.int (nI (kn_ag (rd_w v) f tb x i))]) dX12_isDoubled_26 ml_X12_405 h64 (m_itsAll (d := d - 1) (x := ln_ch (rd_w v) ((tb * 6 + x) * 4 + i)) h64 h80 hF hlt hc6 ?_)
      refine az_i2lN dX12_isDoubled_29 ?_
      refine az_iload_n dX12_isDoubled_30 ?_
      refine az_cS0 (st := [.int (nI (kn_ag (rd_w v) f tb x i))]) dX12_isDoubled_31 ml_X12_401 (m_isIn (d := d - 1) (s := f (ln_ch (rd_w v) ((tb * 6 + x) * 4 + i)) ||| 2 ^ (ln_ch (rd_w v) ((tb * 6 + x) * 4 + i))) (k9 := x) hcl hx ?_ ?_)
      · intro hyes
        rw [all_0] at hyes
        refine az_if_eqN (tgt := 41) dX12_isDoubled_34 (fun c34 => ?_) (fun c34 => ?_)
        · exact absurd c34 (by omega)
        · refine az_iconst (v := nI 1) dX12_isDoubled_37 ?_
          refine az_goto (tgt := 42) dX12_isDoubled_38 ?_
          refine az_iaddN dX12_isDoubled_42 ?_
          refine az_istore_n (ls' := [(0, .ref 64), (1, .int (nI tb)), (2, .int (nI x)), (3, .int (nI ((kn_ag (rd_w v) f tb x i) + 1))), (4, .int (nI i))]) dX12_isDoubled_43 ?_
          refine az_iincN (n := 1) (ls' := [(0, .ref 64), (1, .int (nI tb)), (2, .int (nI x)), (3, .int (nI ((kn_ag (rd_w v) f tb x i) + 1))), (4, .int (nI (i + 1)))]) dX12_isDoubled_44 ?_
          refine az_goto (tgt := 5) dX12_isDoubled_47 ?_
          first | (have _g := hyes; rw [show kn_ag (rd_w v) f tb x i + 1 = kn_ag (rd_w v) f tb x (i + 1) from (by rw [kn_ag]; by_cases q : ln_ch (rd_w v) ((tb * 6 + x) * 4 + i) = x; rw [if_pos q]; rw [if_neg q, if_neg (fun q2 => hyes ⟨q2, fun q3 => q q3.symm⟩)])]; exact ih _ (by omega) (i + 1) rfl (by omega)) | (have _g := hno; rw [show kn_ag (rd_w v) f tb x i + 0 = kn_ag (rd_w v) f tb x (i + 1) from (by rw [kn_ag, if_neg (fun q => hno.2 q.symm), if_pos hno.1]; rfl)]; exact ih _ (by omega) (i + 1) rfl (by omega))
      · intro hno
        rw [all_0] at hno
        refine az_if_eqN (tgt := 41) dX12_isDoubled_34 (fun c34 => ?_) (fun c34 => ?_)
        · refine az_iconst (v := nI 0) dX12_isDoubled_41 ?_
          refine az_iaddN dX12_isDoubled_42 ?_
          refine az_istore_n (ls' := [(0, .ref 64), (1, .int (nI tb)), (2, .int (nI x)), (3, .int (nI ((kn_ag (rd_w v) f tb x i) + 0))), (4, .int (nI i))]) dX12_isDoubled_43 ?_
          refine az_iincN (n := 1) (ls' := [(0, .ref 64), (1, .int (nI tb)), (2, .int (nI x)), (3, .int (nI ((kn_ag (rd_w v) f tb x i) + 0))), (4, .int (nI (i + 1)))]) dX12_isDoubled_44 ?_
          refine az_goto (tgt := 5) dX12_isDoubled_47 ?_
          first | (have _g := hyes; rw [show kn_ag (rd_w v) f tb x i + 1 = kn_ag (rd_w v) f tb x (i + 1) from (by rw [kn_ag]; by_cases q : ln_ch (rd_w v) ((tb * 6 + x) * 4 + i) = x; rw [if_pos q]; rw [if_neg q, if_neg (fun q2 => hyes ⟨q2, fun q3 => q q3.symm⟩)])]; exact ih _ (by omega) (i + 1) rfl (by omega)) | (have _g := hno; rw [show kn_ag (rd_w v) f tb x i + 0 = kn_ag (rd_w v) f tb x (i + 1) from (by rw [kn_ag, if_neg (fun q => hno.2 q.symm), if_pos hno.1]; rfl)]; exact ih _ (by omega) (i + 1) rfl (by omega))
        · exact absurd c34 (by omega)
  refine az_M.of rfl (Nat.le_of_ble_eq_true rfl) ?_
  show az_W _ _ _ _ 0 [(0, .ref 64), (1, .int (nI tb)), (2, .int (nI x))] [] _ _
  refine az_iconst (v := nI 0) dX12_isDoubled_0 ?_
  refine az_istore_n (ls' := [(0, .ref 64), (1, .int (nI tb)), (2, .int (nI x)), (3, .int (nI 0))]) dX12_isDoubled_1 ?_
  refine az_iconst (v := nI 0) dX12_isDoubled_2 ?_
  refine az_istore (ls' := [(0, .ref 64), (1, .int (nI tb)), (2, .int (nI x)), (3, .int (nI 0)), (4, .int (nI 0))]) dX12_isDoubled_3 ?_
  exact loop _ 0 rfl (Nat.zero_le _)

set_option maxHeartbeats 4000000 in
set_option maxRecDepth 100000 in
theorem m_rowFrom {sc : Nat → Value} {F9 f : Nat → Nat} {hp : az_Hp} (h64 : hp.2 64 = some (mo_o sc)) (h80 : hp.2 80 = some (az_I 6 (fun j => nI (F9 j)))) (hF : ∀ x, x < 6 → F9 x = f x) (hlt : ∀ x, f x < 64) (hT : kT f) : ∀ (N : Nat) {d x : Nat} {Q : Option Value → az_Hp → Prop}, kmu f x ≤ N → N + 1 ≤ d → x < 6 → kb f x x = 1 → Q (some (.int (nI (kc_al f 6 x)))) hp → az_M mX12_rowFrom d 0 0 [.ref 64, .int (nI x)] hp Q := by
  intro N
  induction N with
  | zero => intro d x Q hm _ hx hc _; exact absurd (kmu_pos hx hc) (by omega)
  | succ N ihN =>
    intro d x Q hm hd hx hc hQ
    have hcl := kc_al_le f 6
    have hlx := hlt x
    have loop : ∀ (k : Nat) (i : Nat), 6 - i = k → (i ≤ 6) → az_W mX12_rowFrom d 0 0 4 [(0, .ref 64), (1, .int (nI x)), (2, .int (nI (kn_lb f (kc_al f 6) x i))), (3, .int (nI i))] [] hp Q := by
      intro k
      induction k using Nat.strongRecOn with
      | _ k ih =>
      intro i hk hi
      refine az_iload_n dX12_rowFrom_4 ?_
      refine az_bipush (v := nI 6) dX12_rowFrom_5 ?_
      refine az_icmp_geN (tgt := 81) dX12_rowFrom_7 (fun c7 => ?_) (fun c7 => ?_)
      · refine az_iload_n dX12_rowFrom_81 ?_
        refine az_iconst (v := nI 1) dX12_rowFrom_82 ?_
        refine az_iaddN dX12_rowFrom_83 ?_
        exact az_iret dX12_rowFrom_84 (by obtain rfl : i = 6 := (by omega); rw [kc_fix hT hx hc, Nat.add_comm] at hQ; exact hQ)
      · refine az_aload_n dX12_rowFrom_10 ?_
        refine az_getf (v := .ref 80) dX12_rowFrom_11 fl_X12_64 h64 ?_
        refine az_iload_n dX12_rowFrom_14 ?_
        refine az_ialdN (j := x) dX12_rowFrom_15 h80 ?_
        rw [hF x hx]
        refine az_i2lN dX12_rowFrom_16 ?_
        refine az_iload_n dX12_rowFrom_17 ?_
        refine az_cS0 (st := []) dX12_rowFrom_18 ml_X12_401 (m_isIn (d := d - 1) (s := f x) (k9 := i) (hlt x) (by omega) ?_ ?_)
        · intro hy1
          rw [in_0] at hy1
          have hy1 := kb_01 hy1
          refine az_if_eqN (tgt := 75) dX12_rowFrom_21 (fun c21 => ?_) (fun c21 => ?_)
          · exact absurd c21 (by omega)
          · refine az_aload_n dX12_rowFrom_24 ?_
            refine az_getf (v := .ref 80) dX12_rowFrom_25 fl_X12_64 h64 ?_
            refine az_iload_n dX12_rowFrom_28 ?_
            refine az_ialdN (j := i) dX12_rowFrom_29 h80 ?_
            rw [hF i (by omega)]
            have hli := hlt i
            refine az_i2lN dX12_rowFrom_30 ?_
            refine az_iload_n dX12_rowFrom_31 ?_
            refine az_cS0 (st := []) dX12_rowFrom_32 ml_X12_401 (m_isIn (d := d - 1) (s := f i) (k9 := i) (hlt i) (by omega) ?_ ?_)
            · intro hy2
              rw [in_0] at hy2
              have hy2 := kb_01 hy2
              refine az_if_eqN (tgt := 75) dX12_rowFrom_35 (fun c35 => ?_) (fun c35 => ?_)
              · exact absurd c35 (by omega)
              · refine az_aload_n dX12_rowFrom_38 ?_
                refine az_getf (v := .ref 80) dX12_rowFrom_39 fl_X12_64 h64 ?_
                refine az_iload_n dX12_rowFrom_42 ?_
                refine az_ialdN (j := i) dX12_rowFrom_43 h80 ?_
                rw [hF i (by omega)]
                refine az_i2lN dX12_rowFrom_44 ?_
                refine az_iload_n dX12_rowFrom_45 ?_
                refine az_cS0 (st := []) dX12_rowFrom_46 ml_X12_401 (m_isIn (d := d - 1) (s := f i) (k9 := x) (hlt i) hx ?_ ?_)
                · intro hy3
                  rw [in_0] at hy3
                  refine az_if_eqN (tgt := 55) dX12_rowFrom_49 (fun c49 => ?_) (fun c49 => ?_)
                  · exact absurd c49 (by omega)
                  · refine az_goto (tgt := 75) dX12_rowFrom_52 ?_
                    refine az_iincN (n := 1) (ls' := [(0, .ref 64), (1, .int (nI x)), (2, .int (nI (kn_lb f (kc_al f 6) x i))), (3, .int (nI (i + 1)))]) dX12_rowFrom_75 ?_
                    refine az_goto (tgt := 4) dX12_rowFrom_78 ?_
                    first | (have _g := hn1; rw [show kn_lb f (kc_al f 6) x i = kn_lb f (kc_al f 6) x (i + 1) from (by rw [kn_lb, if_pos hn1])]; exact ih _ (by omega) (i + 1) rfl (by omega)) | (have _g := hn2; rw [show kn_lb f (kc_al f 6) x i = kn_lb f (kc_al f 6) x (i + 1) from (by rw [kn_lb, if_neg (by omega), hci, Nat.max_zero]; split <;> rfl)]; exact ih _ (by omega) (i + 1) rfl (by omega)) | (have _g := hy3; rw [show kn_lb f (kc_al f 6) x i = kn_lb f (kc_al f 6) x (i + 1) from (by rw [kn_lb, if_neg (by omega), if_neg hy3])]; exact ih _ (by omega) (i + 1) rfl (by omega)) | (rw [show kc_al f 6 i = kn_lb f (kc_al f 6) x (i + 1) from (by rw [kn_lb, if_neg (by omega), if_pos hn3]; omega)]; exact ih _ (by omega) (i + 1) rfl (by omega)) | (rw [show kn_lb f (kc_al f 6) x i = kn_lb f (kc_al f 6) x (i + 1) from (by rw [kn_lb, if_neg (by omega), if_pos hn3]; omega)]; exact ih _ (by omega) (i + 1) rfl (by omega))
                · intro hn3
                  rw [in_0] at hn3
                  have hmu := kmu_lt hT hx (show i < 6 by omega) hy1 hn3 hc
                  refine az_if_eqN (tgt := 55) dX12_rowFrom_49 (fun c49 => ?_) (fun c49 => ?_)
                  · refine az_aload_n dX12_rowFrom_55 ?_
                    refine az_iload_n dX12_rowFrom_56 ?_
                    refine az_cV0 (st := []) dX12_rowFrom_57 ml_X12_408 h64 (ihN (d := d - 1) (x := i) (by omega) (by omega) (by omega) hy2 ?_)
                    have hci := hcl i
                    have hlb := kn_lb_le (f := f) (x := x) hcl i
                    refine az_istore (ls' := [(0, .ref 64), (1, .int (nI x)), (2, .int (nI (kn_lb f (kc_al f 6) x i))), (3, .int (nI i)), (4, .int (nI (kc_al f 6 i)))]) dX12_rowFrom_60 ?_
                    refine az_iload dX12_rowFrom_62 ?_
                    refine az_iload_n dX12_rowFrom_64 ?_
                    refine az_icmp_leN (tgt := 73) dX12_rowFrom_65 (fun c65 => ?_) (fun c65 => ?_)
                    · refine az_iload_n dX12_rowFrom_73 ?_
                      refine az_istore_n (ls' := [(0, .ref 64), (1, .int (nI x)), (2, .int (nI (kn_lb f (kc_al f 6) x i))), (3, .int (nI i)), (4, .int (nI (kc_al f 6 i)))]) dX12_rowFrom_74 ?_
                      refine az_iincN (n := 1) (ls' := [(0, .ref 64), (1, .int (nI x)), (2, .int (nI (kn_lb f (kc_al f 6) x i))), (3, .int (nI (i + 1))), (4, .int (nI (kc_al f 6 i)))]) dX12_rowFrom_75 ?_
                      refine az_goto (tgt := 4) dX12_rowFrom_78 ?_
                      refine az_W.keep (ls' := [(0, .ref 64), (1, .int (nI x)), (2, .int (nI (kn_lb f (kc_al f 6) x i))), (3, .int (nI (i + 1)))]) [0, 1, 2, 3] rfl ?_
                      first | (have _g := hn1; rw [show kn_lb f (kc_al f 6) x i = kn_lb f (kc_al f 6) x (i + 1) from (by rw [kn_lb, if_pos hn1])]; exact ih _ (by omega) (i + 1) rfl (by omega)) | (have _g := hn2; rw [show kn_lb f (kc_al f 6) x i = kn_lb f (kc_al f 6) x (i + 1) from (by rw [kn_lb, if_neg (by omega), hci, Nat.max_zero]; split <;> rfl)]; exact ih _ (by omega) (i + 1) rfl (by omega)) | (have _g := hy3; rw [show kn_lb f (kc_al f 6) x i = kn_lb f (kc_al f 6) x (i + 1) from (by rw [kn_lb, if_neg (by omega), if_neg hy3])]; exact ih _ (by omega) (i + 1) rfl (by omega)) | (rw [show kc_al f 6 i = kn_lb f (kc_al f 6) x (i + 1) from (by rw [kn_lb, if_neg (by omega), if_pos hn3]; omega)]; exact ih _ (by omega) (i + 1) rfl (by omega)) | (rw [show kn_lb f (kc_al f 6) x i = kn_lb f (kc_al f 6) x (i + 1) from (by rw [kn_lb, if_neg (by omega), if_pos hn3]; omega)]; exact ih _ (by omega) (i + 1) rfl (by omega))
                    · refine az_iload dX12_rowFrom_68 ?_
                      refine az_goto (tgt := 74) dX12_rowFrom_70 ?_
                      refine az_istore_n (ls' := [(0, .ref 64), (1, .int (nI x)), (2, .int (nI (kc_al f 6 i))), (3, .int (nI i)), (4, .int (nI (kc_al f 6 i)))]) dX12_rowFrom_74 ?_
                      refine az_iincN (n := 1) (ls' := [(0, .ref 64), (1, .int (nI x)), (2, .int (nI (kc_al f 6 i))), (3, .int (nI (i + 1))), (4, .int (nI (kc_al f 6 i)))]) dX12_rowFrom_75 ?_
                      refine az_goto (tgt := 4) dX12_rowFrom_78 ?_
                      refine az_W.keep (ls' := [(0, .ref 64), (1, .int (nI x)), (2, .int (nI (kc_al f 6 i))), (3, .int (nI (i + 1)))]) [0, 1, 2, 3] rfl ?_
                      first | (have _g := hn1; rw [show kn_lb f (kc_al f 6) x i = kn_lb f (kc_al f 6) x (i + 1) from (by rw [kn_lb, if_pos hn1])]; exact ih _ (by omega) (i + 1) rfl (by omega)) | (have _g := hn2; rw [show kn_lb f (kc_al f 6) x i = kn_lb f (kc_al f 6) x (i + 1) from (by rw [kn_lb, if_neg (by omega), hci, Nat.max_zero]; split <;> rfl)]; exact ih _ (by omega) (i + 1) rfl (by omega)) | (have _g := hy3; rw [show kn_lb f (kc_al f 6) x i = kn_lb f (kc_al f 6) x (i + 1) from (by rw [kn_lb, if_neg (by omega), if_neg hy3])]; exact ih _ (by omega) (i + 1) rfl (by omega)) | (rw [show kc_al f 6 i = kn_lb f (kc_al f 6) x (i + 1) from (by rw [kn_lb, if_neg (by omega), if_pos hn3]; omega)]; exact ih _ (by omega) (i + 1) rfl (by omega)) | (rw [show kn_lb f (kc_al f 6) x i = kn_lb f (kc_al f 6) x (i + 1) from (by rw [kn_lb, if_neg (by omega), if_pos hn3]; omega)]; exact ih _ (by omega) (i + 1) rfl (by omega))
                  · exact absurd c49 (by omega)
            · intro hn2
              rw [in_0] at hn2
              have hci := kc_non hT (show i < 6 by omega) hn2
              refine az_if_eqN (tgt := 75) dX12_rowFrom_35 (fun c35 => ?_) (fun c35 => ?_)
              · refine az_iincN (n := 1) (ls' := [(0, .ref 64), (1, .int (nI x)), (2, .int (nI (kn_lb f (kc_al f 6) x i))), (3, .int (nI (i + 1)))]) dX12_rowFrom_75 ?_
                refine az_goto (tgt := 4) dX12_rowFrom_78 ?_
                first | (have _g := hn1; rw [show kn_lb f (kc_al f 6) x i = kn_lb f (kc_al f 6) x (i + 1) from (by rw [kn_lb, if_pos hn1])]; exact ih _ (by omega) (i + 1) rfl (by omega)) | (have _g := hn2; rw [show kn_lb f (kc_al f 6) x i = kn_lb f (kc_al f 6) x (i + 1) from (by rw [kn_lb, if_neg (by omega), hci, Nat.max_zero]; split <;> rfl)]; exact ih _ (by omega) (i + 1) rfl (by omega)) | (have _g := hy3; rw [show kn_lb f (kc_al f 6) x i = kn_lb f (kc_al f 6) x (i + 1) from (by rw [kn_lb, if_neg (by omega), if_neg hy3])]; exact ih _ (by omega) (i + 1) rfl (by omega)) | (rw [show kc_al f 6 i = kn_lb f (kc_al f 6) x (i + 1) from (by rw [kn_lb, if_neg (by omega), if_pos hn3]; omega)]; exact ih _ (by omega) (i + 1) rfl (by omega)) | (rw [show kn_lb f (kc_al f 6) x i = kn_lb f (kc_al f 6) x (i + 1) from (by rw [kn_lb, if_neg (by omega), if_pos hn3]; omega)]; exact ih _ (by omega) (i + 1) rfl (by omega))
              · exact absurd c35 (by omega)
        · intro hn1
          rw [in_0] at hn1
          refine az_if_eqN (tgt := 75) dX12_rowFrom_21 (fun c21 => ?_) (fun c21 => ?_)
          · refine az_iincN (n := 1) (ls' := [(0, .ref 64), (1, .int (nI x)), (2, .int (nI (kn_lb f (kc_al f 6) x i))), (3, .int (nI (i + 1)))]) dX12_rowFrom_75 ?_
            refine az_goto (tgt := 4) dX12_rowFrom_78 ?_
            first | (have _g := hn1; rw [show kn_lb f (kc_al f 6) x i = kn_lb f (kc_al f 6) x (i + 1) from (by rw [kn_lb, if_pos hn1])]; exact ih _ (by omega) (i + 1) rfl (by omega)) | (have _g := hn2; rw [show kn_lb f (kc_al f 6) x i = kn_lb f (kc_al f 6) x (i + 1) from (by rw [kn_lb, if_neg (by omega), hci, Nat.max_zero]; split <;> rfl)]; exact ih _ (by omega) (i + 1) rfl (by omega)) | (have _g := hy3; rw [show kn_lb f (kc_al f 6) x i = kn_lb f (kc_al f 6) x (i + 1) from (by rw [kn_lb, if_neg (by omega), if_neg hy3])]; exact ih _ (by omega) (i + 1) rfl (by omega)) | (rw [show kc_al f 6 i = kn_lb f (kc_al f 6) x (i + 1) from (by rw [kn_lb, if_neg (by omega), if_pos hn3]; omega)]; exact ih _ (by omega) (i + 1) rfl (by omega)) | (rw [show kn_lb f (kc_al f 6) x i = kn_lb f (kc_al f 6) x (i + 1) from (by rw [kn_lb, if_neg (by omega), if_pos hn3]; omega)]; exact ih _ (by omega) (i + 1) rfl (by omega))
          · exact absurd c21 (by omega)
    refine az_M.of rfl (Nat.le_of_ble_eq_true rfl) ?_
    show az_W _ _ _ _ 0 [(0, .ref 64), (1, .int (nI x))] [] _ _
    refine az_iconst (v := nI 0) dX12_rowFrom_0 ?_
    refine az_istore_n (ls' := [(0, .ref 64), (1, .int (nI x)), (2, .int (nI 0))]) dX12_rowFrom_1 ?_
    refine az_iconst (v := nI 0) dX12_rowFrom_2 ?_
    refine az_istore_n (ls' := [(0, .ref 64), (1, .int (nI x)), (2, .int (nI 0)), (3, .int (nI 0))]) dX12_rowFrom_3 ?_
    exact loop _ 0 rfl (Nat.zero_le _)
/-- the longest chain among x and those it comes to, as the model finds it -/
def mr (f c : Nat → Nat) (x : Nat) : Nat → Nat
  | 0 => 0
  | k + 1 => if (k = x ∨ kb f x k = 1) ∧ kb f k k = 1 then max (mr f c x k) (c k) else mr f c x k
theorem mr_le {f c : Nat → Nat} {x m : Nat} (h : ∀ y, c y ≤ m) (k : Nat) : mr f c x k ≤ m := by
  induction k with
  | zero => exact Nat.zero_le _
  | succ k ih =>
    rw [mr]
    have := h k
    split
    · omega
    · exact ih
theorem mr_cf {f c : Nat → Nat} {x : Nat} (hc : ∀ y, y < 6 → kb f y y = 0 → c y = 0) : ∀ k, k ≤ 6 → max (mr f c x k) (c x) = kn_cf f c x k ∧ (x < k → c x ≤ mr f c x k) := by
  intro k
  induction k with
  | zero => intro _; exact ⟨Nat.zero_max _, fun h => absurd h (by omega)⟩
  | succ k ih =>
    intro hk
    obtain ⟨i1, i2⟩ := ih (by omega)
    have hl := kb_le f x k
    have hl2 := kb_le f k k
    rw [mr, kn_cf]
    by_cases q1 : kb f k k = 1
    · by_cases q2 : kb f x k = 0
      · rw [if_pos q2]
        by_cases e : k = x
        · rw [if_pos ⟨Or.inl e, q1⟩, ← i1, e]
          exact ⟨by omega, fun _ => by omega⟩
        · rw [if_neg (fun c => c.1.elim e (fun c => by omega))]
          exact ⟨i1, fun h => i2 (by omega)⟩
      · rw [if_neg q2, if_pos ⟨Or.inr (by omega), q1⟩, ← i1]
        refine ⟨by omega, fun h => ?_⟩
        by_cases e : k = x
        · rw [e]; omega
        · have := i2 (by omega); omega
    · have hk0 := hc k (by omega) (by omega)
      rw [if_neg (fun c => q1 c.2), hk0]
      refine ⟨?_, fun h => ?_⟩
      · by_cases q2 : kb f x k = 0
        · rw [if_pos q2]; exact i1
        · rw [if_neg q2, Nat.max_zero]; exact i1
      · by_cases e : k = x
        · rw [← e, hk0]; exact Nat.zero_le _
        · exact i2 (by omega)
theorem mr_6 {f c : Nat → Nat} {x : Nat} (hx : x < 6) (hc : ∀ y, y < 6 → kb f y y = 0 → c y = 0) : mr f c x 6 = kn_cf f c x 6 := by
  obtain ⟨h1, h2⟩ := mr_cf (x := x) hc 6 (Nat.le_refl _)
  have := h2 hx
  omega
set_option maxHeartbeats 4000000 in
set_option maxRecDepth 100000 in
theorem m_mostRow {d x : Nat} {sc : Nat → Value} {F9 f : Nat → Nat} {hp : az_Hp} {Q : Option Value → az_Hp → Prop} (hd : 8 ≤ d) (h64 : hp.2 64 = some (mo_o sc)) (h80 : hp.2 80 = some (az_I 6 (fun j => nI (F9 j)))) (hF : ∀ x, x < 6 → F9 x = f x) (hlt : ∀ x, f x < 64) (hT : kT f) (hx : x < 6) (hQ : Q (some (.int (nI (kn_cf f (kc_al f 6) x 6)))) hp) : az_M mX12_mostRow d 0 0 [.ref 64, .int (nI x)] hp Q := by
  have hcl := kc_al_le f 6
  have hal := all_lt (hlt x) hx
  have loop : ∀ (k : Nat) (i : Nat), 6 - i = k → (i ≤ 6) → az_W mX12_mostRow d 0 0 4 [(0, .ref 64), (1, .int (nI x)), (2, .int (nI (mr f (kc_al f 6) x i))), (3, .int (nI i))] [] hp Q := by
    intro k
    induction k using Nat.strongRecOn with
    | _ k ih =>
    intro i hk hi
    refine az_iload_n dX12_mostRow_4 ?_
    refine az_bipush (v := nI 6) dX12_mostRow_5 ?_
    refine az_icmp_geN (tgt := 66) dX12_mostRow_7 (fun c7 => ?_) (fun c7 => ?_)
    · refine az_iload_n dX12_mostRow_66 ?_
      exact az_iret dX12_mostRow_67 (by obtain rfl : i = 6 := (by omega); rw [mr_6 hx (fun y hy h => kc_non hT hy h)]; exact hQ)
    · refine az_aload_n dX12_mostRow_10 ?_
      refine az_iload_n dX12_mostRow_11 ?_
      refine az_cV0 (st := []) dX12_mostRow_12 ml_X12_405 h64 (m_itsAll (d := d - 1) (x := x) h64 h80 hF hlt hx ?_)
      refine az_i2lN dX12_mostRow_15 ?_
      refine az_iload_n dX12_mostRow_16 ?_
      refine az_cS0 (st := []) dX12_mostRow_17 ml_X12_401 (m_isIn (d := d - 1) (s := f x ||| 2 ^ x) (k9 := i) hal (by omega) ?_ ?_)
      · intro hy1
        rw [all_0] at hy1
        have hor : i = x ∨ kb f x i = 1 := (by by_cases q : i = x; exact Or.inl q; exact Or.inr (kb_01 (fun q2 => hy1 ⟨q2, q⟩)))
        refine az_if_eqN (tgt := 60) dX12_mostRow_20 (fun c20 => ?_) (fun c20 => ?_)
        · exact absurd c20 (by omega)
        · refine az_aload_n dX12_mostRow_23 ?_
          refine az_getf (v := .ref 80) dX12_mostRow_24 fl_X12_64 h64 ?_
          refine az_iload_n dX12_mostRow_27 ?_
          refine az_ialdN (j := i) dX12_mostRow_28 h80 ?_
          rw [hF i (by omega)]
          have hli := hlt i
          refine az_i2lN dX12_mostRow_29 ?_
          refine az_iload_n dX12_mostRow_30 ?_
          refine az_cS0 (st := []) dX12_mostRow_31 ml_X12_401 (m_isIn (d := d - 1) (s := f i) (k9 := i) (hlt i) (by omega) ?_ ?_)
          · intro hy2
            rw [in_0] at hy2
            have hy2 := kb_01 hy2
            refine az_if_neN (tgt := 40) dX12_mostRow_34 (fun c34 => ?_) (fun c34 => ?_)
            · refine az_aload_n dX12_mostRow_40 ?_
              refine az_iload_n dX12_mostRow_41 ?_
              refine az_cV0 (st := []) dX12_mostRow_42 ml_X12_408 h64 (m_rowFrom h64 h80 hF hlt hT 6 (d := d - 1) (x := i) (kmu_le f i) (by omega) (by omega) hy2 ?_)
              have hci := hcl i
              have hlb := mr_le (f := f) (x := x) hcl i
              refine az_istore (ls' := [(0, .ref 64), (1, .int (nI x)), (2, .int (nI (mr f (kc_al f 6) x i))), (3, .int (nI i)), (4, .int (nI (kc_al f 6 i)))]) dX12_mostRow_45 ?_
              refine az_iload dX12_mostRow_47 ?_
              refine az_iload_n dX12_mostRow_49 ?_
              refine az_icmp_leN (tgt := 58) dX12_mostRow_50 (fun c50 => ?_) (fun c50 => ?_)
              · refine az_iload_n dX12_mostRow_58 ?_
                refine az_istore_n (ls' := [(0, .ref 64), (1, .int (nI x)), (2, .int (nI (mr f (kc_al f 6) x i))), (3, .int (nI i)), (4, .int (nI (kc_al f 6 i)))]) dX12_mostRow_59 ?_
                refine az_iincN (n := 1) (ls' := [(0, .ref 64), (1, .int (nI x)), (2, .int (nI (mr f (kc_al f 6) x i))), (3, .int (nI (i + 1))), (4, .int (nI (kc_al f 6 i)))]) dX12_mostRow_60 ?_
                refine az_goto (tgt := 4) dX12_mostRow_63 ?_
                refine az_W.keep (ls' := [(0, .ref 64), (1, .int (nI x)), (2, .int (nI (mr f (kc_al f 6) x i))), (3, .int (nI (i + 1)))]) [0, 1, 2, 3] rfl ?_
                first | (have _g := hn1; rw [show mr f (kc_al f 6) x i = mr f (kc_al f 6) x (i + 1) from (by rw [mr, if_neg (fun c => c.1.elim hn1.2 (fun c => by have := hn1.1; omega))])]; exact ih _ (by omega) (i + 1) rfl (by omega)) | (have _g := hn2; rw [show mr f (kc_al f 6) x i = mr f (kc_al f 6) x (i + 1) from (by rw [mr, if_neg (fun c => by have := c.2; omega)])]; exact ih _ (by omega) (i + 1) rfl (by omega)) | (rw [show kc_al f 6 i = mr f (kc_al f 6) x (i + 1) from (by rw [mr, if_pos ⟨hor, hy2⟩]; omega)]; exact ih _ (by omega) (i + 1) rfl (by omega)) | (rw [show mr f (kc_al f 6) x i = mr f (kc_al f 6) x (i + 1) from (by rw [mr, if_pos ⟨hor, hy2⟩]; omega)]; exact ih _ (by omega) (i + 1) rfl (by omega))
              · refine az_iload dX12_mostRow_53 ?_
                refine az_goto (tgt := 59) dX12_mostRow_55 ?_
                refine az_istore_n (ls' := [(0, .ref 64), (1, .int (nI x)), (2, .int (nI (kc_al f 6 i))), (3, .int (nI i)), (4, .int (nI (kc_al f 6 i)))]) dX12_mostRow_59 ?_
                refine az_iincN (n := 1) (ls' := [(0, .ref 64), (1, .int (nI x)), (2, .int (nI (kc_al f 6 i))), (3, .int (nI (i + 1))), (4, .int (nI (kc_al f 6 i)))]) dX12_mostRow_60 ?_
                refine az_goto (tgt := 4) dX12_mostRow_63 ?_
                refine az_W.keep (ls' := [(0, .ref 64), (1, .int (nI x)), (2, .int (nI (kc_al f 6 i))), (3, .int (nI (i + 1)))]) [0, 1, 2, 3] rfl ?_
                first | (have _g := hn1; rw [show mr f (kc_al f 6) x i = mr f (kc_al f 6) x (i + 1) from (by rw [mr, if_neg (fun c => c.1.elim hn1.2 (fun c => by have := hn1.1; omega))])]; exact ih _ (by omega) (i + 1) rfl (by omega)) | (have _g := hn2; rw [show mr f (kc_al f 6) x i = mr f (kc_al f 6) x (i + 1) from (by rw [mr, if_neg (fun c => by have := c.2; omega)])]; exact ih _ (by omega) (i + 1) rfl (by omega)) | (rw [show kc_al f 6 i = mr f (kc_al f 6) x (i + 1) from (by rw [mr, if_pos ⟨hor, hy2⟩]; omega)]; exact ih _ (by omega) (i + 1) rfl (by omega)) | (rw [show mr f (kc_al f 6) x i = mr f (kc_al f 6) x (i + 1) from (by rw [mr, if_pos ⟨hor, hy2⟩]; omega)]; exact ih _ (by omega) (i + 1) rfl (by omega))
            · exact absurd c34 (by omega)
          · intro hn2
            rw [in_0] at hn2
            refine az_if_neN (tgt := 40) dX12_mostRow_34 (fun c34 => ?_) (fun c34 => ?_)
            · exact absurd c34 (by omega)
            · refine az_goto (tgt := 60) dX12_mostRow_37 ?_
              refine az_iincN (n := 1) (ls' := [(0, .ref 64), (1, .int (nI x)), (2, .int (nI (mr f (kc_al f 6) x i))), (3, .int (nI (i + 1)))]) dX12_mostRow_60 ?_
              refine az_goto (tgt := 4) dX12_mostRow_63 ?_
              first | (have _g := hn1; rw [show mr f (kc_al f 6) x i = mr f (kc_al f 6) x (i + 1) from (by rw [mr, if_neg (fun c => c.1.elim hn1.2 (fun c => by have := hn1.1; omega))])]; exact ih _ (by omega) (i + 1) rfl (by omega)) | (have _g := hn2; rw [show mr f (kc_al f 6) x i = mr f (kc_al f 6) x (i + 1) from (by rw [mr, if_neg (fun c => by have := c.2; omega)])]; exact ih _ (by omega) (i + 1) rfl (by omega)) | (rw [show kc_al f 6 i = mr f (kc_al f 6) x (i + 1) from (by rw [mr, if_pos ⟨hor, hy2⟩]; omega)]; exact ih _ (by omega) (i + 1) rfl (by omega)) | (rw [show mr f (kc_al f 6) x i = mr f (kc_al f 6) x (i + 1) from (by rw [mr, if_pos ⟨hor, hy2⟩]; omega)]; exact ih _ (by omega) (i + 1) rfl (by omega))
      · intro hn1
        rw [all_0] at hn1
        refine az_if_eqN (tgt := 60) dX12_mostRow_20 (fun c20 => ?_) (fun c20 => ?_)
        · refine az_iincN (n := 1) (ls' := [(0, .ref 64), (1, .int (nI x)), (2, .int (nI (mr f (kc_al f 6) x i))), (3, .int (nI (i + 1)))]) dX12_mostRow_60 ?_
          refine az_goto (tgt := 4) dX12_mostRow_63 ?_
          first | (have _g := hn1; rw [show mr f (kc_al f 6) x i = mr f (kc_al f 6) x (i + 1) from (by rw [mr, if_neg (fun c => c.1.elim hn1.2 (fun c => by have := hn1.1; omega))])]; exact ih _ (by omega) (i + 1) rfl (by omega)) | (have _g := hn2; rw [show mr f (kc_al f 6) x i = mr f (kc_al f 6) x (i + 1) from (by rw [mr, if_neg (fun c => by have := c.2; omega)])]; exact ih _ (by omega) (i + 1) rfl (by omega)) | (rw [show kc_al f 6 i = mr f (kc_al f 6) x (i + 1) from (by rw [mr, if_pos ⟨hor, hy2⟩]; omega)]; exact ih _ (by omega) (i + 1) rfl (by omega)) | (rw [show mr f (kc_al f 6) x i = mr f (kc_al f 6) x (i + 1) from (by rw [mr, if_pos ⟨hor, hy2⟩]; omega)]; exact ih _ (by omega) (i + 1) rfl (by omega))
        · exact absurd c20 (by omega)
  refine az_M.of rfl (Nat.le_of_ble_eq_true rfl) ?_
  show az_W _ _ _ _ 0 [(0, .ref 64), (1, .int (nI x))] [] _ _
  refine az_iconst (v := nI 0) dX12_mostRow_0 ?_
  refine az_istore_n (ls' := [(0, .ref 64), (1, .int (nI x)), (2, .int (nI 0))]) dX12_mostRow_1 ?_
  refine az_iconst (v := nI 0) dX12_mostRow_2 ?_
  refine az_istore_n (ls' := [(0, .ref 64), (1, .int (nI x)), (2, .int (nI 0)), (3, .int (nI 0))]) dX12_mostRow_3 ?_
  exact loop _ 0 rfl (Nat.zero_le _)

