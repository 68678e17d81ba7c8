/-! Reader: the head; a new town -/
def rd_head (b : Nat → Nat) (n e : Nat) (v : rd_V) : rd_T := match rd_tw b n "street" e [] with
  | .inr x => .inr x
  | .inl x1 => match rd_tw b n "tables" x1.1 [] with
    | .inr x => .inr x
    | .inl x2 => match rd_tn b n 1 3 x2.1 [] with
      | .inr x => .inr x
      | .inl x3 => match rd_tw b n "moon" x3.1 [] with
        | .inr x => .inr x
        | .inl x4 => match rd_tn b n 0 9 x4.1 [] with
          | .inr x => .inr x
          | .inl x5 => match rd_ts b n 59 x5.1 [] with
            | .inr x => .inr x
            | .inl x6 => .inl (x6.1, (rd_va b n x2.1, rd_va b n x4.1, 1, v.2.2.2))
theorem rd_To.set {h h' : az_Hp} {t q tx x1 x2 x3 a4 a5 : Nat} {w : ln_W} (h1 : h.2 (t + 1) = some (az_I 12 (fun j => nI (ln_st w j)))) (h2 : h.2 (t + 2) = some (az_I 18 (fun j => nI (ln_sz w j)))) (h3 : h.2 (t + 3) = some (az_I 72 (fun j => nI (ln_ch w j)))) (h4 : h.2 a4 = some (az_I (ln_pk w).1 (ln_pk w).2)) (h5 : h.2 a5 = some (az_I (ln_sl w).1 (ln_sl w).2)) (o1 : q + 4 ≤ t) (o2 : tx < t) (o3 : t + 4 ≤ a4) (o4 : a4 < h.1) (o5 : t + 4 ≤ a5) (o6 : a5 < h.1) (hn : h'.1 = h.1) (h0 : h'.2 t = some (az_O 8 [.int (nI x1), .int (nI x2), .int (nI x3), .int (nI (ln_sd w)), .ref (t + 1), .ref (t + 2), .ref (t + 3), .ref a4, .ref a5])) (hk : ∀ z, t < z → h'.2 z = h.2 z) : rd_To h' t (x1, x2, x3, w.2.2.2) q tx :=
  ⟨a4, a5, h0, (hk _ (by omega)).trans h1, (hk _ (by omega)).trans h2, (hk _ (by omega)).trans h3, (hk _ (by omega)).trans h4, (hk _ (by omega)).trans h5, o1, o2, o3, by omega, o5, by omega⟩
set_option maxHeartbeats 8000000 in
set_option maxRecDepth 100000 in
theorem s_readHead {d q tx n e t : Nat} {b : Nat → Nat} {k5 : Nat} {v : rd_V} {hp : az_Hp} {Q : Option Value → az_Hp → Prop} (hd : 8 ≤ d) (hS : rd_Sn hp q tx n b e k5) (hT : rd_To hp t (rd_w v) q tx) (hQ : rd_TQ (rd_head b n e v) hp q tx n b t Q) : az_M mX5_readHead d 0 0 [.ref q, .ref t] hp Q := by
  obtain ⟨va, hW, hk9, hv⟩ := id hS
  obtain ⟨hX, he, hc, cf, ol, h0, h3, hcf, h2⟩ := id hW
  obtain ⟨w, hw9⟩ : ∃ w, w = rd_w v := ⟨_, rfl⟩
  rw [← hw9] at hT
  obtain ⟨a4, a5, t0, t1, t2, t3, t4, t5, o1, o2, o3, o4, o5, o6⟩ := id hT
  refine az_M.of rfl (Nat.le_of_ble_eq_true rfl) ?_
  show az_W _ _ _ _ 0 [(0, .ref q), (1, .ref t)] [] _ _
  refine az_aload_n dX5_readHead_0 ?_
  refine az_ldcS (k := 1) dX5_readHead_1 rfl rfl rfl ?_
  refine az_cV0 (st := []) dX5_readHead_3 ml_X5_59 h0 (g_takeWord (d := d - 1) (k9 := 1) (r := ("LetterNights$Reader", 57, "street")) (by omega) rfl hW (rd_Qg.i ?_ ?_))
  · intro e1 c1 hq1 h1 hS1 hf1
    obtain ⟨va1, hW1, hk1, hv1⟩ := id hS1
    obtain ⟨hX1, he1, hc1, cf1, ol1, g1, -⟩ := id hW1
    rw [rd_head, hq1] at hQ
    dsimp only at hQ
    obtain rfl := rd_tw_inl hq1
    refine az_if_eqN (tgt := 27) dX5_readHead_6 (fun c6 => ?_) (fun c6 => ?_)
    · exact absurd c6 (by omega)
    · refine az_aload_n dX5_readHead_9 ?_
      refine az_ldcS (k := 2) dX5_readHead_10 rfl rfl rfl ?_
      refine az_cV0 (st := []) dX5_readHead_12 ml_X5_59 g1 (g_takeWord (d := d - 1) (k9 := 2) (r := ("LetterNights$Reader", 63, "tables")) (by omega) rfl hW1 (rd_Qg.i ?_ ?_))
      · intro e2 c2 hq2 h2' hS2 hf2
        obtain ⟨va2, hW2, hk2, hv2⟩ := id hS2
        obtain ⟨hX2, he2, hc2, cf2, ol2, g2, -⟩ := id hW2
        rw [hq2] at hQ
        dsimp only at hQ
        refine az_if_eqN (tgt := 27) dX5_readHead_15 (fun c15 => ?_) (fun c15 => ?_)
        · exact absurd c15 (by omega)
        · refine az_aload_n dX5_readHead_18 ?_
          refine az_iconst (v := nI 1) dX5_readHead_19 ?_
          refine az_iconst (v := nI 3) dX5_readHead_20 ?_
          refine az_cV0 (st := []) dX5_readHead_21 ml_X5_65 g2 (g_takeNumber (d := d - 1) (lo := 1) (hi := 3) (by omega) hS2 (by omega) (by omega) ?_ ?_)
          · intro hq3 m1 m2 h3' hW3 hf3
            obtain ⟨hX3, he3, hc3, cf3, ol3, g3, -⟩ := id hW3
            rw [hq3] at hQ
            dsimp only at hQ
            have hff := (hf1.tr hf2).tr hf3
            refine az_if_neN (tgt := 29) dX5_readHead_24 (fun c24 => ?_) (fun c24 => ?_)
            · refine az_aload_n dX5_readHead_29 ?_
              refine az_aload_n dX5_readHead_30 ?_
              refine az_getf (v := .int (nI (rd_va b n e2))) dX5_readHead_31 fl_X5_69 g3 ?_
              refine az_putf (fs' := [.int (nI (rd_va b n e2)), .int (nI (ln_mo w)), .int (nI (ln_li w)), .int (nI (ln_sd w)), .ref (t + 1), .ref (t + 2), .ref (t + 3), .ref a4, .ref a5]) dX5_readHead_34 fl_X5_72 (hf3.at (hf2.at (hf1.at t0))) ?_
              refine az_aload_n dX5_readHead_37 ?_
              refine az_ldcS (k := 3) dX5_readHead_38 rfl rfl rfl ?_
              refine az_cV0 (st := []) dX5_readHead_40 ml_X5_59 (az_up_ne g3) (g_takeWord (d := d - 1) (k9 := 3) (r := ("LetterNights$Reader", 74, "moon")) (by omega) rfl (hW3.upz o1 o2) (rd_Qg.i ?_ ?_))
              · intro e5 c5 hq5 h5 hS5 hf5
                obtain ⟨va5, hW5, hk5, hv5⟩ := id hS5
                obtain ⟨hX5, he5, hc5, cf5, ol5, g5, -⟩ := id hW5
                rw [hq5] at hQ
                dsimp only at hQ
                refine az_if_eqN (tgt := 56) dX5_readHead_43 (fun c43 => ?_) (fun c43 => ?_)
                · exact absurd c43 (by omega)
                · refine az_aload_n dX5_readHead_46 ?_
                  refine az_iconst (v := nI 0) dX5_readHead_47 ?_
                  refine az_bipush (v := nI 9) dX5_readHead_48 ?_
                  refine az_cV0 (st := []) dX5_readHead_50 ml_X5_65 g5 (g_takeNumber (d := d - 1) (lo := 0) (hi := 9) (by omega) hS5 (by omega) (by omega) ?_ ?_)
                  · intro hq6 m3 m4 h6 hW6 hf6
                    obtain ⟨hX6, he6, hc6, cf6, ol6, g6, -⟩ := id hW6
                    rw [hq6] at hQ
                    dsimp only at hQ
                    refine az_if_neN (tgt := 58) dX5_readHead_53 (fun c53 => ?_) (fun c53 => ?_)
                    · refine az_aload_n dX5_readHead_58 ?_
                      refine az_aload_n dX5_readHead_59 ?_
                      refine az_getf (v := .int (nI (rd_va b n e5))) dX5_readHead_60 fl_X5_69 g6 ?_
                      refine az_putf (fs' := [.int (nI (rd_va b n e2)), .int (nI (rd_va b n e5)), .int (nI (ln_li w)), .int (nI (ln_sd w)), .ref (t + 1), .ref (t + 2), .ref (t + 3), .ref a4, .ref a5]) dX5_readHead_63 fl_X5_76 (hf6.at (hf5.at az_up_eq)) ?_
                      refine az_aload_n dX5_readHead_66 ?_
                      refine az_iconst (v := nI 1) dX5_readHead_67 ?_
                      refine az_putf (fs' := [.int (nI (rd_va b n e2)), .int (nI (rd_va b n e5)), .int (nI 1), .int (nI (ln_sd w)), .ref (t + 1), .ref (t + 2), .ref (t + 3), .ref a4, .ref a5]) dX5_readHead_68 fl_X5_78 az_up_eq ?_
                      rw [az_up_up]
                      refine az_aload_n dX5_readHead_71 ?_
                      refine az_bipush (v := nI 59) dX5_readHead_72 ?_
                      refine az_cV0 (st := []) dX5_readHead_74 ml_X5_81 (az_up_ne g6) (g_takeSign (d := d - 1) (x := 59) (by omega) (by omega) (hW6.upz o1 o2) (rd_Qg.i ?_ ?_))
                      · intro e7 c7 hq7 h7 hS7 hf7
                        rw [hq7] at hQ
                        exact az_iret dX5_readHead_77 (by first | (obtain ⟨va7, hW7, -⟩ := hS7; exact hQ h7 ⟨k5, va7, hW7⟩ (by have h9 := rd_To.set (q := q) (tx := tx) (w := w) t1 t2 t3 t4 t5 o1 o2 o3 o4 o5 o6 (hf7.1.trans (hf6.1.trans (hf5.1.trans hff.1))) (hf7.at az_up_eq) (fun z hz => (by rw [hf7.2 z (by omega) (by omega), az_up_ne rfl, hf6.2 z (by omega) (by omega), hf5.2 z (by omega) (by omega), az_up_ne rfl, hff.2 z (by omega) (by omega)])); rw [hw9] at h9; exact h9) (((((hff.h.up).tr hf5.h).tr hf6.h).up).tr hf7.h)) | (exact hQ h7 ⟨hE7, _, rd_To.set (w := w) t1 t2 t3 t4 t5 o1 o2 o3 o4 o5 o6 (hf7.1.trans (hf6.1.trans (hf5.1.trans hff.1))) (hf7.at az_up_eq) (fun z hz => (by rw [hf7.2 z (by omega) (by omega), az_up_ne rfl, hf6.2 z (by omega) (by omega), hf5.2 z (by omega) (by omega), az_up_ne rfl, hff.2 z (by omega) (by omega)]))⟩ (((((hff.h.up).tr hf5.h).tr hf6.h).up).tr hf7.h)))
                      · intro f7 p7 hq7 h7 hE7 hf7
                        rw [hq7] at hQ
                        exact az_iret dX5_readHead_77 (by first | (obtain ⟨va7, hW7, -⟩ := hS7; exact hQ h7 ⟨k5, va7, hW7⟩ (by have h9 := rd_To.set (q := q) (tx := tx) (w := w) t1 t2 t3 t4 t5 o1 o2 o3 o4 o5 o6 (hf7.1.trans (hf6.1.trans (hf5.1.trans hff.1))) (hf7.at az_up_eq) (fun z hz => (by rw [hf7.2 z (by omega) (by omega), az_up_ne rfl, hf6.2 z (by omega) (by omega), hf5.2 z (by omega) (by omega), az_up_ne rfl, hff.2 z (by omega) (by omega)])); rw [hw9] at h9; exact h9) (((((hff.h.up).tr hf5.h).tr hf6.h).up).tr hf7.h)) | (exact hQ h7 ⟨hE7, _, rd_To.set (w := w) t1 t2 t3 t4 t5 o1 o2 o3 o4 o5 o6 (hf7.1.trans (hf6.1.trans (hf5.1.trans hff.1))) (hf7.at az_up_eq) (fun z hz => (by rw [hf7.2 z (by omega) (by omega), az_up_ne rfl, hf6.2 z (by omega) (by omega), hf5.2 z (by omega) (by omega), az_up_ne rfl, hff.2 z (by omega) (by omega)]))⟩ (((((hff.h.up).tr hf5.h).tr hf6.h).up).tr hf7.h)))
                    · exact absurd c53 (by omega)
                  · intro f6 p6 hq6 h6 hE6 hf6
                    refine az_if_neN (tgt := 58) dX5_readHead_53 (fun c53 => ?_) (fun c53 => ?_)
                    · exact absurd c53 (by omega)
                    · refine az_iconst (v := nI 0) dX5_readHead_56 ?_
                      exact az_iret dX5_readHead_57 (by first | (rw [hq5] at hQ; exact hQ h5 ⟨hE5, _, rd_To.set (w := w) t1 t2 t3 t4 t5 o1 o2 o3 o4 o5 o6 (hf5.1.trans hff.1) (hf5.at az_up_eq) (fun z hz => (by rw [hf5.2 z (by omega) (by omega), az_up_ne rfl, hff.2 z (by omega) (by omega)]))⟩ ((hff.h.up).tr hf5.h)) | (rw [hq6] at hQ; exact hQ h6 ⟨hE6, _, rd_To.set (w := w) t1 t2 t3 t4 t5 o1 o2 o3 o4 o5 o6 (hf6.1.trans (hf5.1.trans hff.1)) (hf6.at (hf5.at az_up_eq)) (fun z hz => (by rw [hf6.2 z (by omega) (by omega), hf5.2 z (by omega) (by omega), az_up_ne rfl, hff.2 z (by omega) (by omega)]))⟩ (((hff.h.up).tr hf5.h).tr hf6.h)))
              · intro f5 p5 hq5 h5 hE5 hf5
                refine az_if_eqN (tgt := 56) dX5_readHead_43 (fun c43 => ?_) (fun c43 => ?_)
                · refine az_iconst (v := nI 0) dX5_readHead_56 ?_
                  exact az_iret dX5_readHead_57 (by first | (rw [hq5] at hQ; exact hQ h5 ⟨hE5, _, rd_To.set (w := w) t1 t2 t3 t4 t5 o1 o2 o3 o4 o5 o6 (hf5.1.trans hff.1) (hf5.at az_up_eq) (fun z hz => (by rw [hf5.2 z (by omega) (by omega), az_up_ne rfl, hff.2 z (by omega) (by omega)]))⟩ ((hff.h.up).tr hf5.h)) | (rw [hq6] at hQ; exact hQ h6 ⟨hE6, _, rd_To.set (w := w) t1 t2 t3 t4 t5 o1 o2 o3 o4 o5 o6 (hf6.1.trans (hf5.1.trans hff.1)) (hf6.at (hf5.at az_up_eq)) (fun z hz => (by rw [hf6.2 z (by omega) (by omega), hf5.2 z (by omega) (by omega), az_up_ne rfl, hff.2 z (by omega) (by omega)]))⟩ (((hff.h.up).tr hf5.h).tr hf6.h)))
                · exact absurd c43 (by omega)
            · exact absurd c24 (by omega)
          · intro f3 p3 hq3 h3' hE3 hf3
            refine az_if_neN (tgt := 29) dX5_readHead_24 (fun c24 => ?_) (fun c24 => ?_)
            · exact absurd c24 (by omega)
            · refine az_iconst (v := nI 0) dX5_readHead_27 ?_
              exact az_iret dX5_readHead_28 (by first | (rw [rd_head, hq1] at hQ; exact hQ h1 ⟨hE1, w, hT.f hf1⟩ hf1.h) | (rw [hq2] at hQ; exact hQ h2' ⟨hE2, w, (hT.f hf1).f hf2⟩ ((hf1.tr hf2).h)) | (rw [hq3] at hQ; exact hQ h3' ⟨hE3, w, ((hT.f hf1).f hf2).f hf3⟩ (((hf1.tr hf2).tr hf3).h)))
      · intro f2 p2 hq2 h2' hE2 hf2
        refine az_if_eqN (tgt := 27) dX5_readHead_15 (fun c15 => ?_) (fun c15 => ?_)
        · refine az_iconst (v := nI 0) dX5_readHead_27 ?_
          exact az_iret dX5_readHead_28 (by first | (rw [rd_head, hq1] at hQ; exact hQ h1 ⟨hE1, w, hT.f hf1⟩ hf1.h) | (rw [hq2] at hQ; exact hQ h2' ⟨hE2, w, (hT.f hf1).f hf2⟩ ((hf1.tr hf2).h)) | (rw [hq3] at hQ; exact hQ h3' ⟨hE3, w, ((hT.f hf1).f hf2).f hf3⟩ (((hf1.tr hf2).tr hf3).h)))
        · exact absurd c15 (by omega)
  · intro f1 p1 hq1 h1 hE1 hf1
    refine az_if_eqN (tgt := 27) dX5_readHead_6 (fun c6 => ?_) (fun c6 => ?_)
    · refine az_iconst (v := nI 0) dX5_readHead_27 ?_
      exact az_iret dX5_readHead_28 (by first | (rw [rd_head, hq1] at hQ; exact hQ h1 ⟨hE1, w, hT.f hf1⟩ hf1.h) | (rw [hq2] at hQ; exact hQ h2' ⟨hE2, w, (hT.f hf1).f hf2⟩ ((hf1.tr hf2).h)) | (rw [hq3] at hQ; exact hQ h3' ⟨hE3, w, ((hT.f hf1).f hf2).f hf3⟩ (((hf1.tr hf2).tr hf3).h)))
    · exact absurd c6 (by omega)
