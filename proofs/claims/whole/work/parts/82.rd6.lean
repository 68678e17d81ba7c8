/-! Reader: laws read -/
def rd_CM (m : az_Me) (P : rd_P) (D tx n : Nat) (b : Nat → Nat) (dp : Nat) : Prop := ∀ {d q e : Nat} {c : List Nat} {hp : az_Hp} {Q : Option Value → az_Hp → Prop}, D ≤ d → rd_St hp q tx n b e c → rd_Q (P e c) e c.length hp q tx n b Q → az_M m d 0 0 [.ref q, .int (nI dp)] hp Q
/-- behind a token that was taken -/
def rd_CC (m : az_Me) (P : rd_P) (D tx n : Nat) (b : Nat → Nat) (dp : Nat) : Prop := ∀ {d q e : Nat} {c : List Nat} {hp : az_Hp} {Q : Option Value → az_Hp → Prop}, D ≤ d → 1 ≤ e → rd_St hp q tx n b e c → rd_Q (P e c) (e - 1) c.length hp q tx n b Q → az_M m d 0 0 [.ref q, .int (nI dp)] hp Q
set_option maxHeartbeats 8000000 in
set_option maxRecDepth 100000 in
theorem s_readChoice {D tx n dp : Nat} {b : Nat → Nat} {L : rd_P × rd_P × rd_P} (h8 : 8 ≤ D) (hG : rd_GL n L) (hT : rd_CM mX5_readTruth L.2.2 D tx n b dp) (hM : rd_CM mX5_readSum L.1 D tx n b dp) : rd_CC mX5_readChoice (rd_ch b n L) (D + 1) tx n b dp := by
  intro d q e0 c0 hp Q hd he1x hS0 hQ
  obtain ⟨va0, hW0, hce0, hv0⟩ := id hS0
  obtain ⟨hX0, he0, hc0, cf0, ol0, g0, -⟩ := id hW0
  rw [rd_ch] at hQ
  refine az_M.of rfl (Nat.le_of_ble_eq_true rfl) ?_
  show az_W _ _ _ _ 0 [(0, .ref q), (1, .int (nI dp))] [] _ _
  refine az_aload_n dX5_readChoice_0 ?_
  refine az_iload_n dX5_readChoice_1 ?_
  refine az_cV0 (st := []) dX5_readChoice_2 ml_X5_122 g0 (hT (d := d - 1) (by omega) hS0 (rd_Q.i ?_ ?_))
  · intro e1 c1 hq1 h1 hS1 hf1
    obtain ⟨va1, hW1, hce1, hv1⟩ := id hS1
    obtain ⟨hX1, he1, hc1, cf1, ol1, g1, -⟩ := id hW1
    rw [hq1, rd_b_l] at hQ
    have hg1 := hG.2.2 _ _ _ _ he0 hq1
    refine az_if_eqN (tgt := 55) dX5_readChoice_5 (fun c5 => ?_) (fun c5 => ?_)
    · exact absurd c5 (by omega)
    · refine az_aload_n dX5_readChoice_8 ?_
      refine az_ldcS (k := 12) dX5_readChoice_9 rfl rfl rfl ?_
      refine az_cV0 (st := []) dX5_readChoice_11 ml_X5_59 g1 (s_takeWord (d := d - 1) (k9 := 12) (r := ("LetterNights$Reader", 190, "then")) (by omega) rfl hW1 (rd_Q.i ?_ ?_))
      · intro e2 c2 hq2 h2 hS2 hf2
        obtain ⟨va2, hW2, hce2, hv2⟩ := id hS2
        obtain ⟨hX2, he2, hc2, cf2, ol2, g2, -⟩ := id hW2
        rw [hq2, rd_b_l] at hQ
        have hg2 := rd_H_tw b n "then" _ _ _ _ he1 hq2
        refine az_if_eqN (tgt := 55) dX5_readChoice_14 (fun c14 => ?_) (fun c14 => ?_)
        · exact absurd c14 (by omega)
        · refine az_aload_n dX5_readChoice_17 ?_
          refine az_iload_n dX5_readChoice_18 ?_
          refine az_cV0 (st := []) dX5_readChoice_19 ml_X5_104 g2 (hM (d := d - 1) (by omega) hS2 (rd_Q.i ?_ ?_))
          · intro e3 c3 hq3 h3 hS3 hf3
            obtain ⟨va3, hW3, hce3, hv3⟩ := id hS3
            obtain ⟨hX3, he3, hc3, cf3, ol3, g3, -⟩ := id hW3
            rw [hq3, rd_b_l] at hQ
            have hg3 := hG.1 _ _ _ _ he2 hq3
            refine az_if_eqN (tgt := 55) dX5_readChoice_22 (fun c22 => ?_) (fun c22 => ?_)
            · exact absurd c22 (by omega)
            · refine az_aload_n dX5_readChoice_25 ?_
              refine az_ldcS (k := 13) dX5_readChoice_26 rfl rfl rfl ?_
              refine az_cV0 (st := []) dX5_readChoice_28 ml_X5_59 g3 (s_takeWord (d := d - 1) (k9 := 13) (r := ("LetterNights$Reader", 192, "else")) (by omega) rfl hW3 (rd_Q.i ?_ ?_))
              · intro e4 c4 hq4 h4 hS4 hf4
                obtain ⟨va4, hW4, hce4, hv4⟩ := id hS4
                obtain ⟨hX4, he4, hc4, cf4, ol4, g4, -⟩ := id hW4
                rw [hq4, rd_b_l] at hQ
                have hg4 := rd_H_tw b n "else" _ _ _ _ he3 hq4
                refine az_if_eqN (tgt := 55) dX5_readChoice_31 (fun c31 => ?_) (fun c31 => ?_)
                · exact absurd c31 (by omega)
                · refine az_aload_n dX5_readChoice_34 ?_
                  refine az_iload_n dX5_readChoice_35 ?_
                  refine az_cV0 (st := []) dX5_readChoice_36 ml_X5_104 g4 (hM (d := d - 1) (by omega) hS4 (rd_Q.i ?_ ?_))
                  · intro e5 c5 hq5 h5 hS5 hf5
                    obtain ⟨va5, hW5, hce5, hv5⟩ := id hS5
                    obtain ⟨hX5, he5, hc5, cf5, ol5, g5, -⟩ := id hW5
                    rw [hq5, rd_b_l] at hQ
                    have hg5 := hG.1 _ _ _ _ he4 hq5
                    refine az_if_eqN (tgt := 55) dX5_readChoice_39 (fun c39 => ?_) (fun c39 => ?_)
                    · exact absurd c39 (by omega)
                    · refine az_aload_n dX5_readChoice_42 ?_
                      refine az_ldcS (k := 14) dX5_readChoice_43 rfl rfl rfl ?_
                      refine az_cV0 (st := []) dX5_readChoice_45 ml_X5_59 g5 (s_takeWord (d := d - 1) (k9 := 14) (r := ("LetterNights$Reader", 194, "end")) (by omega) rfl hW5 (rd_Q.i ?_ ?_))
                      · intro e6 c6 hq6 h6 hS6 hf6
                        obtain ⟨va6, hW6, hce6, hv6⟩ := id hS6
                        obtain ⟨hX6, he6, hc6, cf6, ol6, g6, -⟩ := id hW6
                        rw [hq6, rd_b_l] at hQ
                        have hg6 := rd_H_tw b n "end" _ _ _ _ he5 hq6
                        refine az_if_eqN (tgt := 55) dX5_readChoice_48 (fun c48 => ?_) (fun c48 => ?_)
                        · exact absurd c48 (by omega)
                        · refine az_iconst (v := nI 1) dX5_readChoice_51 ?_
                          refine az_goto (tgt := 56) dX5_readChoice_52 ?_
                          refine az_istore_n (ls' := [(0, .ref q), (1, .int (nI dp)), (2, .int (nI 1))]) dX5_readChoice_56 ?_
                          refine az_aload_n dX5_readChoice_57 ?_
                          refine az_bipush (v := (-11)) dX5_readChoice_58 ?_
                          first | exact az_cV0 (st := []) (av := [.int (-11)]) dX5_readChoice_60 ml_X5_155 g6 (s_encodeE (d := d - 1) (k1 := e0 - 1) (k2 := c0.length) (hE1.mono (by omega)) (fun h9 hE9 hf9 => az_iload_n dX5_readChoice_63 (az_iret dX5_readChoice_64 (hQ h9 hE9 ((hf1).tr hf9))))) | exact az_cV0 (st := []) (av := [.int (-11)]) dX5_readChoice_60 ml_X5_155 g6 (s_encodeE (d := d - 1) (k1 := e0 - 1) (k2 := c0.length) (hE2.mono (by omega)) (fun h9 hE9 hf9 => az_iload_n dX5_readChoice_63 (az_iret dX5_readChoice_64 (hQ h9 hE9 ((hf1.tr hf2).tr hf9))))) | exact az_cV0 (st := []) (av := [.int (-11)]) dX5_readChoice_60 ml_X5_155 g6 (s_encodeE (d := d - 1) (k1 := e0 - 1) (k2 := c0.length) (hE3.mono (by omega)) (fun h9 hE9 hf9 => az_iload_n dX5_readChoice_63 (az_iret dX5_readChoice_64 (hQ h9 hE9 (((hf1.tr hf2).tr hf3).tr hf9))))) | exact az_cV0 (st := []) (av := [.int (-11)]) dX5_readChoice_60 ml_X5_155 g6 (s_encodeE (d := d - 1) (k1 := e0 - 1) (k2 := c0.length) (hE4.mono (by omega)) (fun h9 hE9 hf9 => az_iload_n dX5_readChoice_63 (az_iret dX5_readChoice_64 (hQ h9 hE9 ((((hf1.tr hf2).tr hf3).tr hf4).tr hf9))))) | exact az_cV0 (st := []) (av := [.int (-11)]) dX5_readChoice_60 ml_X5_155 g6 (s_encodeE (d := d - 1) (k1 := e0 - 1) (k2 := c0.length) (hE5.mono (by omega)) (fun h9 hE9 hf9 => az_iload_n dX5_readChoice_63 (az_iret dX5_readChoice_64 (hQ h9 hE9 (((((hf1.tr hf2).tr hf3).tr hf4).tr hf5).tr hf9))))) | exact az_cV0 (st := []) (av := [.int (-11)]) dX5_readChoice_60 ml_X5_155 g6 (s_encodeE (d := d - 1) (k1 := e0 - 1) (k2 := c0.length) (hE6.mono (by omega)) (fun h9 hE9 hf9 => az_iload_n dX5_readChoice_63 (az_iret dX5_readChoice_64 (hQ h9 hE9 ((((((hf1.tr hf2).tr hf3).tr hf4).tr hf5).tr hf6).tr hf9))))) | exact az_cV0 (st := []) (av := [.int (-11)]) dX5_readChoice_60 ml_X5_155 g6 (s_encodeS (d := d - 1) (x := 3009) hS6 (by omega) (fun h9 hS9 hf9 => az_iload_n dX5_readChoice_63 (az_iret dX5_readChoice_64 (hQ h9 hS9 ((((((hf1.tr hf2).tr hf3).tr hf4).tr hf5).tr hf6).tr hf9)))))
                      · intro f6 p6 hq6 h6 hE6 hf6
                        obtain ⟨hX6, ki6, aa6, zz6, va6, m6, cf6, ol6, g6, -⟩ := id hE6
                        rw [hq6] at hQ
                        refine az_if_eqN (tgt := 55) dX5_readChoice_48 (fun c48 => ?_) (fun c48 => ?_)
                        · refine az_iconst (v := nI 0) dX5_readChoice_55 ?_
                          refine az_istore_n (ls' := [(0, .ref q), (1, .int (nI dp)), (2, .int (nI 0))]) dX5_readChoice_56 ?_
                          refine az_aload_n dX5_readChoice_57 ?_
                          refine az_bipush (v := (-11)) dX5_readChoice_58 ?_
                          first | exact az_cV0 (st := []) (av := [.int (-11)]) dX5_readChoice_60 ml_X5_155 g6 (s_encodeE (d := d - 1) (k1 := e0 - 1) (k2 := c0.length) (hE1.mono (by omega)) (fun h9 hE9 hf9 => az_iload_n dX5_readChoice_63 (az_iret dX5_readChoice_64 (hQ h9 hE9 ((hf1).tr hf9))))) | exact az_cV0 (st := []) (av := [.int (-11)]) dX5_readChoice_60 ml_X5_155 g6 (s_encodeE (d := d - 1) (k1 := e0 - 1) (k2 := c0.length) (hE2.mono (by omega)) (fun h9 hE9 hf9 => az_iload_n dX5_readChoice_63 (az_iret dX5_readChoice_64 (hQ h9 hE9 ((hf1.tr hf2).tr hf9))))) | exact az_cV0 (st := []) (av := [.int (-11)]) dX5_readChoice_60 ml_X5_155 g6 (s_encodeE (d := d - 1) (k1 := e0 - 1) (k2 := c0.length) (hE3.mono (by omega)) (fun h9 hE9 hf9 => az_iload_n dX5_readChoice_63 (az_iret dX5_readChoice_64 (hQ h9 hE9 (((hf1.tr hf2).tr hf3).tr hf9))))) | exact az_cV0 (st := []) (av := [.int (-11)]) dX5_readChoice_60 ml_X5_155 g6 (s_encodeE (d := d - 1) (k1 := e0 - 1) (k2 := c0.length) (hE4.mono (by omega)) (fun h9 hE9 hf9 => az_iload_n dX5_readChoice_63 (az_iret dX5_readChoice_64 (hQ h9 hE9 ((((hf1.tr hf2).tr hf3).tr hf4).tr hf9))))) | exact az_cV0 (st := []) (av := [.int (-11)]) dX5_readChoice_60 ml_X5_155 g6 (s_encodeE (d := d - 1) (k1 := e0 - 1) (k2 := c0.length) (hE5.mono (by omega)) (fun h9 hE9 hf9 => az_iload_n dX5_readChoice_63 (az_iret dX5_readChoice_64 (hQ h9 hE9 (((((hf1.tr hf2).tr hf3).tr hf4).tr hf5).tr hf9))))) | exact az_cV0 (st := []) (av := [.int (-11)]) dX5_readChoice_60 ml_X5_155 g6 (s_encodeE (d := d - 1) (k1 := e0 - 1) (k2 := c0.length) (hE6.mono (by omega)) (fun h9 hE9 hf9 => az_iload_n dX5_readChoice_63 (az_iret dX5_readChoice_64 (hQ h9 hE9 ((((((hf1.tr hf2).tr hf3).tr hf4).tr hf5).tr hf6).tr hf9))))) | exact az_cV0 (st := []) (av := [.int (-11)]) dX5_readChoice_60 ml_X5_155 g6 (s_encodeS (d := d - 1) (x := 3009) hS6 (by omega) (fun h9 hS9 hf9 => az_iload_n dX5_readChoice_63 (az_iret dX5_readChoice_64 (hQ h9 hS9 ((((((hf1.tr hf2).tr hf3).tr hf4).tr hf5).tr hf6).tr hf9)))))
                        · exact absurd c48 (by omega)
                  · intro f5 p5 hq5 h5 hE5 hf5
                    obtain ⟨hX5, ki5, aa5, zz5, va5, m5, cf5, ol5, g5, -⟩ := id hE5
                    rw [hq5] at hQ
                    refine az_if_eqN (tgt := 55) dX5_readChoice_39 (fun c39 => ?_) (fun c39 => ?_)
                    · refine az_iconst (v := nI 0) dX5_readChoice_55 ?_
                      refine az_istore_n (ls' := [(0, .ref q), (1, .int (nI dp)), (2, .int (nI 0))]) dX5_readChoice_56 ?_
                      refine az_aload_n dX5_readChoice_57 ?_
                      refine az_bipush (v := (-11)) dX5_readChoice_58 ?_
                      first | exact az_cV0 (st := []) (av := [.int (-11)]) dX5_readChoice_60 ml_X5_155 g5 (s_encodeE (d := d - 1) (k1 := e0 - 1) (k2 := c0.length) (hE1.mono (by omega)) (fun h9 hE9 hf9 => az_iload_n dX5_readChoice_63 (az_iret dX5_readChoice_64 (hQ h9 hE9 ((hf1).tr hf9))))) | exact az_cV0 (st := []) (av := [.int (-11)]) dX5_readChoice_60 ml_X5_155 g5 (s_encodeE (d := d - 1) (k1 := e0 - 1) (k2 := c0.length) (hE2.mono (by omega)) (fun h9 hE9 hf9 => az_iload_n dX5_readChoice_63 (az_iret dX5_readChoice_64 (hQ h9 hE9 ((hf1.tr hf2).tr hf9))))) | exact az_cV0 (st := []) (av := [.int (-11)]) dX5_readChoice_60 ml_X5_155 g5 (s_encodeE (d := d - 1) (k1 := e0 - 1) (k2 := c0.length) (hE3.mono (by omega)) (fun h9 hE9 hf9 => az_iload_n dX5_readChoice_63 (az_iret dX5_readChoice_64 (hQ h9 hE9 (((hf1.tr hf2).tr hf3).tr hf9))))) | exact az_cV0 (st := []) (av := [.int (-11)]) dX5_readChoice_60 ml_X5_155 g5 (s_encodeE (d := d - 1) (k1 := e0 - 1) (k2 := c0.length) (hE4.mono (by omega)) (fun h9 hE9 hf9 => az_iload_n dX5_readChoice_63 (az_iret dX5_readChoice_64 (hQ h9 hE9 ((((hf1.tr hf2).tr hf3).tr hf4).tr hf9))))) | exact az_cV0 (st := []) (av := [.int (-11)]) dX5_readChoice_60 ml_X5_155 g5 (s_encodeE (d := d - 1) (k1 := e0 - 1) (k2 := c0.length) (hE5.mono (by omega)) (fun h9 hE9 hf9 => az_iload_n dX5_readChoice_63 (az_iret dX5_readChoice_64 (hQ h9 hE9 (((((hf1.tr hf2).tr hf3).tr hf4).tr hf5).tr hf9))))) | exact az_cV0 (st := []) (av := [.int (-11)]) dX5_readChoice_60 ml_X5_155 g5 (s_encodeE (d := d - 1) (k1 := e0 - 1) (k2 := c0.length) (hE6.mono (by omega)) (fun h9 hE9 hf9 => az_iload_n dX5_readChoice_63 (az_iret dX5_readChoice_64 (hQ h9 hE9 ((((((hf1.tr hf2).tr hf3).tr hf4).tr hf5).tr hf6).tr hf9))))) | exact az_cV0 (st := []) (av := [.int (-11)]) dX5_readChoice_60 ml_X5_155 g5 (s_encodeS (d := d - 1) (x := 3009) hS6 (by omega) (fun h9 hS9 hf9 => az_iload_n dX5_readChoice_63 (az_iret dX5_readChoice_64 (hQ h9 hS9 ((((((hf1.tr hf2).tr hf3).tr hf4).tr hf5).tr hf6).tr hf9)))))
                    · exact absurd c39 (by omega)
              · intro f4 p4 hq4 h4 hE4 hf4
                obtain ⟨hX4, ki4, aa4, zz4, va4, m4, cf4, ol4, g4, -⟩ := id hE4
                rw [hq4] at hQ
                refine az_if_eqN (tgt := 55) dX5_readChoice_31 (fun c31 => ?_) (fun c31 => ?_)
                · refine az_iconst (v := nI 0) dX5_readChoice_55 ?_
                  refine az_istore_n (ls' := [(0, .ref q), (1, .int (nI dp)), (2, .int (nI 0))]) dX5_readChoice_56 ?_
                  refine az_aload_n dX5_readChoice_57 ?_
                  refine az_bipush (v := (-11)) dX5_readChoice_58 ?_
                  first | exact az_cV0 (st := []) (av := [.int (-11)]) dX5_readChoice_60 ml_X5_155 g4 (s_encodeE (d := d - 1) (k1 := e0 - 1) (k2 := c0.length) (hE1.mono (by omega)) (fun h9 hE9 hf9 => az_iload_n dX5_readChoice_63 (az_iret dX5_readChoice_64 (hQ h9 hE9 ((hf1).tr hf9))))) | exact az_cV0 (st := []) (av := [.int (-11)]) dX5_readChoice_60 ml_X5_155 g4 (s_encodeE (d := d - 1) (k1 := e0 - 1) (k2 := c0.length) (hE2.mono (by omega)) (fun h9 hE9 hf9 => az_iload_n dX5_readChoice_63 (az_iret dX5_readChoice_64 (hQ h9 hE9 ((hf1.tr hf2).tr hf9))))) | exact az_cV0 (st := []) (av := [.int (-11)]) dX5_readChoice_60 ml_X5_155 g4 (s_encodeE (d := d - 1) (k1 := e0 - 1) (k2 := c0.length) (hE3.mono (by omega)) (fun h9 hE9 hf9 => az_iload_n dX5_readChoice_63 (az_iret dX5_readChoice_64 (hQ h9 hE9 (((hf1.tr hf2).tr hf3).tr hf9))))) | exact az_cV0 (st := []) (av := [.int (-11)]) dX5_readChoice_60 ml_X5_155 g4 (s_encodeE (d := d - 1) (k1 := e0 - 1) (k2 := c0.length) (hE4.mono (by omega)) (fun h9 hE9 hf9 => az_iload_n dX5_readChoice_63 (az_iret dX5_readChoice_64 (hQ h9 hE9 ((((hf1.tr hf2).tr hf3).tr hf4).tr hf9))))) | exact az_cV0 (st := []) (av := [.int (-11)]) dX5_readChoice_60 ml_X5_155 g4 (s_encodeE (d := d - 1) (k1 := e0 - 1) (k2 := c0.length) (hE5.mono (by omega)) (fun h9 hE9 hf9 => az_iload_n dX5_readChoice_63 (az_iret dX5_readChoice_64 (hQ h9 hE9 (((((hf1.tr hf2).tr hf3).tr hf4).tr hf5).tr hf9))))) | exact az_cV0 (st := []) (av := [.int (-11)]) dX5_readChoice_60 ml_X5_155 g4 (s_encodeE (d := d - 1) (k1 := e0 - 1) (k2 := c0.length) (hE6.mono (by omega)) (fun h9 hE9 hf9 => az_iload_n dX5_readChoice_63 (az_iret dX5_readChoice_64 (hQ h9 hE9 ((((((hf1.tr hf2).tr hf3).tr hf4).tr hf5).tr hf6).tr hf9))))) | exact az_cV0 (st := []) (av := [.int (-11)]) dX5_readChoice_60 ml_X5_155 g4 (s_encodeS (d := d - 1) (x := 3009) hS6 (by omega) (fun h9 hS9 hf9 => az_iload_n dX5_readChoice_63 (az_iret dX5_readChoice_64 (hQ h9 hS9 ((((((hf1.tr hf2).tr hf3).tr hf4).tr hf5).tr hf6).tr hf9)))))
                · exact absurd c31 (by omega)
          · intro f3 p3 hq3 h3 hE3 hf3
            obtain ⟨hX3, ki3, aa3, zz3, va3, m3, cf3, ol3, g3, -⟩ := id hE3
            rw [hq3] at hQ
            refine az_if_eqN (tgt := 55) dX5_readChoice_22 (fun c22 => ?_) (fun c22 => ?_)
            · refine az_iconst (v := nI 0) dX5_readChoice_55 ?_
              refine az_istore_n (ls' := [(0, .ref q), (1, .int (nI dp)), (2, .int (nI 0))]) dX5_readChoice_56 ?_
              refine az_aload_n dX5_readChoice_57 ?_
              refine az_bipush (v := (-11)) dX5_readChoice_58 ?_
              first | exact az_cV0 (st := []) (av := [.int (-11)]) dX5_readChoice_60 ml_X5_155 g3 (s_encodeE (d := d - 1) (k1 := e0 - 1) (k2 := c0.length) (hE1.mono (by omega)) (fun h9 hE9 hf9 => az_iload_n dX5_readChoice_63 (az_iret dX5_readChoice_64 (hQ h9 hE9 ((hf1).tr hf9))))) | exact az_cV0 (st := []) (av := [.int (-11)]) dX5_readChoice_60 ml_X5_155 g3 (s_encodeE (d := d - 1) (k1 := e0 - 1) (k2 := c0.length) (hE2.mono (by omega)) (fun h9 hE9 hf9 => az_iload_n dX5_readChoice_63 (az_iret dX5_readChoice_64 (hQ h9 hE9 ((hf1.tr hf2).tr hf9))))) | exact az_cV0 (st := []) (av := [.int (-11)]) dX5_readChoice_60 ml_X5_155 g3 (s_encodeE (d := d - 1) (k1 := e0 - 1) (k2 := c0.length) (hE3.mono (by omega)) (fun h9 hE9 hf9 => az_iload_n dX5_readChoice_63 (az_iret dX5_readChoice_64 (hQ h9 hE9 (((hf1.tr hf2).tr hf3).tr hf9))))) | exact az_cV0 (st := []) (av := [.int (-11)]) dX5_readChoice_60 ml_X5_155 g3 (s_encodeE (d := d - 1) (k1 := e0 - 1) (k2 := c0.length) (hE4.mono (by omega)) (fun h9 hE9 hf9 => az_iload_n dX5_readChoice_63 (az_iret dX5_readChoice_64 (hQ h9 hE9 ((((hf1.tr hf2).tr hf3).tr hf4).tr hf9))))) | exact az_cV0 (st := []) (av := [.int (-11)]) dX5_readChoice_60 ml_X5_155 g3 (s_encodeE (d := d - 1) (k1 := e0 - 1) (k2 := c0.length) (hE5.mono (by omega)) (fun h9 hE9 hf9 => az_iload_n dX5_readChoice_63 (az_iret dX5_readChoice_64 (hQ h9 hE9 (((((hf1.tr hf2).tr hf3).tr hf4).tr hf5).tr hf9))))) | exact az_cV0 (st := []) (av := [.int (-11)]) dX5_readChoice_60 ml_X5_155 g3 (s_encodeE (d := d - 1) (k1 := e0 - 1) (k2 := c0.length) (hE6.mono (by omega)) (fun h9 hE9 hf9 => az_iload_n dX5_readChoice_63 (az_iret dX5_readChoice_64 (hQ h9 hE9 ((((((hf1.tr hf2).tr hf3).tr hf4).tr hf5).tr hf6).tr hf9))))) | exact az_cV0 (st := []) (av := [.int (-11)]) dX5_readChoice_60 ml_X5_155 g3 (s_encodeS (d := d - 1) (x := 3009) hS6 (by omega) (fun h9 hS9 hf9 => az_iload_n dX5_readChoice_63 (az_iret dX5_readChoice_64 (hQ h9 hS9 ((((((hf1.tr hf2).tr hf3).tr hf4).tr hf5).tr hf6).tr hf9)))))
            · exact absurd c22 (by omega)
      · intro f2 p2 hq2 h2 hE2 hf2
        obtain ⟨hX2, ki2, aa2, zz2, va2, m2, cf2, ol2, g2, -⟩ := id hE2
        rw [hq2] at hQ
        refine az_if_eqN (tgt := 55) dX5_readChoice_14 (fun c14 => ?_) (fun c14 => ?_)
        · refine az_iconst (v := nI 0) dX5_readChoice_55 ?_
          refine az_istore_n (ls' := [(0, .ref q), (1, .int (nI dp)), (2, .int (nI 0))]) dX5_readChoice_56 ?_
          refine az_aload_n dX5_readChoice_57 ?_
          refine az_bipush (v := (-11)) dX5_readChoice_58 ?_
          first | exact az_cV0 (st := []) (av := [.int (-11)]) dX5_readChoice_60 ml_X5_155 g2 (s_encodeE (d := d - 1) (k1 := e0 - 1) (k2 := c0.length) (hE1.mono (by omega)) (fun h9 hE9 hf9 => az_iload_n dX5_readChoice_63 (az_iret dX5_readChoice_64 (hQ h9 hE9 ((hf1).tr hf9))))) | exact az_cV0 (st := []) (av := [.int (-11)]) dX5_readChoice_60 ml_X5_155 g2 (s_encodeE (d := d - 1) (k1 := e0 - 1) (k2 := c0.length) (hE2.mono (by omega)) (fun h9 hE9 hf9 => az_iload_n dX5_readChoice_63 (az_iret dX5_readChoice_64 (hQ h9 hE9 ((hf1.tr hf2).tr hf9))))) | exact az_cV0 (st := []) (av := [.int (-11)]) dX5_readChoice_60 ml_X5_155 g2 (s_encodeE (d := d - 1) (k1 := e0 - 1) (k2 := c0.length) (hE3.mono (by omega)) (fun h9 hE9 hf9 => az_iload_n dX5_readChoice_63 (az_iret dX5_readChoice_64 (hQ h9 hE9 (((hf1.tr hf2).tr hf3).tr hf9))))) | exact az_cV0 (st := []) (av := [.int (-11)]) dX5_readChoice_60 ml_X5_155 g2 (s_encodeE (d := d - 1) (k1 := e0 - 1) (k2 := c0.length) (hE4.mono (by omega)) (fun h9 hE9 hf9 => az_iload_n dX5_readChoice_63 (az_iret dX5_readChoice_64 (hQ h9 hE9 ((((hf1.tr hf2).tr hf3).tr hf4).tr hf9))))) | exact az_cV0 (st := []) (av := [.int (-11)]) dX5_readChoice_60 ml_X5_155 g2 (s_encodeE (d := d - 1) (k1 := e0 - 1) (k2 := c0.length) (hE5.mono (by omega)) (fun h9 hE9 hf9 => az_iload_n dX5_readChoice_63 (az_iret dX5_readChoice_64 (hQ h9 hE9 (((((hf1.tr hf2).tr hf3).tr hf4).tr hf5).tr hf9))))) | exact az_cV0 (st := []) (av := [.int (-11)]) dX5_readChoice_60 ml_X5_155 g2 (s_encodeE (d := d - 1) (k1 := e0 - 1) (k2 := c0.length) (hE6.mono (by omega)) (fun h9 hE9 hf9 => az_iload_n dX5_readChoice_63 (az_iret dX5_readChoice_64 (hQ h9 hE9 ((((((hf1.tr hf2).tr hf3).tr hf4).tr hf5).tr hf6).tr hf9))))) | exact az_cV0 (st := []) (av := [.int (-11)]) dX5_readChoice_60 ml_X5_155 g2 (s_encodeS (d := d - 1) (x := 3009) hS6 (by omega) (fun h9 hS9 hf9 => az_iload_n dX5_readChoice_63 (az_iret dX5_readChoice_64 (hQ h9 hS9 ((((((hf1.tr hf2).tr hf3).tr hf4).tr hf5).tr hf6).tr hf9)))))
        · exact absurd c14 (by omega)
  · intro f1 p1 hq1 h1 hE1 hf1
    obtain ⟨hX1, ki1, aa1, zz1, va1, m1, cf1, ol1, g1, -⟩ := id hE1
    rw [hq1] at hQ
    refine az_if_eqN (tgt := 55) dX5_readChoice_5 (fun c5 => ?_) (fun c5 => ?_)
    · refine az_iconst (v := nI 0) dX5_readChoice_55 ?_
      refine az_istore_n (ls' := [(0, .ref q), (1, .int (nI dp)), (2, .int (nI 0))]) dX5_readChoice_56 ?_
      refine az_aload_n dX5_readChoice_57 ?_
      refine az_bipush (v := (-11)) dX5_readChoice_58 ?_
      first | exact az_cV0 (st := []) (av := [.int (-11)]) dX5_readChoice_60 ml_X5_155 g1 (s_encodeE (d := d - 1) (k1 := e0 - 1) (k2 := c0.length) (hE1.mono (by omega)) (fun h9 hE9 hf9 => az_iload_n dX5_readChoice_63 (az_iret dX5_readChoice_64 (hQ h9 hE9 ((hf1).tr hf9))))) | exact az_cV0 (st := []) (av := [.int (-11)]) dX5_readChoice_60 ml_X5_155 g1 (s_encodeE (d := d - 1) (k1 := e0 - 1) (k2 := c0.length) (hE2.mono (by omega)) (fun h9 hE9 hf9 => az_iload_n dX5_readChoice_63 (az_iret dX5_readChoice_64 (hQ h9 hE9 ((hf1.tr hf2).tr hf9))))) | exact az_cV0 (st := []) (av := [.int (-11)]) dX5_readChoice_60 ml_X5_155 g1 (s_encodeE (d := d - 1) (k1 := e0 - 1) (k2 := c0.length) (hE3.mono (by omega)) (fun h9 hE9 hf9 => az_iload_n dX5_readChoice_63 (az_iret dX5_readChoice_64 (hQ h9 hE9 (((hf1.tr hf2).tr hf3).tr hf9))))) | exact az_cV0 (st := []) (av := [.int (-11)]) dX5_readChoice_60 ml_X5_155 g1 (s_encodeE (d := d - 1) (k1 := e0 - 1) (k2 := c0.length) (hE4.mono (by omega)) (fun h9 hE9 hf9 => az_iload_n dX5_readChoice_63 (az_iret dX5_readChoice_64 (hQ h9 hE9 ((((hf1.tr hf2).tr hf3).tr hf4).tr hf9))))) | exact az_cV0 (st := []) (av := [.int (-11)]) dX5_readChoice_60 ml_X5_155 g1 (s_encodeE (d := d - 1) (k1 := e0 - 1) (k2 := c0.length) (hE5.mono (by omega)) (fun h9 hE9 hf9 => az_iload_n dX5_readChoice_63 (az_iret dX5_readChoice_64 (hQ h9 hE9 (((((hf1.tr hf2).tr hf3).tr hf4).tr hf5).tr hf9))))) | exact az_cV0 (st := []) (av := [.int (-11)]) dX5_readChoice_60 ml_X5_155 g1 (s_encodeE (d := d - 1) (k1 := e0 - 1) (k2 := c0.length) (hE6.mono (by omega)) (fun h9 hE9 hf9 => az_iload_n dX5_readChoice_63 (az_iret dX5_readChoice_64 (hQ h9 hE9 ((((((hf1.tr hf2).tr hf3).tr hf4).tr hf5).tr hf6).tr hf9))))) | exact az_cV0 (st := []) (av := [.int (-11)]) dX5_readChoice_60 ml_X5_155 g1 (s_encodeS (d := d - 1) (x := 3009) hS6 (by omega) (fun h9 hS9 hf9 => az_iload_n dX5_readChoice_63 (az_iret dX5_readChoice_64 (hQ h9 hS9 ((((((hf1.tr hf2).tr hf3).tr hf4).tr hf5).tr hf6).tr hf9)))))
    · exact absurd c5 (by omega)
