/-! The model's reader: a law's text, its parts -/
theorem cp_H {b : Nat → Nat} {n k0 e : Nat} {c : List Nat} {F : rd_P} (hF : rd_H n F) (he : e ≤ n) (hc : k0 + c.length ≤ e) : mr_cp k0 (F e c) := by
  intro e2 c2 q
  have := hF e c e2 c2 he q
  omega
theorem cp_G {n k0 e : Nat} {c : List Nat} {F : rd_P} (hF : rd_G n F) (he : e ≤ n) (hc : k0 + c.length + 1 ≤ e) : mr_cp k0 (F e c) := by
  intro e2 c2 q
  have := hF e c e2 c2 he q
  omega
theorem cp_en {b : Nat → Nat} {n k0 e : Nat} {c : List Nat} {F : rd_P} (hF : rd_G n F) (he : e ≤ n) (hk : rd_kd b n e ≠ 0) (hc : k0 + c.length ≤ e) : mr_cp k0 (F (rd_en b n e) c) := by
  have h := rd_en_lt he hk
  exact cp_G hF h.2.2 (by omega)
set_option maxHeartbeats 4000000 in
set_option maxRecDepth 100000 in
theorem m_readIf {d D dp lvl e : Nat} {c : List Nat} {L : rd_P × rd_P × rd_P} {sc : Nat → Value} {b : Nat → Nat} {n : Nat} {fr : Nat → Nat} {k0 : Nat} {hp : az_Hp} {Q : Option Value → az_Hp → Prop} (hD : 9 ≤ D) (hd : D + 1 ≤ d) (hdp : dp + lvl = 6) (hL : rd_GL n L) (cS : lvl ≠ 0 → mr_CM mX12_readSum L.1 D (dp + 1) sc b n) (cT : lvl ≠ 0 → mr_CM mX12_readTruth L.2.2 D (dp + 1) sc b n) (H : mr_R hp sc b n fr k0 (.inl (e, c))) (hQ : ∀ h', mr_R h' sc b n fr k0 (rd_b (rd_gd b n lvl e c) (rd_ch b n L)) → mf hp h' [64, 68] → Q none h') : az_M mX12_readIf d 0 0 [.ref 64, .int (nI dp)] hp Q := by
  obtain ⟨a0, z0, ki0, nu0, wa0, e0, w0, hki0, hnu0⟩ := H.o
  have hcap : lvl ≠ 0 → mr_cp k0 (rd_b (rd_b (rd_b (rd_b (rd_b (L.2.2 (rd_en b n e) c) (rd_tw b n "then")) L.1) (rd_tw b n "else")) L.1) (rd_tw b n "end")) := fun _ => cp_H (b := b) (F := fun e c => rd_b (rd_b (rd_b (rd_b (rd_b (L.2.2 e c) (rd_tw b n "then")) L.1) (rd_tw b n "else")) L.1) (rd_tw b n "end")) (rd_H.b ((((hL.2.2.b (rd_G_tw b n "then")).b hL.1).b (rd_G_tw b n "else")).b hL.1) (rd_H_tw b n "end")) (rd_en_le (b := b) H.2.1).2 (Nat.le_trans H.2.2.1 (rd_en_le2 (b := b) H.2.1))
  refine az_M.of rfl (Nat.le_of_ble_eq_true rfl) ?_
  show az_W _ _ _ _ 0 [(0, .ref 64), (1, .int (nI dp))] [] _ _
  refine az_aload_n dX12_readIf_0 ?_
  refine az_iload_n dX12_readIf_1 ?_
  refine az_cV0 (st := []) dX12_readIf_2 ml_X12_179 e0 (m_goesIn (d := d - 1) (lvl := lvl) (by omega) hdp H ?_ ?_)
  · intro hl h1 H1 mf1
    obtain ⟨a1, z1, ki1, nu1, wa1, e1, w1, hki1, hnu1⟩ := H1.o
    refine az_if_neN (tgt := 9) dX12_readIf_5 (fun c5 => ?_) (fun c5 => ?_)
    · refine az_aload_n dX12_readIf_9 ?_
      refine az_iload_n dX12_readIf_10 ?_
      refine az_iconst (v := nI 1) dX12_readIf_11 ?_
      refine az_iaddN dX12_readIf_12 ?_
      refine az_cV0 (st := []) dX12_readIf_13 ml_X12_191 e1 (cT hl (d := d - 1) (by omega) H1 ?_)
      intro h2 H2 mf2
      obtain ⟨r2, q2⟩ : ∃ x : rd_R, x = rd_b (.inl (rd_en b n e, c)) L.2.2 := ⟨_, rfl⟩
      rw [← q2] at H2
      obtain ⟨a2, z2, ki2, nu2, wa2, e2, w2, hki2, hnu2⟩ := H2.o
      refine az_aload_n dX12_readIf_16 ?_
      refine az_bipush (v := nI 9) dX12_readIf_17 ?_
      refine az_cV0 (st := []) dX12_readIf_19 ml_X12_185 e2 (m_eats (d := d - 1) (k9 := 9) (by omega) (by decide) H2 ?_ ?_)
      · intro ee3 cc3 hr3 hm3 h3 H3 mf3
        rw [← tok_1 (tkW (fun e he => kw_then he)) (fun e c q => (H2.le e c q).1) hr3 hm3] at H3
        obtain ⟨r3, q3⟩ : ∃ x : rd_R, x = rd_b r2 (rd_tw b n "then") := ⟨_, rfl⟩
        rw [← q3] at H3
        obtain ⟨a3, z3, ki3, nu3, wa3, e3, w3, hki3, hnu3⟩ := H3.o
        refine az_if_neN (tgt := 30) dX12_readIf_22 (fun c22 => ?_) (fun c22 => ?_)
        · refine az_aload_n dX12_readIf_30 ?_
          refine az_iload_n dX12_readIf_31 ?_
          refine az_iconst (v := nI 1) dX12_readIf_32 ?_
          refine az_iaddN dX12_readIf_33 ?_
          refine az_cV0 (st := []) dX12_readIf_34 ml_X12_182 e3 (cS hl (d := d - 1) (by omega) H3 ?_)
          intro h4 H4 mf4
          obtain ⟨r4, q4⟩ : ∃ x : rd_R, x = rd_b r3 L.1 := ⟨_, rfl⟩
          rw [← q4] at H4
          obtain ⟨a4, z4, ki4, nu4, wa4, e4, w4, hki4, hnu4⟩ := H4.o
          refine az_aload_n dX12_readIf_37 ?_
          refine az_bipush (v := nI 10) dX12_readIf_38 ?_
          refine az_cV0 (st := []) dX12_readIf_40 ml_X12_185 e4 (m_eats (d := d - 1) (k9 := 10) (by omega) (by decide) H4 ?_ ?_)
          · intro ee5 cc5 hr5 hm5 h5 H5 mf5
            rw [← tok_1 (tkW (fun e he => kw_else he)) (fun e c q => (H4.le e c q).1) hr5 hm5] at H5
            obtain ⟨r5, q5⟩ : ∃ x : rd_R, x = rd_b r4 (rd_tw b n "else") := ⟨_, rfl⟩
            rw [← q5] at H5
            obtain ⟨a5, z5, ki5, nu5, wa5, e5, w5, hki5, hnu5⟩ := H5.o
            refine az_if_neN (tgt := 51) dX12_readIf_43 (fun c43 => ?_) (fun c43 => ?_)
            · refine az_aload_n dX12_readIf_51 ?_
              refine az_iload_n dX12_readIf_52 ?_
              refine az_iconst (v := nI 1) dX12_readIf_53 ?_
              refine az_iaddN dX12_readIf_54 ?_
              refine az_cV0 (st := []) dX12_readIf_55 ml_X12_182 e5 (cS hl (d := d - 1) (by omega) H5 ?_)
              intro h6 H6 mf6
              obtain ⟨r6, q6⟩ : ∃ x : rd_R, x = rd_b r5 L.1 := ⟨_, rfl⟩
              rw [← q6] at H6
              obtain ⟨a6, z6, ki6, nu6, wa6, e6, w6, hki6, hnu6⟩ := H6.o
              refine az_aload_n dX12_readIf_58 ?_
              refine az_bipush (v := nI 11) dX12_readIf_59 ?_
              refine az_cV0 (st := []) dX12_readIf_61 ml_X12_185 e6 (m_eats (d := d - 1) (k9 := 11) (by omega) (by decide) H6 ?_ ?_)
              · intro ee7 cc7 hr7 hm7 h7 H7 mf7
                rw [← tok_1 (tkW (fun e he => kw_end he)) (fun e c q => (H6.le e c q).1) hr7 hm7] at H7
                obtain ⟨r7, q7⟩ : ∃ x : rd_R, x = rd_b r6 (rd_tw b n "end") := ⟨_, rfl⟩
                rw [← q7] at H7
                obtain ⟨a7, z7, ki7, nu7, wa7, e7, w7, hki7, hnu7⟩ := H7.o
                refine az_if_neN (tgt := 72) dX12_readIf_64 (fun c64 => ?_) (fun c64 => ?_)
                · refine az_aload_n dX12_readIf_72 ?_
                  refine az_sipush (v := nI 3009) dX12_readIf_73 ?_
                  refine az_cV0 (st := []) dX12_readIf_76 ml_X12_173 e7 (m_codes (d := d - 1) (x := 3009) (by subst q7 q6 q5 q4 q3 q2; exact hcap hl) H7 ?_)
                  intro h8 H8 mf8
                  exact az_vret dX12_readIf_79 (hQ h8 (by rw [gd_1 hl]; subst q7 q6 q5 q4 q3 q2; exact H8) ((((((((mf1.wk (L' := [64, 68])).tr mf2 (by decide)).tr mf3 (by decide)).tr mf4 (by decide)).tr mf5 (by decide)).tr mf6 (by decide)).tr mf7 (by decide)).tr mf8 (by decide)))
                · exact absurd c64 (by omega)
              · intro hno7
                refine az_if_neN (tgt := 72) dX12_readIf_64 (fun c64 => ?_) (fun c64 => ?_)
                · exact absurd c64 (by omega)
                · refine az_aload_n dX12_readIf_67 ?_
                  refine az_iconst (v := nI 2) dX12_readIf_68 ?_
                  refine az_cV0 (st := []) dX12_readIf_69 ml_X12_165 e6 (m_fails (d := d - 1) (f9 := 2) (by decide) (by decide) H6 ?_)
                  intro h7 H7 mf7
                  rw [← tok_0 (tkW (fun e he => kw_end he)) (fun e c q => (H6.le e c q).1) hno7] at H7
                  obtain ⟨r7, q7⟩ : ∃ x : rd_R, x = rd_b r6 (rd_tw b n "end") := ⟨_, rfl⟩
                  rw [← q7] at H7
                  obtain ⟨a7, z7, ki7, nu7, wa7, e7, w7, hki7, hnu7⟩ := H7.o
                  refine az_aload_n dX12_readIf_72 ?_
                  refine az_sipush (v := nI 3009) dX12_readIf_73 ?_
                  refine az_cV0 (st := []) dX12_readIf_76 ml_X12_173 e7 (m_codes (d := d - 1) (x := 3009) (by subst q7 q6 q5 q4 q3 q2; exact hcap hl) H7 ?_)
                  intro h8 H8 mf8
                  exact az_vret dX12_readIf_79 (hQ h8 (by rw [gd_1 hl]; subst q7 q6 q5 q4 q3 q2; exact H8) ((((((((mf1.wk (L' := [64, 68])).tr mf2 (by decide)).tr mf3 (by decide)).tr mf4 (by decide)).tr mf5 (by decide)).tr mf6 (by decide)).tr mf7 (by decide)).tr mf8 (by decide)))
            · exact absurd c43 (by omega)
          · intro hno5
            refine az_if_neN (tgt := 51) dX12_readIf_43 (fun c43 => ?_) (fun c43 => ?_)
            · exact absurd c43 (by omega)
            · refine az_aload_n dX12_readIf_46 ?_
              refine az_iconst (v := nI 2) dX12_readIf_47 ?_
              refine az_cV0 (st := []) dX12_readIf_48 ml_X12_165 e4 (m_fails (d := d - 1) (f9 := 2) (by decide) (by decide) H4 ?_)
              intro h5 H5 mf5
              rw [← tok_0 (tkW (fun e he => kw_else he)) (fun e c q => (H4.le e c q).1) hno5] at H5
              obtain ⟨r5, q5⟩ : ∃ x : rd_R, x = rd_b r4 (rd_tw b n "else") := ⟨_, rfl⟩
              rw [← q5] at H5
              obtain ⟨a5, z5, ki5, nu5, wa5, e5, w5, hki5, hnu5⟩ := H5.o
              refine az_aload_n dX12_readIf_51 ?_
              refine az_iload_n dX12_readIf_52 ?_
              refine az_iconst (v := nI 1) dX12_readIf_53 ?_
              refine az_iaddN dX12_readIf_54 ?_
              refine az_cV0 (st := []) dX12_readIf_55 ml_X12_182 e5 (cS hl (d := d - 1) (by omega) H5 ?_)
              intro h6 H6 mf6
              obtain ⟨r6, q6⟩ : ∃ x : rd_R, x = rd_b r5 L.1 := ⟨_, rfl⟩
              rw [← q6] at H6
              obtain ⟨a6, z6, ki6, nu6, wa6, e6, w6, hki6, hnu6⟩ := H6.o
              refine az_aload_n dX12_readIf_58 ?_
              refine az_bipush (v := nI 11) dX12_readIf_59 ?_
              refine az_cV0 (st := []) dX12_readIf_61 ml_X12_185 e6 (m_eats (d := d - 1) (k9 := 11) (by omega) (by decide) H6 ?_ ?_)
              · intro ee7 cc7 hr7 hm7 h7 H7 mf7
                rw [← tok_1 (tkW (fun e he => kw_end he)) (fun e c q => (H6.le e c q).1) hr7 hm7] at H7
                obtain ⟨r7, q7⟩ : ∃ x : rd_R, x = rd_b r6 (rd_tw b n "end") := ⟨_, rfl⟩
                rw [← q7] at H7
                obtain ⟨a7, z7, ki7, nu7, wa7, e7, w7, hki7, hnu7⟩ := H7.o
                refine az_if_neN (tgt := 72) dX12_readIf_64 (fun c64 => ?_) (fun c64 => ?_)
                · refine az_aload_n dX12_readIf_72 ?_
                  refine az_sipush (v := nI 3009) dX12_readIf_73 ?_
                  refine az_cV0 (st := []) dX12_readIf_76 ml_X12_173 e7 (m_codes (d := d - 1) (x := 3009) (by subst q7 q6 q5 q4 q3 q2; exact hcap hl) H7 ?_)
                  intro h8 H8 mf8
                  exact az_vret dX12_readIf_79 (hQ h8 (by rw [gd_1 hl]; subst q7 q6 q5 q4 q3 q2; exact H8) ((((((((mf1.wk (L' := [64, 68])).tr mf2 (by decide)).tr mf3 (by decide)).tr mf4 (by decide)).tr mf5 (by decide)).tr mf6 (by decide)).tr mf7 (by decide)).tr mf8 (by decide)))
                · exact absurd c64 (by omega)
              · intro hno7
                refine az_if_neN (tgt := 72) dX12_readIf_64 (fun c64 => ?_) (fun c64 => ?_)
                · exact absurd c64 (by omega)
                · refine az_aload_n dX12_readIf_67 ?_
                  refine az_iconst (v := nI 2) dX12_readIf_68 ?_
                  refine az_cV0 (st := []) dX12_readIf_69 ml_X12_165 e6 (m_fails (d := d - 1) (f9 := 2) (by decide) (by decide) H6 ?_)
                  intro h7 H7 mf7
                  rw [← tok_0 (tkW (fun e he => kw_end he)) (fun e c q => (H6.le e c q).1) hno7] at H7
                  obtain ⟨r7, q7⟩ : ∃ x : rd_R, x = rd_b r6 (rd_tw b n "end") := ⟨_, rfl⟩
                  rw [← q7] at H7
                  obtain ⟨a7, z7, ki7, nu7, wa7, e7, w7, hki7, hnu7⟩ := H7.o
                  refine az_aload_n dX12_readIf_72 ?_
                  refine az_sipush (v := nI 3009) dX12_readIf_73 ?_
                  refine az_cV0 (st := []) dX12_readIf_76 ml_X12_173 e7 (m_codes (d := d - 1) (x := 3009) (by subst q7 q6 q5 q4 q3 q2; exact hcap hl) H7 ?_)
                  intro h8 H8 mf8
                  exact az_vret dX12_readIf_79 (hQ h8 (by rw [gd_1 hl]; subst q7 q6 q5 q4 q3 q2; exact H8) ((((((((mf1.wk (L' := [64, 68])).tr mf2 (by decide)).tr mf3 (by decide)).tr mf4 (by decide)).tr mf5 (by decide)).tr mf6 (by decide)).tr mf7 (by decide)).tr mf8 (by decide)))
        · exact absurd c22 (by omega)
      · intro hno3
        refine az_if_neN (tgt := 30) dX12_readIf_22 (fun c22 => ?_) (fun c22 => ?_)
        · exact absurd c22 (by omega)
        · refine az_aload_n dX12_readIf_25 ?_
          refine az_iconst (v := nI 2) dX12_readIf_26 ?_
          refine az_cV0 (st := []) dX12_readIf_27 ml_X12_165 e2 (m_fails (d := d - 1) (f9 := 2) (by decide) (by decide) H2 ?_)
          intro h3 H3 mf3
          rw [← tok_0 (tkW (fun e he => kw_then he)) (fun e c q => (H2.le e c q).1) hno3] at H3
          obtain ⟨r3, q3⟩ : ∃ x : rd_R, x = rd_b r2 (rd_tw b n "then") := ⟨_, rfl⟩
          rw [← q3] at H3
          obtain ⟨a3, z3, ki3, nu3, wa3, e3, w3, hki3, hnu3⟩ := H3.o
          refine az_aload_n dX12_readIf_30 ?_
          refine az_iload_n dX12_readIf_31 ?_
          refine az_iconst (v := nI 1) dX12_readIf_32 ?_
          refine az_iaddN dX12_readIf_33 ?_
          refine az_cV0 (st := []) dX12_readIf_34 ml_X12_182 e3 (cS hl (d := d - 1) (by omega) H3 ?_)
          intro h4 H4 mf4
          obtain ⟨r4, q4⟩ : ∃ x : rd_R, x = rd_b r3 L.1 := ⟨_, rfl⟩
          rw [← q4] at H4
          obtain ⟨a4, z4, ki4, nu4, wa4, e4, w4, hki4, hnu4⟩ := H4.o
          refine az_aload_n dX12_readIf_37 ?_
          refine az_bipush (v := nI 10) dX12_readIf_38 ?_
          refine az_cV0 (st := []) dX12_readIf_40 ml_X12_185 e4 (m_eats (d := d - 1) (k9 := 10) (by omega) (by decide) H4 ?_ ?_)
          · intro ee5 cc5 hr5 hm5 h5 H5 mf5
            rw [← tok_1 (tkW (fun e he => kw_else he)) (fun e c q => (H4.le e c q).1) hr5 hm5] at H5
            obtain ⟨r5, q5⟩ : ∃ x : rd_R, x = rd_b r4 (rd_tw b n "else") := ⟨_, rfl⟩
            rw [← q5] at H5
            obtain ⟨a5, z5, ki5, nu5, wa5, e5, w5, hki5, hnu5⟩ := H5.o
            refine az_if_neN (tgt := 51) dX12_readIf_43 (fun c43 => ?_) (fun c43 => ?_)
            · refine az_aload_n dX12_readIf_51 ?_
              refine az_iload_n dX12_readIf_52 ?_
              refine az_iconst (v := nI 1) dX12_readIf_53 ?_
              refine az_iaddN dX12_readIf_54 ?_
              refine az_cV0 (st := []) dX12_readIf_55 ml_X12_182 e5 (cS hl (d := d - 1) (by omega) H5 ?_)
              intro h6 H6 mf6
              obtain ⟨r6, q6⟩ : ∃ x : rd_R, x = rd_b r5 L.1 := ⟨_, rfl⟩
              rw [← q6] at H6
              obtain ⟨a6, z6, ki6, nu6, wa6, e6, w6, hki6, hnu6⟩ := H6.o
              refine az_aload_n dX12_readIf_58 ?_
              refine az_bipush (v := nI 11) dX12_readIf_59 ?_
              refine az_cV0 (st := []) dX12_readIf_61 ml_X12_185 e6 (m_eats (d := d - 1) (k9 := 11) (by omega) (by decide) H6 ?_ ?_)
              · intro ee7 cc7 hr7 hm7 h7 H7 mf7
                rw [← tok_1 (tkW (fun e he => kw_end he)) (fun e c q => (H6.le e c q).1) hr7 hm7] at H7
                obtain ⟨r7, q7⟩ : ∃ x : rd_R, x = rd_b r6 (rd_tw b n "end") := ⟨_, rfl⟩
                rw [← q7] at H7
                obtain ⟨a7, z7, ki7, nu7, wa7, e7, w7, hki7, hnu7⟩ := H7.o
                refine az_if_neN (tgt := 72) dX12_readIf_64 (fun c64 => ?_) (fun c64 => ?_)
                · refine az_aload_n dX12_readIf_72 ?_
                  refine az_sipush (v := nI 3009) dX12_readIf_73 ?_
                  refine az_cV0 (st := []) dX12_readIf_76 ml_X12_173 e7 (m_codes (d := d - 1) (x := 3009) (by subst q7 q6 q5 q4 q3 q2; exact hcap hl) H7 ?_)
                  intro h8 H8 mf8
                  exact az_vret dX12_readIf_79 (hQ h8 (by rw [gd_1 hl]; subst q7 q6 q5 q4 q3 q2; exact H8) ((((((((mf1.wk (L' := [64, 68])).tr mf2 (by decide)).tr mf3 (by decide)).tr mf4 (by decide)).tr mf5 (by decide)).tr mf6 (by decide)).tr mf7 (by decide)).tr mf8 (by decide)))
                · exact absurd c64 (by omega)
              · intro hno7
                refine az_if_neN (tgt := 72) dX12_readIf_64 (fun c64 => ?_) (fun c64 => ?_)
                · exact absurd c64 (by omega)
                · refine az_aload_n dX12_readIf_67 ?_
                  refine az_iconst (v := nI 2) dX12_readIf_68 ?_
                  refine az_cV0 (st := []) dX12_readIf_69 ml_X12_165 e6 (m_fails (d := d - 1) (f9 := 2) (by decide) (by decide) H6 ?_)
                  intro h7 H7 mf7
                  rw [← tok_0 (tkW (fun e he => kw_end he)) (fun e c q => (H6.le e c q).1) hno7] at H7
                  obtain ⟨r7, q7⟩ : ∃ x : rd_R, x = rd_b r6 (rd_tw b n "end") := ⟨_, rfl⟩
                  rw [← q7] at H7
                  obtain ⟨a7, z7, ki7, nu7, wa7, e7, w7, hki7, hnu7⟩ := H7.o
                  refine az_aload_n dX12_readIf_72 ?_
                  refine az_sipush (v := nI 3009) dX12_readIf_73 ?_
                  refine az_cV0 (st := []) dX12_readIf_76 ml_X12_173 e7 (m_codes (d := d - 1) (x := 3009) (by subst q7 q6 q5 q4 q3 q2; exact hcap hl) H7 ?_)
                  intro h8 H8 mf8
                  exact az_vret dX12_readIf_79 (hQ h8 (by rw [gd_1 hl]; subst q7 q6 q5 q4 q3 q2; exact H8) ((((((((mf1.wk (L' := [64, 68])).tr mf2 (by decide)).tr mf3 (by decide)).tr mf4 (by decide)).tr mf5 (by decide)).tr mf6 (by decide)).tr mf7 (by decide)).tr mf8 (by decide)))
            · exact absurd c43 (by omega)
          · intro hno5
            refine az_if_neN (tgt := 51) dX12_readIf_43 (fun c43 => ?_) (fun c43 => ?_)
            · exact absurd c43 (by omega)
            · refine az_aload_n dX12_readIf_46 ?_
              refine az_iconst (v := nI 2) dX12_readIf_47 ?_
              refine az_cV0 (st := []) dX12_readIf_48 ml_X12_165 e4 (m_fails (d := d - 1) (f9 := 2) (by decide) (by decide) H4 ?_)
              intro h5 H5 mf5
              rw [← tok_0 (tkW (fun e he => kw_else he)) (fun e c q => (H4.le e c q).1) hno5] at H5
              obtain ⟨r5, q5⟩ : ∃ x : rd_R, x = rd_b r4 (rd_tw b n "else") := ⟨_, rfl⟩
              rw [← q5] at H5
              obtain ⟨a5, z5, ki5, nu5, wa5, e5, w5, hki5, hnu5⟩ := H5.o
              refine az_aload_n dX12_readIf_51 ?_
              refine az_iload_n dX12_readIf_52 ?_
              refine az_iconst (v := nI 1) dX12_readIf_53 ?_
              refine az_iaddN dX12_readIf_54 ?_
              refine az_cV0 (st := []) dX12_readIf_55 ml_X12_182 e5 (cS hl (d := d - 1) (by omega) H5 ?_)
              intro h6 H6 mf6
              obtain ⟨r6, q6⟩ : ∃ x : rd_R, x = rd_b r5 L.1 := ⟨_, rfl⟩
              rw [← q6] at H6
              obtain ⟨a6, z6, ki6, nu6, wa6, e6, w6, hki6, hnu6⟩ := H6.o
              refine az_aload_n dX12_readIf_58 ?_
              refine az_bipush (v := nI 11) dX12_readIf_59 ?_
              refine az_cV0 (st := []) dX12_readIf_61 ml_X12_185 e6 (m_eats (d := d - 1) (k9 := 11) (by omega) (by decide) H6 ?_ ?_)
              · intro ee7 cc7 hr7 hm7 h7 H7 mf7
                rw [← tok_1 (tkW (fun e he => kw_end he)) (fun e c q => (H6.le e c q).1) hr7 hm7] at H7
                obtain ⟨r7, q7⟩ : ∃ x : rd_R, x = rd_b r6 (rd_tw b n "end") := ⟨_, rfl⟩
                rw [← q7] at H7
                obtain ⟨a7, z7, ki7, nu7, wa7, e7, w7, hki7, hnu7⟩ := H7.o
                refine az_if_neN (tgt := 72) dX12_readIf_64 (fun c64 => ?_) (fun c64 => ?_)
                · refine az_aload_n dX12_readIf_72 ?_
                  refine az_sipush (v := nI 3009) dX12_readIf_73 ?_
                  refine az_cV0 (st := []) dX12_readIf_76 ml_X12_173 e7 (m_codes (d := d - 1) (x := 3009) (by subst q7 q6 q5 q4 q3 q2; exact hcap hl) H7 ?_)
                  intro h8 H8 mf8
                  exact az_vret dX12_readIf_79 (hQ h8 (by rw [gd_1 hl]; subst q7 q6 q5 q4 q3 q2; exact H8) ((((((((mf1.wk (L' := [64, 68])).tr mf2 (by decide)).tr mf3 (by decide)).tr mf4 (by decide)).tr mf5 (by decide)).tr mf6 (by decide)).tr mf7 (by decide)).tr mf8 (by decide)))
                · exact absurd c64 (by omega)
              · intro hno7
                refine az_if_neN (tgt := 72) dX12_readIf_64 (fun c64 => ?_) (fun c64 => ?_)
                · exact absurd c64 (by omega)
                · refine az_aload_n dX12_readIf_67 ?_
                  refine az_iconst (v := nI 2) dX12_readIf_68 ?_
                  refine az_cV0 (st := []) dX12_readIf_69 ml_X12_165 e6 (m_fails (d := d - 1) (f9 := 2) (by decide) (by decide) H6 ?_)
                  intro h7 H7 mf7
                  rw [← tok_0 (tkW (fun e he => kw_end he)) (fun e c q => (H6.le e c q).1) hno7] at H7
                  obtain ⟨r7, q7⟩ : ∃ x : rd_R, x = rd_b r6 (rd_tw b n "end") := ⟨_, rfl⟩
                  rw [← q7] at H7
                  obtain ⟨a7, z7, ki7, nu7, wa7, e7, w7, hki7, hnu7⟩ := H7.o
                  refine az_aload_n dX12_readIf_72 ?_
                  refine az_sipush (v := nI 3009) dX12_readIf_73 ?_
                  refine az_cV0 (st := []) dX12_readIf_76 ml_X12_173 e7 (m_codes (d := d - 1) (x := 3009) (by subst q7 q6 q5 q4 q3 q2; exact hcap hl) H7 ?_)
                  intro h8 H8 mf8
                  exact az_vret dX12_readIf_79 (hQ h8 (by rw [gd_1 hl]; subst q7 q6 q5 q4 q3 q2; exact H8) ((((((((mf1.wk (L' := [64, 68])).tr mf2 (by decide)).tr mf3 (by decide)).tr mf4 (by decide)).tr mf5 (by decide)).tr mf6 (by decide)).tr mf7 (by decide)).tr mf8 (by decide)))
    · exact absurd c5 (by omega)
  · intro hl h1 H1 mf1
    obtain ⟨a1, z1, ki1, nu1, wa1, e1, w1, hki1, hnu1⟩ := H1.o
    refine az_if_neN (tgt := 9) dX12_readIf_5 (fun c5 => ?_) (fun c5 => ?_)
    · exact absurd c5 (by omega)
    · exact az_vret dX12_readIf_8 (hQ h1 (by rw [gd_0 hl, rf_b]; exact H1) mf1.wk)
theorem at_00 {b : Nat → Nat} {n lvl : Nat} {L : rd_P × rd_P × rd_P} {r : rd_R} (hle : ∀ e c, r = .inl (e, c) → e ≤ n) (h1 : mr_no b n r 23) (h2 : ∀ e c, r = .inl (e, c) → rd_nm b n e = 0) (h3 : mr_no b n r 35) (h4 : mr_no b n r 8) : rd_b r (fun e _ => rd_fail b n 2 e) = rd_b r (rd_at b n lvl L) := by
  match r, hle, h1, h2, h3, h4 with
  | .inl (e, c), hle, h1, h2, h3, h4 => exact (at_0 (hle e c rfl) (h1 e c rfl) (h2 e c rfl) (h3 e c rfl) (h4 e c rfl)).symm
  | .inr x, _, _, _, _, _ => rfl
set_option maxHeartbeats 4000000 in
set_option maxRecDepth 100000 in
theorem m_readAtom {D dp lvl : Nat} {L : rd_P × rd_P × rd_P} {sc : Nat → Value} {b : Nat → Nat} {n : Nat} (hD : 9 ≤ D) (hdp : dp + lvl = 6) (hL : rd_GL n L) (cS : lvl ≠ 0 → mr_CM mX12_readSum L.1 D (dp + 1) sc b n) (cT : lvl ≠ 0 → mr_CM mX12_readTruth L.2.2 D (dp + 1) sc b n) : mr_CM mX12_readAtom (rd_at b n lvl L) (D + 2) dp sc b n := by
  intro d fr k0 r hp Q hd H hQ
  obtain ⟨a0, z0, ki0, nu0, wa0, e0, w0, hki0, hnu0⟩ := H.o
  refine az_M.of rfl (Nat.le_of_ble_eq_true rfl) ?_
  show az_W _ _ _ _ 0 [(0, .ref 64), (1, .int (nI dp))] [] _ _
  refine az_aload_n dX12_readAtom_0 ?_
  refine az_bipush (v := nI 23) dX12_readAtom_1 ?_
  refine az_cV0 (st := []) dX12_readAtom_3 ml_X12_159 e0 (m_is (d := d - 1) (k9 := 23) (by decide) H ?_ ?_)
  · intro ee cc hr hm23
    have H9 := H
    rw [hr] at H9
    have hle := H.le ee cc hr
    have hkd2 := mrK_N.mp hm23
    have hel := rd_en_lt hle.1 (show rd_kd b n ee ≠ 0 by omega)
    have hn9 := H.1.2.1
    refine az_if_eqN (tgt := 24) dX12_readAtom_6 (fun c6 => ?_) (fun c6 => ?_)
    · exact absurd c6 (by omega)
    · refine az_aload_n dX12_readAtom_9 ?_
      refine az_aload_n dX12_readAtom_10 ?_
      refine az_getf (v := .int nu0) dX12_readAtom_11 fl_X12_148 e0 ?_
      obtain ⟨k8, nu8, wa8, hk8, hnu8, x8⟩ := id H9.2.2.2.1
      rw [hnu0 ee cc hr hkd2]
      refine az_cV0 (st := []) dX12_readAtom_14 ml_X12_173 e0 (m_codesW (d := d - 1) (c := cc) (k0 := k0) (fr := fr) (n := n) (sc := sc) (by omega) x8 H9.2.2.2.2 ?_)
      intro h2 hC2 mf2
      have hl2 : (cc ++ [rd_va b n ee]).length = cc.length + 1 := (by rw [List.length_append]; rfl)
      refine az_aload_n dX12_readAtom_17 ?_
      refine az_cV0 (st := []) dX12_readAtom_18 ml_X12_162 (mf2.at x8) (m_nextR (d := d - 1) (e := ee) (c := cc) (c' := cc ++ [rd_va b n ee]) (sc := sc) (b := b) (n := n) (fr := fr) (k0 := k0) (by omega) (H.1.fr mf2) hle.1 (by omega) ⟨k8, nu8, wa8, hk8, hnu8, mf2.at x8⟩ hC2 ?_)
      intro h3 H3 mf3
      refine az_goto (tgt := 130) dX12_readAtom_21 ?_
      exact az_vret dX12_readAtom_130 (by first | (have _g := hm23; exact hQ h3 (by rw [hr]; show mr_R h3 sc b n fr k0 (rd_at b n lvl L ee cc); rw [at_n hkd2]; exact H3) ((mf2.wk (L' := [64, 68])).tr mf3 (by decide))) | (have _g := nm1; exact hQ h3 (by rw [hr]; show mr_R h3 sc b n fr k0 (rd_at b n lvl L ee cc); rw [at_w hle.1 hk8 nm3 nm4 nm2]; exact H3) ((mf2.wk (L' := [64, 68])).tr mf3 (by decide))) | (have _g := q3; exact hQ h3 (by rw [hr5]; show mr_R h3 sc b n fr k0 (rd_at b n lvl L e5 c5); rw [at_p hm5, gd_1 hl]; subst q3 q2; exact H3) (((mf1.wk (L' := [64, 68])).tr mf2 (by decide)).tr mf3 (by decide))) | (have _g := H7; exact hQ h7 (by rw [hr6]; show mr_R h7 sc b n fr k0 (rd_at b n lvl L e6 c6); rw [at_i hle6.1 hm6]; exact H7) mf7) | (have _g := H8; exact hQ h8 (by rw [← at_00 (fun e c q => (H.le e c q).1) hno23 hnm0 hno35 hno8]; exact H8) mf8.wk))
  · intro hno23
    refine az_if_eqN (tgt := 24) dX12_readAtom_6 (fun c6 => ?_) (fun c6 => ?_)
    · refine az_aload_n dX12_readAtom_24 ?_
      refine az_getf (v := .int (nI (mr_w (r)))) dX12_readAtom_25 fl_X12_153 e0 ?_
      refine az_if_neN (tgt := 66) dX12_readAtom_28 (fun c28 => ?_) (fun c28 => ?_)
      · have hnm0 : ∀ e c, r = .inl (e, c) → rd_nm b n e = 0 := (by first | (obtain ⟨x, hx⟩ := mr_w1 c28; intro e c q; rw [hx] at q; cases q) | (intro e c q; have q := hr.symm.trans q; cases q; exact nm_no hle.1 hk8 c40))
        refine az_aload_n dX12_readAtom_66 ?_
        refine az_bipush (v := nI 35) dX12_readAtom_67 ?_
        refine az_cV0 (st := []) dX12_readAtom_69 ml_X12_159 e0 (m_is (d := d - 1) (k9 := 35) (by decide) H ?_ ?_)
        · intro e5 c5 hr5 hm5
          have H5 := H
          rw [hr5] at H5
          refine az_if_eqN (tgt := 108) dX12_readAtom_72 (fun c72 => ?_) (fun c72 => ?_)
          · exact absurd c72 (by omega)
          · refine az_aload_n dX12_readAtom_75 ?_
            refine az_iload_n dX12_readAtom_76 ?_
            refine az_cV0 (st := []) dX12_readAtom_77 ml_X12_179 e0 (m_goesIn (d := d - 1) (lvl := lvl) (by omega) hdp H5 ?_ ?_)
            · intro hl h1 H1 mf1
              obtain ⟨a1, z1, ki1, nu1, wa1, e1, w1, hki1, hnu1⟩ := H1.o
              refine az_if_neN (tgt := 84) dX12_readAtom_80 (fun c80 => ?_) (fun c80 => ?_)
              · refine az_aload_n dX12_readAtom_84 ?_
                refine az_iload_n dX12_readAtom_85 ?_
                refine az_iconst (v := nI 1) dX12_readAtom_86 ?_
                refine az_iaddN dX12_readAtom_87 ?_
                refine az_cV0 (st := []) dX12_readAtom_88 ml_X12_182 e1 (cS hl (d := d - 1) (by omega) H1 ?_)
                intro h2 H2 mf2
                obtain ⟨r2, q2⟩ : ∃ x : rd_R, x = rd_b (.inl (rd_en b n e5, c5)) L.1 := ⟨_, rfl⟩
                rw [← q2] at H2
                obtain ⟨a2, z2, ki2, nu2, wa2, e2, w2, hki2, hnu2⟩ := H2.o
                refine az_aload_n dX12_readAtom_91 ?_
                refine az_bipush (v := nI 36) dX12_readAtom_92 ?_
                refine az_cV0 (st := []) dX12_readAtom_94 ml_X12_185 e2 (m_eats (d := d - 1) (k9 := 36) (by omega) (by decide) H2 ?_ ?_)
                · intro ee3 cc3 hr3 hm3 h3 H3 mf3
                  rw [← tok_1 (tkS (fun e => ks_41)) (fun e c q => (H2.le e c q).1) hr3 hm3] at H3
                  obtain ⟨r3, q3⟩ : ∃ x : rd_R, x = rd_b r2 (rd_ts b n 41) := ⟨_, rfl⟩
                  rw [← q3] at H3
                  obtain ⟨a3, z3, ki3, nu3, wa3, e3, w3, hki3, hnu3⟩ := H3.o
                  refine az_if_neN (tgt := 130) dX12_readAtom_97 (fun c97 => ?_) (fun c97 => ?_)
                  · exact az_vret dX12_readAtom_130 (by first | (have _g := hm23; exact hQ h3 (by rw [hr]; show mr_R h3 sc b n fr k0 (rd_at b n lvl L ee cc); rw [at_n hkd2]; exact H3) ((mf2.wk (L' := [64, 68])).tr mf3 (by decide))) | (have _g := nm1; exact hQ h3 (by rw [hr]; show mr_R h3 sc b n fr k0 (rd_at b n lvl L ee cc); rw [at_w hle.1 hk8 nm3 nm4 nm2]; exact H3) ((mf2.wk (L' := [64, 68])).tr mf3 (by decide))) | (have _g := q3; exact hQ h3 (by rw [hr5]; show mr_R h3 sc b n fr k0 (rd_at b n lvl L e5 c5); rw [at_p hm5, gd_1 hl]; subst q3 q2; exact H3) (((mf1.wk (L' := [64, 68])).tr mf2 (by decide)).tr mf3 (by decide))) | (have _g := H7; exact hQ h7 (by rw [hr6]; show mr_R h7 sc b n fr k0 (rd_at b n lvl L e6 c6); rw [at_i hle6.1 hm6]; exact H7) mf7) | (have _g := H8; exact hQ h8 (by rw [← at_00 (fun e c q => (H.le e c q).1) hno23 hnm0 hno35 hno8]; exact H8) mf8.wk))
                  · exact absurd c97 (by omega)
                · intro hno3
                  refine az_if_neN (tgt := 130) dX12_readAtom_97 (fun c97 => ?_) (fun c97 => ?_)
                  · exact absurd c97 (by omega)
                  · refine az_aload_n dX12_readAtom_100 ?_
                    refine az_iconst (v := nI 2) dX12_readAtom_101 ?_
                    refine az_cV0 (st := []) dX12_readAtom_102 ml_X12_165 e2 (m_fails (d := d - 1) (f9 := 2) (by decide) (by decide) H2 ?_)
                    intro h3 H3 mf3
                    rw [← tok_0 (tkS (fun e => ks_41)) (fun e c q => (H2.le e c q).1) hno3] at H3
                    obtain ⟨r3, q3⟩ : ∃ x : rd_R, x = rd_b r2 (rd_ts b n 41) := ⟨_, rfl⟩
                    rw [← q3] at H3
                    obtain ⟨a3, z3, ki3, nu3, wa3, e3, w3, hki3, hnu3⟩ := H3.o
                    refine az_goto (tgt := 130) dX12_readAtom_105 ?_
                    exact az_vret dX12_readAtom_130 (by first | (have _g := hm23; exact hQ h3 (by rw [hr]; show mr_R h3 sc b n fr k0 (rd_at b n lvl L ee cc); rw [at_n hkd2]; exact H3) ((mf2.wk (L' := [64, 68])).tr mf3 (by decide))) | (have _g := nm1; exact hQ h3 (by rw [hr]; show mr_R h3 sc b n fr k0 (rd_at b n lvl L ee cc); rw [at_w hle.1 hk8 nm3 nm4 nm2]; exact H3) ((mf2.wk (L' := [64, 68])).tr mf3 (by decide))) | (have _g := q3; exact hQ h3 (by rw [hr5]; show mr_R h3 sc b n fr k0 (rd_at b n lvl L e5 c5); rw [at_p hm5, gd_1 hl]; subst q3 q2; exact H3) (((mf1.wk (L' := [64, 68])).tr mf2 (by decide)).tr mf3 (by decide))) | (have _g := H7; exact hQ h7 (by rw [hr6]; show mr_R h7 sc b n fr k0 (rd_at b n lvl L e6 c6); rw [at_i hle6.1 hm6]; exact H7) mf7) | (have _g := H8; exact hQ h8 (by rw [← at_00 (fun e c q => (H.le e c q).1) hno23 hnm0 hno35 hno8]; exact H8) mf8.wk))
              · exact absurd c80 (by omega)
            · intro hl h1 H1 mf1
              obtain ⟨a1, z1, ki1, nu1, wa1, e1, w1, hki1, hnu1⟩ := H1.o
              refine az_if_neN (tgt := 84) dX12_readAtom_80 (fun c80 => ?_) (fun c80 => ?_)
              · exact absurd c80 (by omega)
              · exact az_vret dX12_readAtom_83 (hQ h1 (by rw [hr5]; show mr_R h1 sc b n fr k0 (rd_at b n lvl L e5 c5); rw [at_p hm5, gd_0 hl, rf_b, rf_b]; exact H1) mf1.wk)
        · intro hno35
          refine az_if_eqN (tgt := 108) dX12_readAtom_72 (fun c72 => ?_) (fun c72 => ?_)
          · refine az_aload_n dX12_readAtom_108 ?_
            refine az_bipush (v := nI 8) dX12_readAtom_109 ?_
            refine az_cV0 (st := []) dX12_readAtom_111 ml_X12_159 e0 (m_is (d := d - 1) (k9 := 8) (by decide) H ?_ ?_)
            · intro e6 c6 hr6 hm6
              have H6 := H
              rw [hr6] at H6
              have hle6 := H.le e6 c6 hr6
              refine az_if_eqN (tgt := 125) dX12_readAtom_114 (fun c114 => ?_) (fun c114 => ?_)
              · exact absurd c114 (by omega)
              · refine az_aload_n dX12_readAtom_117 ?_
                refine az_iload_n dX12_readAtom_118 ?_
                refine az_cV0 (st := []) dX12_readAtom_119 ml_X12_188 e0 (m_readIf (d := d - 1) (D := D) (lvl := lvl) (L := L) hD (by omega) hdp hL cS cT H6 ?_)
                intro h7 H7 mf7
                refine az_goto (tgt := 130) dX12_readAtom_122 ?_
                exact az_vret dX12_readAtom_130 (by first | (have _g := hm23; exact hQ h3 (by rw [hr]; show mr_R h3 sc b n fr k0 (rd_at b n lvl L ee cc); rw [at_n hkd2]; exact H3) ((mf2.wk (L' := [64, 68])).tr mf3 (by decide))) | (have _g := nm1; exact hQ h3 (by rw [hr]; show mr_R h3 sc b n fr k0 (rd_at b n lvl L ee cc); rw [at_w hle.1 hk8 nm3 nm4 nm2]; exact H3) ((mf2.wk (L' := [64, 68])).tr mf3 (by decide))) | (have _g := q3; exact hQ h3 (by rw [hr5]; show mr_R h3 sc b n fr k0 (rd_at b n lvl L e5 c5); rw [at_p hm5, gd_1 hl]; subst q3 q2; exact H3) (((mf1.wk (L' := [64, 68])).tr mf2 (by decide)).tr mf3 (by decide))) | (have _g := H7; exact hQ h7 (by rw [hr6]; show mr_R h7 sc b n fr k0 (rd_at b n lvl L e6 c6); rw [at_i hle6.1 hm6]; exact H7) mf7) | (have _g := H8; exact hQ h8 (by rw [← at_00 (fun e c q => (H.le e c q).1) hno23 hnm0 hno35 hno8]; exact H8) mf8.wk))
            · intro hno8
              refine az_if_eqN (tgt := 125) dX12_readAtom_114 (fun c114 => ?_) (fun c114 => ?_)
              · refine az_aload_n dX12_readAtom_125 ?_
                refine az_iconst (v := nI 2) dX12_readAtom_126 ?_
                refine az_cV0 (st := []) dX12_readAtom_127 ml_X12_165 e0 (m_fails (d := d - 1) (f9 := 2) (by decide) (by decide) H ?_)
                intro h8 H8 mf8
                exact az_vret dX12_readAtom_130 (by first | (have _g := hm23; exact hQ h3 (by rw [hr]; show mr_R h3 sc b n fr k0 (rd_at b n lvl L ee cc); rw [at_n hkd2]; exact H3) ((mf2.wk (L' := [64, 68])).tr mf3 (by decide))) | (have _g := nm1; exact hQ h3 (by rw [hr]; show mr_R h3 sc b n fr k0 (rd_at b n lvl L ee cc); rw [at_w hle.1 hk8 nm3 nm4 nm2]; exact H3) ((mf2.wk (L' := [64, 68])).tr mf3 (by decide))) | (have _g := q3; exact hQ h3 (by rw [hr5]; show mr_R h3 sc b n fr k0 (rd_at b n lvl L e5 c5); rw [at_p hm5, gd_1 hl]; subst q3 q2; exact H3) (((mf1.wk (L' := [64, 68])).tr mf2 (by decide)).tr mf3 (by decide))) | (have _g := H7; exact hQ h7 (by rw [hr6]; show mr_R h7 sc b n fr k0 (rd_at b n lvl L e6 c6); rw [at_i hle6.1 hm6]; exact H7) mf7) | (have _g := H8; exact hQ h8 (by rw [← at_00 (fun e c q => (H.le e c q).1) hno23 hnm0 hno35 hno8]; exact H8) mf8.wk))
              · exact absurd c114 (by omega)
          · exact absurd c72 (by omega)
      · obtain ⟨ee, cc, hr⟩ := mr_w0 H c28
        have H9 := H
        rw [hr] at H9
        have hle := H.le ee cc hr
        obtain ⟨k8, nu8, wa8, hk8, hnu8, x8⟩ := id H9.2.2.2.1
        have hn9 := H.1.2.1
        refine az_aload_n dX12_readAtom_31 ?_
        refine az_aload_n dX12_readAtom_32 ?_
        refine az_getf (v := .int (nI k8)) dX12_readAtom_33 fl_X12_135 x8 ?_
        refine az_cV0 (st := []) dX12_readAtom_36 ml_X12_176 x8 (m_wordOf (d := d - 1) (k := k8) (mrK_lt hk8) ?_)
        refine az_iconst (v := (-1)) dX12_readAtom_39 ?_
        refine az_icmp_eq (tgt := 66) dX12_readAtom_40 (fun c40 => ?_) (fun c40 => ?_)
        · have hnm0 : ∀ e c, r = .inl (e, c) → rd_nm b n e = 0 := (by first | (obtain ⟨x, hx⟩ := mr_w1 c28; intro e c q; rw [hx] at q; cases q) | (intro e c q; have q := hr.symm.trans q; cases q; exact nm_no hle.1 hk8 c40))
          refine az_aload_n dX12_readAtom_66 ?_
          refine az_bipush (v := nI 35) dX12_readAtom_67 ?_
          refine az_cV0 (st := []) dX12_readAtom_69 ml_X12_159 x8 (m_is (d := d - 1) (k9 := 35) (by decide) H ?_ ?_)
          · intro e5 c5 hr5 hm5
            have H5 := H
            rw [hr5] at H5
            refine az_if_eqN (tgt := 108) dX12_readAtom_72 (fun c72 => ?_) (fun c72 => ?_)
            · exact absurd c72 (by omega)
            · refine az_aload_n dX12_readAtom_75 ?_
              refine az_iload_n dX12_readAtom_76 ?_
              refine az_cV0 (st := []) dX12_readAtom_77 ml_X12_179 x8 (m_goesIn (d := d - 1) (lvl := lvl) (by omega) hdp H5 ?_ ?_)
              · intro hl h1 H1 mf1
                obtain ⟨a1, z1, ki1, nu1, wa1, e1, w1, hki1, hnu1⟩ := H1.o
                refine az_if_neN (tgt := 84) dX12_readAtom_80 (fun c80 => ?_) (fun c80 => ?_)
                · refine az_aload_n dX12_readAtom_84 ?_
                  refine az_iload_n dX12_readAtom_85 ?_
                  refine az_iconst (v := nI 1) dX12_readAtom_86 ?_
                  refine az_iaddN dX12_readAtom_87 ?_
                  refine az_cV0 (st := []) dX12_readAtom_88 ml_X12_182 e1 (cS hl (d := d - 1) (by omega) H1 ?_)
                  intro h2 H2 mf2
                  obtain ⟨r2, q2⟩ : ∃ x : rd_R, x = rd_b (.inl (rd_en b n e5, c5)) L.1 := ⟨_, rfl⟩
                  rw [← q2] at H2
                  obtain ⟨a2, z2, ki2, nu2, wa2, e2, w2, hki2, hnu2⟩ := H2.o
                  refine az_aload_n dX12_readAtom_91 ?_
                  refine az_bipush (v := nI 36) dX12_readAtom_92 ?_
                  refine az_cV0 (st := []) dX12_readAtom_94 ml_X12_185 e2 (m_eats (d := d - 1) (k9 := 36) (by omega) (by decide) H2 ?_ ?_)
                  · intro ee3 cc3 hr3 hm3 h3 H3 mf3
                    rw [← tok_1 (tkS (fun e => ks_41)) (fun e c q => (H2.le e c q).1) hr3 hm3] at H3
                    obtain ⟨r3, q3⟩ : ∃ x : rd_R, x = rd_b r2 (rd_ts b n 41) := ⟨_, rfl⟩
                    rw [← q3] at H3
                    obtain ⟨a3, z3, ki3, nu3, wa3, e3, w3, hki3, hnu3⟩ := H3.o
                    refine az_if_neN (tgt := 130) dX12_readAtom_97 (fun c97 => ?_) (fun c97 => ?_)
                    · exact az_vret dX12_readAtom_130 (by first | (have _g := hm23; exact hQ h3 (by rw [hr]; show mr_R h3 sc b n fr k0 (rd_at b n lvl L ee cc); rw [at_n hkd2]; exact H3) ((mf2.wk (L' := [64, 68])).tr mf3 (by decide))) | (have _g := nm1; exact hQ h3 (by rw [hr]; show mr_R h3 sc b n fr k0 (rd_at b n lvl L ee cc); rw [at_w hle.1 hk8 nm3 nm4 nm2]; exact H3) ((mf2.wk (L' := [64, 68])).tr mf3 (by decide))) | (have _g := q3; exact hQ h3 (by rw [hr5]; show mr_R h3 sc b n fr k0 (rd_at b n lvl L e5 c5); rw [at_p hm5, gd_1 hl]; subst q3 q2; exact H3) (((mf1.wk (L' := [64, 68])).tr mf2 (by decide)).tr mf3 (by decide))) | (have _g := H7; exact hQ h7 (by rw [hr6]; show mr_R h7 sc b n fr k0 (rd_at b n lvl L e6 c6); rw [at_i hle6.1 hm6]; exact H7) mf7) | (have _g := H8; exact hQ h8 (by rw [← at_00 (fun e c q => (H.le e c q).1) hno23 hnm0 hno35 hno8]; exact H8) mf8.wk))
                    · exact absurd c97 (by omega)
                  · intro hno3
                    refine az_if_neN (tgt := 130) dX12_readAtom_97 (fun c97 => ?_) (fun c97 => ?_)
                    · exact absurd c97 (by omega)
                    · refine az_aload_n dX12_readAtom_100 ?_
                      refine az_iconst (v := nI 2) dX12_readAtom_101 ?_
                      refine az_cV0 (st := []) dX12_readAtom_102 ml_X12_165 e2 (m_fails (d := d - 1) (f9 := 2) (by decide) (by decide) H2 ?_)
                      intro h3 H3 mf3
                      rw [← tok_0 (tkS (fun e => ks_41)) (fun e c q => (H2.le e c q).1) hno3] at H3
                      obtain ⟨r3, q3⟩ : ∃ x : rd_R, x = rd_b r2 (rd_ts b n 41) := ⟨_, rfl⟩
                      rw [← q3] at H3
                      obtain ⟨a3, z3, ki3, nu3, wa3, e3, w3, hki3, hnu3⟩ := H3.o
                      refine az_goto (tgt := 130) dX12_readAtom_105 ?_
                      exact az_vret dX12_readAtom_130 (by first | (have _g := hm23; exact hQ h3 (by rw [hr]; show mr_R h3 sc b n fr k0 (rd_at b n lvl L ee cc); rw [at_n hkd2]; exact H3) ((mf2.wk (L' := [64, 68])).tr mf3 (by decide))) | (have _g := nm1; exact hQ h3 (by rw [hr]; show mr_R h3 sc b n fr k0 (rd_at b n lvl L ee cc); rw [at_w hle.1 hk8 nm3 nm4 nm2]; exact H3) ((mf2.wk (L' := [64, 68])).tr mf3 (by decide))) | (have _g := q3; exact hQ h3 (by rw [hr5]; show mr_R h3 sc b n fr k0 (rd_at b n lvl L e5 c5); rw [at_p hm5, gd_1 hl]; subst q3 q2; exact H3) (((mf1.wk (L' := [64, 68])).tr mf2 (by decide)).tr mf3 (by decide))) | (have _g := H7; exact hQ h7 (by rw [hr6]; show mr_R h7 sc b n fr k0 (rd_at b n lvl L e6 c6); rw [at_i hle6.1 hm6]; exact H7) mf7) | (have _g := H8; exact hQ h8 (by rw [← at_00 (fun e c q => (H.le e c q).1) hno23 hnm0 hno35 hno8]; exact H8) mf8.wk))
                · exact absurd c80 (by omega)
              · intro hl h1 H1 mf1
                obtain ⟨a1, z1, ki1, nu1, wa1, e1, w1, hki1, hnu1⟩ := H1.o
                refine az_if_neN (tgt := 84) dX12_readAtom_80 (fun c80 => ?_) (fun c80 => ?_)
                · exact absurd c80 (by omega)
                · exact az_vret dX12_readAtom_83 (hQ h1 (by rw [hr5]; show mr_R h1 sc b n fr k0 (rd_at b n lvl L e5 c5); rw [at_p hm5, gd_0 hl, rf_b, rf_b]; exact H1) mf1.wk)
          · intro hno35
            refine az_if_eqN (tgt := 108) dX12_readAtom_72 (fun c72 => ?_) (fun c72 => ?_)
            · refine az_aload_n dX12_readAtom_108 ?_
              refine az_bipush (v := nI 8) dX12_readAtom_109 ?_
              refine az_cV0 (st := []) dX12_readAtom_111 ml_X12_159 x8 (m_is (d := d - 1) (k9 := 8) (by decide) H ?_ ?_)
              · intro e6 c6 hr6 hm6
                have H6 := H
                rw [hr6] at H6
                have hle6 := H.le e6 c6 hr6
                refine az_if_eqN (tgt := 125) dX12_readAtom_114 (fun c114 => ?_) (fun c114 => ?_)
                · exact absurd c114 (by omega)
                · refine az_aload_n dX12_readAtom_117 ?_
                  refine az_iload_n dX12_readAtom_118 ?_
                  refine az_cV0 (st := []) dX12_readAtom_119 ml_X12_188 x8 (m_readIf (d := d - 1) (D := D) (lvl := lvl) (L := L) hD (by omega) hdp hL cS cT H6 ?_)
                  intro h7 H7 mf7
                  refine az_goto (tgt := 130) dX12_readAtom_122 ?_
                  exact az_vret dX12_readAtom_130 (by first | (have _g := hm23; exact hQ h3 (by rw [hr]; show mr_R h3 sc b n fr k0 (rd_at b n lvl L ee cc); rw [at_n hkd2]; exact H3) ((mf2.wk (L' := [64, 68])).tr mf3 (by decide))) | (have _g := nm1; exact hQ h3 (by rw [hr]; show mr_R h3 sc b n fr k0 (rd_at b n lvl L ee cc); rw [at_w hle.1 hk8 nm3 nm4 nm2]; exact H3) ((mf2.wk (L' := [64, 68])).tr mf3 (by decide))) | (have _g := q3; exact hQ h3 (by rw [hr5]; show mr_R h3 sc b n fr k0 (rd_at b n lvl L e5 c5); rw [at_p hm5, gd_1 hl]; subst q3 q2; exact H3) (((mf1.wk (L' := [64, 68])).tr mf2 (by decide)).tr mf3 (by decide))) | (have _g := H7; exact hQ h7 (by rw [hr6]; show mr_R h7 sc b n fr k0 (rd_at b n lvl L e6 c6); rw [at_i hle6.1 hm6]; exact H7) mf7) | (have _g := H8; exact hQ h8 (by rw [← at_00 (fun e c q => (H.le e c q).1) hno23 hnm0 hno35 hno8]; exact H8) mf8.wk))
              · intro hno8
                refine az_if_eqN (tgt := 125) dX12_readAtom_114 (fun c114 => ?_) (fun c114 => ?_)
                · refine az_aload_n dX12_readAtom_125 ?_
                  refine az_iconst (v := nI 2) dX12_readAtom_126 ?_
                  refine az_cV0 (st := []) dX12_readAtom_127 ml_X12_165 x8 (m_fails (d := d - 1) (f9 := 2) (by decide) (by decide) H ?_)
                  intro h8 H8 mf8
                  exact az_vret dX12_readAtom_130 (by first | (have _g := hm23; exact hQ h3 (by rw [hr]; show mr_R h3 sc b n fr k0 (rd_at b n lvl L ee cc); rw [at_n hkd2]; exact H3) ((mf2.wk (L' := [64, 68])).tr mf3 (by decide))) | (have _g := nm1; exact hQ h3 (by rw [hr]; show mr_R h3 sc b n fr k0 (rd_at b n lvl L ee cc); rw [at_w hle.1 hk8 nm3 nm4 nm2]; exact H3) ((mf2.wk (L' := [64, 68])).tr mf3 (by decide))) | (have _g := q3; exact hQ h3 (by rw [hr5]; show mr_R h3 sc b n fr k0 (rd_at b n lvl L e5 c5); rw [at_p hm5, gd_1 hl]; subst q3 q2; exact H3) (((mf1.wk (L' := [64, 68])).tr mf2 (by decide)).tr mf3 (by decide))) | (have _g := H7; exact hQ h7 (by rw [hr6]; show mr_R h7 sc b n fr k0 (rd_at b n lvl L e6 c6); rw [at_i hle6.1 hm6]; exact H7) mf7) | (have _g := H8; exact hQ h8 (by rw [← at_00 (fun e c q => (H.le e c q).1) hno23 hnm0 hno35 hno8]; exact H8) mf8.wk))
                · exact absurd c114 (by omega)
            · exact absurd c72 (by omega)
        · obtain ⟨nm1, nm2, nm3, nm4⟩ := nm_yes hle.1 hk8 c40
          have hel := rd_en_lt hle.1 (show rd_kd b n ee ≠ 0 by (have h9 : rd_kd b n ee = 1 := mrK_1w hk8 nm3; omega))
          refine az_aload_n dX12_readAtom_43 ?_
          refine az_sipush (v := nI 1000) dX12_readAtom_44 ?_
          refine az_aload_n dX12_readAtom_47 ?_
          refine az_aload_n dX12_readAtom_48 ?_
          refine az_getf (v := .int (nI k8)) dX12_readAtom_49 fl_X12_135 x8 ?_
          refine az_cV0 (st := [.int (nI 1000), .ref 64]) dX12_readAtom_52 ml_X12_176 x8 (m_wordOf (d := d - 1) (k := k8) (mrK_lt hk8) ?_)
          refine az_iadd dX12_readAtom_55 ?_
          rw [nm1]
          refine az_cV0 (st := []) dX12_readAtom_56 ml_X12_173 x8 (m_codesW (d := d - 1) (c := cc) (k0 := k0) (fr := fr) (n := n) (sc := sc) (by omega) x8 H9.2.2.2.2 ?_)
          intro h2 hC2 mf2
          have hl2 : (cc ++ [rd_nm b n ee]).length = cc.length + 1 := (by rw [List.length_append]; rfl)
          refine az_aload_n dX12_readAtom_59 ?_
          refine az_cV0 (st := []) dX12_readAtom_60 ml_X12_162 (mf2.at x8) (m_nextR (d := d - 1) (e := ee) (c := cc) (c' := cc ++ [rd_nm b n ee]) (sc := sc) (b := b) (n := n) (fr := fr) (k0 := k0) (by omega) (H.1.fr mf2) hle.1 (by omega) ⟨k8, nu8, wa8, hk8, hnu8, mf2.at x8⟩ hC2 ?_)
          intro h3 H3 mf3
          refine az_goto (tgt := 130) dX12_readAtom_63 ?_
          exact az_vret dX12_readAtom_130 (by first | (have _g := hm23; exact hQ h3 (by rw [hr]; show mr_R h3 sc b n fr k0 (rd_at b n lvl L ee cc); rw [at_n hkd2]; exact H3) ((mf2.wk (L' := [64, 68])).tr mf3 (by decide))) | (have _g := nm1; exact hQ h3 (by rw [hr]; show mr_R h3 sc b n fr k0 (rd_at b n lvl L ee cc); rw [at_w hle.1 hk8 nm3 nm4 nm2]; exact H3) ((mf2.wk (L' := [64, 68])).tr mf3 (by decide))) | (have _g := q3; exact hQ h3 (by rw [hr5]; show mr_R h3 sc b n fr k0 (rd_at b n lvl L e5 c5); rw [at_p hm5, gd_1 hl]; subst q3 q2; exact H3) (((mf1.wk (L' := [64, 68])).tr mf2 (by decide)).tr mf3 (by decide))) | (have _g := H7; exact hQ h7 (by rw [hr6]; show mr_R h7 sc b n fr k0 (rd_at b n lvl L e6 c6); rw [at_i hle6.1 hm6]; exact H7) mf7) | (have _g := H8; exact hQ h8 (by rw [← at_00 (fun e c q => (H.le e c q).1) hno23 hnm0 hno35 hno8]; exact H8) mf8.wk))
    · exact absurd c6 (by omega)

