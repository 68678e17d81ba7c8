/-! The model: feed -/
def fbx (xa xb xc xd xe : Int32) (k : Nat) : Int32 := if k < 4 then xa else if k < 8 then xb else if k < 12 then xc else if k < 16 then xd else xe
theorem nI_rem9 {a b : Nat} (ha : a < 2 ^ 31) (hb : b < 2 ^ 31) : nI a - nI a / nI b * nI b = nI (a % b) := by
  apply Int32.toInt_inj.mp
  have h1 : a % b ≤ a := Nat.mod_le _ _
  rw [rem_toInt, nI_toI ha, nI_toI hb, nI_toI (by omega), Int.tmod_eq_emod_of_nonneg (by omega)]
  exact (Int.natCast_emod a b).symm
theorem tput5 {bt : Nat → Nat} {tp : Nat} {xa xb xc xd xe : Int32} {q : Nat} (hq : q < tp + 20) : (tput (tput (tput (tput (tput bt (tp) xa 4) (tp + 4) xb 4) (tp + 4 + 4) xc 4) (tp + 4 + 4 + 4) xd 4) (tp + 4 + 4 + 4 + 4) xe 4) q = if q < tp then bt q else tb (fbx xa xb xc xd xe (q - tp)) ((q - tp) % 4) := by
  simp only [tput]
  by_cases h : q < tp
  · rw [if_neg (by omega), if_neg (by omega), if_neg (by omega), if_neg (by omega), if_neg (by omega), if_pos h]
  · rw [if_neg h, fbx]
    by_cases h4 : q < tp + 4
    · rw [if_neg (by omega), if_neg (by omega), if_neg (by omega), if_neg (by omega), if_pos (by omega), if_pos (by omega), show (q - tp) % 4 = q - tp by omega]
    · by_cases h8 : q < tp + 8
      · rw [if_neg (by omega), if_neg (by omega), if_neg (by omega), if_pos (by omega), if_neg (by omega), if_pos (by omega), show (q - tp) % 4 = q - (tp + 4) by omega]
      · by_cases h12 : q < tp + 12
        · rw [if_neg (by omega), if_neg (by omega), if_pos (by omega), if_neg (by omega), if_neg (by omega), if_pos (by omega), show (q - tp) % 4 = q - (tp + 4 + 4) by omega]
        · by_cases h16 : q < tp + 16
          · rw [if_neg (by omega), if_pos (by omega), if_neg (by omega), if_neg (by omega), if_neg (by omega), if_pos (by omega), show (q - tp) % 4 = q - (tp + 4 + 4 + 4) by omega]
          · rw [if_pos (by omega), if_neg (by omega), if_neg (by omega), if_neg (by omega), if_neg (by omega), show (q - tp) % 4 = q - (tp + 4 + 4 + 4 + 4) by omega]
set_option maxHeartbeats 4000000 in
set_option maxRecDepth 100000 in
theorem m_feedW {d tp : Nat} {xa xb xc xd xe : Int32} {bt tf : Nat → Nat} {sc : Nat → Value} {hp : az_Hp} {Q : Option Value → az_Hp → Prop} (htp : tp + 20 ≤ 900) (h64 : hp.2 64 = some (mo_o sc)) (h5 : sc 5 = .int (nI tp)) (h67 : hp.2 67 = some (az_I 900 (fun j => nI (tf j)))) (h9 : ∀ j, j < tp → tf j = bt j) (hQ : ∀ (h' : az_Hp) (sc' : Nat → Value) (tf' : Nat → Nat), h'.2 64 = some (mo_o sc') → sc' 5 = .int (nI (tp + 20)) → (∀ j, j ≠ 5 → sc' j = sc j) → h'.2 67 = some (az_I 900 (fun j => nI (tf' j))) → (∀ q, q < tp + 20 → tf' q = if q < tp then bt q else tb (fbx xa xb xc xd xe (q - tp)) ((q - tp) % 4)) → mf hp h' [64, 67] → (mk hp → mk h') → Q (some (.int (nI (tp + 20)))) h') : az_W mX12_feed d 0 0 21 [(0, .ref 64), (1, .int xa), (2, .int xb), (3, .int xc), (4, .int xd), (5, .int xe)] [] hp Q := by
  have loop : ∀ (k : Nat) (k9 : Nat) (h' : az_Hp) (sc1 : Nat → Value) (tf1 : Nat → Nat), 20 - k9 = k → (k9 ≤ 20) → (h'.2 64 = some (mo_o sc1)) → (sc1 5 = .int (nI (tp + k9))) → (∀ j, j ≠ 5 → sc1 j = sc j) → (h'.2 67 = some (az_I 900 (fun j => nI (tf1 j)))) → (∀ q, q < tp + k9 → tf1 q = if q < tp then bt q else tb (fbx xa xb xc xd xe (q - tp)) ((q - tp) % 4)) → (mf hp h' [64, 67]) → (mk hp → mk h') → az_W mX12_feed d 0 0 24 [(0, .ref 64), (1, .int xa), (2, .int xb), (3, .int xc), (4, .int xd), (5, .int xe), (6, .int (nI k9))] [] h' Q := by
    intro k
    induction k using Nat.strongRecOn with
    | _ k ih =>
    intro k9 h' sc1 tf1 hk hk9 b64 b5 hs1 b67 hF mf1 mk1'
    have b64' : h'.2 64 = some (az_O 11 [sc1 0, .ref 65, .ref 66, .ref 67, .ref 68, .int (nI (tp + k9)), fI (sc1 6), sc1 7, sc1 8, fI (sc1 9), fI (sc1 10), sc1 11, fI (sc1 12), sc1 13, sc1 14, .ref 69, .ref 70, .ref 71, sc1 18, .ref 72, .ref 73, .ref 74, sc1 22, sc1 23, .ref 75, sc1 25, .ref 76, .ref 77, .ref 78, sc1 29, .ref 79, .ref 80, .ref 81, .ref 82, .ref 83, .ref 84, .ref 85, sc1 37, .ref 86, .ref 87, .ref 88, .ref 89, .ref 90, .ref 91, .ref 92]) := (by rw [← b5]; exact b64)
    refine az_iload dX12_feed_24 ?_
    refine az_bipush (v := nI 20) dX12_feed_26 ?_
    refine az_icmp_geN (tgt := 121) dX12_feed_28 (fun c28 => ?_) (fun c28 => ?_)
    · refine az_aload_n dX12_feed_121 ?_
      refine az_getf (v := .int (nI (tp + k9))) dX12_feed_122 fl_X12_107 b64' ?_
      exact az_iret dX12_feed_125 (by obtain rfl : k9 = 20 := (by omega); exact hQ h' sc1 tf1 b64 b5 hs1 b67 hF mf1 mk1')
    · refine az_iload dX12_feed_31 ?_
      refine az_iconst (v := nI 4) dX12_feed_33 ?_
      refine az_icmp_geN (tgt := 41) dX12_feed_34 (fun c34 => ?_) (fun c34 => ?_)
      · refine az_iload dX12_feed_41 ?_
        refine az_bipush (v := nI 8) dX12_feed_43 ?_
        refine az_icmp_geN (tgt := 52) dX12_feed_45 (fun c45 => ?_) (fun c45 => ?_)
        · refine az_iload dX12_feed_52 ?_
          refine az_bipush (v := nI 12) dX12_feed_54 ?_
          refine az_icmp_geN (tgt := 63) dX12_feed_56 (fun c56 => ?_) (fun c56 => ?_)
          · refine az_iload dX12_feed_63 ?_
            refine az_bipush (v := nI 16) dX12_feed_65 ?_
            refine az_icmp_geN (tgt := 75) dX12_feed_67 (fun c67 => ?_) (fun c67 => ?_)
            · refine az_iload dX12_feed_75 ?_
              refine az_istore (ls' := [(0, .ref 64), (1, .int xa), (2, .int xb), (3, .int xc), (4, .int xd), (5, .int xe), (6, .int (nI k9)), (7, .int xe)]) dX12_feed_77 ?_
              refine az_aload_n dX12_feed_79 ?_
              refine az_getf (v := .ref 67) dX12_feed_80 fl_X12_21 b64' ?_
              refine az_aload_n dX12_feed_83 ?_
              refine az_getf (v := .int (nI (tp + k9))) dX12_feed_84 fl_X12_107 b64' ?_
              refine az_iload dX12_feed_87 ?_
              refine az_bipush (v := nI 24) dX12_feed_89 ?_
              refine az_bipush (v := nI 8) dX12_feed_91 ?_
              refine az_iload dX12_feed_93 ?_
              refine az_iconst (v := nI 4) dX12_feed_95 ?_
              refine az_irem dX12_feed_96 (by decide) ?_
              rw [nI_rem9 (by omega) (by decide)]
              refine az_imulN dX12_feed_97 ?_
              refine az_isubN dX12_feed_98 (by omega) ?_
              refine az_ishr dX12_feed_99 ?_
              refine az_sipush (v := nI 255) dX12_feed_100 ?_
              refine az_iand dX12_feed_103 ?_
              first | rw [show (xa >>> (nI (24 - 8 * (k9 % 4)) &&& 31)) &&& nI 255 = nI (tb (fbx xa xb xc xd xe k9) (k9 % 4)) from (by rw [tb_mod0 _ (by omega), fbx, if_pos (by omega)]; rfl)] | rw [show (xb >>> (nI (24 - 8 * (k9 % 4)) &&& 31)) &&& nI 255 = nI (tb (fbx xa xb xc xd xe k9) (k9 % 4)) from (by rw [tb_mod0 _ (by omega), fbx, if_neg (by omega), if_pos (by omega)]; rfl)] | rw [show (xc >>> (nI (24 - 8 * (k9 % 4)) &&& 31)) &&& nI 255 = nI (tb (fbx xa xb xc xd xe k9) (k9 % 4)) from (by rw [tb_mod0 _ (by omega), fbx, if_neg (by omega), if_neg (by omega), if_pos (by omega)]; rfl)] | rw [show (xd >>> (nI (24 - 8 * (k9 % 4)) &&& 31)) &&& nI 255 = nI (tb (fbx xa xb xc xd xe k9) (k9 % 4)) from (by rw [tb_mod0 _ (by omega), fbx, if_neg (by omega), if_neg (by omega), if_neg (by omega), if_pos (by omega)]; rfl)] | rw [show (xe >>> (nI (24 - 8 * (k9 % 4)) &&& 31)) &&& nI 255 = nI (tb (fbx xa xb xc xd xe k9) (k9 % 4)) from (by rw [tb_mod0 _ (by omega), fbx, if_neg (by omega), if_neg (by omega), if_neg (by omega), if_neg (by omega)]; rfl)]
              refine az_iastN (j := tp + k9) dX12_feed_104 b67 ?_
              rw [az_s_nI]
              refine az_aload_n dX12_feed_105 ?_
              refine az_dup dX12_feed_106 ?_
              refine az_getf (v := .int (nI (tp + k9))) dX12_feed_107 fl_X12_107 (az_up_ne b64') ?_
              refine az_iconst (v := nI 1) dX12_feed_110 ?_
              refine az_iaddN dX12_feed_111 ?_
              refine az_putf (fs' := [sc1 0, .ref 65, .ref 66, .ref 67, .ref 68, .int (nI ((tp + k9) + 1)), fI (sc1 6), sc1 7, sc1 8, fI (sc1 9), fI (sc1 10), sc1 11, fI (sc1 12), sc1 13, sc1 14, .ref 69, .ref 70, .ref 71, sc1 18, .ref 72, .ref 73, .ref 74, sc1 22, sc1 23, .ref 75, sc1 25, .ref 76, .ref 77, .ref 78, sc1 29, .ref 79, .ref 80, .ref 81, .ref 82, .ref 83, .ref 84, .ref 85, sc1 37, .ref 86, .ref 87, .ref 88, .ref 89, .ref 90, .ref 91, .ref 92]) dX12_feed_112 fl_X12_107 (az_up_ne b64') ?_
              refine az_iincN (n := 1) (ls' := [(0, .ref 64), (1, .int xa), (2, .int xb), (3, .int xc), (4, .int xd), (5, .int xe), (6, .int (nI (k9 + 1))), (7, .int xe)]) dX12_feed_115 ?_
              refine az_goto (tgt := 24) dX12_feed_118 ?_
              refine az_W.keep (ls' := [(0, .ref 64), (1, .int xa), (2, .int xb), (3, .int xc), (4, .int xd), (5, .int xe), (6, .int (nI (k9 + 1)))]) [0, 1, 2, 3, 4, 5, 6] rfl ?_
              exact ih _ (by omega) (k9 + 1) _ (su sc1 5 (.int (nI (tp + k9 + 1)))) (az_s tf1 (tp + k9) (tb (fbx xa xb xc xd xe k9) (k9 % 4))) rfl (by omega) az_up_eq rfl (fun j hj => by simp only [su, if_neg hj]; exact hs1 j hj) (az_up_ne az_up_eq) (fun q hq => (by by_cases e : q = tp + k9; rw [e, az_s_eq, if_neg (by omega), show tp + k9 - tp = k9 by omega]; rw [az_s_ne e]; exact hF q (by omega))) ((mf1.up (by decide)).up (by decide)) (fun q9 => mk.uO ((mk1' q9).up (Or.inl (by decide))))
            · refine az_iload dX12_feed_70 ?_
              refine az_goto (tgt := 77) dX12_feed_72 ?_
              refine az_istore (ls' := [(0, .ref 64), (1, .int xa), (2, .int xb), (3, .int xc), (4, .int xd), (5, .int xe), (6, .int (nI k9)), (7, .int xd)]) dX12_feed_77 ?_
              refine az_aload_n dX12_feed_79 ?_
              refine az_getf (v := .ref 67) dX12_feed_80 fl_X12_21 b64' ?_
              refine az_aload_n dX12_feed_83 ?_
              refine az_getf (v := .int (nI (tp + k9))) dX12_feed_84 fl_X12_107 b64' ?_
              refine az_iload dX12_feed_87 ?_
              refine az_bipush (v := nI 24) dX12_feed_89 ?_
              refine az_bipush (v := nI 8) dX12_feed_91 ?_
              refine az_iload dX12_feed_93 ?_
              refine az_iconst (v := nI 4) dX12_feed_95 ?_
              refine az_irem dX12_feed_96 (by decide) ?_
              rw [nI_rem9 (by omega) (by decide)]
              refine az_imulN dX12_feed_97 ?_
              refine az_isubN dX12_feed_98 (by omega) ?_
              refine az_ishr dX12_feed_99 ?_
              refine az_sipush (v := nI 255) dX12_feed_100 ?_
              refine az_iand dX12_feed_103 ?_
              first | rw [show (xa >>> (nI (24 - 8 * (k9 % 4)) &&& 31)) &&& nI 255 = nI (tb (fbx xa xb xc xd xe k9) (k9 % 4)) from (by rw [tb_mod0 _ (by omega), fbx, if_pos (by omega)]; rfl)] | rw [show (xb >>> (nI (24 - 8 * (k9 % 4)) &&& 31)) &&& nI 255 = nI (tb (fbx xa xb xc xd xe k9) (k9 % 4)) from (by rw [tb_mod0 _ (by omega), fbx, if_neg (by omega), if_pos (by omega)]; rfl)] | rw [show (xc >>> (nI (24 - 8 * (k9 % 4)) &&& 31)) &&& nI 255 = nI (tb (fbx xa xb xc xd xe k9) (k9 % 4)) from (by rw [tb_mod0 _ (by omega), fbx, if_neg (by omega), if_neg (by omega), if_pos (by omega)]; rfl)] | rw [show (xd >>> (nI (24 - 8 * (k9 % 4)) &&& 31)) &&& nI 255 = nI (tb (fbx xa xb xc xd xe k9) (k9 % 4)) from (by rw [tb_mod0 _ (by omega), fbx, if_neg (by omega), if_neg (by omega), if_neg (by omega), if_pos (by omega)]; rfl)] | rw [show (xe >>> (nI (24 - 8 * (k9 % 4)) &&& 31)) &&& nI 255 = nI (tb (fbx xa xb xc xd xe k9) (k9 % 4)) from (by rw [tb_mod0 _ (by omega), fbx, if_neg (by omega), if_neg (by omega), if_neg (by omega), if_neg (by omega)]; rfl)]
              refine az_iastN (j := tp + k9) dX12_feed_104 b67 ?_
              rw [az_s_nI]
              refine az_aload_n dX12_feed_105 ?_
              refine az_dup dX12_feed_106 ?_
              refine az_getf (v := .int (nI (tp + k9))) dX12_feed_107 fl_X12_107 (az_up_ne b64') ?_
              refine az_iconst (v := nI 1) dX12_feed_110 ?_
              refine az_iaddN dX12_feed_111 ?_
              refine az_putf (fs' := [sc1 0, .ref 65, .ref 66, .ref 67, .ref 68, .int (nI ((tp + k9) + 1)), fI (sc1 6), sc1 7, sc1 8, fI (sc1 9), fI (sc1 10), sc1 11, fI (sc1 12), sc1 13, sc1 14, .ref 69, .ref 70, .ref 71, sc1 18, .ref 72, .ref 73, .ref 74, sc1 22, sc1 23, .ref 75, sc1 25, .ref 76, .ref 77, .ref 78, sc1 29, .ref 79, .ref 80, .ref 81, .ref 82, .ref 83, .ref 84, .ref 85, sc1 37, .ref 86, .ref 87, .ref 88, .ref 89, .ref 90, .ref 91, .ref 92]) dX12_feed_112 fl_X12_107 (az_up_ne b64') ?_
              refine az_iincN (n := 1) (ls' := [(0, .ref 64), (1, .int xa), (2, .int xb), (3, .int xc), (4, .int xd), (5, .int xe), (6, .int (nI (k9 + 1))), (7, .int xd)]) dX12_feed_115 ?_
              refine az_goto (tgt := 24) dX12_feed_118 ?_
              refine az_W.keep (ls' := [(0, .ref 64), (1, .int xa), (2, .int xb), (3, .int xc), (4, .int xd), (5, .int xe), (6, .int (nI (k9 + 1)))]) [0, 1, 2, 3, 4, 5, 6] rfl ?_
              exact ih _ (by omega) (k9 + 1) _ (su sc1 5 (.int (nI (tp + k9 + 1)))) (az_s tf1 (tp + k9) (tb (fbx xa xb xc xd xe k9) (k9 % 4))) rfl (by omega) az_up_eq rfl (fun j hj => by simp only [su, if_neg hj]; exact hs1 j hj) (az_up_ne az_up_eq) (fun q hq => (by by_cases e : q = tp + k9; rw [e, az_s_eq, if_neg (by omega), show tp + k9 - tp = k9 by omega]; rw [az_s_ne e]; exact hF q (by omega))) ((mf1.up (by decide)).up (by decide)) (fun q9 => mk.uO ((mk1' q9).up (Or.inl (by decide))))
          · refine az_iload_n dX12_feed_59 ?_
            refine az_goto (tgt := 77) dX12_feed_60 ?_
            refine az_istore (ls' := [(0, .ref 64), (1, .int xa), (2, .int xb), (3, .int xc), (4, .int xd), (5, .int xe), (6, .int (nI k9)), (7, .int xc)]) dX12_feed_77 ?_
            refine az_aload_n dX12_feed_79 ?_
            refine az_getf (v := .ref 67) dX12_feed_80 fl_X12_21 b64' ?_
            refine az_aload_n dX12_feed_83 ?_
            refine az_getf (v := .int (nI (tp + k9))) dX12_feed_84 fl_X12_107 b64' ?_
            refine az_iload dX12_feed_87 ?_
            refine az_bipush (v := nI 24) dX12_feed_89 ?_
            refine az_bipush (v := nI 8) dX12_feed_91 ?_
            refine az_iload dX12_feed_93 ?_
            refine az_iconst (v := nI 4) dX12_feed_95 ?_
            refine az_irem dX12_feed_96 (by decide) ?_
            rw [nI_rem9 (by omega) (by decide)]
            refine az_imulN dX12_feed_97 ?_
            refine az_isubN dX12_feed_98 (by omega) ?_
            refine az_ishr dX12_feed_99 ?_
            refine az_sipush (v := nI 255) dX12_feed_100 ?_
            refine az_iand dX12_feed_103 ?_
            first | rw [show (xa >>> (nI (24 - 8 * (k9 % 4)) &&& 31)) &&& nI 255 = nI (tb (fbx xa xb xc xd xe k9) (k9 % 4)) from (by rw [tb_mod0 _ (by omega), fbx, if_pos (by omega)]; rfl)] | rw [show (xb >>> (nI (24 - 8 * (k9 % 4)) &&& 31)) &&& nI 255 = nI (tb (fbx xa xb xc xd xe k9) (k9 % 4)) from (by rw [tb_mod0 _ (by omega), fbx, if_neg (by omega), if_pos (by omega)]; rfl)] | rw [show (xc >>> (nI (24 - 8 * (k9 % 4)) &&& 31)) &&& nI 255 = nI (tb (fbx xa xb xc xd xe k9) (k9 % 4)) from (by rw [tb_mod0 _ (by omega), fbx, if_neg (by omega), if_neg (by omega), if_pos (by omega)]; rfl)] | rw [show (xd >>> (nI (24 - 8 * (k9 % 4)) &&& 31)) &&& nI 255 = nI (tb (fbx xa xb xc xd xe k9) (k9 % 4)) from (by rw [tb_mod0 _ (by omega), fbx, if_neg (by omega), if_neg (by omega), if_neg (by omega), if_pos (by omega)]; rfl)] | rw [show (xe >>> (nI (24 - 8 * (k9 % 4)) &&& 31)) &&& nI 255 = nI (tb (fbx xa xb xc xd xe k9) (k9 % 4)) from (by rw [tb_mod0 _ (by omega), fbx, if_neg (by omega), if_neg (by omega), if_neg (by omega), if_neg (by omega)]; rfl)]
            refine az_iastN (j := tp + k9) dX12_feed_104 b67 ?_
            rw [az_s_nI]
            refine az_aload_n dX12_feed_105 ?_
            refine az_dup dX12_feed_106 ?_
            refine az_getf (v := .int (nI (tp + k9))) dX12_feed_107 fl_X12_107 (az_up_ne b64') ?_
            refine az_iconst (v := nI 1) dX12_feed_110 ?_
            refine az_iaddN dX12_feed_111 ?_
            refine az_putf (fs' := [sc1 0, .ref 65, .ref 66, .ref 67, .ref 68, .int (nI ((tp + k9) + 1)), fI (sc1 6), sc1 7, sc1 8, fI (sc1 9), fI (sc1 10), sc1 11, fI (sc1 12), sc1 13, sc1 14, .ref 69, .ref 70, .ref 71, sc1 18, .ref 72, .ref 73, .ref 74, sc1 22, sc1 23, .ref 75, sc1 25, .ref 76, .ref 77, .ref 78, sc1 29, .ref 79, .ref 80, .ref 81, .ref 82, .ref 83, .ref 84, .ref 85, sc1 37, .ref 86, .ref 87, .ref 88, .ref 89, .ref 90, .ref 91, .ref 92]) dX12_feed_112 fl_X12_107 (az_up_ne b64') ?_
            refine az_iincN (n := 1) (ls' := [(0, .ref 64), (1, .int xa), (2, .int xb), (3, .int xc), (4, .int xd), (5, .int xe), (6, .int (nI (k9 + 1))), (7, .int xc)]) dX12_feed_115 ?_
            refine az_goto (tgt := 24) dX12_feed_118 ?_
            refine az_W.keep (ls' := [(0, .ref 64), (1, .int xa), (2, .int xb), (3, .int xc), (4, .int xd), (5, .int xe), (6, .int (nI (k9 + 1)))]) [0, 1, 2, 3, 4, 5, 6] rfl ?_
            exact ih _ (by omega) (k9 + 1) _ (su sc1 5 (.int (nI (tp + k9 + 1)))) (az_s tf1 (tp + k9) (tb (fbx xa xb xc xd xe k9) (k9 % 4))) rfl (by omega) az_up_eq rfl (fun j hj => by simp only [su, if_neg hj]; exact hs1 j hj) (az_up_ne az_up_eq) (fun q hq => (by by_cases e : q = tp + k9; rw [e, az_s_eq, if_neg (by omega), show tp + k9 - tp = k9 by omega]; rw [az_s_ne e]; exact hF q (by omega))) ((mf1.up (by decide)).up (by decide)) (fun q9 => mk.uO ((mk1' q9).up (Or.inl (by decide))))
        · refine az_iload_n dX12_feed_48 ?_
          refine az_goto (tgt := 77) dX12_feed_49 ?_
          refine az_istore (ls' := [(0, .ref 64), (1, .int xa), (2, .int xb), (3, .int xc), (4, .int xd), (5, .int xe), (6, .int (nI k9)), (7, .int xb)]) dX12_feed_77 ?_
          refine az_aload_n dX12_feed_79 ?_
          refine az_getf (v := .ref 67) dX12_feed_80 fl_X12_21 b64' ?_
          refine az_aload_n dX12_feed_83 ?_
          refine az_getf (v := .int (nI (tp + k9))) dX12_feed_84 fl_X12_107 b64' ?_
          refine az_iload dX12_feed_87 ?_
          refine az_bipush (v := nI 24) dX12_feed_89 ?_
          refine az_bipush (v := nI 8) dX12_feed_91 ?_
          refine az_iload dX12_feed_93 ?_
          refine az_iconst (v := nI 4) dX12_feed_95 ?_
          refine az_irem dX12_feed_96 (by decide) ?_
          rw [nI_rem9 (by omega) (by decide)]
          refine az_imulN dX12_feed_97 ?_
          refine az_isubN dX12_feed_98 (by omega) ?_
          refine az_ishr dX12_feed_99 ?_
          refine az_sipush (v := nI 255) dX12_feed_100 ?_
          refine az_iand dX12_feed_103 ?_
          first | rw [show (xa >>> (nI (24 - 8 * (k9 % 4)) &&& 31)) &&& nI 255 = nI (tb (fbx xa xb xc xd xe k9) (k9 % 4)) from (by rw [tb_mod0 _ (by omega), fbx, if_pos (by omega)]; rfl)] | rw [show (xb >>> (nI (24 - 8 * (k9 % 4)) &&& 31)) &&& nI 255 = nI (tb (fbx xa xb xc xd xe k9) (k9 % 4)) from (by rw [tb_mod0 _ (by omega), fbx, if_neg (by omega), if_pos (by omega)]; rfl)] | rw [show (xc >>> (nI (24 - 8 * (k9 % 4)) &&& 31)) &&& nI 255 = nI (tb (fbx xa xb xc xd xe k9) (k9 % 4)) from (by rw [tb_mod0 _ (by omega), fbx, if_neg (by omega), if_neg (by omega), if_pos (by omega)]; rfl)] | rw [show (xd >>> (nI (24 - 8 * (k9 % 4)) &&& 31)) &&& nI 255 = nI (tb (fbx xa xb xc xd xe k9) (k9 % 4)) from (by rw [tb_mod0 _ (by omega), fbx, if_neg (by omega), if_neg (by omega), if_neg (by omega), if_pos (by omega)]; rfl)] | rw [show (xe >>> (nI (24 - 8 * (k9 % 4)) &&& 31)) &&& nI 255 = nI (tb (fbx xa xb xc xd xe k9) (k9 % 4)) from (by rw [tb_mod0 _ (by omega), fbx, if_neg (by omega), if_neg (by omega), if_neg (by omega), if_neg (by omega)]; rfl)]
          refine az_iastN (j := tp + k9) dX12_feed_104 b67 ?_
          rw [az_s_nI]
          refine az_aload_n dX12_feed_105 ?_
          refine az_dup dX12_feed_106 ?_
          refine az_getf (v := .int (nI (tp + k9))) dX12_feed_107 fl_X12_107 (az_up_ne b64') ?_
          refine az_iconst (v := nI 1) dX12_feed_110 ?_
          refine az_iaddN dX12_feed_111 ?_
          refine az_putf (fs' := [sc1 0, .ref 65, .ref 66, .ref 67, .ref 68, .int (nI ((tp + k9) + 1)), fI (sc1 6), sc1 7, sc1 8, fI (sc1 9), fI (sc1 10), sc1 11, fI (sc1 12), sc1 13, sc1 14, .ref 69, .ref 70, .ref 71, sc1 18, .ref 72, .ref 73, .ref 74, sc1 22, sc1 23, .ref 75, sc1 25, .ref 76, .ref 77, .ref 78, sc1 29, .ref 79, .ref 80, .ref 81, .ref 82, .ref 83, .ref 84, .ref 85, sc1 37, .ref 86, .ref 87, .ref 88, .ref 89, .ref 90, .ref 91, .ref 92]) dX12_feed_112 fl_X12_107 (az_up_ne b64') ?_
          refine az_iincN (n := 1) (ls' := [(0, .ref 64), (1, .int xa), (2, .int xb), (3, .int xc), (4, .int xd), (5, .int xe), (6, .int (nI (k9 + 1))), (7, .int xb)]) dX12_feed_115 ?_
          refine az_goto (tgt := 24) dX12_feed_118 ?_
          refine az_W.keep (ls' := [(0, .ref 64), (1, .int xa), (2, .int xb), (3, .int xc), (4, .int xd), (5, .int xe), (6, .int (nI (k9 + 1)))]) [0, 1, 2, 3, 4, 5, 6] rfl ?_
          exact ih _ (by omega) (k9 + 1) _ (su sc1 5 (.int (nI (tp + k9 + 1)))) (az_s tf1 (tp + k9) (tb (fbx xa xb xc xd xe k9) (k9 % 4))) rfl (by omega) az_up_eq rfl (fun j hj => by simp only [su, if_neg hj]; exact hs1 j hj) (az_up_ne az_up_eq) (fun q hq => (by by_cases e : q = tp + k9; rw [e, az_s_eq, if_neg (by omega), show tp + k9 - tp = k9 by omega]; rw [az_s_ne e]; exact hF q (by omega))) ((mf1.up (by decide)).up (by decide)) (fun q9 => mk.uO ((mk1' q9).up (Or.inl (by decide))))
      · refine az_iload_n dX12_feed_37 ?_
        refine az_goto (tgt := 77) dX12_feed_38 ?_
        refine az_istore (ls' := [(0, .ref 64), (1, .int xa), (2, .int xb), (3, .int xc), (4, .int xd), (5, .int xe), (6, .int (nI k9)), (7, .int xa)]) dX12_feed_77 ?_
        refine az_aload_n dX12_feed_79 ?_
        refine az_getf (v := .ref 67) dX12_feed_80 fl_X12_21 b64' ?_
        refine az_aload_n dX12_feed_83 ?_
        refine az_getf (v := .int (nI (tp + k9))) dX12_feed_84 fl_X12_107 b64' ?_
        refine az_iload dX12_feed_87 ?_
        refine az_bipush (v := nI 24) dX12_feed_89 ?_
        refine az_bipush (v := nI 8) dX12_feed_91 ?_
        refine az_iload dX12_feed_93 ?_
        refine az_iconst (v := nI 4) dX12_feed_95 ?_
        refine az_irem dX12_feed_96 (by decide) ?_
        rw [nI_rem9 (by omega) (by decide)]
        refine az_imulN dX12_feed_97 ?_
        refine az_isubN dX12_feed_98 (by omega) ?_
        refine az_ishr dX12_feed_99 ?_
        refine az_sipush (v := nI 255) dX12_feed_100 ?_
        refine az_iand dX12_feed_103 ?_
        first | rw [show (xa >>> (nI (24 - 8 * (k9 % 4)) &&& 31)) &&& nI 255 = nI (tb (fbx xa xb xc xd xe k9) (k9 % 4)) from (by rw [tb_mod0 _ (by omega), fbx, if_pos (by omega)]; rfl)] | rw [show (xb >>> (nI (24 - 8 * (k9 % 4)) &&& 31)) &&& nI 255 = nI (tb (fbx xa xb xc xd xe k9) (k9 % 4)) from (by rw [tb_mod0 _ (by omega), fbx, if_neg (by omega), if_pos (by omega)]; rfl)] | rw [show (xc >>> (nI (24 - 8 * (k9 % 4)) &&& 31)) &&& nI 255 = nI (tb (fbx xa xb xc xd xe k9) (k9 % 4)) from (by rw [tb_mod0 _ (by omega), fbx, if_neg (by omega), if_neg (by omega), if_pos (by omega)]; rfl)] | rw [show (xd >>> (nI (24 - 8 * (k9 % 4)) &&& 31)) &&& nI 255 = nI (tb (fbx xa xb xc xd xe k9) (k9 % 4)) from (by rw [tb_mod0 _ (by omega), fbx, if_neg (by omega), if_neg (by omega), if_neg (by omega), if_pos (by omega)]; rfl)] | rw [show (xe >>> (nI (24 - 8 * (k9 % 4)) &&& 31)) &&& nI 255 = nI (tb (fbx xa xb xc xd xe k9) (k9 % 4)) from (by rw [tb_mod0 _ (by omega), fbx, if_neg (by omega), if_neg (by omega), if_neg (by omega), if_neg (by omega)]; rfl)]
        refine az_iastN (j := tp + k9) dX12_feed_104 b67 ?_
        rw [az_s_nI]
        refine az_aload_n dX12_feed_105 ?_
        refine az_dup dX12_feed_106 ?_
        refine az_getf (v := .int (nI (tp + k9))) dX12_feed_107 fl_X12_107 (az_up_ne b64') ?_
        refine az_iconst (v := nI 1) dX12_feed_110 ?_
        refine az_iaddN dX12_feed_111 ?_
        refine az_putf (fs' := [sc1 0, .ref 65, .ref 66, .ref 67, .ref 68, .int (nI ((tp + k9) + 1)), fI (sc1 6), sc1 7, sc1 8, fI (sc1 9), fI (sc1 10), sc1 11, fI (sc1 12), sc1 13, sc1 14, .ref 69, .ref 70, .ref 71, sc1 18, .ref 72, .ref 73, .ref 74, sc1 22, sc1 23, .ref 75, sc1 25, .ref 76, .ref 77, .ref 78, sc1 29, .ref 79, .ref 80, .ref 81, .ref 82, .ref 83, .ref 84, .ref 85, sc1 37, .ref 86, .ref 87, .ref 88, .ref 89, .ref 90, .ref 91, .ref 92]) dX12_feed_112 fl_X12_107 (az_up_ne b64') ?_
        refine az_iincN (n := 1) (ls' := [(0, .ref 64), (1, .int xa), (2, .int xb), (3, .int xc), (4, .int xd), (5, .int xe), (6, .int (nI (k9 + 1))), (7, .int xa)]) dX12_feed_115 ?_
        refine az_goto (tgt := 24) dX12_feed_118 ?_
        refine az_W.keep (ls' := [(0, .ref 64), (1, .int xa), (2, .int xb), (3, .int xc), (4, .int xd), (5, .int xe), (6, .int (nI (k9 + 1)))]) [0, 1, 2, 3, 4, 5, 6] rfl ?_
        exact ih _ (by omega) (k9 + 1) _ (su sc1 5 (.int (nI (tp + k9 + 1)))) (az_s tf1 (tp + k9) (tb (fbx xa xb xc xd xe k9) (k9 % 4))) rfl (by omega) az_up_eq rfl (fun j hj => by simp only [su, if_neg hj]; exact hs1 j hj) (az_up_ne az_up_eq) (fun q hq => (by by_cases e : q = tp + k9; rw [e, az_s_eq, if_neg (by omega), show tp + k9 - tp = k9 by omega]; rw [az_s_ne e]; exact hF q (by omega))) ((mf1.up (by decide)).up (by decide)) (fun q9 => mk.uO ((mk1' q9).up (Or.inl (by decide))))
  refine az_iconst (v := nI 0) dX12_feed_21 ?_
  refine az_istore (ls' := [(0, .ref 64), (1, .int xa), (2, .int xb), (3, .int xc), (4, .int xd), (5, .int xe), (6, .int (nI 0))]) dX12_feed_22 ?_
  exact loop _ 0 hp sc tf rfl (Nat.zero_le _) h64 h5 (fun _ _ => rfl) h67 (fun q hq => (by rw [if_pos (by omega)]; exact h9 q (by omega))) mf.rf (fun q => q)
set_option maxHeartbeats 4000000 in
set_option maxRecDepth 100000 in
theorem q_feed {d : Nat} {xa xb xc xd xe : Int32} {tp fk mo ni : Nat} {bt : Nat → Nat} {fp : Int32} {v : rd_V} {bs : List Nat} {U : ln_U} {im : Nat → Option (rd_V × ln_Z)} {tr : Nat → Option (Nat × List Int64)} {hp : az_Hp} {Q : Option Value → az_Hp → Prop} (hd : 1 ≤ d) (hok : cs_ok ((tp, bt), (fk, fp), v, (mo, ni, bs), U, im, tr)) (hM : mm hp ((tp, bt), (fk, fp), v, (mo, ni, bs), U, im, tr)) (hQ5 : 900 < tp + 20 → ∀ h', mm h' ((tp, bt), (fk, fp), v, (mo, ni, bs), U, im, tr) → az_fr hp h' 64 93 → Q (some (.int (-5))) h') (hQ : tp + 20 ≤ 900 → ∀ h', mm h' ((tp + 4 + 4 + 4 + 4 + 4, (tput (tput (tput (tput (tput bt (tp) xa 4) (tp + 4) xb 4) (tp + 4 + 4) xc 4) (tp + 4 + 4 + 4) xd 4) (tp + 4 + 4 + 4 + 4) xe 4)), (fk, fp), v, (mo, ni, bs), U, im, tr) → az_fr hp h' 64 93 → Q (some (.int (nI (tp + 4 + 4 + 4 + 4 + 4)))) h') : az_M mX12_feed d 0 0 [.ref 64, .int xa, .int xb, .int xc, .int xd, .int xe] hp Q := by
  obtain ⟨sc0, A0, tf0, hI0, rs0, rm0, nu0, o1, o2, -⟩ := id hM
  have hgd : rd_good v := hok.2.2.1
  have hw : ln_ok (rd_w v) := hgd.1
  have hba : ln_ba (rd_w v) bs := hok.2.2.2.1
  have hb : ln_by (rd_w v) bs := hba.b
  have hlen := hb.2.2
  have h60 := hb.1
  have hU10 : U.length ≤ 10 := hok.2.2.2.2.1
  have ht1 := hw.1
  have ht3 := hw.2.1
  have htp9 : tp ≤ 900 := hok.1
  refine az_M.of rfl (Nat.le_of_ble_eq_true rfl) ?_
  show az_W _ _ _ _ 0 [(0, .ref 64), (1, .int xa), (2, .int xb), (3, .int xc), (4, .int xd), (5, .int xe)] [] _ _
  refine az_aload_n dX12_feed_0 ?_
  refine az_iconst (v := nI 0) dX12_feed_1 ?_
  refine az_putf (fs' := [.int (nI 0), .ref 65, .ref 66, .ref 67, .ref 68, sc0 5, fI (sc0 6), sc0 7, sc0 8, fI (sc0 9), fI (sc0 10), sc0 11, fI (sc0 12), sc0 13, sc0 14, .ref 69, .ref 70, .ref 71, sc0 18, .ref 72, .ref 73, .ref 74, sc0 22, sc0 23, .ref 75, sc0 25, .ref 76, .ref 77, .ref 78, sc0 29, .ref 79, .ref 80, .ref 81, .ref 82, .ref 83, .ref 84, .ref 85, sc0 37, .ref 86, .ref 87, .ref 88, .ref 89, .ref 90, .ref 91, .ref 92]) dX12_feed_2 fl_X12_1 o1 ?_
  obtain ⟨h1, hf1, hM1, hh1⟩ : ∃ h1, az_fr hp h1 64 93 ∧ mm h1 ((tp, bt), (fk, fp), v, (mo, ni, bs), U, im, tr) ∧ h1 = az_up hp 64 (mo_o (su sc0 0 (.int (nI 0)))) := ⟨_, az_fr.rf.up, hM.O (sc := su sc0 0 (.int (nI 0))) o2.1 o2.2.1 o2.2.2, rfl⟩
  rw [show (az_up hp 64 (az_O 11 [.int (nI 0), .ref 65, .ref 66, .ref 67, .ref 68, sc0 5, fI (sc0 6), sc0 7, sc0 8, fI (sc0 9), fI (sc0 10), sc0 11, fI (sc0 12), sc0 13, sc0 14, .ref 69, .ref 70, .ref 71, sc0 18, .ref 72, .ref 73, .ref 74, sc0 22, sc0 23, .ref 75, sc0 25, .ref 76, .ref 77, .ref 78, sc0 29, .ref 79, .ref 80, .ref 81, .ref 82, .ref 83, .ref 84, .ref 85, sc0 37, .ref 86, .ref 87, .ref 88, .ref 89, .ref 90, .ref 91, .ref 92])) = h1 from hh1.symm]
  obtain ⟨sc, A, tf, hI, rs, rm, nu, a1, a2, a3, a4, a5, a6, a7, a8, a9, a10, a11, a12, a13, a14⟩ := id hM1
  have a4 : mT A v (mo, ni, bs) := a4
  have a5 : mU A U := a5
  have a7 : mI A hI im := a7
  have a9 : ∀ j, j < tp → tf j = bt j := a9
  have a13 : mR rs rm nu tr := a13
  have a1' : h1.2 64 = some (az_O 11 [sc 0, .ref 65, .ref 66, .ref 67, .ref 68, .int (nI tp), fI (sc 6), sc 7, sc 8, fI (sc 9), fI (sc 10), sc 11, fI (sc 12), .int (nI fk), .int fp, .ref 69, .ref 70, .ref 71, sc 18, .ref 72, .ref 73, .ref 74, sc 22, sc 23, .ref 75, sc 25, .ref 76, .ref 77, .ref 78, sc 29, .ref 79, .ref 80, .ref 81, .ref 82, .ref 83, .ref 84, .ref 85, sc 37, .ref 86, .ref 87, .ref 88, .ref 89, .ref 90, .ref 91, .ref 92]) := (by have q1 : sc 5 = .int (nI tp) := a2.1; have q2 : sc 13 = .int (nI fk) := a2.2.1; have q3 : sc 14 = .int fp := a2.2.2; rw [← q1, ← q2, ← q3]; exact a1)
  refine az_aload_n dX12_feed_5 ?_
  refine az_getf (v := .int (nI tp)) dX12_feed_6 fl_X12_107 a1' ?_
  refine az_bipush (v := nI 20) dX12_feed_9 ?_
  refine az_iaddN dX12_feed_11 ?_
  refine az_sipush (v := nI 900) dX12_feed_12 ?_
  refine az_icmp_leN (tgt := 21) dX12_feed_15 (fun c15 => ?_) (fun c15 => ?_)
  · refine m_feedW (by omega) a1 a2.1 a8 a9 (fun h' sc' tf' b1 b2 b3 b4 b5 b6 b7 => ?_)
    exact hQ (by omega) h' ⟨sc', A, tf', hI, rs, rm, nu, b1, ⟨b2, (b3 13 (by decide)).trans a2.2.1, (b3 14 (by decide)).trans a2.2.2⟩, b6.at a3, a4, a5, b6.at a6, a7, b4, (fun j hj => (b5 j hj).trans (tput5 hj).symm), b6.at a10, b6.at a11, b6.at a12, a13, b7 a14⟩ (hf1.tr b6.fr)
  · refine az_bipush (v := (-5)) dX12_feed_18 ?_
    exact az_iret dX12_feed_20 (hQ5 (by omega) h1 hM1 hf1)

