/-! LetterNights: the tape -/
theorem b8 (y : Int32) : y.toInt8 = (nI (y.toBitVec.toNat % 256)).toInt8 := by
  apply Int8.toBitVec_inj.mp
  apply BitVec.eq_of_toNat_eq
  rw [Int32.toBitVec_toInt8, Int32.toBitVec_toInt8]
  rw [BitVec.signExtend_eq_setWidth_of_le _ (by decide), BitVec.signExtend_eq_setWidth_of_le _ (by decide)]
  rw [BitVec.toNat_setWidth, BitVec.toNat_setWidth]
  have h : (nI (y.toBitVec.toNat % 256)).toBitVec.toNat = y.toBitVec.toNat % 256 := by
    show (BitVec.ofNat 32 _).toNat = _
    rw [BitVec.toNat_ofNat]
    omega
  rw [h]
  omega
theorem b88 (y : Int32) : y.toInt8.toInt32.toInt8 = y.toInt8 := by simp
def tb (x : Int32) (j : Nat) : Nat := (x.toBitVec.toNat >>> (24 - 8 * j)) % 256
theorem tb_lt (x : Int32) (j : Nat) : tb x j < 256 := Nat.mod_lt _ (by decide)
theorem tb_put (x : Int32) {j : Nat} (hj : j < 4) : ((((x).toUInt32 >>> ((nI 24 - nI (8 * j)).toUInt32 &&& Int32.toUInt32 31)).toInt32).toInt8.toInt32).toInt8.toInt32 = bI (tb x j) := by
  rw [b88, bI, b8]
  congr 3
  have h : ∀ s : Nat, s < 32 → ((x.toUInt32 >>> (Int32.ofNat s).toUInt32).toInt32).toBitVec.toNat = x.toBitVec.toNat >>> s := by
    intro s hs
    show (x.toUInt32 >>> (Int32.ofNat s).toUInt32).toNat = _
    rw [UInt32.toNat_shiftRight]
    have : (Int32.ofNat s).toUInt32.toNat = s := by
      show (BitVec.ofNat 32 s).toNat = s
      rw [BitVec.toNat_ofNat]
      omega
    rw [this, Nat.mod_eq_of_lt hs]
    rfl
  have h2 : (nI 24 - nI (8 * j)).toUInt32 &&& Int32.toUInt32 31 = (Int32.ofNat (24 - 8 * j)).toUInt32 := by
    match j, hj with
    | 0, _ => decide
    | 1, _ => decide
    | 2, _ => decide
    | 3, _ => decide
  rw [h2, h _ (by omega)]
  rfl
theorem tb_neg {j : Nat} (hj : j ≤ 4) : nI 24 - nI (8 * j) < 0 ↔ j = 4 := by
  match j, hj with
    | 0, _ => decide
    | 1, _ => decide
    | 2, _ => decide
    | 3, _ => decide
    | 4, _ => decide
theorem tb_step {j : Nat} (hj : j < 4) : nI 24 - nI (8 * j) + Int32.ofInt (-8) = nI 24 - nI (8 * (j + 1)) := by
  match j, hj with
    | 0, _ => decide
    | 1, _ => decide
    | 2, _ => decide
    | 3, _ => decide
theorem sh255 (x : BitVec 32) (s : Nat) (hs : s ≤ 24) : (x.sshiftRight s) &&& 255#32 = BitVec.ofNat 32 ((x.toNat >>> s) % 256) := by
  apply BitVec.eq_of_getLsbD_eq
  intro i hi
  rw [BitVec.getLsbD_and, BitVec.getLsbD_sshiftRight, BitVec.getLsbD_ofNat, BitVec.getLsbD_ofNat]
  rw [show (255 : Nat) = 2 ^ 8 - 1 from rfl, Nat.testBit_two_pow_sub_one]
  rw [show (256 : Nat) = 2 ^ 8 from rfl, Nat.testBit_mod_two_pow, Nat.testBit_shiftRight]
  by_cases h8 : i < 8
  · rw [if_pos (by omega)]
    simp [h8, hi, BitVec.getLsbD]
  · simp [h8]
theorem smodF : ∀ s : Fin 25, ((nI s.val &&& 31).toBitVec.smod 32).toNat = s.val := by decide +kernel
theorem tb_mod0 (x : Int32) {s : Nat} (hs : s ≤ 24) : (x >>> (nI s &&& 31)) &&& nI 255 = nI ((x.toBitVec.toNat >>> s) % 256) := by
  apply Int32.toBitVec_inj.mp
  rw [Int32.toBitVec_and, Int32.toBitVec_shiftRight]
  have e := smodF ⟨s, by omega⟩
  show (x.toBitVec.sshiftRight ((nI s &&& 31).toBitVec.smod 32).toNat) &&& 255#32 = _
  rw [show ((nI s &&& 31).toBitVec.smod 32).toNat = s from e]
  exact sh255 _ _ hs
def tput (bt : Nat → Nat) (tp : Nat) (x : Int32) (j : Nat) : Nat → Nat := fun q => if tp ≤ q ∧ q < tp + j then tb x (q - tp) else bt q
theorem tput_lt {bt : Nat → Nat} (h : ∀ q, bt q < 256) (tp : Nat) (x : Int32) (j : Nat) : ∀ q, tput bt tp x j q < 256 := by
  intro q
  rw [tput]
  split
  · exact tb_lt _ _
  · exact h q
theorem tput_0 (bt : Nat → Nat) (tp : Nat) (x : Int32) : tput bt tp x 0 = bt := by
  funext q
  rw [tput, if_neg (by omega)]
theorem tput_s {tf : Nat → Int32} {bt : Nat → Nat} {tp j : Nat} {x : Int32} (h : ∀ q, q < tp + j → tf q = bI (tput bt tp x j q)) : ∀ q, q < tp + (j + 1) → az_s tf (tp + j) (bI (tb x j)) q = bI (tput bt tp x (j + 1) q) := by
  intro q hq
  by_cases e : q = tp + j
  · rw [e, az_s_eq, tput, if_pos ⟨by omega, by omega⟩, Nat.add_sub_cancel_left]
  · rw [az_s_ne e, h q (by omega), tput, tput]
    by_cases e2 : tp ≤ q
    · rw [if_pos ⟨e2, by omega⟩, if_pos ⟨e2, by omega⟩]
    · rw [if_neg (fun c => e2 c.1), if_neg (fun c => e2 c.1)]
set_option maxHeartbeats 4000000 in
set_option maxRecDepth 100000 in
theorem s_tapeBytes {d tp : Nat} {bt : Nat → Nat} {x : Int32} {hp : az_Hp} {Q : Option Value → az_Hp → Prop} (htp : tp + 4 ≤ 900) (h0 : hp.2 0 = some (az_O 10 [.ref 1, .int (nI (tp)), .ref 2, .ref 30, .ref 38, .ref 6, .ref 10, .ref 11, .ref 12, .ref 15, .ref 21, .ref 46])) (hT : cs_tp hp tp bt) (hQ : ∀ h', h'.2 0 = some (az_O 10 [.ref 1, .int (nI (tp + 4)), .ref 2, .ref 30, .ref 38, .ref 6, .ref 10, .ref 11, .ref 12, .ref 15, .ref 21, .ref 46]) → cs_tp h' (tp + 4) (tput bt tp x 4) → az_fr hp h' 0 2 → Q none h') : az_M mX11_tapeBytes d 0 0 [.ref 0, .int x] hp Q := by
  have loop : ∀ (k : Nat) (j : Nat) (h' : az_Hp), 4 - j = k → (j ≤ 4) → (h'.2 0 = some (az_O 10 [.ref 1, .int (nI (tp + j)), .ref 2, .ref 30, .ref 38, .ref 6, .ref 10, .ref 11, .ref 12, .ref 15, .ref 21, .ref 46])) → (cs_tp h' (tp + j) (tput bt tp x j)) → (az_fr hp h' 0 2) → az_W mX11_tapeBytes d 0 0 3 [(0, .ref 0), (1, .int x), (2, .int ((nI 24 - nI (8 * j))))] [] h' Q := by
    intro k
    induction k using Nat.strongRecOn with
    | _ k ih =>
    intro j h' hk hj e0 eT hf
    obtain ⟨tf, q1, q2⟩ := id eT
    refine az_iload_n dX11_tapeBytes_3 ?_
    refine az_if_lt (tgt := 48) dX11_tapeBytes_4 (fun c4 => ?_) (fun c4 => ?_)
    · exact az_vret dX11_tapeBytes_48 (by obtain rfl : j = 4 := (tb_neg hj).mp c4; exact hQ h' e0 eT hf)
    · have hj4 : j < 4 := (by have := mt (tb_neg hj).mpr c4; omega)
      refine az_aload_n dX11_tapeBytes_7 ?_
      refine az_getf (v := .int (nI (tp + j))) dX11_tapeBytes_8 fl_X11_81 e0 ?_
      refine az_aload_n dX11_tapeBytes_11 ?_
      refine az_getf (v := .ref 1) dX11_tapeBytes_12 fl_X11_9 e0 ?_
      refine az_alen dX11_tapeBytes_15 q1 ?_
      refine az_icmp_geN (tgt := 42) dX11_tapeBytes_16 (fun c16 => ?_) (fun c16 => ?_)
      · exact absurd c16 (by omega)
      · refine az_aload_n dX11_tapeBytes_19 ?_
        refine az_getf (v := .ref 1) dX11_tapeBytes_20 fl_X11_9 e0 ?_
        refine az_aload_n dX11_tapeBytes_23 ?_
        refine az_getf (v := .int (nI (tp + j))) dX11_tapeBytes_24 fl_X11_81 e0 ?_
        refine az_iload_n dX11_tapeBytes_27 ?_
        refine az_iload_n dX11_tapeBytes_28 ?_
        refine az_iushr dX11_tapeBytes_29 ?_
        refine az_i2b dX11_tapeBytes_30 ?_
        refine az_bastN (j := tp + j) dX11_tapeBytes_31 q1 ?_
        rw [tb_put x hj4]
        refine az_aload_n dX11_tapeBytes_32 ?_
        refine az_dup dX11_tapeBytes_33 ?_
        refine az_getf (v := .int (nI (tp + j))) dX11_tapeBytes_34 fl_X11_81 (az_up_ne e0) ?_
        refine az_iconst (v := nI 1) dX11_tapeBytes_37 ?_
        refine az_iaddN dX11_tapeBytes_38 ?_
        refine az_putf (fs' := [.ref 1, .int (nI ((tp + j) + 1)), .ref 2, .ref 30, .ref 38, .ref 6, .ref 10, .ref 11, .ref 12, .ref 15, .ref 21, .ref 46]) dX11_tapeBytes_39 fl_X11_81 (az_up_ne e0) ?_
        refine az_iinc (ls' := [(0, .ref 0), (1, .int x), (2, .int ((nI 24 - nI (8 * j)) + Int32.ofInt (-8)))]) dX11_tapeBytes_42 ?_
        refine az_goto (tgt := 3) dX11_tapeBytes_45 ?_
        rw [tb_step hj4]
        exact ih _ (by omega) (j + 1) _ rfl (by omega) az_up_eq ⟨_, az_up_ne az_up_eq, tput_s q2⟩ ⟨hf.1, fun q hq => az_up_ne (az_up_ne (hf.2 q hq))⟩
  refine az_M.of rfl (Nat.le_of_ble_eq_true rfl) ?_
  show az_W _ _ _ _ 0 [(0, .ref 0), (1, .int x)] [] _ _
  refine az_bipush (v := nI 24) dX11_tapeBytes_0 ?_
  refine az_istore_n (ls' := [(0, .ref 0), (1, .int x), (2, .int (nI 24))]) dX11_tapeBytes_2 ?_
  exact loop _ 0 hp rfl (Nat.zero_le _) h0 (by rw [tput_0]; exact hT) ⟨rfl, fun _ _ => rfl⟩
set_option maxHeartbeats 4000000 in
set_option maxRecDepth 100000 in
theorem p_feed {d : Nat} {xa xb xc xd xe : Int32} {tp fk mo ni K : Nat} {bt : Nat → Nat} {fp : Int32} {v : rd_V} {bs : List Nat} {U : ln_U} {im : Nat → Option (rd_V × ln_Z)} {tr : Nat → Option (Nat × List Int64)} {hp : az_Hp} {Q : Option Value → az_Hp → Prop} (hd : 3 ≤ d) (hC : cs hp ((tp, bt), (fk, fp), v, (mo, ni, bs), U, im, tr) K) (hQ5 : 900 < tp + 20 → Q (some (.int (-5))) hp) (hQ : tp + 20 ≤ 900 → ∀ h', cs h' ((tp + 4 + 4 + 4 + 4 + 4, (tput (tput (tput (tput (tput bt (tp) xa 4) (tp + 4) xb 4) (tp + 4 + 4) xc 4) (tp + 4 + 4 + 4) xd 4) (tp + 4 + 4 + 4 + 4) xe 4)), (fk, fp), v, (mo, ni, bs), U, im, tr) K → cs_f hp h' → Q (some (.int (nI (tp + 4 + 4 + 4 + 4 + 4)))) h') : az_M mX11_feed d 0 0 [.ref 0, .int xa, .int xb, .int xc, .int xd, .int xe] hp Q := by
  obtain ⟨hok, t, F, ia, kk, kt, x1, x2, x3, x4, x5, x6, x7, x8, x9, x10, x11, x12, x13, x14⟩ := id hC
  have hw : ln_ok (rd_w v) := hok.2.2.1.1
  have hlaw : ln_law (rd_w v) v.2.2.2.2.2.2.2.1 v.2.2.2.2.2.2.2.2 := hok.2.2.1.2
  have hba : ln_ba (rd_w v) bs := hok.2.2.2.1
  have hb : ln_by (rd_w v) bs := hba.b
  have x4 : ln_Past hp 6 U := x4
  have x5 : cs_im hp im ia F := x5
  have x6 : cs_tr hp tr := x6
  have x10 : ln_Scene hp 30 t (rd_w v) mo ni bs := x10
  have x13 : ln_Tf hp t (rd_w v) F := x13
  have x14 : cs_ad hp im F ia kk kt := x14
  have x2 : cs_tp hp tp bt := x2
  have htp9 : tp ≤ 900 := hok.1
  refine az_M.of rfl (Nat.le_of_ble_eq_true rfl) ?_
  show az_W _ _ _ _ 0 [(0, .ref 0), (1, .int xa), (2, .int xb), (3, .int xc), (4, .int xd), (5, .int xe)] [] _ _
  refine az_aload_n dX11_feed_0 ?_
  refine az_getf (v := .int (nI tp)) dX11_feed_1 fl_X11_81 x1 ?_
  refine az_bipush (v := nI 20) dX11_feed_4 ?_
  refine az_iaddN dX11_feed_6 ?_
  refine az_sipush (v := nI 900) dX11_feed_7 ?_
  refine az_icmp_leN (tgt := 16) dX11_feed_10 (fun c10 => ?_) (fun c10 => ?_)
  · refine az_aload_n dX11_feed_16 ?_
    refine az_iload_n dX11_feed_17 ?_
    refine az_cV0 (st := []) dX11_feed_18 ml_X11_85 x1 (s_tapeBytes (d := d - 1) (tp := tp) (bt := bt) (by omega) x1 x2 ?_)
    intro h1 e1 T1 hf1
    have F1 := hf1
    refine az_aload_n dX11_feed_21 ?_
    refine az_iload_n dX11_feed_22 ?_
    refine az_cV0 (st := []) dX11_feed_23 ml_X11_85 e1 (s_tapeBytes (d := d - 1) (tp := tp + 4) (bt := (tput bt (tp) xa 4)) (by omega) e1 T1 ?_)
    intro h2 e2 T2 hf2
    have F2 := F1.tr hf2
    refine az_aload_n dX11_feed_26 ?_
    refine az_iload_n dX11_feed_27 ?_
    refine az_cV0 (st := []) dX11_feed_28 ml_X11_85 e2 (s_tapeBytes (d := d - 1) (tp := tp + 4 + 4) (bt := (tput (tput bt (tp) xa 4) (tp + 4) xb 4)) (by omega) e2 T2 ?_)
    intro h3 e3 T3 hf3
    have F3 := F2.tr hf3
    refine az_aload_n dX11_feed_31 ?_
    refine az_iload dX11_feed_32 ?_
    refine az_cV0 (st := []) dX11_feed_34 ml_X11_85 e3 (s_tapeBytes (d := d - 1) (tp := tp + 4 + 4 + 4) (bt := (tput (tput (tput bt (tp) xa 4) (tp + 4) xb 4) (tp + 4 + 4) xc 4)) (by omega) e3 T3 ?_)
    intro h4 e4 T4 hf4
    have F4 := F3.tr hf4
    refine az_aload_n dX11_feed_37 ?_
    refine az_iload dX11_feed_38 ?_
    refine az_cV0 (st := []) dX11_feed_40 ml_X11_85 e4 (s_tapeBytes (d := d - 1) (tp := tp + 4 + 4 + 4 + 4) (bt := (tput (tput (tput (tput bt (tp) xa 4) (tp + 4) xb 4) (tp + 4 + 4) xc 4) (tp + 4 + 4 + 4) xd 4)) (by omega) e4 T4 ?_)
    intro h5 e5 T5 hf5
    have F5 := F4.tr hf5
    refine az_aload_n dX11_feed_43 ?_
    refine az_getf (v := .int (nI (tp + 4 + 4 + 4 + 4 + 4))) dX11_feed_44 fl_X11_81 e5 ?_
    exact az_iret dX11_feed_47 (hQ (by omega) h5 ⟨(by obtain ⟨k1, k2, k3⟩ := hok; exact ⟨(by show tp + 4 + 4 + 4 + 4 + 4 ≤ 900; omega), tput_lt (tput_lt (tput_lt (tput_lt (tput_lt k2 _ _ _) _ _ _) _ _ _) _ _ _) _ _ _, k3⟩), ⟨t, F, ia, kk, kt, e5, T5, (x3.fr F5), (ln_PastX.fr x4 F5 (by omega)), (x5.fr F5 x14), (x6.fr F5), (x7.fr F5), (x8.fr F5), (x9.fr F5), (ln_Scene.fr x10 F5 (by omega)), (x11.fr F5), (x12.fr F5 (by omega) (by have := x14.2.1; omega) (by have := x14.2.2.1; omega)), (x13.fr F5 (fun q hq => (by have := x14.2.2.2.2.2.1 q hq; omega))), (x14.fr F5)⟩⟩ F5.cs)
  · refine az_bipush (v := (-5)) dX11_feed_13 ?_
    exact az_iret dX11_feed_15 (hQ5 (by omega))

