/-! Reader: tokens -/
def bI (x : Nat) : Int32 := (nI x).toInt8.toInt32
theorem bI_toIF : ∀ x : Fin 256, (bI x.val).toInt = if x.val < 128 then (x.val : Int) else (x.val : Int) - 256 := by decide +kernel
theorem bI_toI {x : Nat} (h : x < 256) : (bI x).toInt = if x < 128 then (x : Int) else (x : Int) - 256 := bI_toIF ⟨x, h⟩
theorem bI_lt {x k : Nat} (hx : x < 256) (hk : k < 128) : bI x < nI k ↔ (x < k ∨ 128 ≤ x) := by
  rw [Int32.lt_iff_toInt_lt, bI_toI hx, nI_toI (by omega)]
  split <;> omega
theorem bI_gt {x k : Nat} (hx : x < 256) (hk : k < 128) : nI k < bI x ↔ (k < x ∧ x < 128) := by
  rw [Int32.lt_iff_toInt_lt, bI_toI hx, nI_toI (by omega)]
  split <;> omega
theorem bI_le {x k : Nat} (hx : x < 256) (hk : k < 128) : bI x ≤ nI k ↔ (x ≤ k ∨ 128 ≤ x) := by
  rw [Int32.le_iff_toInt_le, bI_toI hx, nI_toI (by omega)]
  split <;> omega
theorem bI_eq {x k : Nat} (hx : x < 256) (hk : k < 128) : bI x = nI k ↔ x = k := by
  rw [← Int32.toInt_inj, bI_toI hx, nI_toI (by omega)]
  split <;> omega
theorem bI_nI {x : Nat} (h : x < 128) : bI x = nI x := st_b8 h
def rd_sk (b : Nat → Nat) : Nat → Nat → Nat
  | 0, e => e
  | f + 1, e => if b e = 32 ∨ b e = 10 then rd_sk b f (e + 1) else e
def rd_fr (b : Nat → Nat) (n e : Nat) : Nat := rd_sk b (n - e) e
def rd_ro (b : Nat → Nat) (lo hi : Nat) : Nat → Nat → Nat
  | 0, e => e
  | f + 1, e => if lo ≤ b e ∧ b e ≤ hi then rd_ro b lo hi f (e + 1) else e
abbrev rd_sg (x : Nat) : Prop := x = 59 ∨ x = 58 ∨ x = 43 ∨ x = 45 ∨ x = 42 ∨ x = 40 ∨ x = 41 ∨ x = 91 ∨ x = 93 ∨ x = 61 ∨ x = 60 ∨ x = 62
theorem rd_sg_a : ∀ j, j < (az_byt ";:+-*()[]=<>").length → rd_sg (az_ch ";:+-*()[]=<>" j) := by decide +kernel
theorem rd_sg_n {x : Nat} (h : ∀ j, j < (az_byt ";:+-*()[]=<>").length → az_ch ";:+-*()[]=<>" j ≠ x) : ¬ rd_sg x := by
  have h0 := h 0 (by decide +kernel)
  have h1 := h 1 (by decide +kernel)
  have h2 := h 2 (by decide +kernel)
  have h3 := h 3 (by decide +kernel)
  have h4 := h 4 (by decide +kernel)
  have h5 := h 5 (by decide +kernel)
  have h6 := h 6 (by decide +kernel)
  have h7 := h 7 (by decide +kernel)
  have h8 := h 8 (by decide +kernel)
  have h9 := h 9 (by decide +kernel)
  have h10 := h 10 (by decide +kernel)
  have h11 := h 11 (by decide +kernel)
  have e : (az_ch ";:+-*()[]=<>" 0 = 59 ∧ az_ch ";:+-*()[]=<>" 1 = 58 ∧ az_ch ";:+-*()[]=<>" 2 = 43 ∧ az_ch ";:+-*()[]=<>" 3 = 45 ∧ az_ch ";:+-*()[]=<>" 4 = 42 ∧ az_ch ";:+-*()[]=<>" 5 = 40) ∧ az_ch ";:+-*()[]=<>" 6 = 41 ∧ az_ch ";:+-*()[]=<>" 7 = 91 ∧ az_ch ";:+-*()[]=<>" 8 = 93 ∧ az_ch ";:+-*()[]=<>" 9 = 61 ∧ az_ch ";:+-*()[]=<>" 10 = 60 ∧ az_ch ";:+-*()[]=<>" 11 = 62 := by decide +kernel
  omega
/-- a token that begins at a: where it ends, its kind -/
def rd_eA (b : Nat → Nat) (n a : Nat) : Nat := if n ≤ a then n else if 97 ≤ b a ∧ b a ≤ 122 then rd_ro b 97 122 (n - (a + 1)) (a + 1) else if 48 ≤ b a ∧ b a ≤ 57 then rd_ro b 48 57 (n - (a + 1)) (a + 1) else a + 1
def rd_kA (b : Nat → Nat) (n a : Nat) : Nat := if n ≤ a then 0 else if 97 ≤ b a ∧ b a ≤ 122 then 1 else if 48 ≤ b a ∧ b a ≤ 57 then (if 3 < rd_eA b n a - a then 4 else 2) else if rd_sg (b a) then 3 else 4
def rd_en (b : Nat → Nat) (n e : Nat) : Nat := rd_eA b n (rd_fr b n e)
def rd_kd (b : Nat → Nat) (n e : Nat) : Nat := rd_kA b n (rd_fr b n e)
def rd_nu (b : Nat → Nat) (a : Nat) : Nat → Nat
  | 0 => 0
  | k + 1 => rd_nu b a k * 10 + b (a + k) - 48
def rd_va (b : Nat → Nat) (n e : Nat) : Nat := rd_nu b (rd_fr b n e) (rd_en b n e - rd_fr b n e)
theorem rd_sk_le (b : Nat → Nat) (f : Nat) : ∀ e, e ≤ rd_sk b f e ∧ rd_sk b f e ≤ e + f := by
  induction f with
  | zero => intro e; exact ⟨Nat.le_refl _, Nat.le_refl _⟩
  | succ f ih =>
    intro e
    rw [rd_sk]
    split
    · have := ih (e + 1); omega
    · omega
theorem rd_fr_le {b : Nat → Nat} {n e : Nat} (h : e ≤ n) : e ≤ rd_fr b n e ∧ rd_fr b n e ≤ n := by
  have := rd_sk_le b (n - e) e
  unfold rd_fr
  omega
theorem rd_ro_le (b : Nat → Nat) (lo hi f : Nat) : ∀ e, e ≤ rd_ro b lo hi f e ∧ rd_ro b lo hi f e ≤ e + f := by
  induction f with
  | zero => intro e; exact ⟨Nat.le_refl _, Nat.le_refl _⟩
  | succ f ih =>
    intro e
    rw [rd_ro]
    split
    · have := ih (e + 1); omega
    · omega
theorem rd_ro_in (b : Nat → Nat) (lo hi f : Nat) : ∀ e j, e ≤ j → j < rd_ro b lo hi f e → lo ≤ b j ∧ b j ≤ hi := by
  induction f with
  | zero => intro e j h1 h2; rw [rd_ro] at h2; omega
  | succ f ih =>
    intro e j h1 h2
    rw [rd_ro] at h2
    split at h2
    · rename_i hc
      by_cases ej : j = e
      · rw [ej]; exact hc
      · exact ih (e + 1) j (by omega) h2
    · omega
theorem rd_eA_le {b : Nat → Nat} {n a : Nat} (h : a < n) : a < rd_eA b n a ∧ rd_eA b n a ≤ n := by
  unfold rd_eA
  rw [if_neg (by omega)]
  split
  · have := rd_ro_le b 97 122 (n - (a + 1)) (a + 1); omega
  · split
    · have := rd_ro_le b 48 57 (n - (a + 1)) (a + 1); omega
    · omega
theorem rd_eA_n {b : Nat → Nat} {n a : Nat} (h : n ≤ a) : rd_eA b n a = n := if_pos h
theorem rd_en_le {b : Nat → Nat} {n e : Nat} (h : e ≤ n) : rd_fr b n e ≤ rd_en b n e ∧ rd_en b n e ≤ n := by
  have h1 := rd_fr_le (b := b) h
  unfold rd_en
  by_cases h2 : rd_fr b n e < n
  · have := rd_eA_le (b := b) h2; omega
  · rw [rd_eA_n (by omega)]; omega
/-- a token that isn't the end is not empty -/
theorem rd_en_lt {b : Nat → Nat} {n e : Nat} (h : e ≤ n) (hk : rd_kd b n e ≠ 0) : e ≤ rd_fr b n e ∧ rd_fr b n e < rd_en b n e ∧ rd_en b n e ≤ n := by
  have h1 := rd_fr_le (b := b) h
  by_cases h2 : rd_fr b n e < n
  · have := rd_eA_le (b := b) h2
    unfold rd_en
    omega
  · exact absurd (show rd_kA b n (rd_fr b n e) = 0 from if_pos (by omega)) hk
theorem rd_kA_le (b : Nat → Nat) (n a : Nat) : rd_kA b n a ≤ 4 := by
  unfold rd_kA
  split
  · omega
  · split
    · omega
    · split
      · split <;> omega
      · split <;> omega
set_option maxRecDepth 100000 in
theorem s_runOn {d q tx n z0 a9 lo hi : Nat} {b : Nat → Nat} {tf : Nat → Int32} {fa fp ki cd : Value} {va : Int32} {hp : az_Hp} {Q : Option Value → az_Hp → Prop} (hb : ∀ j, b j < 256) (hn : n ≤ 900) (ht : hp.2 tx = some (az_Y 900 tf)) (hq : tx ≠ q) (htf : ∀ j, j < n → tf j = bI (b j)) (h0 : hp.2 q = some (az_O 4 [fa, fp, .ref tx, .int (nI n), ki, .int (nI a9), .int (nI z0), .int va, .ref (q + 2), .ref (q + 3), cd])) (hz : z0 ≤ n) (hlo : lo < 128) (hhi : hi < 128) (hQ : ∀ z, z = rd_ro b lo hi (n - z0) z0 → Q none (az_up hp q (az_O 4 [fa, fp, .ref tx, .int (nI n), ki, .int (nI a9), .int (nI z), .int va, .ref (q + 2), .ref (q + 3), cd]))) : az_M mX5_runOn d 0 0 [.ref q, .int (nI lo), .int (nI hi)] hp Q := by
  have loop : ∀ (k : Nat) (z : Nat), n - z = k → (z ≤ n) → (rd_ro b lo hi (n - z) z = rd_ro b lo hi (n - z0) z0) → az_W mX5_runOn d 0 0 0 [(0, .ref q), (1, .int (nI lo)), (2, .int (nI hi))] [] (az_up hp q (az_O 4 [fa, fp, .ref tx, .int (nI n), ki, .int (nI a9), .int (nI z), .int va, .ref (q + 2), .ref (q + 3), cd])) Q := by
    intro k
    induction k using Nat.strongRecOn with
    | _ k ih =>
    intro z hk hz9 hR
    refine az_aload_n dX5_runOn_0 ?_
    refine az_getf (v := .int (nI z)) dX5_runOn_1 fl_X5_38 az_up_eq ?_
    refine az_aload_n dX5_runOn_4 ?_
    refine az_getf (v := .int (nI n)) dX5_runOn_5 fl_X5_35 az_up_eq ?_
    refine az_icmp_geN (tgt := 50) dX5_runOn_8 (fun c8 => ?_) (fun c8 => ?_)
    · exact az_vret dX5_runOn_50 (hQ z (by rw [← hR]; first | (rw [show n - z = 0 by omega, rd_ro]) | (rw [bI_lt (hb z) hlo] at c21; rw [show n - z = (n - (z + 1)) + 1 by omega, rd_ro, if_neg (by have := hb z; omega)]) | (rw [bI_gt (hb z) hhi] at c34; rw [show n - z = (n - (z + 1)) + 1 by omega, rd_ro, if_neg (by omega)])))
    · refine az_aload_n dX5_runOn_11 ?_
      refine az_getf (v := .ref tx) dX5_runOn_12 fl_X5_18 az_up_eq ?_
      refine az_aload_n dX5_runOn_15 ?_
      refine az_getf (v := .int (nI z)) dX5_runOn_16 fl_X5_38 az_up_eq ?_
      refine az_baldN (j := z) dX5_runOn_19 (az_up_ne ht) ?_
      rw [htf z (by omega)]
      refine az_iload_n dX5_runOn_20 ?_
      refine az_icmp_lt (tgt := 50) dX5_runOn_21 (fun c21 => ?_) (fun c21 => ?_)
      · exact az_vret dX5_runOn_50 (hQ z (by rw [← hR]; first | (rw [show n - z = 0 by omega, rd_ro]) | (rw [bI_lt (hb z) hlo] at c21; rw [show n - z = (n - (z + 1)) + 1 by omega, rd_ro, if_neg (by have := hb z; omega)]) | (rw [bI_gt (hb z) hhi] at c34; rw [show n - z = (n - (z + 1)) + 1 by omega, rd_ro, if_neg (by omega)])))
      · refine az_aload_n dX5_runOn_24 ?_
        refine az_getf (v := .ref tx) dX5_runOn_25 fl_X5_18 az_up_eq ?_
        refine az_aload_n dX5_runOn_28 ?_
        refine az_getf (v := .int (nI z)) dX5_runOn_29 fl_X5_38 az_up_eq ?_
        refine az_baldN (j := z) dX5_runOn_32 (az_up_ne ht) ?_
        rw [htf z (by omega)]
        refine az_iload_n dX5_runOn_33 ?_
        refine az_icmp_gt (tgt := 50) dX5_runOn_34 (fun c34 => ?_) (fun c34 => ?_)
        · exact az_vret dX5_runOn_50 (hQ z (by rw [← hR]; first | (rw [show n - z = 0 by omega, rd_ro]) | (rw [bI_lt (hb z) hlo] at c21; rw [show n - z = (n - (z + 1)) + 1 by omega, rd_ro, if_neg (by have := hb z; omega)]) | (rw [bI_gt (hb z) hhi] at c34; rw [show n - z = (n - (z + 1)) + 1 by omega, rd_ro, if_neg (by omega)])))
        · refine az_aload_n dX5_runOn_37 ?_
          refine az_dup dX5_runOn_38 ?_
          refine az_getf (v := .int (nI z)) dX5_runOn_39 fl_X5_38 az_up_eq ?_
          refine az_iconst (v := nI 1) dX5_runOn_42 ?_
          refine az_iaddN dX5_runOn_43 ?_
          refine az_putf (fs' := [fa, fp, .ref tx, .int (nI n), ki, .int (nI a9), .int (nI (z + 1)), .int va, .ref (q + 2), .ref (q + 3), cd]) dX5_runOn_44 fl_X5_38 az_up_eq ?_
          refine az_goto (tgt := 0) dX5_runOn_47 ?_
          rw [az_up_up]
          rw [bI_lt (hb z) hlo] at c21
          rw [bI_gt (hb z) hhi] at c34
          exact ih _ (by omega) (z + 1) rfl (by omega) (by rw [← hR, show n - z = (n - (z + 1)) + 1 by omega, rd_ro, if_pos (by omega)])
  refine az_M.of rfl (Nat.le_of_ble_eq_true rfl) ?_
  show az_W _ _ _ _ 0 [(0, .ref q), (1, .int (nI lo)), (2, .int (nI hi))] [] _ _
  rw [← az_up_same h0]
  exact loop _ z0 rfl hz rfl
