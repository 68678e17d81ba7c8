/-! The model: sorts -/
/-- how often a number stands in a stretch -/
def cnR (f : Nat → Nat) (off n b : Nat) : Nat := sm (fun i => if f (off + i) = b then 1 else 0) n
theorem cnR_congr {f g : Nat → Nat} {off n b : Nat} (h : ∀ i, i < n → f (off + i) = g (off + i)) : cnR f off n b = cnR g off n b := sm_congr (fun i hi => by rw [h i hi])
/-- one number put at a place -/
theorem cnR_set {f : Nat → Nat} {off n j t b : Nat} (hj : j < n) : cnR (az_s f (off + j) t) off n b + (if f (off + j) = b then 1 else 0) = cnR f off n b + (if t = b then 1 else 0) := by
  have h := sm_at (f := fun i => if f (off + i) = b then 1 else 0) (g := fun i => if az_s f (off + j) t (off + i) = b then 1 else 0) hj (fun i hi => by
    show (if az_s f (off + j) t (off + i) = b then 1 else 0) = _
    rw [az_s_ne (show off + i ≠ off + j by omega)])
  have e : (if az_s f (off + j) t (off + j) = b then 1 else 0) = (if t = b then 1 else 0) := by rw [az_s_eq]
  exact h.trans (by rw [← e]; rfl)
/-- a hole goes down by a gap -/
theorem cnR_go {f : Nat → Nat} {off n j g t b : Nat} (hj : j < n) (hg : g ≤ j) (h0 : 0 < g) : cnR (az_s (az_s f (off + j) (f (off + (j - g)))) (off + (j - g)) t) off n b = cnR (az_s f (off + j) t) off n b := by
  have h1 := cnR_set (f := az_s f (off + j) (f (off + (j - g)))) (off := off) (n := n) (t := t) (b := b) (show j - g < n by omega)
  rw [az_s_ne (show off + (j - g) ≠ off + j by omega)] at h1
  have h2 := cnR_set (f := f) (off := off) (n := n) (t := f (off + (j - g))) (b := b) hj
  have h3 := cnR_set (f := f) (off := off) (n := n) (t := t) (b := b) hj
  omega
theorem az_s_same {α : Type} {f : Nat → α} {a : Nat} : az_s f a (f a) = f := funext (fun q => (by by_cases e : q = a; rw [e, az_s_eq]; exact az_s_ne e))
def soG (g : Nat) : Prop := g ∈ [3280, 1093, 364, 121, 40, 13, 4, 1, 0]
theorem soG_div {g : Nat} (h : soG g) : soG (g / 3) ∧ (g / 3 = 0 → g ≤ 1) ∧ g ≤ 3280 := (by decide : ∀ g ∈ [3280, 1093, 364, 121, 40, 13, 4, 1, 0], g / 3 ∈ [3280, 1093, 364, 121, 40, 13, 4, 1, 0] ∧ (g / 3 = 0 → g ≤ 1) ∧ g ≤ 3280) g h
def soS (f : Nat → Nat) (off n : Nat) : Prop := ∀ p q, p ≤ q → q < n → f (off + p) ≤ f (off + q)
/-- sorted but for a hole: what stands behind it is more than t -/
def soH (f : Nat → Nat) (off i j t : Nat) : Prop := (∀ p q, p ≤ q → q ≤ i → p ≠ j → q ≠ j → f (off + p) ≤ f (off + q)) ∧ ∀ q, j < q → q ≤ i → t ≤ f (off + q)
theorem soH_0 {f : Nat → Nat} {off i t : Nat} (h : soS f off i) : soH f off i i t := ⟨fun p q h1 h2 h3 h4 => h p q h1 (by omega), fun q h1 h2 => absurd h1 (by omega)⟩
theorem soH_go {f : Nat → Nat} {off i j t : Nat} (H : soH f off i j t) (hj : j ≤ i) (h0 : 0 < j) (ht : t < f (off + (j - 1))) : soH (az_s f (off + j) (f (off + (j - 1)))) off i (j - 1) t := by
  obtain ⟨h1, h2⟩ := H
  refine ⟨fun p q a1 a2 a3 a4 => ?_, fun q a1 a2 => ?_⟩
  · by_cases ep : p = j
    · subst ep
      rw [az_s_eq]
      by_cases eq : q = p
      · subst eq; rw [az_s_eq]; exact Nat.le_refl _
      · rw [az_s_ne (by omega)]
        exact h1 (p - 1) q (by omega) a2 (by omega) eq
    · rw [az_s_ne (show off + p ≠ off + j by omega)]
      by_cases eq : q = j
      · subst eq
        rw [az_s_eq]
        exact h1 p (q - 1) (by omega) (by omega) ep (by omega)
      · rw [az_s_ne (by omega)]
        exact h1 p q a1 a2 ep eq
  · by_cases eq : q = j
    · subst eq; rw [az_s_eq]; exact Nat.le_of_lt ht
    · rw [az_s_ne (by omega)]
      exact h2 q (by omega) a2
theorem soH_end {f : Nat → Nat} {off i j t : Nat} (H : soH f off i j t) (hj : j ≤ i) (h : j < 1 ∨ f (off + (j - 1)) ≤ t) : soS (az_s f (off + j) t) off (i + 1) := by
  obtain ⟨h1, h2⟩ := H
  intro p q a1 a2
  by_cases ep : p = j
  · subst ep
    rw [az_s_eq]
    by_cases eq : q = p
    · subst eq; rw [az_s_eq]; exact Nat.le_refl _
    · rw [az_s_ne (by omega)]
      exact h2 q (by omega) (by omega)
  · rw [az_s_ne (show off + p ≠ off + j by omega)]
    by_cases eq : q = j
    · subst eq
      rw [az_s_eq]
      have h3 : f (off + p) ≤ f (off + (q - 1)) := h1 p (q - 1) (by omega) (by omega) ep (by omega)
      have : f (off + (q - 1)) ≤ t := h.resolve_left (by omega)
      omega
    · rw [az_s_ne (by omega)]
      exact h1 p q a1 (by omega) ep eq
def soO (f g : Nat → Nat) (off n : Nat) : Prop := ∀ q, (q < off ∨ off + n ≤ q) → f q = g q
def soB (f : Nat → Nat) (off n : Nat) : Prop := ∀ i, i < n → f (off + i) ≤ 2 ^ 62
def soC (f g : Nat → Nat) (off n : Nat) : Prop := ∀ b, cnR f off n b = cnR g off n b
theorem soO_set {f g : Nat → Nat} {off n j t : Nat} (H : soO f g off n) (hj : j < n) : soO (az_s f (off + j) t) g off n := fun q hq => (az_s_ne (by omega)).trans (H q hq)
theorem soB_set {f : Nat → Nat} {off n j t : Nat} (H : soB f off n) (ht : t ≤ 2 ^ 62) : soB (az_s f (off + j) t) off n := fun i hi => (by
  by_cases e : i = j
  · rw [e, az_s_eq]; exact ht
  · rw [az_s_ne (by omega)]; exact H i hi)
theorem so_1 {g : Nat} (h : g ≤ 1) (h0 : ¬ g ≤ 0) : g = 1 := by omega
set_option maxHeartbeats 4000000 in
set_option maxRecDepth 100000 in
theorem m_sorts {d off n : Nat} {sc : Nat → Value} {bh : Nat → Nat} {hp : az_Hp} {Q : Option Value → az_Hp → Prop} (h64 : hp.2 64 = some (mo_o sc)) (h85 : hp.2 85 = some (az_J 19683 (fun j => lN (bh j)))) (hon : off + n ≤ 19683) (hB : soB bh off n) (hQ : ∀ b', soO b' bh off n → soS b' off n → soC b' bh off n → Q none (az_up hp 85 (az_J 19683 (fun j => lN (b' j))))) : az_M mX12_sorts d 0 0 [.ref 64, .int (nI off), .int (nI n)] hp Q := by
  have loopC : ∀ (k : Nat) (j : Nat) (bj : Nat → Nat) (h2 : az_Hp) (gp ix t : Nat) (hgp : 1 ≤ gp ∧ gp ≤ 3280) (hK : ∀ b3, soO b3 bh off n → soB b3 off n → soC b3 bh off n → (gp ≤ 1 → soS b3 off (ix + 1)) → ∀ h3, h3 = az_up hp 85 (az_J 19683 (fun j => lN (b3 j))) → ∀ j2 : Nat, az_W mX12_sorts d 0 0 95 [(0, .ref 64), (1, .int (nI off)), (2, .int (nI n)), (3, .int (nI gp)), (4, .int (nI ix)), (5, .long (lN t)), (7, .int (nI j2))] [] h3 Q), j = k → (j ≤ ix) → (ix < n) → (soO bj bh off n) → (soB bj off n) → (t ≤ 2 ^ 62) → (soC (az_s bj (off + j) t) bh off n) → (gp ≤ 1 → soH bj off ix j t) → (h2 = az_up hp 85 (az_J 19683 (fun j => lN (bj j)))) → az_W mX12_sorts d 0 0 32 [(0, .ref 64), (1, .int (nI off)), (2, .int (nI n)), (3, .int (nI gp)), (4, .int (nI ix)), (5, .long (lN t)), (7, .int (nI j))] [] h2 Q := by
    intro k
    induction k using Nat.strongRecOn with
    | _ k ih =>
    intro j bj h2 gp ix t hgp hK hk hj hix hOj hBj ht hCj hHj hej
    obtain ⟨hg1, hg2⟩ := hgp
    have hgp : 1 ≤ gp ∧ gp ≤ 3280 := ⟨hg1, hg2⟩
    refine az_iload dX12_sorts_32 ?_
    refine az_iload_n dX12_sorts_34 ?_
    refine az_icmp_ltN (tgt := 84) dX12_sorts_35 (fun c35 => ?_) (fun c35 => ?_)
    · refine az_aload_n dX12_sorts_84 ?_
      refine az_getf (v := .ref 85) dX12_sorts_85 fl_X12_79 (by rw [hej]; exact az_up_ne h64) ?_
      refine az_iload_n dX12_sorts_88 ?_
      refine az_iload dX12_sorts_89 ?_
      refine az_iaddN dX12_sorts_91 ?_
      refine az_lload dX12_sorts_92 ?_
      refine az_lastN (j := off + j) dX12_sorts_94 (by rw [hej]; exact az_up_eq) ?_
      rw [az_s_lN]
      refine hK (az_s bj (off + j) t) (soO_set hOj (by omega)) (soB_set hBj ht) hCj (fun e => soH_end (hHj e) (by omega) ?_) _ (by rw [hej, az_up_up]) j
      first | exact Or.inl (by omega) | exact Or.inr (by rw [show j - 1 = j - gp by omega]; omega)
    · refine az_aload_n dX12_sorts_38 ?_
      refine az_getf (v := .ref 85) dX12_sorts_39 fl_X12_79 (by rw [hej]; exact az_up_ne h64) ?_
      refine az_iload_n dX12_sorts_42 ?_
      refine az_iload dX12_sorts_43 ?_
      refine az_iaddN dX12_sorts_45 ?_
      refine az_iload_n dX12_sorts_46 ?_
      refine az_isub dX12_sorts_47 ?_
      rw [nI_subN (by omega), show off + j - gp = off + (j - gp) by omega]
      refine az_laldN (j := off + (j - gp)) dX12_sorts_48 (by rw [hej]; exact az_up_eq) ?_
      refine az_lload dX12_sorts_49 ?_
      have hb9 := hBj (j - gp) (by omega)
      refine az_lcmp_leN (tgt := 84) dX12_sorts_51 dX12_sorts_52 (fun c51 => ?_) (fun c51 => ?_)
      · refine az_aload_n dX12_sorts_84 ?_
        refine az_getf (v := .ref 85) dX12_sorts_85 fl_X12_79 (by rw [hej]; exact az_up_ne h64) ?_
        refine az_iload_n dX12_sorts_88 ?_
        refine az_iload dX12_sorts_89 ?_
        refine az_iaddN dX12_sorts_91 ?_
        refine az_lload dX12_sorts_92 ?_
        refine az_lastN (j := off + j) dX12_sorts_94 (by rw [hej]; exact az_up_eq) ?_
        rw [az_s_lN]
        refine hK (az_s bj (off + j) t) (soO_set hOj (by omega)) (soB_set hBj ht) hCj (fun e => soH_end (hHj e) (by omega) ?_) _ (by rw [hej, az_up_up]) j
        first | exact Or.inl (by omega) | exact Or.inr (by rw [show j - 1 = j - gp by omega]; omega)
      · refine az_aload_n dX12_sorts_55 ?_
        refine az_getf (v := .ref 85) dX12_sorts_56 fl_X12_79 (by rw [hej]; exact az_up_ne h64) ?_
        refine az_iload_n dX12_sorts_59 ?_
        refine az_iload dX12_sorts_60 ?_
        refine az_iaddN dX12_sorts_62 ?_
        refine az_aload_n dX12_sorts_63 ?_
        refine az_getf (v := .ref 85) dX12_sorts_64 fl_X12_79 (by rw [hej]; exact az_up_ne h64) ?_
        refine az_iload_n dX12_sorts_67 ?_
        refine az_iload dX12_sorts_68 ?_
        refine az_iaddN dX12_sorts_70 ?_
        refine az_iload_n dX12_sorts_71 ?_
        refine az_isub dX12_sorts_72 ?_
        rw [nI_subN (by omega), show off + j - gp = off + (j - gp) by omega]
        refine az_laldN (j := off + (j - gp)) dX12_sorts_73 (by rw [hej]; exact az_up_eq) ?_
        refine az_lastN (j := off + j) dX12_sorts_74 (by rw [hej]; exact az_up_eq) ?_
        rw [az_s_lN]
        refine az_iload dX12_sorts_75 ?_
        refine az_iload_n dX12_sorts_77 ?_
        refine az_isub dX12_sorts_78 ?_
        rw [nI_subN (by omega)]
        refine az_istore (ls' := [(0, .ref 64), (1, .int (nI off)), (2, .int (nI n)), (3, .int (nI gp)), (4, .int (nI ix)), (5, .long (lN t)), (7, .int (nI (j - gp)))]) dX12_sorts_79 ?_
        refine az_goto (tgt := 32) dX12_sorts_81 ?_
        exact ih _ (by omega) (j - gp) (az_s bj (off + j) (bj (off + (j - gp)))) _ gp ix t hgp hK rfl (by omega) hix (soO_set hOj (by omega)) (soB_set hBj (hBj (j - gp) (by omega))) ht (fun b => (cnR_go (by omega) (by omega) (by omega)).trans (hCj b)) (fun e => (by have := soH_go (hHj e) (by omega) (by omega) (by rw [show j - 1 = j - gp by omega]; omega); rw [show j - 1 = j - gp by omega] at this; exact this)) (by rw [hej, az_up_up])
  have loopB : ∀ (k : Nat) (ix : Nat) (bj : Nat → Nat) (h2 : az_Hp) (gp : Nat) (hgp : 1 ≤ gp ∧ gp ≤ 3280) (hK : ∀ b3, soO b3 bh off n → soB b3 off n → soC b3 bh off n → (gp ≤ 1 → soS b3 off n) → ∀ h3, h3 = az_up hp 85 (az_J 19683 (fun j => lN (b3 j))) → ∀ j2 : Nat, az_W mX12_sorts d 0 0 101 [(0, .ref 64), (1, .int (nI off)), (2, .int (nI n)), (3, .int (nI gp)), (4, .int (nI j2))] [] h3 Q), n - ix = k → (gp ≤ ix) → (ix ≤ 30000) → (soO bj bh off n) → (soB bj off n) → (soC bj bh off n) → (gp ≤ 1 → soS bj off ix) → (h2 = az_up hp 85 (az_J 19683 (fun j => lN (bj j)))) → az_W mX12_sorts d 0 0 11 [(0, .ref 64), (1, .int (nI off)), (2, .int (nI n)), (3, .int (nI gp)), (4, .int (nI ix))] [] h2 Q := by
    intro k
    induction k using Nat.strongRecOn with
    | _ k ih =>
    intro ix bj h2 gp hgp hK hk hix hx9 hOj hBj hCj hSj hej
    obtain ⟨hg1, hg2⟩ := hgp
    have hgp : 1 ≤ gp ∧ gp ≤ 3280 := ⟨hg1, hg2⟩
    refine az_iload dX12_sorts_11 ?_
    refine az_iload_n dX12_sorts_13 ?_
    refine az_icmp_geN (tgt := 101) dX12_sorts_14 (fun c14 => ?_) (fun c14 => ?_)
    · exact hK bj hOj hBj hCj (fun e => (by have := hSj e; intro p q a1 a2; exact this p q a1 (by omega))) h2 hej ix
    · refine az_aload_n dX12_sorts_17 ?_
      refine az_getf (v := .ref 85) dX12_sorts_18 fl_X12_79 (by rw [hej]; exact az_up_ne h64) ?_
      refine az_iload_n dX12_sorts_21 ?_
      refine az_iload dX12_sorts_22 ?_
      refine az_iaddN dX12_sorts_24 ?_
      refine az_laldN (j := off + ix) dX12_sorts_25 (by rw [hej]; exact az_up_eq) ?_
      refine az_lstore (ls' := [(0, .ref 64), (1, .int (nI off)), (2, .int (nI n)), (3, .int (nI gp)), (4, .int (nI ix)), (5, .long (lN (bj (off + ix))))]) dX12_sorts_26 ?_
      refine az_iload dX12_sorts_28 ?_
      refine az_istore (ls' := [(0, .ref 64), (1, .int (nI off)), (2, .int (nI n)), (3, .int (nI gp)), (4, .int (nI ix)), (5, .long (lN (bj (off + ix)))), (7, .int (nI ix))]) dX12_sorts_30 ?_
      refine loopC _ ix bj _ gp ix (bj (off + ix)) hgp (fun b3 hO3 hB3 hC3 hS3 h3 e3 j2 => ?_) rfl (Nat.le_refl _) (by omega) hOj hBj (hBj ix (by omega)) (by rw [az_s_same]; exact hCj) (fun e => soH_0 (hSj e)) hej
      refine az_iincN (n := 1) (ls' := [(0, .ref 64), (1, .int (nI off)), (2, .int (nI n)), (3, .int (nI gp)), (4, .int (nI (ix + 1))), (5, .long (lN (bj (off + ix)))), (7, .int (nI j2))]) dX12_sorts_95 ?_
      refine az_goto (tgt := 11) dX12_sorts_98 ?_
      refine az_W.keep (ls' := [(0, .ref 64), (1, .int (nI off)), (2, .int (nI n)), (3, .int (nI gp)), (4, .int (nI (ix + 1)))]) [0, 1, 2, 3, 4] rfl ?_
      exact ih _ (by omega) (ix + 1) b3 h3 gp hgp hK rfl (by omega) (by omega) hO3 hB3 hC3 hS3 e3
  have loopA : ∀ (k : Nat) (gp : Nat) (bj : Nat → Nat) (h2 : az_Hp), gp = k → (soG gp) → (soO bj bh off n) → (soB bj off n) → (soC bj bh off n) → (gp ≤ 0 → soS bj off n) → (h2 = az_up hp 85 (az_J 19683 (fun j => lN (bj j)))) → az_W mX12_sorts d 0 0 4 [(0, .ref 64), (1, .int (nI off)), (2, .int (nI n)), (3, .int (nI gp))] [] h2 Q := by
    intro k
    induction k using Nat.strongRecOn with
    | _ k ih =>
    intro gp bj h2 hk hG hOj hBj hCj hSj hej
    have hg3 := (soG_div hG).2.2
    refine az_iload_n dX12_sorts_4 ?_
    refine az_if_leN (tgt := 108) dX12_sorts_5 (fun c5 => ?_) (fun c5 => ?_)
    · exact az_vret dX12_sorts_108 (by rw [hej]; exact hQ bj hOj (hSj (by omega)) hCj)
    · refine az_iload_n dX12_sorts_8 ?_
      refine az_istore (ls' := [(0, .ref 64), (1, .int (nI off)), (2, .int (nI n)), (3, .int (nI gp)), (4, .int (nI gp))]) dX12_sorts_9 ?_
      refine loopB _ gp bj _ gp ⟨by omega, hg3⟩ (fun b3 hO3 hB3 hC3 hS3 h3 e3 j2 => ?_) rfl (Nat.le_refl _) (by omega) hOj hBj hCj (fun e p q a1 a2 => (by rw [show p = q by omega]; exact Nat.le_refl _)) hej
      refine az_iload_n dX12_sorts_101 ?_
      refine az_iconst (v := nI 3) dX12_sorts_102 ?_
      refine az_idiv dX12_sorts_103 (by decide) ?_
      rw [show nI gp / nI 3 = nI (gp / 3) from nI_div (by omega) (by decide)]
      refine az_istore_n (ls' := [(0, .ref 64), (1, .int (nI off)), (2, .int (nI n)), (3, .int (nI (gp / 3))), (4, .int (nI j2))]) dX12_sorts_104 ?_
      refine az_goto (tgt := 4) dX12_sorts_105 ?_
      refine az_W.keep (ls' := [(0, .ref 64), (1, .int (nI off)), (2, .int (nI n)), (3, .int (nI (gp / 3)))]) [0, 1, 2, 3] rfl ?_
      exact ih _ (by omega) (gp / 3) b3 h3 rfl (soG_div hG).1 hO3 hB3 hC3 (fun e => hS3 ((soG_div hG).2.1 (by omega))) e3
  refine az_M.of rfl (Nat.le_of_ble_eq_true rfl) ?_
  show az_W _ _ _ _ 0 [(0, .ref 64), (1, .int (nI off)), (2, .int (nI n))] [] _ _
  refine az_sipush (v := nI 3280) dX12_sorts_0 ?_
  refine az_istore_n (ls' := [(0, .ref 64), (1, .int (nI off)), (2, .int (nI n)), (3, .int (nI 3280))]) dX12_sorts_3 ?_
  exact loopA _ 3280 bh _ rfl (by unfold soG; decide) (fun _ _ => rfl) hB (fun _ => rfl) (fun e => absurd e (by decide)) (az_up_same h85).symm

