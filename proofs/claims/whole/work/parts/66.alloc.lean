/-! new arrays, new cells -/
section AZNEW
variable {M : az_Me} {d rc rs pc : Nat} {ls : List (Nat × Value)} {st : List Value} {hp : az_Hp} {Q : Option Value → az_Hp → Prop}
theorem az_ixN {n : Nat} (h : n < 2 ^ 31) : az_ix (nI n) n := ⟨by rw [show (0 : Int32) = nI 0 from rfl, nI_ltI h (by omega)]; omega, nI_clamp h⟩
theorem az_newI {n : Nat} (hdg : decode M.2.1 pc = .ok (.newarray .int, 2)) (kk : az_W M d (rc - 1) (rs - n) (pc + 2) ls (.ref hp.1 :: st) (az_nw hp (az_I n (fun _ => nI 0))) Q) (hn : n ≤ 60000000 := by omega) (hrc : 1 ≤ rc := by omega) (hrs : n ≤ rs := by omega) : az_W M d rc rs pc ls (.int (nI n) :: st) hp Q :=
  az_newa hdg rfl ac_int (az_ixN (by omega)) (show n * 4 ≤ 536870912 by omega) (fun C h => by cases h) (fun _ _ => rfl) hrc hrs kk
theorem az_newJ {n : Nat} (hdg : decode M.2.1 pc = .ok (.newarray .long, 2)) (kk : az_W M d (rc - 1) (rs - n) (pc + 2) ls (.ref hp.1 :: st) (az_nw hp (az_J n (fun _ => lN 0))) Q) (hn : n ≤ 60000000 := by omega) (hrc : 1 ≤ rc := by omega) (hrs : n ≤ rs := by omega) : az_W M d rc rs pc ls (.int (nI n) :: st) hp Q :=
  az_newa hdg rfl ac_long (az_ixN (by omega)) (show n * 8 ≤ 536870912 by omega) (fun C h => by cases h) (fun _ _ => rfl) hrc hrs kk
theorem az_newY {n : Nat} (hdg : decode M.2.1 pc = .ok (.newarray .byte, 2)) (kk : az_W M d (rc - 1) (rs - n) (pc + 2) ls (.ref hp.1 :: st) (az_nw hp (az_Y n (fun _ => nI 0))) Q) (hn : n ≤ 60000000 := by omega) (hrc : 1 ≤ rc := by omega) (hrs : n ≤ rs := by omega) : az_W M d rc rs pc ls (.int (nI n) :: st) hp Q :=
  az_newa hdg rfl ac_byte (az_ixN (by omega)) (show n * 1 ≤ 536870912 by omega) (fun C h => by cases h) (fun _ _ => rfl) hrc hrs kk
theorem az_newZ {n : Nat} (hdg : decode M.2.1 pc = .ok (.newarray .boolean, 2)) (kk : az_W M d (rc - 1) (rs - n) (pc + 2) ls (.ref hp.1 :: st) (az_nw hp (az_Z n (fun _ => nI 0))) Q) (hn : n ≤ 60000000 := by omega) (hrc : 1 ≤ rc := by omega) (hrs : n ≤ rs := by omega) : az_W M d rc rs pc ls (.int (nI n) :: st) hp Q :=
  az_newa hdg rfl ac_boolean (az_ixN (by omega)) (show n * 1 ≤ 536870912 by omega) (fun C h => by cases h) (fun _ _ => rfl) hrc hrs kk
theorem az_nw_eqN {h : az_Hp} {c : az_C} {N : Nat} (hN : h.1 = N := by rfl) : (az_nw h c).2 N = some c := by subst hN; exact if_pos rfl
theorem az_nw_neN {h : az_Hp} {c : az_C} {a N : Nat} {x : Option az_C} (hx : h.2 a = x) (hN : h.1 = N := by rfl) (ha : a ≠ N := by omega) : (az_nw h c).2 a = x := by subst hN; exact (if_neg ha).trans hx
/-- what was there, but [lo, hi), stays; cells may come -/
def az_fn (h h' : az_Hp) (lo hi : Nat) : Prop := h.1 ≤ h'.1 ∧ ∀ q, q < h.1 → (q < lo ∨ hi ≤ q) → h'.2 q = h.2 q
theorem az_fn.rf {h : az_Hp} {lo hi : Nat} : az_fn h h lo hi := ⟨Nat.le_refl _, fun _ _ _ => rfl⟩
theorem az_fr.fn {h h' : az_Hp} {lo hi : Nat} (H : az_fr h h' lo hi) : az_fn h h' lo hi := ⟨Nat.le_of_eq H.1.symm, fun q _ h2 => H.2 q h2⟩
theorem az_fn.tr {h h' h'' : az_Hp} {lo hi : Nat} (h1 : az_fn h h' lo hi) (h2 : az_fn h' h'' lo hi) : az_fn h h'' lo hi := ⟨Nat.le_trans h1.1 h2.1, fun q a b => (h2.2 q (Nat.lt_of_lt_of_le a h1.1) b).trans (h1.2 q a b)⟩
theorem az_fn.wide {h h' : az_Hp} {lo hi lo' hi' : Nat} (hf : az_fn h h' lo hi) (h1 : lo' ≤ lo := by omega) (h2 : hi ≤ hi' := by omega) : az_fn h h' lo' hi' := ⟨hf.1, fun q a b => hf.2 q a (by omega)⟩
theorem az_fn.at {h h' : az_Hp} {lo hi q : Nat} {x : Option az_C} (hf : az_fn h h' lo hi) (hx : h.2 q = x) (hl : q < h.1 := by omega) (hq : q < lo ∨ hi ≤ q := by omega) : h'.2 q = x := (hf.2 q hl hq).trans hx
theorem az_fn.nw {h h' : az_Hp} {lo hi : Nat} {c : az_C} (hf : az_fn h h' lo hi) : az_fn h (az_nw h' c) lo hi := ⟨Nat.le_trans hf.1 (Nat.le_succ _), fun q a b => (if_neg (Nat.ne_of_lt (Nat.lt_of_lt_of_le a hf.1))).trans (hf.2 q a b)⟩
theorem az_fn.up {h h' : az_Hp} {lo hi a : Nat} {c : az_C} (hf : az_fn h h' lo hi) (ha : h.1 ≤ a ∨ (lo ≤ a ∧ a < hi) := by omega) : az_fn h (az_up h' a c) lo hi := ⟨hf.1, fun q p b => (if_neg (by omega)).trans (hf.2 q p b)⟩
end AZNEW

