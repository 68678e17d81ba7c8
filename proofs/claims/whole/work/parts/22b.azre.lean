/-! a cell told anew: what stands beyond an array's end is free -/
section AZRE
variable {M : az_Me} {d rc rs pc : Nat} {ls : List (Nat × Value)} {st : List Value} {hp : az_Hp} {Q : Option Value → az_Hp → Prop}
theorem az_W.re {a n : Nat} {ty : FieldType} {f g : Nat → Value} (ha : hp.2 a = some (.inl (ty, n, f))) (h : ∀ j, j < n → f j = g j) (k : az_W M d rc rs pc ls st (az_up hp a (.inl (ty, n, g))) Q) : az_W M d rc rs pc ls st hp Q := by
  intro p l e s m args below meth c D base sa Hb R Z C E H locs cells slots lsC hR hS h1 h2 hl
  refine k p l e s m args below meth c D base sa Hb R Z C E H locs cells slots lsC (hR.up rfl (fun _ _ => rfl) ?_) hS h1 h2 hl
  obtain ⟨cA, g1, g2, g3⟩ := hR.2.2 a _ ha
  refine ⟨cA, g1, g2, g3.trans ?_⟩
  congr 1
  unfold arrV
  congr 1
  apply Array.ext
  · simp
  · intro i h3 h4
    simp at h3
    simp [h i h3]
theorem az_W.reI {a n : Nat} {f g : Nat → Int32} (ha : hp.2 a = some (az_I n f)) (h : ∀ j, j < n → f j = g j) (k : az_W M d rc rs pc ls st (az_up hp a (az_I n g)) Q) : az_W M d rc rs pc ls st hp Q := az_W.re ha (fun j hj => by rw [h j hj]) k
theorem az_W.reJ {a n : Nat} {f g : Nat → Int64} (ha : hp.2 a = some (az_J n f)) (h : ∀ j, j < n → f j = g j) (k : az_W M d rc rs pc ls st (az_up hp a (az_J n g)) Q) : az_W M d rc rs pc ls st hp Q := az_W.re ha (fun j hj => by rw [h j hj]) k
/-- nothing outside lo .. hi has changed, nothing was made -/
def az_fr (h h' : az_Hp) (lo hi : Nat) : Prop := h'.1 = h.1 ∧ ∀ q, (q < lo ∨ hi ≤ q) → h'.2 q = h.2 q
theorem az_fr.rf {h : az_Hp} {lo hi : Nat} : az_fr h h lo hi := ⟨rfl, fun _ _ => rfl⟩
theorem az_fr.up {h h' : az_Hp} {lo hi a : Nat} {c : az_C} (hf : az_fr h h' lo hi) (h1 : lo ≤ a := by omega) (h2 : a < hi := by omega) : az_fr h (az_up h' a c) lo hi :=
  ⟨hf.1, fun q hq => (az_up_ne rfl (by omega)).trans (hf.2 q hq)⟩
theorem az_fr.tr {h h' h'' : az_Hp} {lo hi : Nat} (h1 : az_fr h h' lo hi) (h2 : az_fr h' h'' lo hi) : az_fr h h'' lo hi := ⟨h2.1.trans h1.1, fun q hq => (h2.2 q hq).trans (h1.2 q hq)⟩
theorem az_fr.wide {h h' : az_Hp} {lo hi lo' hi' : Nat} (hf : az_fr h h' lo hi) (h1 : lo' ≤ lo := by omega) (h2 : hi ≤ hi' := by omega) : az_fr h h' lo' hi' := ⟨hf.1, fun q hq => hf.2 q (by omega)⟩
theorem az_fr.at {h h' : az_Hp} {lo hi q : Nat} {x : Option az_C} (hf : az_fr h h' lo hi) (hx : h.2 q = x) (hq : q < lo ∨ hi ≤ q := by omega) : h'.2 q = x := (hf.2 q hq).trans hx
theorem az_W.keep {ls' : List (Nat × Value)} (is : List Nat) (h : ls.filter (fun q => is.contains q.1) = ls') (k : az_W M d rc rs pc ls' st hp Q) : az_W M d rc rs pc ls st hp Q :=
  az_W.sub (fun q hq => by rw [← h] at hq; exact (List.mem_filter.mp hq).1) k
end AZRE
