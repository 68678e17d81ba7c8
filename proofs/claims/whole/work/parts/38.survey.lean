/-! Survey: weights of letters in the end, told from the end -/
def ln_wl (g : Nat → Nat) (l : List Nat) : Nat := (l.map g).sum
theorem wl_app (g : Nat → Nat) (l m : List Nat) : ln_wl g (l ++ m) = ln_wl g l + ln_wl g m := by simp [ln_wl]
theorem wl_one (g : Nat → Nat) (x : Nat) : ln_wl g [x] = g x := by simp [ln_wl]
theorem wl_len (l : List Nat) : ln_wl (fun _ => 1) l = l.length := by
  induction l with
  | nil => rfl
  | cons x l ih =>
    show (1 :: l.map (fun _ => 1)).sum = _
    rw [List.sum_cons, List.length_cons]
    have : (l.map (fun _ => 1)).sum = l.length := ih
    omega
theorem wl_cnt (c : Nat) (l : List Nat) : ln_wl (fun x => if x = c then 1 else 0) l = l.count c := by
  induction l with
  | nil => rfl
  | cons x l ih =>
    show ((if x = c then 1 else 0) :: l.map (fun x => if x = c then 1 else 0)).sum = _
    rw [List.sum_cons, cnt_cons]
    have : (l.map (fun x => if x = c then 1 else 0)).sum = l.count c := ih
    rw [this]
    by_cases h : x = c
    · rw [if_pos h, if_pos h.symm]; omega
    · rw [if_neg h, if_neg (fun q => h q.symm)]; omega
/-- the weight, in the end, of what becomes of x from night k on -/
def ln_wT (w : ln_W) (bs : List Nat) (g : Nat → Nat) (k x : Nat) : Nat := ln_wl g (ln_run w (bs.drop k) [x])
theorem wT_end (w : ln_W) (bs : List Nat) (g : Nat → Nat) (x : Nat) : ln_wT w bs g bs.length x = g x := by
  rw [ln_wT, List.drop_length]; exact wl_one g x
/-- a sum over the first i children, each told by F -/
def ln_ws (w : ln_W) (tb x : Nat) (F : Nat → Nat) (i : Nat) : Nat := (((ln_sub w tb x).take i).map F).sum
theorem ws_step {w : ln_W} {tb x i : Nat} (F : Nat → Nat) (h : i < ln_sz w (tb * 6 + x)) : ln_ws w tb x F (i + 1) = ln_ws w tb x F i + F (ln_ch w ((tb * 6 + x) * 4 + i)) := by
  rw [ln_ws, take_getD (by rw [ln_sub_len]; exact h), sub_getD h]
  simp [ln_ws]
theorem wl_run_flat (w : ln_W) (bs : List Nat) (g : Nat → Nat) (l : List Nat) : ln_wl g (ln_run w bs l) = (l.map (fun y => ln_wl g (ln_run w bs [y]))).sum := by
  induction l with
  | nil => rw [ln_run_empty]; rfl
  | cons y l ih =>
    rw [show y :: l = [y] ++ l from rfl, ln_run_app, wl_app, ih]
    simp
theorem drop_getD {bs : List Nat} {k : Nat} (h : k < bs.length) : bs.drop k = bs.getD k 0 :: bs.drop (k + 1) := by
  rw [List.drop_eq_getElem_cons h, List.getD_eq_getElem?_getD, List.getElem?_eq_getElem h]; rfl
theorem wT_step {w : ln_W} {bs : List Nat} {g : Nat → Nat} {k x : Nat} (h : k < bs.length) : ln_wT w bs g k x = ln_ws w (bs.getD k 0) x (fun y => ln_wT w bs g (k + 1) y) (ln_sz w (bs.getD k 0 * 6 + x)) := by
  rw [ln_wT, drop_getD h, ln_run_cons, ln_ws, ← ln_sub_len, List.take_length, wl_run_flat]
  simp [ln_wT]
theorem cap_sum (C : Nat) (F : Nat → Nat) (l : List Nat) : min ((l.map (fun y => min (F y) C)).sum) C = min ((l.map F).sum) C := by
  induction l with
  | nil => rfl
  | cons y l ih =>
    simp only [List.map_cons, List.sum_cons]
    omega
theorem ws_le {w : ln_W} (hw : ln_ok w) {tb x : Nat} (F : Nat → Nat) (C : Nat) (hF : ∀ y, F y ≤ C) (i : Nat) : ln_ws w tb x F i ≤ 4 * C := by
  have h4 := hw.2.2.2.2.2.2.1 (tb * 6 + x)
  have : ∀ l : List Nat, (l.map F).sum ≤ l.length * C := by
    intro l
    induction l with
    | nil => simp
    | cons y l ih =>
      rw [List.map_cons, List.sum_cons, List.length_cons, Nat.add_mul]
      have := hF y
      omega
  have h1 := this ((ln_sub w tb x).take i)
  have h2 : ((ln_sub w tb x).take i).length ≤ 4 := by rw [List.length_take, ln_sub_len]; omega
  exact Nat.le_trans h1 (Nat.mul_le_mul_right C h2)
theorem lN_ex (f : Nat → Int64) : ∃ g : Nat → Nat, f = fun j => lN (g j) := by
  refine ⟨fun j => (f j).toBitVec.toNat, ?_⟩
  funext j
  apply Int64.toBitVec_inj.mp
  show (f j).toBitVec = BitVec.ofNat 64 _
  simp
