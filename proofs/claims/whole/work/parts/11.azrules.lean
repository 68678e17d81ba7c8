section AZR
variable {M : az_Me} {d rc rs pc : Nat} {ls : List (Nat × Value)} {st : List Value} {hp : az_Hp} {Q : Option Value → az_Hp → Prop}
theorem az_iconst {n : Int} {v : Int32} (hdg : decode M.2.1 pc = .ok (.iconst n, 1))  (k : az_W M d rc rs (pc + 1) ls (.int v :: st) hp Q) (hv : Int32.ofInt n = v := by decide) : az_W M d rc rs pc ls (st) hp Q := by
  intro p l e s m args below meth c D base sa Hb R Z C E H locs cells slots lsC hR hS h1 h2 hl
  exact lv_iconst C.1 C.2.1 hdg hv (k p l e s m args below meth c D base sa Hb R Z C E H locs cells slots lsC hR hS h1 h2 hl)
theorem az_bipush {n : Int} {v : Int32} (hdg : decode M.2.1 pc = .ok (.bipush n, 2))  (k : az_W M d rc rs (pc + 2) ls (.int v :: st) hp Q) (hv : (Int8.ofInt n).toInt32 = v := by decide) : az_W M d rc rs pc ls (st) hp Q := by
  intro p l e s m args below meth c D base sa Hb R Z C E H locs cells slots lsC hR hS h1 h2 hl
  exact lv_bipush C.1 C.2.1 hdg hv (k p l e s m args below meth c D base sa Hb R Z C E H locs cells slots lsC hR hS h1 h2 hl)
theorem az_sipush {n : Int} {v : Int32} (hdg : decode M.2.1 pc = .ok (.sipush n, 3))  (k : az_W M d rc rs (pc + 3) ls (.int v :: st) hp Q) (hv : (Int16.ofInt n).toInt32 = v := by decide) : az_W M d rc rs pc ls (st) hp Q := by
  intro p l e s m args below meth c D base sa Hb R Z C E H locs cells slots lsC hR hS h1 h2 hl
  exact lv_sipush C.1 C.2.1 hdg hv (k p l e s m args below meth c D base sa Hb R Z C E H locs cells slots lsC hR hS h1 h2 hl)
theorem az_lconst {n : Fin 2} {v : Int64} (hdg : decode M.2.1 pc = .ok (.lconst n, 1))  (k : az_W M d rc rs (pc + 1) ls (.long v :: st) hp Q) (hv : Int64.ofNat (n : Nat) = v := by decide) : az_W M d rc rs pc ls (st) hp Q := by
  intro p l e s m args below meth c D base sa Hb R Z C E H locs cells slots lsC hR hS h1 h2 hl
  exact lv_lconst C.1 C.2.1 hdg hv (k p l e s m args below meth c D base sa Hb R Z C E H locs cells slots lsC hR hS h1 h2 hl)
theorem az_iload_n {kn : Fin 4} {x : Int32} (hdg : decode M.2.1 pc = .ok (.iload_n kn, 1))  (k : az_W M d rc rs (pc + 1) ls (.int x :: st) hp Q) (hv : az_get ls (kn : Nat) = some (.int x) := by rfl) : az_W M d rc rs pc ls (st) hp Q := by
  intro p l e s m args below meth c D base sa Hb R Z C E H locs cells slots lsC hR hS h1 h2 hl
  exact lv_iload_n C.1 C.2.1 hdg rfl (az_lv hl (az_get_mem hv)) (k p l e s m args below meth c D base sa Hb R Z C E H locs cells slots lsC hR hS h1 h2 hl)
theorem az_iload {i : Nat} {x : Int32} (hdg : decode M.2.1 pc = .ok (.iload i, 2))  (k : az_W M d rc rs (pc + 2) ls (.int x :: st) hp Q) (hv : az_get ls i = some (.int x) := by rfl) : az_W M d rc rs pc ls (st) hp Q := by
  intro p l e s m args below meth c D base sa Hb R Z C E H locs cells slots lsC hR hS h1 h2 hl
  exact lv_iload C.1 C.2.1 hdg (az_lv hl (az_get_mem hv)) (k p l e s m args below meth c D base sa Hb R Z C E H locs cells slots lsC hR hS h1 h2 hl)
theorem az_lload_n {kn : Fin 4} {x : Int64} (hdg : decode M.2.1 pc = .ok (.lload_n kn, 1))  (k : az_W M d rc rs (pc + 1) ls (.long x :: st) hp Q) (hv : az_get ls (kn : Nat) = some (.long x) := by rfl) : az_W M d rc rs pc ls (st) hp Q := by
  intro p l e s m args below meth c D base sa Hb R Z C E H locs cells slots lsC hR hS h1 h2 hl
  exact lv_lload_n C.1 C.2.1 hdg rfl (az_lv hl (az_get_mem hv)) (k p l e s m args below meth c D base sa Hb R Z C E H locs cells slots lsC hR hS h1 h2 hl)
theorem az_lload {i : Nat} {x : Int64} (hdg : decode M.2.1 pc = .ok (.lload i, 2))  (k : az_W M d rc rs (pc + 2) ls (.long x :: st) hp Q) (hv : az_get ls i = some (.long x) := by rfl) : az_W M d rc rs pc ls (st) hp Q := by
  intro p l e s m args below meth c D base sa Hb R Z C E H locs cells slots lsC hR hS h1 h2 hl
  exact lv_lload C.1 C.2.1 hdg (az_lv hl (az_get_mem hv)) (k p l e s m args below meth c D base sa Hb R Z C E H locs cells slots lsC hR hS h1 h2 hl)
theorem az_aload_n {kn : Fin 4} {x : Nat} (hdg : decode M.2.1 pc = .ok (.aload_n kn, 1))  (k : az_W M d rc rs (pc + 1) ls (.ref x :: st) hp Q) (hv : az_get ls (kn : Nat) = some (.ref x) := by rfl) : az_W M d rc rs pc ls (st) hp Q := by
  intro p l e s m args below meth c D base sa Hb R Z C E H locs cells slots lsC hR hS h1 h2 hl
  exact lv_aload_n C.1 C.2.1 hdg rfl (az_lv hl (az_get_mem hv)) (k p l e s m args below meth c D base sa Hb R Z C E H locs cells slots lsC hR hS h1 h2 hl)
theorem az_aload {i : Nat} {x : Nat} (hdg : decode M.2.1 pc = .ok (.aload i, 2))  (k : az_W M d rc rs (pc + 2) ls (.ref x :: st) hp Q) (hv : az_get ls i = some (.ref x) := by rfl) : az_W M d rc rs pc ls (st) hp Q := by
  intro p l e s m args below meth c D base sa Hb R Z C E H locs cells slots lsC hR hS h1 h2 hl
  exact lv_aload C.1 C.2.1 hdg (az_lv hl (az_get_mem hv)) (k p l e s m args below meth c D base sa Hb R Z C E H locs cells slots lsC hR hS h1 h2 hl)
theorem az_aload_nS {kn : Fin 4} {x : Nat} (hdg : decode M.2.1 pc = .ok (.aload_n kn, 1))  (k : az_W M d rc rs (pc + 1) ls (.retAddr x :: st) hp Q) (hv : az_get ls (kn : Nat) = some (.retAddr x) := by rfl) : az_W M d rc rs pc ls (st) hp Q := by
  intro p l e s m args below meth c D base sa Hb R Z C E H locs cells slots lsC hR hS h1 h2 hl
  exact lv_aload_n C.1 C.2.1 hdg rfl (az_lv hl (az_get_mem hv)) (k p l e s m args below meth c D base sa Hb R Z C E H locs cells slots lsC hR hS h1 h2 hl)
theorem az_aloadS {i : Nat} {x : Nat} (hdg : decode M.2.1 pc = .ok (.aload i, 2))  (k : az_W M d rc rs (pc + 2) ls (.retAddr x :: st) hp Q) (hv : az_get ls i = some (.retAddr x) := by rfl) : az_W M d rc rs pc ls (st) hp Q := by
  intro p l e s m args below meth c D base sa Hb R Z C E H locs cells slots lsC hR hS h1 h2 hl
  exact lv_aload C.1 C.2.1 hdg (az_lv hl (az_get_mem hv)) (k p l e s m args below meth c D base sa Hb R Z C E H locs cells slots lsC hR hS h1 h2 hl)
theorem az_aload_nN {kn : Fin 4} (hdg : decode M.2.1 pc = .ok (.aload_n kn, 1))  (k : az_W M d rc rs (pc + 1) ls (.null :: st) hp Q) (hv : az_get ls (kn : Nat) = some .null := by rfl) : az_W M d rc rs pc ls (st) hp Q := by
  intro p l e s m args below meth c D base sa Hb R Z C E H locs cells slots lsC hR hS h1 h2 hl
  exact lv_aload_nN C.1 C.2.1 hdg rfl (az_lv hl (az_get_mem hv)) (k p l e s m args below meth c D base sa Hb R Z C E H locs cells slots lsC hR hS h1 h2 hl)
theorem az_aloadN {i : Nat} (hdg : decode M.2.1 pc = .ok (.aload i, 2))  (k : az_W M d rc rs (pc + 2) ls (.null :: st) hp Q) (hv : az_get ls i = some .null := by rfl) : az_W M d rc rs pc ls (st) hp Q := by
  intro p l e s m args below meth c D base sa Hb R Z C E H locs cells slots lsC hR hS h1 h2 hl
  exact lv_aloadN C.1 C.2.1 hdg (az_lv hl (az_get_mem hv)) (k p l e s m args below meth c D base sa Hb R Z C E H locs cells slots lsC hR hS h1 h2 hl)
theorem az_iadd {x y : Int32} (hdg : decode M.2.1 pc = .ok (.iadd, 1))  (k : az_W M d rc rs (pc + 1) ls (.int (x + y) :: st) hp Q)  : az_W M d rc rs pc ls (.int y :: .int x :: st) hp Q := by
  intro p l e s m args below meth c D base sa Hb R Z C E H locs cells slots lsC hR hS h1 h2 hl
  exact lv_iadd C.1 C.2.1 hdg (k p l e s m args below meth c D base sa Hb R Z C E H locs cells slots lsC hR hS h1 h2 hl)
theorem az_isub {x y : Int32} (hdg : decode M.2.1 pc = .ok (.isub, 1))  (k : az_W M d rc rs (pc + 1) ls (.int (x - y) :: st) hp Q)  : az_W M d rc rs pc ls (.int y :: .int x :: st) hp Q := by
  intro p l e s m args below meth c D base sa Hb R Z C E H locs cells slots lsC hR hS h1 h2 hl
  exact lv_isub C.1 C.2.1 hdg (k p l e s m args below meth c D base sa Hb R Z C E H locs cells slots lsC hR hS h1 h2 hl)
theorem az_imul {x y : Int32} (hdg : decode M.2.1 pc = .ok (.imul, 1))  (k : az_W M d rc rs (pc + 1) ls (.int (x * y) :: st) hp Q)  : az_W M d rc rs pc ls (.int y :: .int x :: st) hp Q := by
  intro p l e s m args below meth c D base sa Hb R Z C E H locs cells slots lsC hR hS h1 h2 hl
  exact lv_imul C.1 C.2.1 hdg (k p l e s m args below meth c D base sa Hb R Z C E H locs cells slots lsC hR hS h1 h2 hl)
theorem az_iand {x y : Int32} (hdg : decode M.2.1 pc = .ok (.iand, 1))  (k : az_W M d rc rs (pc + 1) ls (.int (x &&& y) :: st) hp Q)  : az_W M d rc rs pc ls (.int y :: .int x :: st) hp Q := by
  intro p l e s m args below meth c D base sa Hb R Z C E H locs cells slots lsC hR hS h1 h2 hl
  exact lv_iand C.1 C.2.1 hdg (k p l e s m args below meth c D base sa Hb R Z C E H locs cells slots lsC hR hS h1 h2 hl)
theorem az_ior {x y : Int32} (hdg : decode M.2.1 pc = .ok (.ior, 1))  (k : az_W M d rc rs (pc + 1) ls (.int (x ||| y) :: st) hp Q)  : az_W M d rc rs pc ls (.int y :: .int x :: st) hp Q := by
  intro p l e s m args below meth c D base sa Hb R Z C E H locs cells slots lsC hR hS h1 h2 hl
  exact lv_ior C.1 C.2.1 hdg (k p l e s m args below meth c D base sa Hb R Z C E H locs cells slots lsC hR hS h1 h2 hl)
theorem az_ixor {x y : Int32} (hdg : decode M.2.1 pc = .ok (.ixor, 1))  (k : az_W M d rc rs (pc + 1) ls (.int (x ^^^ y) :: st) hp Q)  : az_W M d rc rs pc ls (.int y :: .int x :: st) hp Q := by
  intro p l e s m args below meth c D base sa Hb R Z C E H locs cells slots lsC hR hS h1 h2 hl
  exact lv_ixor C.1 C.2.1 hdg (k p l e s m args below meth c D base sa Hb R Z C E H locs cells slots lsC hR hS h1 h2 hl)
theorem az_ishl {x y : Int32} (hdg : decode M.2.1 pc = .ok (.ishl, 1))  (k : az_W M d rc rs (pc + 1) ls (.int (x <<< (y &&& 31)) :: st) hp Q)  : az_W M d rc rs pc ls (.int y :: .int x :: st) hp Q := by
  intro p l e s m args below meth c D base sa Hb R Z C E H locs cells slots lsC hR hS h1 h2 hl
  exact lv_ishl C.1 C.2.1 hdg (k p l e s m args below meth c D base sa Hb R Z C E H locs cells slots lsC hR hS h1 h2 hl)
theorem az_ishr {x y : Int32} (hdg : decode M.2.1 pc = .ok (.ishr, 1))  (k : az_W M d rc rs (pc + 1) ls (.int (x >>> (y &&& 31)) :: st) hp Q)  : az_W M d rc rs pc ls (.int y :: .int x :: st) hp Q := by
  intro p l e s m args below meth c D base sa Hb R Z C E H locs cells slots lsC hR hS h1 h2 hl
  exact lv_ishr C.1 C.2.1 hdg (k p l e s m args below meth c D base sa Hb R Z C E H locs cells slots lsC hR hS h1 h2 hl)
theorem az_ladd {x y : Int64} (hdg : decode M.2.1 pc = .ok (.ladd, 1))  (k : az_W M d rc rs (pc + 1) ls (.long (x + y) :: st) hp Q)  : az_W M d rc rs pc ls (.long y :: .long x :: st) hp Q := by
  intro p l e s m args below meth c D base sa Hb R Z C E H locs cells slots lsC hR hS h1 h2 hl
  exact lv_ladd C.1 C.2.1 hdg (k p l e s m args below meth c D base sa Hb R Z C E H locs cells slots lsC hR hS h1 h2 hl)
theorem az_lsub {x y : Int64} (hdg : decode M.2.1 pc = .ok (.lsub, 1))  (k : az_W M d rc rs (pc + 1) ls (.long (x - y) :: st) hp Q)  : az_W M d rc rs pc ls (.long y :: .long x :: st) hp Q := by
  intro p l e s m args below meth c D base sa Hb R Z C E H locs cells slots lsC hR hS h1 h2 hl
  exact lv_lsub C.1 C.2.1 hdg (k p l e s m args below meth c D base sa Hb R Z C E H locs cells slots lsC hR hS h1 h2 hl)
theorem az_lmul {x y : Int64} (hdg : decode M.2.1 pc = .ok (.lmul, 1))  (k : az_W M d rc rs (pc + 1) ls (.long (x * y) :: st) hp Q)  : az_W M d rc rs pc ls (.long y :: .long x :: st) hp Q := by
  intro p l e s m args below meth c D base sa Hb R Z C E H locs cells slots lsC hR hS h1 h2 hl
  exact lv_lmul C.1 C.2.1 hdg (k p l e s m args below meth c D base sa Hb R Z C E H locs cells slots lsC hR hS h1 h2 hl)
theorem az_land {x y : Int64} (hdg : decode M.2.1 pc = .ok (.land, 1))  (k : az_W M d rc rs (pc + 1) ls (.long (x &&& y) :: st) hp Q)  : az_W M d rc rs pc ls (.long y :: .long x :: st) hp Q := by
  intro p l e s m args below meth c D base sa Hb R Z C E H locs cells slots lsC hR hS h1 h2 hl
  exact lv_land C.1 C.2.1 hdg (k p l e s m args below meth c D base sa Hb R Z C E H locs cells slots lsC hR hS h1 h2 hl)
theorem az_lor {x y : Int64} (hdg : decode M.2.1 pc = .ok (.lor, 1))  (k : az_W M d rc rs (pc + 1) ls (.long (x ||| y) :: st) hp Q)  : az_W M d rc rs pc ls (.long y :: .long x :: st) hp Q := by
  intro p l e s m args below meth c D base sa Hb R Z C E H locs cells slots lsC hR hS h1 h2 hl
  exact lv_lor C.1 C.2.1 hdg (k p l e s m args below meth c D base sa Hb R Z C E H locs cells slots lsC hR hS h1 h2 hl)
theorem az_idiv {x y : Int32} (hdg : decode M.2.1 pc = .ok (.idiv, 1)) (hne : ¬ y = 0) (k : az_W M d rc rs (pc + 1) ls (.int (x / y) :: st) hp Q)  : az_W M d rc rs pc ls (.int y :: .int x :: st) hp Q := by
  intro p l e s m args below meth c D base sa Hb R Z C E H locs cells slots lsC hR hS h1 h2 hl
  exact lv_idiv C.1 C.2.1 hdg hne (k p l e s m args below meth c D base sa Hb R Z C E H locs cells slots lsC hR hS h1 h2 hl)
theorem az_irem {x y : Int32} (hdg : decode M.2.1 pc = .ok (.irem, 1)) (hne : ¬ y = 0) (k : az_W M d rc rs (pc + 1) ls (.int (x - x / y * y) :: st) hp Q)  : az_W M d rc rs pc ls (.int y :: .int x :: st) hp Q := by
  intro p l e s m args below meth c D base sa Hb R Z C E H locs cells slots lsC hR hS h1 h2 hl
  exact lv_irem C.1 C.2.1 hdg hne (k p l e s m args below meth c D base sa Hb R Z C E H locs cells slots lsC hR hS h1 h2 hl)
theorem az_ldiv {x y : Int64} (hdg : decode M.2.1 pc = .ok (.ldiv, 1)) (hne : ¬ y = 0) (k : az_W M d rc rs (pc + 1) ls (.long (x / y) :: st) hp Q)  : az_W M d rc rs pc ls (.long y :: .long x :: st) hp Q := by
  intro p l e s m args below meth c D base sa Hb R Z C E H locs cells slots lsC hR hS h1 h2 hl
  exact lv_ldiv C.1 C.2.1 hdg hne (k p l e s m args below meth c D base sa Hb R Z C E H locs cells slots lsC hR hS h1 h2 hl)
theorem az_lrem {x y : Int64} (hdg : decode M.2.1 pc = .ok (.lrem, 1)) (hne : ¬ y = 0) (k : az_W M d rc rs (pc + 1) ls (.long (x - x / y * y) :: st) hp Q)  : az_W M d rc rs pc ls (.long y :: .long x :: st) hp Q := by
  intro p l e s m args below meth c D base sa Hb R Z C E H locs cells slots lsC hR hS h1 h2 hl
  exact lv_lrem C.1 C.2.1 hdg hne (k p l e s m args below meth c D base sa Hb R Z C E H locs cells slots lsC hR hS h1 h2 hl)
theorem az_i2l {x : Int32} (hdg : decode M.2.1 pc = .ok (.i2l, 1))  (k : az_W M d rc rs (pc + 1) ls (.long x.toInt64 :: st) hp Q)  : az_W M d rc rs pc ls (.int x :: st) hp Q := by
  intro p l e s m args below meth c D base sa Hb R Z C E H locs cells slots lsC hR hS h1 h2 hl
  exact lv_i2l C.1 C.2.1 hdg rfl (k p l e s m args below meth c D base sa Hb R Z C E H locs cells slots lsC hR hS h1 h2 hl)
theorem az_l2i {x : Int64} (hdg : decode M.2.1 pc = .ok (.l2i, 1))  (k : az_W M d rc rs (pc + 1) ls (.int x.toInt32 :: st) hp Q)  : az_W M d rc rs pc ls (.long x :: st) hp Q := by
  intro p l e s m args below meth c D base sa Hb R Z C E H locs cells slots lsC hR hS h1 h2 hl
  exact lv_l2i C.1 C.2.1 hdg rfl (k p l e s m args below meth c D base sa Hb R Z C E H locs cells slots lsC hR hS h1 h2 hl)
theorem az_i2b {x : Int32} (hdg : decode M.2.1 pc = .ok (.i2b, 1))  (k : az_W M d rc rs (pc + 1) ls (.int x.toInt8.toInt32 :: st) hp Q)  : az_W M d rc rs pc ls (.int x :: st) hp Q := by
  intro p l e s m args below meth c D base sa Hb R Z C E H locs cells slots lsC hR hS h1 h2 hl
  exact lv_i2b C.1 C.2.1 hdg rfl (k p l e s m args below meth c D base sa Hb R Z C E H locs cells slots lsC hR hS h1 h2 hl)
theorem az_i2s {x : Int32} (hdg : decode M.2.1 pc = .ok (.i2s, 1))  (k : az_W M d rc rs (pc + 1) ls (.int x.toInt16.toInt32 :: st) hp Q)  : az_W M d rc rs pc ls (.int x :: st) hp Q := by
  intro p l e s m args below meth c D base sa Hb R Z C E H locs cells slots lsC hR hS h1 h2 hl
  exact lv_i2s C.1 C.2.1 hdg rfl (k p l e s m args below meth c D base sa Hb R Z C E H locs cells slots lsC hR hS h1 h2 hl)
theorem az_i2c {x : Int32} (hdg : decode M.2.1 pc = .ok (.i2c, 1))  (k : az_W M d rc rs (pc + 1) ls (.int (x.toUInt32 % 65536).toInt32 :: st) hp Q)  : az_W M d rc rs pc ls (.int x :: st) hp Q := by
  intro p l e s m args below meth c D base sa Hb R Z C E H locs cells slots lsC hR hS h1 h2 hl
  exact lv_i2c C.1 C.2.1 hdg rfl (k p l e s m args below meth c D base sa Hb R Z C E H locs cells slots lsC hR hS h1 h2 hl)
theorem az_iushr {x y : Int32} (hdg : decode M.2.1 pc = .ok (.iushr, 1))  (k : az_W M d rc rs (pc + 1) ls (.int (x.toUInt32 >>> (y.toUInt32 &&& Int32.toUInt32 31)).toInt32 :: st) hp Q)  : az_W M d rc rs pc ls (.int y :: .int x :: st) hp Q := by
  intro p l e s m args below meth c D base sa Hb R Z C E H locs cells slots lsC hR hS h1 h2 hl
  exact lv_iushr C.1 C.2.1 hdg rfl (k p l e s m args below meth c D base sa Hb R Z C E H locs cells slots lsC hR hS h1 h2 hl)
theorem az_lushr {x : Int64} {y : Int32} (hdg : decode M.2.1 pc = .ok (.lushr, 1))  (k : az_W M d rc rs (pc + 1) ls (.long (x.toUInt64 >>> (y.toInt64.toUInt64 &&& Int64.toUInt64 63)).toInt64 :: st) hp Q)  : az_W M d rc rs pc ls (.int y :: .long x :: st) hp Q := by
  intro p l e s m args below meth c D base sa Hb R Z C E H locs cells slots lsC hR hS h1 h2 hl
  exact lv_lushr C.1 C.2.1 hdg rfl (k p l e s m args below meth c D base sa Hb R Z C E H locs cells slots lsC hR hS h1 h2 hl)
theorem az_lshl {x : Int64} {y : Int32} (hdg : decode M.2.1 pc = .ok (.lshl, 1))  (k : az_W M d rc rs (pc + 1) ls (.long (x <<< (y.toInt64 &&& 63)) :: st) hp Q)  : az_W M d rc rs pc ls (.int y :: .long x :: st) hp Q := by
  intro p l e s m args below meth c D base sa Hb R Z C E H locs cells slots lsC hR hS h1 h2 hl
  exact lv_lshl C.1 C.2.1 hdg rfl (k p l e s m args below meth c D base sa Hb R Z C E H locs cells slots lsC hR hS h1 h2 hl)
theorem az_lshr {x : Int64} {y : Int32} (hdg : decode M.2.1 pc = .ok (.lshr, 1))  (k : az_W M d rc rs (pc + 1) ls (.long (x >>> (y.toInt64 &&& 63)) :: st) hp Q)  : az_W M d rc rs pc ls (.int y :: .long x :: st) hp Q := by
  intro p l e s m args below meth c D base sa Hb R Z C E H locs cells slots lsC hR hS h1 h2 hl
  exact lv_lshr C.1 C.2.1 hdg rfl (k p l e s m args below meth c D base sa Hb R Z C E H locs cells slots lsC hR hS h1 h2 hl)
theorem az_lcmp {x y : Int64} (hdg : decode M.2.1 pc = .ok (.lcmp, 1))  (k : az_W M d rc rs (pc + 1) ls (.int (lg_cmp x y) :: st) hp Q)  : az_W M d rc rs pc ls (.long y :: .long x :: st) hp Q := by
  intro p l e s m args below meth c D base sa Hb R Z C E H locs cells slots lsC hR hS h1 h2 hl
  exact W.lcmp C.1 C.2.1 hdg (k p l e s m args below meth c D base sa Hb R Z C E H locs cells slots lsC hR hS h1 h2 hl)
theorem az_dup {v : Value} (hdg : decode M.2.1 pc = .ok (.dup, 1))  (k : az_W M d rc rs (pc + 1) ls (v :: v :: st) hp Q) (hv : v.category = 1 := by rfl) : az_W M d rc rs pc ls (v :: st) hp Q := by
  intro p l e s m args below meth c D base sa Hb R Z C E H locs cells slots lsC hR hS h1 h2 hl
  exact lv_dup C.1 C.2.1 hdg ((az_tr_cat _ _ _).trans hv) (k p l e s m args below meth c D base sa Hb R Z C E H locs cells slots lsC hR hS h1 h2 hl)
theorem az_pop {v : Value} (hdg : decode M.2.1 pc = .ok (.pop, 1))  (k : az_W M d rc rs (pc + 1) ls (st) hp Q) (hv : v.category = 1 := by rfl) : az_W M d rc rs pc ls (v :: st) hp Q := by
  intro p l e s m args below meth c D base sa Hb R Z C E H locs cells slots lsC hR hS h1 h2 hl
  exact lv_pop C.1 C.2.1 hdg ((az_tr_cat _ _ _).trans hv) (k p l e s m args below meth c D base sa Hb R Z C E H locs cells slots lsC hR hS h1 h2 hl)
theorem az_dup2_11 {v w : Value} (hdg : decode M.2.1 pc = .ok (.dup2, 1))  (k : az_W M d rc rs (pc + 1) ls (v :: w :: v :: w :: st) hp Q) (hv : v.category = 1 := by rfl) (hw : w.category = 1 := by rfl) : az_W M d rc rs pc ls (v :: w :: st) hp Q := by
  intro p l e s m args below meth c D base sa Hb R Z C E H locs cells slots lsC hR hS h1 h2 hl
  exact lv_dup2_11 C.1 C.2.1 hdg ((az_tr_cat _ _ _).trans hv) ((az_tr_cat _ _ _).trans hw) (k p l e s m args below meth c D base sa Hb R Z C E H locs cells slots lsC hR hS h1 h2 hl)
theorem az_dup2_2 {v : Value} (hdg : decode M.2.1 pc = .ok (.dup2, 1))  (k : az_W M d rc rs (pc + 1) ls (v :: v :: st) hp Q) (hv : v.category = 2 := by rfl) : az_W M d rc rs pc ls (v :: st) hp Q := by
  intro p l e s m args below meth c D base sa Hb R Z C E H locs cells slots lsC hR hS h1 h2 hl
  exact lv_dup2_2 C.1 C.2.1 hdg ((az_tr_cat _ _ _).trans hv) (k p l e s m args below meth c D base sa Hb R Z C E H locs cells slots lsC hR hS h1 h2 hl)
theorem az_pop2_2 {v : Value} (hdg : decode M.2.1 pc = .ok (.pop2, 1))  (k : az_W M d rc rs (pc + 1) ls (st) hp Q) (hv : v.category = 2 := by rfl) : az_W M d rc rs pc ls (v :: st) hp Q := by
  intro p l e s m args below meth c D base sa Hb R Z C E H locs cells slots lsC hR hS h1 h2 hl
  exact lv_pop2_2 C.1 C.2.1 hdg ((az_tr_cat _ _ _).trans hv) (k p l e s m args below meth c D base sa Hb R Z C E H locs cells slots lsC hR hS h1 h2 hl)
theorem az_null  (hdg : decode M.2.1 pc = .ok (.aconst_null, 1))  (k : az_W M d rc rs (pc + 1) ls (.null :: st) hp Q)  : az_W M d rc rs pc ls (st) hp Q := by
  intro p l e s m args below meth c D base sa Hb R Z C E H locs cells slots lsC hR hS h1 h2 hl
  exact lv_null C.1 C.2.1 hdg (k p l e s m args below meth c D base sa Hb R Z C E H locs cells slots lsC hR hS h1 h2 hl)
theorem az_istore_n {kn : Fin 4} {x : Int32} {ls' : List (Nat × Value)} (hdg : decode M.2.1 pc = .ok (.istore_n kn, 1)) (k : az_W M d rc rs (pc + 1) ls' st hp Q) (hs : az_set1 ls (kn : Nat) (.int x) = ls' := by rfl) (hn : (kn : Nat) < M.2.2.1 := by decide) : az_W M d rc rs pc ls (.int x :: st) hp Q := by
  intro p l e s m args below meth c D base sa Hb R Z C E H locs cells slots lsC hR hS h1 h2 hl
  exact lv_istore_n C.1 C.2.1 hdg rfl hl hn rfl (fun ls9 hl9 => k p l e s m args below meth c D base sa Hb R Z C E H locs cells slots ls9 hR hS h1 h2 (az_put1 hs hl9))
theorem az_istore {i : Nat} {x : Int32} {ls' : List (Nat × Value)} (hdg : decode M.2.1 pc = .ok (.istore i, 2)) (k : az_W M d rc rs (pc + 2) ls' st hp Q) (hs : az_set1 ls i (.int x) = ls' := by rfl) (hn : i < M.2.2.1 := by decide) : az_W M d rc rs pc ls (.int x :: st) hp Q := by
  intro p l e s m args below meth c D base sa Hb R Z C E H locs cells slots lsC hR hS h1 h2 hl
  exact lv_istore C.1 C.2.1 hdg  hl hn rfl (fun ls9 hl9 => k p l e s m args below meth c D base sa Hb R Z C E H locs cells slots ls9 hR hS h1 h2 (az_put1 hs hl9))
theorem az_lstore_n {kn : Fin 4} {x : Int64} {ls' : List (Nat × Value)} (hdg : decode M.2.1 pc = .ok (.lstore_n kn, 1)) (k : az_W M d rc rs (pc + 1) ls' st hp Q) (hs : az_set2 ls (kn : Nat) (.long x) = ls' := by rfl) (hn : (kn : Nat) + 1 < M.2.2.1 := by decide) : az_W M d rc rs pc ls (.long x :: st) hp Q := by
  intro p l e s m args below meth c D base sa Hb R Z C E H locs cells slots lsC hR hS h1 h2 hl
  exact lv_lstore_n C.1 C.2.1 hdg rfl hl hn rfl (fun ls9 hl9 => k p l e s m args below meth c D base sa Hb R Z C E H locs cells slots ls9 hR hS h1 h2 (az_put2 hs hl9))
theorem az_lstore {i : Nat} {x : Int64} {ls' : List (Nat × Value)} (hdg : decode M.2.1 pc = .ok (.lstore i, 2)) (k : az_W M d rc rs (pc + 2) ls' st hp Q) (hs : az_set2 ls i (.long x) = ls' := by rfl) (hn : i + 1 < M.2.2.1 := by decide) : az_W M d rc rs pc ls (.long x :: st) hp Q := by
  intro p l e s m args below meth c D base sa Hb R Z C E H locs cells slots lsC hR hS h1 h2 hl
  exact lv_lstore C.1 C.2.1 hdg  hl hn rfl (fun ls9 hl9 => k p l e s m args below meth c D base sa Hb R Z C E H locs cells slots ls9 hR hS h1 h2 (az_put2 hs hl9))
theorem az_astore_n {kn : Fin 4} {x : Nat} {ls' : List (Nat × Value)} (hdg : decode M.2.1 pc = .ok (.astore_n kn, 1)) (k : az_W M d rc rs (pc + 1) ls' st hp Q) (hs : az_set1 ls (kn : Nat) (.ref x) = ls' := by rfl) (hn : (kn : Nat) < M.2.2.1 := by decide) : az_W M d rc rs pc ls (.ref x :: st) hp Q := by
  intro p l e s m args below meth c D base sa Hb R Z C E H locs cells slots lsC hR hS h1 h2 hl
  exact lv_astore_n C.1 C.2.1 hdg rfl hl hn rfl (fun ls9 hl9 => k p l e s m args below meth c D base sa Hb R Z C E H locs cells slots ls9 hR hS h1 h2 (az_put1 hs hl9))
theorem az_astore {i : Nat} {x : Nat} {ls' : List (Nat × Value)} (hdg : decode M.2.1 pc = .ok (.astore i, 2)) (k : az_W M d rc rs (pc + 2) ls' st hp Q) (hs : az_set1 ls i (.ref x) = ls' := by rfl) (hn : i < M.2.2.1 := by decide) : az_W M d rc rs pc ls (.ref x :: st) hp Q := by
  intro p l e s m args below meth c D base sa Hb R Z C E H locs cells slots lsC hR hS h1 h2 hl
  exact lv_astore C.1 C.2.1 hdg  hl hn rfl (fun ls9 hl9 => k p l e s m args below meth c D base sa Hb R Z C E H locs cells slots ls9 hR hS h1 h2 (az_put1 hs hl9))
theorem az_astore_nN {kn : Fin 4} {ls' : List (Nat × Value)} (hdg : decode M.2.1 pc = .ok (.astore_n kn, 1)) (k : az_W M d rc rs (pc + 1) ls' st hp Q) (hs : az_set1 ls (kn : Nat) (.null) = ls' := by rfl) (hn : (kn : Nat) < M.2.2.1 := by decide) : az_W M d rc rs pc ls (.null :: st) hp Q := by
  intro p l e s m args below meth c D base sa Hb R Z C E H locs cells slots lsC hR hS h1 h2 hl
  exact lv_astore_nN C.1 C.2.1 hdg rfl hl hn rfl (fun ls9 hl9 => k p l e s m args below meth c D base sa Hb R Z C E H locs cells slots ls9 hR hS h1 h2 (az_put1 hs hl9))
theorem az_astoreN {i : Nat} {ls' : List (Nat × Value)} (hdg : decode M.2.1 pc = .ok (.astore i, 2)) (k : az_W M d rc rs (pc + 2) ls' st hp Q) (hs : az_set1 ls i (.null) = ls' := by rfl) (hn : i < M.2.2.1 := by decide) : az_W M d rc rs pc ls (.null :: st) hp Q := by
  intro p l e s m args below meth c D base sa Hb R Z C E H locs cells slots lsC hR hS h1 h2 hl
  exact lv_astoreN C.1 C.2.1 hdg  hl hn rfl (fun ls9 hl9 => k p l e s m args below meth c D base sa Hb R Z C E H locs cells slots ls9 hR hS h1 h2 (az_put1 hs hl9))
theorem az_iinc {i : Nat} {n : Int} {x v : Int32} {ls' : List (Nat × Value)} (hdg : decode M.2.1 pc = .ok (.iinc i n, 3)) (k : az_W M d rc rs (pc + 3) ls' st hp Q) (hv : az_get ls i = some (.int x) := by rfl) (hx : x + Int32.ofInt n = v := by rfl) (hs : az_set1 ls i (.int v) = ls' := by rfl) (hn : i < M.2.2.1 := by decide) : az_W M d rc rs pc ls st hp Q := by
  intro p l e s m args below meth c D base sa Hb R Z C E H locs cells slots lsC hR hS h1 h2 hl
  obtain ⟨k0, hk0⟩ := List.getElem?_of_mem (List.mem_map.mpr ⟨(i, .int x), az_get_mem hv, rfl⟩ : (i, Value.int x) ∈ az_ls base sa ls)
  exact lv_iinc C.1 C.2.1 hdg hl hk0 hx hn rfl (fun ls9 hl9 => k p l e s m args below meth c D base sa Hb R Z C E H locs cells slots ls9 hR hS h1 h2 (az_put1 hs hl9))
theorem az_if_eq {x : Int32} {off : Int} {tgt : Nat} (hdg : decode M.2.1 pc = .ok (.ifCond .eq off, 3)) (kt : x = 0 → az_W M d rc rs tgt ls st hp Q) (kf : ¬ x = 0 → az_W M d rc rs (pc + 3) ls st hp Q) (ht : (pc : Int) + off = (tgt : Int) := by decide) : az_W M d rc rs pc ls (.int x :: st) hp Q := by
  intro p l e s m args below meth c D base sa Hb R Z C E H locs cells slots lsC hR hS h1 h2 hl
  exact lv_if_eq C.1 C.2.1 hdg ht (fun h => kt h p l e s m args below meth c D base sa Hb R Z C E H locs cells slots lsC hR hS h1 h2 hl) (fun h => kf h p l e s m args below meth c D base sa Hb R Z C E H locs cells slots lsC hR hS h1 h2 hl)
theorem az_icmp_eq {x y : Int32} {off : Int} {tgt : Nat} (hdg : decode M.2.1 pc = .ok (.if_icmp .eq off, 3)) (kt : x = y → az_W M d rc rs tgt ls st hp Q) (kf : ¬ x = y → az_W M d rc rs (pc + 3) ls st hp Q) (ht : (pc : Int) + off = (tgt : Int) := by decide) : az_W M d rc rs pc ls (.int y :: .int x :: st) hp Q := by
  intro p l e s m args below meth c D base sa Hb R Z C E H locs cells slots lsC hR hS h1 h2 hl
  exact lv_icmp_eq C.1 C.2.1 hdg ht (fun h => kt h p l e s m args below meth c D base sa Hb R Z C E H locs cells slots lsC hR hS h1 h2 hl) (fun h => kf h p l e s m args below meth c D base sa Hb R Z C E H locs cells slots lsC hR hS h1 h2 hl)
theorem az_if_ne {x : Int32} {off : Int} {tgt : Nat} (hdg : decode M.2.1 pc = .ok (.ifCond .ne off, 3)) (kt : ¬ x = 0 → az_W M d rc rs tgt ls st hp Q) (kf : x = 0 → az_W M d rc rs (pc + 3) ls st hp Q) (ht : (pc : Int) + off = (tgt : Int) := by decide) : az_W M d rc rs pc ls (.int x :: st) hp Q := by
  intro p l e s m args below meth c D base sa Hb R Z C E H locs cells slots lsC hR hS h1 h2 hl
  exact lv_if_ne C.1 C.2.1 hdg ht (fun h => kt h p l e s m args below meth c D base sa Hb R Z C E H locs cells slots lsC hR hS h1 h2 hl) (fun h => kf h p l e s m args below meth c D base sa Hb R Z C E H locs cells slots lsC hR hS h1 h2 hl)
theorem az_icmp_ne {x y : Int32} {off : Int} {tgt : Nat} (hdg : decode M.2.1 pc = .ok (.if_icmp .ne off, 3)) (kt : ¬ x = y → az_W M d rc rs tgt ls st hp Q) (kf : x = y → az_W M d rc rs (pc + 3) ls st hp Q) (ht : (pc : Int) + off = (tgt : Int) := by decide) : az_W M d rc rs pc ls (.int y :: .int x :: st) hp Q := by
  intro p l e s m args below meth c D base sa Hb R Z C E H locs cells slots lsC hR hS h1 h2 hl
  exact lv_icmp_ne C.1 C.2.1 hdg ht (fun h => kt h p l e s m args below meth c D base sa Hb R Z C E H locs cells slots lsC hR hS h1 h2 hl) (fun h => kf h p l e s m args below meth c D base sa Hb R Z C E H locs cells slots lsC hR hS h1 h2 hl)
theorem az_if_lt {x : Int32} {off : Int} {tgt : Nat} (hdg : decode M.2.1 pc = .ok (.ifCond .lt off, 3)) (kt : x < 0 → az_W M d rc rs tgt ls st hp Q) (kf : ¬ x < 0 → az_W M d rc rs (pc + 3) ls st hp Q) (ht : (pc : Int) + off = (tgt : Int) := by decide) : az_W M d rc rs pc ls (.int x :: st) hp Q := by
  intro p l e s m args below meth c D base sa Hb R Z C E H locs cells slots lsC hR hS h1 h2 hl
  exact lv_if_lt C.1 C.2.1 hdg ht (fun h => kt h p l e s m args below meth c D base sa Hb R Z C E H locs cells slots lsC hR hS h1 h2 hl) (fun h => kf h p l e s m args below meth c D base sa Hb R Z C E H locs cells slots lsC hR hS h1 h2 hl)
theorem az_icmp_lt {x y : Int32} {off : Int} {tgt : Nat} (hdg : decode M.2.1 pc = .ok (.if_icmp .lt off, 3)) (kt : x < y → az_W M d rc rs tgt ls st hp Q) (kf : ¬ x < y → az_W M d rc rs (pc + 3) ls st hp Q) (ht : (pc : Int) + off = (tgt : Int) := by decide) : az_W M d rc rs pc ls (.int y :: .int x :: st) hp Q := by
  intro p l e s m args below meth c D base sa Hb R Z C E H locs cells slots lsC hR hS h1 h2 hl
  exact lv_icmp_lt C.1 C.2.1 hdg ht (fun h => kt h p l e s m args below meth c D base sa Hb R Z C E H locs cells slots lsC hR hS h1 h2 hl) (fun h => kf h p l e s m args below meth c D base sa Hb R Z C E H locs cells slots lsC hR hS h1 h2 hl)
theorem az_if_ge {x : Int32} {off : Int} {tgt : Nat} (hdg : decode M.2.1 pc = .ok (.ifCond .ge off, 3)) (kt : 0 ≤ x → az_W M d rc rs tgt ls st hp Q) (kf : ¬ 0 ≤ x → az_W M d rc rs (pc + 3) ls st hp Q) (ht : (pc : Int) + off = (tgt : Int) := by decide) : az_W M d rc rs pc ls (.int x :: st) hp Q := by
  intro p l e s m args below meth c D base sa Hb R Z C E H locs cells slots lsC hR hS h1 h2 hl
  exact lv_if_ge C.1 C.2.1 hdg ht (fun h => kt h p l e s m args below meth c D base sa Hb R Z C E H locs cells slots lsC hR hS h1 h2 hl) (fun h => kf h p l e s m args below meth c D base sa Hb R Z C E H locs cells slots lsC hR hS h1 h2 hl)
theorem az_icmp_ge {x y : Int32} {off : Int} {tgt : Nat} (hdg : decode M.2.1 pc = .ok (.if_icmp .ge off, 3)) (kt : y ≤ x → az_W M d rc rs tgt ls st hp Q) (kf : ¬ y ≤ x → az_W M d rc rs (pc + 3) ls st hp Q) (ht : (pc : Int) + off = (tgt : Int) := by decide) : az_W M d rc rs pc ls (.int y :: .int x :: st) hp Q := by
  intro p l e s m args below meth c D base sa Hb R Z C E H locs cells slots lsC hR hS h1 h2 hl
  exact lv_icmp_ge C.1 C.2.1 hdg ht (fun h => kt h p l e s m args below meth c D base sa Hb R Z C E H locs cells slots lsC hR hS h1 h2 hl) (fun h => kf h p l e s m args below meth c D base sa Hb R Z C E H locs cells slots lsC hR hS h1 h2 hl)
theorem az_if_gt {x : Int32} {off : Int} {tgt : Nat} (hdg : decode M.2.1 pc = .ok (.ifCond .gt off, 3)) (kt : 0 < x → az_W M d rc rs tgt ls st hp Q) (kf : ¬ 0 < x → az_W M d rc rs (pc + 3) ls st hp Q) (ht : (pc : Int) + off = (tgt : Int) := by decide) : az_W M d rc rs pc ls (.int x :: st) hp Q := by
  intro p l e s m args below meth c D base sa Hb R Z C E H locs cells slots lsC hR hS h1 h2 hl
  exact lv_if_gt C.1 C.2.1 hdg ht (fun h => kt h p l e s m args below meth c D base sa Hb R Z C E H locs cells slots lsC hR hS h1 h2 hl) (fun h => kf h p l e s m args below meth c D base sa Hb R Z C E H locs cells slots lsC hR hS h1 h2 hl)
theorem az_icmp_gt {x y : Int32} {off : Int} {tgt : Nat} (hdg : decode M.2.1 pc = .ok (.if_icmp .gt off, 3)) (kt : y < x → az_W M d rc rs tgt ls st hp Q) (kf : ¬ y < x → az_W M d rc rs (pc + 3) ls st hp Q) (ht : (pc : Int) + off = (tgt : Int) := by decide) : az_W M d rc rs pc ls (.int y :: .int x :: st) hp Q := by
  intro p l e s m args below meth c D base sa Hb R Z C E H locs cells slots lsC hR hS h1 h2 hl
  exact lv_icmp_gt C.1 C.2.1 hdg ht (fun h => kt h p l e s m args below meth c D base sa Hb R Z C E H locs cells slots lsC hR hS h1 h2 hl) (fun h => kf h p l e s m args below meth c D base sa Hb R Z C E H locs cells slots lsC hR hS h1 h2 hl)
theorem az_if_le {x : Int32} {off : Int} {tgt : Nat} (hdg : decode M.2.1 pc = .ok (.ifCond .le off, 3)) (kt : x ≤ 0 → az_W M d rc rs tgt ls st hp Q) (kf : ¬ x ≤ 0 → az_W M d rc rs (pc + 3) ls st hp Q) (ht : (pc : Int) + off = (tgt : Int) := by decide) : az_W M d rc rs pc ls (.int x :: st) hp Q := by
  intro p l e s m args below meth c D base sa Hb R Z C E H locs cells slots lsC hR hS h1 h2 hl
  exact lv_if_le C.1 C.2.1 hdg ht (fun h => kt h p l e s m args below meth c D base sa Hb R Z C E H locs cells slots lsC hR hS h1 h2 hl) (fun h => kf h p l e s m args below meth c D base sa Hb R Z C E H locs cells slots lsC hR hS h1 h2 hl)
theorem az_icmp_le {x y : Int32} {off : Int} {tgt : Nat} (hdg : decode M.2.1 pc = .ok (.if_icmp .le off, 3)) (kt : x ≤ y → az_W M d rc rs tgt ls st hp Q) (kf : ¬ x ≤ y → az_W M d rc rs (pc + 3) ls st hp Q) (ht : (pc : Int) + off = (tgt : Int) := by decide) : az_W M d rc rs pc ls (.int y :: .int x :: st) hp Q := by
  intro p l e s m args below meth c D base sa Hb R Z C E H locs cells slots lsC hR hS h1 h2 hl
  exact lv_icmp_le C.1 C.2.1 hdg ht (fun h => kt h p l e s m args below meth c D base sa Hb R Z C E H locs cells slots lsC hR hS h1 h2 hl) (fun h => kf h p l e s m args below meth c D base sa Hb R Z C E H locs cells slots lsC hR hS h1 h2 hl)
theorem az_goto {off : Int} {tgt : Nat} (hdg : decode M.2.1 pc = .ok (.goto off, 3)) (k : az_W M d rc rs tgt ls st hp Q) (ht : (pc : Int) + off = (tgt : Int) := by decide) : az_W M d rc rs pc ls st hp Q := by
  intro p l e s m args below meth c D base sa Hb R Z C E H locs cells slots lsC hR hS h1 h2 hl
  exact lv_goto C.1 C.2.1 hdg ht (k p l e s m args below meth c D base sa Hb R Z C E H locs cells slots lsC hR hS h1 h2 hl)
theorem az_ifnonnull {x : Nat} {off : Int} {tgt : Nat} (hdg : decode M.2.1 pc = .ok (.ifnonnull off, 3)) (k : az_W M d rc rs tgt ls st hp Q) (ht : (pc : Int) + off = (tgt : Int) := by decide) : az_W M d rc rs pc ls (.ref x :: st) hp Q := by
  intro p l e s m args below meth c D base sa Hb R Z C E H locs cells slots lsC hR hS h1 h2 hl
  exact lv_ifnonnull C.1 C.2.1 hdg ht (k p l e s m args below meth c D base sa Hb R Z C E H locs cells slots lsC hR hS h1 h2 hl)
theorem az_ifnonnullN {off : Int} (hdg : decode M.2.1 pc = .ok (.ifnonnull off, 3)) (k : az_W M d rc rs (pc + 3) ls st hp Q) : az_W M d rc rs pc ls (.null :: st) hp Q := by
  intro p l e s m args below meth c D base sa Hb R Z C E H locs cells slots lsC hR hS h1 h2 hl
  exact lv_ifnonnullN C.1 C.2.1 hdg (k p l e s m args below meth c D base sa Hb R Z C E H locs cells slots lsC hR hS h1 h2 hl)
theorem az_tswIn {dflt lo hi : Int} {offs : Array Int} {len : Nat} {x : Int32} {off : Int} {tgt : Nat} (hdg : decode M.2.1 pc = .ok (.tableswitch dflt lo hi offs, len)) (h1 : ¬ x.toInt < lo) (h2 : ¬ hi < x.toInt) (ho : offs[(x.toInt - lo).toNat]? = some off) (ht : (pc : Int) + off = (tgt : Int)) (k : az_W M d rc rs tgt ls st hp Q) : az_W M d rc rs pc ls (.int x :: st) hp Q := by
  intro p l e s m args below meth c D base sa Hb R Z C E H locs cells slots lsC hR hS g1 g2 hl
  exact lv_tableIn C.1 C.2.1 hdg h1 h2 ho ht (k p l e s m args below meth c D base sa Hb R Z C E H locs cells slots lsC hR hS g1 g2 hl)
theorem az_tswOut {dflt lo hi : Int} {offs : Array Int} {len : Nat} {x : Int32} {tgt : Nat} (hdg : decode M.2.1 pc = .ok (.tableswitch dflt lo hi offs, len)) (h : x.toInt < lo ∨ hi < x.toInt) (ht : (pc : Int) + dflt = (tgt : Int)) (k : az_W M d rc rs tgt ls st hp Q) : az_W M d rc rs pc ls (.int x :: st) hp Q := by
  intro p l e s m args below meth c D base sa Hb R Z C E H locs cells slots lsC hR hS h1 h2 hl
  exact lv_tableOut C.1 C.2.1 hdg h ht (k p l e s m args below meth c D base sa Hb R Z C E H locs cells slots lsC hR hS h1 h2 hl)
theorem az_ldc {index : Nat} {v : Int32} (hdg : decode M.2.1 pc = .ok (.ldc index, 2)) (hc : Cond.constant M.1.cls index v ∈ az_tbl) (k : az_W M d rc rs (pc + 2) ls (.int v :: st) hp Q) : az_W M d rc rs pc ls st hp Q := by
  intro p l e s m args below meth c D base sa Hb R Z C E H locs cells slots lsC hR hS h1 h2 hl
  exact lv_ldc C.1 C.2.1 C.2.2.2.2.1 (C.2.2.2.2.2.1 _ (List.mem_cons_of_mem _ hc)) hdg (k p l e s m args below meth c D base sa Hb R Z C E H locs cells slots lsC hR hS h1 h2 hl)
theorem az_ldcw {index : Nat} {v : Int32} (hdg : decode M.2.1 pc = .ok (.ldc_w index, 3)) (hc : Cond.constant M.1.cls index v ∈ az_tbl) (k : az_W M d rc rs (pc + 3) ls (.int v :: st) hp Q) : az_W M d rc rs pc ls st hp Q := by
  intro p l e s m args below meth c D base sa Hb R Z C E H locs cells slots lsC hR hS h1 h2 hl
  exact lv_ldcw C.1 C.2.1 C.2.2.2.2.1 (C.2.2.2.2.2.1 _ (List.mem_cons_of_mem _ hc)) hdg (k p l e s m args below meth c D base sa Hb R Z C E H locs cells slots lsC hR hS h1 h2 hl)
theorem az_ldc2 {index : Nat} {v : Int64} (hdg : decode M.2.1 pc = .ok (.ldc2_w index, 3)) (hc : Cond.constantLong M.1.cls index v ∈ az_tbl) (k : az_W M d rc rs (pc + 3) ls (.long v :: st) hp Q) : az_W M d rc rs pc ls st hp Q := by
  intro p l e s m args below meth c D base sa Hb R Z C E H locs cells slots lsC hR hS h1 h2 hl
  exact lv_ldc2 C.1 C.2.1 C.2.2.2.2.1 (C.2.2.2.2.2.1 _ (List.mem_cons_of_mem _ hc)) hdg (k p l e s m args below meth c D base sa Hb R Z C E H locs cells slots lsC hR hS h1 h2 hl)
theorem az_iret {x : Int32} {ty : FieldType} (hdg : decode M.2.1 pc = .ok (.ireturn, 1)) (hQ : Q (some (.int x)) hp) (hr : M.2.2.2 = some ty := by rfl) (hn : narrow ty (.int x) = .int x := by rfl) : az_W M d rc rs pc ls [.int x] hp Q := by
  intro p l e s m args below meth c D base sa Hb R Z C E H locs cells slots lsC hR hS h1 h2 hl
  exact E (some (.int x)) hp H locs cells slots pc lsC hQ hR hS (by omega) (by omega) ⟨hdg, ty, hr, hn⟩
theorem az_lret {x : Int64} (hdg : decode M.2.1 pc = .ok (.lreturn, 1)) (hQ : Q (some (.long x)) hp) (hr : M.2.2.2 = some .long := by rfl) : az_W M d rc rs pc ls [.long x] hp Q := by
  intro p l e s m args below meth c D base sa Hb R Z C E H locs cells slots lsC hR hS h1 h2 hl
  exact E (some (.long x)) hp H locs cells slots pc lsC hQ hR hS (by omega) (by omega) ⟨hdg, hr⟩
theorem az_vret (hdg : decode M.2.1 pc = .ok (.return_, 1)) (hQ : Q none hp) (hr : M.2.2.2 = none := by rfl) : az_W M d rc rs pc ls [] hp Q := by
  intro p l e s m args below meth c D base sa Hb R Z C E H locs cells slots lsC hR hS h1 h2 hl
  exact E (none) hp H locs cells slots pc lsC hQ hR hS (by omega) (by omega) ⟨hdg, hr⟩
theorem az_aret {x : Nat} {ty : FieldType} (hdg : decode M.2.1 pc = .ok (.areturn, 1)) (hQ : Q (some (.ref x)) hp) (hr : M.2.2.2 = some ty := by rfl) (hn : (∃ n, ty = .object n) ∨ ∃ t, ty = .array t) : az_W M d rc rs pc ls [.ref x] hp Q := by
  intro p l e s m args below meth c D base sa Hb R Z C E H locs cells slots lsC hR hS h1 h2 hl
  exact E (some (.ref x)) hp H locs cells slots pc lsC hQ hR hS (by omega) (by omega) ⟨hdg, ty, hr, hn⟩
theorem az_aretN {ty : FieldType} (hdg : decode M.2.1 pc = .ok (.areturn, 1)) (hQ : Q (some .null) hp) (hr : M.2.2.2 = some ty := by rfl) (hn : (∃ n, ty = .object n) ∨ ∃ t, ty = .array t) : az_W M d rc rs pc ls [.null] hp Q := by
  intro p l e s m args below meth c D base sa Hb R Z C E H locs cells slots lsC hR hS h1 h2 hl
  exact E (some .null) hp H locs cells slots pc lsC hQ hR hS (by omega) (by omega) ⟨hdg, ty, hr, hn⟩
end AZR
