/-! Math.floorMod: its class is one that natives may override; no program has a row for it -/
def az_fm (x y : Int32) : Int32 := if 0 ≤ x ^^^ y then x - x / y * y else if x - x / y * y = 0 then x - x / y * y else x - x / y * y + y
theorem fm_row0 : (NativeRow.find? natives "java/lang/Math" "floorMod" "(II)I").isNone = true := by decide +kernel
theorem fm_row (p : Program) : NativeRow.find? p.tables.natives "java/lang/Math" "floorMod" "(II)I" = none := by
  cases p <;> exact Option.isNone_iff_eq_none.mp fm_row0
set_option maxHeartbeats 4000000 in
set_option maxRecDepth 100000 in
theorem fm_walk {p : Program} {S : Spec} {e : Env} {s : State} {m : MethodId} {x y : Int32} {below : List Frame} {meth : Method} {c : Code} {s₁ : State} (hy : ¬ y = 0) (B : BodyLooseOv p S mJ9_floorMod_7cf53.2.1 3 (some .int) e s m #[.int x, .int y] below meth c s₁) (fs : List Frame) (hfs : handOver s₁ (some (.int (az_fm x y))) below = some fs) : Steps p.tables e below (s₁.setTop (entryFrame m #[.int x, .int y] 3)) (s₁.setFrames fs) := by
  have hloc : argsToLocals #[.int x, .int y] 3 = #[.val (.int x), .val (.int y), .unset] := rfl
  unfold entryFrame; rw [hloc]
  refine Steps.instrAtOv (c := _) (by simpa using B.here) ?_
  simp [jvm, wpRun, exec, B.here.top, B.exec, B.bytes, dJ9_floorMod_7cf53_0]
  refine Steps.instrAtOv (c := _) (by simpa using B.here) ?_
  simp [jvm, wpRun, exec, B.here.top, B.exec, B.bytes, dJ9_floorMod_7cf53_1]
  refine Steps.instrAtOv (c := _) (by simpa using B.here) ?_
  simp [jvm, wpRun, exec, B.here.top, B.exec, B.bytes, dJ9_floorMod_7cf53_2, hy]
  refine Steps.instrAtOv (c := _) (by simpa using B.here) ?_
  simp [jvm, wpRun, exec, B.here.top, B.exec, B.bytes, dJ9_floorMod_7cf53_3]
  refine ⟨#[.val (.int x), .val (.int y), .val (.int (x - x / y * y))], rfl, ?_⟩
  refine Steps.instrAtOv (c := _) (by simpa using B.here) ?_
  simp [jvm, wpRun, exec, B.here.top, B.exec, B.bytes, dJ9_floorMod_7cf53_4]
  refine Steps.instrAtOv (c := _) (by simpa using B.here) ?_
  simp [jvm, wpRun, exec, B.here.top, B.exec, B.bytes, dJ9_floorMod_7cf53_5]
  refine Steps.instrAtOv (c := _) (by simpa using B.here) ?_
  simp [jvm, wpRun, exec, B.here.top, B.exec, B.bytes, dJ9_floorMod_7cf53_6]
  by_cases h1 : 0 ≤ x ^^^ y
  · rw [az_fm, if_pos h1] at hfs
    refine Steps.instrAtOv (c := _) (by simpa using B.here) ?_
    simp [jvm, wpRun, exec, B.here.top, B.exec, B.bytes, dJ9_floorMod_7cf53_7, ifCond.holds, h1]
    refine Steps.instrAtOv (c := _) (by simpa using B.here) ?_
    simp [jvm, wpRun, exec, B.here.top, B.exec, B.bytes, dJ9_floorMod_7cf53_18]
    refine Steps.instrAtOv (c := _) (by simpa using B.here) ?_
    simp [jvm, wpRun, exec, B.here.top, B.exec, B.bytes, dJ9_floorMod_7cf53_19, B.method₁, B.returns, narrow]
    intro acts
    rw [ret_to B.frames₁ B.method₁ B.notSynchronized rfl rfl hfs]
    exact Steps.refl _
  · by_cases h2 : x - x / y * y = 0
    · rw [az_fm, if_neg h1, if_pos h2, h2] at hfs
      refine Steps.instrAtOv (c := _) (by simpa using B.here) ?_
      simp [jvm, wpRun, exec, B.here.top, B.exec, B.bytes, dJ9_floorMod_7cf53_7, ifCond.holds, h1]
      refine Steps.instrAtOv (c := _) (by simpa using B.here) ?_
      simp [jvm, wpRun, exec, B.here.top, B.exec, B.bytes, dJ9_floorMod_7cf53_10]
      refine Steps.instrAtOv (c := _) (by simpa using B.here) ?_
      simp [jvm, wpRun, exec, B.here.top, B.exec, B.bytes, dJ9_floorMod_7cf53_11, ifCond.holds, h2]
      refine Steps.instrAtOv (c := _) (by simpa using B.here) ?_
      simp [jvm, wpRun, exec, B.here.top, B.exec, B.bytes, dJ9_floorMod_7cf53_18]
      refine Steps.instrAtOv (c := _) (by simpa using B.here) ?_
      simp [jvm, wpRun, exec, B.here.top, B.exec, B.bytes, dJ9_floorMod_7cf53_19, B.method₁, B.returns, narrow]
      intro acts
      rw [ret_to B.frames₁ B.method₁ B.notSynchronized rfl rfl hfs]
      exact Steps.refl _
    · rw [az_fm, if_neg h1, if_neg h2] at hfs
      refine Steps.instrAtOv (c := _) (by simpa using B.here) ?_
      simp [jvm, wpRun, exec, B.here.top, B.exec, B.bytes, dJ9_floorMod_7cf53_7, ifCond.holds, h1]
      refine Steps.instrAtOv (c := _) (by simpa using B.here) ?_
      simp [jvm, wpRun, exec, B.here.top, B.exec, B.bytes, dJ9_floorMod_7cf53_10]
      refine Steps.instrAtOv (c := _) (by simpa using B.here) ?_
      simp [jvm, wpRun, exec, B.here.top, B.exec, B.bytes, dJ9_floorMod_7cf53_11, ifCond.holds, h2]
      refine Steps.instrAtOv (c := _) (by simpa using B.here) ?_
      simp [jvm, wpRun, exec, B.here.top, B.exec, B.bytes, dJ9_floorMod_7cf53_14]
      refine Steps.instrAtOv (c := _) (by simpa using B.here) ?_
      simp [jvm, wpRun, exec, B.here.top, B.exec, B.bytes, dJ9_floorMod_7cf53_15]
      refine Steps.instrAtOv (c := _) (by simpa using B.here) ?_
      simp [jvm, wpRun, exec, B.here.top, B.exec, B.bytes, dJ9_floorMod_7cf53_16]
      refine Steps.instrAtOv (c := _) (by simpa using B.here) ?_
      simp [jvm, wpRun, exec, B.here.top, B.exec, B.bytes, dJ9_floorMod_7cf53_17, B.method₁, B.returns, narrow]
      intro acts
      rw [ret_to B.frames₁ B.method₁ B.notSynchronized rfl rfl hfs]
      exact Steps.refl _
set_option maxHeartbeats 4000000 in
set_option maxRecDepth 100000 in
theorem s_floorMod {d : Nat} {x y : Int32} {hp : az_Hp} {Q : Option Value → az_Hp → Prop} (hy : ¬ y = 0) (hQ : Q (some (.int (az_fm x y))) hp) : az_M mJ9_floorMod_7cf53 d 0 0 [.int x, .int y] hp Q := by
  intro l D base sa Hb p e ha hc hk s m args below hf happ hv _
  obtain ⟨rfl, hX, hbs, hlow, hR⟩ := hv
  obtain ⟨hrun, hable, halone, hname, hhears, hinit, hroom, hpre⟩ := (Spec.appliesLoose_iff hf).mp happ
  have his := atoms_spec (ws := az_ws mJ9_floorMod_7cf53) hpre _ List.mem_cons_self
  obtain ⟨meth, c, hmeth, hcode, hbytes, hlocals, hret, hlocks, -⟩ := Cond.code_spec hname his
  have hcur := State.cur_lt_of_frames hf
  have hf1 : (s.setFrames (.java (entryFrame m #[.int x, .int y] 3) :: below)).frames = .java (entryFrame m #[.int x, .int y] 3) :: below :=
    State.frames_setFrames _ hcur
  have ht1 := State.topJava?_of_frames hf1
  have hown : ∀ f : JFrame, f.method = m → overridden p.tables e ((s.setFrames (.java (entryFrame m #[.int x, .int y] 3) :: below)).setTop f) f = none := by
    intro f hfm
    obtain ⟨k', hk', hn⟩ := className_of_methodNamed hname
    obtain ⟨hmn, hmd⟩ := name_of_methodNamed hname hmeth
    have hx' : k'.methods[m.idx]? = some meth := by simpa [Vm.method?, hk'] using hmeth
    refine overridden_noRow _ _ (k := k') (x := meth) (by rw [hfm]; exact hk') (by rw [hfm]; exact hx') ?_
    rw [hn, hmn, hmd]
    exact fm_row p
  have hAt : AtOv p.tables e (s.setFrames (.java (entryFrame m #[.int x, .int y] 3) :: below)) m c below :=
    ⟨by rw [ht1]; rfl, ⟨[], by rw [hf1]; rfl⟩, hrun, by simpa using hable, by simpa using halone,
      by rw [State.code?_eq]; simp [State.setFrames, hmeth, hcode], hown⟩
  have B : BodyLooseOv p (headSpec (az_ws mJ9_floorMod_7cf53) (az_rm d 0 0)) mJ9_floorMod_7cf53.2.1 3 (some .int) e s m #[.int x, .int y] below meth c (s.setFrames (.java (entryFrame m #[.int x, .int y] 3) :: below)) :=
    ⟨by cases p <;> rfl, hf, hhears, hpre, hmeth, hret, hlocks, hbytes, rfl, hAt⟩
  obtain ⟨fs, hfs⟩ := handOver_isSome (s := s.setFrames (.java (entryFrame m #[.int x, .int y] 3) :: below)) (some (.int (az_fm x y))) B.hears₁
  have hs := fm_walk hy B fs hfs
  have hstep : (stepThread p.tables e s).1 = (s.setFrames (.java (entryFrame m #[.int x, .int y] 3) :: below)).setTop (entryFrame m #[.int x, .int y] 3) := by
    have hfull : e.platform.stackFull (s.setFrames below).me (s.setFrames below).frames c.maxLocals = false := by
      obtain ⟨-, h1, -, h2⟩ := State.hasRoom_stack hroom
      rw [hf, List.length_cons] at h1
      rw [State.localsInUse_invoking hf hmeth hcode] at h2
      have hw := stackUse_le_stackWeight below
      rw [State.frames_setFrames _ hcur]
      exact Platform.stackFull_eq_false (by rw [State.stackLimits_setFrames]; omega) (by rw [State.stackLimits_setFrames]; omega)
    rw [stepThread_invoking hf, (doInvoke_java (s := s.setFrames below) (e := e) (meth := meth) (code := c) hmeth hcode hlocks hfull).1, State.setTop_self ht1]
    simp only [State.pushFrame, State.frames_setFrames _ hcur, State.setFrames_setFrames, hlocals, entryFrame]
    rfl
  obtain ⟨n, hn, hw⟩ := Steps.head (tb := p.tables) (e := e) ⟨hrun, hable, halone⟩ ⟨[.invoking m _], hf, by simp, by simp⟩ (hstep ▸ hs)
  obtain ⟨t, ht, -⟩ := State.frames_cons hf
  refine ⟨n, .returned (some (.int (az_fm x y))), hw, ?_, ?_, ?_⟩
  · rw [hn]; exact B.here.running
  · rw [hn]; exact B.ended hfs (fun h => by cases h)
  · rw [hn, B.back]
    refine ⟨⟨⟨some (.int (az_fm x y)), hp, rfl, hQ, hR.moved (Vm.Alike.refl _)⟩, ⟨Nat.le_refl _, fun _ _ _ => rfl⟩⟩, [], ⟨⟨_, rfl⟩, State.WarmedH.refl s, ?_⟩, fun q hq => by cases hq⟩
    exact (State.sameButNew.refl s ht).setFrames fs hcur
