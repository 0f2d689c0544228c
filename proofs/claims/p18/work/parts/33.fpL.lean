/-! The law's doubles: the mean, its product with the number, the rest, its magnitude -/
theorem n64_fin {x : UInt64} {t : Bool} {c : Nat} {q : Int} (h : FP.Core.val64 x = .fin t c q) : vf_n64 x ∧ isNaN64 x = false := by
  have h1 : ¬ isNaN64 x = true := fun z => by
    have h2 := (FP.Core.dIsNaN_iff x).mp ((nan_val x).mp z)
    rw [h] at h2; cases h2
  refine ⟨?_, ?_⟩
  · unfold vf_n64
    exact Decidable.not_not.mp (fun z => h1 (isNaN64_not.mpr z))
  · cases hh : isNaN64 x with
    | false => rfl
    | true => exact absurd hh h1
theorem fp_of {n : Nat} {F : Nat → Nat → Int32} (hn : n ≤ 12) (hR : okR n F) (h0 : n ≠ 0) : ∃ c1 q1 c2 q2 t c3 q3, FP.Core.val64 (s_mean n F) = .fin false c1 q1 ∧ FP.Core.val64 (FP.dmul (s_mean n F) (FP.i2d (nI n))) = .fin false c2 q2 ∧ FP.Core.val64 (FP.dsub (FP.dmul (s_mean n F) (FP.i2d (nI n))) (FP.i2d (s_sum n F))) = .fin t c3 q3 ∧ -1074 ≤ q3 ∧ FP.Core.inUnits c3 q3 (-1200) ≤ 26 * 2 ^ 1170 := by
  obtain ⟨e, h1, h2⟩ := sum_N hR n (Nat.le_refl n)
  have d1 : FP.Core.DInt ((smN F 1 n : Nat) : Int) (FP.i2d (s_sum n F)) := by
    have := FP.Core.i2d_int (s_sum n F)
    rw [show (s_sum n F).toInt = ((smN F 1 n : Nat) : Int) from by show (s_sumU F n).toInt = _; rw [e, nI_toInt (by omega)]] at this
    exact this
  have d2 : FP.Core.DInt (n : Int) (FP.i2d (nI n)) := by
    have := FP.Core.i2d_int (nI n)
    rw [nI_toInt (by omega)] at this
    exact this
  have em : s_mean n F = FP.ddiv (FP.i2d (s_sum n F)) (FP.i2d (nI n)) := by unfold s_mean; rw [if_neg h0]
  rw [em]
  exact fp_main (by omega) (by omega) (by omega) hn d1 d2
theorem mean_ne {n : Nat} {F : Nat → Nat → Int32} (hn : n ≤ 12) (hR : okR n F) : n ≠ 0 → vf_n64 (FP.ddiv (FP.i2d (s_sum n F)) (FP.i2d (nI n))) := by
  intro h0
  obtain ⟨c1, q1, c2, q2, t, c3, q3, v1, -⟩ := fp_of hn hR h0
  have em : s_mean n F = FP.ddiv (FP.i2d (s_sum n F)) (FP.i2d (nI n)) := by unfold s_mean; rw [if_neg h0]
  rw [← em]
  exact (n64_fin v1).1
theorem mean_nn {n : Nat} {F : Nat → Nat → Int32} (hn : n ≤ 12) (hR : okR n F) : isNaN64 (s_mean n F) = false := by
  by_cases h0 : n = 0
  · unfold s_mean; rw [if_pos h0]; decide
  · obtain ⟨c1, q1, c2, q2, t, c3, q3, v1, -⟩ := fp_of hn hR h0
    exact (n64_fin v1).2
theorem mul_ne {n : Nat} {F : Nat → Nat → Int32} (hn : n ≤ 12) (hR : okR n F) (h0 : n ≠ 0) : vf_n64 (FP.dmul (s_mean n F) (FP.i2d (nI n))) := by
  obtain ⟨c1, q1, c2, q2, t, c3, q3, v1, v2, -⟩ := fp_of hn hR h0
  exact (n64_fin v2).1
theorem sub_ne {n : Nat} {F : Nat → Nat → Int32} (hn : n ≤ 12) (hR : okR n F) (h0 : n ≠ 0) : vf_n64 (FP.dsub (FP.dmul (s_mean n F) (FP.i2d (nI n))) (FP.i2d (s_sum n F))) := by
  obtain ⟨c1, q1, c2, q2, t, c3, q3, v1, v2, v3, -⟩ := fp_of hn hR h0
  exact (n64_fin v3).1
theorem abs_lt {n : Nat} {F : Nat → Nat → Int32} (hn : n ≤ 12) (hR : okR n F) (h0 : n ≠ 0) : ¬ 0 < Op.cmpValue (FP.dcmp (FP.dsub (FP.dmul (s_mean n F) (FP.i2d (nI n))) (FP.i2d (s_sum n F)) &&& 0x7fffffffffffffff) 0x3F50624DD2F1A9FC) .l := by
  obtain ⟨c1, q1, c2, q2, t, c3, q3, v1, v2, v3, g3, k3⟩ := fp_of hn hR h0
  have := fp_cmp v3 g3 k3
  rw [show FP.dcmp (FP.dsub (FP.dmul (s_mean n F) (FP.i2d (nI n))) (FP.i2d (s_sum n F)) &&& 0x7fffffffffffffff) 0x3F50624DD2F1A9FC = some .lt from this]
  decide
theorem abs_bits (x : UInt64) : (x.toInt64 &&& 9223372036854775807).toUInt64 = x &&& 0x7fffffffffffffff := by
  apply UInt64.toBitVec_inj.mp
  simp
theorem abs_n64 {x : UInt64} (h : vf_n64 x) : vn_snl2d (x.toInt64 &&& 9223372036854775807) = false := by
  unfold vn_snl2d
  rw [abs_bits]
  have e : x &&& 0x7fffffffffffffff &&& 0x7fffffffffffffff = x &&& 0x7fffffffffffffff := by
    rw [UInt64.and_assoc, UInt64.and_self]
  rw [e]
  unfold vf_n64 at h
  rw [decide_eq_false (by exact fun z => absurd h (UInt64.not_le.mpr z)), Bool.false_and]
section RVD
variable {p : Program} {l : Launch} {e : Env} {R : Room} {s : State} {m : MethodId} {args : Array Value} {below : List Frame} {meth : Method} {c : Code} {cells slots : Nat} {H : Heap} {locs : List Loc} {Q : State → Prop} {pc : Nat} {ls : Array Slot} {rest : List Value}
/-- The magnitude of a double that is no NaN: the row of the machine draws nothing -/
theorem rv_dabs {cc : ByteArray} (hexec : p.tables.exec = Jvm.exec) (hb : c.code = cc) (hml : c.maxLocals = ls.size) {own : String} {index : Nat} (hown : s.vm.findClass own = some m.cls) (hlink : (Cond.methodLink own index Jvm.Free.Fl.Abs.absDN).before args s = true) (hstat : (Cond.static Jvm.Free.Fl.Abs.absDN).before args s = true) (hini : (Cond.initialized "java/lang/Math").before args s = true) (hcode : (Cond.code Jvm.Free.Fl.Abs.absDN Jvm.Free.Fl.Abs.absDCode 2 (some .double)).before args s = true)
    {x : UInt64} (hx9 : vf_n64 x) (hframes : 1 ≤ R.frames) (hlocals : (rest.map fun v => v.category).sum + 13 ≤ R.locals) (hc : cells ≤ R.cells) (hs : slots ≤ R.slots) (hdg : decode cc pc = .ok (.invokestatic index, 3))
    (kk : W p l e R s m args below meth c H locs cells slots Q (F0 m (pc + 3) ls (.double (x &&& 0x7fffffffffffffff) :: rest))) : W p l e R s m args below meth c H locs cells slots Q (F0 m pc ls (.double x :: rest)) := by
  intro T hT X
  have hg : (F0 m pc ls (.double x :: rest)).method = m := rfl
  have hsize : (F0 m pc ls (.double x :: rest)).locals.size = c.maxLocals := by rw [hml]
  obtain ⟨mk, hnamed⟩ := Cond.code_named hcode
  obtain ⟨methS, cS, hmethS, -, -, -, -, -, -, hsigS⟩ := Cond.code_spec hnamed hcode
  have hstatic := Cond.static_spec hnamed hmethS hstat
  obtain ⟨kS, hkS, -⟩ := className_of_methodNamed hnamed
  have hinitS : kS.init = .initialized := Cond.initialized_spec (findClass_of_methodNamed hnamed) hkS hini
  obtain ⟨vm₁, X₁, hstep₁⟩ := X.invokestatic hexec hown hlink hnamed hmethS hstatic hkS hinitS (by decide) (g := F0 m pc ls (.double x :: rest)) rfl (argsL := [.double x]) (rest := rest)
    (by have h := hsigS; rw [show parseMethodDescriptor Jvm.Free.Fl.Abs.absDN.desc = some ⟨[.double], some .double⟩ from by decide +kernel] at h; rw [← Option.some.inj h]; rfl) rfl (by rw [hb]; exact hdg)
  have hnamed₁ : (T.setVm vm₁).methodNamed? Jvm.Free.Fl.Abs.absDN = some mk := X₁.named hnamed
  have hcodeU : (Cond.code Jvm.Free.Fl.Abs.absDN Jvm.Free.Fl.Abs.absDCode 2 (some .double)).before args (T.setVm vm₁) = true := Cond.tabsOnly_warm (args' := args) (T := T.setVm vm₁) X₁.warmed _ rfl hcode
  obtain ⟨methM, cM, hmethM, hcodeM', -, hlocalsM, -, hlocksM, -, hsigM⟩ := Cond.code_spec hnamed₁ hcodeU
  obtain ⟨kP, hkP, hkname⟩ := className_of_methodNamed hnamed₁
  obtain ⟨hmnM, hmdM⟩ := name_of_methodNamed hnamed₁ hmethM
  have hkP' : vm₁.classes[mk.cls]? = some kP := hkP
  have hxP : kP.methods[mk.idx]? = some methM := by simpa [Vm.method?, hkP'] using hmethM
  have hbootP : kP.loader = none := Vm.bootOf_findClass (findClass_of_methodNamed hnamed₁) hkP
  obtain ⟨t, a1, b1⟩ := kk (T.setVm vm₁) hT X₁
  refine ⟨t, hstep₁ t fun acts => ?_, b1⟩
  exact Jvm.Free.Fl.Abs.Steps.absD p (g := { (F0 m pc ls (.double x :: rest)) with stack := rest }) X₁.here.top X₁.here.above X₁.here.running X₁.here.runnable X₁.here.alone X₁.here.code acts hkP hxP hbootP hkname hmnM hmdM hsigM hcodeM' hlocalsM hlocksM
    (X₁.room_calling (g := { (F0 m pc ls (.double x :: rest)) with stack := rest }) hsize hmethM hcodeM' (R' := {}) (by show 0 + 1 ≤ R.frames; omega) (by rw [hlocalsM]; show 2 * 0 + (rest.map fun v => v.category).sum + (2 + 11) + 0 ≤ R.locals; omega) (by show cells + 0 ≤ R.cells; omega) (by show slots + 0 ≤ R.slots; omega)) hx9 (by rw [hb]; exact hdg) a1
end RVD
