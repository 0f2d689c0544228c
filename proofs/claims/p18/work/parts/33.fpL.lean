/-! The law's doubles: the mean, its product with the number, the rest, its magnitude -/
theorem n64_fin {x : UInt64} {t : Bool} {c : Nat} {q : Int} (h : FP.Core.val64 x = .fin t c q) : vf_n64 x ∧ isNaN64 x = false := by
  have h1 : ¬ isNaN64 x = true := fun z => by
    have h2 := (FP.Core.dIsNaN_iff x).mp ((nan_val x).mp z)
    rw [h] at h2; cases h2
  refine ⟨?_, ?_⟩
  · unfold vf_n64
    exact Decidable.not_not.mp (fun z => h1 (isNaN64_not.mpr z))
  · cases hh : isNaN64 x with
    | false => rfl
    | true => exact absurd hh h1
theorem fp_of {n : Nat} {F : Nat → Nat → Int32} (hn : n ≤ 12) (hR : okR n F) (h0 : n ≠ 0) : ∃ c1 q1 c2 q2 t c3 q3, FP.Core.val64 (s_mean n F) = .fin false c1 q1 ∧ FP.Core.val64 (FP.dmul (s_mean n F) (FP.i2d (nI n))) = .fin false c2 q2 ∧ FP.Core.val64 (FP.dsub (FP.dmul (s_mean n F) (FP.i2d (nI n))) (FP.i2d (s_sum n F))) = .fin t c3 q3 ∧ -1074 ≤ q3 ∧ FP.Core.inUnits c3 q3 (-1200) ≤ 26 * 2 ^ 1170 := by
  obtain ⟨e, h1, h2⟩ := sum_N hR n (Nat.le_refl n)
  have d1 : FP.Core.DInt ((smN F 1 n : Nat) : Int) (FP.i2d (s_sum n F)) := by
    have := FP.Core.i2d_int (s_sum n F)
    rw [show (s_sum n F).toInt = ((smN F 1 n : Nat) : Int) from by show (s_sumU F n).toInt = _; rw [e, nI_toInt (by omega)]] at this
    exact this
  have d2 : FP.Core.DInt (n : Int) (FP.i2d (nI n)) := by
    have := FP.Core.i2d_int (nI n)
    rw [nI_toInt (by omega)] at this
    exact this
  have em : s_mean n F = FP.ddiv (FP.i2d (s_sum n F)) (FP.i2d (nI n)) := by unfold s_mean; rw [if_neg h0]
  rw [em]
  exact fp_main (by omega) (by omega) (by omega) hn d1 d2
theorem mean_ne {n : Nat} {F : Nat → Nat → Int32} (hn : n ≤ 12) (hR : okR n F) : n ≠ 0 → vf_n64 (FP.ddiv (FP.i2d (s_sum n F)) (FP.i2d (nI n))) := by
  intro h0
  obtain ⟨c1, q1, c2, q2, t, c3, q3, v1, -⟩ := fp_of hn hR h0
  have em : s_mean n F = FP.ddiv (FP.i2d (s_sum n F)) (FP.i2d (nI n)) := by unfold s_mean; rw [if_neg h0]
  rw [← em]
  exact (n64_fin v1).1
theorem mean_nn {n : Nat} {F : Nat → Nat → Int32} (hn : n ≤ 12) (hR : okR n F) : isNaN64 (s_mean n F) = false := by
  by_cases h0 : n = 0
  · unfold s_mean; rw [if_pos h0]; decide
  · obtain ⟨c1, q1, c2, q2, t, c3, q3, v1, -⟩ := fp_of hn hR h0
    exact (n64_fin v1).2
theorem mul_ne {n : Nat} {F : Nat → Nat → Int32} (hn : n ≤ 12) (hR : okR n F) (h0 : n ≠ 0) : vf_n64 (FP.dmul (s_mean n F) (FP.i2d (nI n))) := by
  obtain ⟨c1, q1, c2, q2, t, c3, q3, v1, v2, -⟩ := fp_of hn hR h0
  exact (n64_fin v2).1
theorem sub_ne {n : Nat} {F : Nat → Nat → Int32} (hn : n ≤ 12) (hR : okR n F) (h0 : n ≠ 0) : vf_n64 (FP.dsub (FP.dmul (s_mean n F) (FP.i2d (nI n))) (FP.i2d (s_sum n F))) := by
  obtain ⟨c1, q1, c2, q2, t, c3, q3, v1, v2, v3, -⟩ := fp_of hn hR h0
  exact (n64_fin v3).1
theorem abs_lt {n : Nat} {F : Nat → Nat → Int32} (hn : n ≤ 12) (hR : okR n F) (h0 : n ≠ 0) : ¬ 0 < Op.cmpValue (FP.dcmp (FP.dsub (FP.dmul (s_mean n F) (FP.i2d (nI n))) (FP.i2d (s_sum n F)) &&& 0x7fffffffffffffff) 0x3F50624DD2F1A9FC) .l := by
  obtain ⟨c1, q1, c2, q2, t, c3, q3, v1, v2, v3, g3, k3⟩ := fp_of hn hR h0
  have := fp_cmp v3 g3 k3
  rw [show FP.dcmp (FP.dsub (FP.dmul (s_mean n F) (FP.i2d (nI n))) (FP.i2d (s_sum n F)) &&& 0x7fffffffffffffff) 0x3F50624DD2F1A9FC = some .lt from this]
  decide
theorem abs_bits (x : UInt64) : (x.toInt64 &&& 9223372036854775807).toUInt64 = x &&& 0x7fffffffffffffff := by
  apply UInt64.toBitVec_inj.mp
  simp
theorem abs_n64 {x : UInt64} (h : vf_n64 x) : vn_snl2d (x.toInt64 &&& 9223372036854775807) = false := by
  unfold vn_snl2d
  rw [abs_bits]
  have e : x &&& 0x7fffffffffffffff &&& 0x7fffffffffffffff = x &&& 0x7fffffffffffffff := by
    rw [UInt64.and_assoc, UInt64.and_self]
  rw [e]
  unfold vf_n64 at h
  rw [decide_eq_false (by exact fun z => absurd h (UInt64.not_le.mpr z)), Bool.false_and]
theorem met_ofWF {l : Launch} {y : MethodName} {ws ws' : List Cond} {rm : Room} {Pc : Array Value → State → Prop} {Qc : Array Value → State → Outcome → State → Prop} {mc ms : Nat} {free : Addr → Prop} {cc : ByteArray} {maxL : Nat} {ret : Option FieldType}
    (hy : plainFor y = true) (hw : ws = Cond.code y cc maxL ret :: ws')
    (body : ∀ p e s m args below meth c s₁, BodyLoose p l y (headSpec ws rm) cc maxL ret e s m args below meth c s₁ → c.maxLocals = maxL → Pc args s →
      W p l e (headSpec ws rm).room s m args below meth c s.heap [] 0 0 (MQ below Qc args s mc ms free) (entryFrame m args maxL)) : Met l y ws rm Pc Qc mc ms free := by
  refine MetFree.of_bodySF (code := cc) (maxLocals := maxL) (ret := ret) hy ?_ ?_
  · intro args s m h hn
    obtain ⟨meth, c, h1, h2, h3, h4, h5, h6, -⟩ := Cond.code_spec hn (atoms_spec (ws := ws) h _ (by rw [hw]; exact List.mem_cons_self))
    exact ⟨meth, c, h1, h2, h3, h4, h5, h6⟩
  · intro p e s m args below meth c s₁ B hml hP _
    have hh0 : s₁.heap = s.heap := by rw [B.state]; rfl
    obtain ⟨t, a1, o, b1, b2, b3⟩ := body p e s m args below meth c s₁ B hml hP s₁ hh0 (Stand.of_body B)
    exact ⟨t, o, a1, b1, b2, b3⟩
set_option maxHeartbeats 4000000 in
set_option maxRecDepth 100000 in
theorem c_J9_abs (l : Launch) (x : UInt64) (hx9 : vf_n64 x) : Met l yJ9_abs_294c1 wsJ9_abs_294c1 ({ frames := 1, cells := 0, slots := 0, locals := 15 } : Room) (va_Pc [.double x] (fun _ => True)) (vp_Sd (fun r => r = x &&& 0x7fffffffffffffff)) 0 0 (fun _ => False) := by
  refine met_ofWF (cc := cJ9_abs_294c1) (maxL := 2) (ret := (some .double)) (by decide +kernel) rfl ?_
  intro p e s m args below meth c s₁ B hml hv
  obtain ⟨rfl, -⟩ := hv
  have hx := B.exec
  have hb := B.bytes
  have hr := B.returns
  have hts := atoms_spec (ws := wsJ9_abs_294c1) B.pre
  have hown : s.vm.findClass RJ9 = some m.cls := findClass_of_methodNamed B.named
  have hlocks := B.notSynchronized
  have hS : va_S (fun _ => False) s.heap s.heap [] := va_S.rf
  have hl := lv_entry ([.double x]) (n := 2) (Nat.le_of_ble_eq_true rfl)
  rw [lg_entry_eq]
  generalize (lg_sl ([.double x]) ++ List.replicate (2 - (lg_sl ([.double x])).length) Slot.unset).toArray = ls at hl ⊢
  have hl : lv_has ls 2 [(0, .double x)] := hl
  refine lv_dload_n hx hb dJ9_abs_294c1_0 rfl (lv_at hl 0 rfl) ?_
  refine vn_d2l hx hb (hml.trans hl.1.symm) hown (hts (.methodLink RJ9 79 ⟨"java/lang/Double", "doubleToRawLongBits", "(D)J"⟩) (by decide +kernel)) (hts (.native ⟨"java/lang/Double", "doubleToRawLongBits", "(D)J"⟩) (by decide +kernel)) (hts (.static ⟨"java/lang/Double", "doubleToRawLongBits", "(D)J"⟩) (by decide +kernel)) (hts (.initialized "java/lang/Double") (by decide +kernel)) (Nat.le_of_ble_eq_true rfl) (Nat.le_of_ble_eq_true rfl) dJ9_abs_294c1_1 ?_
  refine lv_ldc2 hx hb hown (hts (.constantLong RJ9 135 9223372036854775807) (by decide +kernel)) dJ9_abs_294c1_4 ?_
  refine lv_land hx hb dJ9_abs_294c1_7 ?_
  refine vn_l2d hx hb (hml.trans hl.1.symm) hown (hts (.methodLink RJ9 166 ⟨"java/lang/Double", "longBitsToDouble", "(J)D"⟩) (by decide +kernel)) (hts (.native ⟨"java/lang/Double", "longBitsToDouble", "(J)D"⟩) (by decide +kernel)) (hts (.static ⟨"java/lang/Double", "longBitsToDouble", "(J)D"⟩) (by decide +kernel)) (hts (.initialized "java/lang/Double") (by decide +kernel)) (abs_n64 hx9) (Nat.le_of_ble_eq_true rfl) (Nat.le_of_ble_eq_true rfl) dJ9_abs_294c1_8 ?_
  exact W.dret hx hb hr (fun t ht hW => ⟨_, rfl, abs_bits x, ht⟩) hS.2.2 dJ9_abs_294c1_11
