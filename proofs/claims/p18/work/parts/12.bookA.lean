/-! WrestleBook, readers -/
set_option maxHeartbeats 4000000 in
set_option maxRecDepth 100000 in
theorem c_X1_checkWrestler (l : Launch) (hl0 : l.stackTraces = false) (dC : Nat → ClassId) (dI : Nat → Nat → Nat) (cI : ClassId) (h r1 : Nat) (d1 : Nat → Nat) (r2 : Nat) (d2 : Nat → Nat) (rc : Nat) (n : Nat) (F : Nat → Nat → Int32) (n2 : Nat) (G : Nat → Nat → Int32) (ct ch : Nat → Int32) (H0 : Heap) (va : Int32) (hn : n ≤ 12) : vx_Met l yX1_checkWrestler wsX1_checkWrestler ({ frames := 6, cells := 1, slots := 6, locals := 82 } : Room) (va_Pc [.ref h, .int va] (fun U => U.heap = H0 ∧ PR dC dI cI (wB h r1 d1 r2 d2 rc cI n F n2 G ct ch) U)) (va_Qv (fun (_ : Unit) => x_cw n va = 0) (fun _ t => t.heap = H0) (fun _ => False)) (vx_X (fun (_ : Unit) => True) (fun E _ t => exE ["java/lang/IndexOutOfBoundsException"] (x_cw n va) E) (fun _ => False)) 1 6 (fun _ => False) := by
  refine vx_ofW (cc := cX1_checkWrestler) (maxL := 2) (ret := none) (by decide) rfl ?_
  intro p e s m args below meth c s₁ B hml htab hv
  obtain ⟨rfl, hH0, hP, hK, hE⟩ := hv
  subst hH0
  have hx := B.exec
  have hb := B.bytes
  have hr := B.returns
  have hts := atoms_spec (ws := wsX1_checkWrestler) B.pre
  have hown : s.vm.findClass RX1 = some m.cls := findClass_of_methodNamed B.named
  have hlocks := B.notSynchronized
  have hS : va_S (fun _ => False) s.heap s.heap [] := va_S.rf
  have hinX1 : ∀ w ∈ wsX10, w ∈ wsX1_checkWrestler := by decide +kernel
  have hthIOB : ∀ w ∈ (vx_atS RX1 125 "java/lang/IndexOutOfBoundsException" ["java/lang/RuntimeException", "java/lang/Exception"]).filter goodWord, w ∈ wsX1_checkWrestler := by decide +kernel
  have hl := lv_entry ([.ref h, .int va]) (n := 2) (Nat.le_of_ble_eq_true rfl)
  rw [lg_entry_eq]
  generalize (lg_sl ([.ref h, .int va]) ++ List.replicate (2 - (lg_sl ([.ref h, .int va])).length) Slot.unset).toArray = ls at hl ⊢
  have hl : lv_has ls 2 [(0, .ref h), (1, .int va)] := hl
  refine lv_aload_n hx hb dX1_checkWrestler_0 rfl (lv_at hl 0 rfl) ?_
  refine va_get (D := (dC, dI)) (ci := 1) (v := .ref r1) (C := RX1) (T := TX1) (N := 6) hx hb hts hinX1 hown hK hP 0 rfl rfl 0 (by decide) (hts (.fieldLink RX1 10 "WrestleBook" "roster" "LWrestleBook$Roster;") (by decide +kernel)) (fun _ h9 => h9) rfl dX1_checkWrestler_1 ?_
  refine lv_iload_n hx hb dX1_checkWrestler_4 rfl (lv_at hl 1 rfl) ?_
  refine vp_callSi (W.runV (As := [.int va]) (rest := []) ⟨hx, hb, hml, hown, hts⟩ (c_X0_has l dC dI cI r1 d1 n F va) (cwV 1 hts gX1_checkWrestler_X0_has rfl rfl rfl (by decide +kernel) ⟨Nat.le_of_ble_eq_true rfl, Nat.le_of_ble_eq_true rfl⟩) ⟨PR.blind, va_recv hK hP (ci := 0) (q0 := 2) rfl rfl, fun U hU hW => ⟨rfl, PR.go (hP.sub (ws' := (wR r1 d1 cI n F)) [2, 3, 4, 5, 6, 7, 8, 9] rfl) hK hE hS hU hW⟩⟩ rfl rfl hl.1 rfl (lv_room (Nat.le_of_ble_eq_true rfl)) dX1_checkWrestler_5 ⟨Nat.le_of_ble_eq_true rfl, Nat.le_of_ble_eq_true rfl⟩) (fun r hr0 => ?_)
  subst hr0
  refine rv_ifb_ne (tgt := 21) hx hb dX1_checkWrestler_8 (by decide) (fun c_8 => ?_) (fun c_8 => ?_)
  · refine vx_ret ?_
    refine W.widen (k := 1) (n := 6) (Nat.le_of_ble_eq_true rfl) (Nat.le_of_ble_eq_true rfl) ?_
    exact W.vret hx hb hr (fun t ht hW => ⟨⟨(), rfl, (show x_cw n va = 0 from by simp [x_cw, c_8]), ht⟩, hS.F ht⟩) hS.2.2 dX1_checkWrestler_21
  · obtain ⟨sa, hstr⟩ := hE.2.2.2.1 (190, "no such wrestler") (by decide +kernel)
    exact vx_throwS (names := ["java/lang/RuntimeException", "java/lang/Exception"]) hx hb hl0 hown (by decide +kernel) (by decide +kernel) (hts (.classLink RX1 121 "java/lang/IndexOutOfBoundsException") (by decide +kernel)) (hts (.initialized "java/lang/IndexOutOfBoundsException") (by decide +kernel)) hstr (vx_hat (B := [.castable "java/lang/IndexOutOfBoundsException" "java/lang/IndexOutOfBoundsException", .declares (Bundle.initS "java/lang/RuntimeException"), .declares (Bundle.initS "java/lang/Exception"), .declares (Bundle.initS Bundle.tN)]) (fun w h9 => hts w (hthIOB w h9)) tnIOB (vx_c (va_Nw.use rfl (hE.2.2.1 (.castable "java/lang/IndexOutOfBoundsException" "java/lang/IndexOutOfBoundsException") (by decide +kernel))) (vx_c (va_Nw.use rfl (hE.2.2.1 (.declares (Bundle.initS "java/lang/RuntimeException")) (by decide +kernel))) (vx_c (va_Nw.use rfl (hE.2.2.1 (.declares (Bundle.initS "java/lang/Exception")) (by decide +kernel))) (vx_c (va_Nw.use rfl (hE.2.2.1 (.declares (Bundle.initS Bundle.tN)) (by decide +kernel))) vx_n))))) tgIOB hE.2.2.2.2.1 hE.2.2.2.2.2 hS (hl.1.trans hml.symm) dX1_checkWrestler_11 dX1_checkWrestler_14 dX1_checkWrestler_15 dX1_checkWrestler_17 dX1_checkWrestler_20 (fun x9 h9 => (htab x9 h9).elim) (Nat.le_of_ble_eq_true rfl) (Nat.le_of_ble_eq_true rfl) (Nat.le_of_ble_eq_true rfl) (Nat.le_of_ble_eq_true rfl) hlocks (fun t8 hal8 hz8 hk8 => ⟨(), trivial, (show exE ["java/lang/IndexOutOfBoundsException"] (x_cw n va) "java/lang/IndexOutOfBoundsException" from by simp [exE, x_cw, c_8]), ⟨hz8, fun q8 h8 _ => hk8 q8 h8⟩⟩) hS.2.2 (Nat.le_of_ble_eq_true rfl) (Nat.le_of_ble_eq_true rfl)

set_option maxHeartbeats 4000000 in
set_option maxRecDepth 100000 in
theorem c_X1_checkDifferent (l : Launch) (hl0 : l.stackTraces = false) (dC : Nat → ClassId) (dI : Nat → Nat → Nat) (cI : ClassId)  (H0 : Heap) (va : Int32) (vb : Int32) : vx_Met l yX1_checkDifferent wsX1_checkDifferent ({ frames := 6, cells := 1, slots := 6, locals := 82 } : Room) (va_Pc [.int va, .int vb] (fun U => U.heap = H0 ∧ PR dC dI cI ([]) U)) (va_Qv (fun (_ : Unit) => x_cd va vb = 0) (fun _ t => t.heap = H0) (fun _ => False)) (vx_X (fun (_ : Unit) => True) (fun E _ t => exE ["java/lang/IllegalArgumentException"] (x_cd va vb) E) (fun _ => False)) 1 6 (fun _ => False) := by
  refine vx_ofW (cc := cX1_checkDifferent) (maxL := 2) (ret := none) (by decide) rfl ?_
  intro p e s m args below meth c s₁ B hml htab hv
  obtain ⟨rfl, hH0, hP, hK, hE⟩ := hv
  subst hH0
  have hx := B.exec
  have hb := B.bytes
  have hr := B.returns
  have hts := atoms_spec (ws := wsX1_checkDifferent) B.pre
  have hown : s.vm.findClass RX1 = some m.cls := findClass_of_methodNamed B.named
  have hlocks := B.notSynchronized
  have hS : va_S (fun _ => False) s.heap s.heap [] := va_S.rf
  have hthIAE : ∀ w ∈ (vx_atS RX1 31 "java/lang/IllegalArgumentException" ["java/lang/RuntimeException", "java/lang/Exception"]).filter goodWord, w ∈ wsX1_checkDifferent := by decide +kernel
  have hl := lv_entry ([.int va, .int vb]) (n := 2) (Nat.le_of_ble_eq_true rfl)
  rw [lg_entry_eq]
  generalize (lg_sl ([.int va, .int vb]) ++ List.replicate (2 - (lg_sl ([.int va, .int vb])).length) Slot.unset).toArray = ls at hl ⊢
  have hl : lv_has ls 2 [(0, .int va), (1, .int vb)] := hl
  refine lv_iload_n hx hb dX1_checkDifferent_0 rfl (lv_at hl 0 rfl) ?_
  refine lv_iload_n hx hb dX1_checkDifferent_1 rfl (lv_at hl 1 rfl) ?_
  refine lv_icmp_ne (tgt := 15) hx hb dX1_checkDifferent_2 (by decide) (fun c_2 => ?_) (fun c_2 => ?_)
  · refine vx_ret ?_
    refine W.widen (k := 1) (n := 6) (Nat.le_of_ble_eq_true rfl) (Nat.le_of_ble_eq_true rfl) ?_
    exact W.vret hx hb hr (fun t ht hW => ⟨⟨(), rfl, (show x_cd va vb = 0 from by simp [x_cd, c_2]), ht⟩, hS.F ht⟩) hS.2.2 dX1_checkDifferent_15
  · obtain ⟨sa, hstr⟩ := hE.2.2.2.1 (192, "both are the same") (by decide +kernel)
    exact vx_throwS (names := ["java/lang/RuntimeException", "java/lang/Exception"]) hx hb hl0 hown (by decide +kernel) (by decide +kernel) (hts (.classLink RX1 27 "java/lang/IllegalArgumentException") (by decide +kernel)) (hts (.initialized "java/lang/IllegalArgumentException") (by decide +kernel)) hstr (vx_hat (B := [.castable "java/lang/IllegalArgumentException" "java/lang/IllegalArgumentException", .declares (Bundle.initS "java/lang/RuntimeException"), .declares (Bundle.initS "java/lang/Exception"), .declares (Bundle.initS Bundle.tN)]) (fun w h9 => hts w (hthIAE w h9)) tnIAE (vx_c (va_Nw.use rfl (hE.2.2.1 (.castable "java/lang/IllegalArgumentException" "java/lang/IllegalArgumentException") (by decide +kernel))) (vx_c (va_Nw.use rfl (hE.2.2.1 (.declares (Bundle.initS "java/lang/RuntimeException")) (by decide +kernel))) (vx_c (va_Nw.use rfl (hE.2.2.1 (.declares (Bundle.initS "java/lang/Exception")) (by decide +kernel))) (vx_c (va_Nw.use rfl (hE.2.2.1 (.declares (Bundle.initS Bundle.tN)) (by decide +kernel))) vx_n))))) tgIAE hE.2.2.2.2.1 hE.2.2.2.2.2 hS (hl.1.trans hml.symm) dX1_checkDifferent_5 dX1_checkDifferent_8 dX1_checkDifferent_9 dX1_checkDifferent_11 dX1_checkDifferent_14 (fun x9 h9 => (htab x9 h9).elim) (Nat.le_of_ble_eq_true rfl) (Nat.le_of_ble_eq_true rfl) (Nat.le_of_ble_eq_true rfl) (Nat.le_of_ble_eq_true rfl) hlocks (fun t8 hal8 hz8 hk8 => ⟨(), trivial, (show exE ["java/lang/IllegalArgumentException"] (x_cd va vb) "java/lang/IllegalArgumentException" from by simp [exE, x_cd, c_2]), ⟨hz8, fun q8 h8 _ => hk8 q8 h8⟩⟩) hS.2.2 (Nat.le_of_ble_eq_true rfl) (Nat.le_of_ble_eq_true rfl)

set_option maxHeartbeats 4000000 in
set_option maxRecDepth 100000 in
theorem c_X1_checkResult (l : Launch) (hl0 : l.stackTraces = false) (dC : Nat → ClassId) (dI : Nat → Nat → Nat) (cI : ClassId)  (H0 : Heap) (vr : Int32) : vx_Met l yX1_checkResult wsX1_checkResult ({ frames := 6, cells := 1, slots := 6, locals := 82 } : Room) (va_Pc [.int vr] (fun U => U.heap = H0 ∧ PR dC dI cI ([]) U)) (va_Qv (fun (_ : Unit) => x_cr vr = 0) (fun _ t => t.heap = H0) (fun _ => False)) (vx_X (fun (_ : Unit) => True) (fun E _ t => exE ["java/lang/IllegalArgumentException"] (x_cr vr) E) (fun _ => False)) 1 6 (fun _ => False) := by
  refine vx_ofW (cc := cX1_checkResult) (maxL := 1) (ret := none) (by decide) rfl ?_
  intro p e s m args below meth c s₁ B hml htab hv
  obtain ⟨rfl, hH0, hP, hK, hE⟩ := hv
  subst hH0
  have hx := B.exec
  have hb := B.bytes
  have hr := B.returns
  have hts := atoms_spec (ws := wsX1_checkResult) B.pre
  have hown : s.vm.findClass RX1 = some m.cls := findClass_of_methodNamed B.named
  have hlocks := B.notSynchronized
  have hS : va_S (fun _ => False) s.heap s.heap [] := va_S.rf
  have hthIAE : ∀ w ∈ (vx_atS RX1 31 "java/lang/IllegalArgumentException" ["java/lang/RuntimeException", "java/lang/Exception"]).filter goodWord, w ∈ wsX1_checkResult := by decide +kernel
  have hl := lv_entry ([.int vr]) (n := 1) (Nat.le_of_ble_eq_true rfl)
  rw [lg_entry_eq]
  generalize (lg_sl ([.int vr]) ++ List.replicate (1 - (lg_sl ([.int vr])).length) Slot.unset).toArray = ls at hl ⊢
  have hl : lv_has ls 1 [(0, .int vr)] := hl
  refine lv_iload_n hx hb dX1_checkResult_0 rfl (lv_at hl 0 rfl) ?_
  refine lv_if_lt (tgt := 9) hx hb dX1_checkResult_1 (by decide) (fun c_1 => ?_) (fun c_1 => ?_)
  · obtain ⟨sa, hstr⟩ := hE.2.2.2.1 (194, "no such result") (by decide +kernel)
    exact vx_throwS (names := ["java/lang/RuntimeException", "java/lang/Exception"]) hx hb hl0 hown (by decide +kernel) (by decide +kernel) (hts (.classLink RX1 27 "java/lang/IllegalArgumentException") (by decide +kernel)) (hts (.initialized "java/lang/IllegalArgumentException") (by decide +kernel)) hstr (vx_hat (B := [.castable "java/lang/IllegalArgumentException" "java/lang/IllegalArgumentException", .declares (Bundle.initS "java/lang/RuntimeException"), .declares (Bundle.initS "java/lang/Exception"), .declares (Bundle.initS Bundle.tN)]) (fun w h9 => hts w (hthIAE w h9)) tnIAE (vx_c (va_Nw.use rfl (hE.2.2.1 (.castable "java/lang/IllegalArgumentException" "java/lang/IllegalArgumentException") (by decide +kernel))) (vx_c (va_Nw.use rfl (hE.2.2.1 (.declares (Bundle.initS "java/lang/RuntimeException")) (by decide +kernel))) (vx_c (va_Nw.use rfl (hE.2.2.1 (.declares (Bundle.initS "java/lang/Exception")) (by decide +kernel))) (vx_c (va_Nw.use rfl (hE.2.2.1 (.declares (Bundle.initS Bundle.tN)) (by decide +kernel))) vx_n))))) tgIAE hE.2.2.2.2.1 hE.2.2.2.2.2 hS (hl.1.trans hml.symm) dX1_checkResult_9 dX1_checkResult_12 dX1_checkResult_13 dX1_checkResult_15 dX1_checkResult_18 (fun x9 h9 => (htab x9 h9).elim) (Nat.le_of_ble_eq_true rfl) (Nat.le_of_ble_eq_true rfl) (Nat.le_of_ble_eq_true rfl) (Nat.le_of_ble_eq_true rfl) hlocks (fun t8 hal8 hz8 hk8 => ⟨(), trivial, (show exE ["java/lang/IllegalArgumentException"] (x_cr vr) "java/lang/IllegalArgumentException" from by simp [exE, x_cr, c_1]), ⟨hz8, fun q8 h8 _ => hk8 q8 h8⟩⟩) hS.2.2 (Nat.le_of_ble_eq_true rfl) (Nat.le_of_ble_eq_true rfl)
  · refine lv_iload_n hx hb dX1_checkResult_4 rfl (lv_at hl 0 rfl) ?_
    refine lv_iconst (v := 2) hx hb dX1_checkResult_5 (by decide) ?_
    refine lv_icmp_le (tgt := 19) hx hb dX1_checkResult_6 (by decide) (fun c_6 => ?_) (fun c_6 => ?_)
    · refine vx_ret ?_
      refine W.widen (k := 1) (n := 6) (Nat.le_of_ble_eq_true rfl) (Nat.le_of_ble_eq_true rfl) ?_
      exact W.vret hx hb hr (fun t ht hW => ⟨⟨(), rfl, (show x_cr vr = 0 from by simp [x_cr, c_1, c_6]), ht⟩, hS.F ht⟩) hS.2.2 dX1_checkResult_19
    · obtain ⟨sa, hstr⟩ := hE.2.2.2.1 (194, "no such result") (by decide +kernel)
      exact vx_throwS (names := ["java/lang/RuntimeException", "java/lang/Exception"]) hx hb hl0 hown (by decide +kernel) (by decide +kernel) (hts (.classLink RX1 27 "java/lang/IllegalArgumentException") (by decide +kernel)) (hts (.initialized "java/lang/IllegalArgumentException") (by decide +kernel)) hstr (vx_hat (B := [.castable "java/lang/IllegalArgumentException" "java/lang/IllegalArgumentException", .declares (Bundle.initS "java/lang/RuntimeException"), .declares (Bundle.initS "java/lang/Exception"), .declares (Bundle.initS Bundle.tN)]) (fun w h9 => hts w (hthIAE w h9)) tnIAE (vx_c (va_Nw.use rfl (hE.2.2.1 (.castable "java/lang/IllegalArgumentException" "java/lang/IllegalArgumentException") (by decide +kernel))) (vx_c (va_Nw.use rfl (hE.2.2.1 (.declares (Bundle.initS "java/lang/RuntimeException")) (by decide +kernel))) (vx_c (va_Nw.use rfl (hE.2.2.1 (.declares (Bundle.initS "java/lang/Exception")) (by decide +kernel))) (vx_c (va_Nw.use rfl (hE.2.2.1 (.declares (Bundle.initS Bundle.tN)) (by decide +kernel))) vx_n))))) tgIAE hE.2.2.2.2.1 hE.2.2.2.2.2 hS (hl.1.trans hml.symm) dX1_checkResult_9 dX1_checkResult_12 dX1_checkResult_13 dX1_checkResult_15 dX1_checkResult_18 (fun x9 h9 => (htab x9 h9).elim) (Nat.le_of_ble_eq_true rfl) (Nat.le_of_ble_eq_true rfl) (Nat.le_of_ble_eq_true rfl) (Nat.le_of_ble_eq_true rfl) hlocks (fun t8 hal8 hz8 hk8 => ⟨(), trivial, (show exE ["java/lang/IllegalArgumentException"] (x_cr vr) "java/lang/IllegalArgumentException" from by simp [exE, x_cr, c_1, c_6]), ⟨hz8, fun q8 h8 _ => hk8 q8 h8⟩⟩) hS.2.2 (Nat.le_of_ble_eq_true rfl) (Nat.le_of_ble_eq_true rfl)

set_option maxHeartbeats 4000000 in
set_option maxRecDepth 100000 in
theorem c_X1_isLeague (l : Launch) (dC : Nat → ClassId) (dI : Nat → Nat → Nat) (cI : ClassId)  (vg : Int32) : Met l yX1_isLeague wsX1_isLeague ({ frames := 0, cells := 0, slots := 0, locals := 0 } : Room) (va_Pc [.int vg] (fun U => PR dC dI cI ([]) U)) (vp_Si (fun r => r = bI (s_lg vg))) 0 0 (fun _ => False) := by
  refine Met.ofW (cc := cX1_isLeague) (maxL := 1) (ret := (some .boolean)) (by decide) rfl ?_
  intro p e s m args below meth c s₁ B hml hv
  obtain ⟨rfl, hP, hK, hE⟩ := hv
  have hx := B.exec
  have hb := B.bytes
  have hr := B.returns
  have hts := atoms_spec (ws := wsX1_isLeague) B.pre
  have hown : s.vm.findClass RX1 = some m.cls := findClass_of_methodNamed B.named
  have hlocks := B.notSynchronized
  have hS : va_S (fun _ => False) s.heap s.heap [] := va_S.rf
  have hl := lv_entry ([.int vg]) (n := 1) (Nat.le_of_ble_eq_true rfl)
  rw [lg_entry_eq]
  generalize (lg_sl ([.int vg]) ++ List.replicate (1 - (lg_sl ([.int vg])).length) Slot.unset).toArray = ls at hl ⊢
  have hl : lv_has ls 1 [(0, .int vg)] := hl
  refine lv_iload_n hx hb dX1_isLeague_0 rfl (lv_at hl 0 rfl) ?_
  refine lv_if_lt (tgt := 13) hx hb dX1_isLeague_1 (by decide) (fun c_1 => ?_) (fun c_1 => ?_)
  · refine lv_iconst (v := 0) hx hb dX1_isLeague_13 (by decide) ?_
    exact W.zret (v := 0) hx hb hr (by decide) (fun t ht hW => ⟨_, rfl, (show 0 = bI (s_lg vg) from by simp [s_lg, bI, c_1]), ht⟩) hS.2.2 dX1_isLeague_14
  · refine lv_iload_n hx hb dX1_isLeague_4 rfl (lv_at hl 0 rfl) ?_
    refine lv_iconst (v := 3) hx hb dX1_isLeague_5 (by decide) ?_
    refine lv_icmp_ge (tgt := 13) hx hb dX1_isLeague_6 (by decide) (fun c_6 => ?_) (fun c_6 => ?_)
    · refine lv_iconst (v := 0) hx hb dX1_isLeague_13 (by decide) ?_
      exact W.zret (v := 0) hx hb hr (by decide) (fun t ht hW => ⟨_, rfl, (show 0 = bI (s_lg vg) from by simp [s_lg, bI, c_1, c_6]), ht⟩) hS.2.2 dX1_isLeague_14
    · refine lv_iconst (v := 1) hx hb dX1_isLeague_9 (by decide) ?_
      refine lv_goto (tgt := 14) hx hb dX1_isLeague_10 (by decide) ?_
      exact W.zret (v := 1) hx hb hr (by decide) (fun t ht hW => ⟨_, rfl, (show 1 = bI (s_lg vg) from by simp [s_lg, bI, c_1, c_6]), ht⟩) hS.2.2 dX1_isLeague_14

set_option maxHeartbeats 4000000 in
set_option maxRecDepth 100000 in
theorem c_X1_expected (l : Launch) (hl0 : l.stackTraces = false) (dC : Nat → ClassId) (dI : Nat → Nat → Nat) (cI : ClassId) (h r1 : Nat) (d1 : Nat → Nat) (r2 : Nat) (d2 : Nat → Nat) (rc : Nat) (n : Nat) (F : Nat → Nat → Int32) (n2 : Nat) (G : Nat → Nat → Int32) (ct ch : Nat → Int32) (H0 : Heap) (va : Int32) (vb : Int32) (hn : n ≤ 12) (hR : okR n F) : vx_Met l yX1_expected wsX1_expected ({ frames := 7, cells := 2, slots := 12, locals := 103 } : Room) (va_Pc [.ref h, .int va, .int vb] (fun U => U.heap = H0 ∧ PR dC dI cI (wB h r1 d1 r2 d2 rc cI n F n2 G ct ch) U)) (va_Qi (fun r (_ : Unit) => x_exp n va vb = 0 ∧ r = s_exp F (cl va) (cl vb)) (fun _ t => t.heap = H0) (fun _ => False)) (vx_X (fun (_ : Unit) => True) (fun E _ t => exE ["java/lang/IndexOutOfBoundsException"] (x_exp n va vb) E) (fun _ => False)) 2 12 (fun _ => False) := by
  refine vx_ofW (cc := cX1_expected) (maxL := 3) (ret := (some .int)) (by decide) rfl ?_
  intro p e s m args below meth c s₁ B hml htab hv
  obtain ⟨rfl, hH0, hP, hK, hE⟩ := hv
  subst hH0
  have hx := B.exec
  have hb := B.bytes
  have hr := B.returns
  have hts := atoms_spec (ws := wsX1_expected) B.pre
  have hown : s.vm.findClass RX1 = some m.cls := findClass_of_methodNamed B.named
  have hlocks := B.notSynchronized
  have hS : va_S (fun _ => False) s.heap s.heap [] := va_S.rf
  have hinX1 : ∀ w ∈ wsX10, w ∈ wsX1_expected := by decide +kernel
  have hl := lv_entry ([.ref h, .int va, .int vb]) (n := 3) (Nat.le_of_ble_eq_true rfl)
  rw [lg_entry_eq]
  generalize (lg_sl ([.ref h, .int va, .int vb]) ++ List.replicate (3 - (lg_sl ([.ref h, .int va, .int vb])).length) Slot.unset).toArray = ls at hl ⊢
  have hl : lv_has ls 3 [(0, .ref h), (1, .int va), (2, .int vb)] := hl
  refine lv_aload_n hx hb dX1_expected_0 rfl (lv_at hl 0 rfl) ?_
  refine lv_iload_n hx hb dX1_expected_1 rfl (lv_at hl 1 rfl) ?_
  refine vx_callv (vx_runV (As := [.int va]) (rest := []) ⟨hx, hb, hml, hown, hts⟩ (c_X1_checkWrestler l hl0 dC dI cI h r1 d1 r2 d2 rc n F n2 G ct ch s.heap va hn) (cwV 1 hts gX1_expected_X1_checkWrestler rfl rfl rfl (by decide +kernel) ⟨Nat.le_of_ble_eq_true rfl, Nat.le_of_ble_eq_true rfl⟩) ⟨PRX.blind, va_recv hK hP (ci := 1) (q0 := 0) rfl rfl, fun U hU hW => ⟨rfl, hU, PR.go hP hK hE hS hU hW⟩⟩ rfl rfl hl.1 rfl (lv_room (Nat.le_of_ble_eq_true rfl)) dX1_expected_2 ⟨Nat.le_of_ble_eq_true rfl, Nat.le_of_ble_eq_true rfl⟩) hS (fun q _ h9 => h9.elim) (fun q h9 => h9.elim) (fun q _ h9 => h9.elim) (fun E9 ce9 q9 u9 t9 H1 locs9 ht9 hvm9 hw9 hB9 hz9 hk9 hS9 hce9 hcv9 hcl9 => vx_out (fun x9 h9 => (htab x9 h9).elim) hlocks hce9 hcv9 hcl9 (fun t8 ht8 hal8 => ⟨(), trivial, (show exE ["java/lang/IndexOutOfBoundsException"] (x_exp n va vb) E9 from by obtain ⟨h1, h2⟩ := exE_cw hB9; subst h2; simp [exE, x_exp, h1]), hS9.F ht8⟩) hS9.2.2 (Nat.le_of_ble_eq_true rfl) (Nat.le_of_ble_eq_true rfl)) (fun u9 t9 H1 locs ht9 hvm9 hw9 hB9 hz9 hk9 hS => ?_)
  have e9 : H1 = s.heap := ht9.symm.trans hB9
  subst e9
  obtain ⟨a, i_a, rfl⟩ := s_has_nat hn (ok_cw hw9)
  have h_a := s_has_nI hn i_a
  refine lv_aload_n hx hb dX1_expected_5 rfl (lv_at hl 0 rfl) ?_
  refine lv_iload_n hx hb dX1_expected_6 rfl (lv_at hl 2 rfl) ?_
  refine vx_callv (vx_runV (As := [.int vb]) (rest := []) ⟨hx, hb, hml, hown, hts⟩ (c_X1_checkWrestler l hl0 dC dI cI h r1 d1 r2 d2 rc n F n2 G ct ch s.heap vb hn) (cwV 1 hts gX1_expected_X1_checkWrestler rfl rfl rfl (by decide +kernel) ⟨Nat.le_of_ble_eq_true rfl, Nat.le_of_ble_eq_true rfl⟩) ⟨PRX.blind, va_recv hK hP (ci := 1) (q0 := 0) rfl rfl, fun U hU hW => ⟨rfl, hU, PR.go hP hK hE hS hU hW⟩⟩ rfl rfl hl.1 rfl (lv_room (Nat.le_of_ble_eq_true rfl)) dX1_expected_7 ⟨Nat.le_of_ble_eq_true rfl, Nat.le_of_ble_eq_true rfl⟩) hS (fun q _ h9 => h9.elim) (fun q h9 => h9.elim) (fun q _ h9 => h9.elim) (fun E9 ce9 q9 u9 t9 H1 locs9 ht9 hvm9 hw9 hB9 hz9 hk9 hS9 hce9 hcv9 hcl9 => vx_out (fun x9 h9 => (htab x9 h9).elim) hlocks hce9 hcv9 hcl9 (fun t8 ht8 hal8 => ⟨(), trivial, (show exE ["java/lang/IndexOutOfBoundsException"] (x_exp n (nI a) vb) E9 from by obtain ⟨h1, h2⟩ := exE_cw hB9; subst h2; simp [exE, x_exp, h_a, h1]), hS9.F ht8⟩) hS9.2.2 (Nat.le_of_ble_eq_true rfl) (Nat.le_of_ble_eq_true rfl)) (fun u9 t9 H1 locs ht9 hvm9 hw9 hB9 hz9 hk9 hS => ?_)
  have e9 : H1 = s.heap := ht9.symm.trans hB9
  subst e9
  obtain ⟨b, i_b, rfl⟩ := s_has_nat hn (ok_cw hw9)
  have h_b := s_has_nI hn i_b
  refine lv_aload_n hx hb dX1_expected_10 rfl (lv_at hl 0 rfl) ?_
  refine va_get (D := (dC, dI)) (ci := 1) (v := .ref r1) (C := RX1) (T := TX1) (N := 6) hx hb hts hinX1 hown hK hP 0 rfl rfl 0 (by decide) (hts (.fieldLink RX1 10 "WrestleBook" "roster" "LWrestleBook$Roster;") (by decide +kernel)) (fun _ h9 => h9) rfl dX1_expected_11 ?_
  refine lv_iload_n hx hb dX1_expected_14 rfl (lv_at hl 1 rfl) ?_
  refine lv_iload_n hx hb dX1_expected_15 rfl (lv_at hl 2 rfl) ?_
  refine vp_callSi (W.runV (As := [.int (nI a), .int (nI b)]) (rest := []) ⟨hx, hb, hml, hown, hts⟩ (c_X0_expectation l dC dI cI r1 d1 n F a (show a < n by omega) b (show b < n by omega) hn hR) (cwV 2 hts gX1_expected_X0_expectation rfl rfl rfl (by decide +kernel) ⟨Nat.le_of_ble_eq_true rfl, Nat.le_of_ble_eq_true rfl⟩) ⟨PR.blind, va_recv hK hP (ci := 0) (q0 := 2) rfl rfl, fun U hU hW => ⟨rfl, PR.go (hP.sub (ws' := (wR r1 d1 cI n F)) [2, 3, 4, 5, 6, 7, 8, 9] rfl) hK hE hS hU hW⟩⟩ rfl rfl hl.1 rfl (lv_room (Nat.le_of_ble_eq_true rfl)) dX1_expected_16 ⟨Nat.le_of_ble_eq_true rfl, Nat.le_of_ble_eq_true rfl⟩) (fun r hr0 => ?_)
  subst hr0
  refine vx_ret ?_
  refine W.widen (k := 2) (n := 12) (Nat.le_of_ble_eq_true rfl) (Nat.le_of_ble_eq_true rfl) ?_
  exact W.iret (v := s_exp F a b) hx hb hr (fun t ht hW => ⟨⟨_, (), rfl, ⟨(show x_exp n (nI a) (nI b) = 0 from by simp [x_exp, h_a, h_b]), (show s_exp F a b = s_exp F (cl (nI a)) (cl (nI b)) from by rw [cl_nI (by omega), cl_nI (by omega)])⟩, ht⟩, hS.F ht⟩) hS.2.2 dX1_expected_19

set_option maxHeartbeats 4000000 in
set_option maxRecDepth 100000 in
theorem c_X1_told (l : Launch) (hl0 : l.stackTraces = false) (dC : Nat → ClassId) (dI : Nat → Nat → Nat) (cI : ClassId) (h r1 : Nat) (d1 : Nat → Nat) (r2 : Nat) (d2 : Nat → Nat) (rc : Nat) (n : Nat) (F : Nat → Nat → Int32) (n2 : Nat) (G : Nat → Nat → Int32) (ct ch : Nat → Int32) (H0 : Heap) (va : Int32) (vk : Int32) (hn : n ≤ 12) : vx_Met l yX1_told wsX1_told ({ frames := 7, cells := 2, slots := 12, locals := 103 } : Room) (va_Pc [.ref h, .int va, .int vk] (fun U => U.heap = H0 ∧ PR dC dI cI (wB h r1 d1 r2 d2 rc cI n F n2 G ct ch) U)) (va_Qi (fun r (_ : Unit) => x_told n va vk = 0 ∧ r = s_told n F (cl va) vk) (fun _ t => t.heap = H0) (fun _ => False)) (vx_X (fun (_ : Unit) => True) (fun E _ t => exE ["java/lang/IndexOutOfBoundsException"] (x_told n va vk) E) (fun _ => False)) 2 12 (fun _ => False) := by
  refine vx_ofW (cc := cX1_told) (maxL := 3) (ret := (some .int)) (by decide) rfl ?_
  intro p e s m args below meth c s₁ B hml htab hv
  obtain ⟨rfl, hH0, hP, hK, hE⟩ := hv
  subst hH0
  have hx := B.exec
  have hb := B.bytes
  have hr := B.returns
  have hts := atoms_spec (ws := wsX1_told) B.pre
  have hown : s.vm.findClass RX1 = some m.cls := findClass_of_methodNamed B.named
  have hlocks := B.notSynchronized
  have hS : va_S (fun _ => False) s.heap s.heap [] := va_S.rf
  have hinX1 : ∀ w ∈ wsX10, w ∈ wsX1_told := by decide +kernel
  have hthIOB : ∀ w ∈ (vx_atS RX1 125 "java/lang/IndexOutOfBoundsException" ["java/lang/RuntimeException", "java/lang/Exception"]).filter goodWord, w ∈ wsX1_told := by decide +kernel
  have hl := lv_entry ([.ref h, .int va, .int vk]) (n := 3) (Nat.le_of_ble_eq_true rfl)
  rw [lg_entry_eq]
  generalize (lg_sl ([.ref h, .int va, .int vk]) ++ List.replicate (3 - (lg_sl ([.ref h, .int va, .int vk])).length) Slot.unset).toArray = ls at hl ⊢
  have hl : lv_has ls 3 [(0, .ref h), (1, .int va), (2, .int vk)] := hl
  refine lv_aload_n hx hb dX1_told_0 rfl (lv_at hl 0 rfl) ?_
  refine lv_iload_n hx hb dX1_told_1 rfl (lv_at hl 1 rfl) ?_
  refine vx_callv (vx_runV (As := [.int va]) (rest := []) ⟨hx, hb, hml, hown, hts⟩ (c_X1_checkWrestler l hl0 dC dI cI h r1 d1 r2 d2 rc n F n2 G ct ch s.heap va hn) (cwV 1 hts gX1_told_X1_checkWrestler rfl rfl rfl (by decide +kernel) ⟨Nat.le_of_ble_eq_true rfl, Nat.le_of_ble_eq_true rfl⟩) ⟨PRX.blind, va_recv hK hP (ci := 1) (q0 := 0) rfl rfl, fun U hU hW => ⟨rfl, hU, PR.go hP hK hE hS hU hW⟩⟩ rfl rfl hl.1 rfl (lv_room (Nat.le_of_ble_eq_true rfl)) dX1_told_2 ⟨Nat.le_of_ble_eq_true rfl, Nat.le_of_ble_eq_true rfl⟩) hS (fun q _ h9 => h9.elim) (fun q h9 => h9.elim) (fun q _ h9 => h9.elim) (fun E9 ce9 q9 u9 t9 H1 locs9 ht9 hvm9 hw9 hB9 hz9 hk9 hS9 hce9 hcv9 hcl9 => vx_out (fun x9 h9 => (htab x9 h9).elim) hlocks hce9 hcv9 hcl9 (fun t8 ht8 hal8 => ⟨(), trivial, (show exE ["java/lang/IndexOutOfBoundsException"] (x_told n va vk) E9 from by obtain ⟨h1, h2⟩ := exE_cw hB9; subst h2; simp [exE, x_told, h1]), hS9.F ht8⟩) hS9.2.2 (Nat.le_of_ble_eq_true rfl) (Nat.le_of_ble_eq_true rfl)) (fun u9 t9 H1 locs ht9 hvm9 hw9 hB9 hz9 hk9 hS => ?_)
  have e9 : H1 = s.heap := ht9.symm.trans hB9
  subst e9
  obtain ⟨a, i_a, rfl⟩ := s_has_nat hn (ok_cw hw9)
  have h_a := s_has_nI hn i_a
  refine lv_iload_n hx hb dX1_told_5 rfl (lv_at hl 2 rfl) ?_
  rcases sw9 vk with rfl | rfl | rfl | rfl | rfl | rfl | rfl | rfl | rfl | hsw
  · refine lv_tableIn (tgt := 56) (off := 50) hx hb dX1_told_6 (by decide) (by decide) (by decide) (by decide) ?_
    refine lv_aload_n hx hb dX1_told_56 rfl (lv_at hl 0 rfl) ?_
    refine va_get (D := (dC, dI)) (ci := 1) (v := .ref r1) (C := RX1) (T := TX1) (N := 6) hx hb hts hinX1 hown hK hP 0 rfl rfl 0 (by decide) (hts (.fieldLink RX1 10 "WrestleBook" "roster" "LWrestleBook$Roster;") (by decide +kernel)) (fun _ h9 => h9) rfl dX1_told_57 ?_
    refine lv_iload_n hx hb dX1_told_60 rfl (lv_at hl 1 rfl) ?_
    refine vp_callSi (W.runV (As := [.int (nI a)]) (rest := []) ⟨hx, hb, hml, hown, hts⟩ (c_X0_rating l dC dI cI r1 d1 n F a (show a < n by omega) hn) (cwV 1 hts gX1_told_X0_rating rfl rfl rfl (by decide +kernel) ⟨Nat.le_of_ble_eq_true rfl, Nat.le_of_ble_eq_true rfl⟩) ⟨PR.blind, va_recv hK hP (ci := 0) (q0 := 2) rfl rfl, fun U hU hW => ⟨rfl, PR.go (hP.sub (ws' := (wR r1 d1 cI n F)) [2, 3, 4, 5, 6, 7, 8, 9] rfl) hK hE hS hU hW⟩⟩ rfl rfl hl.1 rfl (lv_room (Nat.le_of_ble_eq_true rfl)) dX1_told_61 ⟨Nat.le_of_ble_eq_true rfl, Nat.le_of_ble_eq_true rfl⟩) (fun r hr0 => ?_)
    subst hr0
    refine vx_ret ?_
    refine W.widen (k := 2) (n := 12) (Nat.le_of_ble_eq_true rfl) (Nat.le_of_ble_eq_true rfl) ?_
    exact W.iret (v := F 1 a) hx hb hr (fun t ht hW => ⟨⟨_, (), rfl, ⟨(show x_told n (nI a) 0 = 0 from by unfold x_told; rw [if_pos h_a]; rfl), (show F 1 a = s_told n F (cl (nI a)) 0 from by rw [cl_nI (by omega)]; rfl)⟩, ht⟩, hS.F ht⟩) hS.2.2 dX1_told_64
  · refine lv_tableIn (tgt := 65) (off := 59) hx hb dX1_told_6 (by decide) (by decide) (by decide) (by decide) ?_
    refine lv_aload_n hx hb dX1_told_65 rfl (lv_at hl 0 rfl) ?_
    refine va_get (D := (dC, dI)) (ci := 1) (v := .ref r1) (C := RX1) (T := TX1) (N := 6) hx hb hts hinX1 hown hK hP 0 rfl rfl 0 (by decide) (hts (.fieldLink RX1 10 "WrestleBook" "roster" "LWrestleBook$Roster;") (by decide +kernel)) (fun _ h9 => h9) rfl dX1_told_66 ?_
    refine lv_iload_n hx hb dX1_told_69 rfl (lv_at hl 1 rfl) ?_
    refine vp_callSi (W.runV (As := [.int (nI a)]) (rest := []) ⟨hx, hb, hml, hown, hts⟩ (c_X0_league l dC dI cI r1 d1 n F a (show a < n by omega) hn) (cwV 1 hts gX1_told_X0_league rfl rfl rfl (by decide +kernel) ⟨Nat.le_of_ble_eq_true rfl, Nat.le_of_ble_eq_true rfl⟩) ⟨PR.blind, va_recv hK hP (ci := 0) (q0 := 2) rfl rfl, fun U hU hW => ⟨rfl, PR.go (hP.sub (ws' := (wR r1 d1 cI n F)) [2, 3, 4, 5, 6, 7, 8, 9] rfl) hK hE hS hU hW⟩⟩ rfl rfl hl.1 rfl (lv_room (Nat.le_of_ble_eq_true rfl)) dX1_told_70 ⟨Nat.le_of_ble_eq_true rfl, Nat.le_of_ble_eq_true rfl⟩) (fun r hr0 => ?_)
    subst hr0
    refine vx_ret ?_
    refine W.widen (k := 2) (n := 12) (Nat.le_of_ble_eq_true rfl) (Nat.le_of_ble_eq_true rfl) ?_
    exact W.iret (v := F 0 a) hx hb hr (fun t ht hW => ⟨⟨_, (), rfl, ⟨(show x_told n (nI a) 1 = 0 from by unfold x_told; rw [if_pos h_a]; rfl), (show F 0 a = s_told n F (cl (nI a)) 1 from by rw [cl_nI (by omega)]; rfl)⟩, ht⟩, hS.F ht⟩) hS.2.2 dX1_told_73
  · refine lv_tableIn (tgt := 74) (off := 68) hx hb dX1_told_6 (by decide) (by decide) (by decide) (by decide) ?_
    refine lv_aload_n hx hb dX1_told_74 rfl (lv_at hl 0 rfl) ?_
    refine va_get (D := (dC, dI)) (ci := 1) (v := .ref r1) (C := RX1) (T := TX1) (N := 6) hx hb hts hinX1 hown hK hP 0 rfl rfl 0 (by decide) (hts (.fieldLink RX1 10 "WrestleBook" "roster" "LWrestleBook$Roster;") (by decide +kernel)) (fun _ h9 => h9) rfl dX1_told_75 ?_
    refine lv_iload_n hx hb dX1_told_78 rfl (lv_at hl 1 rfl) ?_
    refine vp_callSi (W.runV (As := [.int (nI a)]) (rest := []) ⟨hx, hb, hml, hown, hts⟩ (c_X0_points l dC dI cI r1 d1 n F a (show a < n by omega) hn) (cwV 1 hts gX1_told_X0_points rfl rfl rfl (by decide +kernel) ⟨Nat.le_of_ble_eq_true rfl, Nat.le_of_ble_eq_true rfl⟩) ⟨PR.blind, va_recv hK hP (ci := 0) (q0 := 2) rfl rfl, fun U hU hW => ⟨rfl, PR.go (hP.sub (ws' := (wR r1 d1 cI n F)) [2, 3, 4, 5, 6, 7, 8, 9] rfl) hK hE hS hU hW⟩⟩ rfl rfl hl.1 rfl (lv_room (Nat.le_of_ble_eq_true rfl)) dX1_told_79 ⟨Nat.le_of_ble_eq_true rfl, Nat.le_of_ble_eq_true rfl⟩) (fun r hr0 => ?_)
    subst hr0
    refine vx_ret ?_
    refine W.widen (k := 2) (n := 12) (Nat.le_of_ble_eq_true rfl) (Nat.le_of_ble_eq_true rfl) ?_
    exact W.iret (v := F 2 a) hx hb hr (fun t ht hW => ⟨⟨_, (), rfl, ⟨(show x_told n (nI a) 2 = 0 from by unfold x_told; rw [if_pos h_a]; rfl), (show F 2 a = s_told n F (cl (nI a)) 2 from by rw [cl_nI (by omega)]; rfl)⟩, ht⟩, hS.F ht⟩) hS.2.2 dX1_told_82
  · refine lv_tableIn (tgt := 83) (off := 77) hx hb dX1_told_6 (by decide) (by decide) (by decide) (by decide) ?_
    refine lv_aload_n hx hb dX1_told_83 rfl (lv_at hl 0 rfl) ?_
    refine va_get (D := (dC, dI)) (ci := 1) (v := .ref r1) (C := RX1) (T := TX1) (N := 6) hx hb hts hinX1 hown hK hP 0 rfl rfl 0 (by decide) (hts (.fieldLink RX1 10 "WrestleBook" "roster" "LWrestleBook$Roster;") (by decide +kernel)) (fun _ h9 => h9) rfl dX1_told_84 ?_
    refine lv_iload_n hx hb dX1_told_87 rfl (lv_at hl 1 rfl) ?_
    refine vp_callSi (W.runV (As := [.int (nI a)]) (rest := []) ⟨hx, hb, hml, hown, hts⟩ (c_X0_bouts l dC dI cI r1 d1 n F a (show a < n by omega) hn) (cwV 1 hts gX1_told_X0_bouts rfl rfl rfl (by decide +kernel) ⟨Nat.le_of_ble_eq_true rfl, Nat.le_of_ble_eq_true rfl⟩) ⟨PR.blind, va_recv hK hP (ci := 0) (q0 := 2) rfl rfl, fun U hU hW => ⟨rfl, PR.go (hP.sub (ws' := (wR r1 d1 cI n F)) [2, 3, 4, 5, 6, 7, 8, 9] rfl) hK hE hS hU hW⟩⟩ rfl rfl hl.1 rfl (lv_room (Nat.le_of_ble_eq_true rfl)) dX1_told_88 ⟨Nat.le_of_ble_eq_true rfl, Nat.le_of_ble_eq_true rfl⟩) (fun r hr0 => ?_)
    subst hr0
    refine vx_ret ?_
    refine W.widen (k := 2) (n := 12) (Nat.le_of_ble_eq_true rfl) (Nat.le_of_ble_eq_true rfl) ?_
    exact W.iret (v := F 3 a) hx hb hr (fun t ht hW => ⟨⟨_, (), rfl, ⟨(show x_told n (nI a) 3 = 0 from by unfold x_told; rw [if_pos h_a]; rfl), (show F 3 a = s_told n F (cl (nI a)) 3 from by rw [cl_nI (by omega)]; rfl)⟩, ht⟩, hS.F ht⟩) hS.2.2 dX1_told_91
  · refine lv_tableIn (tgt := 92) (off := 86) hx hb dX1_told_6 (by decide) (by decide) (by decide) (by decide) ?_
    refine lv_aload_n hx hb dX1_told_92 rfl (lv_at hl 0 rfl) ?_
    refine va_get (D := (dC, dI)) (ci := 1) (v := .ref r1) (C := RX1) (T := TX1) (N := 6) hx hb hts hinX1 hown hK hP 0 rfl rfl 0 (by decide) (hts (.fieldLink RX1 10 "WrestleBook" "roster" "LWrestleBook$Roster;") (by decide +kernel)) (fun _ h9 => h9) rfl dX1_told_93 ?_
    refine lv_iload_n hx hb dX1_told_96 rfl (lv_at hl 1 rfl) ?_
    refine vp_callSi (W.runV (As := [.int (nI a)]) (rest := []) ⟨hx, hb, hml, hown, hts⟩ (c_X0_seasonBouts l dC dI cI r1 d1 n F a (show a < n by omega) hn) (cwV 1 hts gX1_told_X0_seasonBouts rfl rfl rfl (by decide +kernel) ⟨Nat.le_of_ble_eq_true rfl, Nat.le_of_ble_eq_true rfl⟩) ⟨PR.blind, va_recv hK hP (ci := 0) (q0 := 2) rfl rfl, fun U hU hW => ⟨rfl, PR.go (hP.sub (ws' := (wR r1 d1 cI n F)) [2, 3, 4, 5, 6, 7, 8, 9] rfl) hK hE hS hU hW⟩⟩ rfl rfl hl.1 rfl (lv_room (Nat.le_of_ble_eq_true rfl)) dX1_told_97 ⟨Nat.le_of_ble_eq_true rfl, Nat.le_of_ble_eq_true rfl⟩) (fun r hr0 => ?_)
    subst hr0
    refine vx_ret ?_
    refine W.widen (k := 2) (n := 12) (Nat.le_of_ble_eq_true rfl) (Nat.le_of_ble_eq_true rfl) ?_
    exact W.iret (v := F 4 a) hx hb hr (fun t ht hW => ⟨⟨_, (), rfl, ⟨(show x_told n (nI a) 4 = 0 from by unfold x_told; rw [if_pos h_a]; rfl), (show F 4 a = s_told n F (cl (nI a)) 4 from by rw [cl_nI (by omega)]; rfl)⟩, ht⟩, hS.F ht⟩) hS.2.2 dX1_told_100
  · refine lv_tableIn (tgt := 101) (off := 95) hx hb dX1_told_6 (by decide) (by decide) (by decide) (by decide) ?_
    refine lv_aload_n hx hb dX1_told_101 rfl (lv_at hl 0 rfl) ?_
    refine va_get (D := (dC, dI)) (ci := 1) (v := .ref r1) (C := RX1) (T := TX1) (N := 6) hx hb hts hinX1 hown hK hP 0 rfl rfl 0 (by decide) (hts (.fieldLink RX1 10 "WrestleBook" "roster" "LWrestleBook$Roster;") (by decide +kernel)) (fun _ h9 => h9) rfl dX1_told_102 ?_
    refine lv_iload_n hx hb dX1_told_105 rfl (lv_at hl 1 rfl) ?_
    refine vp_callSi (W.runV (As := [.int (nI a)]) (rest := []) ⟨hx, hb, hml, hown, hts⟩ (c_X0_winRow l dC dI cI r1 d1 n F a (show a < n by omega) hn) (cwV 1 hts gX1_told_X0_winRow rfl rfl rfl (by decide +kernel) ⟨Nat.le_of_ble_eq_true rfl, Nat.le_of_ble_eq_true rfl⟩) ⟨PR.blind, va_recv hK hP (ci := 0) (q0 := 2) rfl rfl, fun U hU hW => ⟨rfl, PR.go (hP.sub (ws' := (wR r1 d1 cI n F)) [2, 3, 4, 5, 6, 7, 8, 9] rfl) hK hE hS hU hW⟩⟩ rfl rfl hl.1 rfl (lv_room (Nat.le_of_ble_eq_true rfl)) dX1_told_106 ⟨Nat.le_of_ble_eq_true rfl, Nat.le_of_ble_eq_true rfl⟩) (fun r hr0 => ?_)
    subst hr0
    refine vx_ret ?_
    refine W.widen (k := 2) (n := 12) (Nat.le_of_ble_eq_true rfl) (Nat.le_of_ble_eq_true rfl) ?_
    exact W.iret (v := F 5 a) hx hb hr (fun t ht hW => ⟨⟨_, (), rfl, ⟨(show x_told n (nI a) 5 = 0 from by unfold x_told; rw [if_pos h_a]; rfl), (show F 5 a = s_told n F (cl (nI a)) 5 from by rw [cl_nI (by omega)]; rfl)⟩, ht⟩, hS.F ht⟩) hS.2.2 dX1_told_109
  · refine lv_tableIn (tgt := 110) (off := 104) hx hb dX1_told_6 (by decide) (by decide) (by decide) (by decide) ?_
    refine lv_aload_n hx hb dX1_told_110 rfl (lv_at hl 0 rfl) ?_
    refine va_get (D := (dC, dI)) (ci := 1) (v := .ref r1) (C := RX1) (T := TX1) (N := 6) hx hb hts hinX1 hown hK hP 0 rfl rfl 0 (by decide) (hts (.fieldLink RX1 10 "WrestleBook" "roster" "LWrestleBook$Roster;") (by decide +kernel)) (fun _ h9 => h9) rfl dX1_told_111 ?_
    refine lv_iload_n hx hb dX1_told_114 rfl (lv_at hl 1 rfl) ?_
    refine vp_callSi (W.runV (As := [.int (nI a)]) (rest := []) ⟨hx, hb, hml, hown, hts⟩ (c_X0_best l dC dI cI r1 d1 n F a (show a < n by omega) hn) (cwV 1 hts gX1_told_X0_best rfl rfl rfl (by decide +kernel) ⟨Nat.le_of_ble_eq_true rfl, Nat.le_of_ble_eq_true rfl⟩) ⟨PR.blind, va_recv hK hP (ci := 0) (q0 := 2) rfl rfl, fun U hU hW => ⟨rfl, PR.go (hP.sub (ws' := (wR r1 d1 cI n F)) [2, 3, 4, 5, 6, 7, 8, 9] rfl) hK hE hS hU hW⟩⟩ rfl rfl hl.1 rfl (lv_room (Nat.le_of_ble_eq_true rfl)) dX1_told_115 ⟨Nat.le_of_ble_eq_true rfl, Nat.le_of_ble_eq_true rfl⟩) (fun r hr0 => ?_)
    subst hr0
    refine vx_ret ?_
    refine W.widen (k := 2) (n := 12) (Nat.le_of_ble_eq_true rfl) (Nat.le_of_ble_eq_true rfl) ?_
    exact W.iret (v := F 6 a) hx hb hr (fun t ht hW => ⟨⟨_, (), rfl, ⟨(show x_told n (nI a) 6 = 0 from by unfold x_told; rw [if_pos h_a]; rfl), (show F 6 a = s_told n F (cl (nI a)) 6 from by rw [cl_nI (by omega)]; rfl)⟩, ht⟩, hS.F ht⟩) hS.2.2 dX1_told_118
  · refine lv_tableIn (tgt := 119) (off := 113) hx hb dX1_told_6 (by decide) (by decide) (by decide) (by decide) ?_
    refine lv_aload_n hx hb dX1_told_119 rfl (lv_at hl 0 rfl) ?_
    refine va_get (D := (dC, dI)) (ci := 1) (v := .ref r1) (C := RX1) (T := TX1) (N := 6) hx hb hts hinX1 hown hK hP 0 rfl rfl 0 (by decide) (hts (.fieldLink RX1 10 "WrestleBook" "roster" "LWrestleBook$Roster;") (by decide +kernel)) (fun _ h9 => h9) rfl dX1_told_120 ?_
    refine lv_iload_n hx hb dX1_told_123 rfl (lv_at hl 1 rfl) ?_
    refine vp_callSi (W.runV (As := [.int (nI a)]) (rest := []) ⟨hx, hb, hml, hown, hts⟩ (c_X0_place l dC dI cI r1 d1 n F a (show a < n by omega) hn) (cwV 1 hts gX1_told_X0_place rfl rfl rfl (by decide +kernel) ⟨Nat.le_of_ble_eq_true rfl, Nat.le_of_ble_eq_true rfl⟩) ⟨PR.blind, va_recv hK hP (ci := 0) (q0 := 2) rfl rfl, fun U hU hW => ⟨rfl, PR.go (hP.sub (ws' := (wR r1 d1 cI n F)) [2, 3, 4, 5, 6, 7, 8, 9] rfl) hK hE hS hU hW⟩⟩ rfl rfl hl.1 rfl (lv_room (Nat.le_of_ble_eq_true rfl)) dX1_told_124 ⟨Nat.le_of_ble_eq_true rfl, Nat.le_of_ble_eq_true rfl⟩) (fun r hr0 => ?_)
    subst hr0
    refine vx_ret ?_
    refine W.widen (k := 2) (n := 12) (Nat.le_of_ble_eq_true rfl) (Nat.le_of_ble_eq_true rfl) ?_
    exact W.iret (v := nI (s_place n F a)) hx hb hr (fun t ht hW => ⟨⟨_, (), rfl, ⟨(show x_told n (nI a) 7 = 0 from by unfold x_told; rw [if_pos h_a]; rfl), (show nI (s_place n F a) = s_told n F (cl (nI a)) 7 from by rw [cl_nI (by omega)]; rfl)⟩, ht⟩, hS.F ht⟩) hS.2.2 dX1_told_127
  · refine lv_tableIn (tgt := 128) (off := 122) hx hb dX1_told_6 (by decide) (by decide) (by decide) (by decide) ?_
    refine lv_aload_n hx hb dX1_told_128 rfl (lv_at hl 0 rfl) ?_
    refine va_get (D := (dC, dI)) (ci := 1) (v := .ref r1) (C := RX1) (T := TX1) (N := 6) hx hb hts hinX1 hown hK hP 0 rfl rfl 0 (by decide) (hts (.fieldLink RX1 10 "WrestleBook" "roster" "LWrestleBook$Roster;") (by decide +kernel)) (fun _ h9 => h9) rfl dX1_told_129 ?_
    refine lv_iload_n hx hb dX1_told_132 rfl (lv_at hl 1 rfl) ?_
    refine vp_callSi (W.runV (As := [.int (nI a)]) (rest := []) ⟨hx, hb, hml, hown, hts⟩ (c_X0_weight l dC dI cI r1 d1 n F a (show a < n by omega) hn) (cwV 1 hts gX1_told_X0_weight rfl rfl rfl (by decide +kernel) ⟨Nat.le_of_ble_eq_true rfl, Nat.le_of_ble_eq_true rfl⟩) ⟨PR.blind, va_recv hK hP (ci := 0) (q0 := 2) rfl rfl, fun U hU hW => ⟨rfl, PR.go (hP.sub (ws' := (wR r1 d1 cI n F)) [2, 3, 4, 5, 6, 7, 8, 9] rfl) hK hE hS hU hW⟩⟩ rfl rfl hl.1 rfl (lv_room (Nat.le_of_ble_eq_true rfl)) dX1_told_133 ⟨Nat.le_of_ble_eq_true rfl, Nat.le_of_ble_eq_true rfl⟩) (fun r hr0 => ?_)
    subst hr0
    refine vx_ret ?_
    refine W.widen (k := 2) (n := 12) (Nat.le_of_ble_eq_true rfl) (Nat.le_of_ble_eq_true rfl) ?_
    exact W.iret (v := s_wt F a) hx hb hr (fun t ht hW => ⟨⟨_, (), rfl, ⟨(show x_told n (nI a) 8 = 0 from by unfold x_told; rw [if_pos h_a]; rfl), (show s_wt F a = s_told n F (cl (nI a)) 8 from by rw [cl_nI (by omega)]; rfl)⟩, ht⟩, hS.F ht⟩) hS.2.2 dX1_told_136
  · refine lv_tableOut (tgt := 137) hx hb dX1_told_6 hsw (by decide) ?_
    obtain ⟨sa, hstr⟩ := hE.2.2.2.1 (123, "nothing such is told") (by decide +kernel)
    exact vx_throwS (names := ["java/lang/RuntimeException", "java/lang/Exception"]) hx hb hl0 hown (by decide +kernel) (by decide +kernel) (hts (.classLink RX1 121 "java/lang/IndexOutOfBoundsException") (by decide +kernel)) (hts (.initialized "java/lang/IndexOutOfBoundsException") (by decide +kernel)) hstr (vx_hat (B := [.castable "java/lang/IndexOutOfBoundsException" "java/lang/IndexOutOfBoundsException", .declares (Bundle.initS "java/lang/RuntimeException"), .declares (Bundle.initS "java/lang/Exception"), .declares (Bundle.initS Bundle.tN)]) (fun w h9 => hts w (hthIOB w h9)) tnIOB (vx_c (va_Nw.use rfl (hE.2.2.1 (.castable "java/lang/IndexOutOfBoundsException" "java/lang/IndexOutOfBoundsException") (by decide +kernel))) (vx_c (va_Nw.use rfl (hE.2.2.1 (.declares (Bundle.initS "java/lang/RuntimeException")) (by decide +kernel))) (vx_c (va_Nw.use rfl (hE.2.2.1 (.declares (Bundle.initS "java/lang/Exception")) (by decide +kernel))) (vx_c (va_Nw.use rfl (hE.2.2.1 (.declares (Bundle.initS Bundle.tN)) (by decide +kernel))) vx_n))))) tgIOB hE.2.2.2.2.1 hE.2.2.2.2.2 hS (hl.1.trans hml.symm) dX1_told_137 dX1_told_140 dX1_told_141 dX1_told_143 dX1_told_146 (fun x9 h9 => (htab x9 h9).elim) (Nat.le_of_ble_eq_true rfl) (Nat.le_of_ble_eq_true rfl) (Nat.le_of_ble_eq_true rfl) (Nat.le_of_ble_eq_true rfl) hlocks (fun t8 hal8 hz8 hk8 => ⟨(), trivial, (show exE ["java/lang/IndexOutOfBoundsException"] (x_told n (nI a) vk) "java/lang/IndexOutOfBoundsException" from by unfold x_told; rw [if_pos h_a, s_08_out hsw]; exact ⟨by decide, rfl⟩), ⟨hz8, fun q8 h8 _ => hk8 q8 h8⟩⟩) hS.2.2 (Nat.le_of_ble_eq_true rfl) (Nat.le_of_ble_eq_true rfl)

set_option maxHeartbeats 4000000 in
set_option maxRecDepth 100000 in
theorem c_X1_count (l : Launch) (hl0 : l.stackTraces = false) (dC : Nat → ClassId) (dI : Nat → Nat → Nat) (cI : ClassId) (h r1 : Nat) (d1 : Nat → Nat) (r2 : Nat) (d2 : Nat → Nat) (rc : Nat) (n : Nat) (F : Nat → Nat → Int32) (n2 : Nat) (G : Nat → Nat → Int32) (ct ch : Nat → Int32) (H0 : Heap) (vk : Int32) (hn : n ≤ 12) : vx_Met l yX1_count wsX1_count ({ frames := 6, cells := 1, slots := 6, locals := 82 } : Room) (va_Pc [.ref h, .int vk] (fun U => U.heap = H0 ∧ PR dC dI cI (wB h r1 d1 r2 d2 rc cI n F n2 G ct ch) U)) (va_Qi (fun r (_ : Unit) => x_cnt vk = 0 ∧ r = s_cnt n F ct vk) (fun _ t => t.heap = H0) (fun _ => False)) (vx_X (fun (_ : Unit) => True) (fun E _ t => exE ["java/lang/IndexOutOfBoundsException"] (x_cnt vk) E) (fun _ => False)) 1 6 (fun _ => False) := by
  refine vx_ofW (cc := cX1_count) (maxL := 2) (ret := (some .int)) (by decide) rfl ?_
  intro p e s m args below meth c s₁ B hml htab hv
  obtain ⟨rfl, hH0, hP, hK, hE⟩ := hv
  subst hH0
  have hx := B.exec
  have hb := B.bytes
  have hr := B.returns
  have hts := atoms_spec (ws := wsX1_count) B.pre
  have hown : s.vm.findClass RX1 = some m.cls := findClass_of_methodNamed B.named
  have hlocks := B.notSynchronized
  have hS : va_S (fun _ => False) s.heap s.heap [] := va_S.rf
  have hinX1 : ∀ w ∈ wsX10, w ∈ wsX1_count := by decide +kernel
  have hthIOB : ∀ w ∈ (vx_atS RX1 125 "java/lang/IndexOutOfBoundsException" ["java/lang/RuntimeException", "java/lang/Exception"]).filter goodWord, w ∈ wsX1_count := by decide +kernel
  have hl := lv_entry ([.ref h, .int vk]) (n := 2) (Nat.le_of_ble_eq_true rfl)
  rw [lg_entry_eq]
  generalize (lg_sl ([.ref h, .int vk]) ++ List.replicate (2 - (lg_sl ([.ref h, .int vk])).length) Slot.unset).toArray = ls at hl ⊢
  have hl : lv_has ls 2 [(0, .ref h), (1, .int vk)] := hl
  refine lv_iload_n hx hb dX1_count_0 rfl (lv_at hl 1 rfl) ?_
  rcases sw9 vk with rfl | rfl | rfl | rfl | rfl | rfl | rfl | rfl | rfl | hsw
  · refine lv_tableIn (tgt := 52) (off := 51) hx hb dX1_count_1 (by decide) (by decide) (by decide) (by decide) ?_
    refine lv_aload_n hx hb dX1_count_52 rfl (lv_at hl 0 rfl) ?_
    refine va_get (D := (dC, dI)) (ci := 1) (v := .int (ct 0)) (C := RX1) (T := TX1) (N := 6) hx hb hts hinX1 hown hK hP 0 rfl rfl 3 (by decide) (hts (.fieldLink RX1 90 "WrestleBook" "season" "I") (by decide +kernel)) (fun _ h9 => h9) rfl dX1_count_53 ?_
    refine vx_ret ?_
    refine W.widen (k := 1) (n := 6) (Nat.le_of_ble_eq_true rfl) (Nat.le_of_ble_eq_true rfl) ?_
    exact W.iret (v := ct 0) hx hb hr (fun t ht hW => ⟨⟨_, (), rfl, ⟨(show x_cnt 0 = 0 from by rfl), (show ct 0 = s_cnt n F ct 0 from by rfl)⟩, ht⟩, hS.F ht⟩) hS.2.2 dX1_count_56
  · refine lv_tableIn (tgt := 57) (off := 56) hx hb dX1_count_1 (by decide) (by decide) (by decide) (by decide) ?_
    refine lv_aload_n hx hb dX1_count_57 rfl (lv_at hl 0 rfl) ?_
    refine va_get (D := (dC, dI)) (ci := 1) (v := .ref r1) (C := RX1) (T := TX1) (N := 6) hx hb hts hinX1 hown hK hP 0 rfl rfl 0 (by decide) (hts (.fieldLink RX1 10 "WrestleBook" "roster" "LWrestleBook$Roster;") (by decide +kernel)) (fun _ h9 => h9) rfl dX1_count_58 ?_
    refine vp_callSi (W.runV (As := []) (rest := []) ⟨hx, hb, hml, hown, hts⟩ (c_X0_size l dC dI cI r1 d1 n F) (cwV 0 hts gX1_count_X0_size rfl rfl rfl (by decide +kernel) ⟨Nat.le_of_ble_eq_true rfl, Nat.le_of_ble_eq_true rfl⟩) ⟨PR.blind, va_recv hK hP (ci := 0) (q0 := 2) rfl rfl, fun U hU hW => ⟨rfl, PR.go (hP.sub (ws' := (wR r1 d1 cI n F)) [2, 3, 4, 5, 6, 7, 8, 9] rfl) hK hE hS hU hW⟩⟩ rfl rfl hl.1 rfl (lv_room (Nat.le_of_ble_eq_true rfl)) dX1_count_61 ⟨Nat.le_of_ble_eq_true rfl, Nat.le_of_ble_eq_true rfl⟩) (fun r hr0 => ?_)
    subst hr0
    refine vx_ret ?_
    refine W.widen (k := 1) (n := 6) (Nat.le_of_ble_eq_true rfl) (Nat.le_of_ble_eq_true rfl) ?_
    exact W.iret (v := nI n) hx hb hr (fun t ht hW => ⟨⟨_, (), rfl, ⟨(show x_cnt 1 = 0 from by rfl), (show nI n = s_cnt n F ct 1 from by rfl)⟩, ht⟩, hS.F ht⟩) hS.2.2 dX1_count_64
  · refine lv_tableIn (tgt := 65) (off := 64) hx hb dX1_count_1 (by decide) (by decide) (by decide) (by decide) ?_
    refine lv_aload_n hx hb dX1_count_65 rfl (lv_at hl 0 rfl) ?_
    refine va_get (D := (dC, dI)) (ci := 1) (v := .int (ct 1)) (C := RX1) (T := TX1) (N := 6) hx hb hts hinX1 hown hK hP 0 rfl rfl 4 (by decide) (hts (.fieldLink RX1 74 "WrestleBook" "boutsHeld" "I") (by decide +kernel)) (fun _ h9 => h9) rfl dX1_count_66 ?_
    refine vx_ret ?_
    refine W.widen (k := 1) (n := 6) (Nat.le_of_ble_eq_true rfl) (Nat.le_of_ble_eq_true rfl) ?_
    exact W.iret (v := ct 1) hx hb hr (fun t ht hW => ⟨⟨_, (), rfl, ⟨(show x_cnt 2 = 0 from by rfl), (show ct 1 = s_cnt n F ct 2 from by rfl)⟩, ht⟩, hS.F ht⟩) hS.2.2 dX1_count_69
  · refine lv_tableIn (tgt := 70) (off := 69) hx hb dX1_count_1 (by decide) (by decide) (by decide) (by decide) ?_
    refine lv_aload_n hx hb dX1_count_70 rfl (lv_at hl 0 rfl) ?_
    refine va_get (D := (dC, dI)) (ci := 1) (v := .int (ct 2)) (C := RX1) (T := TX1) (N := 6) hx hb hts hinX1 hown hK hP 0 rfl rfl 5 (by decide) (hts (.fieldLink RX1 70 "WrestleBook" "upsets" "I") (by decide +kernel)) (fun _ h9 => h9) rfl dX1_count_71 ?_
    refine vx_ret ?_
    refine W.widen (k := 1) (n := 6) (Nat.le_of_ble_eq_true rfl) (Nat.le_of_ble_eq_true rfl) ?_
    exact W.iret (v := ct 2) hx hb hr (fun t ht hW => ⟨⟨_, (), rfl, ⟨(show x_cnt 3 = 0 from by rfl), (show ct 2 = s_cnt n F ct 3 from by rfl)⟩, ht⟩, hS.F ht⟩) hS.2.2 dX1_count_74
  · refine lv_tableIn (tgt := 75) (off := 74) hx hb dX1_count_1 (by decide) (by decide) (by decide) (by decide) ?_
    refine lv_aload_n hx hb dX1_count_75 rfl (lv_at hl 0 rfl) ?_
    refine va_get (D := (dC, dI)) (ci := 1) (v := .ref r1) (C := RX1) (T := TX1) (N := 6) hx hb hts hinX1 hown hK hP 0 rfl rfl 0 (by decide) (hts (.fieldLink RX1 10 "WrestleBook" "roster" "LWrestleBook$Roster;") (by decide +kernel)) (fun _ h9 => h9) rfl dX1_count_76 ?_
    refine lv_iload_n hx hb dX1_count_79 rfl (lv_at hl 1 rfl) ?_
    refine lv_iconst (v := 4) hx hb dX1_count_80 (by decide) ?_
    refine lv_isub hx hb dX1_count_81 ?_
    refine vp_callSi (W.runV (As := [.int (4 - 4)]) (rest := []) ⟨hx, hb, hml, hown, hts⟩ (c_X0_sizeOf l dC dI cI r1 d1 n F (4 - 4) hn) (cwV 1 hts gX1_count_X0_sizeOf rfl rfl rfl (by decide +kernel) ⟨Nat.le_of_ble_eq_true rfl, Nat.le_of_ble_eq_true rfl⟩) ⟨PR.blind, va_recv hK hP (ci := 0) (q0 := 2) rfl rfl, fun U hU hW => ⟨rfl, PR.go (hP.sub (ws' := (wR r1 d1 cI n F)) [2, 3, 4, 5, 6, 7, 8, 9] rfl) hK hE hS hU hW⟩⟩ rfl rfl hl.1 rfl (lv_room (Nat.le_of_ble_eq_true rfl)) dX1_count_82 ⟨Nat.le_of_ble_eq_true rfl, Nat.le_of_ble_eq_true rfl⟩) (fun r hr0 => ?_)
    subst hr0
    refine vx_ret ?_
    refine W.widen (k := 1) (n := 6) (Nat.le_of_ble_eq_true rfl) (Nat.le_of_ble_eq_true rfl) ?_
    exact W.iret (v := nI (s_many n F (4 - 4))) hx hb hr (fun t ht hW => ⟨⟨_, (), rfl, ⟨(show x_cnt 4 = 0 from by rfl), (show nI (s_many n F (4 - 4)) = s_cnt n F ct 4 from by rfl)⟩, ht⟩, hS.F ht⟩) hS.2.2 dX1_count_85
  · refine lv_tableIn (tgt := 75) (off := 74) hx hb dX1_count_1 (by decide) (by decide) (by decide) (by decide) ?_
    refine lv_aload_n hx hb dX1_count_75 rfl (lv_at hl 0 rfl) ?_
    refine va_get (D := (dC, dI)) (ci := 1) (v := .ref r1) (C := RX1) (T := TX1) (N := 6) hx hb hts hinX1 hown hK hP 0 rfl rfl 0 (by decide) (hts (.fieldLink RX1 10 "WrestleBook" "roster" "LWrestleBook$Roster;") (by decide +kernel)) (fun _ h9 => h9) rfl dX1_count_76 ?_
    refine lv_iload_n hx hb dX1_count_79 rfl (lv_at hl 1 rfl) ?_
    refine lv_iconst (v := 4) hx hb dX1_count_80 (by decide) ?_
    refine lv_isub hx hb dX1_count_81 ?_
    refine vp_callSi (W.runV (As := [.int (5 - 4)]) (rest := []) ⟨hx, hb, hml, hown, hts⟩ (c_X0_sizeOf l dC dI cI r1 d1 n F (5 - 4) hn) (cwV 1 hts gX1_count_X0_sizeOf rfl rfl rfl (by decide +kernel) ⟨Nat.le_of_ble_eq_true rfl, Nat.le_of_ble_eq_true rfl⟩) ⟨PR.blind, va_recv hK hP (ci := 0) (q0 := 2) rfl rfl, fun U hU hW => ⟨rfl, PR.go (hP.sub (ws' := (wR r1 d1 cI n F)) [2, 3, 4, 5, 6, 7, 8, 9] rfl) hK hE hS hU hW⟩⟩ rfl rfl hl.1 rfl (lv_room (Nat.le_of_ble_eq_true rfl)) dX1_count_82 ⟨Nat.le_of_ble_eq_true rfl, Nat.le_of_ble_eq_true rfl⟩) (fun r hr0 => ?_)
    subst hr0
    refine vx_ret ?_
    refine W.widen (k := 1) (n := 6) (Nat.le_of_ble_eq_true rfl) (Nat.le_of_ble_eq_true rfl) ?_
    exact W.iret (v := nI (s_many n F (5 - 4))) hx hb hr (fun t ht hW => ⟨⟨_, (), rfl, ⟨(show x_cnt 5 = 0 from by rfl), (show nI (s_many n F (5 - 4)) = s_cnt n F ct 5 from by rfl)⟩, ht⟩, hS.F ht⟩) hS.2.2 dX1_count_85
  · refine lv_tableIn (tgt := 75) (off := 74) hx hb dX1_count_1 (by decide) (by decide) (by decide) (by decide) ?_
    refine lv_aload_n hx hb dX1_count_75 rfl (lv_at hl 0 rfl) ?_
    refine va_get (D := (dC, dI)) (ci := 1) (v := .ref r1) (C := RX1) (T := TX1) (N := 6) hx hb hts hinX1 hown hK hP 0 rfl rfl 0 (by decide) (hts (.fieldLink RX1 10 "WrestleBook" "roster" "LWrestleBook$Roster;") (by decide +kernel)) (fun _ h9 => h9) rfl dX1_count_76 ?_
    refine lv_iload_n hx hb dX1_count_79 rfl (lv_at hl 1 rfl) ?_
    refine lv_iconst (v := 4) hx hb dX1_count_80 (by decide) ?_
    refine lv_isub hx hb dX1_count_81 ?_
    refine vp_callSi (W.runV (As := [.int (6 - 4)]) (rest := []) ⟨hx, hb, hml, hown, hts⟩ (c_X0_sizeOf l dC dI cI r1 d1 n F (6 - 4) hn) (cwV 1 hts gX1_count_X0_sizeOf rfl rfl rfl (by decide +kernel) ⟨Nat.le_of_ble_eq_true rfl, Nat.le_of_ble_eq_true rfl⟩) ⟨PR.blind, va_recv hK hP (ci := 0) (q0 := 2) rfl rfl, fun U hU hW => ⟨rfl, PR.go (hP.sub (ws' := (wR r1 d1 cI n F)) [2, 3, 4, 5, 6, 7, 8, 9] rfl) hK hE hS hU hW⟩⟩ rfl rfl hl.1 rfl (lv_room (Nat.le_of_ble_eq_true rfl)) dX1_count_82 ⟨Nat.le_of_ble_eq_true rfl, Nat.le_of_ble_eq_true rfl⟩) (fun r hr0 => ?_)
    subst hr0
    refine vx_ret ?_
    refine W.widen (k := 1) (n := 6) (Nat.le_of_ble_eq_true rfl) (Nat.le_of_ble_eq_true rfl) ?_
    exact W.iret (v := nI (s_many n F (6 - 4))) hx hb hr (fun t ht hW => ⟨⟨_, (), rfl, ⟨(show x_cnt 6 = 0 from by rfl), (show nI (s_many n F (6 - 4)) = s_cnt n F ct 6 from by rfl)⟩, ht⟩, hS.F ht⟩) hS.2.2 dX1_count_85
  · refine lv_tableIn (tgt := 86) (off := 85) hx hb dX1_count_1 (by decide) (by decide) (by decide) (by decide) ?_
    refine lv_aload_n hx hb dX1_count_86 rfl (lv_at hl 0 rfl) ?_
    refine va_get (D := (dC, dI)) (ci := 1) (v := .ref r1) (C := RX1) (T := TX1) (N := 6) hx hb hts hinX1 hown hK hP 0 rfl rfl 0 (by decide) (hts (.fieldLink RX1 10 "WrestleBook" "roster" "LWrestleBook$Roster;") (by decide +kernel)) (fun _ h9 => h9) rfl dX1_count_87 ?_
    refine vp_callSi (W.runV (As := []) (rest := []) ⟨hx, hb, hml, hown, hts⟩ (c_X0_highest l dC dI cI r1 d1 n F hn) (cwV 0 hts gX1_count_X0_highest rfl rfl rfl (by decide +kernel) ⟨Nat.le_of_ble_eq_true rfl, Nat.le_of_ble_eq_true rfl⟩) ⟨PR.blind, va_recv hK hP (ci := 0) (q0 := 2) rfl rfl, fun U hU hW => ⟨rfl, PR.go (hP.sub (ws' := (wR r1 d1 cI n F)) [2, 3, 4, 5, 6, 7, 8, 9] rfl) hK hE hS hU hW⟩⟩ rfl rfl hl.1 rfl (lv_room (Nat.le_of_ble_eq_true rfl)) dX1_count_90 ⟨Nat.le_of_ble_eq_true rfl, Nat.le_of_ble_eq_true rfl⟩) (fun r hr0 => ?_)
    subst hr0
    refine vx_ret ?_
    refine W.widen (k := 1) (n := 6) (Nat.le_of_ble_eq_true rfl) (Nat.le_of_ble_eq_true rfl) ?_
    exact W.iret (v := s_hi n F) hx hb hr (fun t ht hW => ⟨⟨_, (), rfl, ⟨(show x_cnt 7 = 0 from by rfl), (show s_hi n F = s_cnt n F ct 7 from by rfl)⟩, ht⟩, hS.F ht⟩) hS.2.2 dX1_count_93
  · refine lv_tableIn (tgt := 94) (off := 93) hx hb dX1_count_1 (by decide) (by decide) (by decide) (by decide) ?_
    refine lv_aload_n hx hb dX1_count_94 rfl (lv_at hl 0 rfl) ?_
    refine va_get (D := (dC, dI)) (ci := 1) (v := .ref r1) (C := RX1) (T := TX1) (N := 6) hx hb hts hinX1 hown hK hP 0 rfl rfl 0 (by decide) (hts (.fieldLink RX1 10 "WrestleBook" "roster" "LWrestleBook$Roster;") (by decide +kernel)) (fun _ h9 => h9) rfl dX1_count_95 ?_
    refine vp_callSi (W.runV (As := []) (rest := []) ⟨hx, hb, hml, hown, hts⟩ (c_X0_lowest l dC dI cI r1 d1 n F hn) (cwV 0 hts gX1_count_X0_lowest rfl rfl rfl (by decide +kernel) ⟨Nat.le_of_ble_eq_true rfl, Nat.le_of_ble_eq_true rfl⟩) ⟨PR.blind, va_recv hK hP (ci := 0) (q0 := 2) rfl rfl, fun U hU hW => ⟨rfl, PR.go (hP.sub (ws' := (wR r1 d1 cI n F)) [2, 3, 4, 5, 6, 7, 8, 9] rfl) hK hE hS hU hW⟩⟩ rfl rfl hl.1 rfl (lv_room (Nat.le_of_ble_eq_true rfl)) dX1_count_98 ⟨Nat.le_of_ble_eq_true rfl, Nat.le_of_ble_eq_true rfl⟩) (fun r hr0 => ?_)
    subst hr0
    refine vx_ret ?_
    refine W.widen (k := 1) (n := 6) (Nat.le_of_ble_eq_true rfl) (Nat.le_of_ble_eq_true rfl) ?_
    exact W.iret (v := s_lo n F) hx hb hr (fun t ht hW => ⟨⟨_, (), rfl, ⟨(show x_cnt 8 = 0 from by rfl), (show s_lo n F = s_cnt n F ct 8 from by rfl)⟩, ht⟩, hS.F ht⟩) hS.2.2 dX1_count_101
  · refine lv_tableOut (tgt := 102) hx hb dX1_count_1 hsw (by decide) ?_
    obtain ⟨sa, hstr⟩ := hE.2.2.2.1 (144, "nothing such is counted") (by decide +kernel)
    exact vx_throwS (names := ["java/lang/RuntimeException", "java/lang/Exception"]) hx hb hl0 hown (by decide +kernel) (by decide +kernel) (hts (.classLink RX1 121 "java/lang/IndexOutOfBoundsException") (by decide +kernel)) (hts (.initialized "java/lang/IndexOutOfBoundsException") (by decide +kernel)) hstr (vx_hat (B := [.castable "java/lang/IndexOutOfBoundsException" "java/lang/IndexOutOfBoundsException", .declares (Bundle.initS "java/lang/RuntimeException"), .declares (Bundle.initS "java/lang/Exception"), .declares (Bundle.initS Bundle.tN)]) (fun w h9 => hts w (hthIOB w h9)) tnIOB (vx_c (va_Nw.use rfl (hE.2.2.1 (.castable "java/lang/IndexOutOfBoundsException" "java/lang/IndexOutOfBoundsException") (by decide +kernel))) (vx_c (va_Nw.use rfl (hE.2.2.1 (.declares (Bundle.initS "java/lang/RuntimeException")) (by decide +kernel))) (vx_c (va_Nw.use rfl (hE.2.2.1 (.declares (Bundle.initS "java/lang/Exception")) (by decide +kernel))) (vx_c (va_Nw.use rfl (hE.2.2.1 (.declares (Bundle.initS Bundle.tN)) (by decide +kernel))) vx_n))))) tgIOB hE.2.2.2.2.1 hE.2.2.2.2.2 hS (hl.1.trans hml.symm) dX1_count_102 dX1_count_105 dX1_count_106 dX1_count_108 dX1_count_111 (fun x9 h9 => (htab x9 h9).elim) (Nat.le_of_ble_eq_true rfl) (Nat.le_of_ble_eq_true rfl) (Nat.le_of_ble_eq_true rfl) (Nat.le_of_ble_eq_true rfl) hlocks (fun t8 hal8 hz8 hk8 => ⟨(), trivial, (show exE ["java/lang/IndexOutOfBoundsException"] (x_cnt vk) "java/lang/IndexOutOfBoundsException" from by unfold x_cnt; rw [s_08_out hsw]; exact ⟨by decide, rfl⟩), ⟨hz8, fun q8 h8 _ => hk8 q8 h8⟩⟩) hS.2.2 (Nat.le_of_ble_eq_true rfl) (Nat.le_of_ble_eq_true rfl)

set_option maxHeartbeats 4000000 in
set_option maxRecDepth 100000 in
theorem c_X1_at (l : Launch) (hl0 : l.stackTraces = false) (dC : Nat → ClassId) (dI : Nat → Nat → Nat) (cI : ClassId) (h r1 : Nat) (d1 : Nat → Nat) (r2 : Nat) (d2 : Nat → Nat) (rc : Nat) (n : Nat) (F : Nat → Nat → Int32) (n2 : Nat) (G : Nat → Nat → Int32) (ct ch : Nat → Int32) (H0 : Heap) (vg : Int32) (vq : Int32) (hn : n ≤ 12) : vx_Met l yX1_at wsX1_at ({ frames := 6, cells := 1, slots := 6, locals := 82 } : Room) (va_Pc [.ref h, .int vg, .int vq] (fun U => U.heap = H0 ∧ PR dC dI cI (wB h r1 d1 r2 d2 rc cI n F n2 G ct ch) U)) (va_Qi (fun r (_ : Unit) => x_at n F vg vq = 0 ∧ r = oI (s_at n F vg vq)) (fun _ t => t.heap = H0) (fun _ => False)) (vx_X (fun (_ : Unit) => True) (fun E _ t => exE ["java/lang/IndexOutOfBoundsException"] (x_at n F vg vq) E) (fun _ => False)) 1 6 (fun _ => False) := by
  refine vx_ofW (cc := cX1_at) (maxL := 4) (ret := (some .int)) (by decide) rfl ?_
  intro p e s m args below meth c s₁ B hml htab hv
  obtain ⟨rfl, hH0, hP, hK, hE⟩ := hv
  subst hH0
  have hx := B.exec
  have hb := B.bytes
  have hr := B.returns
  have hts := atoms_spec (ws := wsX1_at) B.pre
  have hown : s.vm.findClass RX1 = some m.cls := findClass_of_methodNamed B.named
  have hlocks := B.notSynchronized
  have hS : va_S (fun _ => False) s.heap s.heap [] := va_S.rf
  have hinX1 : ∀ w ∈ wsX10, w ∈ wsX1_at := by decide +kernel
  have hthIOB : ∀ w ∈ (vx_atS RX1 125 "java/lang/IndexOutOfBoundsException" ["java/lang/RuntimeException", "java/lang/Exception"]).filter goodWord, w ∈ wsX1_at := by decide +kernel
  have hl := lv_entry ([.ref h, .int vg, .int vq]) (n := 4) (Nat.le_of_ble_eq_true rfl)
  rw [lg_entry_eq]
  generalize (lg_sl ([.ref h, .int vg, .int vq]) ++ List.replicate (4 - (lg_sl ([.ref h, .int vg, .int vq])).length) Slot.unset).toArray = ls at hl ⊢
  have hl : lv_has ls 4 [(0, .ref h), (1, .int vg), (2, .int vq)] := hl
  refine lv_iload_n hx hb dX1_at_0 rfl (lv_at hl 1 rfl) ?_
  refine vp_callSi (W.runS (As := [.int vg]) (rest := []) ⟨hx, hb, hml, hown, hts⟩ (c_X1_isLeague l dC dI cI vg) (va_cwS 1 hts gX1_at_X1_isLeague rfl rfl rfl (by decide +kernel) ⟨Nat.le_of_ble_eq_true rfl, Nat.le_of_ble_eq_true rfl⟩) ⟨PR.blind, fun U hU hW => ⟨rfl, PR.go (vaP_nil) hK hE hS hU hW⟩⟩ rfl rfl hl.1 rfl (lv_room (Nat.le_of_ble_eq_true rfl)) dX1_at_1 ⟨Nat.le_of_ble_eq_true rfl, Nat.le_of_ble_eq_true rfl⟩) (fun r hr0 => ?_)
  subst hr0
  refine rv_ifb_ne (tgt := 17) hx hb dX1_at_4 (by decide) (fun c_4 => ?_) (fun c_4 => ?_)
  · refine lv_aload_n hx hb dX1_at_17 rfl (lv_at hl 0 rfl) ?_
    refine va_get (D := (dC, dI)) (ci := 1) (v := .ref r1) (C := RX1) (T := TX1) (N := 6) hx hb hts hinX1 hown hK hP 0 rfl rfl 0 (by decide) (hts (.fieldLink RX1 10 "WrestleBook" "roster" "LWrestleBook$Roster;") (by decide +kernel)) (fun _ h9 => h9) rfl dX1_at_18 ?_
    refine lv_iload_n hx hb dX1_at_21 rfl (lv_at hl 1 rfl) ?_
    refine lv_iload_n hx hb dX1_at_22 rfl (lv_at hl 2 rfl) ?_
    refine vp_callSi (W.runV (As := [.int vg, .int vq]) (rest := []) ⟨hx, hb, hml, hown, hts⟩ (c_X0_standingAt l dC dI cI r1 d1 n F vg vq hn) (cwV 2 hts gX1_at_X0_standingAt rfl rfl rfl (by decide +kernel) ⟨Nat.le_of_ble_eq_true rfl, Nat.le_of_ble_eq_true rfl⟩) ⟨PR.blind, va_recv hK hP (ci := 0) (q0 := 2) rfl rfl, fun U hU hW => ⟨rfl, PR.go (hP.sub (ws' := (wR r1 d1 cI n F)) [2, 3, 4, 5, 6, 7, 8, 9] rfl) hK hE hS hU hW⟩⟩ rfl rfl hl.1 rfl (lv_room (Nat.le_of_ble_eq_true rfl)) dX1_at_23 ⟨Nat.le_of_ble_eq_true rfl, Nat.le_of_ble_eq_true rfl⟩) (fun r hr0 => ?_)
    subst hr0
    obtain ⟨o23, ho_23⟩ : ∃ z9 : Option Nat, s_at n F vg vq = z9 := ⟨_, rfl⟩
    refine rv_top (y := oI o23) (by rw [ho_23]) ?_
    rcases o23 with _ | k23
    · refine rv_top (y := -1) rfl ?_
      refine lv_istore_n (lv' := [(3, .int (-1)), (0, .ref h), (1, .int vg), (2, .int vq)]) hx hb dX1_at_26 rfl hl (by decide) rfl (fun ls hl => ?_)
      refine lv_iload_n hx hb dX1_at_27 rfl (lv_at hl 0 rfl) ?_
      refine lv_iconst (v := (-1)) hx hb dX1_at_28 (by decide) ?_
      refine lv_icmp_ne (tgt := 42) hx hb dX1_at_29 (by decide) (fun c_29 => ?_) (fun c_29 => ?_)
      · exact absurd c_29 (by decide)
      · obtain ⟨sa, hstr⟩ := hE.2.2.2.1 (129, "no such place") (by decide +kernel)
        exact vx_throwS (names := ["java/lang/RuntimeException", "java/lang/Exception"]) hx hb hl0 hown (by decide +kernel) (by decide +kernel) (hts (.classLink RX1 121 "java/lang/IndexOutOfBoundsException") (by decide +kernel)) (hts (.initialized "java/lang/IndexOutOfBoundsException") (by decide +kernel)) hstr (vx_hat (B := [.castable "java/lang/IndexOutOfBoundsException" "java/lang/IndexOutOfBoundsException", .declares (Bundle.initS "java/lang/RuntimeException"), .declares (Bundle.initS "java/lang/Exception"), .declares (Bundle.initS Bundle.tN)]) (fun w h9 => hts w (hthIOB w h9)) tnIOB (vx_c (va_Nw.use rfl (hE.2.2.1 (.castable "java/lang/IndexOutOfBoundsException" "java/lang/IndexOutOfBoundsException") (by decide +kernel))) (vx_c (va_Nw.use rfl (hE.2.2.1 (.declares (Bundle.initS "java/lang/RuntimeException")) (by decide +kernel))) (vx_c (va_Nw.use rfl (hE.2.2.1 (.declares (Bundle.initS "java/lang/Exception")) (by decide +kernel))) (vx_c (va_Nw.use rfl (hE.2.2.1 (.declares (Bundle.initS Bundle.tN)) (by decide +kernel))) vx_n))))) tgIOB hE.2.2.2.2.1 hE.2.2.2.2.2 hS (hl.1.trans hml.symm) dX1_at_32 dX1_at_35 dX1_at_36 dX1_at_38 dX1_at_41 (fun x9 h9 => (htab x9 h9).elim) (Nat.le_of_ble_eq_true rfl) (Nat.le_of_ble_eq_true rfl) (Nat.le_of_ble_eq_true rfl) (Nat.le_of_ble_eq_true rfl) hlocks (fun t8 hal8 hz8 hk8 => ⟨(), trivial, (show exE ["java/lang/IndexOutOfBoundsException"] (x_at n F vg vq) "java/lang/IndexOutOfBoundsException" from by simp [exE, x_at, c_4, ho_23]), ⟨hz8, fun q8 h8 _ => hk8 q8 h8⟩⟩) hS.2.2 (Nat.le_of_ble_eq_true rfl) (Nat.le_of_ble_eq_true rfl)
    · refine rv_top (y := nI k23) rfl ?_
      have i_k23 : k23 < n := (s_at_lt n k23 ho_23).1
      refine lv_istore_n (lv' := [(3, .int (nI k23)), (0, .ref h), (1, .int vg), (2, .int vq)]) hx hb dX1_at_26 rfl hl (by decide) rfl (fun ls hl => ?_)
      refine lv_iload_n hx hb dX1_at_27 rfl (lv_at hl 0 rfl) ?_
      refine lv_iconst (v := (-1)) hx hb dX1_at_28 (by decide) ?_
      refine lv_icmp_ne (tgt := 42) hx hb dX1_at_29 (by decide) (fun c_29 => ?_) (fun c_29 => ?_)
      · refine lv_iload_n hx hb dX1_at_42 rfl (lv_at hl 0 rfl) ?_
        refine vx_ret ?_
        refine W.widen (k := 1) (n := 6) (Nat.le_of_ble_eq_true rfl) (Nat.le_of_ble_eq_true rfl) ?_
        exact W.iret (v := nI k23) hx hb hr (fun t ht hW => ⟨⟨_, (), rfl, ⟨(show x_at n F vg vq = 0 from by simp [x_at, c_4, ho_23]), (show nI k23 = oI (s_at n F vg vq) from by rw [ho_23]; rfl)⟩, ht⟩, hS.F ht⟩) hS.2.2 dX1_at_43
      · exact absurd c_29 (nI_m1 (by omega))
  · obtain ⟨sa, hstr⟩ := hE.2.2.2.1 (29, "no such league") (by decide +kernel)
    exact vx_throwS (names := ["java/lang/RuntimeException", "java/lang/Exception"]) hx hb hl0 hown (by decide +kernel) (by decide +kernel) (hts (.classLink RX1 121 "java/lang/IndexOutOfBoundsException") (by decide +kernel)) (hts (.initialized "java/lang/IndexOutOfBoundsException") (by decide +kernel)) hstr (vx_hat (B := [.castable "java/lang/IndexOutOfBoundsException" "java/lang/IndexOutOfBoundsException", .declares (Bundle.initS "java/lang/RuntimeException"), .declares (Bundle.initS "java/lang/Exception"), .declares (Bundle.initS Bundle.tN)]) (fun w h9 => hts w (hthIOB w h9)) tnIOB (vx_c (va_Nw.use rfl (hE.2.2.1 (.castable "java/lang/IndexOutOfBoundsException" "java/lang/IndexOutOfBoundsException") (by decide +kernel))) (vx_c (va_Nw.use rfl (hE.2.2.1 (.declares (Bundle.initS "java/lang/RuntimeException")) (by decide +kernel))) (vx_c (va_Nw.use rfl (hE.2.2.1 (.declares (Bundle.initS "java/lang/Exception")) (by decide +kernel))) (vx_c (va_Nw.use rfl (hE.2.2.1 (.declares (Bundle.initS Bundle.tN)) (by decide +kernel))) vx_n))))) tgIOB hE.2.2.2.2.1 hE.2.2.2.2.2 hS (hl.1.trans hml.symm) dX1_at_7 dX1_at_10 dX1_at_11 dX1_at_13 dX1_at_16 (fun x9 h9 => (htab x9 h9).elim) (Nat.le_of_ble_eq_true rfl) (Nat.le_of_ble_eq_true rfl) (Nat.le_of_ble_eq_true rfl) (Nat.le_of_ble_eq_true rfl) hlocks (fun t8 hal8 hz8 hk8 => ⟨(), trivial, (show exE ["java/lang/IndexOutOfBoundsException"] (x_at n F vg vq) "java/lang/IndexOutOfBoundsException" from by simp [exE, x_at, c_4]), ⟨hz8, fun q8 h8 _ => hk8 q8 h8⟩⟩) hS.2.2 (Nat.le_of_ble_eq_true rfl) (Nat.le_of_ble_eq_true rfl)

set_option maxHeartbeats 4000000 in
set_option maxRecDepth 100000 in
theorem c_X1_would (l : Launch) (hl0 : l.stackTraces = false) (dC : Nat → ClassId) (dI : Nat → Nat → Nat) (cI : ClassId) (h r1 : Nat) (d1 : Nat → Nat) (r2 : Nat) (d2 : Nat → Nat) (rc : Nat) (n : Nat) (F : Nat → Nat → Int32) (n2 : Nat) (G : Nat → Nat → Int32) (ct ch : Nat → Int32) (H0 : Heap) (va : Int32) (vb : Int32) (vr : Int32) (vu : Int32) (hn : n ≤ 12) (hR : okR n F) : vx_Met l yX1_would wsX1_would ({ frames := 7, cells := 4, slots := 24, locals := 103 } : Room) (va_Pc [.ref h, .int va, .int vb, .int vr, .int vu] (fun U => U.heap = H0 ∧ PR dC dI cI (wB h r1 d1 r2 d2 rc cI n F n2 G ct ch) U)) (va_Qi (fun r (_ : Unit) => x_would n va vb vr vu = 0 ∧ r = if vu = 0 then s_gain F (cl va) (cl vb) vr else s_gain F (cl vb) (cl va) (2 - vr)) (fun _ t => t.heap = H0) (fun _ => False)) (vx_X (fun (_ : Unit) => True) (fun E _ t => exE ["java/lang/IndexOutOfBoundsException", "java/lang/IllegalArgumentException"] (x_would n va vb vr vu) E) (fun _ => False)) 4 24 (fun _ => False) := by
  refine vx_ofW (cc := cX1_would) (maxL := 5) (ret := (some .int)) (by decide) rfl ?_
  intro p e s m args below meth c s₁ B hml htab hv
  obtain ⟨rfl, hH0, hP, hK, hE⟩ := hv
  subst hH0
  have hx := B.exec
  have hb := B.bytes
  have hr := B.returns
  have hts := atoms_spec (ws := wsX1_would) B.pre
  have hown : s.vm.findClass RX1 = some m.cls := findClass_of_methodNamed B.named
  have hlocks := B.notSynchronized
  have hS : va_S (fun _ => False) s.heap s.heap [] := va_S.rf
  have hinX1 : ∀ w ∈ wsX10, w ∈ wsX1_would := by decide +kernel
  have hthIOB : ∀ w ∈ (vx_atS RX1 125 "java/lang/IndexOutOfBoundsException" ["java/lang/RuntimeException", "java/lang/Exception"]).filter goodWord, w ∈ wsX1_would := by decide +kernel
  have hl := lv_entry ([.ref h, .int va, .int vb, .int vr, .int vu]) (n := 5) (Nat.le_of_ble_eq_true rfl)
  rw [lg_entry_eq]
  generalize (lg_sl ([.ref h, .int va, .int vb, .int vr, .int vu]) ++ List.replicate (5 - (lg_sl ([.ref h, .int va, .int vb, .int vr, .int vu])).length) Slot.unset).toArray = ls at hl ⊢
  have hl : lv_has ls 5 [(0, .ref h), (1, .int va), (2, .int vb), (3, .int vr), (4, .int vu)] := hl
  refine lv_aload_n hx hb dX1_would_0 rfl (lv_at hl 0 rfl) ?_
  refine lv_iload_n hx hb dX1_would_1 rfl (lv_at hl 1 rfl) ?_
  refine vx_callv (vx_runV (As := [.int va]) (rest := []) ⟨hx, hb, hml, hown, hts⟩ (c_X1_checkWrestler l hl0 dC dI cI h r1 d1 r2 d2 rc n F n2 G ct ch s.heap va hn) (cwV 1 hts gX1_would_X1_checkWrestler rfl rfl rfl (by decide +kernel) ⟨Nat.le_of_ble_eq_true rfl, Nat.le_of_ble_eq_true rfl⟩) ⟨PRX.blind, va_recv hK hP (ci := 1) (q0 := 0) rfl rfl, fun U hU hW => ⟨rfl, hU, PR.go hP hK hE hS hU hW⟩⟩ rfl rfl hl.1 rfl (lv_room (Nat.le_of_ble_eq_true rfl)) dX1_would_2 ⟨Nat.le_of_ble_eq_true rfl, Nat.le_of_ble_eq_true rfl⟩) hS (fun q _ h9 => h9.elim) (fun q h9 => h9.elim) (fun q _ h9 => h9.elim) (fun E9 ce9 q9 u9 t9 H1 locs9 ht9 hvm9 hw9 hB9 hz9 hk9 hS9 hce9 hcv9 hcl9 => vx_out (fun x9 h9 => (htab x9 h9).elim) hlocks hce9 hcv9 hcl9 (fun t8 ht8 hal8 => ⟨(), trivial, (show exE ["java/lang/IndexOutOfBoundsException", "java/lang/IllegalArgumentException"] (x_would n va vb vr vu) E9 from by obtain ⟨h1, h2⟩ := exE_cw hB9; subst h2; simp [exE, x_would, h1]), hS9.F ht8⟩) hS9.2.2 (Nat.le_of_ble_eq_true rfl) (Nat.le_of_ble_eq_true rfl)) (fun u9 t9 H1 locs ht9 hvm9 hw9 hB9 hz9 hk9 hS => ?_)
  have e9 : H1 = s.heap := ht9.symm.trans hB9
  subst e9
  obtain ⟨a, i_a, rfl⟩ := s_has_nat hn (ok_cw hw9)
  have h_a := s_has_nI hn i_a
  refine lv_aload_n hx hb dX1_would_5 rfl (lv_at hl 0 rfl) ?_
  refine lv_iload_n hx hb dX1_would_6 rfl (lv_at hl 2 rfl) ?_
  refine vx_callv (vx_runV (As := [.int vb]) (rest := []) ⟨hx, hb, hml, hown, hts⟩ (c_X1_checkWrestler l hl0 dC dI cI h r1 d1 r2 d2 rc n F n2 G ct ch s.heap vb hn) (cwV 1 hts gX1_would_X1_checkWrestler rfl rfl rfl (by decide +kernel) ⟨Nat.le_of_ble_eq_true rfl, Nat.le_of_ble_eq_true rfl⟩) ⟨PRX.blind, va_recv hK hP (ci := 1) (q0 := 0) rfl rfl, fun U hU hW => ⟨rfl, hU, PR.go hP hK hE hS hU hW⟩⟩ rfl rfl hl.1 rfl (lv_room (Nat.le_of_ble_eq_true rfl)) dX1_would_7 ⟨Nat.le_of_ble_eq_true rfl, Nat.le_of_ble_eq_true rfl⟩) hS (fun q _ h9 => h9.elim) (fun q h9 => h9.elim) (fun q _ h9 => h9.elim) (fun E9 ce9 q9 u9 t9 H1 locs9 ht9 hvm9 hw9 hB9 hz9 hk9 hS9 hce9 hcv9 hcl9 => vx_out (fun x9 h9 => (htab x9 h9).elim) hlocks hce9 hcv9 hcl9 (fun t8 ht8 hal8 => ⟨(), trivial, (show exE ["java/lang/IndexOutOfBoundsException", "java/lang/IllegalArgumentException"] (x_would n (nI a) vb vr vu) E9 from by obtain ⟨h1, h2⟩ := exE_cw hB9; subst h2; simp [exE, x_would, h_a, h1]), hS9.F ht8⟩) hS9.2.2 (Nat.le_of_ble_eq_true rfl) (Nat.le_of_ble_eq_true rfl)) (fun u9 t9 H1 locs ht9 hvm9 hw9 hB9 hz9 hk9 hS => ?_)
  have e9 : H1 = s.heap := ht9.symm.trans hB9
  subst e9
  obtain ⟨b, i_b, rfl⟩ := s_has_nat hn (ok_cw hw9)
  have h_b := s_has_nI hn i_b
  refine lv_iload hx hb dX1_would_10 (lv_at hl 4 rfl) ?_
  refine lv_if_eq (tgt := 31) hx hb dX1_would_12 (by decide) (fun c_12 => ?_) (fun c_12 => ?_)
  · refine lv_iload_n hx hb dX1_would_31 rfl (lv_at hl 1 rfl) ?_
    refine lv_iload_n hx hb dX1_would_32 rfl (lv_at hl 2 rfl) ?_
    refine vx_callv (vx_runS (As := [.int (nI a), .int (nI b)]) (rest := []) ⟨hx, hb, hml, hown, hts⟩ (c_X1_checkDifferent l hl0 dC dI cI s.heap (nI a) (nI b)) (va_cwS 2 hts gX1_would_X1_checkDifferent rfl rfl rfl (by decide +kernel) ⟨Nat.le_of_ble_eq_true rfl, Nat.le_of_ble_eq_true rfl⟩) ⟨PRX.blind, fun U hU hW => ⟨rfl, hU, PR.go (vaP_nil) hK hE hS hU hW⟩⟩ rfl rfl hl.1 rfl (lv_room (Nat.le_of_ble_eq_true rfl)) dX1_would_33 ⟨Nat.le_of_ble_eq_true rfl, Nat.le_of_ble_eq_true rfl⟩) hS (fun q _ h9 => h9.elim) (fun q h9 => h9.elim) (fun q _ h9 => h9.elim) (fun E9 ce9 q9 u9 t9 H1 locs9 ht9 hvm9 hw9 hB9 hz9 hk9 hS9 hce9 hcv9 hcl9 => vx_out (fun x9 h9 => (htab x9 h9).elim) hlocks hce9 hcv9 hcl9 (fun t8 ht8 hal8 => ⟨(), trivial, (show exE ["java/lang/IndexOutOfBoundsException", "java/lang/IllegalArgumentException"] (x_would n (nI a) (nI b) vr vu) E9 from by obtain ⟨h1, h2⟩ := exE_cd hB9; subst h2; simp [exE, x_would, h_a, h_b, h1, c_12]), hS9.F ht8⟩) hS9.2.2 (Nat.le_of_ble_eq_true rfl) (Nat.le_of_ble_eq_true rfl)) (fun u9 t9 H1 locs ht9 hvm9 hw9 hB9 hz9 hk9 hS => ?_)
    have e9 : H1 = s.heap := ht9.symm.trans hB9
    subst e9
    have hab := ok_cd hw9
    refine lv_iload_n hx hb dX1_would_36 rfl (lv_at hl 3 rfl) ?_
    refine vx_callv (vx_runS (As := [.int vr]) (rest := []) ⟨hx, hb, hml, hown, hts⟩ (c_X1_checkResult l hl0 dC dI cI s.heap vr) (va_cwS 1 hts gX1_would_X1_checkResult rfl rfl rfl (by decide +kernel) ⟨Nat.le_of_ble_eq_true rfl, Nat.le_of_ble_eq_true rfl⟩) ⟨PRX.blind, fun U hU hW => ⟨rfl, hU, PR.go (vaP_nil) hK hE hS hU hW⟩⟩ rfl rfl hl.1 rfl (lv_room (Nat.le_of_ble_eq_true rfl)) dX1_would_37 ⟨Nat.le_of_ble_eq_true rfl, Nat.le_of_ble_eq_true rfl⟩) hS (fun q _ h9 => h9.elim) (fun q h9 => h9.elim) (fun q _ h9 => h9.elim) (fun E9 ce9 q9 u9 t9 H1 locs9 ht9 hvm9 hw9 hB9 hz9 hk9 hS9 hce9 hcv9 hcl9 => vx_out (fun x9 h9 => (htab x9 h9).elim) hlocks hce9 hcv9 hcl9 (fun t8 ht8 hal8 => ⟨(), trivial, (show exE ["java/lang/IndexOutOfBoundsException", "java/lang/IllegalArgumentException"] (x_would n (nI a) (nI b) vr vu) E9 from by obtain ⟨h1, h2⟩ := exE_cr hB9; subst h2; simp [exE, x_would, h_a, h_b, hab, h1, c_12]), hS9.F ht8⟩) hS9.2.2 (Nat.le_of_ble_eq_true rfl) (Nat.le_of_ble_eq_true rfl)) (fun u9 t9 H1 locs ht9 hvm9 hw9 hB9 hz9 hk9 hS => ?_)
    have e9 : H1 = s.heap := ht9.symm.trans hB9
    subst e9
    have hcr := hw9
    refine lv_iload hx hb dX1_would_40 (lv_at hl 4 rfl) ?_
    refine lv_if_ne (tgt := 58) hx hb dX1_would_42 (by decide) (fun c_42 => ?_) (fun c_42 => ?_)
    · exact absurd c_12 c_42
    · refine lv_aload_n hx hb dX1_would_45 rfl (lv_at hl 0 rfl) ?_
      refine va_get (D := (dC, dI)) (ci := 1) (v := .ref r1) (C := RX1) (T := TX1) (N := 6) hx hb hts hinX1 hown hK hP 0 rfl rfl 0 (by decide) (hts (.fieldLink RX1 10 "WrestleBook" "roster" "LWrestleBook$Roster;") (by decide +kernel)) (fun _ h9 => h9) rfl dX1_would_46 ?_
      refine lv_iload_n hx hb dX1_would_49 rfl (lv_at hl 1 rfl) ?_
      refine lv_iload_n hx hb dX1_would_50 rfl (lv_at hl 2 rfl) ?_
      refine lv_iload_n hx hb dX1_would_51 rfl (lv_at hl 3 rfl) ?_
      refine vp_callSi (W.runV (As := [.int (nI a), .int (nI b), .int vr]) (rest := []) ⟨hx, hb, hml, hown, hts⟩ (c_X0_gain l dC dI cI r1 d1 n F a (show a < n by omega) b (show b < n by omega) vr hn hR) (cwV 3 hts gX1_would_X0_gain rfl rfl rfl (by decide +kernel) ⟨Nat.le_of_ble_eq_true rfl, Nat.le_of_ble_eq_true rfl⟩) ⟨PR.blind, va_recv hK hP (ci := 0) (q0 := 2) rfl rfl, fun U hU hW => ⟨rfl, PR.go (hP.sub (ws' := (wR r1 d1 cI n F)) [2, 3, 4, 5, 6, 7, 8, 9] rfl) hK hE hS hU hW⟩⟩ rfl rfl hl.1 rfl (lv_room (Nat.le_of_ble_eq_true rfl)) dX1_would_52 ⟨Nat.le_of_ble_eq_true rfl, Nat.le_of_ble_eq_true rfl⟩) (fun r hr0 => ?_)
      subst hr0
      refine lv_goto (tgt := 70) hx hb dX1_would_55 (by decide) ?_
      refine vx_ret ?_
      refine W.widen (k := 4) (n := 24) (Nat.le_of_ble_eq_true rfl) (Nat.le_of_ble_eq_true rfl) ?_
      exact W.iret (v := s_gain F a b vr) hx hb hr (fun t ht hW => ⟨⟨_, (), rfl, ⟨(show x_would n (nI a) (nI b) vr vu = 0 from by simp [x_would, h_a, h_b, hab, hcr, c_12, c_42]), (show s_gain F a b vr = if vu = 0 then s_gain F (cl (nI a)) (cl (nI b)) vr else s_gain F (cl (nI b)) (cl (nI a)) (2 - vr) from by rw [cl_nI (by omega), cl_nI (by omega)]; simp [c_12, c_42])⟩, ht⟩, hS.F ht⟩) hS.2.2 dX1_would_70
  · refine lv_iload hx hb dX1_would_15 (lv_at hl 4 rfl) ?_
    refine lv_iconst (v := 1) hx hb dX1_would_17 (by decide) ?_
    refine lv_icmp_eq (tgt := 31) hx hb dX1_would_18 (by decide) (fun c_18 => ?_) (fun c_18 => ?_)
    · refine lv_iload_n hx hb dX1_would_31 rfl (lv_at hl 1 rfl) ?_
      refine lv_iload_n hx hb dX1_would_32 rfl (lv_at hl 2 rfl) ?_
      refine vx_callv (vx_runS (As := [.int (nI a), .int (nI b)]) (rest := []) ⟨hx, hb, hml, hown, hts⟩ (c_X1_checkDifferent l hl0 dC dI cI s.heap (nI a) (nI b)) (va_cwS 2 hts gX1_would_X1_checkDifferent rfl rfl rfl (by decide +kernel) ⟨Nat.le_of_ble_eq_true rfl, Nat.le_of_ble_eq_true rfl⟩) ⟨PRX.blind, fun U hU hW => ⟨rfl, hU, PR.go (vaP_nil) hK hE hS hU hW⟩⟩ rfl rfl hl.1 rfl (lv_room (Nat.le_of_ble_eq_true rfl)) dX1_would_33 ⟨Nat.le_of_ble_eq_true rfl, Nat.le_of_ble_eq_true rfl⟩) hS (fun q _ h9 => h9.elim) (fun q h9 => h9.elim) (fun q _ h9 => h9.elim) (fun E9 ce9 q9 u9 t9 H1 locs9 ht9 hvm9 hw9 hB9 hz9 hk9 hS9 hce9 hcv9 hcl9 => vx_out (fun x9 h9 => (htab x9 h9).elim) hlocks hce9 hcv9 hcl9 (fun t8 ht8 hal8 => ⟨(), trivial, (show exE ["java/lang/IndexOutOfBoundsException", "java/lang/IllegalArgumentException"] (x_would n (nI a) (nI b) vr vu) E9 from by obtain ⟨h1, h2⟩ := exE_cd hB9; subst h2; simp [exE, x_would, h_a, h_b, h1, c_12, c_18]), hS9.F ht8⟩) hS9.2.2 (Nat.le_of_ble_eq_true rfl) (Nat.le_of_ble_eq_true rfl)) (fun u9 t9 H1 locs ht9 hvm9 hw9 hB9 hz9 hk9 hS => ?_)
      have e9 : H1 = s.heap := ht9.symm.trans hB9
      subst e9
      have hab := ok_cd hw9
      refine lv_iload_n hx hb dX1_would_36 rfl (lv_at hl 3 rfl) ?_
      refine vx_callv (vx_runS (As := [.int vr]) (rest := []) ⟨hx, hb, hml, hown, hts⟩ (c_X1_checkResult l hl0 dC dI cI s.heap vr) (va_cwS 1 hts gX1_would_X1_checkResult rfl rfl rfl (by decide +kernel) ⟨Nat.le_of_ble_eq_true rfl, Nat.le_of_ble_eq_true rfl⟩) ⟨PRX.blind, fun U hU hW => ⟨rfl, hU, PR.go (vaP_nil) hK hE hS hU hW⟩⟩ rfl rfl hl.1 rfl (lv_room (Nat.le_of_ble_eq_true rfl)) dX1_would_37 ⟨Nat.le_of_ble_eq_true rfl, Nat.le_of_ble_eq_true rfl⟩) hS (fun q _ h9 => h9.elim) (fun q h9 => h9.elim) (fun q _ h9 => h9.elim) (fun E9 ce9 q9 u9 t9 H1 locs9 ht9 hvm9 hw9 hB9 hz9 hk9 hS9 hce9 hcv9 hcl9 => vx_out (fun x9 h9 => (htab x9 h9).elim) hlocks hce9 hcv9 hcl9 (fun t8 ht8 hal8 => ⟨(), trivial, (show exE ["java/lang/IndexOutOfBoundsException", "java/lang/IllegalArgumentException"] (x_would n (nI a) (nI b) vr vu) E9 from by obtain ⟨h1, h2⟩ := exE_cr hB9; subst h2; simp [exE, x_would, h_a, h_b, hab, h1, c_12, c_18]), hS9.F ht8⟩) hS9.2.2 (Nat.le_of_ble_eq_true rfl) (Nat.le_of_ble_eq_true rfl)) (fun u9 t9 H1 locs ht9 hvm9 hw9 hB9 hz9 hk9 hS => ?_)
      have e9 : H1 = s.heap := ht9.symm.trans hB9
      subst e9
      have hcr := hw9
      refine lv_iload hx hb dX1_would_40 (lv_at hl 4 rfl) ?_
      refine lv_if_ne (tgt := 58) hx hb dX1_would_42 (by decide) (fun c_42 => ?_) (fun c_42 => ?_)
      · refine lv_aload_n hx hb dX1_would_58 rfl (lv_at hl 0 rfl) ?_
        refine va_get (D := (dC, dI)) (ci := 1) (v := .ref r1) (C := RX1) (T := TX1) (N := 6) hx hb hts hinX1 hown hK hP 0 rfl rfl 0 (by decide) (hts (.fieldLink RX1 10 "WrestleBook" "roster" "LWrestleBook$Roster;") (by decide +kernel)) (fun _ h9 => h9) rfl dX1_would_59 ?_
        refine lv_iload_n hx hb dX1_would_62 rfl (lv_at hl 2 rfl) ?_
        refine lv_iload_n hx hb dX1_would_63 rfl (lv_at hl 1 rfl) ?_
        refine lv_iconst (v := 2) hx hb dX1_would_64 (by decide) ?_
        refine lv_iload_n hx hb dX1_would_65 rfl (lv_at hl 3 rfl) ?_
        refine lv_isub hx hb dX1_would_66 ?_
        refine vp_callSi (W.runV (As := [.int (nI b), .int (nI a), .int (2 - vr)]) (rest := []) ⟨hx, hb, hml, hown, hts⟩ (c_X0_gain l dC dI cI r1 d1 n F b (show b < n by omega) a (show a < n by omega) (2 - vr) hn hR) (cwV 3 hts gX1_would_X0_gain rfl rfl rfl (by decide +kernel) ⟨Nat.le_of_ble_eq_true rfl, Nat.le_of_ble_eq_true rfl⟩) ⟨PR.blind, va_recv hK hP (ci := 0) (q0 := 2) rfl rfl, fun U hU hW => ⟨rfl, PR.go (hP.sub (ws' := (wR r1 d1 cI n F)) [2, 3, 4, 5, 6, 7, 8, 9] rfl) hK hE hS hU hW⟩⟩ rfl rfl hl.1 rfl (lv_room (Nat.le_of_ble_eq_true rfl)) dX1_would_67 ⟨Nat.le_of_ble_eq_true rfl, Nat.le_of_ble_eq_true rfl⟩) (fun r hr0 => ?_)
        subst hr0
        refine vx_ret ?_
        refine W.widen (k := 4) (n := 24) (Nat.le_of_ble_eq_true rfl) (Nat.le_of_ble_eq_true rfl) ?_
        exact W.iret (v := s_gain F b a (2 - vr)) hx hb hr (fun t ht hW => ⟨⟨_, (), rfl, ⟨(show x_would n (nI a) (nI b) vr vu = 0 from by simp [x_would, h_a, h_b, hab, hcr, c_12, c_18, c_42]), (show s_gain F b a (2 - vr) = if vu = 0 then s_gain F (cl (nI a)) (cl (nI b)) vr else s_gain F (cl (nI b)) (cl (nI a)) (2 - vr) from by rw [cl_nI (by omega), cl_nI (by omega)]; simp [c_12, c_18, c_42])⟩, ht⟩, hS.F ht⟩) hS.2.2 dX1_would_70
      · exact absurd c_42 c_12
    · obtain ⟨sa, hstr⟩ := hE.2.2.2.1 (146, "neither of a nor of b") (by decide +kernel)
      exact vx_throwS (names := ["java/lang/RuntimeException", "java/lang/Exception"]) hx hb hl0 hown (by decide +kernel) (by decide +kernel) (hts (.classLink RX1 121 "java/lang/IndexOutOfBoundsException") (by decide +kernel)) (hts (.initialized "java/lang/IndexOutOfBoundsException") (by decide +kernel)) hstr (vx_hat (B := [.castable "java/lang/IndexOutOfBoundsException" "java/lang/IndexOutOfBoundsException", .declares (Bundle.initS "java/lang/RuntimeException"), .declares (Bundle.initS "java/lang/Exception"), .declares (Bundle.initS Bundle.tN)]) (fun w h9 => hts w (hthIOB w h9)) tnIOB (vx_c (va_Nw.use rfl (hE.2.2.1 (.castable "java/lang/IndexOutOfBoundsException" "java/lang/IndexOutOfBoundsException") (by decide +kernel))) (vx_c (va_Nw.use rfl (hE.2.2.1 (.declares (Bundle.initS "java/lang/RuntimeException")) (by decide +kernel))) (vx_c (va_Nw.use rfl (hE.2.2.1 (.declares (Bundle.initS "java/lang/Exception")) (by decide +kernel))) (vx_c (va_Nw.use rfl (hE.2.2.1 (.declares (Bundle.initS Bundle.tN)) (by decide +kernel))) vx_n))))) tgIOB hE.2.2.2.2.1 hE.2.2.2.2.2 hS (hl.1.trans hml.symm) dX1_would_21 dX1_would_24 dX1_would_25 dX1_would_27 dX1_would_30 (fun x9 h9 => (htab x9 h9).elim) (Nat.le_of_ble_eq_true rfl) (Nat.le_of_ble_eq_true rfl) (Nat.le_of_ble_eq_true rfl) (Nat.le_of_ble_eq_true rfl) hlocks (fun t8 hal8 hz8 hk8 => ⟨(), trivial, (show exE ["java/lang/IndexOutOfBoundsException", "java/lang/IllegalArgumentException"] (x_would n (nI a) (nI b) vr vu) "java/lang/IndexOutOfBoundsException" from by simp [exE, x_would, h_a, h_b, c_12, c_18]), ⟨hz8, fun q8 h8 _ => hk8 q8 h8⟩⟩) hS.2.2 (Nat.le_of_ble_eq_true rfl) (Nat.le_of_ble_eq_true rfl)

set_option maxHeartbeats 4000000 in
set_option maxRecDepth 100000 in
theorem c_X1_match (l : Launch) (hl0 : l.stackTraces = false) (dC : Nat → ClassId) (dI : Nat → Nat → Nat) (cI : ClassId) (h r1 : Nat) (d1 : Nat → Nat) (r2 : Nat) (d2 : Nat → Nat) (rc : Nat) (n : Nat) (F : Nat → Nat → Int32) (n2 : Nat) (G : Nat → Nat → Int32) (ct ch : Nat → Int32) (H0 : Heap) (va : Int32) (hn : n ≤ 12) (hR : okR n F) : vx_Met l yX1_match wsX1_match ({ frames := 7, cells := 1, slots := 6, locals := 103 } : Room) (va_Pc [.ref h, .int va] (fun U => U.heap = H0 ∧ PR dC dI cI (wB h r1 d1 r2 d2 rc cI n F n2 G ct ch) U)) (va_Qi (fun r (_ : Unit) => x_cw n va = 0 ∧ r = oI (s_match n F (cl va))) (fun _ t => t.heap = H0) (fun _ => False)) (vx_X (fun (_ : Unit) => True) (fun E _ t => exE ["java/lang/IndexOutOfBoundsException"] (x_cw n va) E) (fun _ => False)) 1 6 (fun _ => False) := by
  refine vx_ofW (cc := cX1_match) (maxL := 2) (ret := (some .int)) (by decide) rfl ?_
  intro p e s m args below meth c s₁ B hml htab hv
  obtain ⟨rfl, hH0, hP, hK, hE⟩ := hv
  subst hH0
  have hx := B.exec
  have hb := B.bytes
  have hr := B.returns
  have hts := atoms_spec (ws := wsX1_match) B.pre
  have hown : s.vm.findClass RX1 = some m.cls := findClass_of_methodNamed B.named
  have hlocks := B.notSynchronized
  have hS : va_S (fun _ => False) s.heap s.heap [] := va_S.rf
  have hinX1 : ∀ w ∈ wsX10, w ∈ wsX1_match := by decide +kernel
  have hl := lv_entry ([.ref h, .int va]) (n := 2) (Nat.le_of_ble_eq_true rfl)
  rw [lg_entry_eq]
  generalize (lg_sl ([.ref h, .int va]) ++ List.replicate (2 - (lg_sl ([.ref h, .int va])).length) Slot.unset).toArray = ls at hl ⊢
  have hl : lv_has ls 2 [(0, .ref h), (1, .int va)] := hl
  refine lv_aload_n hx hb dX1_match_0 rfl (lv_at hl 0 rfl) ?_
  refine lv_iload_n hx hb dX1_match_1 rfl (lv_at hl 1 rfl) ?_
  refine vx_callv (vx_runV (As := [.int va]) (rest := []) ⟨hx, hb, hml, hown, hts⟩ (c_X1_checkWrestler l hl0 dC dI cI h r1 d1 r2 d2 rc n F n2 G ct ch s.heap va hn) (cwV 1 hts gX1_match_X1_checkWrestler rfl rfl rfl (by decide +kernel) ⟨Nat.le_of_ble_eq_true rfl, Nat.le_of_ble_eq_true rfl⟩) ⟨PRX.blind, va_recv hK hP (ci := 1) (q0 := 0) rfl rfl, fun U hU hW => ⟨rfl, hU, PR.go hP hK hE hS hU hW⟩⟩ rfl rfl hl.1 rfl (lv_room (Nat.le_of_ble_eq_true rfl)) dX1_match_2 ⟨Nat.le_of_ble_eq_true rfl, Nat.le_of_ble_eq_true rfl⟩) hS (fun q _ h9 => h9.elim) (fun q h9 => h9.elim) (fun q _ h9 => h9.elim) (fun E9 ce9 q9 u9 t9 H1 locs9 ht9 hvm9 hw9 hB9 hz9 hk9 hS9 hce9 hcv9 hcl9 => vx_out (fun x9 h9 => (htab x9 h9).elim) hlocks hce9 hcv9 hcl9 (fun t8 ht8 hal8 => ⟨(), trivial, (show exE ["java/lang/IndexOutOfBoundsException"] (x_cw n va) E9 from by exact hB9), hS9.F ht8⟩) hS9.2.2 (Nat.le_of_ble_eq_true rfl) (Nat.le_of_ble_eq_true rfl)) (fun u9 t9 H1 locs ht9 hvm9 hw9 hB9 hz9 hk9 hS => ?_)
  have e9 : H1 = s.heap := ht9.symm.trans hB9
  subst e9
  obtain ⟨a, i_a, rfl⟩ := s_has_nat hn (ok_cw hw9)
  have h_a := s_has_nI hn i_a
  refine lv_aload_n hx hb dX1_match_5 rfl (lv_at hl 0 rfl) ?_
  refine va_get (D := (dC, dI)) (ci := 1) (v := .ref r1) (C := RX1) (T := TX1) (N := 6) hx hb hts hinX1 hown hK hP 0 rfl rfl 0 (by decide) (hts (.fieldLink RX1 10 "WrestleBook" "roster" "LWrestleBook$Roster;") (by decide +kernel)) (fun _ h9 => h9) rfl dX1_match_6 ?_
  refine lv_iload_n hx hb dX1_match_9 rfl (lv_at hl 1 rfl) ?_
  refine vp_callSi (W.runV (As := [.int (nI a)]) (rest := []) ⟨hx, hb, hml, hown, hts⟩ (c_X0_evenest l dC dI cI r1 d1 n F a (show a < n by omega) hn hR) (cwV 1 hts gX1_match_X0_evenest rfl rfl rfl (by decide +kernel) ⟨Nat.le_of_ble_eq_true rfl, Nat.le_of_ble_eq_true rfl⟩) ⟨PR.blind, va_recv hK hP (ci := 0) (q0 := 2) rfl rfl, fun U hU hW => ⟨rfl, PR.go (hP.sub (ws' := (wR r1 d1 cI n F)) [2, 3, 4, 5, 6, 7, 8, 9] rfl) hK hE hS hU hW⟩⟩ rfl rfl hl.1 rfl (lv_room (Nat.le_of_ble_eq_true rfl)) dX1_match_10 ⟨Nat.le_of_ble_eq_true rfl, Nat.le_of_ble_eq_true rfl⟩) (fun r hr0 => ?_)
  subst hr0
  refine vx_ret ?_
  refine W.widen (k := 1) (n := 6) (Nat.le_of_ble_eq_true rfl) (Nat.le_of_ble_eq_true rfl) ?_
  exact W.iret (v := oI (s_match n F a)) hx hb hr (fun t ht hW => ⟨⟨_, (), rfl, ⟨(show x_cw n (nI a) = 0 from by simp [x_cw, h_a]), (show oI (s_match n F a) = oI (s_match n F (cl (nI a))) from by rw [cl_nI (by omega)])⟩, ht⟩, hS.F ht⟩) hS.2.2 dX1_match_13

set_option maxHeartbeats 4000000 in
set_option maxRecDepth 100000 in
theorem c_X1_next (l : Launch) (dC : Nat → ClassId) (dI : Nat → Nat → Nat) (cI : ClassId) (h r1 : Nat) (d1 : Nat → Nat) (r2 : Nat) (d2 : Nat → Nat) (rc : Nat) (n : Nat) (F : Nat → Nat → Int32) (n2 : Nat) (G : Nat → Nat → Int32) (ct ch : Nat → Int32) (hn : n ≤ 12) (hR : okR n F) : Met l yX1_next wsX1_next ({ frames := 5, cells := 0, slots := 0, locals := 107 } : Room) (va_Pc [.ref h] (fun U => PR dC dI cI (wB h r1 d1 r2 d2 rc cI n F n2 G ct ch) U)) (vp_Si (fun r => r = s_next n F)) 0 0 (fun _ => False) := by
  refine Met.ofW (cc := cX1_next) (maxL := 1) (ret := (some .int)) (by decide) rfl ?_
  intro p e s m args below meth c s₁ B hml hv
  obtain ⟨rfl, hP, hK, hE⟩ := hv
  have hx := B.exec
  have hb := B.bytes
  have hr := B.returns
  have hts := atoms_spec (ws := wsX1_next) B.pre
  have hown : s.vm.findClass RX1 = some m.cls := findClass_of_methodNamed B.named
  have hlocks := B.notSynchronized
  have hS : va_S (fun _ => False) s.heap s.heap [] := va_S.rf
  have hinX1 : ∀ w ∈ wsX10, w ∈ wsX1_next := by decide +kernel
  have hl := lv_entry ([.ref h]) (n := 1) (Nat.le_of_ble_eq_true rfl)
  rw [lg_entry_eq]
  generalize (lg_sl ([.ref h]) ++ List.replicate (1 - (lg_sl ([.ref h])).length) Slot.unset).toArray = ls at hl ⊢
  have hl : lv_has ls 1 [(0, .ref h)] := hl
  refine lv_aload_n hx hb dX1_next_0 rfl (lv_at hl 0 rfl) ?_
  refine va_get (D := (dC, dI)) (ci := 1) (v := .ref r1) (C := RX1) (T := TX1) (N := 6) hx hb hts hinX1 hown hK hP 0 rfl rfl 0 (by decide) (hts (.fieldLink RX1 10 "WrestleBook" "roster" "LWrestleBook$Roster;") (by decide +kernel)) (fun _ h9 => h9) rfl dX1_next_1 ?_
  refine vp_callSi (W.runV (As := []) (rest := []) ⟨hx, hb, hml, hown, hts⟩ (c_X0_bestPair l dC dI cI r1 d1 n F hn hR) (cwV 0 hts gX1_next_X0_bestPair rfl rfl rfl (by decide +kernel) ⟨Nat.le_of_ble_eq_true rfl, Nat.le_of_ble_eq_true rfl⟩) ⟨PR.blind, va_recv hK hP (ci := 0) (q0 := 2) rfl rfl, fun U hU hW => ⟨rfl, PR.go (hP.sub (ws' := (wR r1 d1 cI n F)) [2, 3, 4, 5, 6, 7, 8, 9] rfl) hK hE hS hU hW⟩⟩ rfl rfl hl.1 rfl (lv_room (Nat.le_of_ble_eq_true rfl)) dX1_next_4 ⟨Nat.le_of_ble_eq_true rfl, Nat.le_of_ble_eq_true rfl⟩) (fun r hr0 => ?_)
  subst hr0
  exact W.iret (v := s_next n F) hx hb hr (fun t ht hW => ⟨_, rfl, (show s_next n F = s_next n F from by rfl), ht⟩) hS.2.2 dX1_next_7

set_option maxHeartbeats 4000000 in
set_option maxRecDepth 100000 in
theorem c_X1_checkWrestlerK (l : Launch) (dC : Nat → ClassId) (dI : Nat → Nat → Nat) (cI : ClassId) (h r1 : Nat) (d1 : Nat → Nat) (r2 : Nat) (d2 : Nat → Nat) (rc : Nat) (n : Nat) (F : Nat → Nat → Int32) (n2 : Nat) (G : Nat → Nat → Int32) (ct ch : Nat → Int32) (w : Nat) (i_w : w < n) (hn : n ≤ 12) : Met l yX1_checkWrestler wsX1_checkWrestler ({ frames := 1, cells := 0, slots := 0, locals := 21 } : Room) (va_Pc [.ref h, .int (nI w)] (fun U => PR dC dI cI (wB h r1 d1 r2 d2 rc cI n F n2 G ct ch) U)) (va_Sv (fun _ => True)) 0 0 (fun _ => False) := by
  refine Met.ofW (cc := cX1_checkWrestler) (maxL := 2) (ret := none) (by decide) rfl ?_
  intro p e s m args below meth c s₁ B hml hv
  obtain ⟨rfl, hP, hK, hE⟩ := hv
  have hx := B.exec
  have hb := B.bytes
  have hr := B.returns
  have hts := atoms_spec (ws := wsX1_checkWrestler) B.pre
  have hown : s.vm.findClass RX1 = some m.cls := findClass_of_methodNamed B.named
  have hlocks := B.notSynchronized
  have hS : va_S (fun _ => False) s.heap s.heap [] := va_S.rf
  have hinX1 : ∀ w ∈ wsX10, w ∈ wsX1_checkWrestler := by decide +kernel
  have hthIOB : ∀ w ∈ (vx_atS RX1 125 "java/lang/IndexOutOfBoundsException" ["java/lang/RuntimeException", "java/lang/Exception"]).filter goodWord, w ∈ wsX1_checkWrestler := by decide +kernel
  have hl := lv_entry ([.ref h, .int (nI w)]) (n := 2) (Nat.le_of_ble_eq_true rfl)
  rw [lg_entry_eq]
  generalize (lg_sl ([.ref h, .int (nI w)]) ++ List.replicate (2 - (lg_sl ([.ref h, .int (nI w)])).length) Slot.unset).toArray = ls at hl ⊢
  have hl : lv_has ls 2 [(0, .ref h), (1, .int (nI w))] := hl
  refine lv_aload_n hx hb dX1_checkWrestler_0 rfl (lv_at hl 0 rfl) ?_
  refine va_get (D := (dC, dI)) (ci := 1) (v := .ref r1) (C := RX1) (T := TX1) (N := 6) hx hb hts hinX1 hown hK hP 0 rfl rfl 0 (by decide) (hts (.fieldLink RX1 10 "WrestleBook" "roster" "LWrestleBook$Roster;") (by decide +kernel)) (fun _ h9 => h9) rfl dX1_checkWrestler_1 ?_
  refine lv_iload_n hx hb dX1_checkWrestler_4 rfl (lv_at hl 1 rfl) ?_
  refine vp_callSi (W.runV (As := [.int (nI w)]) (rest := []) ⟨hx, hb, hml, hown, hts⟩ (c_X0_has l dC dI cI r1 d1 n F (nI w)) (cwV 1 hts gX1_checkWrestler_X0_has rfl rfl rfl (by decide +kernel) ⟨Nat.le_of_ble_eq_true rfl, Nat.le_of_ble_eq_true rfl⟩) ⟨PR.blind, va_recv hK hP (ci := 0) (q0 := 2) rfl rfl, fun U hU hW => ⟨rfl, PR.go (hP.sub (ws' := (wR r1 d1 cI n F)) [2, 3, 4, 5, 6, 7, 8, 9] rfl) hK hE hS hU hW⟩⟩ rfl rfl hl.1 rfl (lv_room (Nat.le_of_ble_eq_true rfl)) dX1_checkWrestler_5 ⟨Nat.le_of_ble_eq_true rfl, Nat.le_of_ble_eq_true rfl⟩) (fun r hr0 => ?_)
  subst hr0
  refine rv_ifb_ne (tgt := 21) hx hb dX1_checkWrestler_8 (by decide) (fun c_8 => ?_) (fun c_8 => ?_)
  · exact W.vret hx hb hr (fun t ht hW => ⟨rfl, (by trivial), ht⟩) hS.2.2 dX1_checkWrestler_21
  · exact absurd c_8 (by rw [s_has_nI hn i_w]; decide)

set_option maxHeartbeats 4000000 in
set_option maxRecDepth 100000 in
theorem c_X1_toldK (l : Launch) (dC : Nat → ClassId) (dI : Nat → Nat → Nat) (cI : ClassId) (h r1 : Nat) (d1 : Nat → Nat) (r2 : Nat) (d2 : Nat → Nat) (rc : Nat) (n : Nat) (F : Nat → Nat → Int32) (n2 : Nat) (G : Nat → Nat → Int32) (ct ch : Nat → Int32) (w : Nat) (i_w : w < n) (k : Nat) (hk : k < 9) (hn : n ≤ 12) : Met l yX1_told wsX1_told ({ frames := 2, cells := 0, slots := 0, locals := 45 } : Room) (va_Pc [.ref h, .int (nI w), .int (nI k)] (fun U => PR dC dI cI (wB h r1 d1 r2 d2 rc cI n F n2 G ct ch) U)) (vp_Si (fun r => r = s_told n F w (nI k))) 0 0 (fun _ => False) := by
  refine Met.ofW (cc := cX1_told) (maxL := 3) (ret := (some .int)) (by decide) rfl ?_
  intro p e s m args below meth c s₁ B hml hv
  obtain ⟨rfl, hP, hK, hE⟩ := hv
  have hx := B.exec
  have hb := B.bytes
  have hr := B.returns
  have hts := atoms_spec (ws := wsX1_told) B.pre
  have hown : s.vm.findClass RX1 = some m.cls := findClass_of_methodNamed B.named
  have hlocks := B.notSynchronized
  have hS : va_S (fun _ => False) s.heap s.heap [] := va_S.rf
  have hinX1 : ∀ w ∈ wsX10, w ∈ wsX1_told := by decide +kernel
  have hthIOB : ∀ w ∈ (vx_atS RX1 125 "java/lang/IndexOutOfBoundsException" ["java/lang/RuntimeException", "java/lang/Exception"]).filter goodWord, w ∈ wsX1_told := by decide +kernel
  have hl := lv_entry ([.ref h, .int (nI w), .int (nI k)]) (n := 3) (Nat.le_of_ble_eq_true rfl)
  rw [lg_entry_eq]
  generalize (lg_sl ([.ref h, .int (nI w), .int (nI k)]) ++ List.replicate (3 - (lg_sl ([.ref h, .int (nI w), .int (nI k)])).length) Slot.unset).toArray = ls at hl ⊢
  have hl : lv_has ls 3 [(0, .ref h), (1, .int (nI w)), (2, .int (nI k))] := hl
  refine lv_aload_n hx hb dX1_told_0 rfl (lv_at hl 0 rfl) ?_
  refine lv_iload_n hx hb dX1_told_1 rfl (lv_at hl 1 rfl) ?_
  refine va_csv (W.runV (As := [.int (nI w)]) (rest := []) ⟨hx, hb, hml, hown, hts⟩ (c_X1_checkWrestlerK l dC dI cI h r1 d1 r2 d2 rc n F n2 G ct ch w (show w < n by omega) hn) (cwV 1 hts gX1_told_X1_checkWrestler rfl rfl rfl (by decide +kernel) ⟨Nat.le_of_ble_eq_true rfl, Nat.le_of_ble_eq_true rfl⟩) ⟨PR.blind, va_recv hK hP (ci := 1) (q0 := 0) rfl rfl, fun U hU hW => ⟨rfl, PR.go hP hK hE hS hU hW⟩⟩ rfl rfl hl.1 rfl (lv_room (Nat.le_of_ble_eq_true rfl)) dX1_told_2 ⟨Nat.le_of_ble_eq_true rfl, Nat.le_of_ble_eq_true rfl⟩) (fun _ => ?_)
  refine lv_iload_n hx hb dX1_told_5 rfl (lv_at hl 2 rfl) ?_
  rcases (show k = 0 ∨ k = 1 ∨ k = 2 ∨ k = 3 ∨ k = 4 ∨ k = 5 ∨ k = 6 ∨ k = 7 ∨ k = 8 by omega) with rfl | rfl | rfl | rfl | rfl | rfl | rfl | rfl | rfl
  · refine lv_tableIn (tgt := 56) (off := 50) hx hb dX1_told_6 (by decide) (by decide) (by decide) (by decide) ?_
    refine lv_aload_n hx hb dX1_told_56 rfl (lv_at hl 0 rfl) ?_
    refine va_get (D := (dC, dI)) (ci := 1) (v := .ref r1) (C := RX1) (T := TX1) (N := 6) hx hb hts hinX1 hown hK hP 0 rfl rfl 0 (by decide) (hts (.fieldLink RX1 10 "WrestleBook" "roster" "LWrestleBook$Roster;") (by decide +kernel)) (fun _ h9 => h9) rfl dX1_told_57 ?_
    refine lv_iload_n hx hb dX1_told_60 rfl (lv_at hl 1 rfl) ?_
    refine vp_callSi (W.runV (As := [.int (nI w)]) (rest := []) ⟨hx, hb, hml, hown, hts⟩ (c_X0_rating l dC dI cI r1 d1 n F w (show w < n by omega) hn) (cwV 1 hts gX1_told_X0_rating rfl rfl rfl (by decide +kernel) ⟨Nat.le_of_ble_eq_true rfl, Nat.le_of_ble_eq_true rfl⟩) ⟨PR.blind, va_recv hK hP (ci := 0) (q0 := 2) rfl rfl, fun U hU hW => ⟨rfl, PR.go (hP.sub (ws' := (wR r1 d1 cI n F)) [2, 3, 4, 5, 6, 7, 8, 9] rfl) hK hE hS hU hW⟩⟩ rfl rfl hl.1 rfl (lv_room (Nat.le_of_ble_eq_true rfl)) dX1_told_61 ⟨Nat.le_of_ble_eq_true rfl, Nat.le_of_ble_eq_true rfl⟩) (fun r hr0 => ?_)
    subst hr0
    exact W.iret (v := F 1 w) hx hb hr (fun t ht hW => ⟨_, rfl, (show F 1 w = s_told n F w (nI 0) from by rfl), ht⟩) hS.2.2 dX1_told_64
  · refine lv_tableIn (tgt := 65) (off := 59) hx hb dX1_told_6 (by decide) (by decide) (by decide) (by decide) ?_
    refine lv_aload_n hx hb dX1_told_65 rfl (lv_at hl 0 rfl) ?_
    refine va_get (D := (dC, dI)) (ci := 1) (v := .ref r1) (C := RX1) (T := TX1) (N := 6) hx hb hts hinX1 hown hK hP 0 rfl rfl 0 (by decide) (hts (.fieldLink RX1 10 "WrestleBook" "roster" "LWrestleBook$Roster;") (by decide +kernel)) (fun _ h9 => h9) rfl dX1_told_66 ?_
    refine lv_iload_n hx hb dX1_told_69 rfl (lv_at hl 1 rfl) ?_
    refine vp_callSi (W.runV (As := [.int (nI w)]) (rest := []) ⟨hx, hb, hml, hown, hts⟩ (c_X0_league l dC dI cI r1 d1 n F w (show w < n by omega) hn) (cwV 1 hts gX1_told_X0_league rfl rfl rfl (by decide +kernel) ⟨Nat.le_of_ble_eq_true rfl, Nat.le_of_ble_eq_true rfl⟩) ⟨PR.blind, va_recv hK hP (ci := 0) (q0 := 2) rfl rfl, fun U hU hW => ⟨rfl, PR.go (hP.sub (ws' := (wR r1 d1 cI n F)) [2, 3, 4, 5, 6, 7, 8, 9] rfl) hK hE hS hU hW⟩⟩ rfl rfl hl.1 rfl (lv_room (Nat.le_of_ble_eq_true rfl)) dX1_told_70 ⟨Nat.le_of_ble_eq_true rfl, Nat.le_of_ble_eq_true rfl⟩) (fun r hr0 => ?_)
    subst hr0
    exact W.iret (v := F 0 w) hx hb hr (fun t ht hW => ⟨_, rfl, (show F 0 w = s_told n F w (nI 1) from by rfl), ht⟩) hS.2.2 dX1_told_73
  · refine lv_tableIn (tgt := 74) (off := 68) hx hb dX1_told_6 (by decide) (by decide) (by decide) (by decide) ?_
    refine lv_aload_n hx hb dX1_told_74 rfl (lv_at hl 0 rfl) ?_
    refine va_get (D := (dC, dI)) (ci := 1) (v := .ref r1) (C := RX1) (T := TX1) (N := 6) hx hb hts hinX1 hown hK hP 0 rfl rfl 0 (by decide) (hts (.fieldLink RX1 10 "WrestleBook" "roster" "LWrestleBook$Roster;") (by decide +kernel)) (fun _ h9 => h9) rfl dX1_told_75 ?_
    refine lv_iload_n hx hb dX1_told_78 rfl (lv_at hl 1 rfl) ?_
    refine vp_callSi (W.runV (As := [.int (nI w)]) (rest := []) ⟨hx, hb, hml, hown, hts⟩ (c_X0_points l dC dI cI r1 d1 n F w (show w < n by omega) hn) (cwV 1 hts gX1_told_X0_points rfl rfl rfl (by decide +kernel) ⟨Nat.le_of_ble_eq_true rfl, Nat.le_of_ble_eq_true rfl⟩) ⟨PR.blind, va_recv hK hP (ci := 0) (q0 := 2) rfl rfl, fun U hU hW => ⟨rfl, PR.go (hP.sub (ws' := (wR r1 d1 cI n F)) [2, 3, 4, 5, 6, 7, 8, 9] rfl) hK hE hS hU hW⟩⟩ rfl rfl hl.1 rfl (lv_room (Nat.le_of_ble_eq_true rfl)) dX1_told_79 ⟨Nat.le_of_ble_eq_true rfl, Nat.le_of_ble_eq_true rfl⟩) (fun r hr0 => ?_)
    subst hr0
    exact W.iret (v := F 2 w) hx hb hr (fun t ht hW => ⟨_, rfl, (show F 2 w = s_told n F w (nI 2) from by rfl), ht⟩) hS.2.2 dX1_told_82
  · refine lv_tableIn (tgt := 83) (off := 77) hx hb dX1_told_6 (by decide) (by decide) (by decide) (by decide) ?_
    refine lv_aload_n hx hb dX1_told_83 rfl (lv_at hl 0 rfl) ?_
    refine va_get (D := (dC, dI)) (ci := 1) (v := .ref r1) (C := RX1) (T := TX1) (N := 6) hx hb hts hinX1 hown hK hP 0 rfl rfl 0 (by decide) (hts (.fieldLink RX1 10 "WrestleBook" "roster" "LWrestleBook$Roster;") (by decide +kernel)) (fun _ h9 => h9) rfl dX1_told_84 ?_
    refine lv_iload_n hx hb dX1_told_87 rfl (lv_at hl 1 rfl) ?_
    refine vp_callSi (W.runV (As := [.int (nI w)]) (rest := []) ⟨hx, hb, hml, hown, hts⟩ (c_X0_bouts l dC dI cI r1 d1 n F w (show w < n by omega) hn) (cwV 1 hts gX1_told_X0_bouts rfl rfl rfl (by decide +kernel) ⟨Nat.le_of_ble_eq_true rfl, Nat.le_of_ble_eq_true rfl⟩) ⟨PR.blind, va_recv hK hP (ci := 0) (q0 := 2) rfl rfl, fun U hU hW => ⟨rfl, PR.go (hP.sub (ws' := (wR r1 d1 cI n F)) [2, 3, 4, 5, 6, 7, 8, 9] rfl) hK hE hS hU hW⟩⟩ rfl rfl hl.1 rfl (lv_room (Nat.le_of_ble_eq_true rfl)) dX1_told_88 ⟨Nat.le_of_ble_eq_true rfl, Nat.le_of_ble_eq_true rfl⟩) (fun r hr0 => ?_)
    subst hr0
    exact W.iret (v := F 3 w) hx hb hr (fun t ht hW => ⟨_, rfl, (show F 3 w = s_told n F w (nI 3) from by rfl), ht⟩) hS.2.2 dX1_told_91
  · refine lv_tableIn (tgt := 92) (off := 86) hx hb dX1_told_6 (by decide) (by decide) (by decide) (by decide) ?_
    refine lv_aload_n hx hb dX1_told_92 rfl (lv_at hl 0 rfl) ?_
    refine va_get (D := (dC, dI)) (ci := 1) (v := .ref r1) (C := RX1) (T := TX1) (N := 6) hx hb hts hinX1 hown hK hP 0 rfl rfl 0 (by decide) (hts (.fieldLink RX1 10 "WrestleBook" "roster" "LWrestleBook$Roster;") (by decide +kernel)) (fun _ h9 => h9) rfl dX1_told_93 ?_
    refine lv_iload_n hx hb dX1_told_96 rfl (lv_at hl 1 rfl) ?_
    refine vp_callSi (W.runV (As := [.int (nI w)]) (rest := []) ⟨hx, hb, hml, hown, hts⟩ (c_X0_seasonBouts l dC dI cI r1 d1 n F w (show w < n by omega) hn) (cwV 1 hts gX1_told_X0_seasonBouts rfl rfl rfl (by decide +kernel) ⟨Nat.le_of_ble_eq_true rfl, Nat.le_of_ble_eq_true rfl⟩) ⟨PR.blind, va_recv hK hP (ci := 0) (q0 := 2) rfl rfl, fun U hU hW => ⟨rfl, PR.go (hP.sub (ws' := (wR r1 d1 cI n F)) [2, 3, 4, 5, 6, 7, 8, 9] rfl) hK hE hS hU hW⟩⟩ rfl rfl hl.1 rfl (lv_room (Nat.le_of_ble_eq_true rfl)) dX1_told_97 ⟨Nat.le_of_ble_eq_true rfl, Nat.le_of_ble_eq_true rfl⟩) (fun r hr0 => ?_)
    subst hr0
    exact W.iret (v := F 4 w) hx hb hr (fun t ht hW => ⟨_, rfl, (show F 4 w = s_told n F w (nI 4) from by rfl), ht⟩) hS.2.2 dX1_told_100
  · refine lv_tableIn (tgt := 101) (off := 95) hx hb dX1_told_6 (by decide) (by decide) (by decide) (by decide) ?_
    refine lv_aload_n hx hb dX1_told_101 rfl (lv_at hl 0 rfl) ?_
    refine va_get (D := (dC, dI)) (ci := 1) (v := .ref r1) (C := RX1) (T := TX1) (N := 6) hx hb hts hinX1 hown hK hP 0 rfl rfl 0 (by decide) (hts (.fieldLink RX1 10 "WrestleBook" "roster" "LWrestleBook$Roster;") (by decide +kernel)) (fun _ h9 => h9) rfl dX1_told_102 ?_
    refine lv_iload_n hx hb dX1_told_105 rfl (lv_at hl 1 rfl) ?_
    refine vp_callSi (W.runV (As := [.int (nI w)]) (rest := []) ⟨hx, hb, hml, hown, hts⟩ (c_X0_winRow l dC dI cI r1 d1 n F w (show w < n by omega) hn) (cwV 1 hts gX1_told_X0_winRow rfl rfl rfl (by decide +kernel) ⟨Nat.le_of_ble_eq_true rfl, Nat.le_of_ble_eq_true rfl⟩) ⟨PR.blind, va_recv hK hP (ci := 0) (q0 := 2) rfl rfl, fun U hU hW => ⟨rfl, PR.go (hP.sub (ws' := (wR r1 d1 cI n F)) [2, 3, 4, 5, 6, 7, 8, 9] rfl) hK hE hS hU hW⟩⟩ rfl rfl hl.1 rfl (lv_room (Nat.le_of_ble_eq_true rfl)) dX1_told_106 ⟨Nat.le_of_ble_eq_true rfl, Nat.le_of_ble_eq_true rfl⟩) (fun r hr0 => ?_)
    subst hr0
    exact W.iret (v := F 5 w) hx hb hr (fun t ht hW => ⟨_, rfl, (show F 5 w = s_told n F w (nI 5) from by rfl), ht⟩) hS.2.2 dX1_told_109
  · refine lv_tableIn (tgt := 110) (off := 104) hx hb dX1_told_6 (by decide) (by decide) (by decide) (by decide) ?_
    refine lv_aload_n hx hb dX1_told_110 rfl (lv_at hl 0 rfl) ?_
    refine va_get (D := (dC, dI)) (ci := 1) (v := .ref r1) (C := RX1) (T := TX1) (N := 6) hx hb hts hinX1 hown hK hP 0 rfl rfl 0 (by decide) (hts (.fieldLink RX1 10 "WrestleBook" "roster" "LWrestleBook$Roster;") (by decide +kernel)) (fun _ h9 => h9) rfl dX1_told_111 ?_
    refine lv_iload_n hx hb dX1_told_114 rfl (lv_at hl 1 rfl) ?_
    refine vp_callSi (W.runV (As := [.int (nI w)]) (rest := []) ⟨hx, hb, hml, hown, hts⟩ (c_X0_best l dC dI cI r1 d1 n F w (show w < n by omega) hn) (cwV 1 hts gX1_told_X0_best rfl rfl rfl (by decide +kernel) ⟨Nat.le_of_ble_eq_true rfl, Nat.le_of_ble_eq_true rfl⟩) ⟨PR.blind, va_recv hK hP (ci := 0) (q0 := 2) rfl rfl, fun U hU hW => ⟨rfl, PR.go (hP.sub (ws' := (wR r1 d1 cI n F)) [2, 3, 4, 5, 6, 7, 8, 9] rfl) hK hE hS hU hW⟩⟩ rfl rfl hl.1 rfl (lv_room (Nat.le_of_ble_eq_true rfl)) dX1_told_115 ⟨Nat.le_of_ble_eq_true rfl, Nat.le_of_ble_eq_true rfl⟩) (fun r hr0 => ?_)
    subst hr0
    exact W.iret (v := F 6 w) hx hb hr (fun t ht hW => ⟨_, rfl, (show F 6 w = s_told n F w (nI 6) from by rfl), ht⟩) hS.2.2 dX1_told_118
  · refine lv_tableIn (tgt := 119) (off := 113) hx hb dX1_told_6 (by decide) (by decide) (by decide) (by decide) ?_
    refine lv_aload_n hx hb dX1_told_119 rfl (lv_at hl 0 rfl) ?_
    refine va_get (D := (dC, dI)) (ci := 1) (v := .ref r1) (C := RX1) (T := TX1) (N := 6) hx hb hts hinX1 hown hK hP 0 rfl rfl 0 (by decide) (hts (.fieldLink RX1 10 "WrestleBook" "roster" "LWrestleBook$Roster;") (by decide +kernel)) (fun _ h9 => h9) rfl dX1_told_120 ?_
    refine lv_iload_n hx hb dX1_told_123 rfl (lv_at hl 1 rfl) ?_
    refine vp_callSi (W.runV (As := [.int (nI w)]) (rest := []) ⟨hx, hb, hml, hown, hts⟩ (c_X0_place l dC dI cI r1 d1 n F w (show w < n by omega) hn) (cwV 1 hts gX1_told_X0_place rfl rfl rfl (by decide +kernel) ⟨Nat.le_of_ble_eq_true rfl, Nat.le_of_ble_eq_true rfl⟩) ⟨PR.blind, va_recv hK hP (ci := 0) (q0 := 2) rfl rfl, fun U hU hW => ⟨rfl, PR.go (hP.sub (ws' := (wR r1 d1 cI n F)) [2, 3, 4, 5, 6, 7, 8, 9] rfl) hK hE hS hU hW⟩⟩ rfl rfl hl.1 rfl (lv_room (Nat.le_of_ble_eq_true rfl)) dX1_told_124 ⟨Nat.le_of_ble_eq_true rfl, Nat.le_of_ble_eq_true rfl⟩) (fun r hr0 => ?_)
    subst hr0
    exact W.iret (v := nI (s_place n F w)) hx hb hr (fun t ht hW => ⟨_, rfl, (show nI (s_place n F w) = s_told n F w (nI 7) from by rfl), ht⟩) hS.2.2 dX1_told_127
  · refine lv_tableIn (tgt := 128) (off := 122) hx hb dX1_told_6 (by decide) (by decide) (by decide) (by decide) ?_
    refine lv_aload_n hx hb dX1_told_128 rfl (lv_at hl 0 rfl) ?_
    refine va_get (D := (dC, dI)) (ci := 1) (v := .ref r1) (C := RX1) (T := TX1) (N := 6) hx hb hts hinX1 hown hK hP 0 rfl rfl 0 (by decide) (hts (.fieldLink RX1 10 "WrestleBook" "roster" "LWrestleBook$Roster;") (by decide +kernel)) (fun _ h9 => h9) rfl dX1_told_129 ?_
    refine lv_iload_n hx hb dX1_told_132 rfl (lv_at hl 1 rfl) ?_
    refine vp_callSi (W.runV (As := [.int (nI w)]) (rest := []) ⟨hx, hb, hml, hown, hts⟩ (c_X0_weight l dC dI cI r1 d1 n F w (show w < n by omega) hn) (cwV 1 hts gX1_told_X0_weight rfl rfl rfl (by decide +kernel) ⟨Nat.le_of_ble_eq_true rfl, Nat.le_of_ble_eq_true rfl⟩) ⟨PR.blind, va_recv hK hP (ci := 0) (q0 := 2) rfl rfl, fun U hU hW => ⟨rfl, PR.go (hP.sub (ws' := (wR r1 d1 cI n F)) [2, 3, 4, 5, 6, 7, 8, 9] rfl) hK hE hS hU hW⟩⟩ rfl rfl hl.1 rfl (lv_room (Nat.le_of_ble_eq_true rfl)) dX1_told_133 ⟨Nat.le_of_ble_eq_true rfl, Nat.le_of_ble_eq_true rfl⟩) (fun r hr0 => ?_)
    subst hr0
    exact W.iret (v := s_wt F w) hx hb hr (fun t ht hW => ⟨_, rfl, (show s_wt F w = s_told n F w (nI 8) from by rfl), ht⟩) hS.2.2 dX1_told_136

set_option maxHeartbeats 4000000 in
set_option maxRecDepth 100000 in
theorem c_X1_countK (l : Launch) (dC : Nat → ClassId) (dI : Nat → Nat → Nat) (cI : ClassId) (h r1 : Nat) (d1 : Nat → Nat) (r2 : Nat) (d2 : Nat → Nat) (rc : Nat) (n : Nat) (F : Nat → Nat → Int32) (n2 : Nat) (G : Nat → Nat → Int32) (ct ch : Nat → Int32) (k : Nat) (hk : k < 9) (hn : n ≤ 12) : Met l yX1_count wsX1_count ({ frames := 2, cells := 0, slots := 0, locals := 35 } : Room) (va_Pc [.ref h, .int (nI k)] (fun U => PR dC dI cI (wB h r1 d1 r2 d2 rc cI n F n2 G ct ch) U)) (vp_Si (fun r => r = s_cnt n F ct (nI k))) 0 0 (fun _ => False) := by
  refine Met.ofW (cc := cX1_count) (maxL := 2) (ret := (some .int)) (by decide) rfl ?_
  intro p e s m args below meth c s₁ B hml hv
  obtain ⟨rfl, hP, hK, hE⟩ := hv
  have hx := B.exec
  have hb := B.bytes
  have hr := B.returns
  have hts := atoms_spec (ws := wsX1_count) B.pre
  have hown : s.vm.findClass RX1 = some m.cls := findClass_of_methodNamed B.named
  have hlocks := B.notSynchronized
  have hS : va_S (fun _ => False) s.heap s.heap [] := va_S.rf
  have hinX1 : ∀ w ∈ wsX10, w ∈ wsX1_count := by decide +kernel
  have hthIOB : ∀ w ∈ (vx_atS RX1 125 "java/lang/IndexOutOfBoundsException" ["java/lang/RuntimeException", "java/lang/Exception"]).filter goodWord, w ∈ wsX1_count := by decide +kernel
  have hl := lv_entry ([.ref h, .int (nI k)]) (n := 2) (Nat.le_of_ble_eq_true rfl)
  rw [lg_entry_eq]
  generalize (lg_sl ([.ref h, .int (nI k)]) ++ List.replicate (2 - (lg_sl ([.ref h, .int (nI k)])).length) Slot.unset).toArray = ls at hl ⊢
  have hl : lv_has ls 2 [(0, .ref h), (1, .int (nI k))] := hl
  refine lv_iload_n hx hb dX1_count_0 rfl (lv_at hl 1 rfl) ?_
  rcases (show k = 0 ∨ k = 1 ∨ k = 2 ∨ k = 3 ∨ k = 4 ∨ k = 5 ∨ k = 6 ∨ k = 7 ∨ k = 8 by omega) with rfl | rfl | rfl | rfl | rfl | rfl | rfl | rfl | rfl
  · refine lv_tableIn (tgt := 52) (off := 51) hx hb dX1_count_1 (by decide) (by decide) (by decide) (by decide) ?_
    refine lv_aload_n hx hb dX1_count_52 rfl (lv_at hl 0 rfl) ?_
    refine va_get (D := (dC, dI)) (ci := 1) (v := .int (ct 0)) (C := RX1) (T := TX1) (N := 6) hx hb hts hinX1 hown hK hP 0 rfl rfl 3 (by decide) (hts (.fieldLink RX1 90 "WrestleBook" "season" "I") (by decide +kernel)) (fun _ h9 => h9) rfl dX1_count_53 ?_
    exact W.iret (v := ct 0) hx hb hr (fun t ht hW => ⟨_, rfl, (show ct 0 = s_cnt n F ct (nI 0) from by rfl), ht⟩) hS.2.2 dX1_count_56
  · refine lv_tableIn (tgt := 57) (off := 56) hx hb dX1_count_1 (by decide) (by decide) (by decide) (by decide) ?_
    refine lv_aload_n hx hb dX1_count_57 rfl (lv_at hl 0 rfl) ?_
    refine va_get (D := (dC, dI)) (ci := 1) (v := .ref r1) (C := RX1) (T := TX1) (N := 6) hx hb hts hinX1 hown hK hP 0 rfl rfl 0 (by decide) (hts (.fieldLink RX1 10 "WrestleBook" "roster" "LWrestleBook$Roster;") (by decide +kernel)) (fun _ h9 => h9) rfl dX1_count_58 ?_
    refine vp_callSi (W.runV (As := []) (rest := []) ⟨hx, hb, hml, hown, hts⟩ (c_X0_size l dC dI cI r1 d1 n F) (cwV 0 hts gX1_count_X0_size rfl rfl rfl (by decide +kernel) ⟨Nat.le_of_ble_eq_true rfl, Nat.le_of_ble_eq_true rfl⟩) ⟨PR.blind, va_recv hK hP (ci := 0) (q0 := 2) rfl rfl, fun U hU hW => ⟨rfl, PR.go (hP.sub (ws' := (wR r1 d1 cI n F)) [2, 3, 4, 5, 6, 7, 8, 9] rfl) hK hE hS hU hW⟩⟩ rfl rfl hl.1 rfl (lv_room (Nat.le_of_ble_eq_true rfl)) dX1_count_61 ⟨Nat.le_of_ble_eq_true rfl, Nat.le_of_ble_eq_true rfl⟩) (fun r hr0 => ?_)
    subst hr0
    exact W.iret (v := nI n) hx hb hr (fun t ht hW => ⟨_, rfl, (show nI n = s_cnt n F ct (nI 1) from by rfl), ht⟩) hS.2.2 dX1_count_64
  · refine lv_tableIn (tgt := 65) (off := 64) hx hb dX1_count_1 (by decide) (by decide) (by decide) (by decide) ?_
    refine lv_aload_n hx hb dX1_count_65 rfl (lv_at hl 0 rfl) ?_
    refine va_get (D := (dC, dI)) (ci := 1) (v := .int (ct 1)) (C := RX1) (T := TX1) (N := 6) hx hb hts hinX1 hown hK hP 0 rfl rfl 4 (by decide) (hts (.fieldLink RX1 74 "WrestleBook" "boutsHeld" "I") (by decide +kernel)) (fun _ h9 => h9) rfl dX1_count_66 ?_
    exact W.iret (v := ct 1) hx hb hr (fun t ht hW => ⟨_, rfl, (show ct 1 = s_cnt n F ct (nI 2) from by rfl), ht⟩) hS.2.2 dX1_count_69
  · refine lv_tableIn (tgt := 70) (off := 69) hx hb dX1_count_1 (by decide) (by decide) (by decide) (by decide) ?_
    refine lv_aload_n hx hb dX1_count_70 rfl (lv_at hl 0 rfl) ?_
    refine va_get (D := (dC, dI)) (ci := 1) (v := .int (ct 2)) (C := RX1) (T := TX1) (N := 6) hx hb hts hinX1 hown hK hP 0 rfl rfl 5 (by decide) (hts (.fieldLink RX1 70 "WrestleBook" "upsets" "I") (by decide +kernel)) (fun _ h9 => h9) rfl dX1_count_71 ?_
    exact W.iret (v := ct 2) hx hb hr (fun t ht hW => ⟨_, rfl, (show ct 2 = s_cnt n F ct (nI 3) from by rfl), ht⟩) hS.2.2 dX1_count_74
  · refine lv_tableIn (tgt := 75) (off := 74) hx hb dX1_count_1 (by decide) (by decide) (by decide) (by decide) ?_
    refine lv_aload_n hx hb dX1_count_75 rfl (lv_at hl 0 rfl) ?_
    refine va_get (D := (dC, dI)) (ci := 1) (v := .ref r1) (C := RX1) (T := TX1) (N := 6) hx hb hts hinX1 hown hK hP 0 rfl rfl 0 (by decide) (hts (.fieldLink RX1 10 "WrestleBook" "roster" "LWrestleBook$Roster;") (by decide +kernel)) (fun _ h9 => h9) rfl dX1_count_76 ?_
    refine lv_iload_n hx hb dX1_count_79 rfl (lv_at hl 1 rfl) ?_
    refine lv_iconst (v := 4) hx hb dX1_count_80 (by decide) ?_
    refine lv_isub hx hb dX1_count_81 ?_
    refine vp_callSi (W.runV (As := [.int (4 - 4)]) (rest := []) ⟨hx, hb, hml, hown, hts⟩ (c_X0_sizeOf l dC dI cI r1 d1 n F (4 - 4) hn) (cwV 1 hts gX1_count_X0_sizeOf rfl rfl rfl (by decide +kernel) ⟨Nat.le_of_ble_eq_true rfl, Nat.le_of_ble_eq_true rfl⟩) ⟨PR.blind, va_recv hK hP (ci := 0) (q0 := 2) rfl rfl, fun U hU hW => ⟨rfl, PR.go (hP.sub (ws' := (wR r1 d1 cI n F)) [2, 3, 4, 5, 6, 7, 8, 9] rfl) hK hE hS hU hW⟩⟩ rfl rfl hl.1 rfl (lv_room (Nat.le_of_ble_eq_true rfl)) dX1_count_82 ⟨Nat.le_of_ble_eq_true rfl, Nat.le_of_ble_eq_true rfl⟩) (fun r hr0 => ?_)
    subst hr0
    exact W.iret (v := nI (s_many n F (4 - 4))) hx hb hr (fun t ht hW => ⟨_, rfl, (show nI (s_many n F (4 - 4)) = s_cnt n F ct (nI 4) from by rfl), ht⟩) hS.2.2 dX1_count_85
  · refine lv_tableIn (tgt := 75) (off := 74) hx hb dX1_count_1 (by decide) (by decide) (by decide) (by decide) ?_
    refine lv_aload_n hx hb dX1_count_75 rfl (lv_at hl 0 rfl) ?_
    refine va_get (D := (dC, dI)) (ci := 1) (v := .ref r1) (C := RX1) (T := TX1) (N := 6) hx hb hts hinX1 hown hK hP 0 rfl rfl 0 (by decide) (hts (.fieldLink RX1 10 "WrestleBook" "roster" "LWrestleBook$Roster;") (by decide +kernel)) (fun _ h9 => h9) rfl dX1_count_76 ?_
    refine lv_iload_n hx hb dX1_count_79 rfl (lv_at hl 1 rfl) ?_
    refine lv_iconst (v := 4) hx hb dX1_count_80 (by decide) ?_
    refine lv_isub hx hb dX1_count_81 ?_
    refine vp_callSi (W.runV (As := [.int (5 - 4)]) (rest := []) ⟨hx, hb, hml, hown, hts⟩ (c_X0_sizeOf l dC dI cI r1 d1 n F (5 - 4) hn) (cwV 1 hts gX1_count_X0_sizeOf rfl rfl rfl (by decide +kernel) ⟨Nat.le_of_ble_eq_true rfl, Nat.le_of_ble_eq_true rfl⟩) ⟨PR.blind, va_recv hK hP (ci := 0) (q0 := 2) rfl rfl, fun U hU hW => ⟨rfl, PR.go (hP.sub (ws' := (wR r1 d1 cI n F)) [2, 3, 4, 5, 6, 7, 8, 9] rfl) hK hE hS hU hW⟩⟩ rfl rfl hl.1 rfl (lv_room (Nat.le_of_ble_eq_true rfl)) dX1_count_82 ⟨Nat.le_of_ble_eq_true rfl, Nat.le_of_ble_eq_true rfl⟩) (fun r hr0 => ?_)
    subst hr0
    exact W.iret (v := nI (s_many n F (5 - 4))) hx hb hr (fun t ht hW => ⟨_, rfl, (show nI (s_many n F (5 - 4)) = s_cnt n F ct (nI 5) from by rfl), ht⟩) hS.2.2 dX1_count_85
  · refine lv_tableIn (tgt := 75) (off := 74) hx hb dX1_count_1 (by decide) (by decide) (by decide) (by decide) ?_
    refine lv_aload_n hx hb dX1_count_75 rfl (lv_at hl 0 rfl) ?_
    refine va_get (D := (dC, dI)) (ci := 1) (v := .ref r1) (C := RX1) (T := TX1) (N := 6) hx hb hts hinX1 hown hK hP 0 rfl rfl 0 (by decide) (hts (.fieldLink RX1 10 "WrestleBook" "roster" "LWrestleBook$Roster;") (by decide +kernel)) (fun _ h9 => h9) rfl dX1_count_76 ?_
    refine lv_iload_n hx hb dX1_count_79 rfl (lv_at hl 1 rfl) ?_
    refine lv_iconst (v := 4) hx hb dX1_count_80 (by decide) ?_
    refine lv_isub hx hb dX1_count_81 ?_
    refine vp_callSi (W.runV (As := [.int (6 - 4)]) (rest := []) ⟨hx, hb, hml, hown, hts⟩ (c_X0_sizeOf l dC dI cI r1 d1 n F (6 - 4) hn) (cwV 1 hts gX1_count_X0_sizeOf rfl rfl rfl (by decide +kernel) ⟨Nat.le_of_ble_eq_true rfl, Nat.le_of_ble_eq_true rfl⟩) ⟨PR.blind, va_recv hK hP (ci := 0) (q0 := 2) rfl rfl, fun U hU hW => ⟨rfl, PR.go (hP.sub (ws' := (wR r1 d1 cI n F)) [2, 3, 4, 5, 6, 7, 8, 9] rfl) hK hE hS hU hW⟩⟩ rfl rfl hl.1 rfl (lv_room (Nat.le_of_ble_eq_true rfl)) dX1_count_82 ⟨Nat.le_of_ble_eq_true rfl, Nat.le_of_ble_eq_true rfl⟩) (fun r hr0 => ?_)
    subst hr0
    exact W.iret (v := nI (s_many n F (6 - 4))) hx hb hr (fun t ht hW => ⟨_, rfl, (show nI (s_many n F (6 - 4)) = s_cnt n F ct (nI 6) from by rfl), ht⟩) hS.2.2 dX1_count_85
  · refine lv_tableIn (tgt := 86) (off := 85) hx hb dX1_count_1 (by decide) (by decide) (by decide) (by decide) ?_
    refine lv_aload_n hx hb dX1_count_86 rfl (lv_at hl 0 rfl) ?_
    refine va_get (D := (dC, dI)) (ci := 1) (v := .ref r1) (C := RX1) (T := TX1) (N := 6) hx hb hts hinX1 hown hK hP 0 rfl rfl 0 (by decide) (hts (.fieldLink RX1 10 "WrestleBook" "roster" "LWrestleBook$Roster;") (by decide +kernel)) (fun _ h9 => h9) rfl dX1_count_87 ?_
    refine vp_callSi (W.runV (As := []) (rest := []) ⟨hx, hb, hml, hown, hts⟩ (c_X0_highest l dC dI cI r1 d1 n F hn) (cwV 0 hts gX1_count_X0_highest rfl rfl rfl (by decide +kernel) ⟨Nat.le_of_ble_eq_true rfl, Nat.le_of_ble_eq_true rfl⟩) ⟨PR.blind, va_recv hK hP (ci := 0) (q0 := 2) rfl rfl, fun U hU hW => ⟨rfl, PR.go (hP.sub (ws' := (wR r1 d1 cI n F)) [2, 3, 4, 5, 6, 7, 8, 9] rfl) hK hE hS hU hW⟩⟩ rfl rfl hl.1 rfl (lv_room (Nat.le_of_ble_eq_true rfl)) dX1_count_90 ⟨Nat.le_of_ble_eq_true rfl, Nat.le_of_ble_eq_true rfl⟩) (fun r hr0 => ?_)
    subst hr0
    exact W.iret (v := s_hi n F) hx hb hr (fun t ht hW => ⟨_, rfl, (show s_hi n F = s_cnt n F ct (nI 7) from by rfl), ht⟩) hS.2.2 dX1_count_93
  · refine lv_tableIn (tgt := 94) (off := 93) hx hb dX1_count_1 (by decide) (by decide) (by decide) (by decide) ?_
    refine lv_aload_n hx hb dX1_count_94 rfl (lv_at hl 0 rfl) ?_
    refine va_get (D := (dC, dI)) (ci := 1) (v := .ref r1) (C := RX1) (T := TX1) (N := 6) hx hb hts hinX1 hown hK hP 0 rfl rfl 0 (by decide) (hts (.fieldLink RX1 10 "WrestleBook" "roster" "LWrestleBook$Roster;") (by decide +kernel)) (fun _ h9 => h9) rfl dX1_count_95 ?_
    refine vp_callSi (W.runV (As := []) (rest := []) ⟨hx, hb, hml, hown, hts⟩ (c_X0_lowest l dC dI cI r1 d1 n F hn) (cwV 0 hts gX1_count_X0_lowest rfl rfl rfl (by decide +kernel) ⟨Nat.le_of_ble_eq_true rfl, Nat.le_of_ble_eq_true rfl⟩) ⟨PR.blind, va_recv hK hP (ci := 0) (q0 := 2) rfl rfl, fun U hU hW => ⟨rfl, PR.go (hP.sub (ws' := (wR r1 d1 cI n F)) [2, 3, 4, 5, 6, 7, 8, 9] rfl) hK hE hS hU hW⟩⟩ rfl rfl hl.1 rfl (lv_room (Nat.le_of_ble_eq_true rfl)) dX1_count_98 ⟨Nat.le_of_ble_eq_true rfl, Nat.le_of_ble_eq_true rfl⟩) (fun r hr0 => ?_)
    subst hr0
    exact W.iret (v := s_lo n F) hx hb hr (fun t ht hW => ⟨_, rfl, (show s_lo n F = s_cnt n F ct (nI 8) from by rfl), ht⟩) hS.2.2 dX1_count_101
