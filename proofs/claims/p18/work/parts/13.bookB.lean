/-! WrestleBook, writers -/
def s_fillU (r : Nat → Int32) (m : Nat) : Nat → Int32 := fo (fun j r => upd r j 1000000) r m
def s_chI (e : Int32) (r : Nat → Int32) (m : Nat) : Nat → Int32 := fo (fun j r => if 1 ≤ j then upd r j ((e * r j + (1000 - e) * r (j - 1)) / 1000) else r) r m
def s_chU (e : Int32) (k : Nat) (r : Nat → Int32) (m : Nat) : Nat → Int32 := fo (fun i r => if 1 ≤ i then s_chI e (upd r 0 0) (k + 1) else r) r m
def s_chR (e : Int32) (k : Nat) (r : Nat → Int32) : Nat → Int32 := s_chU e k (s_fillU r (k + 1)) (k + 1)
theorem rngI {x lo hi : Int32} {u v : Nat} (h1 : ¬ x < lo) (h2 : x ≤ hi) (hu : lo = nI u) (hv : hi = nI v) (huv : v < 2 ^ 31) (hu2 : u < 2 ^ 31) : ∃ k : Nat, u ≤ k ∧ k ≤ v ∧ x = nI k := by
  subst hu; subst hv
  have h0 : ¬ x < 0 := by
    intro q
    have a1 := Int32.lt_iff_toInt_lt.mp q
    have a2 := Int32.le_iff_toInt_le.mp (Int32.not_lt.mp h1)
    rw [nI_toInt hu2] at a2
    have z : (0 : Int32).toInt = 0 := rfl
    rw [z] at a1
    omega
  obtain ⟨j, hj, rfl⟩ := nI_of h0
  exact ⟨j, Nat.le_of_not_lt (fun q => h1 ((nI_ltI hj hu2).mpr q)), (nI_leI hj huv).mp h2, rfl⟩
theorem s_ct_no {ct : Nat → Int32} {F : Nat → Nat → Int32} {a b q : Nat} (h : s_up F a b (nI q) = false) : s_ct ct F a b q = upd ct 1 (ct 1 + 1) := by
  unfold s_ct; rw [h, show upd ct 2 (ct 2 + bI false) = ct from upd_0 ct 2]
set_option maxHeartbeats 4000000 in
set_option maxRecDepth 100000 in
theorem c_X1_join (l : Launch) (hl0 : l.stackTraces = false) (dC : Nat → ClassId) (dI : Nat → Nat → Nat) (cI : ClassId) (h r1 : Nat) (d1 : Nat → Nat) (r2 : Nat) (d2 : Nat → Nat) (rc : Nat) (n : Nat) (F : Nat → Nat → Int32) (n2 : Nat) (G : Nat → Nat → Int32) (ct ch : Nat → Int32) (sz : Nat) (vg : Int32) (hn : n ≤ 12) : vx_Met l yX1_join wsX1_join ({ frames := 6, cells := 1, slots := 6, locals := 82 } : Room) (va_Pc [.ref h, .int vg] (fun U => PW dC dI cI (wB h r1 d1 r2 d2 rc cI n F n2 G ct ch) sz U)) (va_Qi (fun r (_ : Unit) => x_join n vg = 0 ∧ r = nI n) (BW dC dI (va_A (wB h r1 d1 r2 d2 rc cI n F n2 G ct ch) sz) (wB h r1 d1 r2 d2 rc cI (n + 1) (s_add F n vg) n2 G ct ch)) (va_A (wB h r1 d1 r2 d2 rc cI n F n2 G ct ch) sz)) (vx_X (fun (_ : Unit) => True) (fun E _ t => exE ["java/lang/IllegalArgumentException", "java/lang/IllegalStateException"] (x_join n vg) E ∧ va_P (dC, dI) vwCl (wB h r1 d1 r2 d2 rc cI n F n2 G ct ch) t.heap ∧ va_D (va_A (wB h r1 d1 r2 d2 rc cI n F n2 G ct ch) sz) (wB h r1 d1 r2 d2 rc cI n F n2 G ct ch)) (va_A (wB h r1 d1 r2 d2 rc cI n F n2 G ct ch) sz)) 1 6 (va_A (wB h r1 d1 r2 d2 rc cI n F n2 G ct ch) sz) := by
  refine vx_ofW (cc := cX1_join) (maxL := 2) (ret := (some .int)) (by decide) rfl ?_
  intro p e s m args below meth c s₁ B hml htab hv
  obtain ⟨rfl, hsz, hP, hK, hD0, hE⟩ := hv
  have hx := B.exec
  have hb := B.bytes
  have hr := B.returns
  have hts := atoms_spec (ws := wsX1_join) B.pre
  have hown : s.vm.findClass RX1 = some m.cls := findClass_of_methodNamed B.named
  have hlocks := B.notSynchronized
  subst hsz
  have hD := hD0.self (sz := s.heap.size)
  generalize hAe : va_A (wB h r1 d1 r2 d2 rc cI n F n2 G ct ch) s.heap.size = A at hD hE ⊢
  have hA : ∀ q : Nat, s.heap.size ≤ q → A q := fun q h9 => by rw [← hAe]; exact Or.inr h9
  have hS : va_S A s.heap s.heap [] := va_S.rf
  have hinX1 : ∀ w ∈ wsX10, w ∈ wsX1_join := by decide +kernel
  have hthIAE : ∀ w ∈ (vx_atS RX1 31 "java/lang/IllegalArgumentException" ["java/lang/RuntimeException", "java/lang/Exception"]).filter goodWord, w ∈ wsX1_join := by decide +kernel
  have hthISE : ∀ w ∈ (vx_atS RX1 42 "java/lang/IllegalStateException" ["java/lang/RuntimeException", "java/lang/Exception"]).filter goodWord, w ∈ wsX1_join := by decide +kernel
  have hl := lv_entry ([.ref h, .int vg]) (n := 2) (Nat.le_of_ble_eq_true rfl)
  rw [lg_entry_eq]
  generalize (lg_sl ([.ref h, .int vg]) ++ List.replicate (2 - (lg_sl ([.ref h, .int vg])).length) Slot.unset).toArray = ls at hl ⊢
  have hl : lv_has ls 2 [(0, .ref h), (1, .int vg)] := hl
  refine lv_iload_n hx hb dX1_join_0 rfl (lv_at hl 1 rfl) ?_
  refine vp_callSi (W.runS (As := [.int vg]) (rest := []) ⟨hx, hb, hml, hown, hts⟩ (c_X1_isLeague l dC dI cI vg) (va_cwS 1 hts gX1_join_X1_isLeague rfl rfl rfl (by decide +kernel) ⟨Nat.le_of_ble_eq_true rfl, Nat.le_of_ble_eq_true rfl⟩) ⟨PR.blind, fun U hU hW => ⟨rfl, PR.go (vaP_nil) hK hE hS hU hW⟩⟩ rfl rfl hl.1 rfl (lv_room (Nat.le_of_ble_eq_true rfl)) dX1_join_1 ⟨Nat.le_of_ble_eq_true rfl, Nat.le_of_ble_eq_true rfl⟩) (fun r hr0 => ?_)
  subst hr0
  refine rv_ifb_ne (tgt := 17) hx hb dX1_join_4 (by decide) (fun c_4 => ?_) (fun c_4 => ?_)
  · refine lv_aload_n hx hb dX1_join_17 rfl (lv_at hl 0 rfl) ?_
    refine va_get (D := (dC, dI)) (ci := 1) (v := .ref r1) (C := RX1) (T := TX1) (N := 6) hx hb hts hinX1 hown hK hP 0 rfl rfl 0 (by decide) (hts (.fieldLink RX1 10 "WrestleBook" "roster" "LWrestleBook$Roster;") (by decide +kernel)) (fun _ h9 => h9) rfl dX1_join_18 ?_
    refine vp_callSi (W.runV (As := []) (rest := []) ⟨hx, hb, hml, hown, hts⟩ (c_X0_isFull l dC dI cI r1 d1 n F hn) (cwV 0 hts gX1_join_X0_isFull rfl rfl rfl (by decide +kernel) ⟨Nat.le_of_ble_eq_true rfl, Nat.le_of_ble_eq_true rfl⟩) ⟨PR.blind, va_recv hK hP (ci := 0) (q0 := 2) rfl rfl, fun U hU hW => ⟨rfl, PR.go (hP.sub (ws' := (wR r1 d1 cI n F)) [2, 3, 4, 5, 6, 7, 8, 9] rfl) hK hE hS hU hW⟩⟩ rfl rfl hl.1 rfl (lv_room (Nat.le_of_ble_eq_true rfl)) dX1_join_21 ⟨Nat.le_of_ble_eq_true rfl, Nat.le_of_ble_eq_true rfl⟩) (fun r hr0 => ?_)
    subst hr0
    refine rv_ifb_eq (tgt := 37) hx hb dX1_join_24 (by decide) (fun c_24 => ?_) (fun c_24 => ?_)
    · have hnf : n < 12 := by simpa using c_24
      refine lv_aload_n hx hb dX1_join_37 rfl (lv_at hl 0 rfl) ?_
      refine va_get (D := (dC, dI)) (ci := 1) (v := .ref r1) (C := RX1) (T := TX1) (N := 6) hx hb hts hinX1 hown hK hP 0 rfl rfl 0 (by decide) (hts (.fieldLink RX1 10 "WrestleBook" "roster" "LWrestleBook$Roster;") (by decide +kernel)) (fun _ h9 => h9) rfl dX1_join_38 ?_
      refine lv_iload_n hx hb dX1_join_41 rfl (lv_at hl 1 rfl) ?_
      have hPc := hP.sub (ws' := (wR r1 d1 cI n F)) [2, 3, 4, 5, 6, 7, 8, 9] rfl
      have hDc := hD.sub (ws' := (wR r1 d1 cI n F)) [2, 3, 4, 5, 6, 7, 8, 9] (by decide) rfl
      have hFc := va_free (wc := (wR r1 d1 cI n F)) hD hS hA [2, 3, 4, 5, 6, 7, 8, 9] rfl
      refine va_calli (va_runV (As := [.int vg]) (rest := []) ⟨hx, hb, hml, hown, hts⟩ (c_X0_add l dC dI cI r1 d1 n F s.heap.size hnf vg) (cwV 1 hts gX1_join_X0_add rfl rfl rfl (by decide +kernel) ⟨Nat.le_of_ble_eq_true rfl, Nat.le_of_ble_eq_true rfl⟩) ⟨PW.blind, va_recv hK hP (ci := 0) (q0 := 2) rfl rfl, fun U hU hW => ⟨rfl, PW.go hPc hK hDc hE hS hFc hU hW⟩⟩ rfl rfl hl.1 rfl (lv_room (Nat.le_of_ble_eq_true rfl)) dX1_join_42 ⟨Nat.le_of_ble_eq_true rfl, Nat.le_of_ble_eq_true rfl⟩) hS (fun q _ h9 => hFc q h9) hFc (fun r u9 t9 H1 locs ht9 hvm9 hw9 hB9 hz9 hk9 hS => ?_)
      obtain ⟨hP9, hD9⟩ := hB9
      rw [ht9] at hP9
      obtain ⟨hP, hD⟩ := va_join (wr := ([(h, .inr (1, [.ref r1, .ref r2, .ref rc, .int (ct 0), .int (ct 1), .int (ct 2)])), (rc, .inl (cI, 10, .inl (ch))), (r2, .inr (0, [.ref (d2 0), .ref (d2 1), .ref (d2 2), .ref (d2 3), .ref (d2 4), .ref (d2 5), .ref (d2 6), .int (nI n2)])), (d2 0, .inl (cI, 12, .inl (G 0))), (d2 1, .inl (cI, 12, .inl (G 1))), (d2 2, .inl (cI, 12, .inl (G 2))), (d2 3, .inl (cI, 12, .inl (G 3))), (d2 4, .inl (cI, 12, .inl (G 4))), (d2 5, .inl (cI, 12, .inl (G 5))), (d2 6, .inl (cI, 12, .inl (G 6)))] : va_W)) (w1 := wR r1 d1 cI (n + 1) (s_add F n vg)) hP hD [2, 3, 4, 5, 6, 7, 8, 9] [0, 1, 10, 11, 12, 13, 14, 15, 16, 17] rfl rfl (by decide) (by decide) hk9 hFc hP9 hD9
      generalize H1 = H at hP hS ⊢
      have hP := hP.sub (ws' := wB h r1 d1 r2 d2 rc cI (n + 1) (s_add F n vg) n2 G ct ch) [0, 1, 10, 11, 12, 13, 14, 15, 16, 17, 2, 3, 4, 5, 6, 7, 8, 9] rfl
      have hD := hD.sub (ws' := wB h r1 d1 r2 d2 rc cI (n + 1) (s_add F n vg) n2 G ct ch) [0, 1, 10, 11, 12, 13, 14, 15, 16, 17, 2, 3, 4, 5, 6, 7, 8, 9] (by decide) rfl
      have hP : va_P (dC, dI) vwCl (wB h r1 d1 r2 d2 rc cI (n + 1) (s_add F n vg) n2 G ct ch) H := hP
      have hD : va_D A (wB h r1 d1 r2 d2 rc cI (n + 1) (s_add F n vg) n2 G ct ch) := hD
      have hw9 : r = nI n := hw9
      subst hw9
      refine vx_ret ?_
      refine W.widen (k := 1) (n := 6) (Nat.le_of_ble_eq_true rfl) (Nat.le_of_ble_eq_true rfl) ?_
      have hP8 : va_P (dC, dI) vwCl (wB h r1 d1 r2 d2 rc cI (n + 1) (s_add F n vg) n2 G ct ch) H := hP
      have hD8 : va_D A (wB h r1 d1 r2 d2 rc cI (n + 1) (s_add F n vg) n2 G ct ch) := hD
      exact W.iret (v := nI n) hx hb hr (fun t ht hW => ⟨⟨_, (), rfl, ⟨(show x_join n vg = 0 from by simp [x_join, c_4, hnf]), (show nI n = nI n from by rfl)⟩, by rw [ht]; exact hP8, hD8⟩, hS.F ht⟩) hS.2.2 dX1_join_45
    · have hnf : ¬ n < 12 := by simpa using c_24
      obtain ⟨sa, hstr⟩ := hE.2.2.2.1 (40, "the book is full") (by decide +kernel)
      exact vx_throwS (names := ["java/lang/RuntimeException", "java/lang/Exception"]) hx hb hl0 hown (by decide +kernel) (by decide +kernel) (hts (.classLink RX1 38 "java/lang/IllegalStateException") (by decide +kernel)) (hts (.initialized "java/lang/IllegalStateException") (by decide +kernel)) hstr (vx_hat (B := [.castable "java/lang/IllegalStateException" "java/lang/IllegalStateException", .declares (Bundle.initS "java/lang/RuntimeException"), .declares (Bundle.initS "java/lang/Exception"), .declares (Bundle.initS Bundle.tN)]) (fun w h9 => hts w (hthISE w h9)) tnISE (vx_c (va_Nw.use rfl (hE.2.2.1 (.castable "java/lang/IllegalStateException" "java/lang/IllegalStateException") (by decide +kernel))) (vx_c (va_Nw.use rfl (hE.2.2.1 (.declares (Bundle.initS "java/lang/RuntimeException")) (by decide +kernel))) (vx_c (va_Nw.use rfl (hE.2.2.1 (.declares (Bundle.initS "java/lang/Exception")) (by decide +kernel))) (vx_c (va_Nw.use rfl (hE.2.2.1 (.declares (Bundle.initS Bundle.tN)) (by decide +kernel))) vx_n))))) tgISE hE.2.2.2.2.1 hE.2.2.2.2.2 hS (hl.1.trans hml.symm) dX1_join_27 dX1_join_30 dX1_join_31 dX1_join_33 dX1_join_36 (fun x9 h9 => (htab x9 h9).elim) (Nat.le_of_ble_eq_true rfl) (Nat.le_of_ble_eq_true rfl) (Nat.le_of_ble_eq_true rfl) (Nat.le_of_ble_eq_true rfl) hlocks (fun t8 hal8 hz8 hk8 => ⟨(), trivial, ⟨(show exE ["java/lang/IllegalArgumentException", "java/lang/IllegalStateException"] (x_join n vg) "java/lang/IllegalStateException" from by simp [exE, x_join, c_4, hnf]), fun k8 q8 hq8 => (hP k8 q8 hq8).kept (hk8 q8.1 (hP k8 q8 hq8).lt), hD⟩, ⟨hz8, fun q8 h8 _ => hk8 q8 h8⟩⟩) hS.2.2 (Nat.le_of_ble_eq_true rfl) (Nat.le_of_ble_eq_true rfl)
  · obtain ⟨sa, hstr⟩ := hE.2.2.2.1 (29, "no such league") (by decide +kernel)
    exact vx_throwS (names := ["java/lang/RuntimeException", "java/lang/Exception"]) hx hb hl0 hown (by decide +kernel) (by decide +kernel) (hts (.classLink RX1 27 "java/lang/IllegalArgumentException") (by decide +kernel)) (hts (.initialized "java/lang/IllegalArgumentException") (by decide +kernel)) hstr (vx_hat (B := [.castable "java/lang/IllegalArgumentException" "java/lang/IllegalArgumentException", .declares (Bundle.initS "java/lang/RuntimeException"), .declares (Bundle.initS "java/lang/Exception"), .declares (Bundle.initS Bundle.tN)]) (fun w h9 => hts w (hthIAE w h9)) tnIAE (vx_c (va_Nw.use rfl (hE.2.2.1 (.castable "java/lang/IllegalArgumentException" "java/lang/IllegalArgumentException") (by decide +kernel))) (vx_c (va_Nw.use rfl (hE.2.2.1 (.declares (Bundle.initS "java/lang/RuntimeException")) (by decide +kernel))) (vx_c (va_Nw.use rfl (hE.2.2.1 (.declares (Bundle.initS "java/lang/Exception")) (by decide +kernel))) (vx_c (va_Nw.use rfl (hE.2.2.1 (.declares (Bundle.initS Bundle.tN)) (by decide +kernel))) vx_n))))) tgIAE hE.2.2.2.2.1 hE.2.2.2.2.2 hS (hl.1.trans hml.symm) dX1_join_7 dX1_join_10 dX1_join_11 dX1_join_13 dX1_join_16 (fun x9 h9 => (htab x9 h9).elim) (Nat.le_of_ble_eq_true rfl) (Nat.le_of_ble_eq_true rfl) (Nat.le_of_ble_eq_true rfl) (Nat.le_of_ble_eq_true rfl) hlocks (fun t8 hal8 hz8 hk8 => ⟨(), trivial, ⟨(show exE ["java/lang/IllegalArgumentException", "java/lang/IllegalStateException"] (x_join n vg) "java/lang/IllegalArgumentException" from by simp [exE, x_join, c_4]), fun k8 q8 hq8 => (hP k8 q8 hq8).kept (hk8 q8.1 (hP k8 q8 hq8).lt), hD⟩, ⟨hz8, fun q8 h8 _ => hk8 q8 h8⟩⟩) hS.2.2 (Nat.le_of_ble_eq_true rfl) (Nat.le_of_ble_eq_true rfl)

set_option maxHeartbeats 4000000 in
set_option maxRecDepth 100000 in
theorem c_X1_rate (l : Launch) (hl0 : l.stackTraces = false) (dC : Nat → ClassId) (dI : Nat → Nat → Nat) (cI : ClassId) (h r1 : Nat) (d1 : Nat → Nat) (r2 : Nat) (d2 : Nat → Nat) (rc : Nat) (n : Nat) (F : Nat → Nat → Int32) (n2 : Nat) (G : Nat → Nat → Int32) (ct ch : Nat → Int32) (sz : Nat) (va : Int32) (vx : Int32) (hn : n ≤ 12) : vx_Met l yX1_rate wsX1_rate ({ frames := 7, cells := 2, slots := 12, locals := 103 } : Room) (va_Pc [.ref h, .int va, .int vx] (fun U => PW dC dI cI (wB h r1 d1 r2 d2 rc cI n F n2 G ct ch) sz U)) (va_Qi (fun r (_ : Unit) => x_rate n va vx = 0 ∧ r = F 1 (cl va)) (BW dC dI (va_A (wB h r1 d1 r2 d2 rc cI n F n2 G ct ch) sz) (wB h r1 d1 r2 d2 rc cI n (s_set F (cl va) vx) n2 G ct ch)) (va_A (wB h r1 d1 r2 d2 rc cI n F n2 G ct ch) sz)) (vx_X (fun (_ : Unit) => True) (fun E _ t => exE ["java/lang/IndexOutOfBoundsException", "java/lang/IllegalArgumentException"] (x_rate n va vx) E ∧ va_P (dC, dI) vwCl (wB h r1 d1 r2 d2 rc cI n F n2 G ct ch) t.heap ∧ va_D (va_A (wB h r1 d1 r2 d2 rc cI n F n2 G ct ch) sz) (wB h r1 d1 r2 d2 rc cI n F n2 G ct ch)) (va_A (wB h r1 d1 r2 d2 rc cI n F n2 G ct ch) sz)) 2 12 (va_A (wB h r1 d1 r2 d2 rc cI n F n2 G ct ch) sz) := by
  refine vx_ofW (cc := cX1_rate) (maxL := 4) (ret := (some .int)) (by decide) rfl ?_
  intro p e s m args below meth c s₁ B hml htab hv
  obtain ⟨rfl, hsz, hP, hK, hD0, hE⟩ := hv
  have hx := B.exec
  have hb := B.bytes
  have hr := B.returns
  have hts := atoms_spec (ws := wsX1_rate) B.pre
  have hown : s.vm.findClass RX1 = some m.cls := findClass_of_methodNamed B.named
  have hlocks := B.notSynchronized
  subst hsz
  have hD := hD0.self (sz := s.heap.size)
  generalize hAe : va_A (wB h r1 d1 r2 d2 rc cI n F n2 G ct ch) s.heap.size = A at hD hE ⊢
  have hA : ∀ q : Nat, s.heap.size ≤ q → A q := fun q h9 => by rw [← hAe]; exact Or.inr h9
  have hS : va_S A s.heap s.heap [] := va_S.rf
  have hinX1 : ∀ w ∈ wsX10, w ∈ wsX1_rate := by decide +kernel
  have hthIAE : ∀ w ∈ (vx_atS RX1 31 "java/lang/IllegalArgumentException" ["java/lang/RuntimeException", "java/lang/Exception"]).filter goodWord, w ∈ wsX1_rate := by decide +kernel
  have hl := lv_entry ([.ref h, .int va, .int vx]) (n := 4) (Nat.le_of_ble_eq_true rfl)
  rw [lg_entry_eq]
  generalize (lg_sl ([.ref h, .int va, .int vx]) ++ List.replicate (4 - (lg_sl ([.ref h, .int va, .int vx])).length) Slot.unset).toArray = ls at hl ⊢
  have hl : lv_has ls 4 [(0, .ref h), (1, .int va), (2, .int vx)] := hl
  refine lv_aload_n hx hb dX1_rate_0 rfl (lv_at hl 0 rfl) ?_
  refine lv_iload_n hx hb dX1_rate_1 rfl (lv_at hl 1 rfl) ?_
  refine vx_callv (vx_runV (As := [.int va]) (rest := []) ⟨hx, hb, hml, hown, hts⟩ (c_X1_checkWrestler l hl0 dC dI cI h r1 d1 r2 d2 rc n F n2 G ct ch s.heap va hn) (cwV 1 hts gX1_rate_X1_checkWrestler rfl rfl rfl (by decide +kernel) ⟨Nat.le_of_ble_eq_true rfl, Nat.le_of_ble_eq_true rfl⟩) ⟨PRX.blind, va_recv hK hP (ci := 1) (q0 := 0) rfl rfl, fun U hU hW => ⟨rfl, hU, PR.go hP hK hE hS hU hW⟩⟩ rfl rfl hl.1 rfl (lv_room (Nat.le_of_ble_eq_true rfl)) dX1_rate_2 ⟨Nat.le_of_ble_eq_true rfl, Nat.le_of_ble_eq_true rfl⟩) hS (fun q _ h9 => h9.elim) (fun q h9 => h9.elim) (fun q _ h9 => h9.elim) (fun E9 ce9 q9 u9 t9 H1 locs9 ht9 hvm9 hw9 hB9 hz9 hk9 hS9 hce9 hcv9 hcl9 => vx_out (fun x9 h9 => (htab x9 h9).elim) hlocks hce9 hcv9 hcl9 (fun t8 ht8 hal8 => ⟨(), trivial, ⟨(show exE ["java/lang/IndexOutOfBoundsException", "java/lang/IllegalArgumentException"] (x_rate n va vx) E9 from by obtain ⟨h1, h2⟩ := exE_cw hB9; subst h2; simp [exE, x_rate, h1]), fun k8 q8 hq8 => (hP k8 q8 hq8).kept (by rw [ht8]; exact hk9 q8.1 (hP k8 q8 hq8).lt (fun z => z)), hD⟩, hS9.F ht8⟩) hS9.2.2 (Nat.le_of_ble_eq_true rfl) (Nat.le_of_ble_eq_true rfl)) (fun u9 t9 H1 locs ht9 hvm9 hw9 hB9 hz9 hk9 hS => ?_)
  have e9 : H1 = s.heap := ht9.symm.trans hB9
  subst e9
  obtain ⟨a, i_a, rfl⟩ := s_has_nat hn (ok_cw hw9)
  have h_a := s_has_nI hn i_a
  refine lv_iload_n hx hb dX1_rate_5 rfl (lv_at hl 2 rfl) ?_
  refine lv_bipush (v := 100) hx hb dX1_rate_6 (by decide) ?_
  refine lv_icmp_lt (tgt := 18) hx hb dX1_rate_8 (by decide) (fun c_8 => ?_) (fun c_8 => ?_)
  · obtain ⟨sa, hstr⟩ := hE.2.2.2.1 (51, "no such rating") (by decide +kernel)
    exact vx_throwS (names := ["java/lang/RuntimeException", "java/lang/Exception"]) hx hb hl0 hown (by decide +kernel) (by decide +kernel) (hts (.classLink RX1 27 "java/lang/IllegalArgumentException") (by decide +kernel)) (hts (.initialized "java/lang/IllegalArgumentException") (by decide +kernel)) hstr (vx_hat (B := [.castable "java/lang/IllegalArgumentException" "java/lang/IllegalArgumentException", .declares (Bundle.initS "java/lang/RuntimeException"), .declares (Bundle.initS "java/lang/Exception"), .declares (Bundle.initS Bundle.tN)]) (fun w h9 => hts w (hthIAE w h9)) tnIAE (vx_c (va_Nw.use rfl (hE.2.2.1 (.castable "java/lang/IllegalArgumentException" "java/lang/IllegalArgumentException") (by decide +kernel))) (vx_c (va_Nw.use rfl (hE.2.2.1 (.declares (Bundle.initS "java/lang/RuntimeException")) (by decide +kernel))) (vx_c (va_Nw.use rfl (hE.2.2.1 (.declares (Bundle.initS "java/lang/Exception")) (by decide +kernel))) (vx_c (va_Nw.use rfl (hE.2.2.1 (.declares (Bundle.initS Bundle.tN)) (by decide +kernel))) vx_n))))) tgIAE hE.2.2.2.2.1 hE.2.2.2.2.2 hS (hl.1.trans hml.symm) dX1_rate_18 dX1_rate_21 dX1_rate_22 dX1_rate_24 dX1_rate_27 (fun x9 h9 => (htab x9 h9).elim) (Nat.le_of_ble_eq_true rfl) (Nat.le_of_ble_eq_true rfl) (Nat.le_of_ble_eq_true rfl) (Nat.le_of_ble_eq_true rfl) hlocks (fun t8 hal8 hz8 hk8 => ⟨(), trivial, ⟨(show exE ["java/lang/IndexOutOfBoundsException", "java/lang/IllegalArgumentException"] (x_rate n (nI a) vx) "java/lang/IllegalArgumentException" from by simp [exE, x_rate, h_a, c_8]), fun k8 q8 hq8 => (hP k8 q8 hq8).kept (hk8 q8.1 (hP k8 q8 hq8).lt), hD⟩, ⟨hz8, fun q8 h8 _ => hk8 q8 h8⟩⟩) hS.2.2 (Nat.le_of_ble_eq_true rfl) (Nat.le_of_ble_eq_true rfl)
  · refine lv_iload_n hx hb dX1_rate_11 rfl (lv_at hl 2 rfl) ?_
    refine lv_sipush (v := 3000) hx hb dX1_rate_12 (by decide) ?_
    refine lv_icmp_le (tgt := 28) hx hb dX1_rate_15 (by decide) (fun c_15 => ?_) (fun c_15 => ?_)
    · refine lv_aload_n hx hb dX1_rate_28 rfl (lv_at hl 0 rfl) ?_
      refine va_get (D := (dC, dI)) (ci := 1) (v := .ref r1) (C := RX1) (T := TX1) (N := 6) hx hb hts hinX1 hown hK hP 0 rfl rfl 0 (by decide) (hts (.fieldLink RX1 10 "WrestleBook" "roster" "LWrestleBook$Roster;") (by decide +kernel)) (fun _ h9 => h9) rfl dX1_rate_29 ?_
      refine lv_iload_n hx hb dX1_rate_32 rfl (lv_at hl 1 rfl) ?_
      refine vp_callSi (W.runV (As := [.int (nI a)]) (rest := []) ⟨hx, hb, hml, hown, hts⟩ (c_X0_rating l dC dI cI r1 d1 n F a (show a < n by omega) hn) (cwV 1 hts gX1_rate_X0_rating rfl rfl rfl (by decide +kernel) ⟨Nat.le_of_ble_eq_true rfl, Nat.le_of_ble_eq_true rfl⟩) ⟨PR.blind, va_recv hK hP (ci := 0) (q0 := 2) rfl rfl, fun U hU hW => ⟨rfl, PR.go (hP.sub (ws' := (wR r1 d1 cI n F)) [2, 3, 4, 5, 6, 7, 8, 9] rfl) hK hE hS hU hW⟩⟩ rfl rfl hl.1 rfl (lv_room (Nat.le_of_ble_eq_true rfl)) dX1_rate_33 ⟨Nat.le_of_ble_eq_true rfl, Nat.le_of_ble_eq_true rfl⟩) (fun r hr0 => ?_)
      subst hr0
      refine lv_istore_n (lv' := [(3, .int (F 1 a)), (0, .ref h), (1, .int (nI a)), (2, .int vx)]) hx hb dX1_rate_36 rfl hl (by decide) rfl (fun ls hl => ?_)
      refine lv_aload_n hx hb dX1_rate_37 rfl (lv_at hl 1 rfl) ?_
      refine va_get (D := (dC, dI)) (ci := 1) (v := .ref r1) (C := RX1) (T := TX1) (N := 6) hx hb hts hinX1 hown hK hP 0 rfl rfl 0 (by decide) (hts (.fieldLink RX1 10 "WrestleBook" "roster" "LWrestleBook$Roster;") (by decide +kernel)) (fun _ h9 => h9) rfl dX1_rate_38 ?_
      refine lv_iload_n hx hb dX1_rate_41 rfl (lv_at hl 2 rfl) ?_
      refine lv_iload_n hx hb dX1_rate_42 rfl (lv_at hl 3 rfl) ?_
      have hPc := hP.sub (ws' := (wR r1 d1 cI n F)) [2, 3, 4, 5, 6, 7, 8, 9] rfl
      have hDc := hD.sub (ws' := (wR r1 d1 cI n F)) [2, 3, 4, 5, 6, 7, 8, 9] (by decide) rfl
      have hFc := va_free (wc := (wR r1 d1 cI n F)) hD hS hA [2, 3, 4, 5, 6, 7, 8, 9] rfl
      refine va_callv (va_runV (As := [.int (nI a), .int vx]) (rest := []) ⟨hx, hb, hml, hown, hts⟩ (c_X0_setRating l dC dI cI r1 d1 n F s.heap.size a (show a < n by omega) vx hn) (cwV 2 hts gX1_rate_X0_setRating rfl rfl rfl (by decide +kernel) ⟨Nat.le_of_ble_eq_true rfl, Nat.le_of_ble_eq_true rfl⟩) ⟨PW.blind, va_recv hK hP (ci := 0) (q0 := 2) rfl rfl, fun U hU hW => ⟨rfl, PW.go hPc hK hDc hE hS hFc hU hW⟩⟩ rfl rfl hl.1 rfl (lv_room (Nat.le_of_ble_eq_true rfl)) dX1_rate_43 ⟨Nat.le_of_ble_eq_true rfl, Nat.le_of_ble_eq_true rfl⟩) hS (fun q _ h9 => hFc q h9) hFc (fun u9 t9 H1 locs ht9 hvm9 hw9 hB9 hz9 hk9 hS => ?_)
      obtain ⟨hP9, hD9⟩ := hB9
      rw [ht9] at hP9
      obtain ⟨hP, hD⟩ := va_join (wr := ([(h, .inr (1, [.ref r1, .ref r2, .ref rc, .int (ct 0), .int (ct 1), .int (ct 2)])), (rc, .inl (cI, 10, .inl (ch))), (r2, .inr (0, [.ref (d2 0), .ref (d2 1), .ref (d2 2), .ref (d2 3), .ref (d2 4), .ref (d2 5), .ref (d2 6), .int (nI n2)])), (d2 0, .inl (cI, 12, .inl (G 0))), (d2 1, .inl (cI, 12, .inl (G 1))), (d2 2, .inl (cI, 12, .inl (G 2))), (d2 3, .inl (cI, 12, .inl (G 3))), (d2 4, .inl (cI, 12, .inl (G 4))), (d2 5, .inl (cI, 12, .inl (G 5))), (d2 6, .inl (cI, 12, .inl (G 6)))] : va_W)) (w1 := wR r1 d1 cI n (s_set F a vx)) hP hD [2, 3, 4, 5, 6, 7, 8, 9] [0, 1, 10, 11, 12, 13, 14, 15, 16, 17] rfl rfl (by decide) (by decide) hk9 hFc hP9 hD9
      generalize H1 = H at hP hS ⊢
      have hP := hP.sub (ws' := wB h r1 d1 r2 d2 rc cI n (s_set F a vx) n2 G ct ch) [0, 1, 10, 11, 12, 13, 14, 15, 16, 17, 2, 3, 4, 5, 6, 7, 8, 9] rfl
      have hD := hD.sub (ws' := wB h r1 d1 r2 d2 rc cI n (s_set F a vx) n2 G ct ch) [0, 1, 10, 11, 12, 13, 14, 15, 16, 17, 2, 3, 4, 5, 6, 7, 8, 9] (by decide) rfl
      have hP : va_P (dC, dI) vwCl (wB h r1 d1 r2 d2 rc cI n (s_set F a vx) n2 G ct ch) H := hP
      have hD : va_D A (wB h r1 d1 r2 d2 rc cI n (s_set F a vx) n2 G ct ch) := hD
      refine lv_iload_n hx hb dX1_rate_46 rfl (lv_at hl 0 rfl) ?_
      refine vx_ret ?_
      refine W.widen (k := 2) (n := 12) (Nat.le_of_ble_eq_true rfl) (Nat.le_of_ble_eq_true rfl) ?_
      have hP8 : va_P (dC, dI) vwCl (wB h r1 d1 r2 d2 rc cI n (s_set F (cl (nI a)) vx) n2 G ct ch) H := by rw [cl_nI (by omega)]; exact hP
      have hD8 : va_D A (wB h r1 d1 r2 d2 rc cI n (s_set F (cl (nI a)) vx) n2 G ct ch) := by rw [cl_nI (by omega)]; exact hD
      exact W.iret (v := F 1 a) hx hb hr (fun t ht hW => ⟨⟨_, (), rfl, ⟨(show x_rate n (nI a) vx = 0 from by simp [x_rate, h_a, c_8, c_15]), (show F 1 a = F 1 (cl (nI a)) from by rw [cl_nI (by omega)])⟩, by rw [ht]; exact hP8, hD8⟩, hS.F ht⟩) hS.2.2 dX1_rate_47
    · obtain ⟨sa, hstr⟩ := hE.2.2.2.1 (51, "no such rating") (by decide +kernel)
      exact vx_throwS (names := ["java/lang/RuntimeException", "java/lang/Exception"]) hx hb hl0 hown (by decide +kernel) (by decide +kernel) (hts (.classLink RX1 27 "java/lang/IllegalArgumentException") (by decide +kernel)) (hts (.initialized "java/lang/IllegalArgumentException") (by decide +kernel)) hstr (vx_hat (B := [.castable "java/lang/IllegalArgumentException" "java/lang/IllegalArgumentException", .declares (Bundle.initS "java/lang/RuntimeException"), .declares (Bundle.initS "java/lang/Exception"), .declares (Bundle.initS Bundle.tN)]) (fun w h9 => hts w (hthIAE w h9)) tnIAE (vx_c (va_Nw.use rfl (hE.2.2.1 (.castable "java/lang/IllegalArgumentException" "java/lang/IllegalArgumentException") (by decide +kernel))) (vx_c (va_Nw.use rfl (hE.2.2.1 (.declares (Bundle.initS "java/lang/RuntimeException")) (by decide +kernel))) (vx_c (va_Nw.use rfl (hE.2.2.1 (.declares (Bundle.initS "java/lang/Exception")) (by decide +kernel))) (vx_c (va_Nw.use rfl (hE.2.2.1 (.declares (Bundle.initS Bundle.tN)) (by decide +kernel))) vx_n))))) tgIAE hE.2.2.2.2.1 hE.2.2.2.2.2 hS (hl.1.trans hml.symm) dX1_rate_18 dX1_rate_21 dX1_rate_22 dX1_rate_24 dX1_rate_27 (fun x9 h9 => (htab x9 h9).elim) (Nat.le_of_ble_eq_true rfl) (Nat.le_of_ble_eq_true rfl) (Nat.le_of_ble_eq_true rfl) (Nat.le_of_ble_eq_true rfl) hlocks (fun t8 hal8 hz8 hk8 => ⟨(), trivial, ⟨(show exE ["java/lang/IndexOutOfBoundsException", "java/lang/IllegalArgumentException"] (x_rate n (nI a) vx) "java/lang/IllegalArgumentException" from by simp [exE, x_rate, h_a, c_8, c_15]), fun k8 q8 hq8 => (hP k8 q8 hq8).kept (hk8 q8.1 (hP k8 q8 hq8).lt), hD⟩, ⟨hz8, fun q8 h8 _ => hk8 q8 h8⟩⟩) hS.2.2 (Nat.le_of_ble_eq_true rfl) (Nat.le_of_ble_eq_true rfl)

set_option maxHeartbeats 4000000 in
set_option maxRecDepth 100000 in
theorem c_X1_bout (l : Launch) (hl0 : l.stackTraces = false) (dC : Nat → ClassId) (dI : Nat → Nat → Nat) (cI : ClassId) (h r1 : Nat) (d1 : Nat → Nat) (r2 : Nat) (d2 : Nat → Nat) (rc : Nat) (n : Nat) (F : Nat → Nat → Int32) (n2 : Nat) (G : Nat → Nat → Int32) (ct ch : Nat → Int32) (sz : Nat) (va : Int32) (vb : Int32) (vr : Int32) (hn : n ≤ 12) (hR : okR n F) : vx_Met l yX1_bout wsX1_bout ({ frames := 7, cells := 4, slots := 24, locals := 109 } : Room) (va_Pc [.ref h, .int va, .int vb, .int vr] (fun U => PW dC dI cI (wB h r1 d1 r2 d2 rc cI n F n2 G ct ch) sz U)) (va_Qi (fun r (_ : Unit) => x_bout n va vb vr = 0 ∧ r = s_gain F (cl va) (cl vb) vr) (BW dC dI (va_A (wB h r1 d1 r2 d2 rc cI n F n2 G ct ch) sz) (wB h r1 d1 r2 d2 rc cI n (s_hold F (cl va) (cl vb) (cl vr)) n2 G (s_ct ct F (cl va) (cl vb) (cl vr)) ch)) (va_A (wB h r1 d1 r2 d2 rc cI n F n2 G ct ch) sz)) (vx_X (fun (_ : Unit) => True) (fun E _ t => exE ["java/lang/IndexOutOfBoundsException", "java/lang/IllegalArgumentException"] (x_bout n va vb vr) E ∧ va_P (dC, dI) vwCl (wB h r1 d1 r2 d2 rc cI n F n2 G ct ch) t.heap ∧ va_D (va_A (wB h r1 d1 r2 d2 rc cI n F n2 G ct ch) sz) (wB h r1 d1 r2 d2 rc cI n F n2 G ct ch)) (va_A (wB h r1 d1 r2 d2 rc cI n F n2 G ct ch) sz)) 4 24 (va_A (wB h r1 d1 r2 d2 rc cI n F n2 G ct ch) sz) := by
  refine vx_ofW (cc := cX1_bout) (maxL := 4) (ret := (some .int)) (by decide) rfl ?_
  intro p e s m args below meth c s₁ B hml htab hv
  obtain ⟨rfl, hsz, hP, hK, hD0, hE⟩ := hv
  have hx := B.exec
  have hb := B.bytes
  have hr := B.returns
  have hts := atoms_spec (ws := wsX1_bout) B.pre
  have hown : s.vm.findClass RX1 = some m.cls := findClass_of_methodNamed B.named
  have hlocks := B.notSynchronized
  subst hsz
  have hD := hD0.self (sz := s.heap.size)
  generalize hAe : va_A (wB h r1 d1 r2 d2 rc cI n F n2 G ct ch) s.heap.size = A at hD hE ⊢
  have hA : ∀ q : Nat, s.heap.size ≤ q → A q := fun q h9 => by rw [← hAe]; exact Or.inr h9
  have hS : va_S A s.heap s.heap [] := va_S.rf
  have hinX1 : ∀ w ∈ wsX10, w ∈ wsX1_bout := by decide +kernel
  have hl := lv_entry ([.ref h, .int va, .int vb, .int vr]) (n := 4) (Nat.le_of_ble_eq_true rfl)
  rw [lg_entry_eq]
  generalize (lg_sl ([.ref h, .int va, .int vb, .int vr]) ++ List.replicate (4 - (lg_sl ([.ref h, .int va, .int vb, .int vr])).length) Slot.unset).toArray = ls at hl ⊢
  have hl : lv_has ls 4 [(0, .ref h), (1, .int va), (2, .int vb), (3, .int vr)] := hl
  refine lv_aload_n hx hb dX1_bout_0 rfl (lv_at hl 0 rfl) ?_
  refine lv_iload_n hx hb dX1_bout_1 rfl (lv_at hl 1 rfl) ?_
  refine vx_callv (vx_runV (As := [.int va]) (rest := []) ⟨hx, hb, hml, hown, hts⟩ (c_X1_checkWrestler l hl0 dC dI cI h r1 d1 r2 d2 rc n F n2 G ct ch s.heap va hn) (cwV 1 hts gX1_bout_X1_checkWrestler rfl rfl rfl (by decide +kernel) ⟨Nat.le_of_ble_eq_true rfl, Nat.le_of_ble_eq_true rfl⟩) ⟨PRX.blind, va_recv hK hP (ci := 1) (q0 := 0) rfl rfl, fun U hU hW => ⟨rfl, hU, PR.go hP hK hE hS hU hW⟩⟩ rfl rfl hl.1 rfl (lv_room (Nat.le_of_ble_eq_true rfl)) dX1_bout_2 ⟨Nat.le_of_ble_eq_true rfl, Nat.le_of_ble_eq_true rfl⟩) hS (fun q _ h9 => h9.elim) (fun q h9 => h9.elim) (fun q _ h9 => h9.elim) (fun E9 ce9 q9 u9 t9 H1 locs9 ht9 hvm9 hw9 hB9 hz9 hk9 hS9 hce9 hcv9 hcl9 => vx_out (fun x9 h9 => (htab x9 h9).elim) hlocks hce9 hcv9 hcl9 (fun t8 ht8 hal8 => ⟨(), trivial, ⟨(show exE ["java/lang/IndexOutOfBoundsException", "java/lang/IllegalArgumentException"] (x_bout n va vb vr) E9 from by obtain ⟨h1, h2⟩ := exE_cw hB9; subst h2; simp [exE, x_bout, h1]), fun k8 q8 hq8 => (hP k8 q8 hq8).kept (by rw [ht8]; exact hk9 q8.1 (hP k8 q8 hq8).lt (fun z => z)), hD⟩, hS9.F ht8⟩) hS9.2.2 (Nat.le_of_ble_eq_true rfl) (Nat.le_of_ble_eq_true rfl)) (fun u9 t9 H1 locs ht9 hvm9 hw9 hB9 hz9 hk9 hS => ?_)
  have e9 : H1 = s.heap := ht9.symm.trans hB9
  subst e9
  obtain ⟨a, i_a, rfl⟩ := s_has_nat hn (ok_cw hw9)
  have h_a := s_has_nI hn i_a
  refine lv_aload_n hx hb dX1_bout_5 rfl (lv_at hl 0 rfl) ?_
  refine lv_iload_n hx hb dX1_bout_6 rfl (lv_at hl 2 rfl) ?_
  refine vx_callv (vx_runV (As := [.int vb]) (rest := []) ⟨hx, hb, hml, hown, hts⟩ (c_X1_checkWrestler l hl0 dC dI cI h r1 d1 r2 d2 rc n F n2 G ct ch s.heap vb hn) (cwV 1 hts gX1_bout_X1_checkWrestler rfl rfl rfl (by decide +kernel) ⟨Nat.le_of_ble_eq_true rfl, Nat.le_of_ble_eq_true rfl⟩) ⟨PRX.blind, va_recv hK hP (ci := 1) (q0 := 0) rfl rfl, fun U hU hW => ⟨rfl, hU, PR.go hP hK hE hS hU hW⟩⟩ rfl rfl hl.1 rfl (lv_room (Nat.le_of_ble_eq_true rfl)) dX1_bout_7 ⟨Nat.le_of_ble_eq_true rfl, Nat.le_of_ble_eq_true rfl⟩) hS (fun q _ h9 => h9.elim) (fun q h9 => h9.elim) (fun q _ h9 => h9.elim) (fun E9 ce9 q9 u9 t9 H1 locs9 ht9 hvm9 hw9 hB9 hz9 hk9 hS9 hce9 hcv9 hcl9 => vx_out (fun x9 h9 => (htab x9 h9).elim) hlocks hce9 hcv9 hcl9 (fun t8 ht8 hal8 => ⟨(), trivial, ⟨(show exE ["java/lang/IndexOutOfBoundsException", "java/lang/IllegalArgumentException"] (x_bout n (nI a) vb vr) E9 from by obtain ⟨h1, h2⟩ := exE_cw hB9; subst h2; simp [exE, x_bout, h_a, h1]), fun k8 q8 hq8 => (hP k8 q8 hq8).kept (by rw [ht8]; exact hk9 q8.1 (hP k8 q8 hq8).lt (fun z => z)), hD⟩, hS9.F ht8⟩) hS9.2.2 (Nat.le_of_ble_eq_true rfl) (Nat.le_of_ble_eq_true rfl)) (fun u9 t9 H1 locs ht9 hvm9 hw9 hB9 hz9 hk9 hS => ?_)
  have e9 : H1 = s.heap := ht9.symm.trans hB9
  subst e9
  obtain ⟨b, i_b, rfl⟩ := s_has_nat hn (ok_cw hw9)
  have h_b := s_has_nI hn i_b
  refine lv_iload_n hx hb dX1_bout_10 rfl (lv_at hl 1 rfl) ?_
  refine lv_iload_n hx hb dX1_bout_11 rfl (lv_at hl 2 rfl) ?_
  refine vx_callv (vx_runS (As := [.int (nI a), .int (nI b)]) (rest := []) ⟨hx, hb, hml, hown, hts⟩ (c_X1_checkDifferent l hl0 dC dI cI s.heap (nI a) (nI b)) (va_cwS 2 hts gX1_bout_X1_checkDifferent rfl rfl rfl (by decide +kernel) ⟨Nat.le_of_ble_eq_true rfl, Nat.le_of_ble_eq_true rfl⟩) ⟨PRX.blind, fun U hU hW => ⟨rfl, hU, PR.go (vaP_nil) hK hE hS hU hW⟩⟩ rfl rfl hl.1 rfl (lv_room (Nat.le_of_ble_eq_true rfl)) dX1_bout_12 ⟨Nat.le_of_ble_eq_true rfl, Nat.le_of_ble_eq_true rfl⟩) hS (fun q _ h9 => h9.elim) (fun q h9 => h9.elim) (fun q _ h9 => h9.elim) (fun E9 ce9 q9 u9 t9 H1 locs9 ht9 hvm9 hw9 hB9 hz9 hk9 hS9 hce9 hcv9 hcl9 => vx_out (fun x9 h9 => (htab x9 h9).elim) hlocks hce9 hcv9 hcl9 (fun t8 ht8 hal8 => ⟨(), trivial, ⟨(show exE ["java/lang/IndexOutOfBoundsException", "java/lang/IllegalArgumentException"] (x_bout n (nI a) (nI b) vr) E9 from by obtain ⟨h1, h2⟩ := exE_cd hB9; subst h2; simp [exE, x_bout, h_a, h_b, h1]), fun k8 q8 hq8 => (hP k8 q8 hq8).kept (by rw [ht8]; exact hk9 q8.1 (hP k8 q8 hq8).lt (fun z => z)), hD⟩, hS9.F ht8⟩) hS9.2.2 (Nat.le_of_ble_eq_true rfl) (Nat.le_of_ble_eq_true rfl)) (fun u9 t9 H1 locs ht9 hvm9 hw9 hB9 hz9 hk9 hS => ?_)
  have e9 : H1 = s.heap := ht9.symm.trans hB9
  subst e9
  have hab := ok_cd hw9
  refine lv_iload_n hx hb dX1_bout_15 rfl (lv_at hl 3 rfl) ?_
  refine vx_callv (vx_runS (As := [.int vr]) (rest := []) ⟨hx, hb, hml, hown, hts⟩ (c_X1_checkResult l hl0 dC dI cI s.heap vr) (va_cwS 1 hts gX1_bout_X1_checkResult rfl rfl rfl (by decide +kernel) ⟨Nat.le_of_ble_eq_true rfl, Nat.le_of_ble_eq_true rfl⟩) ⟨PRX.blind, fun U hU hW => ⟨rfl, hU, PR.go (vaP_nil) hK hE hS hU hW⟩⟩ rfl rfl hl.1 rfl (lv_room (Nat.le_of_ble_eq_true rfl)) dX1_bout_16 ⟨Nat.le_of_ble_eq_true rfl, Nat.le_of_ble_eq_true rfl⟩) hS (fun q _ h9 => h9.elim) (fun q h9 => h9.elim) (fun q _ h9 => h9.elim) (fun E9 ce9 q9 u9 t9 H1 locs9 ht9 hvm9 hw9 hB9 hz9 hk9 hS9 hce9 hcv9 hcl9 => vx_out (fun x9 h9 => (htab x9 h9).elim) hlocks hce9 hcv9 hcl9 (fun t8 ht8 hal8 => ⟨(), trivial, ⟨(show exE ["java/lang/IndexOutOfBoundsException", "java/lang/IllegalArgumentException"] (x_bout n (nI a) (nI b) vr) E9 from by obtain ⟨h1, h2⟩ := exE_cr hB9; subst h2; simp [exE, x_bout, h_a, h_b, hab, h1]), fun k8 q8 hq8 => (hP k8 q8 hq8).kept (by rw [ht8]; exact hk9 q8.1 (hP k8 q8 hq8).lt (fun z => z)), hD⟩, hS9.F ht8⟩) hS9.2.2 (Nat.le_of_ble_eq_true rfl) (Nat.le_of_ble_eq_true rfl)) (fun u9 t9 H1 locs ht9 hvm9 hw9 hB9 hz9 hk9 hS => ?_)
  have e9 : H1 = s.heap := ht9.symm.trans hB9
  subst e9
  have hcr := hw9
  obtain ⟨q, hq, rfl⟩ := ok_cr hw9
  refine lv_aload_n hx hb dX1_bout_19 rfl (lv_at hl 0 rfl) ?_
  refine va_get (D := (dC, dI)) (ci := 1) (v := .ref r1) (C := RX1) (T := TX1) (N := 6) hx hb hts hinX1 hown hK hP 0 rfl rfl 0 (by decide) (hts (.fieldLink RX1 10 "WrestleBook" "roster" "LWrestleBook$Roster;") (by decide +kernel)) (fun _ h9 => h9) rfl dX1_bout_20 ?_
  refine lv_iload_n hx hb dX1_bout_23 rfl (lv_at hl 1 rfl) ?_
  refine lv_iload_n hx hb dX1_bout_24 rfl (lv_at hl 2 rfl) ?_
  refine lv_iload_n hx hb dX1_bout_25 rfl (lv_at hl 3 rfl) ?_
  refine vp_callSi (W.runV (As := [.int (nI a), .int (nI b), .int (nI q)]) (rest := []) ⟨hx, hb, hml, hown, hts⟩ (c_X0_isUpset l dC dI cI r1 d1 n F a (show a < n by omega) b (show b < n by omega) (nI q) hn hR) (cwV 3 hts gX1_bout_X0_isUpset rfl rfl rfl (by decide +kernel) ⟨Nat.le_of_ble_eq_true rfl, Nat.le_of_ble_eq_true rfl⟩) ⟨PR.blind, va_recv hK hP (ci := 0) (q0 := 2) rfl rfl, fun U hU hW => ⟨rfl, PR.go (hP.sub (ws' := (wR r1 d1 cI n F)) [2, 3, 4, 5, 6, 7, 8, 9] rfl) hK hE hS hU hW⟩⟩ rfl rfl hl.1 rfl (lv_room (Nat.le_of_ble_eq_true rfl)) dX1_bout_26 ⟨Nat.le_of_ble_eq_true rfl, Nat.le_of_ble_eq_true rfl⟩) (fun r hr0 => ?_)
  subst hr0
  refine rv_ifb_eq (tgt := 42) hx hb dX1_bout_29 (by decide) (fun c_29 => ?_) (fun c_29 => ?_)
  · refine lv_aload_n hx hb dX1_bout_42 rfl (lv_at hl 0 rfl) ?_
    refine lv_dup hx hb dX1_bout_43 rfl ?_
    refine va_get (D := (dC, dI)) (ci := 1) (v := .int (ct 1)) (C := RX1) (T := TX1) (N := 6) hx hb hts hinX1 hown hK hP 0 rfl rfl 4 (by decide) (hts (.fieldLink RX1 74 "WrestleBook" "boutsHeld" "I") (by decide +kernel)) (fun _ h9 => h9) rfl dX1_bout_44 ?_
    refine lv_iconst (v := 1) hx hb dX1_bout_47 (by decide) ?_
    refine lv_iadd hx hb dX1_bout_48 ?_
    refine rv_top (y := ct 1 + 1) rfl ?_
    refine va_put (D := (dC, dI)) (ci := 1) (v := .int (ct 1 + 1)) (ty := .int) (C := RX1) (T := TX1) (N := 6) hx hb hts hinX1 tyX1 tyX1_ok nmX1 hown hK hP hD hS 0 rfl rfl 4 (by decide) (hts (.fieldLink RX1 74 "WrestleBook" "boutsHeld" "I") (by decide +kernel)) (fun _ h9 => h9) rfl (by decide +kernel) rfl rfl (Nat.le_of_ble_eq_true rfl) dX1_bout_49 (fun H locs hP hD hS => ?_)
    have hP : va_P (dC, dI) vwCl (wB h r1 d1 r2 d2 rc cI n F n2 G (upd ct 1 (ct 1 + 1)) ch) H := hP
    have hD : va_D A (wB h r1 d1 r2 d2 rc cI n F n2 G (upd ct 1 (ct 1 + 1)) ch) := hD
    refine lv_aload_n hx hb dX1_bout_52 rfl (lv_at hl 0 rfl) ?_
    refine va_get (D := (dC, dI)) (ci := 1) (v := .ref r1) (C := RX1) (T := TX1) (N := 6) hx hb hts hinX1 hown hK hP 0 rfl rfl 0 (by decide) (hts (.fieldLink RX1 10 "WrestleBook" "roster" "LWrestleBook$Roster;") (by decide +kernel)) (fun _ h9 => h9) rfl dX1_bout_53 ?_
    refine lv_iload_n hx hb dX1_bout_56 rfl (lv_at hl 1 rfl) ?_
    refine lv_iload_n hx hb dX1_bout_57 rfl (lv_at hl 2 rfl) ?_
    refine lv_iload_n hx hb dX1_bout_58 rfl (lv_at hl 3 rfl) ?_
    have hPc := hP.sub (ws' := (wR r1 d1 cI n F)) [2, 3, 4, 5, 6, 7, 8, 9] rfl
    have hDc := hD.sub (ws' := (wR r1 d1 cI n F)) [2, 3, 4, 5, 6, 7, 8, 9] (by decide) rfl
    have hFc := va_free (wc := (wR r1 d1 cI n F)) hD hS hA [2, 3, 4, 5, 6, 7, 8, 9] rfl
    refine va_calli (va_runV (As := [.int (nI a), .int (nI b), .int (nI q)]) (rest := []) ⟨hx, hb, hml, hown, hts⟩ (c_X0_hold l dC dI cI r1 d1 n F H.size a (show a < n by omega) b (show b < n by omega) q hq hn hR) (cwV 3 hts gX1_bout_X0_hold rfl rfl rfl (by decide +kernel) ⟨Nat.le_of_ble_eq_true rfl, Nat.le_of_ble_eq_true rfl⟩) ⟨PW.blind, va_recv hK hP (ci := 0) (q0 := 2) rfl rfl, fun U hU hW => ⟨rfl, PW.go hPc hK hDc hE hS hFc hU hW⟩⟩ rfl rfl hl.1 rfl (lv_room (Nat.le_of_ble_eq_true rfl)) dX1_bout_59 ⟨Nat.le_of_ble_eq_true rfl, Nat.le_of_ble_eq_true rfl⟩) hS (fun q _ h9 => hFc q h9) hFc (fun r u9 t9 H1 locs ht9 hvm9 hw9 hB9 hz9 hk9 hS => ?_)
    obtain ⟨hP9, hD9⟩ := hB9
    rw [ht9] at hP9
    obtain ⟨hP, hD⟩ := va_join (wr := ([(h, .inr (1, [.ref r1, .ref r2, .ref rc, .int ((upd ct 1 (ct 1 + 1)) 0), .int ((upd ct 1 (ct 1 + 1)) 1), .int ((upd ct 1 (ct 1 + 1)) 2)])), (rc, .inl (cI, 10, .inl (ch))), (r2, .inr (0, [.ref (d2 0), .ref (d2 1), .ref (d2 2), .ref (d2 3), .ref (d2 4), .ref (d2 5), .ref (d2 6), .int (nI n2)])), (d2 0, .inl (cI, 12, .inl (G 0))), (d2 1, .inl (cI, 12, .inl (G 1))), (d2 2, .inl (cI, 12, .inl (G 2))), (d2 3, .inl (cI, 12, .inl (G 3))), (d2 4, .inl (cI, 12, .inl (G 4))), (d2 5, .inl (cI, 12, .inl (G 5))), (d2 6, .inl (cI, 12, .inl (G 6)))] : va_W)) (w1 := wR r1 d1 cI n (s_hold F a b q)) hP hD [2, 3, 4, 5, 6, 7, 8, 9] [0, 1, 10, 11, 12, 13, 14, 15, 16, 17] rfl rfl (by decide) (by decide) hk9 hFc hP9 hD9
    generalize H1 = H at hP hS ⊢
    have hP := hP.sub (ws' := wB h r1 d1 r2 d2 rc cI n (s_hold F a b q) n2 G (upd ct 1 (ct 1 + 1)) ch) [0, 1, 10, 11, 12, 13, 14, 15, 16, 17, 2, 3, 4, 5, 6, 7, 8, 9] rfl
    have hD := hD.sub (ws' := wB h r1 d1 r2 d2 rc cI n (s_hold F a b q) n2 G (upd ct 1 (ct 1 + 1)) ch) [0, 1, 10, 11, 12, 13, 14, 15, 16, 17, 2, 3, 4, 5, 6, 7, 8, 9] (by decide) rfl
    have hP : va_P (dC, dI) vwCl (wB h r1 d1 r2 d2 rc cI n (s_hold F a b q) n2 G (upd ct 1 (ct 1 + 1)) ch) H := hP
    have hD : va_D A (wB h r1 d1 r2 d2 rc cI n (s_hold F a b q) n2 G (upd ct 1 (ct 1 + 1)) ch) := hD
    have hw9 : r = s_gain F a b (nI q) := hw9
    subst hw9
    refine vx_ret ?_
    refine W.widen (k := 4) (n := 24) (Nat.le_of_ble_eq_true rfl) (Nat.le_of_ble_eq_true rfl) ?_
    have hP8 : va_P (dC, dI) vwCl (wB h r1 d1 r2 d2 rc cI n (s_hold F (cl (nI a)) (cl (nI b)) (cl (nI q))) n2 G (s_ct ct F (cl (nI a)) (cl (nI b)) (cl (nI q))) ch) H := by rw [cl_nI (show a < 2 ^ 31 by omega), cl_nI (show b < 2 ^ 31 by omega), cl_nI (show q < 2 ^ 31 by omega)]; rw [s_ct_no c_29]; exact hP
    have hD8 : va_D A (wB h r1 d1 r2 d2 rc cI n (s_hold F (cl (nI a)) (cl (nI b)) (cl (nI q))) n2 G (s_ct ct F (cl (nI a)) (cl (nI b)) (cl (nI q))) ch) := by rw [cl_nI (show a < 2 ^ 31 by omega), cl_nI (show b < 2 ^ 31 by omega), cl_nI (show q < 2 ^ 31 by omega)]; rw [s_ct_no c_29]; exact hD
    exact W.iret (v := s_gain F a b (nI q)) hx hb hr (fun t ht hW => ⟨⟨_, (), rfl, ⟨(show x_bout n (nI a) (nI b) (nI q) = 0 from by simp [x_bout, h_a, h_b, hab, hcr]), (show s_gain F a b (nI q) = s_gain F (cl (nI a)) (cl (nI b)) (nI q) from by rw [cl_nI (by omega), cl_nI (by omega)])⟩, by rw [ht]; exact hP8, hD8⟩, hS.F ht⟩) hS.2.2 dX1_bout_62
  · refine lv_aload_n hx hb dX1_bout_32 rfl (lv_at hl 0 rfl) ?_
    refine lv_dup hx hb dX1_bout_33 rfl ?_
    refine va_get (D := (dC, dI)) (ci := 1) (v := .int (ct 2)) (C := RX1) (T := TX1) (N := 6) hx hb hts hinX1 hown hK hP 0 rfl rfl 5 (by decide) (hts (.fieldLink RX1 70 "WrestleBook" "upsets" "I") (by decide +kernel)) (fun _ h9 => h9) rfl dX1_bout_34 ?_
    refine lv_iconst (v := 1) hx hb dX1_bout_37 (by decide) ?_
    refine lv_iadd hx hb dX1_bout_38 ?_
    refine rv_top (y := ct 2 + bI (s_up F a b (nI q))) (by rw [c_29]; rfl) ?_
    refine va_put (D := (dC, dI)) (ci := 1) (v := .int (ct 2 + bI (s_up F a b (nI q)))) (ty := .int) (C := RX1) (T := TX1) (N := 6) hx hb hts hinX1 tyX1 tyX1_ok nmX1 hown hK hP hD hS 0 rfl rfl 5 (by decide) (hts (.fieldLink RX1 70 "WrestleBook" "upsets" "I") (by decide +kernel)) (fun _ h9 => h9) rfl (by decide +kernel) rfl rfl (Nat.le_of_ble_eq_true rfl) dX1_bout_39 (fun H locs hP hD hS => ?_)
    have hP : va_P (dC, dI) vwCl (wB h r1 d1 r2 d2 rc cI n F n2 G (upd ct 2 (ct 2 + bI (s_up F a b (nI q)))) ch) H := hP
    have hD : va_D A (wB h r1 d1 r2 d2 rc cI n F n2 G (upd ct 2 (ct 2 + bI (s_up F a b (nI q)))) ch) := hD
    refine lv_aload_n hx hb dX1_bout_42 rfl (lv_at hl 0 rfl) ?_
    refine lv_dup hx hb dX1_bout_43 rfl ?_
    refine va_get (D := (dC, dI)) (ci := 1) (v := .int ((upd ct 2 (ct 2 + bI (s_up F a b (nI q)))) 1)) (C := RX1) (T := TX1) (N := 6) hx hb hts hinX1 hown hK hP 0 rfl rfl 4 (by decide) (hts (.fieldLink RX1 74 "WrestleBook" "boutsHeld" "I") (by decide +kernel)) (fun _ h9 => h9) rfl dX1_bout_44 ?_
    refine lv_iconst (v := 1) hx hb dX1_bout_47 (by decide) ?_
    refine lv_iadd hx hb dX1_bout_48 ?_
    refine rv_top (y := ct 1 + 1) (by rw [pk_un (by decide)]) ?_
    refine va_put (D := (dC, dI)) (ci := 1) (v := .int (ct 1 + 1)) (ty := .int) (C := RX1) (T := TX1) (N := 6) hx hb hts hinX1 tyX1 tyX1_ok nmX1 hown hK hP hD hS 0 rfl rfl 4 (by decide) (hts (.fieldLink RX1 74 "WrestleBook" "boutsHeld" "I") (by decide +kernel)) (fun _ h9 => h9) rfl (by decide +kernel) rfl rfl (Nat.le_of_ble_eq_true rfl) dX1_bout_49 (fun H locs hP hD hS => ?_)
    have hP : va_P (dC, dI) vwCl (wB h r1 d1 r2 d2 rc cI n F n2 G (upd (upd ct 2 (ct 2 + bI (s_up F a b (nI q)))) 1 (ct 1 + 1)) ch) H := hP
    have hD : va_D A (wB h r1 d1 r2 d2 rc cI n F n2 G (upd (upd ct 2 (ct 2 + bI (s_up F a b (nI q)))) 1 (ct 1 + 1)) ch) := hD
    refine lv_aload_n hx hb dX1_bout_52 rfl (lv_at hl 0 rfl) ?_
    refine va_get (D := (dC, dI)) (ci := 1) (v := .ref r1) (C := RX1) (T := TX1) (N := 6) hx hb hts hinX1 hown hK hP 0 rfl rfl 0 (by decide) (hts (.fieldLink RX1 10 "WrestleBook" "roster" "LWrestleBook$Roster;") (by decide +kernel)) (fun _ h9 => h9) rfl dX1_bout_53 ?_
    refine lv_iload_n hx hb dX1_bout_56 rfl (lv_at hl 1 rfl) ?_
    refine lv_iload_n hx hb dX1_bout_57 rfl (lv_at hl 2 rfl) ?_
    refine lv_iload_n hx hb dX1_bout_58 rfl (lv_at hl 3 rfl) ?_
    have hPc := hP.sub (ws' := (wR r1 d1 cI n F)) [2, 3, 4, 5, 6, 7, 8, 9] rfl
    have hDc := hD.sub (ws' := (wR r1 d1 cI n F)) [2, 3, 4, 5, 6, 7, 8, 9] (by decide) rfl
    have hFc := va_free (wc := (wR r1 d1 cI n F)) hD hS hA [2, 3, 4, 5, 6, 7, 8, 9] rfl
    refine va_calli (va_runV (As := [.int (nI a), .int (nI b), .int (nI q)]) (rest := []) ⟨hx, hb, hml, hown, hts⟩ (c_X0_hold l dC dI cI r1 d1 n F H.size a (show a < n by omega) b (show b < n by omega) q hq hn hR) (cwV 3 hts gX1_bout_X0_hold rfl rfl rfl (by decide +kernel) ⟨Nat.le_of_ble_eq_true rfl, Nat.le_of_ble_eq_true rfl⟩) ⟨PW.blind, va_recv hK hP (ci := 0) (q0 := 2) rfl rfl, fun U hU hW => ⟨rfl, PW.go hPc hK hDc hE hS hFc hU hW⟩⟩ rfl rfl hl.1 rfl (lv_room (Nat.le_of_ble_eq_true rfl)) dX1_bout_59 ⟨Nat.le_of_ble_eq_true rfl, Nat.le_of_ble_eq_true rfl⟩) hS (fun q _ h9 => hFc q h9) hFc (fun r u9 t9 H1 locs ht9 hvm9 hw9 hB9 hz9 hk9 hS => ?_)
    obtain ⟨hP9, hD9⟩ := hB9
    rw [ht9] at hP9
    obtain ⟨hP, hD⟩ := va_join (wr := ([(h, .inr (1, [.ref r1, .ref r2, .ref rc, .int ((upd (upd ct 2 (ct 2 + bI (s_up F a b (nI q)))) 1 (ct 1 + 1)) 0), .int ((upd (upd ct 2 (ct 2 + bI (s_up F a b (nI q)))) 1 (ct 1 + 1)) 1), .int ((upd (upd ct 2 (ct 2 + bI (s_up F a b (nI q)))) 1 (ct 1 + 1)) 2)])), (rc, .inl (cI, 10, .inl (ch))), (r2, .inr (0, [.ref (d2 0), .ref (d2 1), .ref (d2 2), .ref (d2 3), .ref (d2 4), .ref (d2 5), .ref (d2 6), .int (nI n2)])), (d2 0, .inl (cI, 12, .inl (G 0))), (d2 1, .inl (cI, 12, .inl (G 1))), (d2 2, .inl (cI, 12, .inl (G 2))), (d2 3, .inl (cI, 12, .inl (G 3))), (d2 4, .inl (cI, 12, .inl (G 4))), (d2 5, .inl (cI, 12, .inl (G 5))), (d2 6, .inl (cI, 12, .inl (G 6)))] : va_W)) (w1 := wR r1 d1 cI n (s_hold F a b q)) hP hD [2, 3, 4, 5, 6, 7, 8, 9] [0, 1, 10, 11, 12, 13, 14, 15, 16, 17] rfl rfl (by decide) (by decide) hk9 hFc hP9 hD9
    generalize H1 = H at hP hS ⊢
    have hP := hP.sub (ws' := wB h r1 d1 r2 d2 rc cI n (s_hold F a b q) n2 G (upd (upd ct 2 (ct 2 + bI (s_up F a b (nI q)))) 1 (ct 1 + 1)) ch) [0, 1, 10, 11, 12, 13, 14, 15, 16, 17, 2, 3, 4, 5, 6, 7, 8, 9] rfl
    have hD := hD.sub (ws' := wB h r1 d1 r2 d2 rc cI n (s_hold F a b q) n2 G (upd (upd ct 2 (ct 2 + bI (s_up F a b (nI q)))) 1 (ct 1 + 1)) ch) [0, 1, 10, 11, 12, 13, 14, 15, 16, 17, 2, 3, 4, 5, 6, 7, 8, 9] (by decide) rfl
    have hP : va_P (dC, dI) vwCl (wB h r1 d1 r2 d2 rc cI n (s_hold F a b q) n2 G (upd (upd ct 2 (ct 2 + bI (s_up F a b (nI q)))) 1 (ct 1 + 1)) ch) H := hP
    have hD : va_D A (wB h r1 d1 r2 d2 rc cI n (s_hold F a b q) n2 G (upd (upd ct 2 (ct 2 + bI (s_up F a b (nI q)))) 1 (ct 1 + 1)) ch) := hD
    have hw9 : r = s_gain F a b (nI q) := hw9
    subst hw9
    refine vx_ret ?_
    refine W.widen (k := 4) (n := 24) (Nat.le_of_ble_eq_true rfl) (Nat.le_of_ble_eq_true rfl) ?_
    have hP8 : va_P (dC, dI) vwCl (wB h r1 d1 r2 d2 rc cI n (s_hold F (cl (nI a)) (cl (nI b)) (cl (nI q))) n2 G (s_ct ct F (cl (nI a)) (cl (nI b)) (cl (nI q))) ch) H := by rw [cl_nI (show a < 2 ^ 31 by omega), cl_nI (show b < 2 ^ 31 by omega), cl_nI (show q < 2 ^ 31 by omega)]; exact hP
    have hD8 : va_D A (wB h r1 d1 r2 d2 rc cI n (s_hold F (cl (nI a)) (cl (nI b)) (cl (nI q))) n2 G (s_ct ct F (cl (nI a)) (cl (nI b)) (cl (nI q))) ch) := by rw [cl_nI (show a < 2 ^ 31 by omega), cl_nI (show b < 2 ^ 31 by omega), cl_nI (show q < 2 ^ 31 by omega)]; exact hD
    exact W.iret (v := s_gain F a b (nI q)) hx hb hr (fun t ht hW => ⟨⟨_, (), rfl, ⟨(show x_bout n (nI a) (nI b) (nI q) = 0 from by simp [x_bout, h_a, h_b, hab, hcr]), (show s_gain F a b (nI q) = s_gain F (cl (nI a)) (cl (nI b)) (nI q) from by rw [cl_nI (by omega), cl_nI (by omega)])⟩, by rw [ht]; exact hP8, hD8⟩, hS.F ht⟩) hS.2.2 dX1_bout_62

set_option maxHeartbeats 4000000 in
set_option maxRecDepth 100000 in
theorem c_X1_end (l : Launch) (dC : Nat → ClassId) (dI : Nat → Nat → Nat) (cI : ClassId) (h r1 : Nat) (d1 : Nat → Nat) (r2 : Nat) (d2 : Nat → Nat) (rc : Nat) (n : Nat) (F : Nat → Nat → Int32) (n2 : Nat) (G : Nat → Nat → Int32) (ct ch : Nat → Int32) (sz : Nat) (hn : n ≤ 12) : Met l yX1_end wsX1_end ({ frames := 4, cells := 0, slots := 0, locals := 91 } : Room) (va_Pc [.ref h] (fun U => PW dC dI cI (wB h r1 d1 r2 d2 rc cI n F n2 G ct ch) sz U)) (va_Qi (fun r (_ : Unit) => r = (s_endU n (s_drift n F) 2).2) (BW dC dI (va_A (wB h r1 d1 r2 d2 rc cI n F n2 G ct ch) sz) (wB h r1 d1 r2 d2 rc cI n (s_clear n (s_endU n (s_drift n F) 2).1) n2 G (upd ct 0 (ct 0 + 1)) ch)) (va_A (wB h r1 d1 r2 d2 rc cI n F n2 G ct ch) sz)) 0 0 (va_A (wB h r1 d1 r2 d2 rc cI n F n2 G ct ch) sz) := by
  refine Met.ofW (cc := cX1_end) (maxL := 3) (ret := (some .int)) (by decide) rfl ?_
  intro p e s m args below meth c s₁ B hml hv
  obtain ⟨rfl, hsz, hP, hK, hD0, hE⟩ := hv
  have hx := B.exec
  have hb := B.bytes
  have hr := B.returns
  have hts := atoms_spec (ws := wsX1_end) B.pre
  have hown : s.vm.findClass RX1 = some m.cls := findClass_of_methodNamed B.named
  have hlocks := B.notSynchronized
  subst hsz
  have hD := hD0.self (sz := s.heap.size)
  generalize hAe : va_A (wB h r1 d1 r2 d2 rc cI n F n2 G ct ch) s.heap.size = A at hD hE ⊢
  have hA : ∀ q : Nat, s.heap.size ≤ q → A q := fun q h9 => by rw [← hAe]; exact Or.inr h9
  have hS : va_S A s.heap s.heap [] := va_S.rf
  have hinX1 : ∀ w ∈ wsX10, w ∈ wsX1_end := by decide +kernel
  have hl := lv_entry ([.ref h]) (n := 3) (Nat.le_of_ble_eq_true rfl)
  rw [lg_entry_eq]
  generalize (lg_sl ([.ref h]) ++ List.replicate (3 - (lg_sl ([.ref h])).length) Slot.unset).toArray = ls at hl ⊢
  have hl : lv_has ls 3 [(0, .ref h)] := hl
  refine lv_aload_n hx hb dX1_end_0 rfl (lv_at hl 0 rfl) ?_
  refine va_get (D := (dC, dI)) (ci := 1) (v := .ref r1) (C := RX1) (T := TX1) (N := 6) hx hb hts hinX1 hown hK hP 0 rfl rfl 0 (by decide) (hts (.fieldLink RX1 10 "WrestleBook" "roster" "LWrestleBook$Roster;") (by decide +kernel)) (fun _ h9 => h9) rfl dX1_end_1 ?_
  have hPc := hP.sub (ws' := (wR r1 d1 cI n F)) [2, 3, 4, 5, 6, 7, 8, 9] rfl
  have hDc := hD.sub (ws' := (wR r1 d1 cI n F)) [2, 3, 4, 5, 6, 7, 8, 9] (by decide) rfl
  have hFc := va_free (wc := (wR r1 d1 cI n F)) hD hS hA [2, 3, 4, 5, 6, 7, 8, 9] rfl
  refine va_callv (va_runV (As := []) (rest := []) ⟨hx, hb, hml, hown, hts⟩ (c_X0_drift l dC dI cI r1 d1 n F s.heap.size hn) (cwV 0 hts gX1_end_X0_drift rfl rfl rfl (by decide +kernel) ⟨Nat.le_of_ble_eq_true rfl, Nat.le_of_ble_eq_true rfl⟩) ⟨PW.blind, va_recv hK hP (ci := 0) (q0 := 2) rfl rfl, fun U hU hW => ⟨rfl, PW.go hPc hK hDc hE hS hFc hU hW⟩⟩ rfl rfl hl.1 rfl (lv_room (Nat.le_of_ble_eq_true rfl)) dX1_end_4 ⟨Nat.le_of_ble_eq_true rfl, Nat.le_of_ble_eq_true rfl⟩) hS (fun q _ h9 => hFc q h9) hFc (fun u9 t9 H1 locs ht9 hvm9 hw9 hB9 hz9 hk9 hS => ?_)
  obtain ⟨hP9, hD9⟩ := hB9
  rw [ht9] at hP9
  obtain ⟨hP, hD⟩ := va_join (wr := ([(h, .inr (1, [.ref r1, .ref r2, .ref rc, .int (ct 0), .int (ct 1), .int (ct 2)])), (rc, .inl (cI, 10, .inl (ch))), (r2, .inr (0, [.ref (d2 0), .ref (d2 1), .ref (d2 2), .ref (d2 3), .ref (d2 4), .ref (d2 5), .ref (d2 6), .int (nI n2)])), (d2 0, .inl (cI, 12, .inl (G 0))), (d2 1, .inl (cI, 12, .inl (G 1))), (d2 2, .inl (cI, 12, .inl (G 2))), (d2 3, .inl (cI, 12, .inl (G 3))), (d2 4, .inl (cI, 12, .inl (G 4))), (d2 5, .inl (cI, 12, .inl (G 5))), (d2 6, .inl (cI, 12, .inl (G 6)))] : va_W)) (w1 := wR r1 d1 cI n (s_drift n F)) hP hD [2, 3, 4, 5, 6, 7, 8, 9] [0, 1, 10, 11, 12, 13, 14, 15, 16, 17] rfl rfl (by decide) (by decide) hk9 hFc hP9 hD9
  generalize H1 = H at hP hS ⊢
  have hP := hP.sub (ws' := wB h r1 d1 r2 d2 rc cI n (s_drift n F) n2 G ct ch) [0, 1, 10, 11, 12, 13, 14, 15, 16, 17, 2, 3, 4, 5, 6, 7, 8, 9] rfl
  have hD := hD.sub (ws' := wB h r1 d1 r2 d2 rc cI n (s_drift n F) n2 G ct ch) [0, 1, 10, 11, 12, 13, 14, 15, 16, 17, 2, 3, 4, 5, 6, 7, 8, 9] (by decide) rfl
  have hP : va_P (dC, dI) vwCl (wB h r1 d1 r2 d2 rc cI n (s_drift n F) n2 G ct ch) H := hP
  have hD : va_D A (wB h r1 d1 r2 d2 rc cI n (s_drift n F) n2 G ct ch) := hD
  refine lv_iconst (v := 0) hx hb dX1_end_7 (by decide) ?_
  refine lv_istore_n (lv' := [(1, .int 0), (0, .ref h)]) hx hb dX1_end_8 rfl hl (by decide) rfl (fun ls hl => ?_)
  refine lv_iconst (v := 0) hx hb dX1_end_9 (by decide) ?_
  refine lv_istore_n (lv' := [(2, .int 0), (1, .int 0), (0, .ref h)]) hx hb dX1_end_10 rfl hl (by decide) rfl (fun ls hl => ?_)
  have L_11 : ∀ (k i : Nat) (u1 : Int32) (E1 : Nat → Nat → Int32), i + k = 2 → (E1, u1) = s_endU n (s_drift n F) i → ∀ (H : Heap) (locs : List Loc), va_P (dC, dI) vwCl (wB h r1 d1 r2 d2 rc cI n E1 n2 G ct ch) H → va_D A (wB h r1 d1 r2 d2 rc cI n E1 n2 G ct ch) → va_S A s.heap H locs → ∀ (ls : Array Slot), lv_has ls 3 [(2, .int (nI i)), (1, .int u1), (0, .ref h)] → W p l e (headSpec wsX1_end ({ frames := 4, cells := 0, slots := 0, locals := 91 } : Room)).room s m ([.ref h] : List Value).toArray below meth c H locs 0 0 (MQ below (va_Qi (fun r (_ : Unit) => r = (s_endU n (s_drift n F) 2).2) (BW dC dI A (wB h r1 d1 r2 d2 rc cI n (s_clear n (s_endU n (s_drift n F) 2).1) n2 G (upd ct 0 (ct 0 + 1)) ch)) A) ([.ref h] : List Value).toArray s 0 0 A) (F0 m 11 ls []) := by
    intro k
    induction k with
    | zero =>
      intro i u1 E1 e_i hE1 H locs hP hD hS ls hl
      refine lv_iload_n hx hb dX1_end_11 rfl (lv_at hl 0 rfl) ?_
      refine lv_iconst (v := 2) hx hb dX1_end_12 (by decide) ?_
      refine rv_icmp_ge (tgt := 36) hx hb (a := i) (b := 2) (by omega) (by omega) dX1_end_13 (by decide) (fun c_13 => ?_) (fun c_13 => ?_)
      · refine lv_aload_n hx hb dX1_end_36 rfl (lv_at hl 2 rfl) ?_
        refine va_get (D := (dC, dI)) (ci := 1) (v := .ref r1) (C := RX1) (T := TX1) (N := 6) hx hb hts hinX1 hown hK hP 0 rfl rfl 0 (by decide) (hts (.fieldLink RX1 10 "WrestleBook" "roster" "LWrestleBook$Roster;") (by decide +kernel)) (fun _ h9 => h9) rfl dX1_end_37 ?_
        have hPc := hP.sub (ws' := (wR r1 d1 cI n E1)) [2, 3, 4, 5, 6, 7, 8, 9] rfl
        have hDc := hD.sub (ws' := (wR r1 d1 cI n E1)) [2, 3, 4, 5, 6, 7, 8, 9] (by decide) rfl
        have hFc := va_free (wc := (wR r1 d1 cI n E1)) hD hS hA [2, 3, 4, 5, 6, 7, 8, 9] rfl
        refine va_callv (va_runV (As := []) (rest := []) ⟨hx, hb, hml, hown, hts⟩ (c_X0_clearSeason l dC dI cI r1 d1 n E1 H.size hn) (cwV 0 hts gX1_end_X0_clearSeason rfl rfl rfl (by decide +kernel) ⟨Nat.le_of_ble_eq_true rfl, Nat.le_of_ble_eq_true rfl⟩) ⟨PW.blind, va_recv hK hP (ci := 0) (q0 := 2) rfl rfl, fun U hU hW => ⟨rfl, PW.go hPc hK hDc hE hS hFc hU hW⟩⟩ rfl rfl hl.1 rfl (lv_room (Nat.le_of_ble_eq_true rfl)) dX1_end_40 ⟨Nat.le_of_ble_eq_true rfl, Nat.le_of_ble_eq_true rfl⟩) hS (fun q _ h9 => hFc q h9) hFc (fun u9 t9 H1 locs ht9 hvm9 hw9 hB9 hz9 hk9 hS => ?_)
        obtain ⟨hP9, hD9⟩ := hB9
        rw [ht9] at hP9
        obtain ⟨hP, hD⟩ := va_join (wr := ([(h, .inr (1, [.ref r1, .ref r2, .ref rc, .int (ct 0), .int (ct 1), .int (ct 2)])), (rc, .inl (cI, 10, .inl (ch))), (r2, .inr (0, [.ref (d2 0), .ref (d2 1), .ref (d2 2), .ref (d2 3), .ref (d2 4), .ref (d2 5), .ref (d2 6), .int (nI n2)])), (d2 0, .inl (cI, 12, .inl (G 0))), (d2 1, .inl (cI, 12, .inl (G 1))), (d2 2, .inl (cI, 12, .inl (G 2))), (d2 3, .inl (cI, 12, .inl (G 3))), (d2 4, .inl (cI, 12, .inl (G 4))), (d2 5, .inl (cI, 12, .inl (G 5))), (d2 6, .inl (cI, 12, .inl (G 6)))] : va_W)) (w1 := wR r1 d1 cI n (s_clear n E1)) hP hD [2, 3, 4, 5, 6, 7, 8, 9] [0, 1, 10, 11, 12, 13, 14, 15, 16, 17] rfl rfl (by decide) (by decide) hk9 hFc hP9 hD9
        generalize H1 = H at hP hS ⊢
        have hP := hP.sub (ws' := wB h r1 d1 r2 d2 rc cI n (s_clear n E1) n2 G ct ch) [0, 1, 10, 11, 12, 13, 14, 15, 16, 17, 2, 3, 4, 5, 6, 7, 8, 9] rfl
        have hD := hD.sub (ws' := wB h r1 d1 r2 d2 rc cI n (s_clear n E1) n2 G ct ch) [0, 1, 10, 11, 12, 13, 14, 15, 16, 17, 2, 3, 4, 5, 6, 7, 8, 9] (by decide) rfl
        have hP : va_P (dC, dI) vwCl (wB h r1 d1 r2 d2 rc cI n (s_clear n E1) n2 G ct ch) H := hP
        have hD : va_D A (wB h r1 d1 r2 d2 rc cI n (s_clear n E1) n2 G ct ch) := hD
        refine lv_aload_n hx hb dX1_end_43 rfl (lv_at hl 2 rfl) ?_
        refine lv_dup hx hb dX1_end_44 rfl ?_
        refine va_get (D := (dC, dI)) (ci := 1) (v := .int (ct 0)) (C := RX1) (T := TX1) (N := 6) hx hb hts hinX1 hown hK hP 0 rfl rfl 3 (by decide) (hts (.fieldLink RX1 90 "WrestleBook" "season" "I") (by decide +kernel)) (fun _ h9 => h9) rfl dX1_end_45 ?_
        refine lv_iconst (v := 1) hx hb dX1_end_48 (by decide) ?_
        refine lv_iadd hx hb dX1_end_49 ?_
        refine va_put (D := (dC, dI)) (ci := 1) (v := .int ((ct 0) + 1)) (ty := .int) (C := RX1) (T := TX1) (N := 6) hx hb hts hinX1 tyX1 tyX1_ok nmX1 hown hK hP hD hS 0 rfl rfl 3 (by decide) (hts (.fieldLink RX1 90 "WrestleBook" "season" "I") (by decide +kernel)) (fun _ h9 => h9) rfl (by decide +kernel) rfl rfl (Nat.le_of_ble_eq_true rfl) dX1_end_50 (fun H locs hP hD hS => ?_)
        have hP : va_P (dC, dI) vwCl (wB h r1 d1 r2 d2 rc cI n (s_clear n E1) n2 G (upd ct 0 ((ct 0) + 1)) ch) H := hP
        have hD : va_D A (wB h r1 d1 r2 d2 rc cI n (s_clear n E1) n2 G (upd ct 0 ((ct 0) + 1)) ch) := hD
        refine lv_iload_n hx hb dX1_end_53 rfl (lv_at hl 1 rfl) ?_
        have hP8 : va_P (dC, dI) vwCl (wB h r1 d1 r2 d2 rc cI n (s_clear n (s_endU n (s_drift n F) 2).1) n2 G (upd ct 0 (ct 0 + 1)) ch) H := by rw [← show i = 2 by omega, ← hE1]; exact hP
        have hD8 : va_D A (wB h r1 d1 r2 d2 rc cI n (s_clear n (s_endU n (s_drift n F) 2).1) n2 G (upd ct 0 (ct 0 + 1)) ch) := by rw [← show i = 2 by omega, ← hE1]; exact hD
        exact W.iret (v := u1) hx hb hr (fun t ht hW => ⟨⟨_, (), rfl, (show u1 = (s_endU n (s_drift n F) 2).2 from by rw [← show i = 2 by omega, ← hE1]), by rw [ht]; exact hP8, hD8⟩, hS.F ht⟩) hS.2.2 dX1_end_54
      · exact absurd c_13 (by omega)
    | succ k ih_11 =>
      intro i u1 E1 e_i hE1 H locs hP hD hS ls hl
      refine lv_iload_n hx hb dX1_end_11 rfl (lv_at hl 0 rfl) ?_
      refine lv_iconst (v := 2) hx hb dX1_end_12 (by decide) ?_
      refine rv_icmp_ge (tgt := 36) hx hb (a := i) (b := 2) (by omega) (by omega) dX1_end_13 (by decide) (fun c_13 => ?_) (fun c_13 => ?_)
      · exact absurd c_13 (by omega)
      · refine lv_aload_n hx hb dX1_end_16 rfl (lv_at hl 2 rfl) ?_
        refine va_get (D := (dC, dI)) (ci := 1) (v := .ref r1) (C := RX1) (T := TX1) (N := 6) hx hb hts hinX1 hown hK hP 0 rfl rfl 0 (by decide) (hts (.fieldLink RX1 10 "WrestleBook" "roster" "LWrestleBook$Roster;") (by decide +kernel)) (fun _ h9 => h9) rfl dX1_end_17 ?_
        refine lv_iload_n hx hb dX1_end_20 rfl (lv_at hl 0 rfl) ?_
        have hPc := hP.sub (ws' := (wR r1 d1 cI n E1)) [2, 3, 4, 5, 6, 7, 8, 9] rfl
        have hDc := hD.sub (ws' := (wR r1 d1 cI n E1)) [2, 3, 4, 5, 6, 7, 8, 9] (by decide) rfl
        have hFc := va_free (wc := (wR r1 d1 cI n E1)) hD hS hA [2, 3, 4, 5, 6, 7, 8, 9] rfl
        refine va_calli (va_runV (As := [.int (nI i)]) (rest := []) ⟨hx, hb, hml, hown, hts⟩ (c_X0_exchange l dC dI cI r1 d1 n E1 H.size (nI i) hn) (cwV 1 hts gX1_end_X0_exchange rfl rfl rfl (by decide +kernel) ⟨Nat.le_of_ble_eq_true rfl, Nat.le_of_ble_eq_true rfl⟩) ⟨PW.blind, va_recv hK hP (ci := 0) (q0 := 2) rfl rfl, fun U hU hW => ⟨rfl, PW.go hPc hK hDc hE hS hFc hU hW⟩⟩ rfl rfl hl.1 rfl (lv_room (Nat.le_of_ble_eq_true rfl)) dX1_end_21 ⟨Nat.le_of_ble_eq_true rfl, Nat.le_of_ble_eq_true rfl⟩) hS (fun q _ h9 => hFc q h9) hFc (fun r u9 t9 H1 locs ht9 hvm9 hw9 hB9 hz9 hk9 hS => ?_)
        obtain ⟨hP9, hD9⟩ := hB9
        rw [ht9] at hP9
        obtain ⟨hP, hD⟩ := va_join (wr := ([(h, .inr (1, [.ref r1, .ref r2, .ref rc, .int (ct 0), .int (ct 1), .int (ct 2)])), (rc, .inl (cI, 10, .inl (ch))), (r2, .inr (0, [.ref (d2 0), .ref (d2 1), .ref (d2 2), .ref (d2 3), .ref (d2 4), .ref (d2 5), .ref (d2 6), .int (nI n2)])), (d2 0, .inl (cI, 12, .inl (G 0))), (d2 1, .inl (cI, 12, .inl (G 1))), (d2 2, .inl (cI, 12, .inl (G 2))), (d2 3, .inl (cI, 12, .inl (G 3))), (d2 4, .inl (cI, 12, .inl (G 4))), (d2 5, .inl (cI, 12, .inl (G 5))), (d2 6, .inl (cI, 12, .inl (G 6)))] : va_W)) (w1 := wR r1 d1 cI n (s_exch n E1 (nI i))) hP hD [2, 3, 4, 5, 6, 7, 8, 9] [0, 1, 10, 11, 12, 13, 14, 15, 16, 17] rfl rfl (by decide) (by decide) hk9 hFc hP9 hD9
        generalize H1 = H at hP hS ⊢
        have hP := hP.sub (ws' := wB h r1 d1 r2 d2 rc cI n (s_exch n E1 (nI i)) n2 G ct ch) [0, 1, 10, 11, 12, 13, 14, 15, 16, 17, 2, 3, 4, 5, 6, 7, 8, 9] rfl
        have hD := hD.sub (ws' := wB h r1 d1 r2 d2 rc cI n (s_exch n E1 (nI i)) n2 G ct ch) [0, 1, 10, 11, 12, 13, 14, 15, 16, 17, 2, 3, 4, 5, 6, 7, 8, 9] (by decide) rfl
        have hP : va_P (dC, dI) vwCl (wB h r1 d1 r2 d2 rc cI n (s_exch n E1 (nI i)) n2 G ct ch) H := hP
        have hD : va_D A (wB h r1 d1 r2 d2 rc cI n (s_exch n E1 (nI i)) n2 G ct ch) := hD
        have hw9 : r = bI (s_exchB n E1 (nI i)) := hw9
        subst hw9
        refine rv_ifb_eq (tgt := 30) hx hb dX1_end_24 (by decide) (fun c_24 => ?_) (fun c_24 => ?_)
        · refine lv_iinc (v := nI (i + 1)) (lv' := [(2, .int (nI (i + 1))), (1, .int u1), (0, .ref h)]) hx hb dX1_end_30 hl (k := 0) rfl (nI_add i 1) (by decide) rfl (fun ls hl => ?_)
          refine lv_goto (tgt := 11) hx hb dX1_end_33 (by decide) ?_
          exact ih_11 (i + 1) u1 (s_exch n E1 (nI i)) (by omega) (by rw [s_endU_s, ← hE1]; simp [c_24]) _ _ hP hD hS ls (lv_sub hl [0, 1, 2] rfl)
        · refine lv_iinc (v := u1 + 1) (lv' := [(1, .int (u1 + 1)), (2, .int (nI i)), (0, .ref h)]) hx hb dX1_end_27 hl (k := 1) rfl rfl (by decide) rfl (fun ls hl => ?_)
          refine lv_iinc (v := nI (i + 1)) (lv' := [(2, .int (nI (i + 1))), (1, .int (u1 + 1)), (0, .ref h)]) hx hb dX1_end_30 hl (k := 1) rfl (nI_add i 1) (by decide) rfl (fun ls hl => ?_)
          refine lv_goto (tgt := 11) hx hb dX1_end_33 (by decide) ?_
          exact ih_11 (i + 1) (u1 + 1) (s_exch n E1 (nI i)) (by omega) (by rw [s_endU_s, ← hE1]; simp [c_24]) _ _ hP hD hS ls (lv_sub hl [0, 1, 2] rfl)
  exact L_11 2 0 0 (s_drift n F) (by omega) rfl _ _ hP hD hS ls (lv_sub hl [0, 1, 2] rfl)
