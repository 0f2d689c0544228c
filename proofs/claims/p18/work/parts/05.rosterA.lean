set_option maxHeartbeats 4000000 in
set_option maxRecDepth 100000 in
theorem c_X0_size (l : Launch) (dC : Nat → ClassId) (dI : Nat → Nat → Nat) (cI : ClassId) (h : Nat) (ad : Nat → Nat) (n : Nat) (F : Nat → Nat → Int32) : Met l yX0_size wsX0_size ({ frames := 0, cells := 0, slots := 0, locals := 0 } : Room) (va_Pc [.ref h] (fun U => PR dC dI cI (wR h ad cI n F) U)) (vp_Si (fun r => r = nI n)) 0 0 (fun _ => False) := by
  refine Met.ofW (cc := cX0_size) (maxL := 1) (ret := (some .int)) (by decide) rfl ?_
  intro p e s m args below meth c s₁ B hml hv
  obtain ⟨rfl, hP, hK, hE⟩ := hv
  have hx := B.exec
  have hb := B.bytes
  have hr := B.returns
  have hts := atoms_spec (ws := wsX0_size) B.pre
  have hown : s.vm.findClass RX0 = some m.cls := findClass_of_methodNamed B.named
  have hlocks := B.notSynchronized
  have hS : va_S (fun _ => False) s.heap s.heap [] := va_S.rf
  have hinX0 : ∀ w ∈ wsX00, w ∈ wsX0_size := by decide +kernel
  have hl := lv_entry ([.ref h]) (n := 1) (Nat.le_of_ble_eq_true rfl)
  rw [lg_entry_eq]
  generalize (lg_sl ([.ref h]) ++ List.replicate (1 - (lg_sl ([.ref h])).length) Slot.unset).toArray = ls at hl ⊢
  have hl : lv_has ls 1 [(0, .ref h)] := hl
  refine lv_aload_n hx hb dX0_size_0 rfl (lv_at hl 0 rfl) ?_
  refine va_get (D := (dC, dI)) (ci := 0) (v := .int (nI n)) (C := RX0) (T := TX0) (N := 8) hx hb hts hinX0 hown hK hP 0 rfl rfl 7 (by decide) (hts (.fieldLink RX0 33 "WrestleBook$Roster" "size" "I") (by decide +kernel)) (fun _ h9 => h9) rfl dX0_size_1 ?_
  exact W.iret (v := nI n) hx hb hr (fun t ht hW => ⟨_, rfl, (show nI n = nI n from by rfl), ht⟩) hS.2.2 dX0_size_4

set_option maxHeartbeats 4000000 in
set_option maxRecDepth 100000 in
theorem c_X0_isFull (l : Launch) (dC : Nat → ClassId) (dI : Nat → Nat → Nat) (cI : ClassId) (h : Nat) (ad : Nat → Nat) (n : Nat) (F : Nat → Nat → Int32) (hn : n ≤ 12) : Met l yX0_isFull wsX0_isFull ({ frames := 0, cells := 0, slots := 0, locals := 0 } : Room) (va_Pc [.ref h] (fun U => PR dC dI cI (wR h ad cI n F) U)) (vp_Si (fun r => r = bI (decide (¬ n < 12)))) 0 0 (fun _ => False) := by
  refine Met.ofW (cc := cX0_isFull) (maxL := 1) (ret := (some .boolean)) (by decide) rfl ?_
  intro p e s m args below meth c s₁ B hml hv
  obtain ⟨rfl, hP, hK, hE⟩ := hv
  have hx := B.exec
  have hb := B.bytes
  have hr := B.returns
  have hts := atoms_spec (ws := wsX0_isFull) B.pre
  have hown : s.vm.findClass RX0 = some m.cls := findClass_of_methodNamed B.named
  have hlocks := B.notSynchronized
  have hS : va_S (fun _ => False) s.heap s.heap [] := va_S.rf
  have hinX0 : ∀ w ∈ wsX00, w ∈ wsX0_isFull := by decide +kernel
  have hl := lv_entry ([.ref h]) (n := 1) (Nat.le_of_ble_eq_true rfl)
  rw [lg_entry_eq]
  generalize (lg_sl ([.ref h]) ++ List.replicate (1 - (lg_sl ([.ref h])).length) Slot.unset).toArray = ls at hl ⊢
  have hl : lv_has ls 1 [(0, .ref h)] := hl
  refine lv_aload_n hx hb dX0_isFull_0 rfl (lv_at hl 0 rfl) ?_
  refine va_get (D := (dC, dI)) (ci := 0) (v := .int (nI n)) (C := RX0) (T := TX0) (N := 8) hx hb hts hinX0 hown hK hP 0 rfl rfl 7 (by decide) (hts (.fieldLink RX0 33 "WrestleBook$Roster" "size" "I") (by decide +kernel)) (fun _ h9 => h9) rfl dX0_isFull_1 ?_
  refine lv_bipush (v := 12) hx hb dX0_isFull_4 (by decide) ?_
  refine rv_icmp_lt (tgt := 13) hx hb (a := n) (b := 12) (by omega) (by omega) dX0_isFull_6 (by decide) (fun c_6 => ?_) (fun c_6 => ?_)
  · refine lv_iconst (v := 0) hx hb dX0_isFull_13 (by decide) ?_
    exact W.zret (v := 0) hx hb hr (by decide) (fun t ht hW => ⟨_, rfl, (show 0 = bI (decide (¬ n < 12)) from by simp [bI, c_6]), ht⟩) hS.2.2 dX0_isFull_14
  · refine lv_iconst (v := 1) hx hb dX0_isFull_9 (by decide) ?_
    refine lv_goto (tgt := 14) hx hb dX0_isFull_10 (by decide) ?_
    exact W.zret (v := 1) hx hb hr (by decide) (fun t ht hW => ⟨_, rfl, (show 1 = bI (decide (¬ n < 12)) from by simp [bI, c_6]), ht⟩) hS.2.2 dX0_isFull_14

set_option maxHeartbeats 4000000 in
set_option maxRecDepth 100000 in
theorem c_X0_has (l : Launch) (dC : Nat → ClassId) (dI : Nat → Nat → Nat) (cI : ClassId) (h : Nat) (ad : Nat → Nat) (n : Nat) (F : Nat → Nat → Int32) (vp : Int32) : Met l yX0_has wsX0_has ({ frames := 0, cells := 0, slots := 0, locals := 0 } : Room) (va_Pc [.ref h, .int vp] (fun U => PR dC dI cI (wR h ad cI n F) U)) (vp_Si (fun r => r = bI (s_has n vp))) 0 0 (fun _ => False) := by
  refine Met.ofW (cc := cX0_has) (maxL := 2) (ret := (some .boolean)) (by decide) rfl ?_
  intro p e s m args below meth c s₁ B hml hv
  obtain ⟨rfl, hP, hK, hE⟩ := hv
  have hx := B.exec
  have hb := B.bytes
  have hr := B.returns
  have hts := atoms_spec (ws := wsX0_has) B.pre
  have hown : s.vm.findClass RX0 = some m.cls := findClass_of_methodNamed B.named
  have hlocks := B.notSynchronized
  have hS : va_S (fun _ => False) s.heap s.heap [] := va_S.rf
  have hinX0 : ∀ w ∈ wsX00, w ∈ wsX0_has := by decide +kernel
  have hl := lv_entry ([.ref h, .int vp]) (n := 2) (Nat.le_of_ble_eq_true rfl)
  rw [lg_entry_eq]
  generalize (lg_sl ([.ref h, .int vp]) ++ List.replicate (2 - (lg_sl ([.ref h, .int vp])).length) Slot.unset).toArray = ls at hl ⊢
  have hl : lv_has ls 2 [(0, .ref h), (1, .int vp)] := hl
  refine lv_iload_n hx hb dX0_has_0 rfl (lv_at hl 1 rfl) ?_
  refine lv_if_lt (tgt := 16) hx hb dX0_has_1 (by decide) (fun c_1 => ?_) (fun c_1 => ?_)
  · refine lv_iconst (v := 0) hx hb dX0_has_16 (by decide) ?_
    exact W.zret (v := 0) hx hb hr (by decide) (fun t ht hW => ⟨_, rfl, (show 0 = bI (s_has n vp) from by simp [s_has, bI, c_1]), ht⟩) hS.2.2 dX0_has_17
  · refine lv_iload_n hx hb dX0_has_4 rfl (lv_at hl 1 rfl) ?_
    refine lv_aload_n hx hb dX0_has_5 rfl (lv_at hl 0 rfl) ?_
    refine va_get (D := (dC, dI)) (ci := 0) (v := .int (nI n)) (C := RX0) (T := TX0) (N := 8) hx hb hts hinX0 hown hK hP 0 rfl rfl 7 (by decide) (hts (.fieldLink RX0 33 "WrestleBook$Roster" "size" "I") (by decide +kernel)) (fun _ h9 => h9) rfl dX0_has_6 ?_
    refine lv_icmp_ge (tgt := 16) hx hb dX0_has_9 (by decide) (fun c_9 => ?_) (fun c_9 => ?_)
    · refine lv_iconst (v := 0) hx hb dX0_has_16 (by decide) ?_
      exact W.zret (v := 0) hx hb hr (by decide) (fun t ht hW => ⟨_, rfl, (show 0 = bI (s_has n vp) from by simp [s_has, bI, c_1, c_9]), ht⟩) hS.2.2 dX0_has_17
    · refine lv_iconst (v := 1) hx hb dX0_has_12 (by decide) ?_
      refine lv_goto (tgt := 17) hx hb dX0_has_13 (by decide) ?_
      exact W.zret (v := 1) hx hb hr (by decide) (fun t ht hW => ⟨_, rfl, (show 1 = bI (s_has n vp) from by simp [s_has, bI, c_1, c_9]), ht⟩) hS.2.2 dX0_has_17

set_option maxHeartbeats 4000000 in
set_option maxRecDepth 100000 in
theorem c_X0_rating (l : Launch) (dC : Nat → ClassId) (dI : Nat → Nat → Nat) (cI : ClassId) (h : Nat) (ad : Nat → Nat) (n : Nat) (F : Nat → Nat → Int32) (w : Nat) (i_w : w < n) (hn : n ≤ 12) : Met l yX0_rating wsX0_rating ({ frames := 0, cells := 0, slots := 0, locals := 0 } : Room) (va_Pc [.ref h, .int (nI w)] (fun U => PR dC dI cI (wR h ad cI n F) U)) (vp_Si (fun r => r = F 1 w)) 0 0 (fun _ => False) := by
  refine Met.ofW (cc := cX0_rating) (maxL := 2) (ret := (some .int)) (by decide) rfl ?_
  intro p e s m args below meth c s₁ B hml hv
  obtain ⟨rfl, hP, hK, hE⟩ := hv
  have hx := B.exec
  have hb := B.bytes
  have hr := B.returns
  have hts := atoms_spec (ws := wsX0_rating) B.pre
  have hown : s.vm.findClass RX0 = some m.cls := findClass_of_methodNamed B.named
  have hlocks := B.notSynchronized
  have hS : va_S (fun _ => False) s.heap s.heap [] := va_S.rf
  have hinX0 : ∀ w ∈ wsX00, w ∈ wsX0_rating := by decide +kernel
  have hl := lv_entry ([.ref h, .int (nI w)]) (n := 2) (Nat.le_of_ble_eq_true rfl)
  rw [lg_entry_eq]
  generalize (lg_sl ([.ref h, .int (nI w)]) ++ List.replicate (2 - (lg_sl ([.ref h, .int (nI w)])).length) Slot.unset).toArray = ls at hl ⊢
  have hl : lv_has ls 2 [(0, .ref h), (1, .int (nI w))] := hl
  refine lv_aload_n hx hb dX0_rating_0 rfl (lv_at hl 0 rfl) ?_
  refine va_get (D := (dC, dI)) (ci := 0) (v := .ref (ad 1)) (C := RX0) (T := TX0) (N := 8) hx hb hts hinX0 hown hK hP 0 rfl rfl 1 (by decide) (hts (.fieldLink RX0 15 "WrestleBook$Roster" "ratings" "[I") (by decide +kernel)) (fun _ h9 => h9) rfl dX0_rating_1 ?_
  refine lv_iload_n hx hb dX0_rating_4 rfl (lv_at hl 1 rfl) ?_
  refine rv_iald (k := w) hx hb hK hP 2 0 rfl rfl (show w < 12 by omega) (by decide) dX0_rating_5 ?_
  exact W.iret (v := F 1 w) hx hb hr (fun t ht hW => ⟨_, rfl, (show F 1 w = F 1 w from by rfl), ht⟩) hS.2.2 dX0_rating_6

set_option maxHeartbeats 4000000 in
set_option maxRecDepth 100000 in
theorem c_X0_league (l : Launch) (dC : Nat → ClassId) (dI : Nat → Nat → Nat) (cI : ClassId) (h : Nat) (ad : Nat → Nat) (n : Nat) (F : Nat → Nat → Int32) (w : Nat) (i_w : w < n) (hn : n ≤ 12) : Met l yX0_league wsX0_league ({ frames := 0, cells := 0, slots := 0, locals := 0 } : Room) (va_Pc [.ref h, .int (nI w)] (fun U => PR dC dI cI (wR h ad cI n F) U)) (vp_Si (fun r => r = F 0 w)) 0 0 (fun _ => False) := by
  refine Met.ofW (cc := cX0_league) (maxL := 2) (ret := (some .int)) (by decide) rfl ?_
  intro p e s m args below meth c s₁ B hml hv
  obtain ⟨rfl, hP, hK, hE⟩ := hv
  have hx := B.exec
  have hb := B.bytes
  have hr := B.returns
  have hts := atoms_spec (ws := wsX0_league) B.pre
  have hown : s.vm.findClass RX0 = some m.cls := findClass_of_methodNamed B.named
  have hlocks := B.notSynchronized
  have hS : va_S (fun _ => False) s.heap s.heap [] := va_S.rf
  have hinX0 : ∀ w ∈ wsX00, w ∈ wsX0_league := by decide +kernel
  have hl := lv_entry ([.ref h, .int (nI w)]) (n := 2) (Nat.le_of_ble_eq_true rfl)
  rw [lg_entry_eq]
  generalize (lg_sl ([.ref h, .int (nI w)]) ++ List.replicate (2 - (lg_sl ([.ref h, .int (nI w)])).length) Slot.unset).toArray = ls at hl ⊢
  have hl : lv_has ls 2 [(0, .ref h), (1, .int (nI w))] := hl
  refine lv_aload_n hx hb dX0_league_0 rfl (lv_at hl 0 rfl) ?_
  refine va_get (D := (dC, dI)) (ci := 0) (v := .ref (ad 0)) (C := RX0) (T := TX0) (N := 8) hx hb hts hinX0 hown hK hP 0 rfl rfl 0 (by decide) (hts (.fieldLink RX0 9 "WrestleBook$Roster" "leagues" "[I") (by decide +kernel)) (fun _ h9 => h9) rfl dX0_league_1 ?_
  refine lv_iload_n hx hb dX0_league_4 rfl (lv_at hl 1 rfl) ?_
  refine rv_iald (k := w) hx hb hK hP 1 0 rfl rfl (show w < 12 by omega) (by decide) dX0_league_5 ?_
  exact W.iret (v := F 0 w) hx hb hr (fun t ht hW => ⟨_, rfl, (show F 0 w = F 0 w from by rfl), ht⟩) hS.2.2 dX0_league_6

set_option maxHeartbeats 4000000 in
set_option maxRecDepth 100000 in
theorem c_X0_points (l : Launch) (dC : Nat → ClassId) (dI : Nat → Nat → Nat) (cI : ClassId) (h : Nat) (ad : Nat → Nat) (n : Nat) (F : Nat → Nat → Int32) (w : Nat) (i_w : w < n) (hn : n ≤ 12) : Met l yX0_points wsX0_points ({ frames := 0, cells := 0, slots := 0, locals := 0 } : Room) (va_Pc [.ref h, .int (nI w)] (fun U => PR dC dI cI (wR h ad cI n F) U)) (vp_Si (fun r => r = F 2 w)) 0 0 (fun _ => False) := by
  refine Met.ofW (cc := cX0_points) (maxL := 2) (ret := (some .int)) (by decide) rfl ?_
  intro p e s m args below meth c s₁ B hml hv
  obtain ⟨rfl, hP, hK, hE⟩ := hv
  have hx := B.exec
  have hb := B.bytes
  have hr := B.returns
  have hts := atoms_spec (ws := wsX0_points) B.pre
  have hown : s.vm.findClass RX0 = some m.cls := findClass_of_methodNamed B.named
  have hlocks := B.notSynchronized
  have hS : va_S (fun _ => False) s.heap s.heap [] := va_S.rf
  have hinX0 : ∀ w ∈ wsX00, w ∈ wsX0_points := by decide +kernel
  have hl := lv_entry ([.ref h, .int (nI w)]) (n := 2) (Nat.le_of_ble_eq_true rfl)
  rw [lg_entry_eq]
  generalize (lg_sl ([.ref h, .int (nI w)]) ++ List.replicate (2 - (lg_sl ([.ref h, .int (nI w)])).length) Slot.unset).toArray = ls at hl ⊢
  have hl : lv_has ls 2 [(0, .ref h), (1, .int (nI w))] := hl
  refine lv_aload_n hx hb dX0_points_0 rfl (lv_at hl 0 rfl) ?_
  refine va_get (D := (dC, dI)) (ci := 0) (v := .ref (ad 2)) (C := RX0) (T := TX0) (N := 8) hx hb hts hinX0 hown hK hP 0 rfl rfl 2 (by decide) (hts (.fieldLink RX0 18 "WrestleBook$Roster" "points" "[I") (by decide +kernel)) (fun _ h9 => h9) rfl dX0_points_1 ?_
  refine lv_iload_n hx hb dX0_points_4 rfl (lv_at hl 1 rfl) ?_
  refine rv_iald (k := w) hx hb hK hP 3 0 rfl rfl (show w < 12 by omega) (by decide) dX0_points_5 ?_
  exact W.iret (v := F 2 w) hx hb hr (fun t ht hW => ⟨_, rfl, (show F 2 w = F 2 w from by rfl), ht⟩) hS.2.2 dX0_points_6

set_option maxHeartbeats 4000000 in
set_option maxRecDepth 100000 in
theorem c_X0_bouts (l : Launch) (dC : Nat → ClassId) (dI : Nat → Nat → Nat) (cI : ClassId) (h : Nat) (ad : Nat → Nat) (n : Nat) (F : Nat → Nat → Int32) (w : Nat) (i_w : w < n) (hn : n ≤ 12) : Met l yX0_bouts wsX0_bouts ({ frames := 0, cells := 0, slots := 0, locals := 0 } : Room) (va_Pc [.ref h, .int (nI w)] (fun U => PR dC dI cI (wR h ad cI n F) U)) (vp_Si (fun r => r = F 3 w)) 0 0 (fun _ => False) := by
  refine Met.ofW (cc := cX0_bouts) (maxL := 2) (ret := (some .int)) (by decide) rfl ?_
  intro p e s m args below meth c s₁ B hml hv
  obtain ⟨rfl, hP, hK, hE⟩ := hv
  have hx := B.exec
  have hb := B.bytes
  have hr := B.returns
  have hts := atoms_spec (ws := wsX0_bouts) B.pre
  have hown : s.vm.findClass RX0 = some m.cls := findClass_of_methodNamed B.named
  have hlocks := B.notSynchronized
  have hS : va_S (fun _ => False) s.heap s.heap [] := va_S.rf
  have hinX0 : ∀ w ∈ wsX00, w ∈ wsX0_bouts := by decide +kernel
  have hl := lv_entry ([.ref h, .int (nI w)]) (n := 2) (Nat.le_of_ble_eq_true rfl)
  rw [lg_entry_eq]
  generalize (lg_sl ([.ref h, .int (nI w)]) ++ List.replicate (2 - (lg_sl ([.ref h, .int (nI w)])).length) Slot.unset).toArray = ls at hl ⊢
  have hl : lv_has ls 2 [(0, .ref h), (1, .int (nI w))] := hl
  refine lv_aload_n hx hb dX0_bouts_0 rfl (lv_at hl 0 rfl) ?_
  refine va_get (D := (dC, dI)) (ci := 0) (v := .ref (ad 3)) (C := RX0) (T := TX0) (N := 8) hx hb hts hinX0 hown hK hP 0 rfl rfl 3 (by decide) (hts (.fieldLink RX0 21 "WrestleBook$Roster" "bouts" "[I") (by decide +kernel)) (fun _ h9 => h9) rfl dX0_bouts_1 ?_
  refine lv_iload_n hx hb dX0_bouts_4 rfl (lv_at hl 1 rfl) ?_
  refine rv_iald (k := w) hx hb hK hP 4 0 rfl rfl (show w < 12 by omega) (by decide) dX0_bouts_5 ?_
  exact W.iret (v := F 3 w) hx hb hr (fun t ht hW => ⟨_, rfl, (show F 3 w = F 3 w from by rfl), ht⟩) hS.2.2 dX0_bouts_6

set_option maxHeartbeats 4000000 in
set_option maxRecDepth 100000 in
theorem c_X0_seasonBouts (l : Launch) (dC : Nat → ClassId) (dI : Nat → Nat → Nat) (cI : ClassId) (h : Nat) (ad : Nat → Nat) (n : Nat) (F : Nat → Nat → Int32) (w : Nat) (i_w : w < n) (hn : n ≤ 12) : Met l yX0_seasonBouts wsX0_seasonBouts ({ frames := 0, cells := 0, slots := 0, locals := 0 } : Room) (va_Pc [.ref h, .int (nI w)] (fun U => PR dC dI cI (wR h ad cI n F) U)) (vp_Si (fun r => r = F 4 w)) 0 0 (fun _ => False) := by
  refine Met.ofW (cc := cX0_seasonBouts) (maxL := 2) (ret := (some .int)) (by decide) rfl ?_
  intro p e s m args below meth c s₁ B hml hv
  obtain ⟨rfl, hP, hK, hE⟩ := hv
  have hx := B.exec
  have hb := B.bytes
  have hr := B.returns
  have hts := atoms_spec (ws := wsX0_seasonBouts) B.pre
  have hown : s.vm.findClass RX0 = some m.cls := findClass_of_methodNamed B.named
  have hlocks := B.notSynchronized
  have hS : va_S (fun _ => False) s.heap s.heap [] := va_S.rf
  have hinX0 : ∀ w ∈ wsX00, w ∈ wsX0_seasonBouts := by decide +kernel
  have hl := lv_entry ([.ref h, .int (nI w)]) (n := 2) (Nat.le_of_ble_eq_true rfl)
  rw [lg_entry_eq]
  generalize (lg_sl ([.ref h, .int (nI w)]) ++ List.replicate (2 - (lg_sl ([.ref h, .int (nI w)])).length) Slot.unset).toArray = ls at hl ⊢
  have hl : lv_has ls 2 [(0, .ref h), (1, .int (nI w))] := hl
  refine lv_aload_n hx hb dX0_seasonBouts_0 rfl (lv_at hl 0 rfl) ?_
  refine va_get (D := (dC, dI)) (ci := 0) (v := .ref (ad 4)) (C := RX0) (T := TX0) (N := 8) hx hb hts hinX0 hown hK hP 0 rfl rfl 4 (by decide) (hts (.fieldLink RX0 24 "WrestleBook$Roster" "seasonBouts" "[I") (by decide +kernel)) (fun _ h9 => h9) rfl dX0_seasonBouts_1 ?_
  refine lv_iload_n hx hb dX0_seasonBouts_4 rfl (lv_at hl 1 rfl) ?_
  refine rv_iald (k := w) hx hb hK hP 5 0 rfl rfl (show w < 12 by omega) (by decide) dX0_seasonBouts_5 ?_
  exact W.iret (v := F 4 w) hx hb hr (fun t ht hW => ⟨_, rfl, (show F 4 w = F 4 w from by rfl), ht⟩) hS.2.2 dX0_seasonBouts_6

set_option maxHeartbeats 4000000 in
set_option maxRecDepth 100000 in
theorem c_X0_winRow (l : Launch) (dC : Nat → ClassId) (dI : Nat → Nat → Nat) (cI : ClassId) (h : Nat) (ad : Nat → Nat) (n : Nat) (F : Nat → Nat → Int32) (w : Nat) (i_w : w < n) (hn : n ≤ 12) : Met l yX0_winRow wsX0_winRow ({ frames := 0, cells := 0, slots := 0, locals := 0 } : Room) (va_Pc [.ref h, .int (nI w)] (fun U => PR dC dI cI (wR h ad cI n F) U)) (vp_Si (fun r => r = F 5 w)) 0 0 (fun _ => False) := by
  refine Met.ofW (cc := cX0_winRow) (maxL := 2) (ret := (some .int)) (by decide) rfl ?_
  intro p e s m args below meth c s₁ B hml hv
  obtain ⟨rfl, hP, hK, hE⟩ := hv
  have hx := B.exec
  have hb := B.bytes
  have hr := B.returns
  have hts := atoms_spec (ws := wsX0_winRow) B.pre
  have hown : s.vm.findClass RX0 = some m.cls := findClass_of_methodNamed B.named
  have hlocks := B.notSynchronized
  have hS : va_S (fun _ => False) s.heap s.heap [] := va_S.rf
  have hinX0 : ∀ w ∈ wsX00, w ∈ wsX0_winRow := by decide +kernel
  have hl := lv_entry ([.ref h, .int (nI w)]) (n := 2) (Nat.le_of_ble_eq_true rfl)
  rw [lg_entry_eq]
  generalize (lg_sl ([.ref h, .int (nI w)]) ++ List.replicate (2 - (lg_sl ([.ref h, .int (nI w)])).length) Slot.unset).toArray = ls at hl ⊢
  have hl : lv_has ls 2 [(0, .ref h), (1, .int (nI w))] := hl
  refine lv_aload_n hx hb dX0_winRow_0 rfl (lv_at hl 0 rfl) ?_
  refine va_get (D := (dC, dI)) (ci := 0) (v := .ref (ad 5)) (C := RX0) (T := TX0) (N := 8) hx hb hts hinX0 hown hK hP 0 rfl rfl 5 (by decide) (hts (.fieldLink RX0 27 "WrestleBook$Roster" "winRows" "[I") (by decide +kernel)) (fun _ h9 => h9) rfl dX0_winRow_1 ?_
  refine lv_iload_n hx hb dX0_winRow_4 rfl (lv_at hl 1 rfl) ?_
  refine rv_iald (k := w) hx hb hK hP 6 0 rfl rfl (show w < 12 by omega) (by decide) dX0_winRow_5 ?_
  exact W.iret (v := F 5 w) hx hb hr (fun t ht hW => ⟨_, rfl, (show F 5 w = F 5 w from by rfl), ht⟩) hS.2.2 dX0_winRow_6

set_option maxHeartbeats 4000000 in
set_option maxRecDepth 100000 in
theorem c_X0_best (l : Launch) (dC : Nat → ClassId) (dI : Nat → Nat → Nat) (cI : ClassId) (h : Nat) (ad : Nat → Nat) (n : Nat) (F : Nat → Nat → Int32) (w : Nat) (i_w : w < n) (hn : n ≤ 12) : Met l yX0_best wsX0_best ({ frames := 0, cells := 0, slots := 0, locals := 0 } : Room) (va_Pc [.ref h, .int (nI w)] (fun U => PR dC dI cI (wR h ad cI n F) U)) (vp_Si (fun r => r = F 6 w)) 0 0 (fun _ => False) := by
  refine Met.ofW (cc := cX0_best) (maxL := 2) (ret := (some .int)) (by decide) rfl ?_
  intro p e s m args below meth c s₁ B hml hv
  obtain ⟨rfl, hP, hK, hE⟩ := hv
  have hx := B.exec
  have hb := B.bytes
  have hr := B.returns
  have hts := atoms_spec (ws := wsX0_best) B.pre
  have hown : s.vm.findClass RX0 = some m.cls := findClass_of_methodNamed B.named
  have hlocks := B.notSynchronized
  have hS : va_S (fun _ => False) s.heap s.heap [] := va_S.rf
  have hinX0 : ∀ w ∈ wsX00, w ∈ wsX0_best := by decide +kernel
  have hl := lv_entry ([.ref h, .int (nI w)]) (n := 2) (Nat.le_of_ble_eq_true rfl)
  rw [lg_entry_eq]
  generalize (lg_sl ([.ref h, .int (nI w)]) ++ List.replicate (2 - (lg_sl ([.ref h, .int (nI w)])).length) Slot.unset).toArray = ls at hl ⊢
  have hl : lv_has ls 2 [(0, .ref h), (1, .int (nI w))] := hl
  refine lv_aload_n hx hb dX0_best_0 rfl (lv_at hl 0 rfl) ?_
  refine va_get (D := (dC, dI)) (ci := 0) (v := .ref (ad 6)) (C := RX0) (T := TX0) (N := 8) hx hb hts hinX0 hown hK hP 0 rfl rfl 6 (by decide) (hts (.fieldLink RX0 30 "WrestleBook$Roster" "bests" "[I") (by decide +kernel)) (fun _ h9 => h9) rfl dX0_best_1 ?_
  refine lv_iload_n hx hb dX0_best_4 rfl (lv_at hl 1 rfl) ?_
  refine rv_iald (k := w) hx hb hK hP 7 0 rfl rfl (show w < 12 by omega) (by decide) dX0_best_5 ?_
  exact W.iret (v := F 6 w) hx hb hr (fun t ht hW => ⟨_, rfl, (show F 6 w = F 6 w from by rfl), ht⟩) hS.2.2 dX0_best_6

set_option maxHeartbeats 4000000 in
set_option maxRecDepth 100000 in
theorem c_X0_weight (l : Launch) (dC : Nat → ClassId) (dI : Nat → Nat → Nat) (cI : ClassId) (h : Nat) (ad : Nat → Nat) (n : Nat) (F : Nat → Nat → Int32) (w : Nat) (i_w : w < n) (hn : n ≤ 12) : Met l yX0_weight wsX0_weight ({ frames := 0, cells := 0, slots := 0, locals := 0 } : Room) (va_Pc [.ref h, .int (nI w)] (fun U => PR dC dI cI (wR h ad cI n F) U)) (vp_Si (fun r => r = s_wt F w)) 0 0 (fun _ => False) := by
  refine Met.ofW (cc := cX0_weight) (maxL := 2) (ret := (some .int)) (by decide) rfl ?_
  intro p e s m args below meth c s₁ B hml hv
  obtain ⟨rfl, hP, hK, hE⟩ := hv
  have hx := B.exec
  have hb := B.bytes
  have hr := B.returns
  have hts := atoms_spec (ws := wsX0_weight) B.pre
  have hown : s.vm.findClass RX0 = some m.cls := findClass_of_methodNamed B.named
  have hlocks := B.notSynchronized
  have hS : va_S (fun _ => False) s.heap s.heap [] := va_S.rf
  have hinX0 : ∀ w ∈ wsX00, w ∈ wsX0_weight := by decide +kernel
  have hl := lv_entry ([.ref h, .int (nI w)]) (n := 2) (Nat.le_of_ble_eq_true rfl)
  rw [lg_entry_eq]
  generalize (lg_sl ([.ref h, .int (nI w)]) ++ List.replicate (2 - (lg_sl ([.ref h, .int (nI w)])).length) Slot.unset).toArray = ls at hl ⊢
  have hl : lv_has ls 2 [(0, .ref h), (1, .int (nI w))] := hl
  refine lv_aload_n hx hb dX0_weight_0 rfl (lv_at hl 0 rfl) ?_
  refine va_get (D := (dC, dI)) (ci := 0) (v := .ref (ad 3)) (C := RX0) (T := TX0) (N := 8) hx hb hts hinX0 hown hK hP 0 rfl rfl 3 (by decide) (hts (.fieldLink RX0 21 "WrestleBook$Roster" "bouts" "[I") (by decide +kernel)) (fun _ h9 => h9) rfl dX0_weight_1 ?_
  refine lv_iload_n hx hb dX0_weight_4 rfl (lv_at hl 1 rfl) ?_
  refine rv_iald (k := w) hx hb hK hP 4 0 rfl rfl (show w < 12 by omega) (by decide) dX0_weight_5 ?_
  refine lv_bipush (v := 10) hx hb dX0_weight_6 (by decide) ?_
  refine lv_icmp_ge (tgt := 14) hx hb dX0_weight_8 (by decide) (fun c_8 => ?_) (fun c_8 => ?_)
  · refine lv_aload_n hx hb dX0_weight_14 rfl (lv_at hl 0 rfl) ?_
    refine va_get (D := (dC, dI)) (ci := 0) (v := .ref (ad 1)) (C := RX0) (T := TX0) (N := 8) hx hb hts hinX0 hown hK hP 0 rfl rfl 1 (by decide) (hts (.fieldLink RX0 15 "WrestleBook$Roster" "ratings" "[I") (by decide +kernel)) (fun _ h9 => h9) rfl dX0_weight_15 ?_
    refine lv_iload_n hx hb dX0_weight_18 rfl (lv_at hl 1 rfl) ?_
    refine rv_iald (k := w) hx hb hK hP 2 0 rfl rfl (show w < 12 by omega) (by decide) dX0_weight_19 ?_
    refine lv_sipush (v := 2000) hx hb dX0_weight_20 (by decide) ?_
    refine lv_icmp_lt (tgt := 31) hx hb dX0_weight_23 (by decide) (fun c_23 => ?_) (fun c_23 => ?_)
    · refine lv_bipush (v := 20) hx hb dX0_weight_31 (by decide) ?_
      exact W.iret (v := 20) hx hb hr (fun t ht hW => ⟨_, rfl, (show 20 = s_wt F w from by simp [s_wt, c_8, c_23]), ht⟩) hS.2.2 dX0_weight_33
    · refine lv_bipush (v := 10) hx hb dX0_weight_26 (by decide) ?_
      refine lv_goto (tgt := 33) hx hb dX0_weight_28 (by decide) ?_
      exact W.iret (v := 10) hx hb hr (fun t ht hW => ⟨_, rfl, (show 10 = s_wt F w from by simp [s_wt, c_8, c_23]), ht⟩) hS.2.2 dX0_weight_33
  · refine lv_bipush (v := 40) hx hb dX0_weight_11 (by decide) ?_
    exact W.iret (v := 40) hx hb hr (fun t ht hW => ⟨_, rfl, (show 40 = s_wt F w from by simp [s_wt, c_8]), ht⟩) hS.2.2 dX0_weight_13

set_option maxHeartbeats 4000000 in
set_option maxRecDepth 100000 in
theorem c_X0_isAhead (l : Launch) (dC : Nat → ClassId) (dI : Nat → Nat → Nat) (cI : ClassId) (h : Nat) (ad : Nat → Nat) (n : Nat) (F : Nat → Nat → Int32) (a : Nat) (i_a : a < n) (b : Nat) (i_b : b < n) (hn : n ≤ 12) : Met l yX0_isAhead wsX0_isAhead ({ frames := 0, cells := 0, slots := 0, locals := 0 } : Room) (va_Pc [.ref h, .int (nI a), .int (nI b)] (fun U => PR dC dI cI (wR h ad cI n F) U)) (vp_Si (fun r => r = bI (ahead F a b))) 0 0 (fun _ => False) := by
  refine Met.ofW (cc := cX0_isAhead) (maxL := 3) (ret := (some .boolean)) (by decide) rfl ?_
  intro p e s m args below meth c s₁ B hml hv
  obtain ⟨rfl, hP, hK, hE⟩ := hv
  have hx := B.exec
  have hb := B.bytes
  have hr := B.returns
  have hts := atoms_spec (ws := wsX0_isAhead) B.pre
  have hown : s.vm.findClass RX0 = some m.cls := findClass_of_methodNamed B.named
  have hlocks := B.notSynchronized
  have hS : va_S (fun _ => False) s.heap s.heap [] := va_S.rf
  have hinX0 : ∀ w ∈ wsX00, w ∈ wsX0_isAhead := by decide +kernel
  have hl := lv_entry ([.ref h, .int (nI a), .int (nI b)]) (n := 3) (Nat.le_of_ble_eq_true rfl)
  rw [lg_entry_eq]
  generalize (lg_sl ([.ref h, .int (nI a), .int (nI b)]) ++ List.replicate (3 - (lg_sl ([.ref h, .int (nI a), .int (nI b)])).length) Slot.unset).toArray = ls at hl ⊢
  have hl : lv_has ls 3 [(0, .ref h), (1, .int (nI a)), (2, .int (nI b))] := hl
  refine lv_aload_n hx hb dX0_isAhead_0 rfl (lv_at hl 0 rfl) ?_
  refine va_get (D := (dC, dI)) (ci := 0) (v := .ref (ad 2)) (C := RX0) (T := TX0) (N := 8) hx hb hts hinX0 hown hK hP 0 rfl rfl 2 (by decide) (hts (.fieldLink RX0 18 "WrestleBook$Roster" "points" "[I") (by decide +kernel)) (fun _ h9 => h9) rfl dX0_isAhead_1 ?_
  refine lv_iload_n hx hb dX0_isAhead_4 rfl (lv_at hl 1 rfl) ?_
  refine rv_iald (k := a) hx hb hK hP 3 0 rfl rfl (show a < 12 by omega) (by decide) dX0_isAhead_5 ?_
  refine lv_aload_n hx hb dX0_isAhead_6 rfl (lv_at hl 0 rfl) ?_
  refine va_get (D := (dC, dI)) (ci := 0) (v := .ref (ad 2)) (C := RX0) (T := TX0) (N := 8) hx hb hts hinX0 hown hK hP 0 rfl rfl 2 (by decide) (hts (.fieldLink RX0 18 "WrestleBook$Roster" "points" "[I") (by decide +kernel)) (fun _ h9 => h9) rfl dX0_isAhead_7 ?_
  refine lv_iload_n hx hb dX0_isAhead_10 rfl (lv_at hl 2 rfl) ?_
  refine rv_iald (k := b) hx hb hK hP 3 0 rfl rfl (show b < 12 by omega) (by decide) dX0_isAhead_11 ?_
  refine lv_icmp_eq (tgt := 36) hx hb dX0_isAhead_12 (by decide) (fun c_12 => ?_) (fun c_12 => ?_)
  · refine lv_aload_n hx hb dX0_isAhead_36 rfl (lv_at hl 0 rfl) ?_
    refine va_get (D := (dC, dI)) (ci := 0) (v := .ref (ad 1)) (C := RX0) (T := TX0) (N := 8) hx hb hts hinX0 hown hK hP 0 rfl rfl 1 (by decide) (hts (.fieldLink RX0 15 "WrestleBook$Roster" "ratings" "[I") (by decide +kernel)) (fun _ h9 => h9) rfl dX0_isAhead_37 ?_
    refine lv_iload_n hx hb dX0_isAhead_40 rfl (lv_at hl 1 rfl) ?_
    refine rv_iald (k := a) hx hb hK hP 2 0 rfl rfl (show a < 12 by omega) (by decide) dX0_isAhead_41 ?_
    refine lv_aload_n hx hb dX0_isAhead_42 rfl (lv_at hl 0 rfl) ?_
    refine va_get (D := (dC, dI)) (ci := 0) (v := .ref (ad 1)) (C := RX0) (T := TX0) (N := 8) hx hb hts hinX0 hown hK hP 0 rfl rfl 1 (by decide) (hts (.fieldLink RX0 15 "WrestleBook$Roster" "ratings" "[I") (by decide +kernel)) (fun _ h9 => h9) rfl dX0_isAhead_43 ?_
    refine lv_iload_n hx hb dX0_isAhead_46 rfl (lv_at hl 2 rfl) ?_
    refine rv_iald (k := b) hx hb hK hP 2 0 rfl rfl (show b < 12 by omega) (by decide) dX0_isAhead_47 ?_
    refine lv_icmp_eq (tgt := 72) hx hb dX0_isAhead_48 (by decide) (fun c_48 => ?_) (fun c_48 => ?_)
    · refine lv_iload_n hx hb dX0_isAhead_72 rfl (lv_at hl 1 rfl) ?_
      refine lv_iload_n hx hb dX0_isAhead_73 rfl (lv_at hl 2 rfl) ?_
      refine rv_icmp_ge (tgt := 81) hx hb (a := a) (b := b) (by omega) (by omega) dX0_isAhead_74 (by decide) (fun c_74 => ?_) (fun c_74 => ?_)
      · refine lv_iconst (v := 0) hx hb dX0_isAhead_81 (by decide) ?_
        exact W.zret (v := 0) hx hb hr (by decide) (fun t ht hW => ⟨_, rfl, (show 0 = bI (ahead F a b) from by simp [ahead, bI, c_12, c_48, c_74, (show ¬ (a < b) from by omega)]), ht⟩) hS.2.2 dX0_isAhead_82
      · refine lv_iconst (v := 1) hx hb dX0_isAhead_77 (by decide) ?_
        refine lv_goto (tgt := 82) hx hb dX0_isAhead_78 (by decide) ?_
        exact W.zret (v := 1) hx hb hr (by decide) (fun t ht hW => ⟨_, rfl, (show 1 = bI (ahead F a b) from by simp [ahead, bI, c_12, c_48, c_74, (show a < b from by omega)]), ht⟩) hS.2.2 dX0_isAhead_82
    · refine lv_aload_n hx hb dX0_isAhead_51 rfl (lv_at hl 0 rfl) ?_
      refine va_get (D := (dC, dI)) (ci := 0) (v := .ref (ad 1)) (C := RX0) (T := TX0) (N := 8) hx hb hts hinX0 hown hK hP 0 rfl rfl 1 (by decide) (hts (.fieldLink RX0 15 "WrestleBook$Roster" "ratings" "[I") (by decide +kernel)) (fun _ h9 => h9) rfl dX0_isAhead_52 ?_
      refine lv_iload_n hx hb dX0_isAhead_55 rfl (lv_at hl 1 rfl) ?_
      refine rv_iald (k := a) hx hb hK hP 2 0 rfl rfl (show a < 12 by omega) (by decide) dX0_isAhead_56 ?_
      refine lv_aload_n hx hb dX0_isAhead_57 rfl (lv_at hl 0 rfl) ?_
      refine va_get (D := (dC, dI)) (ci := 0) (v := .ref (ad 1)) (C := RX0) (T := TX0) (N := 8) hx hb hts hinX0 hown hK hP 0 rfl rfl 1 (by decide) (hts (.fieldLink RX0 15 "WrestleBook$Roster" "ratings" "[I") (by decide +kernel)) (fun _ h9 => h9) rfl dX0_isAhead_58 ?_
      refine lv_iload_n hx hb dX0_isAhead_61 rfl (lv_at hl 2 rfl) ?_
      refine rv_iald (k := b) hx hb hK hP 2 0 rfl rfl (show b < 12 by omega) (by decide) dX0_isAhead_62 ?_
      refine lv_icmp_le (tgt := 70) hx hb dX0_isAhead_63 (by decide) (fun c_63 => ?_) (fun c_63 => ?_)
      · refine lv_iconst (v := 0) hx hb dX0_isAhead_70 (by decide) ?_
        exact W.zret (v := 0) hx hb hr (by decide) (fun t ht hW => ⟨_, rfl, (show 0 = bI (ahead F a b) from by simp [ahead, bI, c_12, c_48, c_63]), ht⟩) hS.2.2 dX0_isAhead_71
      · refine lv_iconst (v := 1) hx hb dX0_isAhead_66 (by decide) ?_
        refine lv_goto (tgt := 71) hx hb dX0_isAhead_67 (by decide) ?_
        exact W.zret (v := 1) hx hb hr (by decide) (fun t ht hW => ⟨_, rfl, (show 1 = bI (ahead F a b) from by simp [ahead, bI, c_12, c_48, c_63]), ht⟩) hS.2.2 dX0_isAhead_71
  · refine lv_aload_n hx hb dX0_isAhead_15 rfl (lv_at hl 0 rfl) ?_
    refine va_get (D := (dC, dI)) (ci := 0) (v := .ref (ad 2)) (C := RX0) (T := TX0) (N := 8) hx hb hts hinX0 hown hK hP 0 rfl rfl 2 (by decide) (hts (.fieldLink RX0 18 "WrestleBook$Roster" "points" "[I") (by decide +kernel)) (fun _ h9 => h9) rfl dX0_isAhead_16 ?_
    refine lv_iload_n hx hb dX0_isAhead_19 rfl (lv_at hl 1 rfl) ?_
    refine rv_iald (k := a) hx hb hK hP 3 0 rfl rfl (show a < 12 by omega) (by decide) dX0_isAhead_20 ?_
    refine lv_aload_n hx hb dX0_isAhead_21 rfl (lv_at hl 0 rfl) ?_
    refine va_get (D := (dC, dI)) (ci := 0) (v := .ref (ad 2)) (C := RX0) (T := TX0) (N := 8) hx hb hts hinX0 hown hK hP 0 rfl rfl 2 (by decide) (hts (.fieldLink RX0 18 "WrestleBook$Roster" "points" "[I") (by decide +kernel)) (fun _ h9 => h9) rfl dX0_isAhead_22 ?_
    refine lv_iload_n hx hb dX0_isAhead_25 rfl (lv_at hl 2 rfl) ?_
    refine rv_iald (k := b) hx hb hK hP 3 0 rfl rfl (show b < 12 by omega) (by decide) dX0_isAhead_26 ?_
    refine lv_icmp_le (tgt := 34) hx hb dX0_isAhead_27 (by decide) (fun c_27 => ?_) (fun c_27 => ?_)
    · refine lv_iconst (v := 0) hx hb dX0_isAhead_34 (by decide) ?_
      exact W.zret (v := 0) hx hb hr (by decide) (fun t ht hW => ⟨_, rfl, (show 0 = bI (ahead F a b) from by simp [ahead, bI, c_12, c_27]), ht⟩) hS.2.2 dX0_isAhead_35
    · refine lv_iconst (v := 1) hx hb dX0_isAhead_30 (by decide) ?_
      refine lv_goto (tgt := 35) hx hb dX0_isAhead_31 (by decide) ?_
      exact W.zret (v := 1) hx hb hr (by decide) (fun t ht hW => ⟨_, rfl, (show 1 = bI (ahead F a b) from by simp [ahead, bI, c_12, c_27]), ht⟩) hS.2.2 dX0_isAhead_35

set_option maxHeartbeats 4000000 in
set_option maxRecDepth 100000 in
theorem c_X0_sizeOf (l : Launch) (dC : Nat → ClassId) (dI : Nat → Nat → Nat) (cI : ClassId) (h : Nat) (ad : Nat → Nat) (n : Nat) (F : Nat → Nat → Int32) (vp : Int32) (hn : n ≤ 12) : Met l yX0_sizeOf wsX0_sizeOf ({ frames := 0, cells := 0, slots := 0, locals := 0 } : Room) (va_Pc [.ref h, .int vp] (fun U => PR dC dI cI (wR h ad cI n F) U)) (vp_Si (fun r => r = nI (s_many n F vp))) 0 0 (fun _ => False) := by
  refine Met.ofW (cc := cX0_sizeOf) (maxL := 4) (ret := (some .int)) (by decide) rfl ?_
  intro p e s m args below meth c s₁ B hml hv
  obtain ⟨rfl, hP, hK, hE⟩ := hv
  have hx := B.exec
  have hb := B.bytes
  have hr := B.returns
  have hts := atoms_spec (ws := wsX0_sizeOf) B.pre
  have hown : s.vm.findClass RX0 = some m.cls := findClass_of_methodNamed B.named
  have hlocks := B.notSynchronized
  have hS : va_S (fun _ => False) s.heap s.heap [] := va_S.rf
  have hinX0 : ∀ w ∈ wsX00, w ∈ wsX0_sizeOf := by decide +kernel
  have hl := lv_entry ([.ref h, .int vp]) (n := 4) (Nat.le_of_ble_eq_true rfl)
  rw [lg_entry_eq]
  generalize (lg_sl ([.ref h, .int vp]) ++ List.replicate (4 - (lg_sl ([.ref h, .int vp])).length) Slot.unset).toArray = ls at hl ⊢
  have hl : lv_has ls 4 [(0, .ref h), (1, .int vp)] := hl
  refine lv_iconst (v := 0) hx hb dX0_sizeOf_0 (by decide) ?_
  refine lv_istore_n (lv' := [(2, .int 0), (0, .ref h), (1, .int vp)]) hx hb dX0_sizeOf_1 rfl hl (by decide) rfl (fun ls hl => ?_)
  refine lv_iconst (v := 0) hx hb dX0_sizeOf_2 (by decide) ?_
  refine lv_istore_n (lv' := [(3, .int 0), (2, .int 0), (0, .ref h), (1, .int vp)]) hx hb dX0_sizeOf_3 rfl hl (by decide) rfl (fun ls hl => ?_)
  have L_4 : ∀ (k i : Nat) (a2 : Nat), i + k = n → a2 = s_manyU F vp i → ∀ (ls : Array Slot), lv_has ls 4 [(3, .int (nI i)), (2, .int (nI a2)), (0, .ref h), (1, .int vp)] → W p l e (headSpec wsX0_sizeOf ({ frames := 0, cells := 0, slots := 0, locals := 0 } : Room)).room s m ([.ref h, .int vp] : List Value).toArray below meth c s.heap [] 0 0 (MQ below (vp_Si (fun r => r = nI (s_many n F vp))) ([.ref h, .int vp] : List Value).toArray s 0 0 (fun _ => False)) (F0 m 4 ls []) := by
    intro k
    induction k with
    | zero =>
      intro i a2 e_i ha2 ls hl
      refine lv_iload_n hx hb dX0_sizeOf_4 rfl (lv_at hl 0 rfl) ?_
      refine lv_aload_n hx hb dX0_sizeOf_5 rfl (lv_at hl 2 rfl) ?_
      refine va_get (D := (dC, dI)) (ci := 0) (v := .int (nI n)) (C := RX0) (T := TX0) (N := 8) hx hb hts hinX0 hown hK hP 0 rfl rfl 7 (by decide) (hts (.fieldLink RX0 33 "WrestleBook$Roster" "size" "I") (by decide +kernel)) (fun _ h9 => h9) rfl dX0_sizeOf_6 ?_
      refine rv_icmp_ge (tgt := 31) hx hb (a := i) (b := n) (by omega) (by omega) dX0_sizeOf_9 (by decide) (fun c_9 => ?_) (fun c_9 => ?_)
      · refine lv_iload_n hx hb dX0_sizeOf_31 rfl (lv_at hl 1 rfl) ?_
        exact W.iret (v := nI a2) hx hb hr (fun t ht hW => ⟨_, rfl, (show nI a2 = nI (s_many n F vp) from by rw [ha2, show i = n by omega]; rfl), ht⟩) hS.2.2 dX0_sizeOf_32
      · exact absurd c_9 (by omega)
    | succ k ih_4 =>
      intro i a2 e_i ha2 ls hl
      refine lv_iload_n hx hb dX0_sizeOf_4 rfl (lv_at hl 0 rfl) ?_
      refine lv_aload_n hx hb dX0_sizeOf_5 rfl (lv_at hl 2 rfl) ?_
      refine va_get (D := (dC, dI)) (ci := 0) (v := .int (nI n)) (C := RX0) (T := TX0) (N := 8) hx hb hts hinX0 hown hK hP 0 rfl rfl 7 (by decide) (hts (.fieldLink RX0 33 "WrestleBook$Roster" "size" "I") (by decide +kernel)) (fun _ h9 => h9) rfl dX0_sizeOf_6 ?_
      refine rv_icmp_ge (tgt := 31) hx hb (a := i) (b := n) (by omega) (by omega) dX0_sizeOf_9 (by decide) (fun c_9 => ?_) (fun c_9 => ?_)
      · exact absurd c_9 (by omega)
      · refine lv_aload_n hx hb dX0_sizeOf_12 rfl (lv_at hl 2 rfl) ?_
        refine va_get (D := (dC, dI)) (ci := 0) (v := .ref (ad 0)) (C := RX0) (T := TX0) (N := 8) hx hb hts hinX0 hown hK hP 0 rfl rfl 0 (by decide) (hts (.fieldLink RX0 9 "WrestleBook$Roster" "leagues" "[I") (by decide +kernel)) (fun _ h9 => h9) rfl dX0_sizeOf_13 ?_
        refine lv_iload_n hx hb dX0_sizeOf_16 rfl (lv_at hl 0 rfl) ?_
        refine rv_iald (k := i) hx hb hK hP 1 0 rfl rfl (show i < 12 by omega) (by decide) dX0_sizeOf_17 ?_
        refine lv_iload_n hx hb dX0_sizeOf_18 rfl (lv_at hl 3 rfl) ?_
        refine lv_icmp_ne (tgt := 25) hx hb dX0_sizeOf_19 (by decide) (fun c_19 => ?_) (fun c_19 => ?_)
        · refine lv_iinc (v := nI (i + 1)) (lv' := [(3, .int (nI (i + 1))), (2, .int (nI a2)), (0, .ref h), (1, .int vp)]) hx hb dX0_sizeOf_25 hl (k := 0) rfl (nI_add i 1) (by decide) rfl (fun ls hl => ?_)
          refine lv_goto (tgt := 4) hx hb dX0_sizeOf_28 (by decide) ?_
          exact ih_4 (i + 1) a2 (by omega) (by rw [ha2]; simp only [s_manyU, fo_s]; simp [c_9, (show i < n from by omega), c_19]) ls (lv_sub hl [0, 1, 2, 3] rfl)
        · refine lv_iinc (v := nI (a2 + 1)) (lv' := [(2, .int (nI (a2 + 1))), (3, .int (nI i)), (0, .ref h), (1, .int vp)]) hx hb dX0_sizeOf_22 hl (k := 1) rfl (nI_add a2 1) (by decide) rfl (fun ls hl => ?_)
          refine lv_iinc (v := nI (i + 1)) (lv' := [(3, .int (nI (i + 1))), (2, .int (nI (a2 + 1))), (0, .ref h), (1, .int vp)]) hx hb dX0_sizeOf_25 hl (k := 1) rfl (nI_add i 1) (by decide) rfl (fun ls hl => ?_)
          refine lv_goto (tgt := 4) hx hb dX0_sizeOf_28 (by decide) ?_
          exact ih_4 (i + 1) (a2 + 1) (by omega) (by rw [ha2]; simp only [s_manyU, fo_s]; simp [c_9, (show i < n from by omega), c_19]) ls (lv_sub hl [0, 1, 2, 3] rfl)
  exact L_4 n 0 0 (by omega) rfl ls (lv_sub hl [0, 1, 2, 3] rfl)

set_option maxHeartbeats 4000000 in
set_option maxRecDepth 100000 in
theorem c_X0_place (l : Launch) (dC : Nat → ClassId) (dI : Nat → Nat → Nat) (cI : ClassId) (h : Nat) (ad : Nat → Nat) (n : Nat) (F : Nat → Nat → Int32) (w : Nat) (i_w : w < n) (hn : n ≤ 12) : Met l yX0_place wsX0_place ({ frames := 1, cells := 0, slots := 0, locals := 22 } : Room) (va_Pc [.ref h, .int (nI w)] (fun U => PR dC dI cI (wR h ad cI n F) U)) (vp_Si (fun r => r = nI (s_place n F w))) 0 0 (fun _ => False) := by
  refine Met.ofW (cc := cX0_place) (maxL := 4) (ret := (some .int)) (by decide) rfl ?_
  intro p e s m args below meth c s₁ B hml hv
  obtain ⟨rfl, hP, hK, hE⟩ := hv
  have hx := B.exec
  have hb := B.bytes
  have hr := B.returns
  have hts := atoms_spec (ws := wsX0_place) B.pre
  have hown : s.vm.findClass RX0 = some m.cls := findClass_of_methodNamed B.named
  have hlocks := B.notSynchronized
  have hS : va_S (fun _ => False) s.heap s.heap [] := va_S.rf
  have hinX0 : ∀ w ∈ wsX00, w ∈ wsX0_place := by decide +kernel
  have hl := lv_entry ([.ref h, .int (nI w)]) (n := 4) (Nat.le_of_ble_eq_true rfl)
  rw [lg_entry_eq]
  generalize (lg_sl ([.ref h, .int (nI w)]) ++ List.replicate (4 - (lg_sl ([.ref h, .int (nI w)])).length) Slot.unset).toArray = ls at hl ⊢
  have hl : lv_has ls 4 [(0, .ref h), (1, .int (nI w))] := hl
  refine lv_iconst (v := 1) hx hb dX0_place_0 (by decide) ?_
  refine lv_istore_n (lv' := [(2, .int 1), (0, .ref h), (1, .int (nI w))]) hx hb dX0_place_1 rfl hl (by decide) rfl (fun ls hl => ?_)
  refine lv_iconst (v := 0) hx hb dX0_place_2 (by decide) ?_
  refine lv_istore_n (lv' := [(3, .int 0), (2, .int 1), (0, .ref h), (1, .int (nI w))]) hx hb dX0_place_3 rfl hl (by decide) rfl (fun ls hl => ?_)
  have L_4 : ∀ (k i : Nat) (a2 : Nat), i + k = n → a2 = s_placeU F w i → ∀ (ls : Array Slot), lv_has ls 4 [(3, .int (nI i)), (2, .int (nI a2)), (0, .ref h), (1, .int (nI w))] → W p l e (headSpec wsX0_place ({ frames := 1, cells := 0, slots := 0, locals := 22 } : Room)).room s m ([.ref h, .int (nI w)] : List Value).toArray below meth c s.heap [] 0 0 (MQ below (vp_Si (fun r => r = nI (s_place n F w))) ([.ref h, .int (nI w)] : List Value).toArray s 0 0 (fun _ => False)) (F0 m 4 ls []) := by
    intro k
    induction k with
    | zero =>
      intro i a2 e_i ha2 ls hl
      refine lv_iload_n hx hb dX0_place_4 rfl (lv_at hl 0 rfl) ?_
      refine lv_aload_n hx hb dX0_place_5 rfl (lv_at hl 2 rfl) ?_
      refine va_get (D := (dC, dI)) (ci := 0) (v := .int (nI n)) (C := RX0) (T := TX0) (N := 8) hx hb hts hinX0 hown hK hP 0 rfl rfl 7 (by decide) (hts (.fieldLink RX0 33 "WrestleBook$Roster" "size" "I") (by decide +kernel)) (fun _ h9 => h9) rfl dX0_place_6 ?_
      refine rv_icmp_ge (tgt := 45) hx hb (a := i) (b := n) (by omega) (by omega) dX0_place_9 (by decide) (fun c_9 => ?_) (fun c_9 => ?_)
      · refine lv_iload_n hx hb dX0_place_45 rfl (lv_at hl 1 rfl) ?_
        exact W.iret (v := nI a2) hx hb hr (fun t ht hW => ⟨_, rfl, (show nI a2 = nI (s_place n F w) from by rw [ha2, show i = n by omega]; rfl), ht⟩) hS.2.2 dX0_place_46
      · exact absurd c_9 (by omega)
    | succ k ih_4 =>
      intro i a2 e_i ha2 ls hl
      refine lv_iload_n hx hb dX0_place_4 rfl (lv_at hl 0 rfl) ?_
      refine lv_aload_n hx hb dX0_place_5 rfl (lv_at hl 2 rfl) ?_
      refine va_get (D := (dC, dI)) (ci := 0) (v := .int (nI n)) (C := RX0) (T := TX0) (N := 8) hx hb hts hinX0 hown hK hP 0 rfl rfl 7 (by decide) (hts (.fieldLink RX0 33 "WrestleBook$Roster" "size" "I") (by decide +kernel)) (fun _ h9 => h9) rfl dX0_place_6 ?_
      refine rv_icmp_ge (tgt := 45) hx hb (a := i) (b := n) (by omega) (by omega) dX0_place_9 (by decide) (fun c_9 => ?_) (fun c_9 => ?_)
      · exact absurd c_9 (by omega)
      · refine lv_aload_n hx hb dX0_place_12 rfl (lv_at hl 2 rfl) ?_
        refine va_get (D := (dC, dI)) (ci := 0) (v := .ref (ad 0)) (C := RX0) (T := TX0) (N := 8) hx hb hts hinX0 hown hK hP 0 rfl rfl 0 (by decide) (hts (.fieldLink RX0 9 "WrestleBook$Roster" "leagues" "[I") (by decide +kernel)) (fun _ h9 => h9) rfl dX0_place_13 ?_
        refine lv_iload_n hx hb dX0_place_16 rfl (lv_at hl 0 rfl) ?_
        refine rv_iald (k := i) hx hb hK hP 1 0 rfl rfl (show i < 12 by omega) (by decide) dX0_place_17 ?_
        refine lv_aload_n hx hb dX0_place_18 rfl (lv_at hl 2 rfl) ?_
        refine va_get (D := (dC, dI)) (ci := 0) (v := .ref (ad 0)) (C := RX0) (T := TX0) (N := 8) hx hb hts hinX0 hown hK hP 0 rfl rfl 0 (by decide) (hts (.fieldLink RX0 9 "WrestleBook$Roster" "leagues" "[I") (by decide +kernel)) (fun _ h9 => h9) rfl dX0_place_19 ?_
        refine lv_iload_n hx hb dX0_place_22 rfl (lv_at hl 3 rfl) ?_
        refine rv_iald (k := w) hx hb hK hP 1 0 rfl rfl (show w < 12 by omega) (by decide) dX0_place_23 ?_
        refine lv_icmp_ne (tgt := 39) hx hb dX0_place_24 (by decide) (fun c_24 => ?_) (fun c_24 => ?_)
        · refine lv_iinc (v := nI (i + 1)) (lv' := [(3, .int (nI (i + 1))), (2, .int (nI a2)), (0, .ref h), (1, .int (nI w))]) hx hb dX0_place_39 hl (k := 0) rfl (nI_add i 1) (by decide) rfl (fun ls hl => ?_)
          refine lv_goto (tgt := 4) hx hb dX0_place_42 (by decide) ?_
          exact ih_4 (i + 1) a2 (by omega) (by rw [ha2]; simp only [s_placeU, fo_s]; simp [c_9, (show i < n from by omega), c_24]) ls (lv_sub hl [0, 1, 2, 3] rfl)
        · refine lv_aload_n hx hb dX0_place_27 rfl (lv_at hl 2 rfl) ?_
          refine lv_iload_n hx hb dX0_place_28 rfl (lv_at hl 0 rfl) ?_
          refine lv_iload_n hx hb dX0_place_29 rfl (lv_at hl 3 rfl) ?_
          refine vp_callSi (W.runV (As := [.int (nI i), .int (nI w)]) (rest := []) ⟨hx, hb, hml, hown, hts⟩ (c_X0_isAhead l dC dI cI h ad n F i (show i < n by omega) w (show w < n by omega) hn) (cwV 2 hts gX0_place_X0_isAhead rfl rfl rfl (by decide +kernel) ⟨Nat.le_of_ble_eq_true rfl, Nat.le_of_ble_eq_true rfl⟩) ⟨PR.blind, va_recv hK hP (ci := 0) (q0 := 0) rfl rfl, fun U hU hW => ⟨rfl, PR.go hP hK hE hS hU hW⟩⟩ rfl rfl hl.1 rfl (lv_room (Nat.le_of_ble_eq_true rfl)) dX0_place_30 ⟨Nat.le_of_ble_eq_true rfl, Nat.le_of_ble_eq_true rfl⟩) (fun r hr0 => ?_)
          subst hr0
          refine rv_ifb_eq (tgt := 39) hx hb dX0_place_33 (by decide) (fun c_33 => ?_) (fun c_33 => ?_)
          · refine lv_iinc (v := nI (i + 1)) (lv' := [(3, .int (nI (i + 1))), (2, .int (nI a2)), (0, .ref h), (1, .int (nI w))]) hx hb dX0_place_39 hl (k := 0) rfl (nI_add i 1) (by decide) rfl (fun ls hl => ?_)
            refine lv_goto (tgt := 4) hx hb dX0_place_42 (by decide) ?_
            exact ih_4 (i + 1) a2 (by omega) (by rw [ha2]; simp only [s_placeU, fo_s]; simp [c_9, (show i < n from by omega), c_24, c_33]) ls (lv_sub hl [0, 1, 2, 3] rfl)
          · refine lv_iinc (v := nI (a2 + 1)) (lv' := [(2, .int (nI (a2 + 1))), (3, .int (nI i)), (0, .ref h), (1, .int (nI w))]) hx hb dX0_place_36 hl (k := 1) rfl (nI_add a2 1) (by decide) rfl (fun ls hl => ?_)
            refine lv_iinc (v := nI (i + 1)) (lv' := [(3, .int (nI (i + 1))), (2, .int (nI (a2 + 1))), (0, .ref h), (1, .int (nI w))]) hx hb dX0_place_39 hl (k := 1) rfl (nI_add i 1) (by decide) rfl (fun ls hl => ?_)
            refine lv_goto (tgt := 4) hx hb dX0_place_42 (by decide) ?_
            exact ih_4 (i + 1) (a2 + 1) (by omega) (by rw [ha2]; simp only [s_placeU, fo_s]; simp [c_9, (show i < n from by omega), c_24, c_33]) ls (lv_sub hl [0, 1, 2, 3] rfl)
  exact L_4 n 0 1 (by omega) rfl ls (lv_sub hl [0, 1, 2, 3] rfl)

set_option maxHeartbeats 4000000 in
set_option maxRecDepth 100000 in
theorem c_X0_standingAt (l : Launch) (dC : Nat → ClassId) (dI : Nat → Nat → Nat) (cI : ClassId) (h : Nat) (ad : Nat → Nat) (n : Nat) (F : Nat → Nat → Int32) (vp : Int32) (vq : Int32) (hn : n ≤ 12) : Met l yX0_standingAt wsX0_standingAt ({ frames := 2, cells := 0, slots := 0, locals := 45 } : Room) (va_Pc [.ref h, .int vp, .int vq] (fun U => PR dC dI cI (wR h ad cI n F) U)) (vp_Si (fun r => r = oI (s_at n F vp vq))) 0 0 (fun _ => False) := by
  refine Met.ofW (cc := cX0_standingAt) (maxL := 4) (ret := (some .int)) (by decide) rfl ?_
  intro p e s m args below meth c s₁ B hml hv
  obtain ⟨rfl, hP, hK, hE⟩ := hv
  have hx := B.exec
  have hb := B.bytes
  have hr := B.returns
  have hts := atoms_spec (ws := wsX0_standingAt) B.pre
  have hown : s.vm.findClass RX0 = some m.cls := findClass_of_methodNamed B.named
  have hlocks := B.notSynchronized
  have hS : va_S (fun _ => False) s.heap s.heap [] := va_S.rf
  have hinX0 : ∀ w ∈ wsX00, w ∈ wsX0_standingAt := by decide +kernel
  have hl := lv_entry ([.ref h, .int vp, .int vq]) (n := 4) (Nat.le_of_ble_eq_true rfl)
  rw [lg_entry_eq]
  generalize (lg_sl ([.ref h, .int vp, .int vq]) ++ List.replicate (4 - (lg_sl ([.ref h, .int vp, .int vq])).length) Slot.unset).toArray = ls at hl ⊢
  have hl : lv_has ls 4 [(0, .ref h), (1, .int vp), (2, .int vq)] := hl
  refine lv_iconst (v := 0) hx hb dX0_standingAt_0 (by decide) ?_
  refine lv_istore_n (lv' := [(3, .int 0), (0, .ref h), (1, .int vp), (2, .int vq)]) hx hb dX0_standingAt_1 rfl hl (by decide) rfl (fun ls hl => ?_)
  have L_2 : ∀ (k i : Nat), i + k = n → s_atU n F vp vq i = none → ∀ (ls : Array Slot), lv_has ls 4 [(3, .int (nI i)), (0, .ref h), (1, .int vp), (2, .int vq)] → W p l e (headSpec wsX0_standingAt ({ frames := 2, cells := 0, slots := 0, locals := 45 } : Room)).room s m ([.ref h, .int vp, .int vq] : List Value).toArray below meth c s.heap [] 0 0 (MQ below (vp_Si (fun r => r = oI (s_at n F vp vq))) ([.ref h, .int vp, .int vq] : List Value).toArray s 0 0 (fun _ => False)) (F0 m 2 ls []) := by
    intro k
    induction k with
    | zero =>
      intro i e_i hq ls hl
      refine lv_iload_n hx hb dX0_standingAt_2 rfl (lv_at hl 0 rfl) ?_
      refine lv_aload_n hx hb dX0_standingAt_3 rfl (lv_at hl 1 rfl) ?_
      refine va_get (D := (dC, dI)) (ci := 0) (v := .int (nI n)) (C := RX0) (T := TX0) (N := 8) hx hb hts hinX0 hown hK hP 0 rfl rfl 7 (by decide) (hts (.fieldLink RX0 33 "WrestleBook$Roster" "size" "I") (by decide +kernel)) (fun _ h9 => h9) rfl dX0_standingAt_4 ?_
      refine rv_icmp_ge (tgt := 37) hx hb (a := i) (b := n) (by omega) (by omega) dX0_standingAt_7 (by decide) (fun c_7 => ?_) (fun c_7 => ?_)
      · refine lv_iconst (v := (-1)) hx hb dX0_standingAt_37 (by decide) ?_
        exact W.iret (v := (-1)) hx hb hr (fun t ht hW => ⟨_, rfl, (show (-1) = oI (s_at n F vp vq) from by rw [s_at_none (show i = n by omega) hq]; rfl), ht⟩) hS.2.2 dX0_standingAt_38
      · exact absurd c_7 (by omega)
    | succ k ih_2 =>
      intro i e_i hq ls hl
      refine lv_iload_n hx hb dX0_standingAt_2 rfl (lv_at hl 0 rfl) ?_
      refine lv_aload_n hx hb dX0_standingAt_3 rfl (lv_at hl 1 rfl) ?_
      refine va_get (D := (dC, dI)) (ci := 0) (v := .int (nI n)) (C := RX0) (T := TX0) (N := 8) hx hb hts hinX0 hown hK hP 0 rfl rfl 7 (by decide) (hts (.fieldLink RX0 33 "WrestleBook$Roster" "size" "I") (by decide +kernel)) (fun _ h9 => h9) rfl dX0_standingAt_4 ?_
      refine rv_icmp_ge (tgt := 37) hx hb (a := i) (b := n) (by omega) (by omega) dX0_standingAt_7 (by decide) (fun c_7 => ?_) (fun c_7 => ?_)
      · exact absurd c_7 (by omega)
      · refine lv_aload_n hx hb dX0_standingAt_10 rfl (lv_at hl 1 rfl) ?_
        refine va_get (D := (dC, dI)) (ci := 0) (v := .ref (ad 0)) (C := RX0) (T := TX0) (N := 8) hx hb hts hinX0 hown hK hP 0 rfl rfl 0 (by decide) (hts (.fieldLink RX0 9 "WrestleBook$Roster" "leagues" "[I") (by decide +kernel)) (fun _ h9 => h9) rfl dX0_standingAt_11 ?_
        refine lv_iload_n hx hb dX0_standingAt_14 rfl (lv_at hl 0 rfl) ?_
        refine rv_iald (k := i) hx hb hK hP 1 0 rfl rfl (show i < 12 by omega) (by decide) dX0_standingAt_15 ?_
        refine lv_iload_n hx hb dX0_standingAt_16 rfl (lv_at hl 2 rfl) ?_
        refine lv_icmp_ne (tgt := 31) hx hb dX0_standingAt_17 (by decide) (fun c_17 => ?_) (fun c_17 => ?_)
        · refine lv_iinc (v := nI (i + 1)) (lv' := [(3, .int (nI (i + 1))), (0, .ref h), (1, .int vp), (2, .int vq)]) hx hb dX0_standingAt_31 hl (k := 0) rfl (nI_add i 1) (by decide) rfl (fun ls hl => ?_)
          refine lv_goto (tgt := 2) hx hb dX0_standingAt_34 (by decide) ?_
          exact ih_2 (i + 1) (by omega) (by simp only [s_atU, fo_s] at hq ⊢; rw [hq]; simp [c_7, (show i < n from by omega), c_17]) ls (lv_sub hl [0, 1, 2, 3] rfl)
        · refine lv_aload_n hx hb dX0_standingAt_20 rfl (lv_at hl 1 rfl) ?_
          refine lv_iload_n hx hb dX0_standingAt_21 rfl (lv_at hl 0 rfl) ?_
          refine vp_callSi (W.runV (As := [.int (nI i)]) (rest := []) ⟨hx, hb, hml, hown, hts⟩ (c_X0_place l dC dI cI h ad n F i (show i < n by omega) hn) (cwV 1 hts gX0_standingAt_X0_place rfl rfl rfl (by decide +kernel) ⟨Nat.le_of_ble_eq_true rfl, Nat.le_of_ble_eq_true rfl⟩) ⟨PR.blind, va_recv hK hP (ci := 0) (q0 := 0) rfl rfl, fun U hU hW => ⟨rfl, PR.go hP hK hE hS hU hW⟩⟩ rfl rfl hl.1 rfl (lv_room (Nat.le_of_ble_eq_true rfl)) dX0_standingAt_22 ⟨Nat.le_of_ble_eq_true rfl, Nat.le_of_ble_eq_true rfl⟩) (fun r hr0 => ?_)
          subst hr0
          refine lv_iload_n hx hb dX0_standingAt_25 rfl (lv_at hl 3 rfl) ?_
          refine lv_icmp_ne (tgt := 31) hx hb dX0_standingAt_26 (by decide) (fun c_26 => ?_) (fun c_26 => ?_)
          · refine lv_iinc (v := nI (i + 1)) (lv' := [(3, .int (nI (i + 1))), (0, .ref h), (1, .int vp), (2, .int vq)]) hx hb dX0_standingAt_31 hl (k := 0) rfl (nI_add i 1) (by decide) rfl (fun ls hl => ?_)
            refine lv_goto (tgt := 2) hx hb dX0_standingAt_34 (by decide) ?_
            exact ih_2 (i + 1) (by omega) (by simp only [s_atU, fo_s] at hq ⊢; rw [hq]; simp [c_7, (show i < n from by omega), c_17, c_26]) ls (lv_sub hl [0, 1, 2, 3] rfl)
          · refine lv_iload_n hx hb dX0_standingAt_29 rfl (lv_at hl 0 rfl) ?_
            exact W.iret (v := nI i) hx hb hr (fun t ht hW => ⟨_, rfl, (show nI i = oI (s_at n F vp vq) from by rw [s_at_hit hq (show i < n by omega) c_17 c_26]; rfl), ht⟩) hS.2.2 dX0_standingAt_30
  exact L_2 n 0 (by omega) rfl ls (lv_sub hl [0, 1, 2, 3] rfl)

set_option maxHeartbeats 4000000 in
set_option maxRecDepth 100000 in
theorem c_X0_highest (l : Launch) (dC : Nat → ClassId) (dI : Nat → Nat → Nat) (cI : ClassId) (h : Nat) (ad : Nat → Nat) (n : Nat) (F : Nat → Nat → Int32) (hn : n ≤ 12) : Met l yX0_highest wsX0_highest ({ frames := 1, cells := 0, slots := 0, locals := 13 } : Room) (va_Pc [.ref h] (fun U => PR dC dI cI (wR h ad cI n F) U)) (vp_Si (fun r => r = s_hi n F)) 0 0 (fun _ => False) := by
  refine Met.ofW (cc := cX0_highest) (maxL := 3) (ret := (some .int)) (by decide) rfl ?_
  intro p e s m args below meth c s₁ B hml hv
  obtain ⟨rfl, hP, hK, hE⟩ := hv
  have hx := B.exec
  have hb := B.bytes
  have hr := B.returns
  have hts := atoms_spec (ws := wsX0_highest) B.pre
  have hown : s.vm.findClass RX0 = some m.cls := findClass_of_methodNamed B.named
  have hlocks := B.notSynchronized
  have hS : va_S (fun _ => False) s.heap s.heap [] := va_S.rf
  have hinX0 : ∀ w ∈ wsX00, w ∈ wsX0_highest := by decide +kernel
  have hl := lv_entry ([.ref h]) (n := 3) (Nat.le_of_ble_eq_true rfl)
  rw [lg_entry_eq]
  generalize (lg_sl ([.ref h]) ++ List.replicate (3 - (lg_sl ([.ref h])).length) Slot.unset).toArray = ls at hl ⊢
  have hl : lv_has ls 3 [(0, .ref h)] := hl
  refine lv_iconst (v := 0) hx hb dX0_highest_0 (by decide) ?_
  refine lv_istore_n (lv' := [(1, .int 0), (0, .ref h)]) hx hb dX0_highest_1 rfl hl (by decide) rfl (fun ls hl => ?_)
  refine lv_iconst (v := 0) hx hb dX0_highest_2 (by decide) ?_
  refine lv_istore_n (lv' := [(2, .int 0), (1, .int 0), (0, .ref h)]) hx hb dX0_highest_3 rfl hl (by decide) rfl (fun ls hl => ?_)
  have L_4 : ∀ (k i : Nat) (x1 : Int32), i + k = n → x1 = s_hiU F i → ∀ (ls : Array Slot), lv_has ls 3 [(2, .int (nI i)), (1, .int x1), (0, .ref h)] → W p l e (headSpec wsX0_highest ({ frames := 1, cells := 0, slots := 0, locals := 13 } : Room)).room s m ([.ref h] : List Value).toArray below meth c s.heap [] 0 0 (MQ below (vp_Si (fun r => r = s_hi n F)) ([.ref h] : List Value).toArray s 0 0 (fun _ => False)) (F0 m 4 ls []) := by
    intro k
    induction k with
    | zero =>
      intro i x1 e_i hx1 ls hl
      refine lv_iload_n hx hb dX0_highest_4 rfl (lv_at hl 0 rfl) ?_
      refine lv_aload_n hx hb dX0_highest_5 rfl (lv_at hl 2 rfl) ?_
      refine va_get (D := (dC, dI)) (ci := 0) (v := .int (nI n)) (C := RX0) (T := TX0) (N := 8) hx hb hts hinX0 hown hK hP 0 rfl rfl 7 (by decide) (hts (.fieldLink RX0 33 "WrestleBook$Roster" "size" "I") (by decide +kernel)) (fun _ h9 => h9) rfl dX0_highest_6 ?_
      refine rv_icmp_ge (tgt := 29) hx hb (a := i) (b := n) (by omega) (by omega) dX0_highest_9 (by decide) (fun c_9 => ?_) (fun c_9 => ?_)
      · refine lv_iload_n hx hb dX0_highest_29 rfl (lv_at hl 1 rfl) ?_
        exact W.iret (v := x1) hx hb hr (fun t ht hW => ⟨_, rfl, (show x1 = s_hi n F from by rw [hx1, show i = n by omega]; rfl), ht⟩) hS.2.2 dX0_highest_30
      · exact absurd c_9 (by omega)
    | succ k ih_4 =>
      intro i x1 e_i hx1 ls hl
      refine lv_iload_n hx hb dX0_highest_4 rfl (lv_at hl 0 rfl) ?_
      refine lv_aload_n hx hb dX0_highest_5 rfl (lv_at hl 2 rfl) ?_
      refine va_get (D := (dC, dI)) (ci := 0) (v := .int (nI n)) (C := RX0) (T := TX0) (N := 8) hx hb hts hinX0 hown hK hP 0 rfl rfl 7 (by decide) (hts (.fieldLink RX0 33 "WrestleBook$Roster" "size" "I") (by decide +kernel)) (fun _ h9 => h9) rfl dX0_highest_6 ?_
      refine rv_icmp_ge (tgt := 29) hx hb (a := i) (b := n) (by omega) (by omega) dX0_highest_9 (by decide) (fun c_9 => ?_) (fun c_9 => ?_)
      · exact absurd c_9 (by omega)
      · refine lv_iload_n hx hb dX0_highest_12 rfl (lv_at hl 1 rfl) ?_
        refine lv_aload_n hx hb dX0_highest_13 rfl (lv_at hl 2 rfl) ?_
        refine va_get (D := (dC, dI)) (ci := 0) (v := .ref (ad 1)) (C := RX0) (T := TX0) (N := 8) hx hb hts hinX0 hown hK hP 0 rfl rfl 1 (by decide) (hts (.fieldLink RX0 15 "WrestleBook$Roster" "ratings" "[I") (by decide +kernel)) (fun _ h9 => h9) rfl dX0_highest_14 ?_
        refine lv_iload_n hx hb dX0_highest_17 rfl (lv_at hl 0 rfl) ?_
        refine rv_iald (k := i) hx hb hK hP 2 0 rfl rfl (show i < 12 by omega) (by decide) dX0_highest_18 ?_
        refine va_mmax hx hb (hml.trans hl.1.symm) hown (hts (.methodLink RX0 37 Lib.Math.max.name) (by decide +kernel)) (hts (.static Lib.Math.max.name) (by decide +kernel)) (hts (.initialized "java/lang/Math") (by decide +kernel)) (hts (.code Lib.Math.max.name Lib.Math.max.code 2 (some .int)) (by decide +kernel)) (Nat.le_of_ble_eq_true rfl) (Nat.le_of_ble_eq_true rfl) (Nat.zero_le _) (Nat.zero_le _) dX0_highest_19 ?_
        refine lv_istore_n (lv' := [(1, .int (if x1 < (F 1 i) then (F 1 i) else x1)), (2, .int (nI i)), (0, .ref h)]) hx hb dX0_highest_22 rfl hl (by decide) rfl (fun ls hl => ?_)
        refine lv_iinc (v := nI (i + 1)) (lv' := [(2, .int (nI (i + 1))), (1, .int (if x1 < (F 1 i) then (F 1 i) else x1)), (0, .ref h)]) hx hb dX0_highest_23 hl (k := 1) rfl (nI_add i 1) (by decide) rfl (fun ls hl => ?_)
        refine lv_goto (tgt := 4) hx hb dX0_highest_26 (by decide) ?_
        exact ih_4 (i + 1) (if x1 < (F 1 i) then (F 1 i) else x1) (by omega) (by rw [hx1]; rfl) ls (lv_sub hl [0, 1, 2] rfl)
  exact L_4 n 0 0 (by omega) rfl ls (lv_sub hl [0, 1, 2] rfl)

set_option maxHeartbeats 4000000 in
set_option maxRecDepth 100000 in
theorem c_X0_lowest (l : Launch) (dC : Nat → ClassId) (dI : Nat → Nat → Nat) (cI : ClassId) (h : Nat) (ad : Nat → Nat) (n : Nat) (F : Nat → Nat → Int32) (hn : n ≤ 12) : Met l yX0_lowest wsX0_lowest ({ frames := 1, cells := 0, slots := 0, locals := 13 } : Room) (va_Pc [.ref h] (fun U => PR dC dI cI (wR h ad cI n F) U)) (vp_Si (fun r => r = s_lo n F)) 0 0 (fun _ => False) := by
  refine Met.ofW (cc := cX0_lowest) (maxL := 3) (ret := (some .int)) (by decide) rfl ?_
  intro p e s m args below meth c s₁ B hml hv
  obtain ⟨rfl, hP, hK, hE⟩ := hv
  have hx := B.exec
  have hb := B.bytes
  have hr := B.returns
  have hts := atoms_spec (ws := wsX0_lowest) B.pre
  have hown : s.vm.findClass RX0 = some m.cls := findClass_of_methodNamed B.named
  have hlocks := B.notSynchronized
  have hS : va_S (fun _ => False) s.heap s.heap [] := va_S.rf
  have hinX0 : ∀ w ∈ wsX00, w ∈ wsX0_lowest := by decide +kernel
  have hl := lv_entry ([.ref h]) (n := 3) (Nat.le_of_ble_eq_true rfl)
  rw [lg_entry_eq]
  generalize (lg_sl ([.ref h]) ++ List.replicate (3 - (lg_sl ([.ref h])).length) Slot.unset).toArray = ls at hl ⊢
  have hl : lv_has ls 3 [(0, .ref h)] := hl
  refine lv_aload_n hx hb dX0_lowest_0 rfl (lv_at hl 0 rfl) ?_
  refine va_get (D := (dC, dI)) (ci := 0) (v := .int (nI n)) (C := RX0) (T := TX0) (N := 8) hx hb hts hinX0 hown hK hP 0 rfl rfl 7 (by decide) (hts (.fieldLink RX0 33 "WrestleBook$Roster" "size" "I") (by decide +kernel)) (fun _ h9 => h9) rfl dX0_lowest_1 ?_
  refine lv_if_ne (tgt := 11) hx hb dX0_lowest_4 (by decide) (fun c_4 => ?_) (fun c_4 => ?_)
  · have hn0 : ¬ n = 0 := fun q => c_4 (by rw [q]; rfl)
    obtain ⟨z0, hz0⟩ : ∃ z : Int32, z = 3000 := ⟨_, rfl⟩
    refine lv_sipush (v := 3000) hx hb dX0_lowest_11 (by decide) ?_
    refine lv_istore_n (lv' := [(1, .int 3000), (0, .ref h)]) hx hb dX0_lowest_14 rfl hl (by decide) rfl (fun ls hl => ?_)
    refine lv_iconst (v := 0) hx hb dX0_lowest_15 (by decide) ?_
    refine lv_istore_n (lv' := [(2, .int 0), (1, .int 3000), (0, .ref h)]) hx hb dX0_lowest_16 rfl hl (by decide) rfl (fun ls hl => ?_)
    have L_17 : ∀ (k j : Nat) (x1 : Int32), j + k = n → x1 = s_loU F (if n = 0 then 0 else 3000) j → ∀ (ls : Array Slot), lv_has ls 3 [(2, .int (nI j)), (1, .int x1), (0, .ref h)] → W p l e (headSpec wsX0_lowest ({ frames := 1, cells := 0, slots := 0, locals := 13 } : Room)).room s m ([.ref h] : List Value).toArray below meth c s.heap [] 0 0 (MQ below (vp_Si (fun r => r = s_lo n F)) ([.ref h] : List Value).toArray s 0 0 (fun _ => False)) (F0 m 17 ls []) := by
      intro k
      induction k with
      | zero =>
        intro j x1 e_j hx1 ls hl
        refine lv_iload_n hx hb dX0_lowest_17 rfl (lv_at hl 0 rfl) ?_
        refine lv_aload_n hx hb dX0_lowest_18 rfl (lv_at hl 2 rfl) ?_
        refine va_get (D := (dC, dI)) (ci := 0) (v := .int (nI n)) (C := RX0) (T := TX0) (N := 8) hx hb hts hinX0 hown hK hP 0 rfl rfl 7 (by decide) (hts (.fieldLink RX0 33 "WrestleBook$Roster" "size" "I") (by decide +kernel)) (fun _ h9 => h9) rfl dX0_lowest_19 ?_
        refine rv_icmp_ge (tgt := 42) hx hb (a := j) (b := n) (by omega) (by omega) dX0_lowest_22 (by decide) (fun c_22 => ?_) (fun c_22 => ?_)
        · refine lv_iload_n hx hb dX0_lowest_42 rfl (lv_at hl 1 rfl) ?_
          exact W.iret (v := x1) hx hb hr (fun t ht hW => ⟨_, rfl, (show x1 = s_lo n F from by rw [hx1, show j = n by omega]; rfl), ht⟩) hS.2.2 dX0_lowest_43
        · exact absurd c_22 (by omega)
      | succ k ih_17 =>
        intro j x1 e_j hx1 ls hl
        refine lv_iload_n hx hb dX0_lowest_17 rfl (lv_at hl 0 rfl) ?_
        refine lv_aload_n hx hb dX0_lowest_18 rfl (lv_at hl 2 rfl) ?_
        refine va_get (D := (dC, dI)) (ci := 0) (v := .int (nI n)) (C := RX0) (T := TX0) (N := 8) hx hb hts hinX0 hown hK hP 0 rfl rfl 7 (by decide) (hts (.fieldLink RX0 33 "WrestleBook$Roster" "size" "I") (by decide +kernel)) (fun _ h9 => h9) rfl dX0_lowest_19 ?_
        refine rv_icmp_ge (tgt := 42) hx hb (a := j) (b := n) (by omega) (by omega) dX0_lowest_22 (by decide) (fun c_22 => ?_) (fun c_22 => ?_)
        · exact absurd c_22 (by omega)
        · refine lv_iload_n hx hb dX0_lowest_25 rfl (lv_at hl 1 rfl) ?_
          refine lv_aload_n hx hb dX0_lowest_26 rfl (lv_at hl 2 rfl) ?_
          refine va_get (D := (dC, dI)) (ci := 0) (v := .ref (ad 1)) (C := RX0) (T := TX0) (N := 8) hx hb hts hinX0 hown hK hP 0 rfl rfl 1 (by decide) (hts (.fieldLink RX0 15 "WrestleBook$Roster" "ratings" "[I") (by decide +kernel)) (fun _ h9 => h9) rfl dX0_lowest_27 ?_
          refine lv_iload_n hx hb dX0_lowest_30 rfl (lv_at hl 0 rfl) ?_
          refine rv_iald (k := j) hx hb hK hP 2 0 rfl rfl (show j < 12 by omega) (by decide) dX0_lowest_31 ?_
          refine va_mmin hx hb (hml.trans hl.1.symm) hown (hts (.methodLink RX0 47 Lib.Math.min.name) (by decide +kernel)) (hts (.static Lib.Math.min.name) (by decide +kernel)) (hts (.initialized "java/lang/Math") (by decide +kernel)) (hts (.code Lib.Math.min.name Lib.Math.min.code 2 (some .int)) (by decide +kernel)) (Nat.le_of_ble_eq_true rfl) (Nat.le_of_ble_eq_true rfl) (Nat.zero_le _) (Nat.zero_le _) dX0_lowest_32 ?_
          refine lv_istore_n (lv' := [(1, .int (if (F 1 j) < x1 then (F 1 j) else x1)), (2, .int (nI j)), (0, .ref h)]) hx hb dX0_lowest_35 rfl hl (by decide) rfl (fun ls hl => ?_)
          refine lv_iinc (v := nI (j + 1)) (lv' := [(2, .int (nI (j + 1))), (1, .int (if (F 1 j) < x1 then (F 1 j) else x1)), (0, .ref h)]) hx hb dX0_lowest_36 hl (k := 1) rfl (nI_add j 1) (by decide) rfl (fun ls hl => ?_)
          refine lv_goto (tgt := 17) hx hb dX0_lowest_39 (by decide) ?_
          exact ih_17 (j + 1) (if (F 1 j) < x1 then (F 1 j) else x1) (by omega) (by rw [hx1]; rfl) ls (lv_sub hl [0, 1, 2] rfl)
    exact L_17 n 0 3000 (by omega) (by rw [s_loU, fo_0]; simp [hn0]) ls (lv_sub hl [0, 1, 2] rfl)
  · have hn0 : n = 0 := (nI_eq (by omega) (by decide)).mp c_4
    refine lv_iconst (v := 0) hx hb dX0_lowest_7 (by decide) ?_
    refine lv_goto (tgt := 14) hx hb dX0_lowest_8 (by decide) ?_
    refine lv_istore_n (lv' := [(1, .int 0), (0, .ref h)]) hx hb dX0_lowest_14 rfl hl (by decide) rfl (fun ls hl => ?_)
    refine lv_iconst (v := 0) hx hb dX0_lowest_15 (by decide) ?_
    refine lv_istore_n (lv' := [(2, .int 0), (1, .int 0), (0, .ref h)]) hx hb dX0_lowest_16 rfl hl (by decide) rfl (fun ls hl => ?_)
    have L_17 : ∀ (k j : Nat) (x1 : Int32), j + k = n → x1 = s_loU F (if n = 0 then 0 else 3000) j → ∀ (ls : Array Slot), lv_has ls 3 [(2, .int (nI j)), (1, .int x1), (0, .ref h)] → W p l e (headSpec wsX0_lowest ({ frames := 1, cells := 0, slots := 0, locals := 13 } : Room)).room s m ([.ref h] : List Value).toArray below meth c s.heap [] 0 0 (MQ below (vp_Si (fun r => r = s_lo n F)) ([.ref h] : List Value).toArray s 0 0 (fun _ => False)) (F0 m 17 ls []) := by
      intro k
      induction k with
      | zero =>
        intro j x1 e_j hx1 ls hl
        refine lv_iload_n hx hb dX0_lowest_17 rfl (lv_at hl 0 rfl) ?_
        refine lv_aload_n hx hb dX0_lowest_18 rfl (lv_at hl 2 rfl) ?_
        refine va_get (D := (dC, dI)) (ci := 0) (v := .int (nI n)) (C := RX0) (T := TX0) (N := 8) hx hb hts hinX0 hown hK hP 0 rfl rfl 7 (by decide) (hts (.fieldLink RX0 33 "WrestleBook$Roster" "size" "I") (by decide +kernel)) (fun _ h9 => h9) rfl dX0_lowest_19 ?_
        refine rv_icmp_ge (tgt := 42) hx hb (a := j) (b := n) (by omega) (by omega) dX0_lowest_22 (by decide) (fun c_22 => ?_) (fun c_22 => ?_)
        · refine lv_iload_n hx hb dX0_lowest_42 rfl (lv_at hl 1 rfl) ?_
          exact W.iret (v := x1) hx hb hr (fun t ht hW => ⟨_, rfl, (show x1 = s_lo n F from by rw [hx1, show j = n by omega]; rfl), ht⟩) hS.2.2 dX0_lowest_43
        · exact absurd c_22 (by omega)
      | succ k ih_17 =>
        intro j x1 e_j hx1 ls hl
        refine lv_iload_n hx hb dX0_lowest_17 rfl (lv_at hl 0 rfl) ?_
        refine lv_aload_n hx hb dX0_lowest_18 rfl (lv_at hl 2 rfl) ?_
        refine va_get (D := (dC, dI)) (ci := 0) (v := .int (nI n)) (C := RX0) (T := TX0) (N := 8) hx hb hts hinX0 hown hK hP 0 rfl rfl 7 (by decide) (hts (.fieldLink RX0 33 "WrestleBook$Roster" "size" "I") (by decide +kernel)) (fun _ h9 => h9) rfl dX0_lowest_19 ?_
        refine rv_icmp_ge (tgt := 42) hx hb (a := j) (b := n) (by omega) (by omega) dX0_lowest_22 (by decide) (fun c_22 => ?_) (fun c_22 => ?_)
        · exact absurd c_22 (by omega)
        · refine lv_iload_n hx hb dX0_lowest_25 rfl (lv_at hl 1 rfl) ?_
          refine lv_aload_n hx hb dX0_lowest_26 rfl (lv_at hl 2 rfl) ?_
          refine va_get (D := (dC, dI)) (ci := 0) (v := .ref (ad 1)) (C := RX0) (T := TX0) (N := 8) hx hb hts hinX0 hown hK hP 0 rfl rfl 1 (by decide) (hts (.fieldLink RX0 15 "WrestleBook$Roster" "ratings" "[I") (by decide +kernel)) (fun _ h9 => h9) rfl dX0_lowest_27 ?_
          refine lv_iload_n hx hb dX0_lowest_30 rfl (lv_at hl 0 rfl) ?_
          refine rv_iald (k := j) hx hb hK hP 2 0 rfl rfl (show j < 12 by omega) (by decide) dX0_lowest_31 ?_
          refine va_mmin hx hb (hml.trans hl.1.symm) hown (hts (.methodLink RX0 47 Lib.Math.min.name) (by decide +kernel)) (hts (.static Lib.Math.min.name) (by decide +kernel)) (hts (.initialized "java/lang/Math") (by decide +kernel)) (hts (.code Lib.Math.min.name Lib.Math.min.code 2 (some .int)) (by decide +kernel)) (Nat.le_of_ble_eq_true rfl) (Nat.le_of_ble_eq_true rfl) (Nat.zero_le _) (Nat.zero_le _) dX0_lowest_32 ?_
          refine lv_istore_n (lv' := [(1, .int (if (F 1 j) < x1 then (F 1 j) else x1)), (2, .int (nI j)), (0, .ref h)]) hx hb dX0_lowest_35 rfl hl (by decide) rfl (fun ls hl => ?_)
          refine lv_iinc (v := nI (j + 1)) (lv' := [(2, .int (nI (j + 1))), (1, .int (if (F 1 j) < x1 then (F 1 j) else x1)), (0, .ref h)]) hx hb dX0_lowest_36 hl (k := 1) rfl (nI_add j 1) (by decide) rfl (fun ls hl => ?_)
          refine lv_goto (tgt := 17) hx hb dX0_lowest_39 (by decide) ?_
          exact ih_17 (j + 1) (if (F 1 j) < x1 then (F 1 j) else x1) (by omega) (by rw [hx1]; rfl) ls (lv_sub hl [0, 1, 2] rfl)
    exact L_17 n 0 0 (by omega) (by rw [s_loU, fo_0]; simp [hn0]) ls (lv_sub hl [0, 1, 2] rfl)

set_option maxHeartbeats 4000000 in
set_option maxRecDepth 100000 in
theorem c_X0_sumOfRatings (l : Launch) (dC : Nat → ClassId) (dI : Nat → Nat → Nat) (cI : ClassId) (h : Nat) (ad : Nat → Nat) (n : Nat) (F : Nat → Nat → Int32) (hn : n ≤ 12) : Met l yX0_sumOfRatings wsX0_sumOfRatings ({ frames := 0, cells := 0, slots := 0, locals := 0 } : Room) (va_Pc [.ref h] (fun U => PR dC dI cI (wR h ad cI n F) U)) (vp_Si (fun r => r = s_sum n F)) 0 0 (fun _ => False) := by
  refine Met.ofW (cc := cX0_sumOfRatings) (maxL := 3) (ret := (some .int)) (by decide) rfl ?_
  intro p e s m args below meth c s₁ B hml hv
  obtain ⟨rfl, hP, hK, hE⟩ := hv
  have hx := B.exec
  have hb := B.bytes
  have hr := B.returns
  have hts := atoms_spec (ws := wsX0_sumOfRatings) B.pre
  have hown : s.vm.findClass RX0 = some m.cls := findClass_of_methodNamed B.named
  have hlocks := B.notSynchronized
  have hS : va_S (fun _ => False) s.heap s.heap [] := va_S.rf
  have hinX0 : ∀ w ∈ wsX00, w ∈ wsX0_sumOfRatings := by decide +kernel
  have hl := lv_entry ([.ref h]) (n := 3) (Nat.le_of_ble_eq_true rfl)
  rw [lg_entry_eq]
  generalize (lg_sl ([.ref h]) ++ List.replicate (3 - (lg_sl ([.ref h])).length) Slot.unset).toArray = ls at hl ⊢
  have hl : lv_has ls 3 [(0, .ref h)] := hl
  refine lv_iconst (v := 0) hx hb dX0_sumOfRatings_0 (by decide) ?_
  refine lv_istore_n (lv' := [(1, .int 0), (0, .ref h)]) hx hb dX0_sumOfRatings_1 rfl hl (by decide) rfl (fun ls hl => ?_)
  refine lv_iconst (v := 0) hx hb dX0_sumOfRatings_2 (by decide) ?_
  refine lv_istore_n (lv' := [(2, .int 0), (1, .int 0), (0, .ref h)]) hx hb dX0_sumOfRatings_3 rfl hl (by decide) rfl (fun ls hl => ?_)
  have L_4 : ∀ (k i : Nat) (x1 : Int32), i + k = n → x1 = s_sumU F i → ∀ (ls : Array Slot), lv_has ls 3 [(2, .int (nI i)), (1, .int x1), (0, .ref h)] → W p l e (headSpec wsX0_sumOfRatings ({ frames := 0, cells := 0, slots := 0, locals := 0 } : Room)).room s m ([.ref h] : List Value).toArray below meth c s.heap [] 0 0 (MQ below (vp_Si (fun r => r = s_sum n F)) ([.ref h] : List Value).toArray s 0 0 (fun _ => False)) (F0 m 4 ls []) := by
    intro k
    induction k with
    | zero =>
      intro i x1 e_i hx1 ls hl
      refine lv_iload_n hx hb dX0_sumOfRatings_4 rfl (lv_at hl 0 rfl) ?_
      refine lv_aload_n hx hb dX0_sumOfRatings_5 rfl (lv_at hl 2 rfl) ?_
      refine va_get (D := (dC, dI)) (ci := 0) (v := .int (nI n)) (C := RX0) (T := TX0) (N := 8) hx hb hts hinX0 hown hK hP 0 rfl rfl 7 (by decide) (hts (.fieldLink RX0 33 "WrestleBook$Roster" "size" "I") (by decide +kernel)) (fun _ h9 => h9) rfl dX0_sumOfRatings_6 ?_
      refine rv_icmp_ge (tgt := 27) hx hb (a := i) (b := n) (by omega) (by omega) dX0_sumOfRatings_9 (by decide) (fun c_9 => ?_) (fun c_9 => ?_)
      · refine lv_iload_n hx hb dX0_sumOfRatings_27 rfl (lv_at hl 1 rfl) ?_
        exact W.iret (v := x1) hx hb hr (fun t ht hW => ⟨_, rfl, (show x1 = s_sum n F from by rw [hx1, show i = n by omega]; rfl), ht⟩) hS.2.2 dX0_sumOfRatings_28
      · exact absurd c_9 (by omega)
    | succ k ih_4 =>
      intro i x1 e_i hx1 ls hl
      refine lv_iload_n hx hb dX0_sumOfRatings_4 rfl (lv_at hl 0 rfl) ?_
      refine lv_aload_n hx hb dX0_sumOfRatings_5 rfl (lv_at hl 2 rfl) ?_
      refine va_get (D := (dC, dI)) (ci := 0) (v := .int (nI n)) (C := RX0) (T := TX0) (N := 8) hx hb hts hinX0 hown hK hP 0 rfl rfl 7 (by decide) (hts (.fieldLink RX0 33 "WrestleBook$Roster" "size" "I") (by decide +kernel)) (fun _ h9 => h9) rfl dX0_sumOfRatings_6 ?_
      refine rv_icmp_ge (tgt := 27) hx hb (a := i) (b := n) (by omega) (by omega) dX0_sumOfRatings_9 (by decide) (fun c_9 => ?_) (fun c_9 => ?_)
      · exact absurd c_9 (by omega)
      · refine lv_iload_n hx hb dX0_sumOfRatings_12 rfl (lv_at hl 1 rfl) ?_
        refine lv_aload_n hx hb dX0_sumOfRatings_13 rfl (lv_at hl 2 rfl) ?_
        refine va_get (D := (dC, dI)) (ci := 0) (v := .ref (ad 1)) (C := RX0) (T := TX0) (N := 8) hx hb hts hinX0 hown hK hP 0 rfl rfl 1 (by decide) (hts (.fieldLink RX0 15 "WrestleBook$Roster" "ratings" "[I") (by decide +kernel)) (fun _ h9 => h9) rfl dX0_sumOfRatings_14 ?_
        refine lv_iload_n hx hb dX0_sumOfRatings_17 rfl (lv_at hl 0 rfl) ?_
        refine rv_iald (k := i) hx hb hK hP 2 0 rfl rfl (show i < 12 by omega) (by decide) dX0_sumOfRatings_18 ?_
        refine lv_iadd hx hb dX0_sumOfRatings_19 ?_
        refine lv_istore_n (lv' := [(1, .int (x1 + (F 1 i))), (2, .int (nI i)), (0, .ref h)]) hx hb dX0_sumOfRatings_20 rfl hl (by decide) rfl (fun ls hl => ?_)
        refine lv_iinc (v := nI (i + 1)) (lv' := [(2, .int (nI (i + 1))), (1, .int (x1 + (F 1 i))), (0, .ref h)]) hx hb dX0_sumOfRatings_21 hl (k := 1) rfl (nI_add i 1) (by decide) rfl (fun ls hl => ?_)
        refine lv_goto (tgt := 4) hx hb dX0_sumOfRatings_24 (by decide) ?_
        exact ih_4 (i + 1) (x1 + (F 1 i)) (by omega) (by rw [hx1]; rfl) ls (lv_sub hl [0, 1, 2] rfl)
  exact L_4 n 0 0 (by omega) rfl ls (lv_sub hl [0, 1, 2] rfl)

set_option maxHeartbeats 4000000 in
set_option maxRecDepth 100000 in
theorem c_X0_expectedOfHigher (l : Launch) (dC : Nat → ClassId) (dI : Nat → Nat → Nat) (cI : ClassId)  (d : Nat) (hd : d ≤ 2900) : Met l yX0_expectedOfHigher wsX0_expectedOfHigher ({ frames := 1, cells := 0, slots := 0, locals := 13 } : Room) (va_Pc [.int (nI d)] (fun U => PR dC dI cI ([]) U)) (vp_Si (fun r => r = s_eoh d)) 0 0 (fun _ => False) := by
  refine Met.ofW (cc := cX0_expectedOfHigher) (maxL := 4) (ret := (some .int)) (by decide) rfl ?_
  intro p e s m args below meth c s₁ B hml hv
  obtain ⟨rfl, hP, hK, hE⟩ := hv
  have hx := B.exec
  have hb := B.bytes
  have hr := B.returns
  have hts := atoms_spec (ws := wsX0_expectedOfHigher) B.pre
  have hown : s.vm.findClass RX0 = some m.cls := findClass_of_methodNamed B.named
  have hlocks := B.notSynchronized
  have hS : va_S (fun _ => False) s.heap s.heap [] := va_S.rf
  obtain ⟨⟨tE, hzE, htE⟩, -⟩ := id hE
  have hl := lv_entry ([.int (nI d)]) (n := 4) (Nat.le_of_ble_eq_true rfl)
  rw [lg_entry_eq]
  generalize (lg_sl ([.int (nI d)]) ++ List.replicate (4 - (lg_sl ([.int (nI d)])).length) Slot.unset).toArray = ls at hl ⊢
  have hl : lv_has ls 4 [(0, .int (nI d))] := hl
  have hm : mD d ≤ 800 := mD_le d
  refine lv_iload_n hx hb dX0_expectedOfHigher_0 rfl (lv_at hl 0 rfl) ?_
  refine lv_sipush (v := 800) hx hb dX0_expectedOfHigher_1 (by decide) ?_
  refine va_mmin hx hb (hml.trans hl.1.symm) hown (hts (.methodLink RX0 47 Lib.Math.min.name) (by decide +kernel)) (hts (.static Lib.Math.min.name) (by decide +kernel)) (hts (.initialized "java/lang/Math") (by decide +kernel)) (hts (.code Lib.Math.min.name Lib.Math.min.code 2 (some .int)) (by decide +kernel)) (Nat.le_of_ble_eq_true rfl) (Nat.le_of_ble_eq_true rfl) (Nat.zero_le _) (Nat.zero_le _) dX0_expectedOfHigher_4 ?_
  refine rv_top (y := nI (mD d)) (mD_min hd) ?_
  refine lv_istore_n (lv' := [(1, .int (nI (mD d))), (0, .int (nI d))]) hx hb dX0_expectedOfHigher_7 rfl hl (by decide) rfl (fun ls hl => ?_)
  refine lv_iload_n hx hb dX0_expectedOfHigher_8 rfl (lv_at hl 0 rfl) ?_
  refine lv_bipush (v := 100) hx hb dX0_expectedOfHigher_9 (by decide) ?_
  refine lv_idiv hx hb dX0_expectedOfHigher_11 (by decide) ?_
  refine rv_top (y := nI (mD d / 100)) (pk_div (d := 100) (by omega) (by decide) (by decide)) ?_
  refine lv_istore_n (lv' := [(2, .int (nI (mD d / 100))), (1, .int (nI (mD d))), (0, .int (nI d))]) hx hb dX0_expectedOfHigher_12 rfl hl (by decide) rfl (fun ls hl => ?_)
  refine lv_iload_n hx hb dX0_expectedOfHigher_13 rfl (lv_at hl 1 rfl) ?_
  refine lv_sipush (v := 800) hx hb dX0_expectedOfHigher_14 (by decide) ?_
  refine rv_icmp_ne (tgt := 26) hx hb (a := (mD d)) (b := 800) (by omega) (by omega) dX0_expectedOfHigher_17 (by decide) (fun c_17 => ?_) (fun c_17 => ?_)
  · refine va_gets hx hb hzE hS hown (hts (.fieldLink RX0 50 "WrestleBook$Roster" "EXPECTED" "[I") (by decide +kernel)) (fun _ h9 => h9) dX0_expectedOfHigher_26 ?_
    refine lv_iload_n hx hb dX0_expectedOfHigher_29 rfl (lv_at hl 0 rfl) ?_
    refine lv_iconst (v := 1) hx hb dX0_expectedOfHigher_30 (by decide) ?_
    refine lv_iadd hx hb dX0_expectedOfHigher_31 ?_
    refine rv_top (y := nI (mD d / 100 + 1)) (nI_1 _) ?_
    refine rv_ti (k := (mD d / 100 + 1)) hx hb htE hS (show mD d / 100 + 1 < 9 by omega) n9 dX0_expectedOfHigher_32 ?_
    refine va_gets hx hb hzE hS hown (hts (.fieldLink RX0 50 "WrestleBook$Roster" "EXPECTED" "[I") (by decide +kernel)) (fun _ h9 => h9) dX0_expectedOfHigher_33 ?_
    refine lv_iload_n hx hb dX0_expectedOfHigher_36 rfl (lv_at hl 0 rfl) ?_
    refine rv_ti (k := (mD d / 100)) hx hb htE hS (show mD d / 100 < 9 by omega) n9 dX0_expectedOfHigher_37 ?_
    refine lv_isub hx hb dX0_expectedOfHigher_38 ?_
    refine lv_istore_n (lv' := [(3, .int ((tb (mD d / 100 + 1)) - (tb (mD d / 100)))), (2, .int (nI (mD d / 100))), (1, .int (nI (mD d))), (0, .int (nI d))]) hx hb dX0_expectedOfHigher_39 rfl hl (by decide) rfl (fun ls hl => ?_)
    refine va_gets hx hb hzE hS hown (hts (.fieldLink RX0 50 "WrestleBook$Roster" "EXPECTED" "[I") (by decide +kernel)) (fun _ h9 => h9) dX0_expectedOfHigher_40 ?_
    refine lv_iload_n hx hb dX0_expectedOfHigher_43 rfl (lv_at hl 1 rfl) ?_
    refine rv_ti (k := (mD d / 100)) hx hb htE hS (show mD d / 100 < 9 by omega) n9 dX0_expectedOfHigher_44 ?_
    refine lv_iload_n hx hb dX0_expectedOfHigher_45 rfl (lv_at hl 0 rfl) ?_
    refine lv_iload_n hx hb dX0_expectedOfHigher_46 rfl (lv_at hl 2 rfl) ?_
    refine lv_bipush (v := 100) hx hb dX0_expectedOfHigher_47 (by decide) ?_
    refine lv_irem hx hb dX0_expectedOfHigher_49 (by decide) ?_
    refine rv_top (y := nI (mD d % 100)) (pk_rem (d := 100) (by omega) (by decide) (by decide)) ?_
    refine lv_imul hx hb dX0_expectedOfHigher_50 ?_
    refine lv_bipush (v := 100) hx hb dX0_expectedOfHigher_51 (by decide) ?_
    refine lv_idiv hx hb dX0_expectedOfHigher_53 (by decide) ?_
    refine lv_iadd hx hb dX0_expectedOfHigher_54 ?_
    exact W.iret (v := (tb (mD d / 100)) + ((((tb (mD d / 100 + 1)) - (tb (mD d / 100))) * (nI (mD d % 100))) / 100)) hx hb hr (fun t ht hW => ⟨_, rfl, (show (tb (mD d / 100)) + ((((tb (mD d / 100 + 1)) - (tb (mD d / 100))) * (nI (mD d % 100))) / 100) = s_eoh d from by simp [s_eoh, exN, c_17]), ht⟩) hS.2.2 dX0_expectedOfHigher_55
  · refine va_gets hx hb hzE hS hown (hts (.fieldLink RX0 50 "WrestleBook$Roster" "EXPECTED" "[I") (by decide +kernel)) (fun _ h9 => h9) dX0_expectedOfHigher_20 ?_
    refine lv_iload_n hx hb dX0_expectedOfHigher_23 rfl (lv_at hl 0 rfl) ?_
    refine rv_ti (k := (mD d / 100)) hx hb htE hS (show mD d / 100 < 9 by omega) n9 dX0_expectedOfHigher_24 ?_
    exact W.iret (v := tb (mD d / 100)) hx hb hr (fun t ht hW => ⟨_, rfl, (show tb (mD d / 100) = s_eoh d from by simp [s_eoh, exN, c_17]), ht⟩) hS.2.2 dX0_expectedOfHigher_25

set_option maxHeartbeats 4000000 in
set_option maxRecDepth 100000 in
theorem c_X0_expectation (l : Launch) (dC : Nat → ClassId) (dI : Nat → Nat → Nat) (cI : ClassId) (h : Nat) (ad : Nat → Nat) (n : Nat) (F : Nat → Nat → Int32) (a : Nat) (i_a : a < n) (b : Nat) (i_b : b < n) (hn : n ≤ 12) (hR : okR n F) : Met l yX0_expectation wsX0_expectation ({ frames := 2, cells := 0, slots := 0, locals := 36 } : Room) (va_Pc [.ref h, .int (nI a), .int (nI b)] (fun U => PR dC dI cI (wR h ad cI n F) U)) (vp_Si (fun r => r = s_exp F a b)) 0 0 (fun _ => False) := by
  refine Met.ofW (cc := cX0_expectation) (maxL := 3) (ret := (some .int)) (by decide) rfl ?_
  intro p e s m args below meth c s₁ B hml hv
  obtain ⟨rfl, hP, hK, hE⟩ := hv
  have hx := B.exec
  have hb := B.bytes
  have hr := B.returns
  have hts := atoms_spec (ws := wsX0_expectation) B.pre
  have hown : s.vm.findClass RX0 = some m.cls := findClass_of_methodNamed B.named
  have hlocks := B.notSynchronized
  have hS : va_S (fun _ => False) s.heap s.heap [] := va_S.rf
  have hinX0 : ∀ w ∈ wsX00, w ∈ wsX0_expectation := by decide +kernel
  have hl := lv_entry ([.ref h, .int (nI a), .int (nI b)]) (n := 3) (Nat.le_of_ble_eq_true rfl)
  rw [lg_entry_eq]
  generalize (lg_sl ([.ref h, .int (nI a), .int (nI b)]) ++ List.replicate (3 - (lg_sl ([.ref h, .int (nI a), .int (nI b)])).length) Slot.unset).toArray = ls at hl ⊢
  have hl : lv_has ls 3 [(0, .ref h), (1, .int (nI a)), (2, .int (nI b))] := hl
  refine lv_aload_n hx hb dX0_expectation_0 rfl (lv_at hl 0 rfl) ?_
  refine va_get (D := (dC, dI)) (ci := 0) (v := .ref (ad 1)) (C := RX0) (T := TX0) (N := 8) hx hb hts hinX0 hown hK hP 0 rfl rfl 1 (by decide) (hts (.fieldLink RX0 15 "WrestleBook$Roster" "ratings" "[I") (by decide +kernel)) (fun _ h9 => h9) rfl dX0_expectation_1 ?_
  refine lv_iload_n hx hb dX0_expectation_4 rfl (lv_at hl 1 rfl) ?_
  refine rv_iald (k := a) hx hb hK hP 2 0 rfl rfl (show a < 12 by omega) (by decide) dX0_expectation_5 ?_
  refine lv_aload_n hx hb dX0_expectation_6 rfl (lv_at hl 0 rfl) ?_
  refine va_get (D := (dC, dI)) (ci := 0) (v := .ref (ad 1)) (C := RX0) (T := TX0) (N := 8) hx hb hts hinX0 hown hK hP 0 rfl rfl 1 (by decide) (hts (.fieldLink RX0 15 "WrestleBook$Roster" "ratings" "[I") (by decide +kernel)) (fun _ h9 => h9) rfl dX0_expectation_7 ?_
  refine lv_iload_n hx hb dX0_expectation_10 rfl (lv_at hl 2 rfl) ?_
  refine rv_iald (k := b) hx hb hK hP 2 0 rfl rfl (show b < 12 by omega) (by decide) dX0_expectation_11 ?_
  refine lv_icmp_ge (tgt := 36) hx hb dX0_expectation_12 (by decide) (fun c_12 => ?_) (fun c_12 => ?_)
  · refine lv_aload_n hx hb dX0_expectation_36 rfl (lv_at hl 0 rfl) ?_
    refine va_get (D := (dC, dI)) (ci := 0) (v := .ref (ad 1)) (C := RX0) (T := TX0) (N := 8) hx hb hts hinX0 hown hK hP 0 rfl rfl 1 (by decide) (hts (.fieldLink RX0 15 "WrestleBook$Roster" "ratings" "[I") (by decide +kernel)) (fun _ h9 => h9) rfl dX0_expectation_37 ?_
    refine lv_iload_n hx hb dX0_expectation_40 rfl (lv_at hl 1 rfl) ?_
    refine rv_iald (k := a) hx hb hK hP 2 0 rfl rfl (show a < 12 by omega) (by decide) dX0_expectation_41 ?_
    refine lv_aload_n hx hb dX0_expectation_42 rfl (lv_at hl 0 rfl) ?_
    refine va_get (D := (dC, dI)) (ci := 0) (v := .ref (ad 1)) (C := RX0) (T := TX0) (N := 8) hx hb hts hinX0 hown hK hP 0 rfl rfl 1 (by decide) (hts (.fieldLink RX0 15 "WrestleBook$Roster" "ratings" "[I") (by decide +kernel)) (fun _ h9 => h9) rfl dX0_expectation_43 ?_
    refine lv_iload_n hx hb dX0_expectation_46 rfl (lv_at hl 2 rfl) ?_
    refine rv_iald (k := b) hx hb hK hP 2 0 rfl rfl (show b < 12 by omega) (by decide) dX0_expectation_47 ?_
    refine lv_isub hx hb dX0_expectation_48 ?_
    refine rv_top (y := nI (dN (F 1 a) (F 1 b))) (hR.le i_a i_b c_12).2 ?_
    refine vp_callSi (W.runS (As := [.int (nI (dN (F 1 a) (F 1 b)))]) (rest := []) ⟨hx, hb, hml, hown, hts⟩ (c_X0_expectedOfHigher l dC dI cI (dN (F 1 a) (F 1 b)) ((hR.le i_a i_b c_12).1)) (va_cwS 1 hts gX0_expectation_X0_expectedOfHigher rfl rfl rfl (by decide +kernel) ⟨Nat.le_of_ble_eq_true rfl, Nat.le_of_ble_eq_true rfl⟩) ⟨PR.blind, fun U hU hW => ⟨rfl, PR.go (vaP_nil) hK hE hS hU hW⟩⟩ rfl rfl hl.1 rfl (lv_room (Nat.le_of_ble_eq_true rfl)) dX0_expectation_49 ⟨Nat.le_of_ble_eq_true rfl, Nat.le_of_ble_eq_true rfl⟩) (fun r hr0 => ?_)
    subst hr0
    exact W.iret (v := s_eoh (dN (F 1 a) (F 1 b))) hx hb hr (fun t ht hW => ⟨_, rfl, (show s_eoh (dN (F 1 a) (F 1 b)) = s_exp F a b from by simp [s_exp, c_12]), ht⟩) hS.2.2 dX0_expectation_52
  · refine lv_sipush (v := 1000) hx hb dX0_expectation_15 (by decide) ?_
    refine lv_aload_n hx hb dX0_expectation_18 rfl (lv_at hl 0 rfl) ?_
    refine va_get (D := (dC, dI)) (ci := 0) (v := .ref (ad 1)) (C := RX0) (T := TX0) (N := 8) hx hb hts hinX0 hown hK hP 0 rfl rfl 1 (by decide) (hts (.fieldLink RX0 15 "WrestleBook$Roster" "ratings" "[I") (by decide +kernel)) (fun _ h9 => h9) rfl dX0_expectation_19 ?_
    refine lv_iload_n hx hb dX0_expectation_22 rfl (lv_at hl 2 rfl) ?_
    refine rv_iald (k := b) hx hb hK hP 2 0 rfl rfl (show b < 12 by omega) (by decide) dX0_expectation_23 ?_
    refine lv_aload_n hx hb dX0_expectation_24 rfl (lv_at hl 0 rfl) ?_
    refine va_get (D := (dC, dI)) (ci := 0) (v := .ref (ad 1)) (C := RX0) (T := TX0) (N := 8) hx hb hts hinX0 hown hK hP 0 rfl rfl 1 (by decide) (hts (.fieldLink RX0 15 "WrestleBook$Roster" "ratings" "[I") (by decide +kernel)) (fun _ h9 => h9) rfl dX0_expectation_25 ?_
    refine lv_iload_n hx hb dX0_expectation_28 rfl (lv_at hl 1 rfl) ?_
    refine rv_iald (k := a) hx hb hK hP 2 0 rfl rfl (show a < 12 by omega) (by decide) dX0_expectation_29 ?_
    refine lv_isub hx hb dX0_expectation_30 ?_
    refine rv_top (y := nI (dN (F 1 b) (F 1 a))) (hR.le i_b i_a (i32_le_of_not c_12)).2 ?_
    refine vp_callSi (W.runS (As := [.int (nI (dN (F 1 b) (F 1 a)))]) (rest := [.int 1000]) ⟨hx, hb, hml, hown, hts⟩ (c_X0_expectedOfHigher l dC dI cI (dN (F 1 b) (F 1 a)) ((hR.le i_b i_a (i32_le_of_not c_12)).1)) (va_cwS 1 hts gX0_expectation_X0_expectedOfHigher rfl rfl rfl (by decide +kernel) ⟨Nat.le_of_ble_eq_true rfl, Nat.le_of_ble_eq_true rfl⟩) ⟨PR.blind, fun U hU hW => ⟨rfl, PR.go (vaP_nil) hK hE hS hU hW⟩⟩ rfl rfl hl.1 rfl (lv_room (Nat.le_of_ble_eq_true rfl)) dX0_expectation_31 ⟨Nat.le_of_ble_eq_true rfl, Nat.le_of_ble_eq_true rfl⟩) (fun r hr0 => ?_)
    subst hr0
    refine lv_isub hx hb dX0_expectation_34 ?_
    exact W.iret (v := 1000 - (s_eoh (dN (F 1 b) (F 1 a)))) hx hb hr (fun t ht hW => ⟨_, rfl, (show 1000 - (s_eoh (dN (F 1 b) (F 1 a))) = s_exp F a b from by simp [s_exp, c_12]), ht⟩) hS.2.2 dX0_expectation_35
