/-! The reference's calls -/
theorem ok_08 {x : Int32} (h : s_08 x = true) : ∃ k : Nat, k < 9 ∧ x = nI k := by
  rw [← in_08] at h
  obtain ⟨h1, h2⟩ := s_in_t h
  obtain ⟨y, -, y2, e⟩ := rngI (u := 0) (v := 8) h1 h2 rfl rfl (by decide) (by decide)
  exact ⟨y, by omega, e⟩
theorem mb_1a (F : Nat → Nat → Int32) {a b : Nat} (q : Nat) (h : a ≠ b) : s_mb F a b q 1 a = s_then F a b (nI (500 * q)) := by
  unfold s_mb
  rw [note_1, note_1, set_1, if_neg h, set_1, if_pos rfl]
theorem in_rt {n : Nat} {a r : Int32} (ha : s_has n a = true) : (s_in r 100 3000 = true → x_rate n a r = 0) ∧ (s_in r 100 3000 = false → x_rate n a r = 2) := by
  unfold x_rate
  rw [if_pos ha]
  constructor
  · intro h
    obtain ⟨h1, h2⟩ := s_in_t h
    rw [if_neg h1, if_pos h2]
  · intro h
    by_cases c : r < 100
    · rw [if_pos c]
    · rw [if_neg c]
      rcases s_in_f h with z | z
      · exact absurd z c
      · rw [if_neg (Int32.not_le.mpr z)]
theorem in_ch {k : Int32} : (s_in k 1 9 = false → ¬ k < 1 → ¬ k ≤ 9) := by
  intro h c z
  rcases s_in_f h with q | q
  · exact c q
  · exact Int32.not_le.mpr q z
theorem in_fo {k : Int32} : (s_in k 1 40 = false → x_for k = 1) ∧ (s_in k 1 40 = true → x_for k = 0) := by
  unfold x_for
  constructor
  · intro h
    by_cases c : k < 1
    · rw [if_pos c]
    · rw [if_neg c]
      rcases s_in_f h with q | q
      · exact absurd q c
      · rw [if_neg (Int32.not_le.mpr q)]
  · intro h
    obtain ⟨h1, h2⟩ := s_in_t h
    rw [if_neg h1, if_pos h2]
theorem add_comm3 (F : Nat → Nat → Int32) (n : Nat) (x : Int32) : s_add F n x = pu (pu (pu F 1 n 1000) 6 n 1000) 0 n x := by
  funext j k
  by_cases e0 : j = 0
  · subst e0; simp [s_add, pu_app]
  · by_cases e1 : j = 1
    · subst e1; simp [s_add, pu_app]
    · simp [s_add, pu_app, e0, e1]
set_option maxHeartbeats 4000000 in
set_option maxRecDepth 100000 in
theorem c_X3_thrown (l : Launch) (dC : Nat → ClassId) (dI : Nat → Nat → Nat) (cI : ClassId) (h r1 : Nat) (d1 : Nat → Nat) (r2 : Nat) (d2 : Nat → Nat) (th : Int32) (n : Nat) (F : Nat → Nat → Int32) (ct : Nat → Int32) (n2 : Nat) (G : Nat → Nat → Int32) (c2 : Nat → Int32) : Met l yX3_thrown wsX3_thrown ({ frames := 0, cells := 0, slots := 0, locals := 0 } : Room) (va_Pc [.ref h] (fun U => PR dC dI cI (wM h r1 d1 r2 d2 cI th n F ct n2 G c2) U)) (vp_Si (fun r => r = th)) 0 0 (fun _ => False) := by
  refine Met.ofW (cc := cX3_thrown) (maxL := 1) (ret := (some .int)) (by decide) rfl ?_
  intro p e s m args below meth c s₁ B hml hv
  obtain ⟨rfl, hP, hK, hE⟩ := hv
  have hx := B.exec
  have hb := B.bytes
  have hr := B.returns
  have hts := atoms_spec (ws := wsX3_thrown) B.pre
  have hown : s.vm.findClass RX3 = some m.cls := findClass_of_methodNamed B.named
  have hlocks := B.notSynchronized
  have hS : va_S (fun _ => False) s.heap s.heap [] := va_S.rf
  have hinX3 : ∀ w ∈ wsX30, w ∈ wsX3_thrown := by decide +kernel
  have hl := lv_entry ([.ref h]) (n := 1) (Nat.le_of_ble_eq_true rfl)
  rw [lg_entry_eq]
  generalize (lg_sl ([.ref h]) ++ List.replicate (1 - (lg_sl ([.ref h])).length) Slot.unset).toArray = ls at hl ⊢
  have hl : lv_has ls 1 [(0, .ref h)] := hl
  refine lv_aload_n hx hb dX3_thrown_0 rfl (lv_at hl 0 rfl) ?_
  refine va_get (D := (dC, dI)) (ci := 3) (v := .int th) (C := RX3) (T := TX3) (N := 3) hx hb hts hinX3 hown hK hP 0 rfl rfl 0 (by decide) (hts (.fieldLink RX3 19 "WrestleBookModel" "thrown" "I") (by decide +kernel)) (fun _ h9 => h9) rfl dX3_thrown_1 ?_
  exact W.iret (v := th) hx hb hr (fun t ht hW => ⟨_, rfl, (show th = th from by rfl), ht⟩) hS.2.2 dX3_thrown_4

set_option maxHeartbeats 4000000 in
set_option maxRecDepth 100000 in
theorem c_X3_no (l : Launch) (dC : Nat → ClassId) (dI : Nat → Nat → Nat) (cI : ClassId) (h r1 : Nat) (d1 : Nat → Nat) (r2 : Nat) (d2 : Nat → Nat) (th : Int32) (n : Nat) (F : Nat → Nat → Int32) (ct : Nat → Int32) (n2 : Nat) (G : Nat → Nat → Int32) (c2 : Nat → Int32) (sz : Nat) (vk : Int32) : Met l yX3_no wsX3_no ({ frames := 0, cells := 0, slots := 0, locals := 0 } : Room) (va_Pc [.ref h, .int vk] (fun U => PW dC dI cI (wM h r1 d1 r2 d2 cI th n F ct n2 G c2) sz U)) (va_Qi (fun r (_ : Unit) => r = 0) (BW dC dI (va_A (wM h r1 d1 r2 d2 cI th n F ct n2 G c2) sz) (wM h r1 d1 r2 d2 cI vk n F ct n2 G c2)) (va_A (wM h r1 d1 r2 d2 cI th n F ct n2 G c2) sz)) 0 0 (va_A (wM h r1 d1 r2 d2 cI th n F ct n2 G c2) sz) := by
  refine Met.ofW (cc := cX3_no) (maxL := 2) (ret := (some .int)) (by decide) rfl ?_
  intro p e s m args below meth c s₁ B hml hv
  obtain ⟨rfl, hsz, hP, hK, hD0, hE⟩ := hv
  have hx := B.exec
  have hb := B.bytes
  have hr := B.returns
  have hts := atoms_spec (ws := wsX3_no) B.pre
  have hown : s.vm.findClass RX3 = some m.cls := findClass_of_methodNamed B.named
  have hlocks := B.notSynchronized
  subst hsz
  have hD := hD0.self (sz := s.heap.size)
  generalize hAe : va_A (wM h r1 d1 r2 d2 cI th n F ct n2 G c2) s.heap.size = A at hD hE ⊢
  have hA : ∀ q : Nat, s.heap.size ≤ q → A q := fun q h9 => by rw [← hAe]; exact Or.inr h9
  have hS : va_S A s.heap s.heap [] := va_S.rf
  have hinX3 : ∀ w ∈ wsX30, w ∈ wsX3_no := by decide +kernel
  have hl := lv_entry ([.ref h, .int vk]) (n := 2) (Nat.le_of_ble_eq_true rfl)
  rw [lg_entry_eq]
  generalize (lg_sl ([.ref h, .int vk]) ++ List.replicate (2 - (lg_sl ([.ref h, .int vk])).length) Slot.unset).toArray = ls at hl ⊢
  have hl : lv_has ls 2 [(0, .ref h), (1, .int vk)] := hl
  refine lv_aload_n hx hb dX3_no_0 rfl (lv_at hl 0 rfl) ?_
  refine lv_iload_n hx hb dX3_no_1 rfl (lv_at hl 1 rfl) ?_
  refine va_put (D := (dC, dI)) (ci := 3) (v := .int vk) (ty := .int) (C := RX3) (T := TX3) (N := 3) hx hb hts hinX3 tyX3 tyX3_ok nmX3 hown hK hP hD hS 0 rfl rfl 0 (by decide) (hts (.fieldLink RX3 19 "WrestleBookModel" "thrown" "I") (by decide +kernel)) (fun _ h9 => h9) rfl (by decide +kernel) rfl rfl (Nat.le_of_ble_eq_true rfl) dX3_no_2 (fun H locs hP hD hS => ?_)
  have hP : va_P (dC, dI) vwCl (wM h r1 d1 r2 d2 cI vk n F ct n2 G c2) H := hP
  have hD : va_D A (wM h r1 d1 r2 d2 cI vk n F ct n2 G c2) := hD
  refine lv_iconst (v := 0) hx hb dX3_no_5 (by decide) ?_
  have hP8 : va_P (dC, dI) vwCl (wM h r1 d1 r2 d2 cI vk n F ct n2 G c2) H := hP
  have hD8 : va_D A (wM h r1 d1 r2 d2 cI vk n F ct n2 G c2) := hD
  exact W.iret (v := 0) hx hb hr (fun t ht hW => ⟨⟨_, (), rfl, (show 0 = 0 from by rfl), by rw [ht]; exact hP8, hD8⟩, hS.F ht⟩) hS.2.2 dX3_no_6

set_option maxHeartbeats 4000000 in
set_option maxRecDepth 100000 in
theorem c_X3_isIn (l : Launch) (dC : Nat → ClassId) (dI : Nat → Nat → Nat) (cI : ClassId)  (vv : Int32) (vlo : Int32) (vhi : Int32) : Met l yX3_isIn wsX3_isIn ({ frames := 0, cells := 0, slots := 0, locals := 0 } : Room) (va_Pc [.int vv, .int vlo, .int vhi] (fun U => PR dC dI cI ([]) U)) (vp_Si (fun r => r = bI (s_in vv vlo vhi))) 0 0 (fun _ => False) := by
  refine Met.ofW (cc := cX3_isIn) (maxL := 3) (ret := (some .boolean)) (by decide) rfl ?_
  intro p e s m args below meth c s₁ B hml hv
  obtain ⟨rfl, hP, hK, hE⟩ := hv
  have hx := B.exec
  have hb := B.bytes
  have hr := B.returns
  have hts := atoms_spec (ws := wsX3_isIn) B.pre
  have hown : s.vm.findClass RX3 = some m.cls := findClass_of_methodNamed B.named
  have hlocks := B.notSynchronized
  have hS : va_S (fun _ => False) s.heap s.heap [] := va_S.rf
  have hl := lv_entry ([.int vv, .int vlo, .int vhi]) (n := 3) (Nat.le_of_ble_eq_true rfl)
  rw [lg_entry_eq]
  generalize (lg_sl ([.int vv, .int vlo, .int vhi]) ++ List.replicate (3 - (lg_sl ([.int vv, .int vlo, .int vhi])).length) Slot.unset).toArray = ls at hl ⊢
  have hl : lv_has ls 3 [(0, .int vv), (1, .int vlo), (2, .int vhi)] := hl
  refine lv_iload_n hx hb dX3_isIn_0 rfl (lv_at hl 0 rfl) ?_
  refine lv_iload_n hx hb dX3_isIn_1 rfl (lv_at hl 1 rfl) ?_
  refine lv_icmp_lt (tgt := 14) hx hb dX3_isIn_2 (by decide) (fun c_2 => ?_) (fun c_2 => ?_)
  · refine lv_iconst (v := 0) hx hb dX3_isIn_14 (by decide) ?_
    exact W.zret (v := 0) hx hb hr (by decide) (fun t ht hW => ⟨_, rfl, (show 0 = bI (s_in vv vlo vhi) from by simp [s_in, bI, c_2]), ht⟩) hS.2.2 dX3_isIn_15
  · refine lv_iload_n hx hb dX3_isIn_5 rfl (lv_at hl 0 rfl) ?_
    refine lv_iload_n hx hb dX3_isIn_6 rfl (lv_at hl 2 rfl) ?_
    refine lv_icmp_gt (tgt := 14) hx hb dX3_isIn_7 (by decide) (fun c_7 => ?_) (fun c_7 => ?_)
    · refine lv_iconst (v := 0) hx hb dX3_isIn_14 (by decide) ?_
      exact W.zret (v := 0) hx hb hr (by decide) (fun t ht hW => ⟨_, rfl, (show 0 = bI (s_in vv vlo vhi) from by simp [s_in, bI, c_2, c_7]), ht⟩) hS.2.2 dX3_isIn_15
    · refine lv_iconst (v := 1) hx hb dX3_isIn_10 (by decide) ?_
      refine lv_goto (tgt := 15) hx hb dX3_isIn_11 (by decide) ?_
      exact W.zret (v := 1) hx hb hr (by decide) (fun t ht hW => ⟨_, rfl, (show 1 = bI (s_in vv vlo vhi) from by simp [s_in, bI, c_2, c_7]), ht⟩) hS.2.2 dX3_isIn_15

set_option maxHeartbeats 4000000 in
set_option maxRecDepth 100000 in
theorem c_X3_isWrestler (l : Launch) (dC : Nat → ClassId) (dI : Nat → Nat → Nat) (cI : ClassId) (h r1 : Nat) (d1 : Nat → Nat) (r2 : Nat) (d2 : Nat → Nat) (th : Int32) (n : Nat) (F : Nat → Nat → Int32) (ct : Nat → Int32) (n2 : Nat) (G : Nat → Nat → Int32) (c2 : Nat → Int32) (va : Int32) (hn : n ≤ 12) : Met l yX3_isWrestler wsX3_isWrestler ({ frames := 1, cells := 0, slots := 0, locals := 22 } : Room) (va_Pc [.ref h, .int va] (fun U => PR dC dI cI (wM h r1 d1 r2 d2 cI th n F ct n2 G c2) U)) (vp_Si (fun r => r = bI (s_has n va))) 0 0 (fun _ => False) := by
  refine Met.ofW (cc := cX3_isWrestler) (maxL := 2) (ret := (some .boolean)) (by decide) rfl ?_
  intro p e s m args below meth c s₁ B hml hv
  obtain ⟨rfl, hP, hK, hE⟩ := hv
  have hx := B.exec
  have hb := B.bytes
  have hr := B.returns
  have hts := atoms_spec (ws := wsX3_isWrestler) B.pre
  have hown : s.vm.findClass RX3 = some m.cls := findClass_of_methodNamed B.named
  have hlocks := B.notSynchronized
  have hS : va_S (fun _ => False) s.heap s.heap [] := va_S.rf
  have hinX2 : ∀ w ∈ wsX20, w ∈ wsX3_isWrestler := by decide +kernel
  have hinX3 : ∀ w ∈ wsX30, w ∈ wsX3_isWrestler := by decide +kernel
  have hl := lv_entry ([.ref h, .int va]) (n := 2) (Nat.le_of_ble_eq_true rfl)
  rw [lg_entry_eq]
  generalize (lg_sl ([.ref h, .int va]) ++ List.replicate (2 - (lg_sl ([.ref h, .int va])).length) Slot.unset).toArray = ls at hl ⊢
  have hl : lv_has ls 2 [(0, .ref h), (1, .int va)] := hl
  refine lv_iload_n hx hb dX3_isWrestler_0 rfl (lv_at hl 1 rfl) ?_
  refine lv_iconst (v := 0) hx hb dX3_isWrestler_1 (by decide) ?_
  refine lv_aload_n hx hb dX3_isWrestler_2 rfl (lv_at hl 0 rfl) ?_
  refine va_get (D := (dC, dI)) (ci := 3) (v := .ref r1) (C := RX3) (T := TX3) (N := 3) hx hb hts hinX3 hown hK hP 0 rfl rfl 1 (by decide) (hts (.fieldLink RX3 10 "WrestleBookModel" "s" "LWrestleBookModel$State;") (by decide +kernel)) (fun _ h9 => h9) rfl dX3_isWrestler_3 ?_
  refine va_getN (D := (dC, dI)) (ci := 2) (v := .int (nI n)) (C := RX2) (T := TX2) (N := 11) (host := "WrestleBookModel") hx hb hts hinX2 hown hK hP 1 rfl rfl 1 (by decide) (va_Nw.use rfl (hE.2.2.1 (.fieldLinkNest RX3 23 "WrestleBookModel$State" "wrestlers" "I" "WrestleBookModel") (by decide +kernel))) (fun _ h9 => h9) rfl dX3_isWrestler_6 ?_
  refine lv_iconst (v := 1) hx hb dX3_isWrestler_9 (by decide) ?_
  refine lv_isub hx hb dX3_isWrestler_10 ?_
  refine vp_callSi (W.runS (As := [.int va, .int 0, .int ((nI n) - 1)]) (rest := []) ⟨hx, hb, hml, hown, hts⟩ (c_X3_isIn l dC dI cI va 0 ((nI n) - 1)) (va_cwS 3 hts gX3_isWrestler_X3_isIn rfl rfl rfl (by decide +kernel) ⟨Nat.le_of_ble_eq_true rfl, Nat.le_of_ble_eq_true rfl⟩) ⟨PR.blind, fun U hU hW => ⟨rfl, PR.go (vaP_nil) hK hE hS hU hW⟩⟩ rfl rfl hl.1 rfl (lv_room (Nat.le_of_ble_eq_true rfl)) dX3_isWrestler_11 ⟨Nat.le_of_ble_eq_true rfl, Nat.le_of_ble_eq_true rfl⟩) (fun r hr0 => ?_)
  subst hr0
  refine rv_top (y := bI (s_has n va)) (by rw [in_has hn]) ?_
  exact W.zret (v := bI (s_has n va)) hx hb hr (bI_nar _) (fun t ht hW => ⟨_, rfl, (show bI (s_has n va) = bI (s_has n va) from by rfl), ht⟩) hS.2.2 dX3_isWrestler_14

set_option maxHeartbeats 4000000 in
set_option maxRecDepth 100000 in
theorem c_X3_wrestlerTold (l : Launch) (dC : Nat → ClassId) (dI : Nat → Nat → Nat) (cI : ClassId) (h r1 : Nat) (d1 : Nat → Nat) (r2 : Nat) (d2 : Nat → Nat) (th : Int32) (n : Nat) (F : Nat → Nat → Int32) (ct : Nat → Int32) (n2 : Nat) (G : Nat → Nat → Int32) (c2 : Nat → Int32) (w : Nat) (i_w : w < n) (k : Nat) (hk : k < 9) (hn : n ≤ 12) : Met l yX3_wrestlerTold wsX3_wrestlerTold ({ frames := 2, cells := 0, slots := 0, locals := 45 } : Room) (va_Pc [.ref h, .int (nI w), .int (nI k)] (fun U => PR dC dI cI (wM h r1 d1 r2 d2 cI th n F ct n2 G c2) U)) (vp_Si (fun r => r = s_told n F w (nI k))) 0 0 (fun _ => False) := by
  refine Met.ofW (cc := cX3_wrestlerTold) (maxL := 3) (ret := (some .int)) (by decide) rfl ?_
  intro p e s m args below meth c s₁ B hml hv
  obtain ⟨rfl, hP, hK, hE⟩ := hv
  have hx := B.exec
  have hb := B.bytes
  have hr := B.returns
  have hts := atoms_spec (ws := wsX3_wrestlerTold) B.pre
  have hown : s.vm.findClass RX3 = some m.cls := findClass_of_methodNamed B.named
  have hlocks := B.notSynchronized
  have hS : va_S (fun _ => False) s.heap s.heap [] := va_S.rf
  have hinX2 : ∀ w ∈ wsX20, w ∈ wsX3_wrestlerTold := by decide +kernel
  have hinX3 : ∀ w ∈ wsX30, w ∈ wsX3_wrestlerTold := by decide +kernel
  have hl := lv_entry ([.ref h, .int (nI w), .int (nI k)]) (n := 3) (Nat.le_of_ble_eq_true rfl)
  rw [lg_entry_eq]
  generalize (lg_sl ([.ref h, .int (nI w), .int (nI k)]) ++ List.replicate (3 - (lg_sl ([.ref h, .int (nI w), .int (nI k)])).length) Slot.unset).toArray = ls at hl ⊢
  have hl : lv_has ls 3 [(0, .ref h), (1, .int (nI w)), (2, .int (nI k))] := hl
  refine lv_iload_n hx hb dX3_wrestlerTold_0 rfl (lv_at hl 2 rfl) ?_
  rcases (show k = 0 ∨ k = 1 ∨ k = 2 ∨ k = 3 ∨ k = 4 ∨ k = 5 ∨ k = 6 ∨ k = 7 ∨ k = 8 by omega) with rfl | rfl | rfl | rfl | rfl | rfl | rfl | rfl | rfl
  · refine lv_tableIn (tgt := 48) (off := 47) hx hb dX3_wrestlerTold_1 (by decide) (by decide) (by decide) (by decide) ?_
    refine lv_aload_n hx hb dX3_wrestlerTold_48 rfl (lv_at hl 0 rfl) ?_
    refine va_get (D := (dC, dI)) (ci := 3) (v := .ref r1) (C := RX3) (T := TX3) (N := 3) hx hb hts hinX3 hown hK hP 0 rfl rfl 1 (by decide) (hts (.fieldLink RX3 10 "WrestleBookModel" "s" "LWrestleBookModel$State;") (by decide +kernel)) (fun _ h9 => h9) rfl dX3_wrestlerTold_49 ?_
    refine va_getN (D := (dC, dI)) (ci := 2) (v := .ref (d1 1)) (C := RX2) (T := TX2) (N := 11) (host := "WrestleBookModel") hx hb hts hinX2 hown hK hP 1 rfl rfl 4 (by decide) (va_Nw.use rfl (hE.2.2.1 (.fieldLinkNest RX3 34 "WrestleBookModel$State" "rating" "[I" "WrestleBookModel") (by decide +kernel))) (fun _ h9 => h9) rfl dX3_wrestlerTold_52 ?_
    refine lv_iload_n hx hb dX3_wrestlerTold_55 rfl (lv_at hl 1 rfl) ?_
    refine rv_iald (k := w) hx hb hK hP 3 0 rfl rfl (show w < 12 by omega) (by decide) dX3_wrestlerTold_56 ?_
    exact W.iret (v := F 1 w) hx hb hr (fun t ht hW => ⟨_, rfl, (show F 1 w = s_told n F w (nI 0) from by rfl), ht⟩) hS.2.2 dX3_wrestlerTold_57
  · refine lv_tableIn (tgt := 58) (off := 57) hx hb dX3_wrestlerTold_1 (by decide) (by decide) (by decide) (by decide) ?_
    refine lv_aload_n hx hb dX3_wrestlerTold_58 rfl (lv_at hl 0 rfl) ?_
    refine va_get (D := (dC, dI)) (ci := 3) (v := .ref r1) (C := RX3) (T := TX3) (N := 3) hx hb hts hinX3 hown hK hP 0 rfl rfl 1 (by decide) (hts (.fieldLink RX3 10 "WrestleBookModel" "s" "LWrestleBookModel$State;") (by decide +kernel)) (fun _ h9 => h9) rfl dX3_wrestlerTold_59 ?_
    refine va_getN (D := (dC, dI)) (ci := 2) (v := .ref (d1 0)) (C := RX2) (T := TX2) (N := 11) (host := "WrestleBookModel") hx hb hts hinX2 hown hK hP 1 rfl rfl 5 (by decide) (va_Nw.use rfl (hE.2.2.1 (.fieldLinkNest RX3 41 "WrestleBookModel$State" "league" "[I" "WrestleBookModel") (by decide +kernel))) (fun _ h9 => h9) rfl dX3_wrestlerTold_62 ?_
    refine lv_iload_n hx hb dX3_wrestlerTold_65 rfl (lv_at hl 1 rfl) ?_
    refine rv_iald (k := w) hx hb hK hP 2 0 rfl rfl (show w < 12 by omega) (by decide) dX3_wrestlerTold_66 ?_
    exact W.iret (v := F 0 w) hx hb hr (fun t ht hW => ⟨_, rfl, (show F 0 w = s_told n F w (nI 1) from by rfl), ht⟩) hS.2.2 dX3_wrestlerTold_67
  · refine lv_tableIn (tgt := 68) (off := 67) hx hb dX3_wrestlerTold_1 (by decide) (by decide) (by decide) (by decide) ?_
    refine lv_aload_n hx hb dX3_wrestlerTold_68 rfl (lv_at hl 0 rfl) ?_
    refine va_get (D := (dC, dI)) (ci := 3) (v := .ref r1) (C := RX3) (T := TX3) (N := 3) hx hb hts hinX3 hown hK hP 0 rfl rfl 1 (by decide) (hts (.fieldLink RX3 10 "WrestleBookModel" "s" "LWrestleBookModel$State;") (by decide +kernel)) (fun _ h9 => h9) rfl dX3_wrestlerTold_69 ?_
    refine va_getN (D := (dC, dI)) (ci := 2) (v := .ref (d1 2)) (C := RX2) (T := TX2) (N := 11) (host := "WrestleBookModel") hx hb hts hinX2 hown hK hP 1 rfl rfl 6 (by decide) (va_Nw.use rfl (hE.2.2.1 (.fieldLinkNest RX3 64 "WrestleBookModel$State" "points" "[I" "WrestleBookModel") (by decide +kernel))) (fun _ h9 => h9) rfl dX3_wrestlerTold_72 ?_
    refine lv_iload_n hx hb dX3_wrestlerTold_75 rfl (lv_at hl 1 rfl) ?_
    refine rv_iald (k := w) hx hb hK hP 4 0 rfl rfl (show w < 12 by omega) (by decide) dX3_wrestlerTold_76 ?_
    exact W.iret (v := F 2 w) hx hb hr (fun t ht hW => ⟨_, rfl, (show F 2 w = s_told n F w (nI 2) from by rfl), ht⟩) hS.2.2 dX3_wrestlerTold_77
  · refine lv_tableIn (tgt := 78) (off := 77) hx hb dX3_wrestlerTold_1 (by decide) (by decide) (by decide) (by decide) ?_
    refine lv_aload_n hx hb dX3_wrestlerTold_78 rfl (lv_at hl 0 rfl) ?_
    refine va_get (D := (dC, dI)) (ci := 3) (v := .ref r1) (C := RX3) (T := TX3) (N := 3) hx hb hts hinX3 hown hK hP 0 rfl rfl 1 (by decide) (hts (.fieldLink RX3 10 "WrestleBookModel" "s" "LWrestleBookModel$State;") (by decide +kernel)) (fun _ h9 => h9) rfl dX3_wrestlerTold_79 ?_
    refine va_getN (D := (dC, dI)) (ci := 2) (v := .ref (d1 3)) (C := RX2) (T := TX2) (N := 11) (host := "WrestleBookModel") hx hb hts hinX2 hown hK hP 1 rfl rfl 7 (by decide) (va_Nw.use rfl (hE.2.2.1 (.fieldLinkNest RX3 67 "WrestleBookModel$State" "fought" "[I" "WrestleBookModel") (by decide +kernel))) (fun _ h9 => h9) rfl dX3_wrestlerTold_82 ?_
    refine lv_iload_n hx hb dX3_wrestlerTold_85 rfl (lv_at hl 1 rfl) ?_
    refine rv_iald (k := w) hx hb hK hP 5 0 rfl rfl (show w < 12 by omega) (by decide) dX3_wrestlerTold_86 ?_
    exact W.iret (v := F 3 w) hx hb hr (fun t ht hW => ⟨_, rfl, (show F 3 w = s_told n F w (nI 3) from by rfl), ht⟩) hS.2.2 dX3_wrestlerTold_87
  · refine lv_tableIn (tgt := 88) (off := 87) hx hb dX3_wrestlerTold_1 (by decide) (by decide) (by decide) (by decide) ?_
    refine lv_aload_n hx hb dX3_wrestlerTold_88 rfl (lv_at hl 0 rfl) ?_
    refine va_get (D := (dC, dI)) (ci := 3) (v := .ref r1) (C := RX3) (T := TX3) (N := 3) hx hb hts hinX3 hown hK hP 0 rfl rfl 1 (by decide) (hts (.fieldLink RX3 10 "WrestleBookModel" "s" "LWrestleBookModel$State;") (by decide +kernel)) (fun _ h9 => h9) rfl dX3_wrestlerTold_89 ?_
    refine va_getN (D := (dC, dI)) (ci := 2) (v := .ref (d1 4)) (C := RX2) (T := TX2) (N := 11) (host := "WrestleBookModel") hx hb hts hinX2 hown hK hP 1 rfl rfl 8 (by decide) (va_Nw.use rfl (hE.2.2.1 (.fieldLinkNest RX3 70 "WrestleBookModel$State" "lately" "[I" "WrestleBookModel") (by decide +kernel))) (fun _ h9 => h9) rfl dX3_wrestlerTold_92 ?_
    refine lv_iload_n hx hb dX3_wrestlerTold_95 rfl (lv_at hl 1 rfl) ?_
    refine rv_iald (k := w) hx hb hK hP 6 0 rfl rfl (show w < 12 by omega) (by decide) dX3_wrestlerTold_96 ?_
    exact W.iret (v := F 4 w) hx hb hr (fun t ht hW => ⟨_, rfl, (show F 4 w = s_told n F w (nI 4) from by rfl), ht⟩) hS.2.2 dX3_wrestlerTold_97
  · refine lv_tableIn (tgt := 98) (off := 97) hx hb dX3_wrestlerTold_1 (by decide) (by decide) (by decide) (by decide) ?_
    refine lv_aload_n hx hb dX3_wrestlerTold_98 rfl (lv_at hl 0 rfl) ?_
    refine va_get (D := (dC, dI)) (ci := 3) (v := .ref r1) (C := RX3) (T := TX3) (N := 3) hx hb hts hinX3 hown hK hP 0 rfl rfl 1 (by decide) (hts (.fieldLink RX3 10 "WrestleBookModel" "s" "LWrestleBookModel$State;") (by decide +kernel)) (fun _ h9 => h9) rfl dX3_wrestlerTold_99 ?_
    refine va_getN (D := (dC, dI)) (ci := 2) (v := .ref (d1 5)) (C := RX2) (T := TX2) (N := 11) (host := "WrestleBookModel") hx hb hts hinX2 hown hK hP 1 rfl rfl 9 (by decide) (va_Nw.use rfl (hE.2.2.1 (.fieldLinkNest RX3 73 "WrestleBookModel$State" "wins" "[I" "WrestleBookModel") (by decide +kernel))) (fun _ h9 => h9) rfl dX3_wrestlerTold_102 ?_
    refine lv_iload_n hx hb dX3_wrestlerTold_105 rfl (lv_at hl 1 rfl) ?_
    refine rv_iald (k := w) hx hb hK hP 7 0 rfl rfl (show w < 12 by omega) (by decide) dX3_wrestlerTold_106 ?_
    exact W.iret (v := F 5 w) hx hb hr (fun t ht hW => ⟨_, rfl, (show F 5 w = s_told n F w (nI 5) from by rfl), ht⟩) hS.2.2 dX3_wrestlerTold_107
  · refine lv_tableIn (tgt := 108) (off := 107) hx hb dX3_wrestlerTold_1 (by decide) (by decide) (by decide) (by decide) ?_
    refine lv_aload_n hx hb dX3_wrestlerTold_108 rfl (lv_at hl 0 rfl) ?_
    refine va_get (D := (dC, dI)) (ci := 3) (v := .ref r1) (C := RX3) (T := TX3) (N := 3) hx hb hts hinX3 hown hK hP 0 rfl rfl 1 (by decide) (hts (.fieldLink RX3 10 "WrestleBookModel" "s" "LWrestleBookModel$State;") (by decide +kernel)) (fun _ h9 => h9) rfl dX3_wrestlerTold_109 ?_
    refine va_getN (D := (dC, dI)) (ci := 2) (v := .ref (d1 6)) (C := RX2) (T := TX2) (N := 11) (host := "WrestleBookModel") hx hb hts hinX2 hown hK hP 1 rfl rfl 10 (by decide) (va_Nw.use rfl (hE.2.2.1 (.fieldLinkNest RX3 38 "WrestleBookModel$State" "best" "[I" "WrestleBookModel") (by decide +kernel))) (fun _ h9 => h9) rfl dX3_wrestlerTold_112 ?_
    refine lv_iload_n hx hb dX3_wrestlerTold_115 rfl (lv_at hl 1 rfl) ?_
    refine rv_iald (k := w) hx hb hK hP 8 0 rfl rfl (show w < 12 by omega) (by decide) dX3_wrestlerTold_116 ?_
    exact W.iret (v := F 6 w) hx hb hr (fun t ht hW => ⟨_, rfl, (show F 6 w = s_told n F w (nI 6) from by rfl), ht⟩) hS.2.2 dX3_wrestlerTold_117
  · refine lv_tableIn (tgt := 118) (off := 117) hx hb dX3_wrestlerTold_1 (by decide) (by decide) (by decide) (by decide) ?_
    refine lv_aload_n hx hb dX3_wrestlerTold_118 rfl (lv_at hl 0 rfl) ?_
    refine va_get (D := (dC, dI)) (ci := 3) (v := .ref r1) (C := RX3) (T := TX3) (N := 3) hx hb hts hinX3 hown hK hP 0 rfl rfl 1 (by decide) (hts (.fieldLink RX3 10 "WrestleBookModel" "s" "LWrestleBookModel$State;") (by decide +kernel)) (fun _ h9 => h9) rfl dX3_wrestlerTold_119 ?_
    refine lv_iload_n hx hb dX3_wrestlerTold_122 rfl (lv_at hl 1 rfl) ?_
    refine vp_callSi (W.runV (As := [.int (nI w)]) (rest := []) ⟨hx, hb, hml, hown, hts⟩ (c_X2_place l dC dI cI r1 d1 n F ct w (show w < n by omega) hn) (cwV 1 hts gX3_wrestlerTold_X2_place rfl rfl rfl (by decide +kernel) ⟨Nat.le_of_ble_eq_true rfl, Nat.le_of_ble_eq_true rfl⟩) ⟨PR.blind, va_recv hK hP (ci := 2) (q0 := 1) rfl rfl, fun U hU hW => ⟨rfl, PR.go (hP.sub (ws' := (wS r1 d1 cI n F ct)) [1, 2, 3, 4, 5, 6, 7, 8] rfl) hK hE hS hU hW⟩⟩ rfl rfl hl.1 rfl (lv_room (Nat.le_of_ble_eq_true rfl)) dX3_wrestlerTold_123 ⟨Nat.le_of_ble_eq_true rfl, Nat.le_of_ble_eq_true rfl⟩) (fun r hr0 => ?_)
    subst hr0
    exact W.iret (v := nI (s_place n F w)) hx hb hr (fun t ht hW => ⟨_, rfl, (show nI (s_place n F w) = s_told n F w (nI 7) from by rfl), ht⟩) hS.2.2 dX3_wrestlerTold_126
  · refine lv_tableOut (tgt := 127) hx hb dX3_wrestlerTold_1 (by decide) (by decide) ?_
    refine lv_aload_n hx hb dX3_wrestlerTold_127 rfl (lv_at hl 0 rfl) ?_
    refine va_get (D := (dC, dI)) (ci := 3) (v := .ref r1) (C := RX3) (T := TX3) (N := 3) hx hb hts hinX3 hown hK hP 0 rfl rfl 1 (by decide) (hts (.fieldLink RX3 10 "WrestleBookModel" "s" "LWrestleBookModel$State;") (by decide +kernel)) (fun _ h9 => h9) rfl dX3_wrestlerTold_128 ?_
    refine lv_iload_n hx hb dX3_wrestlerTold_131 rfl (lv_at hl 1 rfl) ?_
    refine vp_callSi (W.runV (As := [.int (nI w)]) (rest := []) ⟨hx, hb, hml, hown, hts⟩ (c_X2_weight l dC dI cI r1 d1 n F ct w (show w < n by omega) hn) (cwV 1 hts gX3_wrestlerTold_X2_weight rfl rfl rfl (by decide +kernel) ⟨Nat.le_of_ble_eq_true rfl, Nat.le_of_ble_eq_true rfl⟩) ⟨PR.blind, va_recv hK hP (ci := 2) (q0 := 1) rfl rfl, fun U hU hW => ⟨rfl, PR.go (hP.sub (ws' := (wS r1 d1 cI n F ct)) [1, 2, 3, 4, 5, 6, 7, 8] rfl) hK hE hS hU hW⟩⟩ rfl rfl hl.1 rfl (lv_room (Nat.le_of_ble_eq_true rfl)) dX3_wrestlerTold_132 ⟨Nat.le_of_ble_eq_true rfl, Nat.le_of_ble_eq_true rfl⟩) (fun r hr0 => ?_)
    subst hr0
    exact W.iret (v := s_wt F w) hx hb hr (fun t ht hW => ⟨_, rfl, (show s_wt F w = s_told n F w (nI 8) from by rfl), ht⟩) hS.2.2 dX3_wrestlerTold_135

set_option maxHeartbeats 4000000 in
set_option maxRecDepth 100000 in
theorem c_X3_counted (l : Launch) (dC : Nat → ClassId) (dI : Nat → Nat → Nat) (cI : ClassId) (h r1 : Nat) (d1 : Nat → Nat) (r2 : Nat) (d2 : Nat → Nat) (th : Int32) (n : Nat) (F : Nat → Nat → Int32) (ct : Nat → Int32) (n2 : Nat) (G : Nat → Nat → Int32) (c2 : Nat → Int32) (k : Nat) (hk : k < 9) (hn : n ≤ 12) (hR : okR n F) : Met l yX3_counted wsX3_counted ({ frames := 3, cells := 0, slots := 0, locals := 57 } : Room) (va_Pc [.ref h, .int (nI k)] (fun U => PR dC dI cI (wM h r1 d1 r2 d2 cI th n F ct n2 G c2) U)) (vp_Si (fun r => r = s_cnt n F ct (nI k))) 0 0 (fun _ => False) := by
  refine Met.ofW (cc := cX3_counted) (maxL := 2) (ret := (some .int)) (by decide) rfl ?_
  intro p e s m args below meth c s₁ B hml hv
  obtain ⟨rfl, hP, hK, hE⟩ := hv
  have hx := B.exec
  have hb := B.bytes
  have hr := B.returns
  have hts := atoms_spec (ws := wsX3_counted) B.pre
  have hown : s.vm.findClass RX3 = some m.cls := findClass_of_methodNamed B.named
  have hlocks := B.notSynchronized
  have hS : va_S (fun _ => False) s.heap s.heap [] := va_S.rf
  have hinX2 : ∀ w ∈ wsX20, w ∈ wsX3_counted := by decide +kernel
  have hinX3 : ∀ w ∈ wsX30, w ∈ wsX3_counted := by decide +kernel
  have hl := lv_entry ([.ref h, .int (nI k)]) (n := 2) (Nat.le_of_ble_eq_true rfl)
  rw [lg_entry_eq]
  generalize (lg_sl ([.ref h, .int (nI k)]) ++ List.replicate (2 - (lg_sl ([.ref h, .int (nI k)])).length) Slot.unset).toArray = ls at hl ⊢
  have hl : lv_has ls 2 [(0, .ref h), (1, .int (nI k))] := hl
  refine lv_iload_n hx hb dX3_counted_0 rfl (lv_at hl 1 rfl) ?_
  rcases (show k = 0 ∨ k = 1 ∨ k = 2 ∨ k = 3 ∨ k = 4 ∨ k = 5 ∨ k = 6 ∨ k = 7 ∨ k = 8 by omega) with rfl | rfl | rfl | rfl | rfl | rfl | rfl | rfl | rfl
  · refine lv_tableIn (tgt := 52) (off := 51) hx hb dX3_counted_1 (by decide) (by decide) (by decide) (by decide) ?_
    refine lv_aload_n hx hb dX3_counted_52 rfl (lv_at hl 0 rfl) ?_
    refine va_get (D := (dC, dI)) (ci := 3) (v := .ref r1) (C := RX3) (T := TX3) (N := 3) hx hb hts hinX3 hown hK hP 0 rfl rfl 1 (by decide) (hts (.fieldLink RX3 10 "WrestleBookModel" "s" "LWrestleBookModel$State;") (by decide +kernel)) (fun _ h9 => h9) rfl dX3_counted_53 ?_
    refine va_getN (D := (dC, dI)) (ci := 2) (v := .int (ct 0)) (C := RX2) (T := TX2) (N := 11) (host := "WrestleBookModel") hx hb hts hinX2 hown hK hP 1 rfl rfl 0 (by decide) (va_Nw.use rfl (hE.2.2.1 (.fieldLinkNest RX3 91 "WrestleBookModel$State" "season" "I" "WrestleBookModel") (by decide +kernel))) (fun _ h9 => h9) rfl dX3_counted_56 ?_
    exact W.iret (v := ct 0) hx hb hr (fun t ht hW => ⟨_, rfl, (show ct 0 = s_cnt n F ct (nI 0) from by rfl), ht⟩) hS.2.2 dX3_counted_59
  · refine lv_tableIn (tgt := 60) (off := 59) hx hb dX3_counted_1 (by decide) (by decide) (by decide) (by decide) ?_
    refine lv_aload_n hx hb dX3_counted_60 rfl (lv_at hl 0 rfl) ?_
    refine va_get (D := (dC, dI)) (ci := 3) (v := .ref r1) (C := RX3) (T := TX3) (N := 3) hx hb hts hinX3 hown hK hP 0 rfl rfl 1 (by decide) (hts (.fieldLink RX3 10 "WrestleBookModel" "s" "LWrestleBookModel$State;") (by decide +kernel)) (fun _ h9 => h9) rfl dX3_counted_61 ?_
    refine va_getN (D := (dC, dI)) (ci := 2) (v := .int (nI n)) (C := RX2) (T := TX2) (N := 11) (host := "WrestleBookModel") hx hb hts hinX2 hown hK hP 1 rfl rfl 1 (by decide) (va_Nw.use rfl (hE.2.2.1 (.fieldLinkNest RX3 23 "WrestleBookModel$State" "wrestlers" "I" "WrestleBookModel") (by decide +kernel))) (fun _ h9 => h9) rfl dX3_counted_64 ?_
    exact W.iret (v := nI n) hx hb hr (fun t ht hW => ⟨_, rfl, (show nI n = s_cnt n F ct (nI 1) from by rfl), ht⟩) hS.2.2 dX3_counted_67
  · refine lv_tableIn (tgt := 68) (off := 67) hx hb dX3_counted_1 (by decide) (by decide) (by decide) (by decide) ?_
    refine lv_aload_n hx hb dX3_counted_68 rfl (lv_at hl 0 rfl) ?_
    refine va_get (D := (dC, dI)) (ci := 3) (v := .ref r1) (C := RX3) (T := TX3) (N := 3) hx hb hts hinX3 hown hK hP 0 rfl rfl 1 (by decide) (hts (.fieldLink RX3 10 "WrestleBookModel" "s" "LWrestleBookModel$State;") (by decide +kernel)) (fun _ h9 => h9) rfl dX3_counted_69 ?_
    refine va_getN (D := (dC, dI)) (ci := 2) (v := .int (ct 1)) (C := RX2) (T := TX2) (N := 11) (host := "WrestleBookModel") hx hb hts hinX2 hown hK hP 1 rfl rfl 2 (by decide) (va_Nw.use rfl (hE.2.2.1 (.fieldLinkNest RX3 94 "WrestleBookModel$State" "bouts" "I" "WrestleBookModel") (by decide +kernel))) (fun _ h9 => h9) rfl dX3_counted_72 ?_
    exact W.iret (v := ct 1) hx hb hr (fun t ht hW => ⟨_, rfl, (show ct 1 = s_cnt n F ct (nI 2) from by rfl), ht⟩) hS.2.2 dX3_counted_75
  · refine lv_tableIn (tgt := 76) (off := 75) hx hb dX3_counted_1 (by decide) (by decide) (by decide) (by decide) ?_
    refine lv_aload_n hx hb dX3_counted_76 rfl (lv_at hl 0 rfl) ?_
    refine va_get (D := (dC, dI)) (ci := 3) (v := .ref r1) (C := RX3) (T := TX3) (N := 3) hx hb hts hinX3 hown hK hP 0 rfl rfl 1 (by decide) (hts (.fieldLink RX3 10 "WrestleBookModel" "s" "LWrestleBookModel$State;") (by decide +kernel)) (fun _ h9 => h9) rfl dX3_counted_77 ?_
    refine va_getN (D := (dC, dI)) (ci := 2) (v := .int (ct 2)) (C := RX2) (T := TX2) (N := 11) (host := "WrestleBookModel") hx hb hts hinX2 hown hK hP 1 rfl rfl 3 (by decide) (va_Nw.use rfl (hE.2.2.1 (.fieldLinkNest RX3 97 "WrestleBookModel$State" "upsets" "I" "WrestleBookModel") (by decide +kernel))) (fun _ h9 => h9) rfl dX3_counted_80 ?_
    exact W.iret (v := ct 2) hx hb hr (fun t ht hW => ⟨_, rfl, (show ct 2 = s_cnt n F ct (nI 3) from by rfl), ht⟩) hS.2.2 dX3_counted_83
  · refine lv_tableIn (tgt := 100) (off := 99) hx hb dX3_counted_1 (by decide) (by decide) (by decide) (by decide) ?_
    refine lv_aload_n hx hb dX3_counted_100 rfl (lv_at hl 0 rfl) ?_
    refine va_get (D := (dC, dI)) (ci := 3) (v := .ref r1) (C := RX3) (T := TX3) (N := 3) hx hb hts hinX3 hown hK hP 0 rfl rfl 1 (by decide) (hts (.fieldLink RX3 10 "WrestleBookModel" "s" "LWrestleBookModel$State;") (by decide +kernel)) (fun _ h9 => h9) rfl dX3_counted_101 ?_
    refine lv_iload_n hx hb dX3_counted_104 rfl (lv_at hl 1 rfl) ?_
    refine lv_iconst (v := 4) hx hb dX3_counted_105 (by decide) ?_
    refine lv_isub hx hb dX3_counted_106 ?_
    refine vp_callSi (W.runV (As := [.int (4 - 4)]) (rest := []) ⟨hx, hb, hml, hown, hts⟩ (c_X2_many l dC dI cI r1 d1 n F ct (4 - 4) hn) (cwV 1 hts gX3_counted_X2_many rfl rfl rfl (by decide +kernel) ⟨Nat.le_of_ble_eq_true rfl, Nat.le_of_ble_eq_true rfl⟩) ⟨PR.blind, va_recv hK hP (ci := 2) (q0 := 1) rfl rfl, fun U hU hW => ⟨rfl, PR.go (hP.sub (ws' := (wS r1 d1 cI n F ct)) [1, 2, 3, 4, 5, 6, 7, 8] rfl) hK hE hS hU hW⟩⟩ rfl rfl hl.1 rfl (lv_room (Nat.le_of_ble_eq_true rfl)) dX3_counted_107 ⟨Nat.le_of_ble_eq_true rfl, Nat.le_of_ble_eq_true rfl⟩) (fun r hr0 => ?_)
    subst hr0
    exact W.iret (v := nI (s_many n F (4 - 4))) hx hb hr (fun t ht hW => ⟨_, rfl, (show nI (s_many n F (4 - 4)) = s_cnt n F ct (nI 4) from by rfl), ht⟩) hS.2.2 dX3_counted_110
  · refine lv_tableIn (tgt := 100) (off := 99) hx hb dX3_counted_1 (by decide) (by decide) (by decide) (by decide) ?_
    refine lv_aload_n hx hb dX3_counted_100 rfl (lv_at hl 0 rfl) ?_
    refine va_get (D := (dC, dI)) (ci := 3) (v := .ref r1) (C := RX3) (T := TX3) (N := 3) hx hb hts hinX3 hown hK hP 0 rfl rfl 1 (by decide) (hts (.fieldLink RX3 10 "WrestleBookModel" "s" "LWrestleBookModel$State;") (by decide +kernel)) (fun _ h9 => h9) rfl dX3_counted_101 ?_
    refine lv_iload_n hx hb dX3_counted_104 rfl (lv_at hl 1 rfl) ?_
    refine lv_iconst (v := 4) hx hb dX3_counted_105 (by decide) ?_
    refine lv_isub hx hb dX3_counted_106 ?_
    refine vp_callSi (W.runV (As := [.int (5 - 4)]) (rest := []) ⟨hx, hb, hml, hown, hts⟩ (c_X2_many l dC dI cI r1 d1 n F ct (5 - 4) hn) (cwV 1 hts gX3_counted_X2_many rfl rfl rfl (by decide +kernel) ⟨Nat.le_of_ble_eq_true rfl, Nat.le_of_ble_eq_true rfl⟩) ⟨PR.blind, va_recv hK hP (ci := 2) (q0 := 1) rfl rfl, fun U hU hW => ⟨rfl, PR.go (hP.sub (ws' := (wS r1 d1 cI n F ct)) [1, 2, 3, 4, 5, 6, 7, 8] rfl) hK hE hS hU hW⟩⟩ rfl rfl hl.1 rfl (lv_room (Nat.le_of_ble_eq_true rfl)) dX3_counted_107 ⟨Nat.le_of_ble_eq_true rfl, Nat.le_of_ble_eq_true rfl⟩) (fun r hr0 => ?_)
    subst hr0
    exact W.iret (v := nI (s_many n F (5 - 4))) hx hb hr (fun t ht hW => ⟨_, rfl, (show nI (s_many n F (5 - 4)) = s_cnt n F ct (nI 5) from by rfl), ht⟩) hS.2.2 dX3_counted_110
  · refine lv_tableIn (tgt := 100) (off := 99) hx hb dX3_counted_1 (by decide) (by decide) (by decide) (by decide) ?_
    refine lv_aload_n hx hb dX3_counted_100 rfl (lv_at hl 0 rfl) ?_
    refine va_get (D := (dC, dI)) (ci := 3) (v := .ref r1) (C := RX3) (T := TX3) (N := 3) hx hb hts hinX3 hown hK hP 0 rfl rfl 1 (by decide) (hts (.fieldLink RX3 10 "WrestleBookModel" "s" "LWrestleBookModel$State;") (by decide +kernel)) (fun _ h9 => h9) rfl dX3_counted_101 ?_
    refine lv_iload_n hx hb dX3_counted_104 rfl (lv_at hl 1 rfl) ?_
    refine lv_iconst (v := 4) hx hb dX3_counted_105 (by decide) ?_
    refine lv_isub hx hb dX3_counted_106 ?_
    refine vp_callSi (W.runV (As := [.int (6 - 4)]) (rest := []) ⟨hx, hb, hml, hown, hts⟩ (c_X2_many l dC dI cI r1 d1 n F ct (6 - 4) hn) (cwV 1 hts gX3_counted_X2_many rfl rfl rfl (by decide +kernel) ⟨Nat.le_of_ble_eq_true rfl, Nat.le_of_ble_eq_true rfl⟩) ⟨PR.blind, va_recv hK hP (ci := 2) (q0 := 1) rfl rfl, fun U hU hW => ⟨rfl, PR.go (hP.sub (ws' := (wS r1 d1 cI n F ct)) [1, 2, 3, 4, 5, 6, 7, 8] rfl) hK hE hS hU hW⟩⟩ rfl rfl hl.1 rfl (lv_room (Nat.le_of_ble_eq_true rfl)) dX3_counted_107 ⟨Nat.le_of_ble_eq_true rfl, Nat.le_of_ble_eq_true rfl⟩) (fun r hr0 => ?_)
    subst hr0
    exact W.iret (v := nI (s_many n F (6 - 4))) hx hb hr (fun t ht hW => ⟨_, rfl, (show nI (s_many n F (6 - 4)) = s_cnt n F ct (nI 6) from by rfl), ht⟩) hS.2.2 dX3_counted_110
  · refine lv_tableIn (tgt := 84) (off := 83) hx hb dX3_counted_1 (by decide) (by decide) (by decide) (by decide) ?_
    refine lv_aload_n hx hb dX3_counted_84 rfl (lv_at hl 0 rfl) ?_
    refine va_get (D := (dC, dI)) (ci := 3) (v := .ref r1) (C := RX3) (T := TX3) (N := 3) hx hb hts hinX3 hown hK hP 0 rfl rfl 1 (by decide) (hts (.fieldLink RX3 10 "WrestleBookModel" "s" "LWrestleBookModel$State;") (by decide +kernel)) (fun _ h9 => h9) rfl dX3_counted_85 ?_
    refine vp_callSi (W.runV (As := []) (rest := []) ⟨hx, hb, hml, hown, hts⟩ (c_X2_highest l dC dI cI r1 d1 n F ct hn) (cwV 0 hts gX3_counted_X2_highest rfl rfl rfl (by decide +kernel) ⟨Nat.le_of_ble_eq_true rfl, Nat.le_of_ble_eq_true rfl⟩) ⟨PR.blind, va_recv hK hP (ci := 2) (q0 := 1) rfl rfl, fun U hU hW => ⟨rfl, PR.go (hP.sub (ws' := (wS r1 d1 cI n F ct)) [1, 2, 3, 4, 5, 6, 7, 8] rfl) hK hE hS hU hW⟩⟩ rfl rfl hl.1 rfl (lv_room (Nat.le_of_ble_eq_true rfl)) dX3_counted_88 ⟨Nat.le_of_ble_eq_true rfl, Nat.le_of_ble_eq_true rfl⟩) (fun r hr0 => ?_)
    subst hr0
    exact W.iret (v := s_hi n F) hx hb hr (fun t ht hW => ⟨_, rfl, (show s_hi n F = s_cnt n F ct (nI 7) from by rfl), ht⟩) hS.2.2 dX3_counted_91
  · refine lv_tableIn (tgt := 92) (off := 91) hx hb dX3_counted_1 (by decide) (by decide) (by decide) (by decide) ?_
    refine lv_aload_n hx hb dX3_counted_92 rfl (lv_at hl 0 rfl) ?_
    refine va_get (D := (dC, dI)) (ci := 3) (v := .ref r1) (C := RX3) (T := TX3) (N := 3) hx hb hts hinX3 hown hK hP 0 rfl rfl 1 (by decide) (hts (.fieldLink RX3 10 "WrestleBookModel" "s" "LWrestleBookModel$State;") (by decide +kernel)) (fun _ h9 => h9) rfl dX3_counted_93 ?_
    refine vp_callSi (W.runV (As := []) (rest := []) ⟨hx, hb, hml, hown, hts⟩ (c_X2_lowest l dC dI cI r1 d1 n F ct hn hR) (cwV 0 hts gX3_counted_X2_lowest rfl rfl rfl (by decide +kernel) ⟨Nat.le_of_ble_eq_true rfl, Nat.le_of_ble_eq_true rfl⟩) ⟨PR.blind, va_recv hK hP (ci := 2) (q0 := 1) rfl rfl, fun U hU hW => ⟨rfl, PR.go (hP.sub (ws' := (wS r1 d1 cI n F ct)) [1, 2, 3, 4, 5, 6, 7, 8] rfl) hK hE hS hU hW⟩⟩ rfl rfl hl.1 rfl (lv_room (Nat.le_of_ble_eq_true rfl)) dX3_counted_96 ⟨Nat.le_of_ble_eq_true rfl, Nat.le_of_ble_eq_true rfl⟩) (fun r hr0 => ?_)
    subst hr0
    exact W.iret (v := s_lo n F) hx hb hr (fun t ht hW => ⟨_, rfl, (show s_lo n F = s_cnt n F ct (nI 8) from by rfl), ht⟩) hS.2.2 dX3_counted_99

set_option maxHeartbeats 4000000 in
set_option maxRecDepth 100000 in
theorem c_X3_join (l : Launch) (dC : Nat → ClassId) (dI : Nat → Nat → Nat) (cI : ClassId) (h r1 : Nat) (d1 : Nat → Nat) (r2 : Nat) (d2 : Nat → Nat) (th : Int32) (n : Nat) (F : Nat → Nat → Int32) (ct : Nat → Int32) (n2 : Nat) (G : Nat → Nat → Int32) (c2 : Nat → Int32) (sz : Nat) (vg : Int32) (hn : n ≤ 12) : Met l yX3_join wsX3_join ({ frames := 1, cells := 0, slots := 0, locals := 22 } : Room) (va_Pc [.ref h, .int vg] (fun U => PW dC dI cI (wM h r1 d1 r2 d2 cI th n F ct n2 G c2) sz U)) (va_Qi (fun r (_ : Unit) => r = mo (x_join n vg) (nI n) 0) (BW dC dI (va_A (wM h r1 d1 r2 d2 cI th n F ct n2 G c2) sz) (wM h r1 d1 r2 d2 cI (nI (x_join n vg)) (mo (x_join n vg) (n + 1) n) (mo (x_join n vg) (s_add F n vg) F) ct n2 G c2)) (va_A (wM h r1 d1 r2 d2 cI th n F ct n2 G c2) sz)) 0 0 (va_A (wM h r1 d1 r2 d2 cI th n F ct n2 G c2) sz) := by
  refine Met.ofW (cc := cX3_join) (maxL := 3) (ret := (some .int)) (by decide) rfl ?_
  intro p e s m args below meth c s₁ B hml hv
  obtain ⟨rfl, hsz, hP, hK, hD0, hE⟩ := hv
  have hx := B.exec
  have hb := B.bytes
  have hr := B.returns
  have hts := atoms_spec (ws := wsX3_join) B.pre
  have hown : s.vm.findClass RX3 = some m.cls := findClass_of_methodNamed B.named
  have hlocks := B.notSynchronized
  subst hsz
  have hD := hD0.self (sz := s.heap.size)
  generalize hAe : va_A (wM h r1 d1 r2 d2 cI th n F ct n2 G c2) s.heap.size = A at hD hE ⊢
  have hA : ∀ q : Nat, s.heap.size ≤ q → A q := fun q h9 => by rw [← hAe]; exact Or.inr h9
  have hS : va_S A s.heap s.heap [] := va_S.rf
  have hinX2 : ∀ w ∈ wsX20, w ∈ wsX3_join := by decide +kernel
  have hinX3 : ∀ w ∈ wsX30, w ∈ wsX3_join := by decide +kernel
  have hl := lv_entry ([.ref h, .int vg]) (n := 3) (Nat.le_of_ble_eq_true rfl)
  rw [lg_entry_eq]
  generalize (lg_sl ([.ref h, .int vg]) ++ List.replicate (3 - (lg_sl ([.ref h, .int vg])).length) Slot.unset).toArray = ls at hl ⊢
  have hl : lv_has ls 3 [(0, .ref h), (1, .int vg)] := hl
  refine lv_aload_n hx hb dX3_join_0 rfl (lv_at hl 0 rfl) ?_
  refine lv_iconst (v := 0) hx hb dX3_join_1 (by decide) ?_
  refine va_put (D := (dC, dI)) (ci := 3) (v := .int 0) (ty := .int) (C := RX3) (T := TX3) (N := 3) hx hb hts hinX3 tyX3 tyX3_ok nmX3 hown hK hP hD hS 0 rfl rfl 0 (by decide) (hts (.fieldLink RX3 19 "WrestleBookModel" "thrown" "I") (by decide +kernel)) (fun _ h9 => h9) rfl (by decide +kernel) rfl rfl (Nat.le_of_ble_eq_true rfl) dX3_join_2 (fun H locs hP hD hS => ?_)
  have hP : va_P (dC, dI) vwCl (wM h r1 d1 r2 d2 cI 0 n F ct n2 G c2) H := hP
  have hD : va_D A (wM h r1 d1 r2 d2 cI 0 n F ct n2 G c2) := hD
  refine lv_iload_n hx hb dX3_join_5 rfl (lv_at hl 1 rfl) ?_
  refine lv_iconst (v := 0) hx hb dX3_join_6 (by decide) ?_
  refine lv_iconst (v := 2) hx hb dX3_join_7 (by decide) ?_
  refine vp_callSi (W.runS (As := [.int vg, .int 0, .int 2]) (rest := []) ⟨hx, hb, hml, hown, hts⟩ (c_X3_isIn l dC dI cI vg 0 2) (va_cwS 3 hts gX3_join_X3_isIn rfl rfl rfl (by decide +kernel) ⟨Nat.le_of_ble_eq_true rfl, Nat.le_of_ble_eq_true rfl⟩) ⟨PR.blind, fun U hU hW => ⟨rfl, PR.go (vaP_nil) hK hE hS hU hW⟩⟩ rfl rfl hl.1 rfl (lv_room (Nat.le_of_ble_eq_true rfl)) dX3_join_8 ⟨Nat.le_of_ble_eq_true rfl, Nat.le_of_ble_eq_true rfl⟩) (fun r hr0 => ?_)
  subst hr0
  refine rv_top (y := bI (s_lg vg)) (by rw [in_lg]) ?_
  refine rv_ifb_ne (tgt := 20) hx hb dX3_join_11 (by decide) (fun c_11 => ?_) (fun c_11 => ?_)
  · refine lv_aload_n hx hb dX3_join_20 rfl (lv_at hl 0 rfl) ?_
    refine va_get (D := (dC, dI)) (ci := 3) (v := .ref r1) (C := RX3) (T := TX3) (N := 3) hx hb hts hinX3 hown hK hP 0 rfl rfl 1 (by decide) (hts (.fieldLink RX3 10 "WrestleBookModel" "s" "LWrestleBookModel$State;") (by decide +kernel)) (fun _ h9 => h9) rfl dX3_join_21 ?_
    refine va_getN (D := (dC, dI)) (ci := 2) (v := .int (nI n)) (C := RX2) (T := TX2) (N := 11) (host := "WrestleBookModel") hx hb hts hinX2 hown hK hP 1 rfl rfl 1 (by decide) (va_Nw.use rfl (hE.2.2.1 (.fieldLinkNest RX3 23 "WrestleBookModel$State" "wrestlers" "I" "WrestleBookModel") (by decide +kernel))) (fun _ h9 => h9) rfl dX3_join_24 ?_
    refine lv_bipush (v := 12) hx hb dX3_join_27 (by decide) ?_
    refine rv_icmp_ne (tgt := 38) hx hb (a := n) (b := 12) (by omega) (by omega) dX3_join_29 (by decide) (fun c_29 => ?_) (fun c_29 => ?_)
    · have hfull : n < 12 := by omega
      refine lv_aload_n hx hb dX3_join_38 rfl (lv_at hl 0 rfl) ?_
      refine va_get (D := (dC, dI)) (ci := 3) (v := .ref r1) (C := RX3) (T := TX3) (N := 3) hx hb hts hinX3 hown hK hP 0 rfl rfl 1 (by decide) (hts (.fieldLink RX3 10 "WrestleBookModel" "s" "LWrestleBookModel$State;") (by decide +kernel)) (fun _ h9 => h9) rfl dX3_join_39 ?_
      refine va_getN (D := (dC, dI)) (ci := 2) (v := .int (nI n)) (C := RX2) (T := TX2) (N := 11) (host := "WrestleBookModel") hx hb hts hinX2 hown hK hP 1 rfl rfl 1 (by decide) (va_Nw.use rfl (hE.2.2.1 (.fieldLinkNest RX3 23 "WrestleBookModel$State" "wrestlers" "I" "WrestleBookModel") (by decide +kernel))) (fun _ h9 => h9) rfl dX3_join_42 ?_
      refine lv_istore_n (lv' := [(2, .int (nI n)), (0, .ref h), (1, .int vg)]) hx hb dX3_join_45 rfl hl (by decide) rfl (fun ls hl => ?_)
      refine lv_aload_n hx hb dX3_join_46 rfl (lv_at hl 1 rfl) ?_
      refine va_get (D := (dC, dI)) (ci := 3) (v := .ref r1) (C := RX3) (T := TX3) (N := 3) hx hb hts hinX3 hown hK hP 0 rfl rfl 1 (by decide) (hts (.fieldLink RX3 10 "WrestleBookModel" "s" "LWrestleBookModel$State;") (by decide +kernel)) (fun _ h9 => h9) rfl dX3_join_47 ?_
      refine va_getN (D := (dC, dI)) (ci := 2) (v := .ref (d1 1)) (C := RX2) (T := TX2) (N := 11) (host := "WrestleBookModel") hx hb hts hinX2 hown hK hP 1 rfl rfl 4 (by decide) (va_Nw.use rfl (hE.2.2.1 (.fieldLinkNest RX3 34 "WrestleBookModel$State" "rating" "[I" "WrestleBookModel") (by decide +kernel))) (fun _ h9 => h9) rfl dX3_join_50 ?_
      refine lv_iload_n hx hb dX3_join_53 rfl (lv_at hl 0 rfl) ?_
      refine lv_sipush (v := 1000) hx hb dX3_join_54 (by decide) ?_
      refine rv_iast (k := n) hx hb hK hP hD hS 3 0 rfl rfl (show n < 12 by omega) (by decide) dX3_join_57 (fun H locs hP hD hS => ?_)
      have hP : va_P (dC, dI) vwCl (wM h r1 d1 r2 d2 cI 0 n (pu F 1 n 1000) ct n2 G c2) H := hP
      have hD : va_D A (wM h r1 d1 r2 d2 cI 0 n (pu F 1 n 1000) ct n2 G c2) := hD
      refine lv_aload_n hx hb dX3_join_58 rfl (lv_at hl 1 rfl) ?_
      refine va_get (D := (dC, dI)) (ci := 3) (v := .ref r1) (C := RX3) (T := TX3) (N := 3) hx hb hts hinX3 hown hK hP 0 rfl rfl 1 (by decide) (hts (.fieldLink RX3 10 "WrestleBookModel" "s" "LWrestleBookModel$State;") (by decide +kernel)) (fun _ h9 => h9) rfl dX3_join_59 ?_
      refine va_getN (D := (dC, dI)) (ci := 2) (v := .ref (d1 6)) (C := RX2) (T := TX2) (N := 11) (host := "WrestleBookModel") hx hb hts hinX2 hown hK hP 1 rfl rfl 10 (by decide) (va_Nw.use rfl (hE.2.2.1 (.fieldLinkNest RX3 38 "WrestleBookModel$State" "best" "[I" "WrestleBookModel") (by decide +kernel))) (fun _ h9 => h9) rfl dX3_join_62 ?_
      refine lv_iload_n hx hb dX3_join_65 rfl (lv_at hl 0 rfl) ?_
      refine lv_sipush (v := 1000) hx hb dX3_join_66 (by decide) ?_
      refine rv_iast (k := n) hx hb hK hP hD hS 8 0 rfl rfl (show n < 12 by omega) (by decide) dX3_join_69 (fun H locs hP hD hS => ?_)
      have hP : va_P (dC, dI) vwCl (wM h r1 d1 r2 d2 cI 0 n (pu (pu F 1 n 1000) 6 n 1000) ct n2 G c2) H := hP
      have hD : va_D A (wM h r1 d1 r2 d2 cI 0 n (pu (pu F 1 n 1000) 6 n 1000) ct n2 G c2) := hD
      refine lv_aload_n hx hb dX3_join_70 rfl (lv_at hl 1 rfl) ?_
      refine va_get (D := (dC, dI)) (ci := 3) (v := .ref r1) (C := RX3) (T := TX3) (N := 3) hx hb hts hinX3 hown hK hP 0 rfl rfl 1 (by decide) (hts (.fieldLink RX3 10 "WrestleBookModel" "s" "LWrestleBookModel$State;") (by decide +kernel)) (fun _ h9 => h9) rfl dX3_join_71 ?_
      refine va_getN (D := (dC, dI)) (ci := 2) (v := .ref (d1 0)) (C := RX2) (T := TX2) (N := 11) (host := "WrestleBookModel") hx hb hts hinX2 hown hK hP 1 rfl rfl 5 (by decide) (va_Nw.use rfl (hE.2.2.1 (.fieldLinkNest RX3 41 "WrestleBookModel$State" "league" "[I" "WrestleBookModel") (by decide +kernel))) (fun _ h9 => h9) rfl dX3_join_74 ?_
      refine lv_iload_n hx hb dX3_join_77 rfl (lv_at hl 0 rfl) ?_
      refine lv_iload_n hx hb dX3_join_78 rfl (lv_at hl 2 rfl) ?_
      refine rv_iast (k := n) hx hb hK hP hD hS 2 0 rfl rfl (show n < 12 by omega) (by decide) dX3_join_79 (fun H locs hP hD hS => ?_)
      have hP : va_P (dC, dI) vwCl (wM h r1 d1 r2 d2 cI 0 n (pu (pu (pu F 1 n 1000) 6 n 1000) 0 n vg) ct n2 G c2) H := hP
      have hD : va_D A (wM h r1 d1 r2 d2 cI 0 n (pu (pu (pu F 1 n 1000) 6 n 1000) 0 n vg) ct n2 G c2) := hD
      refine lv_aload_n hx hb dX3_join_80 rfl (lv_at hl 1 rfl) ?_
      refine va_get (D := (dC, dI)) (ci := 3) (v := .ref r1) (C := RX3) (T := TX3) (N := 3) hx hb hts hinX3 hown hK hP 0 rfl rfl 1 (by decide) (hts (.fieldLink RX3 10 "WrestleBookModel" "s" "LWrestleBookModel$State;") (by decide +kernel)) (fun _ h9 => h9) rfl dX3_join_81 ?_
      refine lv_dup hx hb dX3_join_84 rfl ?_
      refine va_getN (D := (dC, dI)) (ci := 2) (v := .int (nI n)) (C := RX2) (T := TX2) (N := 11) (host := "WrestleBookModel") hx hb hts hinX2 hown hK hP 1 rfl rfl 1 (by decide) (va_Nw.use rfl (hE.2.2.1 (.fieldLinkNest RX3 23 "WrestleBookModel$State" "wrestlers" "I" "WrestleBookModel") (by decide +kernel))) (fun _ h9 => h9) rfl dX3_join_85 ?_
      refine lv_iconst (v := 1) hx hb dX3_join_88 (by decide) ?_
      refine lv_iadd hx hb dX3_join_89 ?_
      refine rv_top (y := nI (n + 1)) (nI_1 n) ?_
      refine va_putN (D := (dC, dI)) (ci := 2) (v := .int (nI (n + 1))) (ty := .int) (C := RX2) (T := TX2) (N := 11) (host := "WrestleBookModel") hx hb hts hinX2 tyX2 tyX2_ok nmX2 hown hK hP hD hS 1 rfl rfl 1 (by decide) (va_Nw.use rfl (hE.2.2.1 (.fieldLinkNest RX3 23 "WrestleBookModel$State" "wrestlers" "I" "WrestleBookModel") (by decide +kernel))) (fun _ h9 => h9) rfl (by decide +kernel) rfl rfl (Nat.le_of_ble_eq_true rfl) dX3_join_90 (fun H locs hP hD hS => ?_)
      have hP : va_P (dC, dI) vwCl (wM h r1 d1 r2 d2 cI 0 (n + 1) (pu (pu (pu F 1 n 1000) 6 n 1000) 0 n vg) ct n2 G c2) H := hP
      have hD : va_D A (wM h r1 d1 r2 d2 cI 0 (n + 1) (pu (pu (pu F 1 n 1000) 6 n 1000) 0 n vg) ct n2 G c2) := hD
      refine lv_iload_n hx hb dX3_join_93 rfl (lv_at hl 0 rfl) ?_
      have hcode : x_join n vg = 0 := by simp [x_join, c_11, hfull]
      have hP8 : va_P (dC, dI) vwCl (wM h r1 d1 r2 d2 cI (nI (x_join n vg)) (mo (x_join n vg) (n + 1) n) (mo (x_join n vg) (s_add F n vg) F) ct n2 G c2) H := by rw [hcode]; rw [add_comm3]; exact hP
      have hD8 : va_D A (wM h r1 d1 r2 d2 cI (nI (x_join n vg)) (mo (x_join n vg) (n + 1) n) (mo (x_join n vg) (s_add F n vg) F) ct n2 G c2) := by rw [hcode]; rw [add_comm3]; exact hD
      exact W.iret (v := nI n) hx hb hr (fun t ht hW => ⟨⟨_, (), rfl, (show nI n = mo (x_join n vg) (nI n) 0 from by rw [hcode, mo_0]), by rw [ht]; exact hP8, hD8⟩, hS.F ht⟩) hS.2.2 dX3_join_94
    · have hfull : ¬ n < 12 := by omega
      refine lv_aload_n hx hb dX3_join_32 rfl (lv_at hl 0 rfl) ?_
      refine lv_iconst (v := 2) hx hb dX3_join_33 (by decide) ?_
      have hPc := hP.sub (ws' := (wM h r1 d1 r2 d2 cI 0 n F ct n2 G c2)) [0, 1, 2, 3, 4, 5, 6, 7, 8, 9, 10, 11, 12, 13, 14, 15, 16] rfl
      have hDc := hD.sub (ws' := (wM h r1 d1 r2 d2 cI 0 n F ct n2 G c2)) [0, 1, 2, 3, 4, 5, 6, 7, 8, 9, 10, 11, 12, 13, 14, 15, 16] (by decide) rfl
      have hFc := va_free (wc := (wM h r1 d1 r2 d2 cI 0 n F ct n2 G c2)) hD hS hA [0, 1, 2, 3, 4, 5, 6, 7, 8, 9, 10, 11, 12, 13, 14, 15, 16] rfl
      refine va_calli (va_runV (As := [.int 2]) (rest := []) ⟨hx, hb, hml, hown, hts⟩ (c_X3_no l dC dI cI h r1 d1 r2 d2 0 n F ct n2 G c2 H.size 2) (cwV 1 hts gX3_join_X3_no rfl rfl rfl (by decide +kernel) ⟨Nat.le_of_ble_eq_true rfl, Nat.le_of_ble_eq_true rfl⟩) ⟨PW.blind, va_recv hK hP (ci := 3) (q0 := 0) rfl rfl, fun U hU hW => ⟨rfl, PW.go hPc hK hDc hE hS hFc hU hW⟩⟩ rfl rfl hl.1 rfl (lv_room (Nat.le_of_ble_eq_true rfl)) dX3_join_34 ⟨Nat.le_of_ble_eq_true rfl, Nat.le_of_ble_eq_true rfl⟩) hS (fun q _ h9 => hFc q h9) hFc (fun r u9 t9 H1 locs ht9 hvm9 hw9 hB9 hz9 hk9 hS => ?_)
      obtain ⟨hP9, hD9⟩ := hB9
      rw [ht9] at hP9
      obtain ⟨hP, hD⟩ := va_join (wr := []) (w1 := wM h r1 d1 r2 d2 cI 2 n F ct n2 G c2) hP hD [0, 1, 2, 3, 4, 5, 6, 7, 8, 9, 10, 11, 12, 13, 14, 15, 16] [] rfl rfl (by decide) (by decide) hk9 hFc hP9 hD9
      generalize H1 = H at hP hS ⊢
      have hP : va_P (dC, dI) vwCl (wM h r1 d1 r2 d2 cI 2 n F ct n2 G c2) H := hP
      have hD : va_D A (wM h r1 d1 r2 d2 cI 2 n F ct n2 G c2) := hD
      have hw9 : r = 0 := hw9
      subst hw9
      have hcode : x_join n vg = 2 := by simp [x_join, c_11, hfull]
      have hP8 : va_P (dC, dI) vwCl (wM h r1 d1 r2 d2 cI (nI (x_join n vg)) (mo (x_join n vg) (n + 1) n) (mo (x_join n vg) (s_add F n vg) F) ct n2 G c2) H := by rw [hcode]; exact hP
      have hD8 : va_D A (wM h r1 d1 r2 d2 cI (nI (x_join n vg)) (mo (x_join n vg) (n + 1) n) (mo (x_join n vg) (s_add F n vg) F) ct n2 G c2) := by rw [hcode]; exact hD
      exact W.iret (v := 0) hx hb hr (fun t ht hW => ⟨⟨_, (), rfl, (show 0 = mo (x_join n vg) (nI n) 0 from by rw [hcode]; rfl), by rw [ht]; exact hP8, hD8⟩, hS.F ht⟩) hS.2.2 dX3_join_37
  · refine lv_aload_n hx hb dX3_join_14 rfl (lv_at hl 0 rfl) ?_
    refine lv_iconst (v := 1) hx hb dX3_join_15 (by decide) ?_
    have hPc := hP.sub (ws' := (wM h r1 d1 r2 d2 cI 0 n F ct n2 G c2)) [0, 1, 2, 3, 4, 5, 6, 7, 8, 9, 10, 11, 12, 13, 14, 15, 16] rfl
    have hDc := hD.sub (ws' := (wM h r1 d1 r2 d2 cI 0 n F ct n2 G c2)) [0, 1, 2, 3, 4, 5, 6, 7, 8, 9, 10, 11, 12, 13, 14, 15, 16] (by decide) rfl
    have hFc := va_free (wc := (wM h r1 d1 r2 d2 cI 0 n F ct n2 G c2)) hD hS hA [0, 1, 2, 3, 4, 5, 6, 7, 8, 9, 10, 11, 12, 13, 14, 15, 16] rfl
    refine va_calli (va_runV (As := [.int 1]) (rest := []) ⟨hx, hb, hml, hown, hts⟩ (c_X3_no l dC dI cI h r1 d1 r2 d2 0 n F ct n2 G c2 H.size 1) (cwV 1 hts gX3_join_X3_no rfl rfl rfl (by decide +kernel) ⟨Nat.le_of_ble_eq_true rfl, Nat.le_of_ble_eq_true rfl⟩) ⟨PW.blind, va_recv hK hP (ci := 3) (q0 := 0) rfl rfl, fun U hU hW => ⟨rfl, PW.go hPc hK hDc hE hS hFc hU hW⟩⟩ rfl rfl hl.1 rfl (lv_room (Nat.le_of_ble_eq_true rfl)) dX3_join_16 ⟨Nat.le_of_ble_eq_true rfl, Nat.le_of_ble_eq_true rfl⟩) hS (fun q _ h9 => hFc q h9) hFc (fun r u9 t9 H1 locs ht9 hvm9 hw9 hB9 hz9 hk9 hS => ?_)
    obtain ⟨hP9, hD9⟩ := hB9
    rw [ht9] at hP9
    obtain ⟨hP, hD⟩ := va_join (wr := []) (w1 := wM h r1 d1 r2 d2 cI 1 n F ct n2 G c2) hP hD [0, 1, 2, 3, 4, 5, 6, 7, 8, 9, 10, 11, 12, 13, 14, 15, 16] [] rfl rfl (by decide) (by decide) hk9 hFc hP9 hD9
    generalize H1 = H at hP hS ⊢
    have hP : va_P (dC, dI) vwCl (wM h r1 d1 r2 d2 cI 1 n F ct n2 G c2) H := hP
    have hD : va_D A (wM h r1 d1 r2 d2 cI 1 n F ct n2 G c2) := hD
    have hw9 : r = 0 := hw9
    subst hw9
    have hcode : x_join n vg = 1 := by simp [x_join, c_11]
    have hP8 : va_P (dC, dI) vwCl (wM h r1 d1 r2 d2 cI (nI (x_join n vg)) (mo (x_join n vg) (n + 1) n) (mo (x_join n vg) (s_add F n vg) F) ct n2 G c2) H := by rw [hcode]; exact hP
    have hD8 : va_D A (wM h r1 d1 r2 d2 cI (nI (x_join n vg)) (mo (x_join n vg) (n + 1) n) (mo (x_join n vg) (s_add F n vg) F) ct n2 G c2) := by rw [hcode]; exact hD
    exact W.iret (v := 0) hx hb hr (fun t ht hW => ⟨⟨_, (), rfl, (show 0 = mo (x_join n vg) (nI n) 0 from by rw [hcode]; rfl), by rw [ht]; exact hP8, hD8⟩, hS.F ht⟩) hS.2.2 dX3_join_19

set_option maxHeartbeats 4000000 in
set_option maxRecDepth 100000 in
theorem c_X3_rate (l : Launch) (dC : Nat → ClassId) (dI : Nat → Nat → Nat) (cI : ClassId) (h r1 : Nat) (d1 : Nat → Nat) (r2 : Nat) (d2 : Nat → Nat) (th : Int32) (n : Nat) (F : Nat → Nat → Int32) (ct : Nat → Int32) (n2 : Nat) (G : Nat → Nat → Int32) (c2 : Nat → Int32) (sz : Nat) (va : Int32) (vx : Int32) (hn : n ≤ 12) : Met l yX3_rate wsX3_rate ({ frames := 2, cells := 0, slots := 0, locals := 43 } : Room) (va_Pc [.ref h, .int va, .int vx] (fun U => PW dC dI cI (wM h r1 d1 r2 d2 cI th n F ct n2 G c2) sz U)) (va_Qi (fun r (_ : Unit) => r = mo (x_rate n va vx) (F 1 (cl va)) 0) (BW dC dI (va_A (wM h r1 d1 r2 d2 cI th n F ct n2 G c2) sz) (wM h r1 d1 r2 d2 cI (nI (x_rate n va vx)) n (mo (x_rate n va vx) (s_set F (cl va) vx) F) ct n2 G c2)) (va_A (wM h r1 d1 r2 d2 cI th n F ct n2 G c2) sz)) 0 0 (va_A (wM h r1 d1 r2 d2 cI th n F ct n2 G c2) sz) := by
  refine Met.ofW (cc := cX3_rate) (maxL := 4) (ret := (some .int)) (by decide) rfl ?_
  intro p e s m args below meth c s₁ B hml hv
  obtain ⟨rfl, hsz, hP, hK, hD0, hE⟩ := hv
  have hx := B.exec
  have hb := B.bytes
  have hr := B.returns
  have hts := atoms_spec (ws := wsX3_rate) B.pre
  have hown : s.vm.findClass RX3 = some m.cls := findClass_of_methodNamed B.named
  have hlocks := B.notSynchronized
  subst hsz
  have hD := hD0.self (sz := s.heap.size)
  generalize hAe : va_A (wM h r1 d1 r2 d2 cI th n F ct n2 G c2) s.heap.size = A at hD hE ⊢
  have hA : ∀ q : Nat, s.heap.size ≤ q → A q := fun q h9 => by rw [← hAe]; exact Or.inr h9
  have hS : va_S A s.heap s.heap [] := va_S.rf
  have hinX2 : ∀ w ∈ wsX20, w ∈ wsX3_rate := by decide +kernel
  have hinX3 : ∀ w ∈ wsX30, w ∈ wsX3_rate := by decide +kernel
  have hl := lv_entry ([.ref h, .int va, .int vx]) (n := 4) (Nat.le_of_ble_eq_true rfl)
  rw [lg_entry_eq]
  generalize (lg_sl ([.ref h, .int va, .int vx]) ++ List.replicate (4 - (lg_sl ([.ref h, .int va, .int vx])).length) Slot.unset).toArray = ls at hl ⊢
  have hl : lv_has ls 4 [(0, .ref h), (1, .int va), (2, .int vx)] := hl
  refine lv_aload_n hx hb dX3_rate_0 rfl (lv_at hl 0 rfl) ?_
  refine lv_iconst (v := 0) hx hb dX3_rate_1 (by decide) ?_
  refine va_put (D := (dC, dI)) (ci := 3) (v := .int 0) (ty := .int) (C := RX3) (T := TX3) (N := 3) hx hb hts hinX3 tyX3 tyX3_ok nmX3 hown hK hP hD hS 0 rfl rfl 0 (by decide) (hts (.fieldLink RX3 19 "WrestleBookModel" "thrown" "I") (by decide +kernel)) (fun _ h9 => h9) rfl (by decide +kernel) rfl rfl (Nat.le_of_ble_eq_true rfl) dX3_rate_2 (fun H locs hP hD hS => ?_)
  have hP : va_P (dC, dI) vwCl (wM h r1 d1 r2 d2 cI 0 n F ct n2 G c2) H := hP
  have hD : va_D A (wM h r1 d1 r2 d2 cI 0 n F ct n2 G c2) := hD
  refine lv_aload_n hx hb dX3_rate_5 rfl (lv_at hl 0 rfl) ?_
  refine lv_iload_n hx hb dX3_rate_6 rfl (lv_at hl 1 rfl) ?_
  refine vp_callSi (W.runV (As := [.int va]) (rest := []) ⟨hx, hb, hml, hown, hts⟩ (c_X3_isWrestler l dC dI cI h r1 d1 r2 d2 0 n F ct n2 G c2 va hn) (cwV 1 hts gX3_rate_X3_isWrestler rfl rfl rfl (by decide +kernel) ⟨Nat.le_of_ble_eq_true rfl, Nat.le_of_ble_eq_true rfl⟩) ⟨PR.blind, va_recv hK hP (ci := 3) (q0 := 0) rfl rfl, fun U hU hW => ⟨rfl, PR.go hP hK hE hS hU hW⟩⟩ rfl rfl hl.1 rfl (lv_room (Nat.le_of_ble_eq_true rfl)) dX3_rate_7 ⟨Nat.le_of_ble_eq_true rfl, Nat.le_of_ble_eq_true rfl⟩) (fun r hr0 => ?_)
  subst hr0
  refine rv_ifb_ne (tgt := 19) hx hb dX3_rate_10 (by decide) (fun c_10 => ?_) (fun c_10 => ?_)
  · obtain ⟨a, i_a, rfl⟩ := s_has_nat hn c_10
    have h_a := s_has_nI hn i_a
    refine lv_iload_n hx hb dX3_rate_19 rfl (lv_at hl 2 rfl) ?_
    refine lv_bipush (v := 100) hx hb dX3_rate_20 (by decide) ?_
    refine lv_sipush (v := 3000) hx hb dX3_rate_22 (by decide) ?_
    refine vp_callSi (W.runS (As := [.int vx, .int 100, .int 3000]) (rest := []) ⟨hx, hb, hml, hown, hts⟩ (c_X3_isIn l dC dI cI vx 100 3000) (va_cwS 3 hts gX3_rate_X3_isIn rfl rfl rfl (by decide +kernel) ⟨Nat.le_of_ble_eq_true rfl, Nat.le_of_ble_eq_true rfl⟩) ⟨PR.blind, fun U hU hW => ⟨rfl, PR.go (vaP_nil) hK hE hS hU hW⟩⟩ rfl rfl hl.1 rfl (lv_room (Nat.le_of_ble_eq_true rfl)) dX3_rate_25 ⟨Nat.le_of_ble_eq_true rfl, Nat.le_of_ble_eq_true rfl⟩) (fun r hr0 => ?_)
    subst hr0
    refine rv_ifb_ne (tgt := 37) hx hb dX3_rate_28 (by decide) (fun c_28 => ?_) (fun c_28 => ?_)
    · refine lv_aload_n hx hb dX3_rate_37 rfl (lv_at hl 0 rfl) ?_
      refine va_get (D := (dC, dI)) (ci := 3) (v := .ref r1) (C := RX3) (T := TX3) (N := 3) hx hb hts hinX3 hown hK hP 0 rfl rfl 1 (by decide) (hts (.fieldLink RX3 10 "WrestleBookModel" "s" "LWrestleBookModel$State;") (by decide +kernel)) (fun _ h9 => h9) rfl dX3_rate_38 ?_
      refine va_getN (D := (dC, dI)) (ci := 2) (v := .ref (d1 1)) (C := RX2) (T := TX2) (N := 11) (host := "WrestleBookModel") hx hb hts hinX2 hown hK hP 1 rfl rfl 4 (by decide) (va_Nw.use rfl (hE.2.2.1 (.fieldLinkNest RX3 34 "WrestleBookModel$State" "rating" "[I" "WrestleBookModel") (by decide +kernel))) (fun _ h9 => h9) rfl dX3_rate_41 ?_
      refine lv_iload_n hx hb dX3_rate_44 rfl (lv_at hl 1 rfl) ?_
      refine rv_iald (k := a) hx hb hK hP 3 0 rfl rfl (show a < 12 by omega) (by decide) dX3_rate_45 ?_
      refine lv_istore_n (lv' := [(3, .int (F 1 a)), (0, .ref h), (1, .int (nI a)), (2, .int vx)]) hx hb dX3_rate_46 rfl hl (by decide) rfl (fun ls hl => ?_)
      refine lv_aload_n hx hb dX3_rate_47 rfl (lv_at hl 1 rfl) ?_
      refine va_get (D := (dC, dI)) (ci := 3) (v := .ref r1) (C := RX3) (T := TX3) (N := 3) hx hb hts hinX3 hown hK hP 0 rfl rfl 1 (by decide) (hts (.fieldLink RX3 10 "WrestleBookModel" "s" "LWrestleBookModel$State;") (by decide +kernel)) (fun _ h9 => h9) rfl dX3_rate_48 ?_
      refine lv_iload_n hx hb dX3_rate_51 rfl (lv_at hl 2 rfl) ?_
      refine lv_iload_n hx hb dX3_rate_52 rfl (lv_at hl 3 rfl) ?_
      have hPc := hP.sub (ws' := (wS r1 d1 cI n F ct)) [1, 2, 3, 4, 5, 6, 7, 8] rfl
      have hDc := hD.sub (ws' := (wS r1 d1 cI n F ct)) [1, 2, 3, 4, 5, 6, 7, 8] (by decide) rfl
      have hFc := va_free (wc := (wS r1 d1 cI n F ct)) hD hS hA [1, 2, 3, 4, 5, 6, 7, 8] rfl
      refine va_callv (va_runV (As := [.int (nI a), .int vx]) (rest := []) ⟨hx, hb, hml, hown, hts⟩ (c_X2_setRating l dC dI cI r1 d1 n F ct H.size a (show a < n by omega) vx hn) (cwV 2 hts gX3_rate_X2_setRating rfl rfl rfl (by decide +kernel) ⟨Nat.le_of_ble_eq_true rfl, Nat.le_of_ble_eq_true rfl⟩) ⟨PW.blind, va_recv hK hP (ci := 2) (q0 := 1) rfl rfl, fun U hU hW => ⟨rfl, PW.go hPc hK hDc hE hS hFc hU hW⟩⟩ rfl rfl hl.1 rfl (lv_room (Nat.le_of_ble_eq_true rfl)) dX3_rate_53 ⟨Nat.le_of_ble_eq_true rfl, Nat.le_of_ble_eq_true rfl⟩) hS (fun q _ h9 => hFc q h9) hFc (fun u9 t9 H1 locs ht9 hvm9 hw9 hB9 hz9 hk9 hS => ?_)
      obtain ⟨hP9, hD9⟩ := hB9
      rw [ht9] at hP9
      obtain ⟨hP, hD⟩ := va_join (wr := ([(h, .inr (3, [.int 0, .ref r1, .ref r2])), (r2, .inr (2, [.int (c2 0), .int (nI n2), .int (c2 1), .int (c2 2), .ref (d2 1), .ref (d2 0), .ref (d2 2), .ref (d2 3), .ref (d2 4), .ref (d2 5), .ref (d2 6)])), (d2 0, .inl (cI, 12, .inl (G 0))), (d2 1, .inl (cI, 12, .inl (G 1))), (d2 2, .inl (cI, 12, .inl (G 2))), (d2 3, .inl (cI, 12, .inl (G 3))), (d2 4, .inl (cI, 12, .inl (G 4))), (d2 5, .inl (cI, 12, .inl (G 5))), (d2 6, .inl (cI, 12, .inl (G 6)))] : va_W)) (w1 := wS r1 d1 cI n (s_set F a vx) ct) hP hD [1, 2, 3, 4, 5, 6, 7, 8] [0, 9, 10, 11, 12, 13, 14, 15, 16] rfl rfl (by decide) (by decide) hk9 hFc hP9 hD9
      generalize H1 = H at hP hS ⊢
      have hP := hP.sub (ws' := wM h r1 d1 r2 d2 cI 0 n (s_set F a vx) ct n2 G c2) [0, 9, 10, 11, 12, 13, 14, 15, 16, 1, 2, 3, 4, 5, 6, 7, 8] rfl
      have hD := hD.sub (ws' := wM h r1 d1 r2 d2 cI 0 n (s_set F a vx) ct n2 G c2) [0, 9, 10, 11, 12, 13, 14, 15, 16, 1, 2, 3, 4, 5, 6, 7, 8] (by decide) rfl
      have hP : va_P (dC, dI) vwCl (wM h r1 d1 r2 d2 cI 0 n (s_set F a vx) ct n2 G c2) H := hP
      have hD : va_D A (wM h r1 d1 r2 d2 cI 0 n (s_set F a vx) ct n2 G c2) := hD
      refine lv_iload_n hx hb dX3_rate_56 rfl (lv_at hl 0 rfl) ?_
      have hcode : x_rate n (nI a) vx = 0 := by exact (in_rt h_a).1 c_28
      have hP8 : va_P (dC, dI) vwCl (wM h r1 d1 r2 d2 cI (nI (x_rate n (nI a) vx)) n (mo (x_rate n (nI a) vx) (s_set F (cl (nI a)) vx) F) ct n2 G c2) H := by rw [hcode]; rw [cl_nI (by omega)]; exact hP
      have hD8 : va_D A (wM h r1 d1 r2 d2 cI (nI (x_rate n (nI a) vx)) n (mo (x_rate n (nI a) vx) (s_set F (cl (nI a)) vx) F) ct n2 G c2) := by rw [hcode]; rw [cl_nI (by omega)]; exact hD
      exact W.iret (v := F 1 a) hx hb hr (fun t ht hW => ⟨⟨_, (), rfl, (show F 1 a = mo (x_rate n (nI a) vx) (F 1 (cl (nI a))) 0 from by rw [hcode, mo_0]; rw [cl_nI (by omega)]), by rw [ht]; exact hP8, hD8⟩, hS.F ht⟩) hS.2.2 dX3_rate_57
    · refine lv_aload_n hx hb dX3_rate_31 rfl (lv_at hl 0 rfl) ?_
      refine lv_iconst (v := 2) hx hb dX3_rate_32 (by decide) ?_
      have hPc := hP.sub (ws' := (wM h r1 d1 r2 d2 cI 0 n F ct n2 G c2)) [0, 1, 2, 3, 4, 5, 6, 7, 8, 9, 10, 11, 12, 13, 14, 15, 16] rfl
      have hDc := hD.sub (ws' := (wM h r1 d1 r2 d2 cI 0 n F ct n2 G c2)) [0, 1, 2, 3, 4, 5, 6, 7, 8, 9, 10, 11, 12, 13, 14, 15, 16] (by decide) rfl
      have hFc := va_free (wc := (wM h r1 d1 r2 d2 cI 0 n F ct n2 G c2)) hD hS hA [0, 1, 2, 3, 4, 5, 6, 7, 8, 9, 10, 11, 12, 13, 14, 15, 16] rfl
      refine va_calli (va_runV (As := [.int 2]) (rest := []) ⟨hx, hb, hml, hown, hts⟩ (c_X3_no l dC dI cI h r1 d1 r2 d2 0 n F ct n2 G c2 H.size 2) (cwV 1 hts gX3_rate_X3_no rfl rfl rfl (by decide +kernel) ⟨Nat.le_of_ble_eq_true rfl, Nat.le_of_ble_eq_true rfl⟩) ⟨PW.blind, va_recv hK hP (ci := 3) (q0 := 0) rfl rfl, fun U hU hW => ⟨rfl, PW.go hPc hK hDc hE hS hFc hU hW⟩⟩ rfl rfl hl.1 rfl (lv_room (Nat.le_of_ble_eq_true rfl)) dX3_rate_33 ⟨Nat.le_of_ble_eq_true rfl, Nat.le_of_ble_eq_true rfl⟩) hS (fun q _ h9 => hFc q h9) hFc (fun r u9 t9 H1 locs ht9 hvm9 hw9 hB9 hz9 hk9 hS => ?_)
      obtain ⟨hP9, hD9⟩ := hB9
      rw [ht9] at hP9
      obtain ⟨hP, hD⟩ := va_join (wr := []) (w1 := wM h r1 d1 r2 d2 cI 2 n F ct n2 G c2) hP hD [0, 1, 2, 3, 4, 5, 6, 7, 8, 9, 10, 11, 12, 13, 14, 15, 16] [] rfl rfl (by decide) (by decide) hk9 hFc hP9 hD9
      generalize H1 = H at hP hS ⊢
      have hP : va_P (dC, dI) vwCl (wM h r1 d1 r2 d2 cI 2 n F ct n2 G c2) H := hP
      have hD : va_D A (wM h r1 d1 r2 d2 cI 2 n F ct n2 G c2) := hD
      have hw9 : r = 0 := hw9
      subst hw9
      have hcode : x_rate n (nI a) vx = 2 := by exact (in_rt h_a).2 c_28
      have hP8 : va_P (dC, dI) vwCl (wM h r1 d1 r2 d2 cI (nI (x_rate n (nI a) vx)) n (mo (x_rate n (nI a) vx) (s_set F (cl (nI a)) vx) F) ct n2 G c2) H := by rw [hcode]; exact hP
      have hD8 : va_D A (wM h r1 d1 r2 d2 cI (nI (x_rate n (nI a) vx)) n (mo (x_rate n (nI a) vx) (s_set F (cl (nI a)) vx) F) ct n2 G c2) := by rw [hcode]; exact hD
      exact W.iret (v := 0) hx hb hr (fun t ht hW => ⟨⟨_, (), rfl, (show 0 = mo (x_rate n (nI a) vx) (F 1 (cl (nI a))) 0 from by rw [hcode]; rfl), by rw [ht]; exact hP8, hD8⟩, hS.F ht⟩) hS.2.2 dX3_rate_36
  · refine lv_aload_n hx hb dX3_rate_13 rfl (lv_at hl 0 rfl) ?_
    refine lv_iconst (v := 1) hx hb dX3_rate_14 (by decide) ?_
    have hPc := hP.sub (ws' := (wM h r1 d1 r2 d2 cI 0 n F ct n2 G c2)) [0, 1, 2, 3, 4, 5, 6, 7, 8, 9, 10, 11, 12, 13, 14, 15, 16] rfl
    have hDc := hD.sub (ws' := (wM h r1 d1 r2 d2 cI 0 n F ct n2 G c2)) [0, 1, 2, 3, 4, 5, 6, 7, 8, 9, 10, 11, 12, 13, 14, 15, 16] (by decide) rfl
    have hFc := va_free (wc := (wM h r1 d1 r2 d2 cI 0 n F ct n2 G c2)) hD hS hA [0, 1, 2, 3, 4, 5, 6, 7, 8, 9, 10, 11, 12, 13, 14, 15, 16] rfl
    refine va_calli (va_runV (As := [.int 1]) (rest := []) ⟨hx, hb, hml, hown, hts⟩ (c_X3_no l dC dI cI h r1 d1 r2 d2 0 n F ct n2 G c2 H.size 1) (cwV 1 hts gX3_rate_X3_no rfl rfl rfl (by decide +kernel) ⟨Nat.le_of_ble_eq_true rfl, Nat.le_of_ble_eq_true rfl⟩) ⟨PW.blind, va_recv hK hP (ci := 3) (q0 := 0) rfl rfl, fun U hU hW => ⟨rfl, PW.go hPc hK hDc hE hS hFc hU hW⟩⟩ rfl rfl hl.1 rfl (lv_room (Nat.le_of_ble_eq_true rfl)) dX3_rate_15 ⟨Nat.le_of_ble_eq_true rfl, Nat.le_of_ble_eq_true rfl⟩) hS (fun q _ h9 => hFc q h9) hFc (fun r u9 t9 H1 locs ht9 hvm9 hw9 hB9 hz9 hk9 hS => ?_)
    obtain ⟨hP9, hD9⟩ := hB9
    rw [ht9] at hP9
    obtain ⟨hP, hD⟩ := va_join (wr := []) (w1 := wM h r1 d1 r2 d2 cI 1 n F ct n2 G c2) hP hD [0, 1, 2, 3, 4, 5, 6, 7, 8, 9, 10, 11, 12, 13, 14, 15, 16] [] rfl rfl (by decide) (by decide) hk9 hFc hP9 hD9
    generalize H1 = H at hP hS ⊢
    have hP : va_P (dC, dI) vwCl (wM h r1 d1 r2 d2 cI 1 n F ct n2 G c2) H := hP
    have hD : va_D A (wM h r1 d1 r2 d2 cI 1 n F ct n2 G c2) := hD
    have hw9 : r = 0 := hw9
    subst hw9
    have hcode : x_rate n va vx = 1 := by simp [x_rate, c_10]
    have hP8 : va_P (dC, dI) vwCl (wM h r1 d1 r2 d2 cI (nI (x_rate n va vx)) n (mo (x_rate n va vx) (s_set F (cl va) vx) F) ct n2 G c2) H := by rw [hcode]; exact hP
    have hD8 : va_D A (wM h r1 d1 r2 d2 cI (nI (x_rate n va vx)) n (mo (x_rate n va vx) (s_set F (cl va) vx) F) ct n2 G c2) := by rw [hcode]; exact hD
    exact W.iret (v := 0) hx hb hr (fun t ht hW => ⟨⟨_, (), rfl, (show 0 = mo (x_rate n va vx) (F 1 (cl va)) 0 from by rw [hcode]; rfl), by rw [ht]; exact hP8, hD8⟩, hS.F ht⟩) hS.2.2 dX3_rate_18

set_option maxHeartbeats 4000000 in
set_option maxRecDepth 100000 in
theorem c_X3_bout (l : Launch) (dC : Nat → ClassId) (dI : Nat → Nat → Nat) (cI : ClassId) (h r1 : Nat) (d1 : Nat → Nat) (r2 : Nat) (d2 : Nat → Nat) (th : Int32) (n : Nat) (F : Nat → Nat → Int32) (ct : Nat → Int32) (n2 : Nat) (G : Nat → Nat → Int32) (c2 : Nat → Int32) (sz : Nat) (va : Int32) (vb : Int32) (vr : Int32) (hn : n ≤ 12) (hR : okR n F) : Met l yX3_bout wsX3_bout ({ frames := 4, cells := 0, slots := 0, locals := 87 } : Room) (va_Pc [.ref h, .int va, .int vb, .int vr] (fun U => PW dC dI cI (wM h r1 d1 r2 d2 cI th n F ct n2 G c2) sz U)) (va_Qi (fun r (_ : Unit) => r = mo (x_bout n va vb vr) (s_gain F (cl va) (cl vb) vr) 0) (BW dC dI (va_A (wM h r1 d1 r2 d2 cI th n F ct n2 G c2) sz) (wM h r1 d1 r2 d2 cI (nI (x_bout n va vb vr)) n (mo (x_bout n va vb vr) (s_hold F (cl va) (cl vb) (cl vr)) F) (mo (x_bout n va vb vr) (s_ct ct F (cl va) (cl vb) (cl vr)) ct) n2 G c2)) (va_A (wM h r1 d1 r2 d2 cI th n F ct n2 G c2) sz)) 0 0 (va_A (wM h r1 d1 r2 d2 cI th n F ct n2 G c2) sz) := by
  refine Met.ofW (cc := cX3_bout) (maxL := 5) (ret := (some .int)) (by decide) rfl ?_
  intro p e s m args below meth c s₁ B hml hv
  obtain ⟨rfl, hsz, hP, hK, hD0, hE⟩ := hv
  have hx := B.exec
  have hb := B.bytes
  have hr := B.returns
  have hts := atoms_spec (ws := wsX3_bout) B.pre
  have hown : s.vm.findClass RX3 = some m.cls := findClass_of_methodNamed B.named
  have hlocks := B.notSynchronized
  subst hsz
  have hD := hD0.self (sz := s.heap.size)
  generalize hAe : va_A (wM h r1 d1 r2 d2 cI th n F ct n2 G c2) s.heap.size = A at hD hE ⊢
  have hA : ∀ q : Nat, s.heap.size ≤ q → A q := fun q h9 => by rw [← hAe]; exact Or.inr h9
  have hS : va_S A s.heap s.heap [] := va_S.rf
  have hinX2 : ∀ w ∈ wsX20, w ∈ wsX3_bout := by decide +kernel
  have hinX3 : ∀ w ∈ wsX30, w ∈ wsX3_bout := by decide +kernel
  have hl := lv_entry ([.ref h, .int va, .int vb, .int vr]) (n := 5) (Nat.le_of_ble_eq_true rfl)
  rw [lg_entry_eq]
  generalize (lg_sl ([.ref h, .int va, .int vb, .int vr]) ++ List.replicate (5 - (lg_sl ([.ref h, .int va, .int vb, .int vr])).length) Slot.unset).toArray = ls at hl ⊢
  have hl : lv_has ls 5 [(0, .ref h), (1, .int va), (2, .int vb), (3, .int vr)] := hl
  refine lv_aload_n hx hb dX3_bout_0 rfl (lv_at hl 0 rfl) ?_
  refine lv_iconst (v := 0) hx hb dX3_bout_1 (by decide) ?_
  refine va_put (D := (dC, dI)) (ci := 3) (v := .int 0) (ty := .int) (C := RX3) (T := TX3) (N := 3) hx hb hts hinX3 tyX3 tyX3_ok nmX3 hown hK hP hD hS 0 rfl rfl 0 (by decide) (hts (.fieldLink RX3 19 "WrestleBookModel" "thrown" "I") (by decide +kernel)) (fun _ h9 => h9) rfl (by decide +kernel) rfl rfl (Nat.le_of_ble_eq_true rfl) dX3_bout_2 (fun H locs hP hD hS => ?_)
  have hP : va_P (dC, dI) vwCl (wM h r1 d1 r2 d2 cI 0 n F ct n2 G c2) H := hP
  have hD : va_D A (wM h r1 d1 r2 d2 cI 0 n F ct n2 G c2) := hD
  refine lv_aload_n hx hb dX3_bout_5 rfl (lv_at hl 0 rfl) ?_
  refine lv_iload_n hx hb dX3_bout_6 rfl (lv_at hl 1 rfl) ?_
  refine vp_callSi (W.runV (As := [.int va]) (rest := []) ⟨hx, hb, hml, hown, hts⟩ (c_X3_isWrestler l dC dI cI h r1 d1 r2 d2 0 n F ct n2 G c2 va hn) (cwV 1 hts gX3_bout_X3_isWrestler rfl rfl rfl (by decide +kernel) ⟨Nat.le_of_ble_eq_true rfl, Nat.le_of_ble_eq_true rfl⟩) ⟨PR.blind, va_recv hK hP (ci := 3) (q0 := 0) rfl rfl, fun U hU hW => ⟨rfl, PR.go hP hK hE hS hU hW⟩⟩ rfl rfl hl.1 rfl (lv_room (Nat.le_of_ble_eq_true rfl)) dX3_bout_7 ⟨Nat.le_of_ble_eq_true rfl, Nat.le_of_ble_eq_true rfl⟩) (fun r hr0 => ?_)
  subst hr0
  refine rv_ifb_eq (tgt := 21) hx hb dX3_bout_10 (by decide) (fun c_10 => ?_) (fun c_10 => ?_)
  · refine lv_aload_n hx hb dX3_bout_21 rfl (lv_at hl 0 rfl) ?_
    refine lv_iconst (v := 1) hx hb dX3_bout_22 (by decide) ?_
    have hPc := hP.sub (ws' := (wM h r1 d1 r2 d2 cI 0 n F ct n2 G c2)) [0, 1, 2, 3, 4, 5, 6, 7, 8, 9, 10, 11, 12, 13, 14, 15, 16] rfl
    have hDc := hD.sub (ws' := (wM h r1 d1 r2 d2 cI 0 n F ct n2 G c2)) [0, 1, 2, 3, 4, 5, 6, 7, 8, 9, 10, 11, 12, 13, 14, 15, 16] (by decide) rfl
    have hFc := va_free (wc := (wM h r1 d1 r2 d2 cI 0 n F ct n2 G c2)) hD hS hA [0, 1, 2, 3, 4, 5, 6, 7, 8, 9, 10, 11, 12, 13, 14, 15, 16] rfl
    refine va_calli (va_runV (As := [.int 1]) (rest := []) ⟨hx, hb, hml, hown, hts⟩ (c_X3_no l dC dI cI h r1 d1 r2 d2 0 n F ct n2 G c2 H.size 1) (cwV 1 hts gX3_bout_X3_no rfl rfl rfl (by decide +kernel) ⟨Nat.le_of_ble_eq_true rfl, Nat.le_of_ble_eq_true rfl⟩) ⟨PW.blind, va_recv hK hP (ci := 3) (q0 := 0) rfl rfl, fun U hU hW => ⟨rfl, PW.go hPc hK hDc hE hS hFc hU hW⟩⟩ rfl rfl hl.1 rfl (lv_room (Nat.le_of_ble_eq_true rfl)) dX3_bout_23 ⟨Nat.le_of_ble_eq_true rfl, Nat.le_of_ble_eq_true rfl⟩) hS (fun q _ h9 => hFc q h9) hFc (fun r u9 t9 H1 locs ht9 hvm9 hw9 hB9 hz9 hk9 hS => ?_)
    obtain ⟨hP9, hD9⟩ := hB9
    rw [ht9] at hP9
    obtain ⟨hP, hD⟩ := va_join (wr := []) (w1 := wM h r1 d1 r2 d2 cI 1 n F ct n2 G c2) hP hD [0, 1, 2, 3, 4, 5, 6, 7, 8, 9, 10, 11, 12, 13, 14, 15, 16] [] rfl rfl (by decide) (by decide) hk9 hFc hP9 hD9
    generalize H1 = H at hP hS ⊢
    have hP : va_P (dC, dI) vwCl (wM h r1 d1 r2 d2 cI 1 n F ct n2 G c2) H := hP
    have hD : va_D A (wM h r1 d1 r2 d2 cI 1 n F ct n2 G c2) := hD
    have hw9 : r = 0 := hw9
    subst hw9
    have hcode : x_bout n va vb vr = 1 := by simp [x_bout, c_10]
    have hP8 : va_P (dC, dI) vwCl (wM h r1 d1 r2 d2 cI (nI (x_bout n va vb vr)) n (mo (x_bout n va vb vr) (s_hold F (cl va) (cl vb) (cl vr)) F) (mo (x_bout n va vb vr) (s_ct ct F (cl va) (cl vb) (cl vr)) ct) n2 G c2) H := by rw [hcode]; exact hP
    have hD8 : va_D A (wM h r1 d1 r2 d2 cI (nI (x_bout n va vb vr)) n (mo (x_bout n va vb vr) (s_hold F (cl va) (cl vb) (cl vr)) F) (mo (x_bout n va vb vr) (s_ct ct F (cl va) (cl vb) (cl vr)) ct) n2 G c2) := by rw [hcode]; exact hD
    exact W.iret (v := 0) hx hb hr (fun t ht hW => ⟨⟨_, (), rfl, (show 0 = mo (x_bout n va vb vr) (s_gain F (cl va) (cl vb) vr) 0 from by rw [hcode]; rfl), by rw [ht]; exact hP8, hD8⟩, hS.F ht⟩) hS.2.2 dX3_bout_26
  · obtain ⟨a, i_a, rfl⟩ := s_has_nat hn c_10
    have h_a := s_has_nI hn i_a
    refine lv_aload_n hx hb dX3_bout_13 rfl (lv_at hl 0 rfl) ?_
    refine lv_iload_n hx hb dX3_bout_14 rfl (lv_at hl 2 rfl) ?_
    refine vp_callSi (W.runV (As := [.int vb]) (rest := []) ⟨hx, hb, hml, hown, hts⟩ (c_X3_isWrestler l dC dI cI h r1 d1 r2 d2 0 n F ct n2 G c2 vb hn) (cwV 1 hts gX3_bout_X3_isWrestler rfl rfl rfl (by decide +kernel) ⟨Nat.le_of_ble_eq_true rfl, Nat.le_of_ble_eq_true rfl⟩) ⟨PR.blind, va_recv hK hP (ci := 3) (q0 := 0) rfl rfl, fun U hU hW => ⟨rfl, PR.go hP hK hE hS hU hW⟩⟩ rfl rfl hl.1 rfl (lv_room (Nat.le_of_ble_eq_true rfl)) dX3_bout_15 ⟨Nat.le_of_ble_eq_true rfl, Nat.le_of_ble_eq_true rfl⟩) (fun r hr0 => ?_)
    subst hr0
    refine rv_ifb_ne (tgt := 27) hx hb dX3_bout_18 (by decide) (fun c_18 => ?_) (fun c_18 => ?_)
    · obtain ⟨b, i_b, rfl⟩ := s_has_nat hn c_18
      have h_b := s_has_nI hn i_b
      refine lv_iload_n hx hb dX3_bout_27 rfl (lv_at hl 1 rfl) ?_
      refine lv_iload_n hx hb dX3_bout_28 rfl (lv_at hl 2 rfl) ?_
      refine lv_icmp_eq (tgt := 41) hx hb dX3_bout_29 (by decide) (fun c_29 => ?_) (fun c_29 => ?_)
      · refine lv_aload_n hx hb dX3_bout_41 rfl (lv_at hl 0 rfl) ?_
        refine lv_iconst (v := 2) hx hb dX3_bout_42 (by decide) ?_
        have hPc := hP.sub (ws' := (wM h r1 d1 r2 d2 cI 0 n F ct n2 G c2)) [0, 1, 2, 3, 4, 5, 6, 7, 8, 9, 10, 11, 12, 13, 14, 15, 16] rfl
        have hDc := hD.sub (ws' := (wM h r1 d1 r2 d2 cI 0 n F ct n2 G c2)) [0, 1, 2, 3, 4, 5, 6, 7, 8, 9, 10, 11, 12, 13, 14, 15, 16] (by decide) rfl
        have hFc := va_free (wc := (wM h r1 d1 r2 d2 cI 0 n F ct n2 G c2)) hD hS hA [0, 1, 2, 3, 4, 5, 6, 7, 8, 9, 10, 11, 12, 13, 14, 15, 16] rfl
        refine va_calli (va_runV (As := [.int 2]) (rest := []) ⟨hx, hb, hml, hown, hts⟩ (c_X3_no l dC dI cI h r1 d1 r2 d2 0 n F ct n2 G c2 H.size 2) (cwV 1 hts gX3_bout_X3_no rfl rfl rfl (by decide +kernel) ⟨Nat.le_of_ble_eq_true rfl, Nat.le_of_ble_eq_true rfl⟩) ⟨PW.blind, va_recv hK hP (ci := 3) (q0 := 0) rfl rfl, fun U hU hW => ⟨rfl, PW.go hPc hK hDc hE hS hFc hU hW⟩⟩ rfl rfl hl.1 rfl (lv_room (Nat.le_of_ble_eq_true rfl)) dX3_bout_43 ⟨Nat.le_of_ble_eq_true rfl, Nat.le_of_ble_eq_true rfl⟩) hS (fun q _ h9 => hFc q h9) hFc (fun r u9 t9 H1 locs ht9 hvm9 hw9 hB9 hz9 hk9 hS => ?_)
        obtain ⟨hP9, hD9⟩ := hB9
        rw [ht9] at hP9
        obtain ⟨hP, hD⟩ := va_join (wr := []) (w1 := wM h r1 d1 r2 d2 cI 2 n F ct n2 G c2) hP hD [0, 1, 2, 3, 4, 5, 6, 7, 8, 9, 10, 11, 12, 13, 14, 15, 16] [] rfl rfl (by decide) (by decide) hk9 hFc hP9 hD9
        generalize H1 = H at hP hS ⊢
        have hP : va_P (dC, dI) vwCl (wM h r1 d1 r2 d2 cI 2 n F ct n2 G c2) H := hP
        have hD : va_D A (wM h r1 d1 r2 d2 cI 2 n F ct n2 G c2) := hD
        have hw9 : r = 0 := hw9
        subst hw9
        have hcode : x_bout n (nI a) (nI b) vr = 2 := by simp [x_bout, h_a, h_b, c_29]
        have hP8 : va_P (dC, dI) vwCl (wM h r1 d1 r2 d2 cI (nI (x_bout n (nI a) (nI b) vr)) n (mo (x_bout n (nI a) (nI b) vr) (s_hold F (cl (nI a)) (cl (nI b)) (cl vr)) F) (mo (x_bout n (nI a) (nI b) vr) (s_ct ct F (cl (nI a)) (cl (nI b)) (cl vr)) ct) n2 G c2) H := by rw [hcode]; exact hP
        have hD8 : va_D A (wM h r1 d1 r2 d2 cI (nI (x_bout n (nI a) (nI b) vr)) n (mo (x_bout n (nI a) (nI b) vr) (s_hold F (cl (nI a)) (cl (nI b)) (cl vr)) F) (mo (x_bout n (nI a) (nI b) vr) (s_ct ct F (cl (nI a)) (cl (nI b)) (cl vr)) ct) n2 G c2) := by rw [hcode]; exact hD
        exact W.iret (v := 0) hx hb hr (fun t ht hW => ⟨⟨_, (), rfl, (show 0 = mo (x_bout n (nI a) (nI b) vr) (s_gain F (cl (nI a)) (cl (nI b)) vr) 0 from by rw [hcode]; rfl), by rw [ht]; exact hP8, hD8⟩, hS.F ht⟩) hS.2.2 dX3_bout_46
      · refine lv_iload_n hx hb dX3_bout_32 rfl (lv_at hl 3 rfl) ?_
        refine lv_iconst (v := 0) hx hb dX3_bout_33 (by decide) ?_
        refine lv_iconst (v := 2) hx hb dX3_bout_34 (by decide) ?_
        refine vp_callSi (W.runS (As := [.int vr, .int 0, .int 2]) (rest := []) ⟨hx, hb, hml, hown, hts⟩ (c_X3_isIn l dC dI cI vr 0 2) (va_cwS 3 hts gX3_bout_X3_isIn rfl rfl rfl (by decide +kernel) ⟨Nat.le_of_ble_eq_true rfl, Nat.le_of_ble_eq_true rfl⟩) ⟨PR.blind, fun U hU hW => ⟨rfl, PR.go (vaP_nil) hK hE hS hU hW⟩⟩ rfl rfl hl.1 rfl (lv_room (Nat.le_of_ble_eq_true rfl)) dX3_bout_35 ⟨Nat.le_of_ble_eq_true rfl, Nat.le_of_ble_eq_true rfl⟩) (fun r hr0 => ?_)
        subst hr0
        refine rv_ifb_ne (tgt := 47) hx hb dX3_bout_38 (by decide) (fun c_38 => ?_) (fun c_38 => ?_)
        · have hcr := (in_cr vr).mp c_38
          have hab : a ≠ b := fun q => c_29 (by rw [q])
          obtain ⟨q, hq, rfl⟩ := ok_cr hcr
          refine lv_aload_n hx hb dX3_bout_47 rfl (lv_at hl 0 rfl) ?_
          refine va_get (D := (dC, dI)) (ci := 3) (v := .ref r1) (C := RX3) (T := TX3) (N := 3) hx hb hts hinX3 hown hK hP 0 rfl rfl 1 (by decide) (hts (.fieldLink RX3 10 "WrestleBookModel" "s" "LWrestleBookModel$State;") (by decide +kernel)) (fun _ h9 => h9) rfl dX3_bout_48 ?_
          refine va_getN (D := (dC, dI)) (ci := 2) (v := .ref (d1 1)) (C := RX2) (T := TX2) (N := 11) (host := "WrestleBookModel") hx hb hts hinX2 hown hK hP 1 rfl rfl 4 (by decide) (va_Nw.use rfl (hE.2.2.1 (.fieldLinkNest RX3 34 "WrestleBookModel$State" "rating" "[I" "WrestleBookModel") (by decide +kernel))) (fun _ h9 => h9) rfl dX3_bout_51 ?_
          refine lv_iload_n hx hb dX3_bout_54 rfl (lv_at hl 1 rfl) ?_
          refine rv_iald (k := a) hx hb hK hP 3 0 rfl rfl (show a < 12 by omega) (by decide) dX3_bout_55 ?_
          refine lv_istore (lv' := [(4, .int (F 1 a)), (0, .ref h), (1, .int (nI a)), (2, .int (nI b)), (3, .int (nI q))]) hx hb dX3_bout_56 hl (by decide) rfl (fun ls hl => ?_)
          refine lv_aload_n hx hb dX3_bout_58 rfl (lv_at hl 1 rfl) ?_
          refine va_get (D := (dC, dI)) (ci := 3) (v := .ref r1) (C := RX3) (T := TX3) (N := 3) hx hb hts hinX3 hown hK hP 0 rfl rfl 1 (by decide) (hts (.fieldLink RX3 10 "WrestleBookModel" "s" "LWrestleBookModel$State;") (by decide +kernel)) (fun _ h9 => h9) rfl dX3_bout_59 ?_
          refine lv_iload_n hx hb dX3_bout_62 rfl (lv_at hl 2 rfl) ?_
          refine lv_iload_n hx hb dX3_bout_63 rfl (lv_at hl 3 rfl) ?_
          refine lv_sipush (v := 500) hx hb dX3_bout_64 (by decide) ?_
          refine lv_iload_n hx hb dX3_bout_67 rfl (lv_at hl 4 rfl) ?_
          refine lv_imul hx hb dX3_bout_68 ?_
          refine rv_top (y := nI (500 * q)) (pk_mul 500 q) ?_
          have hPc := hP.sub (ws' := (wS r1 d1 cI n F ct)) [1, 2, 3, 4, 5, 6, 7, 8] rfl
          have hDc := hD.sub (ws' := (wS r1 d1 cI n F ct)) [1, 2, 3, 4, 5, 6, 7, 8] (by decide) rfl
          have hFc := va_free (wc := (wS r1 d1 cI n F ct)) hD hS hA [1, 2, 3, 4, 5, 6, 7, 8] rfl
          refine va_callv (va_runV (As := [.int (nI a), .int (nI b), .int (nI (500 * q))]) (rest := []) ⟨hx, hb, hml, hown, hts⟩ (c_X2_bout l dC dI cI r1 d1 n F ct H.size a (show a < n by omega) b (show b < n by omega) q hq hn hR) (cwV 3 hts gX3_bout_X2_bout rfl rfl rfl (by decide +kernel) ⟨Nat.le_of_ble_eq_true rfl, Nat.le_of_ble_eq_true rfl⟩) ⟨PW.blind, va_recv hK hP (ci := 2) (q0 := 1) rfl rfl, fun U hU hW => ⟨rfl, PW.go hPc hK hDc hE hS hFc hU hW⟩⟩ rfl rfl hl.1 rfl (lv_room (Nat.le_of_ble_eq_true rfl)) dX3_bout_69 ⟨Nat.le_of_ble_eq_true rfl, Nat.le_of_ble_eq_true rfl⟩) hS (fun q _ h9 => hFc q h9) hFc (fun u9 t9 H1 locs ht9 hvm9 hw9 hB9 hz9 hk9 hS => ?_)
          obtain ⟨hP9, hD9⟩ := hB9
          rw [ht9] at hP9
          obtain ⟨hP, hD⟩ := va_join (wr := ([(h, .inr (3, [.int 0, .ref r1, .ref r2])), (r2, .inr (2, [.int (c2 0), .int (nI n2), .int (c2 1), .int (c2 2), .ref (d2 1), .ref (d2 0), .ref (d2 2), .ref (d2 3), .ref (d2 4), .ref (d2 5), .ref (d2 6)])), (d2 0, .inl (cI, 12, .inl (G 0))), (d2 1, .inl (cI, 12, .inl (G 1))), (d2 2, .inl (cI, 12, .inl (G 2))), (d2 3, .inl (cI, 12, .inl (G 3))), (d2 4, .inl (cI, 12, .inl (G 4))), (d2 5, .inl (cI, 12, .inl (G 5))), (d2 6, .inl (cI, 12, .inl (G 6)))] : va_W)) (w1 := wS r1 d1 cI n (s_mb F a b q) (s_ct ct F a b q)) hP hD [1, 2, 3, 4, 5, 6, 7, 8] [0, 9, 10, 11, 12, 13, 14, 15, 16] rfl rfl (by decide) (by decide) hk9 hFc hP9 hD9
          generalize H1 = H at hP hS ⊢
          have hP := hP.sub (ws' := wM h r1 d1 r2 d2 cI 0 n (s_mb F a b q) (s_ct ct F a b q) n2 G c2) [0, 9, 10, 11, 12, 13, 14, 15, 16, 1, 2, 3, 4, 5, 6, 7, 8] rfl
          have hD := hD.sub (ws' := wM h r1 d1 r2 d2 cI 0 n (s_mb F a b q) (s_ct ct F a b q) n2 G c2) [0, 9, 10, 11, 12, 13, 14, 15, 16, 1, 2, 3, 4, 5, 6, 7, 8] (by decide) rfl
          have hP : va_P (dC, dI) vwCl (wM h r1 d1 r2 d2 cI 0 n (s_mb F a b q) (s_ct ct F a b q) n2 G c2) H := hP
          have hD : va_D A (wM h r1 d1 r2 d2 cI 0 n (s_mb F a b q) (s_ct ct F a b q) n2 G c2) := hD
          refine lv_aload_n hx hb dX3_bout_72 rfl (lv_at hl 1 rfl) ?_
          refine va_get (D := (dC, dI)) (ci := 3) (v := .ref r1) (C := RX3) (T := TX3) (N := 3) hx hb hts hinX3 hown hK hP 0 rfl rfl 1 (by decide) (hts (.fieldLink RX3 10 "WrestleBookModel" "s" "LWrestleBookModel$State;") (by decide +kernel)) (fun _ h9 => h9) rfl dX3_bout_73 ?_
          refine va_getN (D := (dC, dI)) (ci := 2) (v := .ref (d1 1)) (C := RX2) (T := TX2) (N := 11) (host := "WrestleBookModel") hx hb hts hinX2 hown hK hP 1 rfl rfl 4 (by decide) (va_Nw.use rfl (hE.2.2.1 (.fieldLinkNest RX3 34 "WrestleBookModel$State" "rating" "[I" "WrestleBookModel") (by decide +kernel))) (fun _ h9 => h9) rfl dX3_bout_76 ?_
          refine lv_iload_n hx hb dX3_bout_79 rfl (lv_at hl 2 rfl) ?_
          refine rv_iald (k := a) hx hb hK hP 3 0 rfl rfl (show a < 12 by omega) (by decide) dX3_bout_80 ?_
          refine lv_iload hx hb dX3_bout_81 (lv_at hl 0 rfl) ?_
          refine lv_isub hx hb dX3_bout_83 ?_
          have hcode : x_bout n (nI a) (nI b) (nI q) = 0 := by simp [x_bout, h_a, h_b, c_29, hcr]
          have hP8 : va_P (dC, dI) vwCl (wM h r1 d1 r2 d2 cI (nI (x_bout n (nI a) (nI b) (nI q))) n (mo (x_bout n (nI a) (nI b) (nI q)) (s_hold F (cl (nI a)) (cl (nI b)) (cl (nI q))) F) (mo (x_bout n (nI a) (nI b) (nI q)) (s_ct ct F (cl (nI a)) (cl (nI b)) (cl (nI q))) ct) n2 G c2) H := by rw [hcode]; rw [cl_nI (show a < 2 ^ 31 by omega), cl_nI (show b < 2 ^ 31 by omega), cl_nI (show q < 2 ^ 31 by omega)]; rw [hold_mb F q hab]; exact hP
          have hD8 : va_D A (wM h r1 d1 r2 d2 cI (nI (x_bout n (nI a) (nI b) (nI q))) n (mo (x_bout n (nI a) (nI b) (nI q)) (s_hold F (cl (nI a)) (cl (nI b)) (cl (nI q))) F) (mo (x_bout n (nI a) (nI b) (nI q)) (s_ct ct F (cl (nI a)) (cl (nI b)) (cl (nI q))) ct) n2 G c2) := by rw [hcode]; rw [cl_nI (show a < 2 ^ 31 by omega), cl_nI (show b < 2 ^ 31 by omega), cl_nI (show q < 2 ^ 31 by omega)]; rw [hold_mb F q hab]; exact hD
          exact W.iret (v := ((s_mb F a b q) 1 a) - (F 1 a)) hx hb hr (fun t ht hW => ⟨⟨_, (), rfl, (show ((s_mb F a b q) 1 a) - (F 1 a) = mo (x_bout n (nI a) (nI b) (nI q)) (s_gain F (cl (nI a)) (cl (nI b)) (nI q)) 0 from by rw [hcode, mo_0]; rw [cl_nI (show a < 2 ^ 31 by omega), cl_nI (show b < 2 ^ 31 by omega)]; rw [mb_1a F q hab]; unfold s_gain; rw [q500]), by rw [ht]; exact hP8, hD8⟩, hS.F ht⟩) hS.2.2 dX3_bout_84
        · refine lv_aload_n hx hb dX3_bout_41 rfl (lv_at hl 0 rfl) ?_
          refine lv_iconst (v := 2) hx hb dX3_bout_42 (by decide) ?_
          have hPc := hP.sub (ws' := (wM h r1 d1 r2 d2 cI 0 n F ct n2 G c2)) [0, 1, 2, 3, 4, 5, 6, 7, 8, 9, 10, 11, 12, 13, 14, 15, 16] rfl
          have hDc := hD.sub (ws' := (wM h r1 d1 r2 d2 cI 0 n F ct n2 G c2)) [0, 1, 2, 3, 4, 5, 6, 7, 8, 9, 10, 11, 12, 13, 14, 15, 16] (by decide) rfl
          have hFc := va_free (wc := (wM h r1 d1 r2 d2 cI 0 n F ct n2 G c2)) hD hS hA [0, 1, 2, 3, 4, 5, 6, 7, 8, 9, 10, 11, 12, 13, 14, 15, 16] rfl
          refine va_calli (va_runV (As := [.int 2]) (rest := []) ⟨hx, hb, hml, hown, hts⟩ (c_X3_no l dC dI cI h r1 d1 r2 d2 0 n F ct n2 G c2 H.size 2) (cwV 1 hts gX3_bout_X3_no rfl rfl rfl (by decide +kernel) ⟨Nat.le_of_ble_eq_true rfl, Nat.le_of_ble_eq_true rfl⟩) ⟨PW.blind, va_recv hK hP (ci := 3) (q0 := 0) rfl rfl, fun U hU hW => ⟨rfl, PW.go hPc hK hDc hE hS hFc hU hW⟩⟩ rfl rfl hl.1 rfl (lv_room (Nat.le_of_ble_eq_true rfl)) dX3_bout_43 ⟨Nat.le_of_ble_eq_true rfl, Nat.le_of_ble_eq_true rfl⟩) hS (fun q _ h9 => hFc q h9) hFc (fun r u9 t9 H1 locs ht9 hvm9 hw9 hB9 hz9 hk9 hS => ?_)
          obtain ⟨hP9, hD9⟩ := hB9
          rw [ht9] at hP9
          obtain ⟨hP, hD⟩ := va_join (wr := []) (w1 := wM h r1 d1 r2 d2 cI 2 n F ct n2 G c2) hP hD [0, 1, 2, 3, 4, 5, 6, 7, 8, 9, 10, 11, 12, 13, 14, 15, 16] [] rfl rfl (by decide) (by decide) hk9 hFc hP9 hD9
          generalize H1 = H at hP hS ⊢
          have hP : va_P (dC, dI) vwCl (wM h r1 d1 r2 d2 cI 2 n F ct n2 G c2) H := hP
          have hD : va_D A (wM h r1 d1 r2 d2 cI 2 n F ct n2 G c2) := hD
          have hw9 : r = 0 := hw9
          subst hw9
          have hcode : x_bout n (nI a) (nI b) vr = 2 := by simp [x_bout, h_a, h_b, c_29, show ¬ x_cr vr = 0 from fun q => absurd ((in_cr vr).mpr q) (by rw [c_38]; decide)]
          have hP8 : va_P (dC, dI) vwCl (wM h r1 d1 r2 d2 cI (nI (x_bout n (nI a) (nI b) vr)) n (mo (x_bout n (nI a) (nI b) vr) (s_hold F (cl (nI a)) (cl (nI b)) (cl vr)) F) (mo (x_bout n (nI a) (nI b) vr) (s_ct ct F (cl (nI a)) (cl (nI b)) (cl vr)) ct) n2 G c2) H := by rw [hcode]; exact hP
          have hD8 : va_D A (wM h r1 d1 r2 d2 cI (nI (x_bout n (nI a) (nI b) vr)) n (mo (x_bout n (nI a) (nI b) vr) (s_hold F (cl (nI a)) (cl (nI b)) (cl vr)) F) (mo (x_bout n (nI a) (nI b) vr) (s_ct ct F (cl (nI a)) (cl (nI b)) (cl vr)) ct) n2 G c2) := by rw [hcode]; exact hD
          exact W.iret (v := 0) hx hb hr (fun t ht hW => ⟨⟨_, (), rfl, (show 0 = mo (x_bout n (nI a) (nI b) vr) (s_gain F (cl (nI a)) (cl (nI b)) vr) 0 from by rw [hcode]; rfl), by rw [ht]; exact hP8, hD8⟩, hS.F ht⟩) hS.2.2 dX3_bout_46
    · refine lv_aload_n hx hb dX3_bout_21 rfl (lv_at hl 0 rfl) ?_
      refine lv_iconst (v := 1) hx hb dX3_bout_22 (by decide) ?_
      have hPc := hP.sub (ws' := (wM h r1 d1 r2 d2 cI 0 n F ct n2 G c2)) [0, 1, 2, 3, 4, 5, 6, 7, 8, 9, 10, 11, 12, 13, 14, 15, 16] rfl
      have hDc := hD.sub (ws' := (wM h r1 d1 r2 d2 cI 0 n F ct n2 G c2)) [0, 1, 2, 3, 4, 5, 6, 7, 8, 9, 10, 11, 12, 13, 14, 15, 16] (by decide) rfl
      have hFc := va_free (wc := (wM h r1 d1 r2 d2 cI 0 n F ct n2 G c2)) hD hS hA [0, 1, 2, 3, 4, 5, 6, 7, 8, 9, 10, 11, 12, 13, 14, 15, 16] rfl
      refine va_calli (va_runV (As := [.int 1]) (rest := []) ⟨hx, hb, hml, hown, hts⟩ (c_X3_no l dC dI cI h r1 d1 r2 d2 0 n F ct n2 G c2 H.size 1) (cwV 1 hts gX3_bout_X3_no rfl rfl rfl (by decide +kernel) ⟨Nat.le_of_ble_eq_true rfl, Nat.le_of_ble_eq_true rfl⟩) ⟨PW.blind, va_recv hK hP (ci := 3) (q0 := 0) rfl rfl, fun U hU hW => ⟨rfl, PW.go hPc hK hDc hE hS hFc hU hW⟩⟩ rfl rfl hl.1 rfl (lv_room (Nat.le_of_ble_eq_true rfl)) dX3_bout_23 ⟨Nat.le_of_ble_eq_true rfl, Nat.le_of_ble_eq_true rfl⟩) hS (fun q _ h9 => hFc q h9) hFc (fun r u9 t9 H1 locs ht9 hvm9 hw9 hB9 hz9 hk9 hS => ?_)
      obtain ⟨hP9, hD9⟩ := hB9
      rw [ht9] at hP9
      obtain ⟨hP, hD⟩ := va_join (wr := []) (w1 := wM h r1 d1 r2 d2 cI 1 n F ct n2 G c2) hP hD [0, 1, 2, 3, 4, 5, 6, 7, 8, 9, 10, 11, 12, 13, 14, 15, 16] [] rfl rfl (by decide) (by decide) hk9 hFc hP9 hD9
      generalize H1 = H at hP hS ⊢
      have hP : va_P (dC, dI) vwCl (wM h r1 d1 r2 d2 cI 1 n F ct n2 G c2) H := hP
      have hD : va_D A (wM h r1 d1 r2 d2 cI 1 n F ct n2 G c2) := hD
      have hw9 : r = 0 := hw9
      subst hw9
      have hcode : x_bout n (nI a) vb vr = 1 := by simp [x_bout, h_a, c_18]
      have hP8 : va_P (dC, dI) vwCl (wM h r1 d1 r2 d2 cI (nI (x_bout n (nI a) vb vr)) n (mo (x_bout n (nI a) vb vr) (s_hold F (cl (nI a)) (cl vb) (cl vr)) F) (mo (x_bout n (nI a) vb vr) (s_ct ct F (cl (nI a)) (cl vb) (cl vr)) ct) n2 G c2) H := by rw [hcode]; exact hP
      have hD8 : va_D A (wM h r1 d1 r2 d2 cI (nI (x_bout n (nI a) vb vr)) n (mo (x_bout n (nI a) vb vr) (s_hold F (cl (nI a)) (cl vb) (cl vr)) F) (mo (x_bout n (nI a) vb vr) (s_ct ct F (cl (nI a)) (cl vb) (cl vr)) ct) n2 G c2) := by rw [hcode]; exact hD
      exact W.iret (v := 0) hx hb hr (fun t ht hW => ⟨⟨_, (), rfl, (show 0 = mo (x_bout n (nI a) vb vr) (s_gain F (cl (nI a)) (cl vb) vr) 0 from by rw [hcode]; rfl), by rw [ht]; exact hP8, hD8⟩, hS.F ht⟩) hS.2.2 dX3_bout_26

set_option maxHeartbeats 4000000 in
set_option maxRecDepth 100000 in
theorem c_X3_end (l : Launch) (dC : Nat → ClassId) (dI : Nat → Nat → Nat) (cI : ClassId) (h r1 : Nat) (d1 : Nat → Nat) (r2 : Nat) (d2 : Nat → Nat) (th : Int32) (n : Nat) (F : Nat → Nat → Int32) (ct : Nat → Int32) (n2 : Nat) (G : Nat → Nat → Int32) (c2 : Nat → Int32) (sz : Nat) (hn : n ≤ 12) : Met l yX3_end wsX3_end ({ frames := 4, cells := 0, slots := 0, locals := 92 } : Room) (va_Pc [.ref h] (fun U => PW dC dI cI (wM h r1 d1 r2 d2 cI th n F ct n2 G c2) sz U)) (va_Qi (fun r (_ : Unit) => r = (s_endU n (s_drift n F) 2).2) (BW dC dI (va_A (wM h r1 d1 r2 d2 cI th n F ct n2 G c2) sz) (wM h r1 d1 r2 d2 cI 0 n (s_clear n (s_endU n (s_drift n F) 2).1) (upd ct 0 (ct 0 + 1)) n2 G c2)) (va_A (wM h r1 d1 r2 d2 cI th n F ct n2 G c2) sz)) 0 0 (va_A (wM h r1 d1 r2 d2 cI th n F ct n2 G c2) sz) := by
  refine Met.ofW (cc := cX3_end) (maxL := 1) (ret := (some .int)) (by decide) rfl ?_
  intro p e s m args below meth c s₁ B hml hv
  obtain ⟨rfl, hsz, hP, hK, hD0, hE⟩ := hv
  have hx := B.exec
  have hb := B.bytes
  have hr := B.returns
  have hts := atoms_spec (ws := wsX3_end) B.pre
  have hown : s.vm.findClass RX3 = some m.cls := findClass_of_methodNamed B.named
  have hlocks := B.notSynchronized
  subst hsz
  have hD := hD0.self (sz := s.heap.size)
  generalize hAe : va_A (wM h r1 d1 r2 d2 cI th n F ct n2 G c2) s.heap.size = A at hD hE ⊢
  have hA : ∀ q : Nat, s.heap.size ≤ q → A q := fun q h9 => by rw [← hAe]; exact Or.inr h9
  have hS : va_S A s.heap s.heap [] := va_S.rf
  have hinX3 : ∀ w ∈ wsX30, w ∈ wsX3_end := by decide +kernel
  have hl := lv_entry ([.ref h]) (n := 1) (Nat.le_of_ble_eq_true rfl)
  rw [lg_entry_eq]
  generalize (lg_sl ([.ref h]) ++ List.replicate (1 - (lg_sl ([.ref h])).length) Slot.unset).toArray = ls at hl ⊢
  have hl : lv_has ls 1 [(0, .ref h)] := hl
  refine lv_aload_n hx hb dX3_end_0 rfl (lv_at hl 0 rfl) ?_
  refine lv_iconst (v := 0) hx hb dX3_end_1 (by decide) ?_
  refine va_put (D := (dC, dI)) (ci := 3) (v := .int 0) (ty := .int) (C := RX3) (T := TX3) (N := 3) hx hb hts hinX3 tyX3 tyX3_ok nmX3 hown hK hP hD hS 0 rfl rfl 0 (by decide) (hts (.fieldLink RX3 19 "WrestleBookModel" "thrown" "I") (by decide +kernel)) (fun _ h9 => h9) rfl (by decide +kernel) rfl rfl (Nat.le_of_ble_eq_true rfl) dX3_end_2 (fun H locs hP hD hS => ?_)
  have hP : va_P (dC, dI) vwCl (wM h r1 d1 r2 d2 cI 0 n F ct n2 G c2) H := hP
  have hD : va_D A (wM h r1 d1 r2 d2 cI 0 n F ct n2 G c2) := hD
  refine lv_aload_n hx hb dX3_end_5 rfl (lv_at hl 0 rfl) ?_
  refine va_get (D := (dC, dI)) (ci := 3) (v := .ref r1) (C := RX3) (T := TX3) (N := 3) hx hb hts hinX3 hown hK hP 0 rfl rfl 1 (by decide) (hts (.fieldLink RX3 10 "WrestleBookModel" "s" "LWrestleBookModel$State;") (by decide +kernel)) (fun _ h9 => h9) rfl dX3_end_6 ?_
  have hPc := hP.sub (ws' := (wS r1 d1 cI n F ct)) [1, 2, 3, 4, 5, 6, 7, 8] rfl
  have hDc := hD.sub (ws' := (wS r1 d1 cI n F ct)) [1, 2, 3, 4, 5, 6, 7, 8] (by decide) rfl
  have hFc := va_free (wc := (wS r1 d1 cI n F ct)) hD hS hA [1, 2, 3, 4, 5, 6, 7, 8] rfl
  refine va_calli (va_runV (As := []) (rest := []) ⟨hx, hb, hml, hown, hts⟩ (c_X2_end l dC dI cI r1 d1 n F ct H.size hn) (cwV 0 hts gX3_end_X2_end rfl rfl rfl (by decide +kernel) ⟨Nat.le_of_ble_eq_true rfl, Nat.le_of_ble_eq_true rfl⟩) ⟨PW.blind, va_recv hK hP (ci := 2) (q0 := 1) rfl rfl, fun U hU hW => ⟨rfl, PW.go hPc hK hDc hE hS hFc hU hW⟩⟩ rfl rfl hl.1 rfl (lv_room (Nat.le_of_ble_eq_true rfl)) dX3_end_9 ⟨Nat.le_of_ble_eq_true rfl, Nat.le_of_ble_eq_true rfl⟩) hS (fun q _ h9 => hFc q h9) hFc (fun r u9 t9 H1 locs ht9 hvm9 hw9 hB9 hz9 hk9 hS => ?_)
  obtain ⟨hP9, hD9⟩ := hB9
  rw [ht9] at hP9
  obtain ⟨hP, hD⟩ := va_join (wr := ([(h, .inr (3, [.int 0, .ref r1, .ref r2])), (r2, .inr (2, [.int (c2 0), .int (nI n2), .int (c2 1), .int (c2 2), .ref (d2 1), .ref (d2 0), .ref (d2 2), .ref (d2 3), .ref (d2 4), .ref (d2 5), .ref (d2 6)])), (d2 0, .inl (cI, 12, .inl (G 0))), (d2 1, .inl (cI, 12, .inl (G 1))), (d2 2, .inl (cI, 12, .inl (G 2))), (d2 3, .inl (cI, 12, .inl (G 3))), (d2 4, .inl (cI, 12, .inl (G 4))), (d2 5, .inl (cI, 12, .inl (G 5))), (d2 6, .inl (cI, 12, .inl (G 6)))] : va_W)) (w1 := wS r1 d1 cI n (s_clear n (s_endU n (s_drift n F) 2).1) (upd ct 0 (ct 0 + 1))) hP hD [1, 2, 3, 4, 5, 6, 7, 8] [0, 9, 10, 11, 12, 13, 14, 15, 16] rfl rfl (by decide) (by decide) hk9 hFc hP9 hD9
  generalize H1 = H at hP hS ⊢
  have hP := hP.sub (ws' := wM h r1 d1 r2 d2 cI 0 n (s_clear n (s_endU n (s_drift n F) 2).1) (upd ct 0 (ct 0 + 1)) n2 G c2) [0, 9, 10, 11, 12, 13, 14, 15, 16, 1, 2, 3, 4, 5, 6, 7, 8] rfl
  have hD := hD.sub (ws' := wM h r1 d1 r2 d2 cI 0 n (s_clear n (s_endU n (s_drift n F) 2).1) (upd ct 0 (ct 0 + 1)) n2 G c2) [0, 9, 10, 11, 12, 13, 14, 15, 16, 1, 2, 3, 4, 5, 6, 7, 8] (by decide) rfl
  have hP : va_P (dC, dI) vwCl (wM h r1 d1 r2 d2 cI 0 n (s_clear n (s_endU n (s_drift n F) 2).1) (upd ct 0 (ct 0 + 1)) n2 G c2) H := hP
  have hD : va_D A (wM h r1 d1 r2 d2 cI 0 n (s_clear n (s_endU n (s_drift n F) 2).1) (upd ct 0 (ct 0 + 1)) n2 G c2) := hD
  have hw9 : r = (s_endU n (s_drift n F) 2).2 := hw9
  subst hw9
  have hP8 : va_P (dC, dI) vwCl (wM h r1 d1 r2 d2 cI 0 n (s_clear n (s_endU n (s_drift n F) 2).1) (upd ct 0 (ct 0 + 1)) n2 G c2) H := hP
  have hD8 : va_D A (wM h r1 d1 r2 d2 cI 0 n (s_clear n (s_endU n (s_drift n F) 2).1) (upd ct 0 (ct 0 + 1)) n2 G c2) := hD
  exact W.iret (v := (s_endU n (s_drift n F) 2).2) hx hb hr (fun t ht hW => ⟨⟨_, (), rfl, (show (s_endU n (s_drift n F) 2).2 = (s_endU n (s_drift n F) 2).2 from by rfl), by rw [ht]; exact hP8, hD8⟩, hS.F ht⟩) hS.2.2 dX3_end_12

set_option maxHeartbeats 4000000 in
set_option maxRecDepth 100000 in
theorem c_X3_expected (l : Launch) (dC : Nat → ClassId) (dI : Nat → Nat → Nat) (cI : ClassId) (h r1 : Nat) (d1 : Nat → Nat) (r2 : Nat) (d2 : Nat → Nat) (th : Int32) (n : Nat) (F : Nat → Nat → Int32) (ct : Nat → Int32) (n2 : Nat) (G : Nat → Nat → Int32) (c2 : Nat → Int32) (sz : Nat) (va : Int32) (vb : Int32) (hn : n ≤ 12) (hR : okR n F) : Met l yX3_expected wsX3_expected ({ frames := 2, cells := 0, slots := 0, locals := 43 } : Room) (va_Pc [.ref h, .int va, .int vb] (fun U => PW dC dI cI (wM h r1 d1 r2 d2 cI th n F ct n2 G c2) sz U)) (va_Qi (fun r (_ : Unit) => r = mo (x_exp n va vb) (s_exp F (cl va) (cl vb)) 0) (BW dC dI (va_A (wM h r1 d1 r2 d2 cI th n F ct n2 G c2) sz) (wM h r1 d1 r2 d2 cI (nI (x_exp n va vb)) n F ct n2 G c2)) (va_A (wM h r1 d1 r2 d2 cI th n F ct n2 G c2) sz)) 0 0 (va_A (wM h r1 d1 r2 d2 cI th n F ct n2 G c2) sz) := by
  refine Met.ofW (cc := cX3_expected) (maxL := 3) (ret := (some .int)) (by decide) rfl ?_
  intro p e s m args below meth c s₁ B hml hv
  obtain ⟨rfl, hsz, hP, hK, hD0, hE⟩ := hv
  have hx := B.exec
  have hb := B.bytes
  have hr := B.returns
  have hts := atoms_spec (ws := wsX3_expected) B.pre
  have hown : s.vm.findClass RX3 = some m.cls := findClass_of_methodNamed B.named
  have hlocks := B.notSynchronized
  subst hsz
  have hD := hD0.self (sz := s.heap.size)
  generalize hAe : va_A (wM h r1 d1 r2 d2 cI th n F ct n2 G c2) s.heap.size = A at hD hE ⊢
  have hA : ∀ q : Nat, s.heap.size ≤ q → A q := fun q h9 => by rw [← hAe]; exact Or.inr h9
  have hS : va_S A s.heap s.heap [] := va_S.rf
  have hinX3 : ∀ w ∈ wsX30, w ∈ wsX3_expected := by decide +kernel
  have hl := lv_entry ([.ref h, .int va, .int vb]) (n := 3) (Nat.le_of_ble_eq_true rfl)
  rw [lg_entry_eq]
  generalize (lg_sl ([.ref h, .int va, .int vb]) ++ List.replicate (3 - (lg_sl ([.ref h, .int va, .int vb])).length) Slot.unset).toArray = ls at hl ⊢
  have hl : lv_has ls 3 [(0, .ref h), (1, .int va), (2, .int vb)] := hl
  refine lv_aload_n hx hb dX3_expected_0 rfl (lv_at hl 0 rfl) ?_
  refine lv_iconst (v := 0) hx hb dX3_expected_1 (by decide) ?_
  refine va_put (D := (dC, dI)) (ci := 3) (v := .int 0) (ty := .int) (C := RX3) (T := TX3) (N := 3) hx hb hts hinX3 tyX3 tyX3_ok nmX3 hown hK hP hD hS 0 rfl rfl 0 (by decide) (hts (.fieldLink RX3 19 "WrestleBookModel" "thrown" "I") (by decide +kernel)) (fun _ h9 => h9) rfl (by decide +kernel) rfl rfl (Nat.le_of_ble_eq_true rfl) dX3_expected_2 (fun H locs hP hD hS => ?_)
  have hP : va_P (dC, dI) vwCl (wM h r1 d1 r2 d2 cI 0 n F ct n2 G c2) H := hP
  have hD : va_D A (wM h r1 d1 r2 d2 cI 0 n F ct n2 G c2) := hD
  refine lv_aload_n hx hb dX3_expected_5 rfl (lv_at hl 0 rfl) ?_
  refine lv_iload_n hx hb dX3_expected_6 rfl (lv_at hl 1 rfl) ?_
  refine vp_callSi (W.runV (As := [.int va]) (rest := []) ⟨hx, hb, hml, hown, hts⟩ (c_X3_isWrestler l dC dI cI h r1 d1 r2 d2 0 n F ct n2 G c2 va hn) (cwV 1 hts gX3_expected_X3_isWrestler rfl rfl rfl (by decide +kernel) ⟨Nat.le_of_ble_eq_true rfl, Nat.le_of_ble_eq_true rfl⟩) ⟨PR.blind, va_recv hK hP (ci := 3) (q0 := 0) rfl rfl, fun U hU hW => ⟨rfl, PR.go hP hK hE hS hU hW⟩⟩ rfl rfl hl.1 rfl (lv_room (Nat.le_of_ble_eq_true rfl)) dX3_expected_7 ⟨Nat.le_of_ble_eq_true rfl, Nat.le_of_ble_eq_true rfl⟩) (fun r hr0 => ?_)
  subst hr0
  refine rv_ifb_eq (tgt := 33) hx hb dX3_expected_10 (by decide) (fun c_10 => ?_) (fun c_10 => ?_)
  · refine lv_aload_n hx hb dX3_expected_33 rfl (lv_at hl 0 rfl) ?_
    refine lv_iconst (v := 1) hx hb dX3_expected_34 (by decide) ?_
    have hPc := hP.sub (ws' := (wM h r1 d1 r2 d2 cI 0 n F ct n2 G c2)) [0, 1, 2, 3, 4, 5, 6, 7, 8, 9, 10, 11, 12, 13, 14, 15, 16] rfl
    have hDc := hD.sub (ws' := (wM h r1 d1 r2 d2 cI 0 n F ct n2 G c2)) [0, 1, 2, 3, 4, 5, 6, 7, 8, 9, 10, 11, 12, 13, 14, 15, 16] (by decide) rfl
    have hFc := va_free (wc := (wM h r1 d1 r2 d2 cI 0 n F ct n2 G c2)) hD hS hA [0, 1, 2, 3, 4, 5, 6, 7, 8, 9, 10, 11, 12, 13, 14, 15, 16] rfl
    refine va_calli (va_runV (As := [.int 1]) (rest := []) ⟨hx, hb, hml, hown, hts⟩ (c_X3_no l dC dI cI h r1 d1 r2 d2 0 n F ct n2 G c2 H.size 1) (cwV 1 hts gX3_expected_X3_no rfl rfl rfl (by decide +kernel) ⟨Nat.le_of_ble_eq_true rfl, Nat.le_of_ble_eq_true rfl⟩) ⟨PW.blind, va_recv hK hP (ci := 3) (q0 := 0) rfl rfl, fun U hU hW => ⟨rfl, PW.go hPc hK hDc hE hS hFc hU hW⟩⟩ rfl rfl hl.1 rfl (lv_room (Nat.le_of_ble_eq_true rfl)) dX3_expected_35 ⟨Nat.le_of_ble_eq_true rfl, Nat.le_of_ble_eq_true rfl⟩) hS (fun q _ h9 => hFc q h9) hFc (fun r u9 t9 H1 locs ht9 hvm9 hw9 hB9 hz9 hk9 hS => ?_)
    obtain ⟨hP9, hD9⟩ := hB9
    rw [ht9] at hP9
    obtain ⟨hP, hD⟩ := va_join (wr := []) (w1 := wM h r1 d1 r2 d2 cI 1 n F ct n2 G c2) hP hD [0, 1, 2, 3, 4, 5, 6, 7, 8, 9, 10, 11, 12, 13, 14, 15, 16] [] rfl rfl (by decide) (by decide) hk9 hFc hP9 hD9
    generalize H1 = H at hP hS ⊢
    have hP : va_P (dC, dI) vwCl (wM h r1 d1 r2 d2 cI 1 n F ct n2 G c2) H := hP
    have hD : va_D A (wM h r1 d1 r2 d2 cI 1 n F ct n2 G c2) := hD
    have hw9 : r = 0 := hw9
    subst hw9
    have hcode : x_exp n va vb = 1 := by simp [x_exp, c_10]
    have hP8 : va_P (dC, dI) vwCl (wM h r1 d1 r2 d2 cI (nI (x_exp n va vb)) n F ct n2 G c2) H := by rw [hcode]; exact hP
    have hD8 : va_D A (wM h r1 d1 r2 d2 cI (nI (x_exp n va vb)) n F ct n2 G c2) := by rw [hcode]; exact hD
    exact W.iret (v := 0) hx hb hr (fun t ht hW => ⟨⟨_, (), rfl, (show 0 = mo (x_exp n va vb) (s_exp F (cl va) (cl vb)) 0 from by rw [hcode]; rfl), by rw [ht]; exact hP8, hD8⟩, hS.F ht⟩) hS.2.2 dX3_expected_38
  · obtain ⟨a, i_a, rfl⟩ := s_has_nat hn c_10
    have h_a := s_has_nI hn i_a
    refine lv_aload_n hx hb dX3_expected_13 rfl (lv_at hl 0 rfl) ?_
    refine lv_iload_n hx hb dX3_expected_14 rfl (lv_at hl 2 rfl) ?_
    refine vp_callSi (W.runV (As := [.int vb]) (rest := []) ⟨hx, hb, hml, hown, hts⟩ (c_X3_isWrestler l dC dI cI h r1 d1 r2 d2 0 n F ct n2 G c2 vb hn) (cwV 1 hts gX3_expected_X3_isWrestler rfl rfl rfl (by decide +kernel) ⟨Nat.le_of_ble_eq_true rfl, Nat.le_of_ble_eq_true rfl⟩) ⟨PR.blind, va_recv hK hP (ci := 3) (q0 := 0) rfl rfl, fun U hU hW => ⟨rfl, PR.go hP hK hE hS hU hW⟩⟩ rfl rfl hl.1 rfl (lv_room (Nat.le_of_ble_eq_true rfl)) dX3_expected_15 ⟨Nat.le_of_ble_eq_true rfl, Nat.le_of_ble_eq_true rfl⟩) (fun r hr0 => ?_)
    subst hr0
    refine rv_ifb_eq (tgt := 33) hx hb dX3_expected_18 (by decide) (fun c_18 => ?_) (fun c_18 => ?_)
    · refine lv_aload_n hx hb dX3_expected_33 rfl (lv_at hl 0 rfl) ?_
      refine lv_iconst (v := 1) hx hb dX3_expected_34 (by decide) ?_
      have hPc := hP.sub (ws' := (wM h r1 d1 r2 d2 cI 0 n F ct n2 G c2)) [0, 1, 2, 3, 4, 5, 6, 7, 8, 9, 10, 11, 12, 13, 14, 15, 16] rfl
      have hDc := hD.sub (ws' := (wM h r1 d1 r2 d2 cI 0 n F ct n2 G c2)) [0, 1, 2, 3, 4, 5, 6, 7, 8, 9, 10, 11, 12, 13, 14, 15, 16] (by decide) rfl
      have hFc := va_free (wc := (wM h r1 d1 r2 d2 cI 0 n F ct n2 G c2)) hD hS hA [0, 1, 2, 3, 4, 5, 6, 7, 8, 9, 10, 11, 12, 13, 14, 15, 16] rfl
      refine va_calli (va_runV (As := [.int 1]) (rest := []) ⟨hx, hb, hml, hown, hts⟩ (c_X3_no l dC dI cI h r1 d1 r2 d2 0 n F ct n2 G c2 H.size 1) (cwV 1 hts gX3_expected_X3_no rfl rfl rfl (by decide +kernel) ⟨Nat.le_of_ble_eq_true rfl, Nat.le_of_ble_eq_true rfl⟩) ⟨PW.blind, va_recv hK hP (ci := 3) (q0 := 0) rfl rfl, fun U hU hW => ⟨rfl, PW.go hPc hK hDc hE hS hFc hU hW⟩⟩ rfl rfl hl.1 rfl (lv_room (Nat.le_of_ble_eq_true rfl)) dX3_expected_35 ⟨Nat.le_of_ble_eq_true rfl, Nat.le_of_ble_eq_true rfl⟩) hS (fun q _ h9 => hFc q h9) hFc (fun r u9 t9 H1 locs ht9 hvm9 hw9 hB9 hz9 hk9 hS => ?_)
      obtain ⟨hP9, hD9⟩ := hB9
      rw [ht9] at hP9
      obtain ⟨hP, hD⟩ := va_join (wr := []) (w1 := wM h r1 d1 r2 d2 cI 1 n F ct n2 G c2) hP hD [0, 1, 2, 3, 4, 5, 6, 7, 8, 9, 10, 11, 12, 13, 14, 15, 16] [] rfl rfl (by decide) (by decide) hk9 hFc hP9 hD9
      generalize H1 = H at hP hS ⊢
      have hP : va_P (dC, dI) vwCl (wM h r1 d1 r2 d2 cI 1 n F ct n2 G c2) H := hP
      have hD : va_D A (wM h r1 d1 r2 d2 cI 1 n F ct n2 G c2) := hD
      have hw9 : r = 0 := hw9
      subst hw9
      have hcode : x_exp n (nI a) vb = 1 := by simp [x_exp, h_a, c_18]
      have hP8 : va_P (dC, dI) vwCl (wM h r1 d1 r2 d2 cI (nI (x_exp n (nI a) vb)) n F ct n2 G c2) H := by rw [hcode]; exact hP
      have hD8 : va_D A (wM h r1 d1 r2 d2 cI (nI (x_exp n (nI a) vb)) n F ct n2 G c2) := by rw [hcode]; exact hD
      exact W.iret (v := 0) hx hb hr (fun t ht hW => ⟨⟨_, (), rfl, (show 0 = mo (x_exp n (nI a) vb) (s_exp F (cl (nI a)) (cl vb)) 0 from by rw [hcode]; rfl), by rw [ht]; exact hP8, hD8⟩, hS.F ht⟩) hS.2.2 dX3_expected_38
    · obtain ⟨b, i_b, rfl⟩ := s_has_nat hn c_18
      have h_b := s_has_nI hn i_b
      refine lv_aload_n hx hb dX3_expected_21 rfl (lv_at hl 0 rfl) ?_
      refine va_get (D := (dC, dI)) (ci := 3) (v := .ref r1) (C := RX3) (T := TX3) (N := 3) hx hb hts hinX3 hown hK hP 0 rfl rfl 1 (by decide) (hts (.fieldLink RX3 10 "WrestleBookModel" "s" "LWrestleBookModel$State;") (by decide +kernel)) (fun _ h9 => h9) rfl dX3_expected_22 ?_
      refine lv_iload_n hx hb dX3_expected_25 rfl (lv_at hl 1 rfl) ?_
      refine lv_iload_n hx hb dX3_expected_26 rfl (lv_at hl 2 rfl) ?_
      refine vp_callSi (W.runV (As := [.int (nI a), .int (nI b)]) (rest := []) ⟨hx, hb, hml, hown, hts⟩ (c_X2_expected l dC dI cI r1 d1 n F ct a (show a < n by omega) b (show b < n by omega) hn hR) (cwV 2 hts gX3_expected_X2_expected rfl rfl rfl (by decide +kernel) ⟨Nat.le_of_ble_eq_true rfl, Nat.le_of_ble_eq_true rfl⟩) ⟨PR.blind, va_recv hK hP (ci := 2) (q0 := 1) rfl rfl, fun U hU hW => ⟨rfl, PR.go (hP.sub (ws' := (wS r1 d1 cI n F ct)) [1, 2, 3, 4, 5, 6, 7, 8] rfl) hK hE hS hU hW⟩⟩ rfl rfl hl.1 rfl (lv_room (Nat.le_of_ble_eq_true rfl)) dX3_expected_27 ⟨Nat.le_of_ble_eq_true rfl, Nat.le_of_ble_eq_true rfl⟩) (fun r hr0 => ?_)
      subst hr0
      refine lv_goto (tgt := 38) hx hb dX3_expected_30 (by decide) ?_
      have hcode : x_exp n (nI a) (nI b) = 0 := by simp [x_exp, h_a, h_b]
      have hP8 : va_P (dC, dI) vwCl (wM h r1 d1 r2 d2 cI (nI (x_exp n (nI a) (nI b))) n F ct n2 G c2) H := by rw [hcode]; exact hP
      have hD8 : va_D A (wM h r1 d1 r2 d2 cI (nI (x_exp n (nI a) (nI b))) n F ct n2 G c2) := by rw [hcode]; exact hD
      exact W.iret (v := s_exp F a b) hx hb hr (fun t ht hW => ⟨⟨_, (), rfl, (show s_exp F a b = mo (x_exp n (nI a) (nI b)) (s_exp F (cl (nI a)) (cl (nI b))) 0 from by rw [hcode, mo_0]; rw [cl_nI (show a < 2 ^ 31 by omega), cl_nI (show b < 2 ^ 31 by omega)]), by rw [ht]; exact hP8, hD8⟩, hS.F ht⟩) hS.2.2 dX3_expected_38

set_option maxHeartbeats 4000000 in
set_option maxRecDepth 100000 in
theorem c_X3_told (l : Launch) (dC : Nat → ClassId) (dI : Nat → Nat → Nat) (cI : ClassId) (h r1 : Nat) (d1 : Nat → Nat) (r2 : Nat) (d2 : Nat → Nat) (th : Int32) (n : Nat) (F : Nat → Nat → Int32) (ct : Nat → Int32) (n2 : Nat) (G : Nat → Nat → Int32) (c2 : Nat → Int32) (sz : Nat) (va : Int32) (vk : Int32) (hn : n ≤ 12) : Met l yX3_told wsX3_told ({ frames := 3, cells := 0, slots := 0, locals := 67 } : Room) (va_Pc [.ref h, .int va, .int vk] (fun U => PW dC dI cI (wM h r1 d1 r2 d2 cI th n F ct n2 G c2) sz U)) (va_Qi (fun r (_ : Unit) => r = mo (x_told n va vk) (s_told n F (cl va) vk) 0) (BW dC dI (va_A (wM h r1 d1 r2 d2 cI th n F ct n2 G c2) sz) (wM h r1 d1 r2 d2 cI (nI (x_told n va vk)) n F ct n2 G c2)) (va_A (wM h r1 d1 r2 d2 cI th n F ct n2 G c2) sz)) 0 0 (va_A (wM h r1 d1 r2 d2 cI th n F ct n2 G c2) sz) := by
  refine Met.ofW (cc := cX3_told) (maxL := 3) (ret := (some .int)) (by decide) rfl ?_
  intro p e s m args below meth c s₁ B hml hv
  obtain ⟨rfl, hsz, hP, hK, hD0, hE⟩ := hv
  have hx := B.exec
  have hb := B.bytes
  have hr := B.returns
  have hts := atoms_spec (ws := wsX3_told) B.pre
  have hown : s.vm.findClass RX3 = some m.cls := findClass_of_methodNamed B.named
  have hlocks := B.notSynchronized
  subst hsz
  have hD := hD0.self (sz := s.heap.size)
  generalize hAe : va_A (wM h r1 d1 r2 d2 cI th n F ct n2 G c2) s.heap.size = A at hD hE ⊢
  have hA : ∀ q : Nat, s.heap.size ≤ q → A q := fun q h9 => by rw [← hAe]; exact Or.inr h9
  have hS : va_S A s.heap s.heap [] := va_S.rf
  have hinX3 : ∀ w ∈ wsX30, w ∈ wsX3_told := by decide +kernel
  have hl := lv_entry ([.ref h, .int va, .int vk]) (n := 3) (Nat.le_of_ble_eq_true rfl)
  rw [lg_entry_eq]
  generalize (lg_sl ([.ref h, .int va, .int vk]) ++ List.replicate (3 - (lg_sl ([.ref h, .int va, .int vk])).length) Slot.unset).toArray = ls at hl ⊢
  have hl : lv_has ls 3 [(0, .ref h), (1, .int va), (2, .int vk)] := hl
  refine lv_aload_n hx hb dX3_told_0 rfl (lv_at hl 0 rfl) ?_
  refine lv_iconst (v := 0) hx hb dX3_told_1 (by decide) ?_
  refine va_put (D := (dC, dI)) (ci := 3) (v := .int 0) (ty := .int) (C := RX3) (T := TX3) (N := 3) hx hb hts hinX3 tyX3 tyX3_ok nmX3 hown hK hP hD hS 0 rfl rfl 0 (by decide) (hts (.fieldLink RX3 19 "WrestleBookModel" "thrown" "I") (by decide +kernel)) (fun _ h9 => h9) rfl (by decide +kernel) rfl rfl (Nat.le_of_ble_eq_true rfl) dX3_told_2 (fun H locs hP hD hS => ?_)
  have hP : va_P (dC, dI) vwCl (wM h r1 d1 r2 d2 cI 0 n F ct n2 G c2) H := hP
  have hD : va_D A (wM h r1 d1 r2 d2 cI 0 n F ct n2 G c2) := hD
  refine lv_aload_n hx hb dX3_told_5 rfl (lv_at hl 0 rfl) ?_
  refine lv_iload_n hx hb dX3_told_6 rfl (lv_at hl 1 rfl) ?_
  refine vp_callSi (W.runV (As := [.int va]) (rest := []) ⟨hx, hb, hml, hown, hts⟩ (c_X3_isWrestler l dC dI cI h r1 d1 r2 d2 0 n F ct n2 G c2 va hn) (cwV 1 hts gX3_told_X3_isWrestler rfl rfl rfl (by decide +kernel) ⟨Nat.le_of_ble_eq_true rfl, Nat.le_of_ble_eq_true rfl⟩) ⟨PR.blind, va_recv hK hP (ci := 3) (q0 := 0) rfl rfl, fun U hU hW => ⟨rfl, PR.go hP hK hE hS hU hW⟩⟩ rfl rfl hl.1 rfl (lv_room (Nat.le_of_ble_eq_true rfl)) dX3_told_7 ⟨Nat.le_of_ble_eq_true rfl, Nat.le_of_ble_eq_true rfl⟩) (fun r hr0 => ?_)
  subst hr0
  refine rv_ifb_eq (tgt := 32) hx hb dX3_told_10 (by decide) (fun c_10 => ?_) (fun c_10 => ?_)
  · refine lv_aload_n hx hb dX3_told_32 rfl (lv_at hl 0 rfl) ?_
    refine lv_iconst (v := 1) hx hb dX3_told_33 (by decide) ?_
    have hPc := hP.sub (ws' := (wM h r1 d1 r2 d2 cI 0 n F ct n2 G c2)) [0, 1, 2, 3, 4, 5, 6, 7, 8, 9, 10, 11, 12, 13, 14, 15, 16] rfl
    have hDc := hD.sub (ws' := (wM h r1 d1 r2 d2 cI 0 n F ct n2 G c2)) [0, 1, 2, 3, 4, 5, 6, 7, 8, 9, 10, 11, 12, 13, 14, 15, 16] (by decide) rfl
    have hFc := va_free (wc := (wM h r1 d1 r2 d2 cI 0 n F ct n2 G c2)) hD hS hA [0, 1, 2, 3, 4, 5, 6, 7, 8, 9, 10, 11, 12, 13, 14, 15, 16] rfl
    refine va_calli (va_runV (As := [.int 1]) (rest := []) ⟨hx, hb, hml, hown, hts⟩ (c_X3_no l dC dI cI h r1 d1 r2 d2 0 n F ct n2 G c2 H.size 1) (cwV 1 hts gX3_told_X3_no rfl rfl rfl (by decide +kernel) ⟨Nat.le_of_ble_eq_true rfl, Nat.le_of_ble_eq_true rfl⟩) ⟨PW.blind, va_recv hK hP (ci := 3) (q0 := 0) rfl rfl, fun U hU hW => ⟨rfl, PW.go hPc hK hDc hE hS hFc hU hW⟩⟩ rfl rfl hl.1 rfl (lv_room (Nat.le_of_ble_eq_true rfl)) dX3_told_34 ⟨Nat.le_of_ble_eq_true rfl, Nat.le_of_ble_eq_true rfl⟩) hS (fun q _ h9 => hFc q h9) hFc (fun r u9 t9 H1 locs ht9 hvm9 hw9 hB9 hz9 hk9 hS => ?_)
    obtain ⟨hP9, hD9⟩ := hB9
    rw [ht9] at hP9
    obtain ⟨hP, hD⟩ := va_join (wr := []) (w1 := wM h r1 d1 r2 d2 cI 1 n F ct n2 G c2) hP hD [0, 1, 2, 3, 4, 5, 6, 7, 8, 9, 10, 11, 12, 13, 14, 15, 16] [] rfl rfl (by decide) (by decide) hk9 hFc hP9 hD9
    generalize H1 = H at hP hS ⊢
    have hP : va_P (dC, dI) vwCl (wM h r1 d1 r2 d2 cI 1 n F ct n2 G c2) H := hP
    have hD : va_D A (wM h r1 d1 r2 d2 cI 1 n F ct n2 G c2) := hD
    have hw9 : r = 0 := hw9
    subst hw9
    have hcode : x_told n va vk = 1 := by simp [x_told, c_10]
    have hP8 : va_P (dC, dI) vwCl (wM h r1 d1 r2 d2 cI (nI (x_told n va vk)) n F ct n2 G c2) H := by rw [hcode]; exact hP
    have hD8 : va_D A (wM h r1 d1 r2 d2 cI (nI (x_told n va vk)) n F ct n2 G c2) := by rw [hcode]; exact hD
    exact W.iret (v := 0) hx hb hr (fun t ht hW => ⟨⟨_, (), rfl, (show 0 = mo (x_told n va vk) (s_told n F (cl va) vk) 0 from by rw [hcode]; rfl), by rw [ht]; exact hP8, hD8⟩, hS.F ht⟩) hS.2.2 dX3_told_37
  · obtain ⟨a, i_a, rfl⟩ := s_has_nat hn c_10
    have h_a := s_has_nI hn i_a
    refine lv_iload_n hx hb dX3_told_13 rfl (lv_at hl 2 rfl) ?_
    refine lv_iconst (v := 0) hx hb dX3_told_14 (by decide) ?_
    refine lv_bipush (v := 8) hx hb dX3_told_15 (by decide) ?_
    refine vp_callSi (W.runS (As := [.int vk, .int 0, .int 8]) (rest := []) ⟨hx, hb, hml, hown, hts⟩ (c_X3_isIn l dC dI cI vk 0 8) (va_cwS 3 hts gX3_told_X3_isIn rfl rfl rfl (by decide +kernel) ⟨Nat.le_of_ble_eq_true rfl, Nat.le_of_ble_eq_true rfl⟩) ⟨PR.blind, fun U hU hW => ⟨rfl, PR.go (vaP_nil) hK hE hS hU hW⟩⟩ rfl rfl hl.1 rfl (lv_room (Nat.le_of_ble_eq_true rfl)) dX3_told_17 ⟨Nat.le_of_ble_eq_true rfl, Nat.le_of_ble_eq_true rfl⟩) (fun r hr0 => ?_)
    subst hr0
    refine rv_top (y := bI (s_08 vk)) (by rw [in_08]) ?_
    refine rv_ifb_eq (tgt := 32) hx hb dX3_told_20 (by decide) (fun c_20 => ?_) (fun c_20 => ?_)
    · refine lv_aload_n hx hb dX3_told_32 rfl (lv_at hl 0 rfl) ?_
      refine lv_iconst (v := 1) hx hb dX3_told_33 (by decide) ?_
      have hPc := hP.sub (ws' := (wM h r1 d1 r2 d2 cI 0 n F ct n2 G c2)) [0, 1, 2, 3, 4, 5, 6, 7, 8, 9, 10, 11, 12, 13, 14, 15, 16] rfl
      have hDc := hD.sub (ws' := (wM h r1 d1 r2 d2 cI 0 n F ct n2 G c2)) [0, 1, 2, 3, 4, 5, 6, 7, 8, 9, 10, 11, 12, 13, 14, 15, 16] (by decide) rfl
      have hFc := va_free (wc := (wM h r1 d1 r2 d2 cI 0 n F ct n2 G c2)) hD hS hA [0, 1, 2, 3, 4, 5, 6, 7, 8, 9, 10, 11, 12, 13, 14, 15, 16] rfl
      refine va_calli (va_runV (As := [.int 1]) (rest := []) ⟨hx, hb, hml, hown, hts⟩ (c_X3_no l dC dI cI h r1 d1 r2 d2 0 n F ct n2 G c2 H.size 1) (cwV 1 hts gX3_told_X3_no rfl rfl rfl (by decide +kernel) ⟨Nat.le_of_ble_eq_true rfl, Nat.le_of_ble_eq_true rfl⟩) ⟨PW.blind, va_recv hK hP (ci := 3) (q0 := 0) rfl rfl, fun U hU hW => ⟨rfl, PW.go hPc hK hDc hE hS hFc hU hW⟩⟩ rfl rfl hl.1 rfl (lv_room (Nat.le_of_ble_eq_true rfl)) dX3_told_34 ⟨Nat.le_of_ble_eq_true rfl, Nat.le_of_ble_eq_true rfl⟩) hS (fun q _ h9 => hFc q h9) hFc (fun r u9 t9 H1 locs ht9 hvm9 hw9 hB9 hz9 hk9 hS => ?_)
      obtain ⟨hP9, hD9⟩ := hB9
      rw [ht9] at hP9
      obtain ⟨hP, hD⟩ := va_join (wr := []) (w1 := wM h r1 d1 r2 d2 cI 1 n F ct n2 G c2) hP hD [0, 1, 2, 3, 4, 5, 6, 7, 8, 9, 10, 11, 12, 13, 14, 15, 16] [] rfl rfl (by decide) (by decide) hk9 hFc hP9 hD9
      generalize H1 = H at hP hS ⊢
      have hP : va_P (dC, dI) vwCl (wM h r1 d1 r2 d2 cI 1 n F ct n2 G c2) H := hP
      have hD : va_D A (wM h r1 d1 r2 d2 cI 1 n F ct n2 G c2) := hD
      have hw9 : r = 0 := hw9
      subst hw9
      have hcode : x_told n (nI a) vk = 1 := by simp [x_told, h_a, c_20]
      have hP8 : va_P (dC, dI) vwCl (wM h r1 d1 r2 d2 cI (nI (x_told n (nI a) vk)) n F ct n2 G c2) H := by rw [hcode]; exact hP
      have hD8 : va_D A (wM h r1 d1 r2 d2 cI (nI (x_told n (nI a) vk)) n F ct n2 G c2) := by rw [hcode]; exact hD
      exact W.iret (v := 0) hx hb hr (fun t ht hW => ⟨⟨_, (), rfl, (show 0 = mo (x_told n (nI a) vk) (s_told n F (cl (nI a)) vk) 0 from by rw [hcode]; rfl), by rw [ht]; exact hP8, hD8⟩, hS.F ht⟩) hS.2.2 dX3_told_37
    · have h8 := c_20
      obtain ⟨k, hk, rfl⟩ := ok_08 c_20
      refine lv_aload_n hx hb dX3_told_23 rfl (lv_at hl 0 rfl) ?_
      refine lv_iload_n hx hb dX3_told_24 rfl (lv_at hl 1 rfl) ?_
      refine lv_iload_n hx hb dX3_told_25 rfl (lv_at hl 2 rfl) ?_
      refine vp_callSi (W.runV (As := [.int (nI a), .int (nI k)]) (rest := []) ⟨hx, hb, hml, hown, hts⟩ (c_X3_wrestlerTold l dC dI cI h r1 d1 r2 d2 0 n F ct n2 G c2 a (show a < n by omega) k hk hn) (cwV 2 hts gX3_told_X3_wrestlerTold rfl rfl rfl (by decide +kernel) ⟨Nat.le_of_ble_eq_true rfl, Nat.le_of_ble_eq_true rfl⟩) ⟨PR.blind, va_recv hK hP (ci := 3) (q0 := 0) rfl rfl, fun U hU hW => ⟨rfl, PR.go hP hK hE hS hU hW⟩⟩ rfl rfl hl.1 rfl (lv_room (Nat.le_of_ble_eq_true rfl)) dX3_told_26 ⟨Nat.le_of_ble_eq_true rfl, Nat.le_of_ble_eq_true rfl⟩) (fun r hr0 => ?_)
      subst hr0
      refine lv_goto (tgt := 37) hx hb dX3_told_29 (by decide) ?_
      have hcode : x_told n (nI a) (nI k) = 0 := by simp [x_told, h_a, h8]
      have hP8 : va_P (dC, dI) vwCl (wM h r1 d1 r2 d2 cI (nI (x_told n (nI a) (nI k))) n F ct n2 G c2) H := by rw [hcode]; exact hP
      have hD8 : va_D A (wM h r1 d1 r2 d2 cI (nI (x_told n (nI a) (nI k))) n F ct n2 G c2) := by rw [hcode]; exact hD
      exact W.iret (v := s_told n F a (nI k)) hx hb hr (fun t ht hW => ⟨⟨_, (), rfl, (show s_told n F a (nI k) = mo (x_told n (nI a) (nI k)) (s_told n F (cl (nI a)) (nI k)) 0 from by rw [hcode, mo_0]; rw [cl_nI (show a < 2 ^ 31 by omega)]), by rw [ht]; exact hP8, hD8⟩, hS.F ht⟩) hS.2.2 dX3_told_37

set_option maxHeartbeats 4000000 in
set_option maxRecDepth 100000 in
theorem c_X3_at (l : Launch) (dC : Nat → ClassId) (dI : Nat → Nat → Nat) (cI : ClassId) (h r1 : Nat) (d1 : Nat → Nat) (r2 : Nat) (d2 : Nat → Nat) (th : Int32) (n : Nat) (F : Nat → Nat → Int32) (ct : Nat → Int32) (n2 : Nat) (G : Nat → Nat → Int32) (c2 : Nat → Int32) (sz : Nat) (vg : Int32) (vq : Int32) (hn : n ≤ 12) : Met l yX3_at wsX3_at ({ frames := 3, cells := 0, slots := 0, locals := 68 } : Room) (va_Pc [.ref h, .int vg, .int vq] (fun U => PW dC dI cI (wM h r1 d1 r2 d2 cI th n F ct n2 G c2) sz U)) (va_Qi (fun r (_ : Unit) => r = mo (x_at n F vg vq) (oI (s_at n F vg vq)) 0) (BW dC dI (va_A (wM h r1 d1 r2 d2 cI th n F ct n2 G c2) sz) (wM h r1 d1 r2 d2 cI (nI (x_at n F vg vq)) n F ct n2 G c2)) (va_A (wM h r1 d1 r2 d2 cI th n F ct n2 G c2) sz)) 0 0 (va_A (wM h r1 d1 r2 d2 cI th n F ct n2 G c2) sz) := by
  refine Met.ofW (cc := cX3_at) (maxL := 3) (ret := (some .int)) (by decide) rfl ?_
  intro p e s m args below meth c s₁ B hml hv
  obtain ⟨rfl, hsz, hP, hK, hD0, hE⟩ := hv
  have hx := B.exec
  have hb := B.bytes
  have hr := B.returns
  have hts := atoms_spec (ws := wsX3_at) B.pre
  have hown : s.vm.findClass RX3 = some m.cls := findClass_of_methodNamed B.named
  have hlocks := B.notSynchronized
  subst hsz
  have hD := hD0.self (sz := s.heap.size)
  generalize hAe : va_A (wM h r1 d1 r2 d2 cI th n F ct n2 G c2) s.heap.size = A at hD hE ⊢
  have hA : ∀ q : Nat, s.heap.size ≤ q → A q := fun q h9 => by rw [← hAe]; exact Or.inr h9
  have hS : va_S A s.heap s.heap [] := va_S.rf
  have hinX3 : ∀ w ∈ wsX30, w ∈ wsX3_at := by decide +kernel
  have hl := lv_entry ([.ref h, .int vg, .int vq]) (n := 3) (Nat.le_of_ble_eq_true rfl)
  rw [lg_entry_eq]
  generalize (lg_sl ([.ref h, .int vg, .int vq]) ++ List.replicate (3 - (lg_sl ([.ref h, .int vg, .int vq])).length) Slot.unset).toArray = ls at hl ⊢
  have hl : lv_has ls 3 [(0, .ref h), (1, .int vg), (2, .int vq)] := hl
  refine lv_aload_n hx hb dX3_at_0 rfl (lv_at hl 0 rfl) ?_
  refine lv_iconst (v := 0) hx hb dX3_at_1 (by decide) ?_
  refine va_put (D := (dC, dI)) (ci := 3) (v := .int 0) (ty := .int) (C := RX3) (T := TX3) (N := 3) hx hb hts hinX3 tyX3 tyX3_ok nmX3 hown hK hP hD hS 0 rfl rfl 0 (by decide) (hts (.fieldLink RX3 19 "WrestleBookModel" "thrown" "I") (by decide +kernel)) (fun _ h9 => h9) rfl (by decide +kernel) rfl rfl (Nat.le_of_ble_eq_true rfl) dX3_at_2 (fun H locs hP hD hS => ?_)
  have hP : va_P (dC, dI) vwCl (wM h r1 d1 r2 d2 cI 0 n F ct n2 G c2) H := hP
  have hD : va_D A (wM h r1 d1 r2 d2 cI 0 n F ct n2 G c2) := hD
  refine lv_iload_n hx hb dX3_at_5 rfl (lv_at hl 1 rfl) ?_
  refine lv_iconst (v := 0) hx hb dX3_at_6 (by decide) ?_
  refine lv_iconst (v := 2) hx hb dX3_at_7 (by decide) ?_
  refine vp_callSi (W.runS (As := [.int vg, .int 0, .int 2]) (rest := []) ⟨hx, hb, hml, hown, hts⟩ (c_X3_isIn l dC dI cI vg 0 2) (va_cwS 3 hts gX3_at_X3_isIn rfl rfl rfl (by decide +kernel) ⟨Nat.le_of_ble_eq_true rfl, Nat.le_of_ble_eq_true rfl⟩) ⟨PR.blind, fun U hU hW => ⟨rfl, PR.go (vaP_nil) hK hE hS hU hW⟩⟩ rfl rfl hl.1 rfl (lv_room (Nat.le_of_ble_eq_true rfl)) dX3_at_8 ⟨Nat.le_of_ble_eq_true rfl, Nat.le_of_ble_eq_true rfl⟩) (fun r hr0 => ?_)
  subst hr0
  refine rv_top (y := bI (s_lg vg)) (by rw [in_lg]) ?_
  refine rv_ifb_eq (tgt := 42) hx hb dX3_at_11 (by decide) (fun c_11 => ?_) (fun c_11 => ?_)
  · refine lv_aload_n hx hb dX3_at_42 rfl (lv_at hl 0 rfl) ?_
    refine lv_iconst (v := 1) hx hb dX3_at_43 (by decide) ?_
    have hPc := hP.sub (ws' := (wM h r1 d1 r2 d2 cI 0 n F ct n2 G c2)) [0, 1, 2, 3, 4, 5, 6, 7, 8, 9, 10, 11, 12, 13, 14, 15, 16] rfl
    have hDc := hD.sub (ws' := (wM h r1 d1 r2 d2 cI 0 n F ct n2 G c2)) [0, 1, 2, 3, 4, 5, 6, 7, 8, 9, 10, 11, 12, 13, 14, 15, 16] (by decide) rfl
    have hFc := va_free (wc := (wM h r1 d1 r2 d2 cI 0 n F ct n2 G c2)) hD hS hA [0, 1, 2, 3, 4, 5, 6, 7, 8, 9, 10, 11, 12, 13, 14, 15, 16] rfl
    refine va_calli (va_runV (As := [.int 1]) (rest := []) ⟨hx, hb, hml, hown, hts⟩ (c_X3_no l dC dI cI h r1 d1 r2 d2 0 n F ct n2 G c2 H.size 1) (cwV 1 hts gX3_at_X3_no rfl rfl rfl (by decide +kernel) ⟨Nat.le_of_ble_eq_true rfl, Nat.le_of_ble_eq_true rfl⟩) ⟨PW.blind, va_recv hK hP (ci := 3) (q0 := 0) rfl rfl, fun U hU hW => ⟨rfl, PW.go hPc hK hDc hE hS hFc hU hW⟩⟩ rfl rfl hl.1 rfl (lv_room (Nat.le_of_ble_eq_true rfl)) dX3_at_44 ⟨Nat.le_of_ble_eq_true rfl, Nat.le_of_ble_eq_true rfl⟩) hS (fun q _ h9 => hFc q h9) hFc (fun r u9 t9 H1 locs ht9 hvm9 hw9 hB9 hz9 hk9 hS => ?_)
    obtain ⟨hP9, hD9⟩ := hB9
    rw [ht9] at hP9
    obtain ⟨hP, hD⟩ := va_join (wr := []) (w1 := wM h r1 d1 r2 d2 cI 1 n F ct n2 G c2) hP hD [0, 1, 2, 3, 4, 5, 6, 7, 8, 9, 10, 11, 12, 13, 14, 15, 16] [] rfl rfl (by decide) (by decide) hk9 hFc hP9 hD9
    generalize H1 = H at hP hS ⊢
    have hP : va_P (dC, dI) vwCl (wM h r1 d1 r2 d2 cI 1 n F ct n2 G c2) H := hP
    have hD : va_D A (wM h r1 d1 r2 d2 cI 1 n F ct n2 G c2) := hD
    have hw9 : r = 0 := hw9
    subst hw9
    have hcode : x_at n F vg vq = 1 := by simp [x_at, c_11]
    have hP8 : va_P (dC, dI) vwCl (wM h r1 d1 r2 d2 cI (nI (x_at n F vg vq)) n F ct n2 G c2) H := by rw [hcode]; exact hP
    have hD8 : va_D A (wM h r1 d1 r2 d2 cI (nI (x_at n F vg vq)) n F ct n2 G c2) := by rw [hcode]; exact hD
    exact W.iret (v := 0) hx hb hr (fun t ht hW => ⟨⟨_, (), rfl, (show 0 = mo (x_at n F vg vq) (oI (s_at n F vg vq)) 0 from by rw [hcode]; rfl), by rw [ht]; exact hP8, hD8⟩, hS.F ht⟩) hS.2.2 dX3_at_47
  · refine lv_iload_n hx hb dX3_at_14 rfl (lv_at hl 2 rfl) ?_
    refine lv_iconst (v := 1) hx hb dX3_at_15 (by decide) ?_
    refine lv_aload_n hx hb dX3_at_16 rfl (lv_at hl 0 rfl) ?_
    refine va_get (D := (dC, dI)) (ci := 3) (v := .ref r1) (C := RX3) (T := TX3) (N := 3) hx hb hts hinX3 hown hK hP 0 rfl rfl 1 (by decide) (hts (.fieldLink RX3 10 "WrestleBookModel" "s" "LWrestleBookModel$State;") (by decide +kernel)) (fun _ h9 => h9) rfl dX3_at_17 ?_
    refine lv_iload_n hx hb dX3_at_20 rfl (lv_at hl 1 rfl) ?_
    refine vp_callSi (W.runV (As := [.int vg]) (rest := [.int 1, .int vq]) ⟨hx, hb, hml, hown, hts⟩ (c_X2_many l dC dI cI r1 d1 n F ct vg hn) (cwV 1 hts gX3_at_X2_many rfl rfl rfl (by decide +kernel) ⟨Nat.le_of_ble_eq_true rfl, Nat.le_of_ble_eq_true rfl⟩) ⟨PR.blind, va_recv hK hP (ci := 2) (q0 := 1) rfl rfl, fun U hU hW => ⟨rfl, PR.go (hP.sub (ws' := (wS r1 d1 cI n F ct)) [1, 2, 3, 4, 5, 6, 7, 8] rfl) hK hE hS hU hW⟩⟩ rfl rfl hl.1 rfl (lv_room (Nat.le_of_ble_eq_true rfl)) dX3_at_21 ⟨Nat.le_of_ble_eq_true rfl, Nat.le_of_ble_eq_true rfl⟩) (fun r hr0 => ?_)
    subst hr0
    refine vp_callSi (W.runS (As := [.int vq, .int 1, .int (nI (s_many n F vg))]) (rest := []) ⟨hx, hb, hml, hown, hts⟩ (c_X3_isIn l dC dI cI vq 1 (nI (s_many n F vg))) (va_cwS 3 hts gX3_at_X3_isIn rfl rfl rfl (by decide +kernel) ⟨Nat.le_of_ble_eq_true rfl, Nat.le_of_ble_eq_true rfl⟩) ⟨PR.blind, fun U hU hW => ⟨rfl, PR.go (vaP_nil) hK hE hS hU hW⟩⟩ rfl rfl hl.1 rfl (lv_room (Nat.le_of_ble_eq_true rfl)) dX3_at_24 ⟨Nat.le_of_ble_eq_true rfl, Nat.le_of_ble_eq_true rfl⟩) (fun r hr0 => ?_)
    subst hr0
    refine rv_ifb_eq (tgt := 42) hx hb dX3_at_27 (by decide) (fun c_27 => ?_) (fun c_27 => ?_)
    · refine lv_aload_n hx hb dX3_at_42 rfl (lv_at hl 0 rfl) ?_
      refine lv_iconst (v := 1) hx hb dX3_at_43 (by decide) ?_
      have hPc := hP.sub (ws' := (wM h r1 d1 r2 d2 cI 0 n F ct n2 G c2)) [0, 1, 2, 3, 4, 5, 6, 7, 8, 9, 10, 11, 12, 13, 14, 15, 16] rfl
      have hDc := hD.sub (ws' := (wM h r1 d1 r2 d2 cI 0 n F ct n2 G c2)) [0, 1, 2, 3, 4, 5, 6, 7, 8, 9, 10, 11, 12, 13, 14, 15, 16] (by decide) rfl
      have hFc := va_free (wc := (wM h r1 d1 r2 d2 cI 0 n F ct n2 G c2)) hD hS hA [0, 1, 2, 3, 4, 5, 6, 7, 8, 9, 10, 11, 12, 13, 14, 15, 16] rfl
      refine va_calli (va_runV (As := [.int 1]) (rest := []) ⟨hx, hb, hml, hown, hts⟩ (c_X3_no l dC dI cI h r1 d1 r2 d2 0 n F ct n2 G c2 H.size 1) (cwV 1 hts gX3_at_X3_no rfl rfl rfl (by decide +kernel) ⟨Nat.le_of_ble_eq_true rfl, Nat.le_of_ble_eq_true rfl⟩) ⟨PW.blind, va_recv hK hP (ci := 3) (q0 := 0) rfl rfl, fun U hU hW => ⟨rfl, PW.go hPc hK hDc hE hS hFc hU hW⟩⟩ rfl rfl hl.1 rfl (lv_room (Nat.le_of_ble_eq_true rfl)) dX3_at_44 ⟨Nat.le_of_ble_eq_true rfl, Nat.le_of_ble_eq_true rfl⟩) hS (fun q _ h9 => hFc q h9) hFc (fun r u9 t9 H1 locs ht9 hvm9 hw9 hB9 hz9 hk9 hS => ?_)
      obtain ⟨hP9, hD9⟩ := hB9
      rw [ht9] at hP9
      obtain ⟨hP, hD⟩ := va_join (wr := []) (w1 := wM h r1 d1 r2 d2 cI 1 n F ct n2 G c2) hP hD [0, 1, 2, 3, 4, 5, 6, 7, 8, 9, 10, 11, 12, 13, 14, 15, 16] [] rfl rfl (by decide) (by decide) hk9 hFc hP9 hD9
      generalize H1 = H at hP hS ⊢
      have hP : va_P (dC, dI) vwCl (wM h r1 d1 r2 d2 cI 1 n F ct n2 G c2) H := hP
      have hD : va_D A (wM h r1 d1 r2 d2 cI 1 n F ct n2 G c2) := hD
      have hw9 : r = 0 := hw9
      subst hw9
      have hcode : x_at n F vg vq = 1 := by simp [x_at, c_11, at_out hn c_27]
      have hP8 : va_P (dC, dI) vwCl (wM h r1 d1 r2 d2 cI (nI (x_at n F vg vq)) n F ct n2 G c2) H := by rw [hcode]; exact hP
      have hD8 : va_D A (wM h r1 d1 r2 d2 cI (nI (x_at n F vg vq)) n F ct n2 G c2) := by rw [hcode]; exact hD
      exact W.iret (v := 0) hx hb hr (fun t ht hW => ⟨⟨_, (), rfl, (show 0 = mo (x_at n F vg vq) (oI (s_at n F vg vq)) 0 from by rw [hcode]; rfl), by rw [ht]; exact hP8, hD8⟩, hS.F ht⟩) hS.2.2 dX3_at_47
    · refine lv_aload_n hx hb dX3_at_30 rfl (lv_at hl 0 rfl) ?_
      refine va_get (D := (dC, dI)) (ci := 3) (v := .ref r1) (C := RX3) (T := TX3) (N := 3) hx hb hts hinX3 hown hK hP 0 rfl rfl 1 (by decide) (hts (.fieldLink RX3 10 "WrestleBookModel" "s" "LWrestleBookModel$State;") (by decide +kernel)) (fun _ h9 => h9) rfl dX3_at_31 ?_
      refine lv_iload_n hx hb dX3_at_34 rfl (lv_at hl 1 rfl) ?_
      refine lv_iload_n hx hb dX3_at_35 rfl (lv_at hl 2 rfl) ?_
      refine vp_callSi (W.runV (As := [.int vg, .int vq]) (rest := []) ⟨hx, hb, hml, hown, hts⟩ (c_X2_at l dC dI cI r1 d1 n F ct vg vq hn) (cwV 2 hts gX3_at_X2_at rfl rfl rfl (by decide +kernel) ⟨Nat.le_of_ble_eq_true rfl, Nat.le_of_ble_eq_true rfl⟩) ⟨PR.blind, va_recv hK hP (ci := 2) (q0 := 1) rfl rfl, fun U hU hW => ⟨rfl, PR.go (hP.sub (ws' := (wS r1 d1 cI n F ct)) [1, 2, 3, 4, 5, 6, 7, 8] rfl) hK hE hS hU hW⟩⟩ rfl rfl hl.1 rfl (lv_room (Nat.le_of_ble_eq_true rfl)) dX3_at_36 ⟨Nat.le_of_ble_eq_true rfl, Nat.le_of_ble_eq_true rfl⟩) (fun r hr0 => ?_)
      subst hr0
      refine lv_goto (tgt := 47) hx hb dX3_at_39 (by decide) ?_
      have hcode : x_at n F vg vq = 0 := by obtain ⟨k, hk⟩ := at_in hn c_27; simp [x_at, c_11, hk]
      have hP8 : va_P (dC, dI) vwCl (wM h r1 d1 r2 d2 cI (nI (x_at n F vg vq)) n F ct n2 G c2) H := by rw [hcode]; exact hP
      have hD8 : va_D A (wM h r1 d1 r2 d2 cI (nI (x_at n F vg vq)) n F ct n2 G c2) := by rw [hcode]; exact hD
      exact W.iret (v := oI (s_at n F vg vq)) hx hb hr (fun t ht hW => ⟨⟨_, (), rfl, (show oI (s_at n F vg vq) = mo (x_at n F vg vq) (oI (s_at n F vg vq)) 0 from by rw [hcode, mo_0]), by rw [ht]; exact hP8, hD8⟩, hS.F ht⟩) hS.2.2 dX3_at_47

set_option maxHeartbeats 4000000 in
set_option maxRecDepth 100000 in
theorem c_X3_count (l : Launch) (dC : Nat → ClassId) (dI : Nat → Nat → Nat) (cI : ClassId) (h r1 : Nat) (d1 : Nat → Nat) (r2 : Nat) (d2 : Nat → Nat) (th : Int32) (n : Nat) (F : Nat → Nat → Int32) (ct : Nat → Int32) (n2 : Nat) (G : Nat → Nat → Int32) (c2 : Nat → Int32) (sz : Nat) (vk : Int32) (hn : n ≤ 12) (hR : okR n F) : Met l yX3_count wsX3_count ({ frames := 4, cells := 0, slots := 0, locals := 78 } : Room) (va_Pc [.ref h, .int vk] (fun U => PW dC dI cI (wM h r1 d1 r2 d2 cI th n F ct n2 G c2) sz U)) (va_Qi (fun r (_ : Unit) => r = mo (x_cnt vk) (s_cnt n F ct vk) 0) (BW dC dI (va_A (wM h r1 d1 r2 d2 cI th n F ct n2 G c2) sz) (wM h r1 d1 r2 d2 cI (nI (x_cnt vk)) n F ct n2 G c2)) (va_A (wM h r1 d1 r2 d2 cI th n F ct n2 G c2) sz)) 0 0 (va_A (wM h r1 d1 r2 d2 cI th n F ct n2 G c2) sz) := by
  refine Met.ofW (cc := cX3_count) (maxL := 2) (ret := (some .int)) (by decide) rfl ?_
  intro p e s m args below meth c s₁ B hml hv
  obtain ⟨rfl, hsz, hP, hK, hD0, hE⟩ := hv
  have hx := B.exec
  have hb := B.bytes
  have hr := B.returns
  have hts := atoms_spec (ws := wsX3_count) B.pre
  have hown : s.vm.findClass RX3 = some m.cls := findClass_of_methodNamed B.named
  have hlocks := B.notSynchronized
  subst hsz
  have hD := hD0.self (sz := s.heap.size)
  generalize hAe : va_A (wM h r1 d1 r2 d2 cI th n F ct n2 G c2) s.heap.size = A at hD hE ⊢
  have hA : ∀ q : Nat, s.heap.size ≤ q → A q := fun q h9 => by rw [← hAe]; exact Or.inr h9
  have hS : va_S A s.heap s.heap [] := va_S.rf
  have hinX3 : ∀ w ∈ wsX30, w ∈ wsX3_count := by decide +kernel
  have hl := lv_entry ([.ref h, .int vk]) (n := 2) (Nat.le_of_ble_eq_true rfl)
  rw [lg_entry_eq]
  generalize (lg_sl ([.ref h, .int vk]) ++ List.replicate (2 - (lg_sl ([.ref h, .int vk])).length) Slot.unset).toArray = ls at hl ⊢
  have hl : lv_has ls 2 [(0, .ref h), (1, .int vk)] := hl
  refine lv_aload_n hx hb dX3_count_0 rfl (lv_at hl 0 rfl) ?_
  refine lv_iconst (v := 0) hx hb dX3_count_1 (by decide) ?_
  refine va_put (D := (dC, dI)) (ci := 3) (v := .int 0) (ty := .int) (C := RX3) (T := TX3) (N := 3) hx hb hts hinX3 tyX3 tyX3_ok nmX3 hown hK hP hD hS 0 rfl rfl 0 (by decide) (hts (.fieldLink RX3 19 "WrestleBookModel" "thrown" "I") (by decide +kernel)) (fun _ h9 => h9) rfl (by decide +kernel) rfl rfl (Nat.le_of_ble_eq_true rfl) dX3_count_2 (fun H locs hP hD hS => ?_)
  have hP : va_P (dC, dI) vwCl (wM h r1 d1 r2 d2 cI 0 n F ct n2 G c2) H := hP
  have hD : va_D A (wM h r1 d1 r2 d2 cI 0 n F ct n2 G c2) := hD
  refine lv_iload_n hx hb dX3_count_5 rfl (lv_at hl 1 rfl) ?_
  refine lv_iconst (v := 0) hx hb dX3_count_6 (by decide) ?_
  refine lv_bipush (v := 8) hx hb dX3_count_7 (by decide) ?_
  refine vp_callSi (W.runS (As := [.int vk, .int 0, .int 8]) (rest := []) ⟨hx, hb, hml, hown, hts⟩ (c_X3_isIn l dC dI cI vk 0 8) (va_cwS 3 hts gX3_count_X3_isIn rfl rfl rfl (by decide +kernel) ⟨Nat.le_of_ble_eq_true rfl, Nat.le_of_ble_eq_true rfl⟩) ⟨PR.blind, fun U hU hW => ⟨rfl, PR.go (vaP_nil) hK hE hS hU hW⟩⟩ rfl rfl hl.1 rfl (lv_room (Nat.le_of_ble_eq_true rfl)) dX3_count_9 ⟨Nat.le_of_ble_eq_true rfl, Nat.le_of_ble_eq_true rfl⟩) (fun r hr0 => ?_)
  subst hr0
  refine rv_top (y := bI (s_08 vk)) (by rw [in_08]) ?_
  refine rv_ifb_eq (tgt := 23) hx hb dX3_count_12 (by decide) (fun c_12 => ?_) (fun c_12 => ?_)
  · refine lv_aload_n hx hb dX3_count_23 rfl (lv_at hl 0 rfl) ?_
    refine lv_iconst (v := 1) hx hb dX3_count_24 (by decide) ?_
    have hPc := hP.sub (ws' := (wM h r1 d1 r2 d2 cI 0 n F ct n2 G c2)) [0, 1, 2, 3, 4, 5, 6, 7, 8, 9, 10, 11, 12, 13, 14, 15, 16] rfl
    have hDc := hD.sub (ws' := (wM h r1 d1 r2 d2 cI 0 n F ct n2 G c2)) [0, 1, 2, 3, 4, 5, 6, 7, 8, 9, 10, 11, 12, 13, 14, 15, 16] (by decide) rfl
    have hFc := va_free (wc := (wM h r1 d1 r2 d2 cI 0 n F ct n2 G c2)) hD hS hA [0, 1, 2, 3, 4, 5, 6, 7, 8, 9, 10, 11, 12, 13, 14, 15, 16] rfl
    refine va_calli (va_runV (As := [.int 1]) (rest := []) ⟨hx, hb, hml, hown, hts⟩ (c_X3_no l dC dI cI h r1 d1 r2 d2 0 n F ct n2 G c2 H.size 1) (cwV 1 hts gX3_count_X3_no rfl rfl rfl (by decide +kernel) ⟨Nat.le_of_ble_eq_true rfl, Nat.le_of_ble_eq_true rfl⟩) ⟨PW.blind, va_recv hK hP (ci := 3) (q0 := 0) rfl rfl, fun U hU hW => ⟨rfl, PW.go hPc hK hDc hE hS hFc hU hW⟩⟩ rfl rfl hl.1 rfl (lv_room (Nat.le_of_ble_eq_true rfl)) dX3_count_25 ⟨Nat.le_of_ble_eq_true rfl, Nat.le_of_ble_eq_true rfl⟩) hS (fun q _ h9 => hFc q h9) hFc (fun r u9 t9 H1 locs ht9 hvm9 hw9 hB9 hz9 hk9 hS => ?_)
    obtain ⟨hP9, hD9⟩ := hB9
    rw [ht9] at hP9
    obtain ⟨hP, hD⟩ := va_join (wr := []) (w1 := wM h r1 d1 r2 d2 cI 1 n F ct n2 G c2) hP hD [0, 1, 2, 3, 4, 5, 6, 7, 8, 9, 10, 11, 12, 13, 14, 15, 16] [] rfl rfl (by decide) (by decide) hk9 hFc hP9 hD9
    generalize H1 = H at hP hS ⊢
    have hP : va_P (dC, dI) vwCl (wM h r1 d1 r2 d2 cI 1 n F ct n2 G c2) H := hP
    have hD : va_D A (wM h r1 d1 r2 d2 cI 1 n F ct n2 G c2) := hD
    have hw9 : r = 0 := hw9
    subst hw9
    have hcode : x_cnt vk = 1 := by simp [x_cnt, c_12]
    have hP8 : va_P (dC, dI) vwCl (wM h r1 d1 r2 d2 cI (nI (x_cnt vk)) n F ct n2 G c2) H := by rw [hcode]; exact hP
    have hD8 : va_D A (wM h r1 d1 r2 d2 cI (nI (x_cnt vk)) n F ct n2 G c2) := by rw [hcode]; exact hD
    exact W.iret (v := 0) hx hb hr (fun t ht hW => ⟨⟨_, (), rfl, (show 0 = mo (x_cnt vk) (s_cnt n F ct vk) 0 from by rw [hcode]; rfl), by rw [ht]; exact hP8, hD8⟩, hS.F ht⟩) hS.2.2 dX3_count_28
  · have h8 := c_12
    obtain ⟨k, hk, rfl⟩ := ok_08 c_12
    refine lv_aload_n hx hb dX3_count_15 rfl (lv_at hl 0 rfl) ?_
    refine lv_iload_n hx hb dX3_count_16 rfl (lv_at hl 1 rfl) ?_
    refine vp_callSi (W.runV (As := [.int (nI k)]) (rest := []) ⟨hx, hb, hml, hown, hts⟩ (c_X3_counted l dC dI cI h r1 d1 r2 d2 0 n F ct n2 G c2 k hk hn hR) (cwV 1 hts gX3_count_X3_counted rfl rfl rfl (by decide +kernel) ⟨Nat.le_of_ble_eq_true rfl, Nat.le_of_ble_eq_true rfl⟩) ⟨PR.blind, va_recv hK hP (ci := 3) (q0 := 0) rfl rfl, fun U hU hW => ⟨rfl, PR.go hP hK hE hS hU hW⟩⟩ rfl rfl hl.1 rfl (lv_room (Nat.le_of_ble_eq_true rfl)) dX3_count_17 ⟨Nat.le_of_ble_eq_true rfl, Nat.le_of_ble_eq_true rfl⟩) (fun r hr0 => ?_)
    subst hr0
    refine lv_goto (tgt := 28) hx hb dX3_count_20 (by decide) ?_
    have hcode : x_cnt (nI k) = 0 := by simp [x_cnt, h8]
    have hP8 : va_P (dC, dI) vwCl (wM h r1 d1 r2 d2 cI (nI (x_cnt (nI k))) n F ct n2 G c2) H := by rw [hcode]; exact hP
    have hD8 : va_D A (wM h r1 d1 r2 d2 cI (nI (x_cnt (nI k))) n F ct n2 G c2) := by rw [hcode]; exact hD
    exact W.iret (v := s_cnt n F ct (nI k)) hx hb hr (fun t ht hW => ⟨⟨_, (), rfl, (show s_cnt n F ct (nI k) = mo (x_cnt (nI k)) (s_cnt n F ct (nI k)) 0 from by rw [hcode, mo_0]), by rw [ht]; exact hP8, hD8⟩, hS.F ht⟩) hS.2.2 dX3_count_28

set_option maxHeartbeats 4000000 in
set_option maxRecDepth 100000 in
theorem c_X3_would (l : Launch) (dC : Nat → ClassId) (dI : Nat → Nat → Nat) (cI : ClassId) (h r1 : Nat) (d1 : Nat → Nat) (r2 : Nat) (d2 : Nat → Nat) (th : Int32) (n : Nat) (F : Nat → Nat → Int32) (ct : Nat → Int32) (n2 : Nat) (G : Nat → Nat → Int32) (c2 : Nat → Int32) (sz : Nat) (va : Int32) (vb : Int32) (vr : Int32) (vu : Int32) (hn : n ≤ 12) (hR : okR n F) : Met l yX3_would wsX3_would ({ frames := 3, cells := 0, slots := 0, locals := 62 } : Room) (va_Pc [.ref h, .int va, .int vb, .int vr, .int vu] (fun U => PW dC dI cI (wM h r1 d1 r2 d2 cI th n F ct n2 G c2) sz U)) (va_Qi (fun r (_ : Unit) => r = mo (x_would n va vb vr vu) (if vu = 0 then s_gain F (cl va) (cl vb) vr else s_gain F (cl vb) (cl va) (2 - vr)) 0) (BW dC dI (va_A (wM h r1 d1 r2 d2 cI th n F ct n2 G c2) sz) (wM h r1 d1 r2 d2 cI (nI (x_would n va vb vr vu)) n F ct n2 G c2)) (va_A (wM h r1 d1 r2 d2 cI th n F ct n2 G c2) sz)) 0 0 (va_A (wM h r1 d1 r2 d2 cI th n F ct n2 G c2) sz) := by
  refine Met.ofW (cc := cX3_would) (maxL := 5) (ret := (some .int)) (by decide) rfl ?_
  intro p e s m args below meth c s₁ B hml hv
  obtain ⟨rfl, hsz, hP, hK, hD0, hE⟩ := hv
  have hx := B.exec
  have hb := B.bytes
  have hr := B.returns
  have hts := atoms_spec (ws := wsX3_would) B.pre
  have hown : s.vm.findClass RX3 = some m.cls := findClass_of_methodNamed B.named
  have hlocks := B.notSynchronized
  subst hsz
  have hD := hD0.self (sz := s.heap.size)
  generalize hAe : va_A (wM h r1 d1 r2 d2 cI th n F ct n2 G c2) s.heap.size = A at hD hE ⊢
  have hA : ∀ q : Nat, s.heap.size ≤ q → A q := fun q h9 => by rw [← hAe]; exact Or.inr h9
  have hS : va_S A s.heap s.heap [] := va_S.rf
  have hinX2 : ∀ w ∈ wsX20, w ∈ wsX3_would := by decide +kernel
  have hinX3 : ∀ w ∈ wsX30, w ∈ wsX3_would := by decide +kernel
  have hl := lv_entry ([.ref h, .int va, .int vb, .int vr, .int vu]) (n := 5) (Nat.le_of_ble_eq_true rfl)
  rw [lg_entry_eq]
  generalize (lg_sl ([.ref h, .int va, .int vb, .int vr, .int vu]) ++ List.replicate (5 - (lg_sl ([.ref h, .int va, .int vb, .int vr, .int vu])).length) Slot.unset).toArray = ls at hl ⊢
  have hl : lv_has ls 5 [(0, .ref h), (1, .int va), (2, .int vb), (3, .int vr), (4, .int vu)] := hl
  refine lv_aload_n hx hb dX3_would_0 rfl (lv_at hl 0 rfl) ?_
  refine lv_iconst (v := 0) hx hb dX3_would_1 (by decide) ?_
  refine va_put (D := (dC, dI)) (ci := 3) (v := .int 0) (ty := .int) (C := RX3) (T := TX3) (N := 3) hx hb hts hinX3 tyX3 tyX3_ok nmX3 hown hK hP hD hS 0 rfl rfl 0 (by decide) (hts (.fieldLink RX3 19 "WrestleBookModel" "thrown" "I") (by decide +kernel)) (fun _ h9 => h9) rfl (by decide +kernel) rfl rfl (Nat.le_of_ble_eq_true rfl) dX3_would_2 (fun H locs hP hD hS => ?_)
  have hP : va_P (dC, dI) vwCl (wM h r1 d1 r2 d2 cI 0 n F ct n2 G c2) H := hP
  have hD : va_D A (wM h r1 d1 r2 d2 cI 0 n F ct n2 G c2) := hD
  refine lv_aload_n hx hb dX3_would_5 rfl (lv_at hl 0 rfl) ?_
  refine lv_iload_n hx hb dX3_would_6 rfl (lv_at hl 1 rfl) ?_
  refine vp_callSi (W.runV (As := [.int va]) (rest := []) ⟨hx, hb, hml, hown, hts⟩ (c_X3_isWrestler l dC dI cI h r1 d1 r2 d2 0 n F ct n2 G c2 va hn) (cwV 1 hts gX3_would_X3_isWrestler rfl rfl rfl (by decide +kernel) ⟨Nat.le_of_ble_eq_true rfl, Nat.le_of_ble_eq_true rfl⟩) ⟨PR.blind, va_recv hK hP (ci := 3) (q0 := 0) rfl rfl, fun U hU hW => ⟨rfl, PR.go hP hK hE hS hU hW⟩⟩ rfl rfl hl.1 rfl (lv_room (Nat.le_of_ble_eq_true rfl)) dX3_would_7 ⟨Nat.le_of_ble_eq_true rfl, Nat.le_of_ble_eq_true rfl⟩) (fun r hr0 => ?_)
  subst hr0
  refine rv_ifb_eq (tgt := 31) hx hb dX3_would_10 (by decide) (fun c_10 => ?_) (fun c_10 => ?_)
  · refine lv_aload_n hx hb dX3_would_31 rfl (lv_at hl 0 rfl) ?_
    refine lv_iconst (v := 1) hx hb dX3_would_32 (by decide) ?_
    have hPc := hP.sub (ws' := (wM h r1 d1 r2 d2 cI 0 n F ct n2 G c2)) [0, 1, 2, 3, 4, 5, 6, 7, 8, 9, 10, 11, 12, 13, 14, 15, 16] rfl
    have hDc := hD.sub (ws' := (wM h r1 d1 r2 d2 cI 0 n F ct n2 G c2)) [0, 1, 2, 3, 4, 5, 6, 7, 8, 9, 10, 11, 12, 13, 14, 15, 16] (by decide) rfl
    have hFc := va_free (wc := (wM h r1 d1 r2 d2 cI 0 n F ct n2 G c2)) hD hS hA [0, 1, 2, 3, 4, 5, 6, 7, 8, 9, 10, 11, 12, 13, 14, 15, 16] rfl
    refine va_calli (va_runV (As := [.int 1]) (rest := []) ⟨hx, hb, hml, hown, hts⟩ (c_X3_no l dC dI cI h r1 d1 r2 d2 0 n F ct n2 G c2 H.size 1) (cwV 1 hts gX3_would_X3_no rfl rfl rfl (by decide +kernel) ⟨Nat.le_of_ble_eq_true rfl, Nat.le_of_ble_eq_true rfl⟩) ⟨PW.blind, va_recv hK hP (ci := 3) (q0 := 0) rfl rfl, fun U hU hW => ⟨rfl, PW.go hPc hK hDc hE hS hFc hU hW⟩⟩ rfl rfl hl.1 rfl (lv_room (Nat.le_of_ble_eq_true rfl)) dX3_would_33 ⟨Nat.le_of_ble_eq_true rfl, Nat.le_of_ble_eq_true rfl⟩) hS (fun q _ h9 => hFc q h9) hFc (fun r u9 t9 H1 locs ht9 hvm9 hw9 hB9 hz9 hk9 hS => ?_)
    obtain ⟨hP9, hD9⟩ := hB9
    rw [ht9] at hP9
    obtain ⟨hP, hD⟩ := va_join (wr := []) (w1 := wM h r1 d1 r2 d2 cI 1 n F ct n2 G c2) hP hD [0, 1, 2, 3, 4, 5, 6, 7, 8, 9, 10, 11, 12, 13, 14, 15, 16] [] rfl rfl (by decide) (by decide) hk9 hFc hP9 hD9
    generalize H1 = H at hP hS ⊢
    have hP : va_P (dC, dI) vwCl (wM h r1 d1 r2 d2 cI 1 n F ct n2 G c2) H := hP
    have hD : va_D A (wM h r1 d1 r2 d2 cI 1 n F ct n2 G c2) := hD
    have hw9 : r = 0 := hw9
    subst hw9
    have hcode : x_would n va vb vr vu = 1 := by simp [x_would, c_10]
    have hP8 : va_P (dC, dI) vwCl (wM h r1 d1 r2 d2 cI (nI (x_would n va vb vr vu)) n F ct n2 G c2) H := by rw [hcode]; exact hP
    have hD8 : va_D A (wM h r1 d1 r2 d2 cI (nI (x_would n va vb vr vu)) n F ct n2 G c2) := by rw [hcode]; exact hD
    exact W.iret (v := 0) hx hb hr (fun t ht hW => ⟨⟨_, (), rfl, (show 0 = mo (x_would n va vb vr vu) (if vu = 0 then s_gain F (cl va) (cl vb) vr else s_gain F (cl vb) (cl va) (2 - vr)) 0 from by rw [hcode]; rfl), by rw [ht]; exact hP8, hD8⟩, hS.F ht⟩) hS.2.2 dX3_would_36
  · obtain ⟨a, i_a, rfl⟩ := s_has_nat hn c_10
    have h_a := s_has_nI hn i_a
    refine lv_aload_n hx hb dX3_would_13 rfl (lv_at hl 0 rfl) ?_
    refine lv_iload_n hx hb dX3_would_14 rfl (lv_at hl 2 rfl) ?_
    refine vp_callSi (W.runV (As := [.int vb]) (rest := []) ⟨hx, hb, hml, hown, hts⟩ (c_X3_isWrestler l dC dI cI h r1 d1 r2 d2 0 n F ct n2 G c2 vb hn) (cwV 1 hts gX3_would_X3_isWrestler rfl rfl rfl (by decide +kernel) ⟨Nat.le_of_ble_eq_true rfl, Nat.le_of_ble_eq_true rfl⟩) ⟨PR.blind, va_recv hK hP (ci := 3) (q0 := 0) rfl rfl, fun U hU hW => ⟨rfl, PR.go hP hK hE hS hU hW⟩⟩ rfl rfl hl.1 rfl (lv_room (Nat.le_of_ble_eq_true rfl)) dX3_would_15 ⟨Nat.le_of_ble_eq_true rfl, Nat.le_of_ble_eq_true rfl⟩) (fun r hr0 => ?_)
    subst hr0
    refine rv_ifb_eq (tgt := 31) hx hb dX3_would_18 (by decide) (fun c_18 => ?_) (fun c_18 => ?_)
    · refine lv_aload_n hx hb dX3_would_31 rfl (lv_at hl 0 rfl) ?_
      refine lv_iconst (v := 1) hx hb dX3_would_32 (by decide) ?_
      have hPc := hP.sub (ws' := (wM h r1 d1 r2 d2 cI 0 n F ct n2 G c2)) [0, 1, 2, 3, 4, 5, 6, 7, 8, 9, 10, 11, 12, 13, 14, 15, 16] rfl
      have hDc := hD.sub (ws' := (wM h r1 d1 r2 d2 cI 0 n F ct n2 G c2)) [0, 1, 2, 3, 4, 5, 6, 7, 8, 9, 10, 11, 12, 13, 14, 15, 16] (by decide) rfl
      have hFc := va_free (wc := (wM h r1 d1 r2 d2 cI 0 n F ct n2 G c2)) hD hS hA [0, 1, 2, 3, 4, 5, 6, 7, 8, 9, 10, 11, 12, 13, 14, 15, 16] rfl
      refine va_calli (va_runV (As := [.int 1]) (rest := []) ⟨hx, hb, hml, hown, hts⟩ (c_X3_no l dC dI cI h r1 d1 r2 d2 0 n F ct n2 G c2 H.size 1) (cwV 1 hts gX3_would_X3_no rfl rfl rfl (by decide +kernel) ⟨Nat.le_of_ble_eq_true rfl, Nat.le_of_ble_eq_true rfl⟩) ⟨PW.blind, va_recv hK hP (ci := 3) (q0 := 0) rfl rfl, fun U hU hW => ⟨rfl, PW.go hPc hK hDc hE hS hFc hU hW⟩⟩ rfl rfl hl.1 rfl (lv_room (Nat.le_of_ble_eq_true rfl)) dX3_would_33 ⟨Nat.le_of_ble_eq_true rfl, Nat.le_of_ble_eq_true rfl⟩) hS (fun q _ h9 => hFc q h9) hFc (fun r u9 t9 H1 locs ht9 hvm9 hw9 hB9 hz9 hk9 hS => ?_)
      obtain ⟨hP9, hD9⟩ := hB9
      rw [ht9] at hP9
      obtain ⟨hP, hD⟩ := va_join (wr := []) (w1 := wM h r1 d1 r2 d2 cI 1 n F ct n2 G c2) hP hD [0, 1, 2, 3, 4, 5, 6, 7, 8, 9, 10, 11, 12, 13, 14, 15, 16] [] rfl rfl (by decide) (by decide) hk9 hFc hP9 hD9
      generalize H1 = H at hP hS ⊢
      have hP : va_P (dC, dI) vwCl (wM h r1 d1 r2 d2 cI 1 n F ct n2 G c2) H := hP
      have hD : va_D A (wM h r1 d1 r2 d2 cI 1 n F ct n2 G c2) := hD
      have hw9 : r = 0 := hw9
      subst hw9
      have hcode : x_would n (nI a) vb vr vu = 1 := by simp [x_would, h_a, c_18]
      have hP8 : va_P (dC, dI) vwCl (wM h r1 d1 r2 d2 cI (nI (x_would n (nI a) vb vr vu)) n F ct n2 G c2) H := by rw [hcode]; exact hP
      have hD8 : va_D A (wM h r1 d1 r2 d2 cI (nI (x_would n (nI a) vb vr vu)) n F ct n2 G c2) := by rw [hcode]; exact hD
      exact W.iret (v := 0) hx hb hr (fun t ht hW => ⟨⟨_, (), rfl, (show 0 = mo (x_would n (nI a) vb vr vu) (if vu = 0 then s_gain F (cl (nI a)) (cl vb) vr else s_gain F (cl vb) (cl (nI a)) (2 - vr)) 0 from by rw [hcode]; rfl), by rw [ht]; exact hP8, hD8⟩, hS.F ht⟩) hS.2.2 dX3_would_36
    · obtain ⟨b, i_b, rfl⟩ := s_has_nat hn c_18
      have h_b := s_has_nI hn i_b
      refine lv_iload hx hb dX3_would_21 (lv_at hl 4 rfl) ?_
      refine lv_iconst (v := 0) hx hb dX3_would_23 (by decide) ?_
      refine lv_iconst (v := 1) hx hb dX3_would_24 (by decide) ?_
      refine vp_callSi (W.runS (As := [.int vu, .int 0, .int 1]) (rest := []) ⟨hx, hb, hml, hown, hts⟩ (c_X3_isIn l dC dI cI vu 0 1) (va_cwS 3 hts gX3_would_X3_isIn rfl rfl rfl (by decide +kernel) ⟨Nat.le_of_ble_eq_true rfl, Nat.le_of_ble_eq_true rfl⟩) ⟨PR.blind, fun U hU hW => ⟨rfl, PR.go (vaP_nil) hK hE hS hU hW⟩⟩ rfl rfl hl.1 rfl (lv_room (Nat.le_of_ble_eq_true rfl)) dX3_would_25 ⟨Nat.le_of_ble_eq_true rfl, Nat.le_of_ble_eq_true rfl⟩) (fun r hr0 => ?_)
      subst hr0
      refine rv_ifb_ne (tgt := 37) hx hb dX3_would_28 (by decide) (fun c_28 => ?_) (fun c_28 => ?_)
      · refine lv_iload_n hx hb dX3_would_37 rfl (lv_at hl 1 rfl) ?_
        refine lv_iload_n hx hb dX3_would_38 rfl (lv_at hl 2 rfl) ?_
        refine lv_icmp_eq (tgt := 51) hx hb dX3_would_39 (by decide) (fun c_39 => ?_) (fun c_39 => ?_)
        · refine lv_aload_n hx hb dX3_would_51 rfl (lv_at hl 0 rfl) ?_
          refine lv_iconst (v := 2) hx hb dX3_would_52 (by decide) ?_
          have hPc := hP.sub (ws' := (wM h r1 d1 r2 d2 cI 0 n F ct n2 G c2)) [0, 1, 2, 3, 4, 5, 6, 7, 8, 9, 10, 11, 12, 13, 14, 15, 16] rfl
          have hDc := hD.sub (ws' := (wM h r1 d1 r2 d2 cI 0 n F ct n2 G c2)) [0, 1, 2, 3, 4, 5, 6, 7, 8, 9, 10, 11, 12, 13, 14, 15, 16] (by decide) rfl
          have hFc := va_free (wc := (wM h r1 d1 r2 d2 cI 0 n F ct n2 G c2)) hD hS hA [0, 1, 2, 3, 4, 5, 6, 7, 8, 9, 10, 11, 12, 13, 14, 15, 16] rfl
          refine va_calli (va_runV (As := [.int 2]) (rest := []) ⟨hx, hb, hml, hown, hts⟩ (c_X3_no l dC dI cI h r1 d1 r2 d2 0 n F ct n2 G c2 H.size 2) (cwV 1 hts gX3_would_X3_no rfl rfl rfl (by decide +kernel) ⟨Nat.le_of_ble_eq_true rfl, Nat.le_of_ble_eq_true rfl⟩) ⟨PW.blind, va_recv hK hP (ci := 3) (q0 := 0) rfl rfl, fun U hU hW => ⟨rfl, PW.go hPc hK hDc hE hS hFc hU hW⟩⟩ rfl rfl hl.1 rfl (lv_room (Nat.le_of_ble_eq_true rfl)) dX3_would_53 ⟨Nat.le_of_ble_eq_true rfl, Nat.le_of_ble_eq_true rfl⟩) hS (fun q _ h9 => hFc q h9) hFc (fun r u9 t9 H1 locs ht9 hvm9 hw9 hB9 hz9 hk9 hS => ?_)
          obtain ⟨hP9, hD9⟩ := hB9
          rw [ht9] at hP9
          obtain ⟨hP, hD⟩ := va_join (wr := []) (w1 := wM h r1 d1 r2 d2 cI 2 n F ct n2 G c2) hP hD [0, 1, 2, 3, 4, 5, 6, 7, 8, 9, 10, 11, 12, 13, 14, 15, 16] [] rfl rfl (by decide) (by decide) hk9 hFc hP9 hD9
          generalize H1 = H at hP hS ⊢
          have hP : va_P (dC, dI) vwCl (wM h r1 d1 r2 d2 cI 2 n F ct n2 G c2) H := hP
          have hD : va_D A (wM h r1 d1 r2 d2 cI 2 n F ct n2 G c2) := hD
          have hw9 : r = 0 := hw9
          subst hw9
          have hcode : x_would n (nI a) (nI b) vr vu = 2 := by simp [x_would, h_a, h_b, show (vu = 0 ∨ vu = 1) from (in_01 vu).mp c_28, c_39]
          have hP8 : va_P (dC, dI) vwCl (wM h r1 d1 r2 d2 cI (nI (x_would n (nI a) (nI b) vr vu)) n F ct n2 G c2) H := by rw [hcode]; exact hP
          have hD8 : va_D A (wM h r1 d1 r2 d2 cI (nI (x_would n (nI a) (nI b) vr vu)) n F ct n2 G c2) := by rw [hcode]; exact hD
          exact W.iret (v := 0) hx hb hr (fun t ht hW => ⟨⟨_, (), rfl, (show 0 = mo (x_would n (nI a) (nI b) vr vu) (if vu = 0 then s_gain F (cl (nI a)) (cl (nI b)) vr else s_gain F (cl (nI b)) (cl (nI a)) (2 - vr)) 0 from by rw [hcode]; rfl), by rw [ht]; exact hP8, hD8⟩, hS.F ht⟩) hS.2.2 dX3_would_56
        · refine lv_iload_n hx hb dX3_would_42 rfl (lv_at hl 3 rfl) ?_
          refine lv_iconst (v := 0) hx hb dX3_would_43 (by decide) ?_
          refine lv_iconst (v := 2) hx hb dX3_would_44 (by decide) ?_
          refine vp_callSi (W.runS (As := [.int vr, .int 0, .int 2]) (rest := []) ⟨hx, hb, hml, hown, hts⟩ (c_X3_isIn l dC dI cI vr 0 2) (va_cwS 3 hts gX3_would_X3_isIn rfl rfl rfl (by decide +kernel) ⟨Nat.le_of_ble_eq_true rfl, Nat.le_of_ble_eq_true rfl⟩) ⟨PR.blind, fun U hU hW => ⟨rfl, PR.go (vaP_nil) hK hE hS hU hW⟩⟩ rfl rfl hl.1 rfl (lv_room (Nat.le_of_ble_eq_true rfl)) dX3_would_45 ⟨Nat.le_of_ble_eq_true rfl, Nat.le_of_ble_eq_true rfl⟩) (fun r hr0 => ?_)
          subst hr0
          refine rv_ifb_ne (tgt := 57) hx hb dX3_would_48 (by decide) (fun c_48 => ?_) (fun c_48 => ?_)
          · have hcr := (in_cr vr).mp c_48
            have hab : a ≠ b := fun q => c_39 (by rw [q])
            obtain ⟨q, hq, rfl⟩ := ok_cr hcr
            refine lv_iload hx hb dX3_would_57 (lv_at hl 4 rfl) ?_
            refine lv_if_ne (tgt := 89) hx hb dX3_would_59 (by decide) (fun c_59 => ?_) (fun c_59 => ?_)
            · refine lv_aload_n hx hb dX3_would_89 rfl (lv_at hl 0 rfl) ?_
              refine va_get (D := (dC, dI)) (ci := 3) (v := .ref r1) (C := RX3) (T := TX3) (N := 3) hx hb hts hinX3 hown hK hP 0 rfl rfl 1 (by decide) (hts (.fieldLink RX3 10 "WrestleBookModel" "s" "LWrestleBookModel$State;") (by decide +kernel)) (fun _ h9 => h9) rfl dX3_would_90 ?_
              refine lv_iload_n hx hb dX3_would_93 rfl (lv_at hl 2 rfl) ?_
              refine lv_iload_n hx hb dX3_would_94 rfl (lv_at hl 1 rfl) ?_
              refine lv_sipush (v := 1000) hx hb dX3_would_95 (by decide) ?_
              refine lv_sipush (v := 500) hx hb dX3_would_98 (by decide) ?_
              refine lv_iload_n hx hb dX3_would_101 rfl (lv_at hl 3 rfl) ?_
              refine lv_imul hx hb dX3_would_102 ?_
              refine rv_top (y := nI (500 * q)) (pk_mul 500 q) ?_
              refine lv_isub hx hb dX3_would_103 ?_
              refine rv_top (y := nI (500 * (2 - q))) (n500_sub hq) ?_
              refine vp_callSi (W.runV (As := [.int (nI b), .int (nI a), .int (nI (500 * (2 - q)))]) (rest := []) ⟨hx, hb, hml, hown, hts⟩ (c_X2_then l dC dI cI r1 d1 n F ct b (show b < n by omega) a (show a < n by omega) (nI (500 * (2 - q))) hn hR) (cwV 3 hts gX3_would_X2_then rfl rfl rfl (by decide +kernel) ⟨Nat.le_of_ble_eq_true rfl, Nat.le_of_ble_eq_true rfl⟩) ⟨PR.blind, va_recv hK hP (ci := 2) (q0 := 1) rfl rfl, fun U hU hW => ⟨rfl, PR.go (hP.sub (ws' := (wS r1 d1 cI n F ct)) [1, 2, 3, 4, 5, 6, 7, 8] rfl) hK hE hS hU hW⟩⟩ rfl rfl hl.1 rfl (lv_room (Nat.le_of_ble_eq_true rfl)) dX3_would_104 ⟨Nat.le_of_ble_eq_true rfl, Nat.le_of_ble_eq_true rfl⟩) (fun r hr0 => ?_)
              subst hr0
              refine lv_aload_n hx hb dX3_would_107 rfl (lv_at hl 0 rfl) ?_
              refine va_get (D := (dC, dI)) (ci := 3) (v := .ref r1) (C := RX3) (T := TX3) (N := 3) hx hb hts hinX3 hown hK hP 0 rfl rfl 1 (by decide) (hts (.fieldLink RX3 10 "WrestleBookModel" "s" "LWrestleBookModel$State;") (by decide +kernel)) (fun _ h9 => h9) rfl dX3_would_108 ?_
              refine va_getN (D := (dC, dI)) (ci := 2) (v := .ref (d1 1)) (C := RX2) (T := TX2) (N := 11) (host := "WrestleBookModel") hx hb hts hinX2 hown hK hP 1 rfl rfl 4 (by decide) (va_Nw.use rfl (hE.2.2.1 (.fieldLinkNest RX3 34 "WrestleBookModel$State" "rating" "[I" "WrestleBookModel") (by decide +kernel))) (fun _ h9 => h9) rfl dX3_would_111 ?_
              refine lv_iload_n hx hb dX3_would_114 rfl (lv_at hl 2 rfl) ?_
              refine rv_iald (k := b) hx hb hK hP 3 0 rfl rfl (show b < 12 by omega) (by decide) dX3_would_115 ?_
              refine lv_isub hx hb dX3_would_116 ?_
              have hcode : x_would n (nI a) (nI b) (nI q) vu = 0 := by simp [x_would, h_a, h_b, show (vu = 0 ∨ vu = 1) from (in_01 vu).mp c_28, c_39, hcr]
              have hP8 : va_P (dC, dI) vwCl (wM h r1 d1 r2 d2 cI (nI (x_would n (nI a) (nI b) (nI q) vu)) n F ct n2 G c2) H := by rw [hcode]; exact hP
              have hD8 : va_D A (wM h r1 d1 r2 d2 cI (nI (x_would n (nI a) (nI b) (nI q) vu)) n F ct n2 G c2) := by rw [hcode]; exact hD
              exact W.iret (v := (s_then F b a (nI (500 * (2 - q)))) - (F 1 b)) hx hb hr (fun t ht hW => ⟨⟨_, (), rfl, (show (s_then F b a (nI (500 * (2 - q)))) - (F 1 b) = mo (x_would n (nI a) (nI b) (nI q) vu) (if vu = 0 then s_gain F (cl (nI a)) (cl (nI b)) (nI q) else s_gain F (cl (nI b)) (cl (nI a)) (2 - (nI q))) 0 from by rw [hcode, mo_0]; rw [cl_nI (show a < 2 ^ 31 by omega), cl_nI (show b < 2 ^ 31 by omega)]; rw [if_neg c_59, show (2 : Int32) - nI q = nI (2 - q) from pk_sub (a := 2) hq]; unfold s_gain; rw [q500]), by rw [ht]; exact hP8, hD8⟩, hS.F ht⟩) hS.2.2 dX3_would_117
            · refine lv_aload_n hx hb dX3_would_62 rfl (lv_at hl 0 rfl) ?_
              refine va_get (D := (dC, dI)) (ci := 3) (v := .ref r1) (C := RX3) (T := TX3) (N := 3) hx hb hts hinX3 hown hK hP 0 rfl rfl 1 (by decide) (hts (.fieldLink RX3 10 "WrestleBookModel" "s" "LWrestleBookModel$State;") (by decide +kernel)) (fun _ h9 => h9) rfl dX3_would_63 ?_
              refine lv_iload_n hx hb dX3_would_66 rfl (lv_at hl 1 rfl) ?_
              refine lv_iload_n hx hb dX3_would_67 rfl (lv_at hl 2 rfl) ?_
              refine lv_sipush (v := 500) hx hb dX3_would_68 (by decide) ?_
              refine lv_iload_n hx hb dX3_would_71 rfl (lv_at hl 3 rfl) ?_
              refine lv_imul hx hb dX3_would_72 ?_
              refine rv_top (y := nI (500 * q)) (pk_mul 500 q) ?_
              refine vp_callSi (W.runV (As := [.int (nI a), .int (nI b), .int (nI (500 * q))]) (rest := []) ⟨hx, hb, hml, hown, hts⟩ (c_X2_then l dC dI cI r1 d1 n F ct a (show a < n by omega) b (show b < n by omega) (nI (500 * q)) hn hR) (cwV 3 hts gX3_would_X2_then rfl rfl rfl (by decide +kernel) ⟨Nat.le_of_ble_eq_true rfl, Nat.le_of_ble_eq_true rfl⟩) ⟨PR.blind, va_recv hK hP (ci := 2) (q0 := 1) rfl rfl, fun U hU hW => ⟨rfl, PR.go (hP.sub (ws' := (wS r1 d1 cI n F ct)) [1, 2, 3, 4, 5, 6, 7, 8] rfl) hK hE hS hU hW⟩⟩ rfl rfl hl.1 rfl (lv_room (Nat.le_of_ble_eq_true rfl)) dX3_would_73 ⟨Nat.le_of_ble_eq_true rfl, Nat.le_of_ble_eq_true rfl⟩) (fun r hr0 => ?_)
              subst hr0
              refine lv_aload_n hx hb dX3_would_76 rfl (lv_at hl 0 rfl) ?_
              refine va_get (D := (dC, dI)) (ci := 3) (v := .ref r1) (C := RX3) (T := TX3) (N := 3) hx hb hts hinX3 hown hK hP 0 rfl rfl 1 (by decide) (hts (.fieldLink RX3 10 "WrestleBookModel" "s" "LWrestleBookModel$State;") (by decide +kernel)) (fun _ h9 => h9) rfl dX3_would_77 ?_
              refine va_getN (D := (dC, dI)) (ci := 2) (v := .ref (d1 1)) (C := RX2) (T := TX2) (N := 11) (host := "WrestleBookModel") hx hb hts hinX2 hown hK hP 1 rfl rfl 4 (by decide) (va_Nw.use rfl (hE.2.2.1 (.fieldLinkNest RX3 34 "WrestleBookModel$State" "rating" "[I" "WrestleBookModel") (by decide +kernel))) (fun _ h9 => h9) rfl dX3_would_80 ?_
              refine lv_iload_n hx hb dX3_would_83 rfl (lv_at hl 1 rfl) ?_
              refine rv_iald (k := a) hx hb hK hP 3 0 rfl rfl (show a < 12 by omega) (by decide) dX3_would_84 ?_
              refine lv_isub hx hb dX3_would_85 ?_
              refine lv_goto (tgt := 117) hx hb dX3_would_86 (by decide) ?_
              have hcode : x_would n (nI a) (nI b) (nI q) vu = 0 := by simp [x_would, h_a, h_b, show (vu = 0 ∨ vu = 1) from (in_01 vu).mp c_28, c_39, hcr]
              have hP8 : va_P (dC, dI) vwCl (wM h r1 d1 r2 d2 cI (nI (x_would n (nI a) (nI b) (nI q) vu)) n F ct n2 G c2) H := by rw [hcode]; exact hP
              have hD8 : va_D A (wM h r1 d1 r2 d2 cI (nI (x_would n (nI a) (nI b) (nI q) vu)) n F ct n2 G c2) := by rw [hcode]; exact hD
              exact W.iret (v := (s_then F a b (nI (500 * q))) - (F 1 a)) hx hb hr (fun t ht hW => ⟨⟨_, (), rfl, (show (s_then F a b (nI (500 * q))) - (F 1 a) = mo (x_would n (nI a) (nI b) (nI q) vu) (if vu = 0 then s_gain F (cl (nI a)) (cl (nI b)) (nI q) else s_gain F (cl (nI b)) (cl (nI a)) (2 - (nI q))) 0 from by rw [hcode, mo_0]; rw [cl_nI (show a < 2 ^ 31 by omega), cl_nI (show b < 2 ^ 31 by omega)]; rw [if_pos c_59]; unfold s_gain; rw [q500]), by rw [ht]; exact hP8, hD8⟩, hS.F ht⟩) hS.2.2 dX3_would_117
          · refine lv_aload_n hx hb dX3_would_51 rfl (lv_at hl 0 rfl) ?_
            refine lv_iconst (v := 2) hx hb dX3_would_52 (by decide) ?_
            have hPc := hP.sub (ws' := (wM h r1 d1 r2 d2 cI 0 n F ct n2 G c2)) [0, 1, 2, 3, 4, 5, 6, 7, 8, 9, 10, 11, 12, 13, 14, 15, 16] rfl
            have hDc := hD.sub (ws' := (wM h r1 d1 r2 d2 cI 0 n F ct n2 G c2)) [0, 1, 2, 3, 4, 5, 6, 7, 8, 9, 10, 11, 12, 13, 14, 15, 16] (by decide) rfl
            have hFc := va_free (wc := (wM h r1 d1 r2 d2 cI 0 n F ct n2 G c2)) hD hS hA [0, 1, 2, 3, 4, 5, 6, 7, 8, 9, 10, 11, 12, 13, 14, 15, 16] rfl
            refine va_calli (va_runV (As := [.int 2]) (rest := []) ⟨hx, hb, hml, hown, hts⟩ (c_X3_no l dC dI cI h r1 d1 r2 d2 0 n F ct n2 G c2 H.size 2) (cwV 1 hts gX3_would_X3_no rfl rfl rfl (by decide +kernel) ⟨Nat.le_of_ble_eq_true rfl, Nat.le_of_ble_eq_true rfl⟩) ⟨PW.blind, va_recv hK hP (ci := 3) (q0 := 0) rfl rfl, fun U hU hW => ⟨rfl, PW.go hPc hK hDc hE hS hFc hU hW⟩⟩ rfl rfl hl.1 rfl (lv_room (Nat.le_of_ble_eq_true rfl)) dX3_would_53 ⟨Nat.le_of_ble_eq_true rfl, Nat.le_of_ble_eq_true rfl⟩) hS (fun q _ h9 => hFc q h9) hFc (fun r u9 t9 H1 locs ht9 hvm9 hw9 hB9 hz9 hk9 hS => ?_)
            obtain ⟨hP9, hD9⟩ := hB9
            rw [ht9] at hP9
            obtain ⟨hP, hD⟩ := va_join (wr := []) (w1 := wM h r1 d1 r2 d2 cI 2 n F ct n2 G c2) hP hD [0, 1, 2, 3, 4, 5, 6, 7, 8, 9, 10, 11, 12, 13, 14, 15, 16] [] rfl rfl (by decide) (by decide) hk9 hFc hP9 hD9
            generalize H1 = H at hP hS ⊢
            have hP : va_P (dC, dI) vwCl (wM h r1 d1 r2 d2 cI 2 n F ct n2 G c2) H := hP
            have hD : va_D A (wM h r1 d1 r2 d2 cI 2 n F ct n2 G c2) := hD
            have hw9 : r = 0 := hw9
            subst hw9
            have hcode : x_would n (nI a) (nI b) vr vu = 2 := by simp [x_would, h_a, h_b, show (vu = 0 ∨ vu = 1) from (in_01 vu).mp c_28, c_39, show ¬ x_cr vr = 0 from fun q => absurd ((in_cr vr).mpr q) (by rw [c_48]; decide)]
            have hP8 : va_P (dC, dI) vwCl (wM h r1 d1 r2 d2 cI (nI (x_would n (nI a) (nI b) vr vu)) n F ct n2 G c2) H := by rw [hcode]; exact hP
            have hD8 : va_D A (wM h r1 d1 r2 d2 cI (nI (x_would n (nI a) (nI b) vr vu)) n F ct n2 G c2) := by rw [hcode]; exact hD
            exact W.iret (v := 0) hx hb hr (fun t ht hW => ⟨⟨_, (), rfl, (show 0 = mo (x_would n (nI a) (nI b) vr vu) (if vu = 0 then s_gain F (cl (nI a)) (cl (nI b)) vr else s_gain F (cl (nI b)) (cl (nI a)) (2 - vr)) 0 from by rw [hcode]; rfl), by rw [ht]; exact hP8, hD8⟩, hS.F ht⟩) hS.2.2 dX3_would_56
      · refine lv_aload_n hx hb dX3_would_31 rfl (lv_at hl 0 rfl) ?_
        refine lv_iconst (v := 1) hx hb dX3_would_32 (by decide) ?_
        have hPc := hP.sub (ws' := (wM h r1 d1 r2 d2 cI 0 n F ct n2 G c2)) [0, 1, 2, 3, 4, 5, 6, 7, 8, 9, 10, 11, 12, 13, 14, 15, 16] rfl
        have hDc := hD.sub (ws' := (wM h r1 d1 r2 d2 cI 0 n F ct n2 G c2)) [0, 1, 2, 3, 4, 5, 6, 7, 8, 9, 10, 11, 12, 13, 14, 15, 16] (by decide) rfl
        have hFc := va_free (wc := (wM h r1 d1 r2 d2 cI 0 n F ct n2 G c2)) hD hS hA [0, 1, 2, 3, 4, 5, 6, 7, 8, 9, 10, 11, 12, 13, 14, 15, 16] rfl
        refine va_calli (va_runV (As := [.int 1]) (rest := []) ⟨hx, hb, hml, hown, hts⟩ (c_X3_no l dC dI cI h r1 d1 r2 d2 0 n F ct n2 G c2 H.size 1) (cwV 1 hts gX3_would_X3_no rfl rfl rfl (by decide +kernel) ⟨Nat.le_of_ble_eq_true rfl, Nat.le_of_ble_eq_true rfl⟩) ⟨PW.blind, va_recv hK hP (ci := 3) (q0 := 0) rfl rfl, fun U hU hW => ⟨rfl, PW.go hPc hK hDc hE hS hFc hU hW⟩⟩ rfl rfl hl.1 rfl (lv_room (Nat.le_of_ble_eq_true rfl)) dX3_would_33 ⟨Nat.le_of_ble_eq_true rfl, Nat.le_of_ble_eq_true rfl⟩) hS (fun q _ h9 => hFc q h9) hFc (fun r u9 t9 H1 locs ht9 hvm9 hw9 hB9 hz9 hk9 hS => ?_)
        obtain ⟨hP9, hD9⟩ := hB9
        rw [ht9] at hP9
        obtain ⟨hP, hD⟩ := va_join (wr := []) (w1 := wM h r1 d1 r2 d2 cI 1 n F ct n2 G c2) hP hD [0, 1, 2, 3, 4, 5, 6, 7, 8, 9, 10, 11, 12, 13, 14, 15, 16] [] rfl rfl (by decide) (by decide) hk9 hFc hP9 hD9
        generalize H1 = H at hP hS ⊢
        have hP : va_P (dC, dI) vwCl (wM h r1 d1 r2 d2 cI 1 n F ct n2 G c2) H := hP
        have hD : va_D A (wM h r1 d1 r2 d2 cI 1 n F ct n2 G c2) := hD
        have hw9 : r = 0 := hw9
        subst hw9
        have hcode : x_would n (nI a) (nI b) vr vu = 1 := by simp [x_would, h_a, h_b, show ¬ (vu = 0 ∨ vu = 1) from fun q => absurd ((in_01 vu).mpr q) (by rw [c_28]; decide)]
        have hP8 : va_P (dC, dI) vwCl (wM h r1 d1 r2 d2 cI (nI (x_would n (nI a) (nI b) vr vu)) n F ct n2 G c2) H := by rw [hcode]; exact hP
        have hD8 : va_D A (wM h r1 d1 r2 d2 cI (nI (x_would n (nI a) (nI b) vr vu)) n F ct n2 G c2) := by rw [hcode]; exact hD
        exact W.iret (v := 0) hx hb hr (fun t ht hW => ⟨⟨_, (), rfl, (show 0 = mo (x_would n (nI a) (nI b) vr vu) (if vu = 0 then s_gain F (cl (nI a)) (cl (nI b)) vr else s_gain F (cl (nI b)) (cl (nI a)) (2 - vr)) 0 from by rw [hcode]; rfl), by rw [ht]; exact hP8, hD8⟩, hS.F ht⟩) hS.2.2 dX3_would_36

set_option maxHeartbeats 4000000 in
set_option maxRecDepth 100000 in
theorem c_X3_match (l : Launch) (dC : Nat → ClassId) (dI : Nat → Nat → Nat) (cI : ClassId) (h r1 : Nat) (d1 : Nat → Nat) (r2 : Nat) (d2 : Nat → Nat) (th : Int32) (n : Nat) (F : Nat → Nat → Int32) (ct : Nat → Int32) (n2 : Nat) (G : Nat → Nat → Int32) (c2 : Nat → Int32) (sz : Nat) (va : Int32) (hn : n ≤ 12) (hR : okR n F) : Met l yX3_match wsX3_match ({ frames := 4, cells := 0, slots := 0, locals := 84 } : Room) (va_Pc [.ref h, .int va] (fun U => PW dC dI cI (wM h r1 d1 r2 d2 cI th n F ct n2 G c2) sz U)) (va_Qi (fun r (_ : Unit) => r = mo (x_cw n va) (oI (s_match n F (cl va))) 0) (BW dC dI (va_A (wM h r1 d1 r2 d2 cI th n F ct n2 G c2) sz) (wM h r1 d1 r2 d2 cI (nI (x_cw n va)) n F ct n2 G c2)) (va_A (wM h r1 d1 r2 d2 cI th n F ct n2 G c2) sz)) 0 0 (va_A (wM h r1 d1 r2 d2 cI th n F ct n2 G c2) sz) := by
  refine Met.ofW (cc := cX3_match) (maxL := 2) (ret := (some .int)) (by decide) rfl ?_
  intro p e s m args below meth c s₁ B hml hv
  obtain ⟨rfl, hsz, hP, hK, hD0, hE⟩ := hv
  have hx := B.exec
  have hb := B.bytes
  have hr := B.returns
  have hts := atoms_spec (ws := wsX3_match) B.pre
  have hown : s.vm.findClass RX3 = some m.cls := findClass_of_methodNamed B.named
  have hlocks := B.notSynchronized
  subst hsz
  have hD := hD0.self (sz := s.heap.size)
  generalize hAe : va_A (wM h r1 d1 r2 d2 cI th n F ct n2 G c2) s.heap.size = A at hD hE ⊢
  have hA : ∀ q : Nat, s.heap.size ≤ q → A q := fun q h9 => by rw [← hAe]; exact Or.inr h9
  have hS : va_S A s.heap s.heap [] := va_S.rf
  have hinX3 : ∀ w ∈ wsX30, w ∈ wsX3_match := by decide +kernel
  have hl := lv_entry ([.ref h, .int va]) (n := 2) (Nat.le_of_ble_eq_true rfl)
  rw [lg_entry_eq]
  generalize (lg_sl ([.ref h, .int va]) ++ List.replicate (2 - (lg_sl ([.ref h, .int va])).length) Slot.unset).toArray = ls at hl ⊢
  have hl : lv_has ls 2 [(0, .ref h), (1, .int va)] := hl
  refine lv_aload_n hx hb dX3_match_0 rfl (lv_at hl 0 rfl) ?_
  refine lv_iconst (v := 0) hx hb dX3_match_1 (by decide) ?_
  refine va_put (D := (dC, dI)) (ci := 3) (v := .int 0) (ty := .int) (C := RX3) (T := TX3) (N := 3) hx hb hts hinX3 tyX3 tyX3_ok nmX3 hown hK hP hD hS 0 rfl rfl 0 (by decide) (hts (.fieldLink RX3 19 "WrestleBookModel" "thrown" "I") (by decide +kernel)) (fun _ h9 => h9) rfl (by decide +kernel) rfl rfl (Nat.le_of_ble_eq_true rfl) dX3_match_2 (fun H locs hP hD hS => ?_)
  have hP : va_P (dC, dI) vwCl (wM h r1 d1 r2 d2 cI 0 n F ct n2 G c2) H := hP
  have hD : va_D A (wM h r1 d1 r2 d2 cI 0 n F ct n2 G c2) := hD
  refine lv_aload_n hx hb dX3_match_5 rfl (lv_at hl 0 rfl) ?_
  refine lv_iload_n hx hb dX3_match_6 rfl (lv_at hl 1 rfl) ?_
  refine vp_callSi (W.runV (As := [.int va]) (rest := []) ⟨hx, hb, hml, hown, hts⟩ (c_X3_isWrestler l dC dI cI h r1 d1 r2 d2 0 n F ct n2 G c2 va hn) (cwV 1 hts gX3_match_X3_isWrestler rfl rfl rfl (by decide +kernel) ⟨Nat.le_of_ble_eq_true rfl, Nat.le_of_ble_eq_true rfl⟩) ⟨PR.blind, va_recv hK hP (ci := 3) (q0 := 0) rfl rfl, fun U hU hW => ⟨rfl, PR.go hP hK hE hS hU hW⟩⟩ rfl rfl hl.1 rfl (lv_room (Nat.le_of_ble_eq_true rfl)) dX3_match_7 ⟨Nat.le_of_ble_eq_true rfl, Nat.le_of_ble_eq_true rfl⟩) (fun r hr0 => ?_)
  subst hr0
  refine rv_ifb_eq (tgt := 24) hx hb dX3_match_10 (by decide) (fun c_10 => ?_) (fun c_10 => ?_)
  · refine lv_aload_n hx hb dX3_match_24 rfl (lv_at hl 0 rfl) ?_
    refine lv_iconst (v := 1) hx hb dX3_match_25 (by decide) ?_
    have hPc := hP.sub (ws' := (wM h r1 d1 r2 d2 cI 0 n F ct n2 G c2)) [0, 1, 2, 3, 4, 5, 6, 7, 8, 9, 10, 11, 12, 13, 14, 15, 16] rfl
    have hDc := hD.sub (ws' := (wM h r1 d1 r2 d2 cI 0 n F ct n2 G c2)) [0, 1, 2, 3, 4, 5, 6, 7, 8, 9, 10, 11, 12, 13, 14, 15, 16] (by decide) rfl
    have hFc := va_free (wc := (wM h r1 d1 r2 d2 cI 0 n F ct n2 G c2)) hD hS hA [0, 1, 2, 3, 4, 5, 6, 7, 8, 9, 10, 11, 12, 13, 14, 15, 16] rfl
    refine va_calli (va_runV (As := [.int 1]) (rest := []) ⟨hx, hb, hml, hown, hts⟩ (c_X3_no l dC dI cI h r1 d1 r2 d2 0 n F ct n2 G c2 H.size 1) (cwV 1 hts gX3_match_X3_no rfl rfl rfl (by decide +kernel) ⟨Nat.le_of_ble_eq_true rfl, Nat.le_of_ble_eq_true rfl⟩) ⟨PW.blind, va_recv hK hP (ci := 3) (q0 := 0) rfl rfl, fun U hU hW => ⟨rfl, PW.go hPc hK hDc hE hS hFc hU hW⟩⟩ rfl rfl hl.1 rfl (lv_room (Nat.le_of_ble_eq_true rfl)) dX3_match_26 ⟨Nat.le_of_ble_eq_true rfl, Nat.le_of_ble_eq_true rfl⟩) hS (fun q _ h9 => hFc q h9) hFc (fun r u9 t9 H1 locs ht9 hvm9 hw9 hB9 hz9 hk9 hS => ?_)
    obtain ⟨hP9, hD9⟩ := hB9
    rw [ht9] at hP9
    obtain ⟨hP, hD⟩ := va_join (wr := []) (w1 := wM h r1 d1 r2 d2 cI 1 n F ct n2 G c2) hP hD [0, 1, 2, 3, 4, 5, 6, 7, 8, 9, 10, 11, 12, 13, 14, 15, 16] [] rfl rfl (by decide) (by decide) hk9 hFc hP9 hD9
    generalize H1 = H at hP hS ⊢
    have hP : va_P (dC, dI) vwCl (wM h r1 d1 r2 d2 cI 1 n F ct n2 G c2) H := hP
    have hD : va_D A (wM h r1 d1 r2 d2 cI 1 n F ct n2 G c2) := hD
    have hw9 : r = 0 := hw9
    subst hw9
    have hcode : x_cw n va = 1 := by simp [x_cw, c_10]
    have hP8 : va_P (dC, dI) vwCl (wM h r1 d1 r2 d2 cI (nI (x_cw n va)) n F ct n2 G c2) H := by rw [hcode]; exact hP
    have hD8 : va_D A (wM h r1 d1 r2 d2 cI (nI (x_cw n va)) n F ct n2 G c2) := by rw [hcode]; exact hD
    exact W.iret (v := 0) hx hb hr (fun t ht hW => ⟨⟨_, (), rfl, (show 0 = mo (x_cw n va) (oI (s_match n F (cl va))) 0 from by rw [hcode]; rfl), by rw [ht]; exact hP8, hD8⟩, hS.F ht⟩) hS.2.2 dX3_match_29
  · obtain ⟨a, i_a, rfl⟩ := s_has_nat hn c_10
    have h_a := s_has_nI hn i_a
    refine lv_aload_n hx hb dX3_match_13 rfl (lv_at hl 0 rfl) ?_
    refine va_get (D := (dC, dI)) (ci := 3) (v := .ref r1) (C := RX3) (T := TX3) (N := 3) hx hb hts hinX3 hown hK hP 0 rfl rfl 1 (by decide) (hts (.fieldLink RX3 10 "WrestleBookModel" "s" "LWrestleBookModel$State;") (by decide +kernel)) (fun _ h9 => h9) rfl dX3_match_14 ?_
    refine lv_iload_n hx hb dX3_match_17 rfl (lv_at hl 1 rfl) ?_
    refine vp_callSi (W.runV (As := [.int (nI a)]) (rest := []) ⟨hx, hb, hml, hown, hts⟩ (c_X2_match l dC dI cI r1 d1 n F ct a (show a < n by omega) hn hR) (cwV 1 hts gX3_match_X2_match rfl rfl rfl (by decide +kernel) ⟨Nat.le_of_ble_eq_true rfl, Nat.le_of_ble_eq_true rfl⟩) ⟨PR.blind, va_recv hK hP (ci := 2) (q0 := 1) rfl rfl, fun U hU hW => ⟨rfl, PR.go (hP.sub (ws' := (wS r1 d1 cI n F ct)) [1, 2, 3, 4, 5, 6, 7, 8] rfl) hK hE hS hU hW⟩⟩ rfl rfl hl.1 rfl (lv_room (Nat.le_of_ble_eq_true rfl)) dX3_match_18 ⟨Nat.le_of_ble_eq_true rfl, Nat.le_of_ble_eq_true rfl⟩) (fun r hr0 => ?_)
    subst hr0
    refine lv_goto (tgt := 29) hx hb dX3_match_21 (by decide) ?_
    have hcode : x_cw n (nI a) = 0 := by simp [x_cw, h_a]
    have hP8 : va_P (dC, dI) vwCl (wM h r1 d1 r2 d2 cI (nI (x_cw n (nI a))) n F ct n2 G c2) H := by rw [hcode]; exact hP
    have hD8 : va_D A (wM h r1 d1 r2 d2 cI (nI (x_cw n (nI a))) n F ct n2 G c2) := by rw [hcode]; exact hD
    exact W.iret (v := oI (s_match n F a)) hx hb hr (fun t ht hW => ⟨⟨_, (), rfl, (show oI (s_match n F a) = mo (x_cw n (nI a)) (oI (s_match n F (cl (nI a)))) 0 from by rw [hcode, mo_0]; rw [cl_nI (show a < 2 ^ 31 by omega)]), by rw [ht]; exact hP8, hD8⟩, hS.F ht⟩) hS.2.2 dX3_match_29

set_option maxHeartbeats 4000000 in
set_option maxRecDepth 100000 in
theorem c_X3_next (l : Launch) (dC : Nat → ClassId) (dI : Nat → Nat → Nat) (cI : ClassId) (h r1 : Nat) (d1 : Nat → Nat) (r2 : Nat) (d2 : Nat → Nat) (th : Int32) (n : Nat) (F : Nat → Nat → Int32) (ct : Nat → Int32) (n2 : Nat) (G : Nat → Nat → Int32) (c2 : Nat → Int32) (sz : Nat) (hn : n ≤ 12) (hR : okR n F) (hB : okB n F) : Met l yX3_next wsX3_next ({ frames := 4, cells := 0, slots := 0, locals := 86 } : Room) (va_Pc [.ref h] (fun U => PW dC dI cI (wM h r1 d1 r2 d2 cI th n F ct n2 G c2) sz U)) (va_Qi (fun r (_ : Unit) => r = s_next n F) (BW dC dI (va_A (wM h r1 d1 r2 d2 cI th n F ct n2 G c2) sz) (wM h r1 d1 r2 d2 cI 0 n F ct n2 G c2)) (va_A (wM h r1 d1 r2 d2 cI th n F ct n2 G c2) sz)) 0 0 (va_A (wM h r1 d1 r2 d2 cI th n F ct n2 G c2) sz) := by
  refine Met.ofW (cc := cX3_next) (maxL := 1) (ret := (some .int)) (by decide) rfl ?_
  intro p e s m args below meth c s₁ B hml hv
  obtain ⟨rfl, hsz, hP, hK, hD0, hE⟩ := hv
  have hx := B.exec
  have hb := B.bytes
  have hr := B.returns
  have hts := atoms_spec (ws := wsX3_next) B.pre
  have hown : s.vm.findClass RX3 = some m.cls := findClass_of_methodNamed B.named
  have hlocks := B.notSynchronized
  subst hsz
  have hD := hD0.self (sz := s.heap.size)
  generalize hAe : va_A (wM h r1 d1 r2 d2 cI th n F ct n2 G c2) s.heap.size = A at hD hE ⊢
  have hA : ∀ q : Nat, s.heap.size ≤ q → A q := fun q h9 => by rw [← hAe]; exact Or.inr h9
  have hS : va_S A s.heap s.heap [] := va_S.rf
  have hinX3 : ∀ w ∈ wsX30, w ∈ wsX3_next := by decide +kernel
  have hl := lv_entry ([.ref h]) (n := 1) (Nat.le_of_ble_eq_true rfl)
  rw [lg_entry_eq]
  generalize (lg_sl ([.ref h]) ++ List.replicate (1 - (lg_sl ([.ref h])).length) Slot.unset).toArray = ls at hl ⊢
  have hl : lv_has ls 1 [(0, .ref h)] := hl
  refine lv_aload_n hx hb dX3_next_0 rfl (lv_at hl 0 rfl) ?_
  refine lv_iconst (v := 0) hx hb dX3_next_1 (by decide) ?_
  refine va_put (D := (dC, dI)) (ci := 3) (v := .int 0) (ty := .int) (C := RX3) (T := TX3) (N := 3) hx hb hts hinX3 tyX3 tyX3_ok nmX3 hown hK hP hD hS 0 rfl rfl 0 (by decide) (hts (.fieldLink RX3 19 "WrestleBookModel" "thrown" "I") (by decide +kernel)) (fun _ h9 => h9) rfl (by decide +kernel) rfl rfl (Nat.le_of_ble_eq_true rfl) dX3_next_2 (fun H locs hP hD hS => ?_)
  have hP : va_P (dC, dI) vwCl (wM h r1 d1 r2 d2 cI 0 n F ct n2 G c2) H := hP
  have hD : va_D A (wM h r1 d1 r2 d2 cI 0 n F ct n2 G c2) := hD
  refine lv_aload_n hx hb dX3_next_5 rfl (lv_at hl 0 rfl) ?_
  refine va_get (D := (dC, dI)) (ci := 3) (v := .ref r1) (C := RX3) (T := TX3) (N := 3) hx hb hts hinX3 hown hK hP 0 rfl rfl 1 (by decide) (hts (.fieldLink RX3 10 "WrestleBookModel" "s" "LWrestleBookModel$State;") (by decide +kernel)) (fun _ h9 => h9) rfl dX3_next_6 ?_
  refine vp_callSi (W.runV (As := []) (rest := []) ⟨hx, hb, hml, hown, hts⟩ (c_X2_next l dC dI cI r1 d1 n F ct hn hR hB) (cwV 0 hts gX3_next_X2_next rfl rfl rfl (by decide +kernel) ⟨Nat.le_of_ble_eq_true rfl, Nat.le_of_ble_eq_true rfl⟩) ⟨PR.blind, va_recv hK hP (ci := 2) (q0 := 1) rfl rfl, fun U hU hW => ⟨rfl, PR.go (hP.sub (ws' := (wS r1 d1 cI n F ct)) [1, 2, 3, 4, 5, 6, 7, 8] rfl) hK hE hS hU hW⟩⟩ rfl rfl hl.1 rfl (lv_room (Nat.le_of_ble_eq_true rfl)) dX3_next_9 ⟨Nat.le_of_ble_eq_true rfl, Nat.le_of_ble_eq_true rfl⟩) (fun r hr0 => ?_)
  subst hr0
  have hP8 : va_P (dC, dI) vwCl (wM h r1 d1 r2 d2 cI 0 n F ct n2 G c2) H := hP
  have hD8 : va_D A (wM h r1 d1 r2 d2 cI 0 n F ct n2 G c2) := hD
  exact W.iret (v := s_next n F) hx hb hr (fun t ht hW => ⟨⟨_, (), rfl, (show s_next n F = s_next n F from by rfl), by rw [ht]; exact hP8, hD8⟩, hS.F ht⟩) hS.2.2 dX3_next_12
