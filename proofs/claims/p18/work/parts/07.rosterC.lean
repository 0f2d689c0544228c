/-! Roster, writers -/
def s_add (F : Nat → Nat → Int32) (n : Nat) (x : Int32) : Nat → Nat → Int32 := pu (pu (pu F 0 n x) 1 n 1000) 6 n 1000
def s_note (F : Nat → Nat → Int32) (w q : Nat) : Nat → Nat → Int32 := pu (pu (pu (pu F 2 w (F 2 w + nI q)) 3 w (F 3 w + 1)) 4 w (F 4 w + 1)) 5 w (if q = 2 then F 5 w + 1 else 0)
def s_enter (F : Nat → Nat → Int32) (w : Nat) (g : Int32) (q : Nat) : Nat → Nat → Int32 := s_note (s_set F w (F 1 w + g)) w q
def s_hold (F : Nat → Nat → Int32) (a b q : Nat) : Nat → Nat → Int32 := s_enter (s_enter F a (s_gain F a b (nI q)) q) b (s_gain F b a (nI (2 - q))) (2 - q)
def s_har (F : Nat → Nat → Int32) (a b : Nat) : Nat → Nat → Int32 := s_hold F a b (if F 1 a < F 1 b then 0 else 2)
def s_driftU (F : Nat → Nat → Int32) (m : Nat) : Nat → Nat → Int32 := fo (fun k G => if (3 : Int32) ≤ G 4 k then G else s_set G k (G 1 k - (G 1 k - 1000) / 8)) F m
def s_drift (n : Nat) (F : Nat → Nat → Int32) : Nat → Nat → Int32 := s_driftU F n
def s_clearU (F : Nat → Nat → Int32) (m : Nat) : Nat → Nat → Int32 := fo (fun k G => pu (pu G 2 k 0) 4 k 0) F m
def s_clear (n : Nat) (F : Nat → Nat → Int32) : Nat → Nat → Int32 := s_clearU F n
def s_exchB (n : Nat) (F : Nat → Nat → Int32) (p : Int32) : Bool := match s_at n F p (nI (s_many n F p)), s_at n F (p + 1) 1 with
  | some a, some b => decide (F 2 a < F 2 b)
  | _, _ => false
def s_exch (n : Nat) (F : Nat → Nat → Int32) (p : Int32) : Nat → Nat → Int32 := match s_at n F p (nI (s_many n F p)), s_at n F (p + 1) 1 with
  | some a, some b => if F 2 a < F 2 b then pu (pu F 0 a (p + 1)) 0 b p else F
  | _, _ => F
def s_copyU (G F : Nat → Nat → Int32) (m : Nat) : Nat → Nat → Int32 := fo (fun k X => pu (pu (pu (pu (pu (pu (pu X 0 k (G 0 k)) 1 k (G 1 k)) 2 k (G 2 k)) 3 k (G 3 k)) 4 k (G 4 k)) 5 k (G 5 k)) 6 k (G 6 k)) F m
set_option maxHeartbeats 4000000 in
set_option maxRecDepth 100000 in
theorem c_X0_add (l : Launch) (dC : Nat → ClassId) (dI : Nat → Nat → Nat) (cI : ClassId) (h : Nat) (ad : Nat → Nat) (n : Nat) (F : Nat → Nat → Int32) (sz : Nat) (hn2 : n < 12) (vx : Int32) : Met l yX0_add wsX0_add ({ frames := 0, cells := 0, slots := 0, locals := 0 } : Room) (va_Pc [.ref h, .int vx] (fun U => PW dC dI cI (wR h ad cI n F) sz U)) (va_Qi (fun r (_ : Unit) => r = nI n) (BW dC dI (va_A (wR h ad cI n F) sz) (wR h ad cI (n + 1) (s_add F n vx))) (va_A (wR h ad cI n F) sz)) 0 0 (va_A (wR h ad cI n F) sz) := by
  refine Met.ofW (cc := cX0_add) (maxL := 3) (ret := (some .int)) (by decide) rfl ?_
  intro p e s m args below meth c s₁ B hml hv
  obtain ⟨rfl, hsz, hP, hK, hD0, hE⟩ := hv
  have hx := B.exec
  have hb := B.bytes
  have hr := B.returns
  have hts := atoms_spec (ws := wsX0_add) B.pre
  have hown : s.vm.findClass RX0 = some m.cls := findClass_of_methodNamed B.named
  have hlocks := B.notSynchronized
  subst hsz
  have hD := hD0.self (sz := s.heap.size)
  generalize hAe : va_A (wR h ad cI n F) s.heap.size = A at hD hE ⊢
  have hA : ∀ q : Nat, s.heap.size ≤ q → A q := fun q h9 => by rw [← hAe]; exact Or.inr h9
  have hS : va_S A s.heap s.heap [] := va_S.rf
  have hinX0 : ∀ w ∈ wsX00, w ∈ wsX0_add := by decide +kernel
  have hl := lv_entry ([.ref h, .int vx]) (n := 3) (Nat.le_of_ble_eq_true rfl)
  rw [lg_entry_eq]
  generalize (lg_sl ([.ref h, .int vx]) ++ List.replicate (3 - (lg_sl ([.ref h, .int vx])).length) Slot.unset).toArray = ls at hl ⊢
  have hl : lv_has ls 3 [(0, .ref h), (1, .int vx)] := hl
  refine lv_aload_n hx hb dX0_add_0 rfl (lv_at hl 0 rfl) ?_
  refine va_get (D := (dC, dI)) (ci := 0) (v := .int (nI n)) (C := RX0) (T := TX0) (N := 8) hx hb hts hinX0 hown hK hP 0 rfl rfl 7 (by decide) (hts (.fieldLink RX0 33 "WrestleBook$Roster" "size" "I") (by decide +kernel)) (fun _ h9 => h9) rfl dX0_add_1 ?_
  refine lv_istore_n (lv' := [(2, .int (nI n)), (0, .ref h), (1, .int vx)]) hx hb dX0_add_4 rfl hl (by decide) rfl (fun ls hl => ?_)
  refine lv_aload_n hx hb dX0_add_5 rfl (lv_at hl 1 rfl) ?_
  refine va_get (D := (dC, dI)) (ci := 0) (v := .ref (ad 0)) (C := RX0) (T := TX0) (N := 8) hx hb hts hinX0 hown hK hP 0 rfl rfl 0 (by decide) (hts (.fieldLink RX0 9 "WrestleBook$Roster" "leagues" "[I") (by decide +kernel)) (fun _ h9 => h9) rfl dX0_add_6 ?_
  refine lv_iload_n hx hb dX0_add_9 rfl (lv_at hl 0 rfl) ?_
  refine lv_iload_n hx hb dX0_add_10 rfl (lv_at hl 2 rfl) ?_
  refine rv_iast (k := n) hx hb hK hP hD hS 1 0 rfl rfl (show n < 12 by omega) (by decide) dX0_add_11 (fun H locs hP hD hS => ?_)
  have hP : va_P (dC, dI) vwCl (wR h ad cI n (pu F 0 n vx)) H := hP
  have hD : va_D A (wR h ad cI n (pu F 0 n vx)) := hD
  refine lv_aload_n hx hb dX0_add_12 rfl (lv_at hl 1 rfl) ?_
  refine va_get (D := (dC, dI)) (ci := 0) (v := .ref (ad 1)) (C := RX0) (T := TX0) (N := 8) hx hb hts hinX0 hown hK hP 0 rfl rfl 1 (by decide) (hts (.fieldLink RX0 15 "WrestleBook$Roster" "ratings" "[I") (by decide +kernel)) (fun _ h9 => h9) rfl dX0_add_13 ?_
  refine lv_iload_n hx hb dX0_add_16 rfl (lv_at hl 0 rfl) ?_
  refine lv_sipush (v := 1000) hx hb dX0_add_17 (by decide) ?_
  refine rv_iast (k := n) hx hb hK hP hD hS 2 0 rfl rfl (show n < 12 by omega) (by decide) dX0_add_20 (fun H locs hP hD hS => ?_)
  have hP : va_P (dC, dI) vwCl (wR h ad cI n (pu (pu F 0 n vx) 1 n 1000)) H := hP
  have hD : va_D A (wR h ad cI n (pu (pu F 0 n vx) 1 n 1000)) := hD
  refine lv_aload_n hx hb dX0_add_21 rfl (lv_at hl 1 rfl) ?_
  refine va_get (D := (dC, dI)) (ci := 0) (v := .ref (ad 6)) (C := RX0) (T := TX0) (N := 8) hx hb hts hinX0 hown hK hP 0 rfl rfl 6 (by decide) (hts (.fieldLink RX0 30 "WrestleBook$Roster" "bests" "[I") (by decide +kernel)) (fun _ h9 => h9) rfl dX0_add_22 ?_
  refine lv_iload_n hx hb dX0_add_25 rfl (lv_at hl 0 rfl) ?_
  refine lv_sipush (v := 1000) hx hb dX0_add_26 (by decide) ?_
  refine rv_iast (k := n) hx hb hK hP hD hS 7 0 rfl rfl (show n < 12 by omega) (by decide) dX0_add_29 (fun H locs hP hD hS => ?_)
  have hP : va_P (dC, dI) vwCl (wR h ad cI n (pu (pu (pu F 0 n vx) 1 n 1000) 6 n 1000)) H := hP
  have hD : va_D A (wR h ad cI n (pu (pu (pu F 0 n vx) 1 n 1000) 6 n 1000)) := hD
  refine lv_aload_n hx hb dX0_add_30 rfl (lv_at hl 1 rfl) ?_
  refine lv_dup hx hb dX0_add_31 rfl ?_
  refine va_get (D := (dC, dI)) (ci := 0) (v := .int (nI n)) (C := RX0) (T := TX0) (N := 8) hx hb hts hinX0 hown hK hP 0 rfl rfl 7 (by decide) (hts (.fieldLink RX0 33 "WrestleBook$Roster" "size" "I") (by decide +kernel)) (fun _ h9 => h9) rfl dX0_add_32 ?_
  refine lv_iconst (v := 1) hx hb dX0_add_35 (by decide) ?_
  refine lv_iadd hx hb dX0_add_36 ?_
  refine rv_top (y := nI (n + 1)) (nI_1 n) ?_
  refine va_put (D := (dC, dI)) (ci := 0) (v := .int (nI (n + 1))) (ty := .int) (C := RX0) (T := TX0) (N := 8) hx hb hts hinX0 tyX0 tyX0_ok nmX0 hown hK hP hD hS 0 rfl rfl 7 (by decide) (hts (.fieldLink RX0 33 "WrestleBook$Roster" "size" "I") (by decide +kernel)) (fun _ h9 => h9) rfl (by decide +kernel) rfl rfl (Nat.le_of_ble_eq_true rfl) dX0_add_37 (fun H locs hP hD hS => ?_)
  have hP : va_P (dC, dI) vwCl (wR h ad cI (n + 1) (pu (pu (pu F 0 n vx) 1 n 1000) 6 n 1000)) H := hP
  have hD : va_D A (wR h ad cI (n + 1) (pu (pu (pu F 0 n vx) 1 n 1000) 6 n 1000)) := hD
  refine lv_iload_n hx hb dX0_add_40 rfl (lv_at hl 0 rfl) ?_
  have hP8 : va_P (dC, dI) vwCl (wR h ad cI (n + 1) (s_add F n vx)) H := hP
  have hD8 : va_D A (wR h ad cI (n + 1) (s_add F n vx)) := hD
  exact W.iret (v := nI n) hx hb hr (fun t ht hW => ⟨⟨_, (), rfl, (show nI n = nI n from by rfl), by rw [ht]; exact hP8, hD8⟩, hS.F ht⟩) hS.2.2 dX0_add_41

set_option maxHeartbeats 4000000 in
set_option maxRecDepth 100000 in
theorem c_X0_setRating (l : Launch) (dC : Nat → ClassId) (dI : Nat → Nat → Nat) (cI : ClassId) (h : Nat) (ad : Nat → Nat) (n : Nat) (F : Nat → Nat → Int32) (sz : Nat) (w : Nat) (i_w : w < n) (vx : Int32) (hn : n ≤ 12) : Met l yX0_setRating wsX0_setRating ({ frames := 1, cells := 0, slots := 0, locals := 15 } : Room) (va_Pc [.ref h, .int (nI w), .int vx] (fun U => PW dC dI cI (wR h ad cI n F) sz U)) (va_Qv (fun (_ : Unit) => True) (BW dC dI (va_A (wR h ad cI n F) sz) (wR h ad cI n (s_set F w vx))) (va_A (wR h ad cI n F) sz)) 0 0 (va_A (wR h ad cI n F) sz) := by
  refine Met.ofW (cc := cX0_setRating) (maxL := 3) (ret := none) (by decide) rfl ?_
  intro p e s m args below meth c s₁ B hml hv
  obtain ⟨rfl, hsz, hP, hK, hD0, hE⟩ := hv
  have hx := B.exec
  have hb := B.bytes
  have hr := B.returns
  have hts := atoms_spec (ws := wsX0_setRating) B.pre
  have hown : s.vm.findClass RX0 = some m.cls := findClass_of_methodNamed B.named
  have hlocks := B.notSynchronized
  subst hsz
  have hD := hD0.self (sz := s.heap.size)
  generalize hAe : va_A (wR h ad cI n F) s.heap.size = A at hD hE ⊢
  have hA : ∀ q : Nat, s.heap.size ≤ q → A q := fun q h9 => by rw [← hAe]; exact Or.inr h9
  have hS : va_S A s.heap s.heap [] := va_S.rf
  have hinX0 : ∀ w ∈ wsX00, w ∈ wsX0_setRating := by decide +kernel
  have hl := lv_entry ([.ref h, .int (nI w), .int vx]) (n := 3) (Nat.le_of_ble_eq_true rfl)
  rw [lg_entry_eq]
  generalize (lg_sl ([.ref h, .int (nI w), .int vx]) ++ List.replicate (3 - (lg_sl ([.ref h, .int (nI w), .int vx])).length) Slot.unset).toArray = ls at hl ⊢
  have hl : lv_has ls 3 [(0, .ref h), (1, .int (nI w)), (2, .int vx)] := hl
  refine lv_aload_n hx hb dX0_setRating_0 rfl (lv_at hl 0 rfl) ?_
  refine va_get (D := (dC, dI)) (ci := 0) (v := .ref (ad 1)) (C := RX0) (T := TX0) (N := 8) hx hb hts hinX0 hown hK hP 0 rfl rfl 1 (by decide) (hts (.fieldLink RX0 15 "WrestleBook$Roster" "ratings" "[I") (by decide +kernel)) (fun _ h9 => h9) rfl dX0_setRating_1 ?_
  refine lv_iload_n hx hb dX0_setRating_4 rfl (lv_at hl 1 rfl) ?_
  refine lv_iload_n hx hb dX0_setRating_5 rfl (lv_at hl 2 rfl) ?_
  refine rv_iast (k := w) hx hb hK hP hD hS 2 0 rfl rfl (show w < 12 by omega) (by decide) dX0_setRating_6 (fun H locs hP hD hS => ?_)
  have hP : va_P (dC, dI) vwCl (wR h ad cI n (pu F 1 w vx)) H := hP
  have hD : va_D A (wR h ad cI n (pu F 1 w vx)) := hD
  refine lv_aload_n hx hb dX0_setRating_7 rfl (lv_at hl 0 rfl) ?_
  refine va_get (D := (dC, dI)) (ci := 0) (v := .ref (ad 6)) (C := RX0) (T := TX0) (N := 8) hx hb hts hinX0 hown hK hP 0 rfl rfl 6 (by decide) (hts (.fieldLink RX0 30 "WrestleBook$Roster" "bests" "[I") (by decide +kernel)) (fun _ h9 => h9) rfl dX0_setRating_8 ?_
  refine lv_iload_n hx hb dX0_setRating_11 rfl (lv_at hl 1 rfl) ?_
  refine lv_aload_n hx hb dX0_setRating_12 rfl (lv_at hl 0 rfl) ?_
  refine va_get (D := (dC, dI)) (ci := 0) (v := .ref (ad 6)) (C := RX0) (T := TX0) (N := 8) hx hb hts hinX0 hown hK hP 0 rfl rfl 6 (by decide) (hts (.fieldLink RX0 30 "WrestleBook$Roster" "bests" "[I") (by decide +kernel)) (fun _ h9 => h9) rfl dX0_setRating_13 ?_
  refine lv_iload_n hx hb dX0_setRating_16 rfl (lv_at hl 1 rfl) ?_
  refine rv_iald (k := w) hx hb hK hP 7 0 rfl rfl (show w < 12 by omega) (by decide) dX0_setRating_17 ?_
  refine lv_iload_n hx hb dX0_setRating_18 rfl (lv_at hl 2 rfl) ?_
  refine va_mmax hx hb (hml.trans hl.1.symm) hown (hts (.methodLink RX0 37 Lib.Math.max.name) (by decide +kernel)) (hts (.static Lib.Math.max.name) (by decide +kernel)) (hts (.initialized "java/lang/Math") (by decide +kernel)) (hts (.code Lib.Math.max.name Lib.Math.max.code 2 (some .int)) (by decide +kernel)) (Nat.le_of_ble_eq_true rfl) (Nat.le_of_ble_eq_true rfl) (Nat.zero_le _) (Nat.zero_le _) dX0_setRating_19 ?_
  refine rv_top (y := maxI (F 6 w) vx) (by simp [pu_app, maxI]) ?_
  refine rv_iast (k := w) hx hb hK hP hD hS 7 0 rfl rfl (show w < 12 by omega) (by decide) dX0_setRating_22 (fun H locs hP hD hS => ?_)
  have hP : va_P (dC, dI) vwCl (wR h ad cI n (pu (pu F 1 w vx) 6 w (maxI (F 6 w) vx))) H := hP
  have hD : va_D A (wR h ad cI n (pu (pu F 1 w vx) 6 w (maxI (F 6 w) vx))) := hD
  have hP8 : va_P (dC, dI) vwCl (wR h ad cI n (s_set F w vx)) H := hP
  have hD8 : va_D A (wR h ad cI n (s_set F w vx)) := hD
  exact W.vret hx hb hr (fun t ht hW => ⟨⟨(), rfl, trivial, by rw [ht]; exact hP8, hD8⟩, hS.F ht⟩) hS.2.2 dX0_setRating_23

set_option maxHeartbeats 4000000 in
set_option maxRecDepth 100000 in
theorem c_X0_enter (l : Launch) (dC : Nat → ClassId) (dI : Nat → Nat → Nat) (cI : ClassId) (h : Nat) (ad : Nat → Nat) (n : Nat) (F : Nat → Nat → Int32) (sz : Nat) (w : Nat) (i_w : w < n) (vg : Int32) (q : Nat) (hq : q ≤ 2) (hn : n ≤ 12) : Met l yX0_enter wsX0_enter ({ frames := 2, cells := 0, slots := 0, locals := 37 } : Room) (va_Pc [.ref h, .int (nI w), .int vg, .int (nI q)] (fun U => PW dC dI cI (wR h ad cI n F) sz U)) (va_Qv (fun (_ : Unit) => True) (BW dC dI (va_A (wR h ad cI n F) sz) (wR h ad cI n (s_enter F w vg q))) (va_A (wR h ad cI n F) sz)) 0 0 (va_A (wR h ad cI n F) sz) := by
  refine Met.ofW (cc := cX0_enter) (maxL := 4) (ret := none) (by decide) rfl ?_
  intro p e s m args below meth c s₁ B hml hv
  obtain ⟨rfl, hsz, hP, hK, hD0, hE⟩ := hv
  have hx := B.exec
  have hb := B.bytes
  have hr := B.returns
  have hts := atoms_spec (ws := wsX0_enter) B.pre
  have hown : s.vm.findClass RX0 = some m.cls := findClass_of_methodNamed B.named
  have hlocks := B.notSynchronized
  subst hsz
  have hD := hD0.self (sz := s.heap.size)
  generalize hAe : va_A (wR h ad cI n F) s.heap.size = A at hD hE ⊢
  have hA : ∀ q : Nat, s.heap.size ≤ q → A q := fun q h9 => by rw [← hAe]; exact Or.inr h9
  have hS : va_S A s.heap s.heap [] := va_S.rf
  have hinX0 : ∀ w ∈ wsX00, w ∈ wsX0_enter := by decide +kernel
  have hl := lv_entry ([.ref h, .int (nI w), .int vg, .int (nI q)]) (n := 4) (Nat.le_of_ble_eq_true rfl)
  rw [lg_entry_eq]
  generalize (lg_sl ([.ref h, .int (nI w), .int vg, .int (nI q)]) ++ List.replicate (4 - (lg_sl ([.ref h, .int (nI w), .int vg, .int (nI q)])).length) Slot.unset).toArray = ls at hl ⊢
  have hl : lv_has ls 4 [(0, .ref h), (1, .int (nI w)), (2, .int vg), (3, .int (nI q))] := hl
  refine lv_aload_n hx hb dX0_enter_0 rfl (lv_at hl 0 rfl) ?_
  refine lv_iload_n hx hb dX0_enter_1 rfl (lv_at hl 1 rfl) ?_
  refine lv_aload_n hx hb dX0_enter_2 rfl (lv_at hl 0 rfl) ?_
  refine va_get (D := (dC, dI)) (ci := 0) (v := .ref (ad 1)) (C := RX0) (T := TX0) (N := 8) hx hb hts hinX0 hown hK hP 0 rfl rfl 1 (by decide) (hts (.fieldLink RX0 15 "WrestleBook$Roster" "ratings" "[I") (by decide +kernel)) (fun _ h9 => h9) rfl dX0_enter_3 ?_
  refine lv_iload_n hx hb dX0_enter_6 rfl (lv_at hl 1 rfl) ?_
  refine rv_iald (k := w) hx hb hK hP 2 0 rfl rfl (show w < 12 by omega) (by decide) dX0_enter_7 ?_
  refine lv_iload_n hx hb dX0_enter_8 rfl (lv_at hl 2 rfl) ?_
  refine lv_iadd hx hb dX0_enter_9 ?_
  have hPc := hP.sub (ws' := (wR h ad cI n F)) [0, 1, 2, 3, 4, 5, 6, 7] rfl
  have hDc := hD.sub (ws' := (wR h ad cI n F)) [0, 1, 2, 3, 4, 5, 6, 7] (by decide) rfl
  have hFc := va_free (wc := (wR h ad cI n F)) hD hS hA [0, 1, 2, 3, 4, 5, 6, 7] rfl
  refine va_callv (va_runV (As := [.int (nI w), .int ((F 1 w) + vg)]) (rest := []) ⟨hx, hb, hml, hown, hts⟩ (c_X0_setRating l dC dI cI h ad n F s.heap.size w (show w < n by omega) ((F 1 w) + vg) hn) (cwV 2 hts gX0_enter_X0_setRating rfl rfl rfl (by decide +kernel) ⟨Nat.le_of_ble_eq_true rfl, Nat.le_of_ble_eq_true rfl⟩) ⟨PW.blind, va_recv hK hP (ci := 0) (q0 := 0) rfl rfl, fun U hU hW => ⟨rfl, PW.go hPc hK hDc hE hS hFc hU hW⟩⟩ rfl rfl hl.1 rfl (lv_room (Nat.le_of_ble_eq_true rfl)) dX0_enter_10 ⟨Nat.le_of_ble_eq_true rfl, Nat.le_of_ble_eq_true rfl⟩) hS (fun q _ h9 => hFc q h9) hFc (fun u9 t9 H1 locs ht9 hvm9 hw9 hB9 hz9 hk9 hS => ?_)
  obtain ⟨hP9, hD9⟩ := hB9
  rw [ht9] at hP9
  obtain ⟨hP, hD⟩ := va_join (wr := []) (w1 := wR h ad cI n (s_set F w ((F 1 w) + vg))) hP hD [0, 1, 2, 3, 4, 5, 6, 7] [] rfl rfl (by decide) (by decide) hk9 hFc hP9 hD9
  generalize H1 = H at hP hS ⊢
  have hP : va_P (dC, dI) vwCl (wR h ad cI n (s_set F w ((F 1 w) + vg))) H := hP
  have hD : va_D A (wR h ad cI n (s_set F w ((F 1 w) + vg))) := hD
  refine lv_aload_n hx hb dX0_enter_13 rfl (lv_at hl 0 rfl) ?_
  refine va_get (D := (dC, dI)) (ci := 0) (v := .ref (ad 2)) (C := RX0) (T := TX0) (N := 8) hx hb hts hinX0 hown hK hP 0 rfl rfl 2 (by decide) (hts (.fieldLink RX0 18 "WrestleBook$Roster" "points" "[I") (by decide +kernel)) (fun _ h9 => h9) rfl dX0_enter_14 ?_
  refine lv_iload_n hx hb dX0_enter_17 rfl (lv_at hl 1 rfl) ?_
  refine lv_dup2_11 hx hb dX0_enter_18 rfl rfl ?_
  refine rv_iald (k := w) hx hb hK hP 3 0 rfl rfl (show w < 12 by omega) (by decide) dX0_enter_19 ?_
  refine lv_iload_n hx hb dX0_enter_20 rfl (lv_at hl 3 rfl) ?_
  refine lv_iadd hx hb dX0_enter_21 ?_
  refine rv_iast (k := w) hx hb hK hP hD hS 3 0 rfl rfl (show w < 12 by omega) (by decide) dX0_enter_22 (fun H locs hP hD hS => ?_)
  have hP : va_P (dC, dI) vwCl (wR h ad cI n (pu (s_set F w ((F 1 w) + vg)) 2 w (((s_set F w ((F 1 w) + vg)) 2 w) + (nI q)))) H := hP
  have hD : va_D A (wR h ad cI n (pu (s_set F w ((F 1 w) + vg)) 2 w (((s_set F w ((F 1 w) + vg)) 2 w) + (nI q)))) := hD
  refine lv_aload_n hx hb dX0_enter_23 rfl (lv_at hl 0 rfl) ?_
  refine va_get (D := (dC, dI)) (ci := 0) (v := .ref (ad 3)) (C := RX0) (T := TX0) (N := 8) hx hb hts hinX0 hown hK hP 0 rfl rfl 3 (by decide) (hts (.fieldLink RX0 21 "WrestleBook$Roster" "bouts" "[I") (by decide +kernel)) (fun _ h9 => h9) rfl dX0_enter_24 ?_
  refine lv_iload_n hx hb dX0_enter_27 rfl (lv_at hl 1 rfl) ?_
  refine lv_dup2_11 hx hb dX0_enter_28 rfl rfl ?_
  refine rv_iald (k := w) hx hb hK hP 4 0 rfl rfl (show w < 12 by omega) (by decide) dX0_enter_29 ?_
  refine lv_iconst (v := 1) hx hb dX0_enter_30 (by decide) ?_
  refine lv_iadd hx hb dX0_enter_31 ?_
  refine rv_top (y := (s_set F w (F 1 w + vg)) 3 w + 1) (by simp [pu_app]) ?_
  refine rv_iast (k := w) hx hb hK hP hD hS 4 0 rfl rfl (show w < 12 by omega) (by decide) dX0_enter_32 (fun H locs hP hD hS => ?_)
  have hP : va_P (dC, dI) vwCl (wR h ad cI n (pu (pu (s_set F w ((F 1 w) + vg)) 2 w (((s_set F w ((F 1 w) + vg)) 2 w) + (nI q))) 3 w ((s_set F w (F 1 w + vg)) 3 w + 1))) H := hP
  have hD : va_D A (wR h ad cI n (pu (pu (s_set F w ((F 1 w) + vg)) 2 w (((s_set F w ((F 1 w) + vg)) 2 w) + (nI q))) 3 w ((s_set F w (F 1 w + vg)) 3 w + 1))) := hD
  refine lv_aload_n hx hb dX0_enter_33 rfl (lv_at hl 0 rfl) ?_
  refine va_get (D := (dC, dI)) (ci := 0) (v := .ref (ad 4)) (C := RX0) (T := TX0) (N := 8) hx hb hts hinX0 hown hK hP 0 rfl rfl 4 (by decide) (hts (.fieldLink RX0 24 "WrestleBook$Roster" "seasonBouts" "[I") (by decide +kernel)) (fun _ h9 => h9) rfl dX0_enter_34 ?_
  refine lv_iload_n hx hb dX0_enter_37 rfl (lv_at hl 1 rfl) ?_
  refine lv_dup2_11 hx hb dX0_enter_38 rfl rfl ?_
  refine rv_iald (k := w) hx hb hK hP 5 0 rfl rfl (show w < 12 by omega) (by decide) dX0_enter_39 ?_
  refine lv_iconst (v := 1) hx hb dX0_enter_40 (by decide) ?_
  refine lv_iadd hx hb dX0_enter_41 ?_
  refine rv_top (y := (s_set F w (F 1 w + vg)) 4 w + 1) (by simp [pu_app]) ?_
  refine rv_iast (k := w) hx hb hK hP hD hS 5 0 rfl rfl (show w < 12 by omega) (by decide) dX0_enter_42 (fun H locs hP hD hS => ?_)
  have hP : va_P (dC, dI) vwCl (wR h ad cI n (pu (pu (pu (s_set F w ((F 1 w) + vg)) 2 w (((s_set F w ((F 1 w) + vg)) 2 w) + (nI q))) 3 w ((s_set F w (F 1 w + vg)) 3 w + 1)) 4 w ((s_set F w (F 1 w + vg)) 4 w + 1))) H := hP
  have hD : va_D A (wR h ad cI n (pu (pu (pu (s_set F w ((F 1 w) + vg)) 2 w (((s_set F w ((F 1 w) + vg)) 2 w) + (nI q))) 3 w ((s_set F w (F 1 w + vg)) 3 w + 1)) 4 w ((s_set F w (F 1 w + vg)) 4 w + 1))) := hD
  refine lv_aload_n hx hb dX0_enter_43 rfl (lv_at hl 0 rfl) ?_
  refine va_get (D := (dC, dI)) (ci := 0) (v := .ref (ad 5)) (C := RX0) (T := TX0) (N := 8) hx hb hts hinX0 hown hK hP 0 rfl rfl 5 (by decide) (hts (.fieldLink RX0 27 "WrestleBook$Roster" "winRows" "[I") (by decide +kernel)) (fun _ h9 => h9) rfl dX0_enter_44 ?_
  refine lv_iload_n hx hb dX0_enter_47 rfl (lv_at hl 1 rfl) ?_
  refine lv_iload_n hx hb dX0_enter_48 rfl (lv_at hl 3 rfl) ?_
  refine lv_iconst (v := 2) hx hb dX0_enter_49 (by decide) ?_
  refine rv_icmp_ne (tgt := 64) hx hb (a := q) (b := 2) (by omega) (by omega) dX0_enter_50 (by decide) (fun c_50 => ?_) (fun c_50 => ?_)
  · refine lv_iconst (v := 0) hx hb dX0_enter_64 (by decide) ?_
    refine rv_top (y := if q = 2 then (s_set F w (F 1 w + vg)) 5 w + 1 else 0) (by rw [if_neg c_50]) ?_
    refine rv_iast (k := w) hx hb hK hP hD hS 6 0 rfl rfl (show w < 12 by omega) (by decide) dX0_enter_65 (fun H locs hP hD hS => ?_)
    have hP : va_P (dC, dI) vwCl (wR h ad cI n (pu (pu (pu (pu (s_set F w ((F 1 w) + vg)) 2 w (((s_set F w ((F 1 w) + vg)) 2 w) + (nI q))) 3 w ((s_set F w (F 1 w + vg)) 3 w + 1)) 4 w ((s_set F w (F 1 w + vg)) 4 w + 1)) 5 w (if q = 2 then (s_set F w (F 1 w + vg)) 5 w + 1 else 0))) H := hP
    have hD : va_D A (wR h ad cI n (pu (pu (pu (pu (s_set F w ((F 1 w) + vg)) 2 w (((s_set F w ((F 1 w) + vg)) 2 w) + (nI q))) 3 w ((s_set F w (F 1 w + vg)) 3 w + 1)) 4 w ((s_set F w (F 1 w + vg)) 4 w + 1)) 5 w (if q = 2 then (s_set F w (F 1 w + vg)) 5 w + 1 else 0))) := hD
    have hP8 : va_P (dC, dI) vwCl (wR h ad cI n (s_enter F w vg q)) H := hP
    have hD8 : va_D A (wR h ad cI n (s_enter F w vg q)) := hD
    exact W.vret hx hb hr (fun t ht hW => ⟨⟨(), rfl, trivial, by rw [ht]; exact hP8, hD8⟩, hS.F ht⟩) hS.2.2 dX0_enter_66
  · refine lv_aload_n hx hb dX0_enter_53 rfl (lv_at hl 0 rfl) ?_
    refine va_get (D := (dC, dI)) (ci := 0) (v := .ref (ad 5)) (C := RX0) (T := TX0) (N := 8) hx hb hts hinX0 hown hK hP 0 rfl rfl 5 (by decide) (hts (.fieldLink RX0 27 "WrestleBook$Roster" "winRows" "[I") (by decide +kernel)) (fun _ h9 => h9) rfl dX0_enter_54 ?_
    refine lv_iload_n hx hb dX0_enter_57 rfl (lv_at hl 1 rfl) ?_
    refine rv_iald (k := w) hx hb hK hP 6 0 rfl rfl (show w < 12 by omega) (by decide) dX0_enter_58 ?_
    refine lv_iconst (v := 1) hx hb dX0_enter_59 (by decide) ?_
    refine lv_iadd hx hb dX0_enter_60 ?_
    refine rv_top (y := if q = 2 then (s_set F w (F 1 w + vg)) 5 w + 1 else 0) (by rw [if_pos c_50]; simp [pu_app]) ?_
    refine lv_goto (tgt := 65) hx hb dX0_enter_61 (by decide) ?_
    refine rv_iast (k := w) hx hb hK hP hD hS 6 0 rfl rfl (show w < 12 by omega) (by decide) dX0_enter_65 (fun H locs hP hD hS => ?_)
    have hP : va_P (dC, dI) vwCl (wR h ad cI n (pu (pu (pu (pu (s_set F w ((F 1 w) + vg)) 2 w (((s_set F w ((F 1 w) + vg)) 2 w) + (nI q))) 3 w ((s_set F w (F 1 w + vg)) 3 w + 1)) 4 w ((s_set F w (F 1 w + vg)) 4 w + 1)) 5 w (if q = 2 then (s_set F w (F 1 w + vg)) 5 w + 1 else 0))) H := hP
    have hD : va_D A (wR h ad cI n (pu (pu (pu (pu (s_set F w ((F 1 w) + vg)) 2 w (((s_set F w ((F 1 w) + vg)) 2 w) + (nI q))) 3 w ((s_set F w (F 1 w + vg)) 3 w + 1)) 4 w ((s_set F w (F 1 w + vg)) 4 w + 1)) 5 w (if q = 2 then (s_set F w (F 1 w + vg)) 5 w + 1 else 0))) := hD
    have hP8 : va_P (dC, dI) vwCl (wR h ad cI n (s_enter F w vg q)) H := hP
    have hD8 : va_D A (wR h ad cI n (s_enter F w vg q)) := hD
    exact W.vret hx hb hr (fun t ht hW => ⟨⟨(), rfl, trivial, by rw [ht]; exact hP8, hD8⟩, hS.F ht⟩) hS.2.2 dX0_enter_66

set_option maxHeartbeats 4000000 in
set_option maxRecDepth 100000 in
theorem c_X0_hold (l : Launch) (dC : Nat → ClassId) (dI : Nat → Nat → Nat) (cI : ClassId) (h : Nat) (ad : Nat → Nat) (n : Nat) (F : Nat → Nat → Int32) (sz : Nat) (a : Nat) (i_a : a < n) (b : Nat) (i_b : b < n) (q : Nat) (hq : q ≤ 2) (hn : n ≤ 12) (hR : okR n F) : Met l yX0_hold wsX0_hold ({ frames := 4, cells := 0, slots := 0, locals := 84 } : Room) (va_Pc [.ref h, .int (nI a), .int (nI b), .int (nI q)] (fun U => PW dC dI cI (wR h ad cI n F) sz U)) (va_Qi (fun r (_ : Unit) => r = s_gain F a b (nI q)) (BW dC dI (va_A (wR h ad cI n F) sz) (wR h ad cI n (s_hold F a b q))) (va_A (wR h ad cI n F) sz)) 0 0 (va_A (wR h ad cI n F) sz) := by
  refine Met.ofW (cc := cX0_hold) (maxL := 6) (ret := (some .int)) (by decide) rfl ?_
  intro p e s m args below meth c s₁ B hml hv
  obtain ⟨rfl, hsz, hP, hK, hD0, hE⟩ := hv
  have hx := B.exec
  have hb := B.bytes
  have hr := B.returns
  have hts := atoms_spec (ws := wsX0_hold) B.pre
  have hown : s.vm.findClass RX0 = some m.cls := findClass_of_methodNamed B.named
  have hlocks := B.notSynchronized
  subst hsz
  have hD := hD0.self (sz := s.heap.size)
  generalize hAe : va_A (wR h ad cI n F) s.heap.size = A at hD hE ⊢
  have hA : ∀ q : Nat, s.heap.size ≤ q → A q := fun q h9 => by rw [← hAe]; exact Or.inr h9
  have hS : va_S A s.heap s.heap [] := va_S.rf
  have hl := lv_entry ([.ref h, .int (nI a), .int (nI b), .int (nI q)]) (n := 6) (Nat.le_of_ble_eq_true rfl)
  rw [lg_entry_eq]
  generalize (lg_sl ([.ref h, .int (nI a), .int (nI b), .int (nI q)]) ++ List.replicate (6 - (lg_sl ([.ref h, .int (nI a), .int (nI b), .int (nI q)])).length) Slot.unset).toArray = ls at hl ⊢
  have hl : lv_has ls 6 [(0, .ref h), (1, .int (nI a)), (2, .int (nI b)), (3, .int (nI q))] := hl
  refine lv_aload_n hx hb dX0_hold_0 rfl (lv_at hl 0 rfl) ?_
  refine lv_iload_n hx hb dX0_hold_1 rfl (lv_at hl 1 rfl) ?_
  refine lv_iload_n hx hb dX0_hold_2 rfl (lv_at hl 2 rfl) ?_
  refine lv_iload_n hx hb dX0_hold_3 rfl (lv_at hl 3 rfl) ?_
  refine vp_callSi (W.runV (As := [.int (nI a), .int (nI b), .int (nI q)]) (rest := []) ⟨hx, hb, hml, hown, hts⟩ (c_X0_gain l dC dI cI h ad n F a (show a < n by omega) b (show b < n by omega) (nI q) hn hR) (cwV 3 hts gX0_hold_X0_gain rfl rfl rfl (by decide +kernel) ⟨Nat.le_of_ble_eq_true rfl, Nat.le_of_ble_eq_true rfl⟩) ⟨PR.blind, va_recv hK hP (ci := 0) (q0 := 0) rfl rfl, fun U hU hW => ⟨rfl, PR.go hP hK hE hS hU hW⟩⟩ rfl rfl hl.1 rfl (lv_room (Nat.le_of_ble_eq_true rfl)) dX0_hold_4 ⟨Nat.le_of_ble_eq_true rfl, Nat.le_of_ble_eq_true rfl⟩) (fun r hr0 => ?_)
  subst hr0
  refine lv_istore (lv' := [(4, .int (s_gain F a b (nI q))), (0, .ref h), (1, .int (nI a)), (2, .int (nI b)), (3, .int (nI q))]) hx hb dX0_hold_7 hl (by decide) rfl (fun ls hl => ?_)
  refine lv_aload_n hx hb dX0_hold_9 rfl (lv_at hl 1 rfl) ?_
  refine lv_iload_n hx hb dX0_hold_10 rfl (lv_at hl 3 rfl) ?_
  refine lv_iload_n hx hb dX0_hold_11 rfl (lv_at hl 2 rfl) ?_
  refine lv_iconst (v := 2) hx hb dX0_hold_12 (by decide) ?_
  refine lv_iload_n hx hb dX0_hold_13 rfl (lv_at hl 4 rfl) ?_
  refine lv_isub hx hb dX0_hold_14 ?_
  refine rv_top (y := nI (2 - q)) (pk_sub (a := 2) hq) ?_
  refine vp_callSi (W.runV (As := [.int (nI b), .int (nI a), .int (nI (2 - q))]) (rest := []) ⟨hx, hb, hml, hown, hts⟩ (c_X0_gain l dC dI cI h ad n F b (show b < n by omega) a (show a < n by omega) (nI (2 - q)) hn hR) (cwV 3 hts gX0_hold_X0_gain rfl rfl rfl (by decide +kernel) ⟨Nat.le_of_ble_eq_true rfl, Nat.le_of_ble_eq_true rfl⟩) ⟨PR.blind, va_recv hK hP (ci := 0) (q0 := 0) rfl rfl, fun U hU hW => ⟨rfl, PR.go hP hK hE hS hU hW⟩⟩ rfl rfl hl.1 rfl (lv_room (Nat.le_of_ble_eq_true rfl)) dX0_hold_15 ⟨Nat.le_of_ble_eq_true rfl, Nat.le_of_ble_eq_true rfl⟩) (fun r hr0 => ?_)
  subst hr0
  refine lv_istore (lv' := [(5, .int (s_gain F b a (nI (2 - q)))), (4, .int (s_gain F a b (nI q))), (0, .ref h), (1, .int (nI a)), (2, .int (nI b)), (3, .int (nI q))]) hx hb dX0_hold_18 hl (by decide) rfl (fun ls hl => ?_)
  refine lv_aload_n hx hb dX0_hold_20 rfl (lv_at hl 2 rfl) ?_
  refine lv_iload_n hx hb dX0_hold_21 rfl (lv_at hl 3 rfl) ?_
  refine lv_iload hx hb dX0_hold_22 (lv_at hl 1 rfl) ?_
  refine lv_iload_n hx hb dX0_hold_24 rfl (lv_at hl 5 rfl) ?_
  have hPc := hP.sub (ws' := (wR h ad cI n F)) [0, 1, 2, 3, 4, 5, 6, 7] rfl
  have hDc := hD.sub (ws' := (wR h ad cI n F)) [0, 1, 2, 3, 4, 5, 6, 7] (by decide) rfl
  have hFc := va_free (wc := (wR h ad cI n F)) hD hS hA [0, 1, 2, 3, 4, 5, 6, 7] rfl
  refine va_callv (va_runV (As := [.int (nI a), .int (s_gain F a b (nI q)), .int (nI q)]) (rest := []) ⟨hx, hb, hml, hown, hts⟩ (c_X0_enter l dC dI cI h ad n F s.heap.size a (show a < n by omega) (s_gain F a b (nI q)) q hq hn) (cwV 3 hts gX0_hold_X0_enter rfl rfl rfl (by decide +kernel) ⟨Nat.le_of_ble_eq_true rfl, Nat.le_of_ble_eq_true rfl⟩) ⟨PW.blind, va_recv hK hP (ci := 0) (q0 := 0) rfl rfl, fun U hU hW => ⟨rfl, PW.go hPc hK hDc hE hS hFc hU hW⟩⟩ rfl rfl hl.1 rfl (lv_room (Nat.le_of_ble_eq_true rfl)) dX0_hold_25 ⟨Nat.le_of_ble_eq_true rfl, Nat.le_of_ble_eq_true rfl⟩) hS (fun q _ h9 => hFc q h9) hFc (fun u9 t9 H1 locs ht9 hvm9 hw9 hB9 hz9 hk9 hS => ?_)
  obtain ⟨hP9, hD9⟩ := hB9
  rw [ht9] at hP9
  obtain ⟨hP, hD⟩ := va_join (wr := []) (w1 := wR h ad cI n (s_enter F a (s_gain F a b (nI q)) q)) hP hD [0, 1, 2, 3, 4, 5, 6, 7] [] rfl rfl (by decide) (by decide) hk9 hFc hP9 hD9
  generalize H1 = H at hP hS ⊢
  have hP : va_P (dC, dI) vwCl (wR h ad cI n (s_enter F a (s_gain F a b (nI q)) q)) H := hP
  have hD : va_D A (wR h ad cI n (s_enter F a (s_gain F a b (nI q)) q)) := hD
  refine lv_aload_n hx hb dX0_hold_28 rfl (lv_at hl 2 rfl) ?_
  refine lv_iload_n hx hb dX0_hold_29 rfl (lv_at hl 4 rfl) ?_
  refine lv_iload hx hb dX0_hold_30 (lv_at hl 0 rfl) ?_
  refine lv_iconst (v := 2) hx hb dX0_hold_32 (by decide) ?_
  refine lv_iload_n hx hb dX0_hold_33 rfl (lv_at hl 5 rfl) ?_
  refine lv_isub hx hb dX0_hold_34 ?_
  refine rv_top (y := nI (2 - q)) (pk_sub (a := 2) hq) ?_
  have hPc := hP.sub (ws' := (wR h ad cI n (s_enter F a (s_gain F a b (nI q)) q))) [0, 1, 2, 3, 4, 5, 6, 7] rfl
  have hDc := hD.sub (ws' := (wR h ad cI n (s_enter F a (s_gain F a b (nI q)) q))) [0, 1, 2, 3, 4, 5, 6, 7] (by decide) rfl
  have hFc := va_free (wc := (wR h ad cI n (s_enter F a (s_gain F a b (nI q)) q))) hD hS hA [0, 1, 2, 3, 4, 5, 6, 7] rfl
  refine va_callv (va_runV (As := [.int (nI b), .int (s_gain F b a (nI (2 - q))), .int (nI (2 - q))]) (rest := []) ⟨hx, hb, hml, hown, hts⟩ (c_X0_enter l dC dI cI h ad n (s_enter F a (s_gain F a b (nI q)) q) H.size b (show b < n by omega) (s_gain F b a (nI (2 - q))) (2 - q) (Nat.sub_le 2 q) hn) (cwV 3 hts gX0_hold_X0_enter rfl rfl rfl (by decide +kernel) ⟨Nat.le_of_ble_eq_true rfl, Nat.le_of_ble_eq_true rfl⟩) ⟨PW.blind, va_recv hK hP (ci := 0) (q0 := 0) rfl rfl, fun U hU hW => ⟨rfl, PW.go hPc hK hDc hE hS hFc hU hW⟩⟩ rfl rfl hl.1 rfl (lv_room (Nat.le_of_ble_eq_true rfl)) dX0_hold_35 ⟨Nat.le_of_ble_eq_true rfl, Nat.le_of_ble_eq_true rfl⟩) hS (fun q _ h9 => hFc q h9) hFc (fun u9 t9 H1 locs ht9 hvm9 hw9 hB9 hz9 hk9 hS => ?_)
  obtain ⟨hP9, hD9⟩ := hB9
  rw [ht9] at hP9
  obtain ⟨hP, hD⟩ := va_join (wr := []) (w1 := wR h ad cI n (s_enter (s_enter F a (s_gain F a b (nI q)) q) b (s_gain F b a (nI (2 - q))) (2 - q))) hP hD [0, 1, 2, 3, 4, 5, 6, 7] [] rfl rfl (by decide) (by decide) hk9 hFc hP9 hD9
  generalize H1 = H at hP hS ⊢
  have hP : va_P (dC, dI) vwCl (wR h ad cI n (s_enter (s_enter F a (s_gain F a b (nI q)) q) b (s_gain F b a (nI (2 - q))) (2 - q))) H := hP
  have hD : va_D A (wR h ad cI n (s_enter (s_enter F a (s_gain F a b (nI q)) q) b (s_gain F b a (nI (2 - q))) (2 - q))) := hD
  refine lv_iload hx hb dX0_hold_38 (lv_at hl 1 rfl) ?_
  have hP8 : va_P (dC, dI) vwCl (wR h ad cI n (s_hold F a b q)) H := hP
  have hD8 : va_D A (wR h ad cI n (s_hold F a b q)) := hD
  exact W.iret (v := s_gain F a b (nI q)) hx hb hr (fun t ht hW => ⟨⟨_, (), rfl, (show s_gain F a b (nI q) = s_gain F a b (nI q) from by rfl), by rw [ht]; exact hP8, hD8⟩, hS.F ht⟩) hS.2.2 dX0_hold_40

set_option maxHeartbeats 4000000 in
set_option maxRecDepth 100000 in
theorem c_X0_holdAsRated (l : Launch) (dC : Nat → ClassId) (dI : Nat → Nat → Nat) (cI : ClassId) (h : Nat) (ad : Nat → Nat) (n : Nat) (F : Nat → Nat → Int32) (sz : Nat) (a : Nat) (i_a : a < n) (b : Nat) (i_b : b < n) (hn : n ≤ 12) (hR : okR n F) : Met l yX0_holdAsRated wsX0_holdAsRated ({ frames := 5, cells := 0, slots := 0, locals := 109 } : Room) (va_Pc [.ref h, .int (nI a), .int (nI b)] (fun U => PW dC dI cI (wR h ad cI n F) sz U)) (va_Qv (fun (_ : Unit) => True) (BW dC dI (va_A (wR h ad cI n F) sz) (wR h ad cI n (s_har F a b))) (va_A (wR h ad cI n F) sz)) 0 0 (va_A (wR h ad cI n F) sz) := by
  refine Met.ofW (cc := cX0_holdAsRated) (maxL := 3) (ret := none) (by decide) rfl ?_
  intro p e s m args below meth c s₁ B hml hv
  obtain ⟨rfl, hsz, hP, hK, hD0, hE⟩ := hv
  have hx := B.exec
  have hb := B.bytes
  have hr := B.returns
  have hts := atoms_spec (ws := wsX0_holdAsRated) B.pre
  have hown : s.vm.findClass RX0 = some m.cls := findClass_of_methodNamed B.named
  have hlocks := B.notSynchronized
  subst hsz
  have hD := hD0.self (sz := s.heap.size)
  generalize hAe : va_A (wR h ad cI n F) s.heap.size = A at hD hE ⊢
  have hA : ∀ q : Nat, s.heap.size ≤ q → A q := fun q h9 => by rw [← hAe]; exact Or.inr h9
  have hS : va_S A s.heap s.heap [] := va_S.rf
  have hinX0 : ∀ w ∈ wsX00, w ∈ wsX0_holdAsRated := by decide +kernel
  have hl := lv_entry ([.ref h, .int (nI a), .int (nI b)]) (n := 3) (Nat.le_of_ble_eq_true rfl)
  rw [lg_entry_eq]
  generalize (lg_sl ([.ref h, .int (nI a), .int (nI b)]) ++ List.replicate (3 - (lg_sl ([.ref h, .int (nI a), .int (nI b)])).length) Slot.unset).toArray = ls at hl ⊢
  have hl : lv_has ls 3 [(0, .ref h), (1, .int (nI a)), (2, .int (nI b))] := hl
  refine lv_aload_n hx hb dX0_holdAsRated_0 rfl (lv_at hl 0 rfl) ?_
  refine lv_iload_n hx hb dX0_holdAsRated_1 rfl (lv_at hl 1 rfl) ?_
  refine lv_iload_n hx hb dX0_holdAsRated_2 rfl (lv_at hl 2 rfl) ?_
  refine lv_aload_n hx hb dX0_holdAsRated_3 rfl (lv_at hl 0 rfl) ?_
  refine va_get (D := (dC, dI)) (ci := 0) (v := .ref (ad 1)) (C := RX0) (T := TX0) (N := 8) hx hb hts hinX0 hown hK hP 0 rfl rfl 1 (by decide) (hts (.fieldLink RX0 15 "WrestleBook$Roster" "ratings" "[I") (by decide +kernel)) (fun _ h9 => h9) rfl dX0_holdAsRated_4 ?_
  refine lv_iload_n hx hb dX0_holdAsRated_7 rfl (lv_at hl 1 rfl) ?_
  refine rv_iald (k := a) hx hb hK hP 2 0 rfl rfl (show a < 12 by omega) (by decide) dX0_holdAsRated_8 ?_
  refine lv_aload_n hx hb dX0_holdAsRated_9 rfl (lv_at hl 0 rfl) ?_
  refine va_get (D := (dC, dI)) (ci := 0) (v := .ref (ad 1)) (C := RX0) (T := TX0) (N := 8) hx hb hts hinX0 hown hK hP 0 rfl rfl 1 (by decide) (hts (.fieldLink RX0 15 "WrestleBook$Roster" "ratings" "[I") (by decide +kernel)) (fun _ h9 => h9) rfl dX0_holdAsRated_10 ?_
  refine lv_iload_n hx hb dX0_holdAsRated_13 rfl (lv_at hl 2 rfl) ?_
  refine rv_iald (k := b) hx hb hK hP 2 0 rfl rfl (show b < 12 by omega) (by decide) dX0_holdAsRated_14 ?_
  refine lv_icmp_lt (tgt := 22) hx hb dX0_holdAsRated_15 (by decide) (fun c_15 => ?_) (fun c_15 => ?_)
  · refine lv_iconst (v := 0) hx hb dX0_holdAsRated_22 (by decide) ?_
    have hPc := hP.sub (ws' := (wR h ad cI n F)) [0, 1, 2, 3, 4, 5, 6, 7] rfl
    have hDc := hD.sub (ws' := (wR h ad cI n F)) [0, 1, 2, 3, 4, 5, 6, 7] (by decide) rfl
    have hFc := va_free (wc := (wR h ad cI n F)) hD hS hA [0, 1, 2, 3, 4, 5, 6, 7] rfl
    refine va_calli (va_runV (As := [.int (nI a), .int (nI b), .int 0]) (rest := []) ⟨hx, hb, hml, hown, hts⟩ (c_X0_hold l dC dI cI h ad n F s.heap.size a (show a < n by omega) b (show b < n by omega) 0 (by decide) hn hR) (cwV 3 hts gX0_holdAsRated_X0_hold rfl rfl rfl (by decide +kernel) ⟨Nat.le_of_ble_eq_true rfl, Nat.le_of_ble_eq_true rfl⟩) ⟨PW.blind, va_recv hK hP (ci := 0) (q0 := 0) rfl rfl, fun U hU hW => ⟨rfl, PW.go hPc hK hDc hE hS hFc hU hW⟩⟩ rfl rfl hl.1 rfl (lv_room (Nat.le_of_ble_eq_true rfl)) dX0_holdAsRated_23 ⟨Nat.le_of_ble_eq_true rfl, Nat.le_of_ble_eq_true rfl⟩) hS (fun q _ h9 => hFc q h9) hFc (fun r u9 t9 H1 locs ht9 hvm9 hw9 hB9 hz9 hk9 hS => ?_)
    obtain ⟨hP9, hD9⟩ := hB9
    rw [ht9] at hP9
    obtain ⟨hP, hD⟩ := va_join (wr := []) (w1 := wR h ad cI n (s_hold F a b 0)) hP hD [0, 1, 2, 3, 4, 5, 6, 7] [] rfl rfl (by decide) (by decide) hk9 hFc hP9 hD9
    generalize H1 = H at hP hS ⊢
    have hP : va_P (dC, dI) vwCl (wR h ad cI n (s_hold F a b 0)) H := hP
    have hD : va_D A (wR h ad cI n (s_hold F a b 0)) := hD
    have hw9 : r = s_gain F a b (nI 0) := hw9
    subst hw9
    refine lv_pop hx hb dX0_holdAsRated_26 rfl ?_
    have hP8 : va_P (dC, dI) vwCl (wR h ad cI n (s_har F a b)) H := by unfold s_har; rw [if_pos c_15]; exact hP
    have hD8 : va_D A (wR h ad cI n (s_har F a b)) := by unfold s_har; rw [if_pos c_15]; exact hD
    exact W.vret hx hb hr (fun t ht hW => ⟨⟨(), rfl, trivial, by rw [ht]; exact hP8, hD8⟩, hS.F ht⟩) hS.2.2 dX0_holdAsRated_27
  · refine lv_iconst (v := 2) hx hb dX0_holdAsRated_18 (by decide) ?_
    refine lv_goto (tgt := 23) hx hb dX0_holdAsRated_19 (by decide) ?_
    have hPc := hP.sub (ws' := (wR h ad cI n F)) [0, 1, 2, 3, 4, 5, 6, 7] rfl
    have hDc := hD.sub (ws' := (wR h ad cI n F)) [0, 1, 2, 3, 4, 5, 6, 7] (by decide) rfl
    have hFc := va_free (wc := (wR h ad cI n F)) hD hS hA [0, 1, 2, 3, 4, 5, 6, 7] rfl
    refine va_calli (va_runV (As := [.int (nI a), .int (nI b), .int 2]) (rest := []) ⟨hx, hb, hml, hown, hts⟩ (c_X0_hold l dC dI cI h ad n F s.heap.size a (show a < n by omega) b (show b < n by omega) 2 (by decide) hn hR) (cwV 3 hts gX0_holdAsRated_X0_hold rfl rfl rfl (by decide +kernel) ⟨Nat.le_of_ble_eq_true rfl, Nat.le_of_ble_eq_true rfl⟩) ⟨PW.blind, va_recv hK hP (ci := 0) (q0 := 0) rfl rfl, fun U hU hW => ⟨rfl, PW.go hPc hK hDc hE hS hFc hU hW⟩⟩ rfl rfl hl.1 rfl (lv_room (Nat.le_of_ble_eq_true rfl)) dX0_holdAsRated_23 ⟨Nat.le_of_ble_eq_true rfl, Nat.le_of_ble_eq_true rfl⟩) hS (fun q _ h9 => hFc q h9) hFc (fun r u9 t9 H1 locs ht9 hvm9 hw9 hB9 hz9 hk9 hS => ?_)
    obtain ⟨hP9, hD9⟩ := hB9
    rw [ht9] at hP9
    obtain ⟨hP, hD⟩ := va_join (wr := []) (w1 := wR h ad cI n (s_hold F a b 2)) hP hD [0, 1, 2, 3, 4, 5, 6, 7] [] rfl rfl (by decide) (by decide) hk9 hFc hP9 hD9
    generalize H1 = H at hP hS ⊢
    have hP : va_P (dC, dI) vwCl (wR h ad cI n (s_hold F a b 2)) H := hP
    have hD : va_D A (wR h ad cI n (s_hold F a b 2)) := hD
    have hw9 : r = s_gain F a b (nI 2) := hw9
    subst hw9
    refine lv_pop hx hb dX0_holdAsRated_26 rfl ?_
    have hP8 : va_P (dC, dI) vwCl (wR h ad cI n (s_har F a b)) H := by unfold s_har; rw [if_neg c_15]; exact hP
    have hD8 : va_D A (wR h ad cI n (s_har F a b)) := by unfold s_har; rw [if_neg c_15]; exact hD
    exact W.vret hx hb hr (fun t ht hW => ⟨⟨(), rfl, trivial, by rw [ht]; exact hP8, hD8⟩, hS.F ht⟩) hS.2.2 dX0_holdAsRated_27

set_option maxHeartbeats 4000000 in
set_option maxRecDepth 100000 in
theorem c_X0_drift (l : Launch) (dC : Nat → ClassId) (dI : Nat → Nat → Nat) (cI : ClassId) (h : Nat) (ad : Nat → Nat) (n : Nat) (F : Nat → Nat → Int32) (sz : Nat) (hn : n ≤ 12) : Met l yX0_drift wsX0_drift ({ frames := 2, cells := 0, slots := 0, locals := 37 } : Room) (va_Pc [.ref h] (fun U => PW dC dI cI (wR h ad cI n F) sz U)) (va_Qv (fun (_ : Unit) => True) (BW dC dI (va_A (wR h ad cI n F) sz) (wR h ad cI n (s_drift n F))) (va_A (wR h ad cI n F) sz)) 0 0 (va_A (wR h ad cI n F) sz) := by
  refine Met.ofW (cc := cX0_drift) (maxL := 2) (ret := none) (by decide) rfl ?_
  intro p e s m args below meth c s₁ B hml hv
  obtain ⟨rfl, hsz, hP, hK, hD0, hE⟩ := hv
  have hx := B.exec
  have hb := B.bytes
  have hr := B.returns
  have hts := atoms_spec (ws := wsX0_drift) B.pre
  have hown : s.vm.findClass RX0 = some m.cls := findClass_of_methodNamed B.named
  have hlocks := B.notSynchronized
  subst hsz
  have hD := hD0.self (sz := s.heap.size)
  generalize hAe : va_A (wR h ad cI n F) s.heap.size = A at hD hE ⊢
  have hA : ∀ q : Nat, s.heap.size ≤ q → A q := fun q h9 => by rw [← hAe]; exact Or.inr h9
  have hS : va_S A s.heap s.heap [] := va_S.rf
  have hinX0 : ∀ w ∈ wsX00, w ∈ wsX0_drift := by decide +kernel
  have hl := lv_entry ([.ref h]) (n := 2) (Nat.le_of_ble_eq_true rfl)
  rw [lg_entry_eq]
  generalize (lg_sl ([.ref h]) ++ List.replicate (2 - (lg_sl ([.ref h])).length) Slot.unset).toArray = ls at hl ⊢
  have hl : lv_has ls 2 [(0, .ref h)] := hl
  refine lv_iconst (v := 0) hx hb dX0_drift_0 (by decide) ?_
  refine lv_istore_n (lv' := [(1, .int 0), (0, .ref h)]) hx hb dX0_drift_1 rfl hl (by decide) rfl (fun ls hl => ?_)
  have L_2 : ∀ (k i : Nat) (G : Nat → Nat → Int32), i + k = n → G = s_driftU F i → ∀ (H : Heap) (locs : List Loc), va_P (dC, dI) vwCl (wR h ad cI n G) H → va_D A (wR h ad cI n G) → va_S A s.heap H locs → ∀ (ls : Array Slot), lv_has ls 2 [(1, .int (nI i)), (0, .ref h)] → W p l e (headSpec wsX0_drift ({ frames := 2, cells := 0, slots := 0, locals := 37 } : Room)).room s m ([.ref h] : List Value).toArray below meth c H locs 0 0 (MQ below (va_Qv (fun (_ : Unit) => True) (BW dC dI A (wR h ad cI n (s_drift n F))) A) ([.ref h] : List Value).toArray s 0 0 A) (F0 m 2 ls []) := by
    intro k
    induction k with
    | zero =>
      intro i G e_i hG H locs hP hD hS ls hl
      refine lv_iload_n hx hb dX0_drift_2 rfl (lv_at hl 0 rfl) ?_
      refine lv_aload_n hx hb dX0_drift_3 rfl (lv_at hl 1 rfl) ?_
      refine va_get (D := (dC, dI)) (ci := 0) (v := .int (nI n)) (C := RX0) (T := TX0) (N := 8) hx hb hts hinX0 hown hK hP 0 rfl rfl 7 (by decide) (hts (.fieldLink RX0 33 "WrestleBook$Roster" "size" "I") (by decide +kernel)) (fun _ h9 => h9) rfl dX0_drift_4 ?_
      refine rv_icmp_ge (tgt := 51) hx hb (a := i) (b := n) (by omega) (by omega) dX0_drift_7 (by decide) (fun c_7 => ?_) (fun c_7 => ?_)
      · have hP8 : va_P (dC, dI) vwCl (wR h ad cI n (s_drift n F)) H := by rw [show s_drift n F = G from by rw [hG, show i = n by omega]; rfl]; exact hP
        have hD8 : va_D A (wR h ad cI n (s_drift n F)) := by rw [show s_drift n F = G from by rw [hG, show i = n by omega]; rfl]; exact hD
        exact W.vret hx hb hr (fun t ht hW => ⟨⟨(), rfl, trivial, by rw [ht]; exact hP8, hD8⟩, hS.F ht⟩) hS.2.2 dX0_drift_51
      · exact absurd c_7 (by omega)
    | succ k ih_2 =>
      intro i G e_i hG H locs hP hD hS ls hl
      refine lv_iload_n hx hb dX0_drift_2 rfl (lv_at hl 0 rfl) ?_
      refine lv_aload_n hx hb dX0_drift_3 rfl (lv_at hl 1 rfl) ?_
      refine va_get (D := (dC, dI)) (ci := 0) (v := .int (nI n)) (C := RX0) (T := TX0) (N := 8) hx hb hts hinX0 hown hK hP 0 rfl rfl 7 (by decide) (hts (.fieldLink RX0 33 "WrestleBook$Roster" "size" "I") (by decide +kernel)) (fun _ h9 => h9) rfl dX0_drift_4 ?_
      refine rv_icmp_ge (tgt := 51) hx hb (a := i) (b := n) (by omega) (by omega) dX0_drift_7 (by decide) (fun c_7 => ?_) (fun c_7 => ?_)
      · exact absurd c_7 (by omega)
      · refine lv_aload_n hx hb dX0_drift_10 rfl (lv_at hl 1 rfl) ?_
        refine va_get (D := (dC, dI)) (ci := 0) (v := .ref (ad 4)) (C := RX0) (T := TX0) (N := 8) hx hb hts hinX0 hown hK hP 0 rfl rfl 4 (by decide) (hts (.fieldLink RX0 24 "WrestleBook$Roster" "seasonBouts" "[I") (by decide +kernel)) (fun _ h9 => h9) rfl dX0_drift_11 ?_
        refine lv_iload_n hx hb dX0_drift_14 rfl (lv_at hl 0 rfl) ?_
        refine rv_iald (k := i) hx hb hK hP 5 0 rfl rfl (show i < 12 by omega) (by decide) dX0_drift_15 ?_
        refine lv_iconst (v := 3) hx hb dX0_drift_16 (by decide) ?_
        refine lv_icmp_ge (tgt := 45) hx hb dX0_drift_17 (by decide) (fun c_17 => ?_) (fun c_17 => ?_)
        · refine lv_iinc (v := nI (i + 1)) (lv' := [(1, .int (nI (i + 1))), (0, .ref h)]) hx hb dX0_drift_45 hl (k := 0) rfl (nI_add i 1) (by decide) rfl (fun ls hl => ?_)
          refine lv_goto (tgt := 2) hx hb dX0_drift_48 (by decide) ?_
          exact ih_2 (i + 1) G (by omega) (by rw [hG]; show _ = (if (3 : Int32) ≤ (s_driftU F i) 4 i then s_driftU F i else s_set (s_driftU F i) i ((s_driftU F i) 1 i - ((s_driftU F i) 1 i - 1000) / 8)); rw [← hG]; rw [if_pos c_17]) _ _ hP hD hS ls (lv_sub hl [0, 1] rfl)
        · refine lv_aload_n hx hb dX0_drift_20 rfl (lv_at hl 1 rfl) ?_
          refine lv_iload_n hx hb dX0_drift_21 rfl (lv_at hl 0 rfl) ?_
          refine lv_aload_n hx hb dX0_drift_22 rfl (lv_at hl 1 rfl) ?_
          refine va_get (D := (dC, dI)) (ci := 0) (v := .ref (ad 1)) (C := RX0) (T := TX0) (N := 8) hx hb hts hinX0 hown hK hP 0 rfl rfl 1 (by decide) (hts (.fieldLink RX0 15 "WrestleBook$Roster" "ratings" "[I") (by decide +kernel)) (fun _ h9 => h9) rfl dX0_drift_23 ?_
          refine lv_iload_n hx hb dX0_drift_26 rfl (lv_at hl 0 rfl) ?_
          refine rv_iald (k := i) hx hb hK hP 2 0 rfl rfl (show i < 12 by omega) (by decide) dX0_drift_27 ?_
          refine lv_aload_n hx hb dX0_drift_28 rfl (lv_at hl 1 rfl) ?_
          refine va_get (D := (dC, dI)) (ci := 0) (v := .ref (ad 1)) (C := RX0) (T := TX0) (N := 8) hx hb hts hinX0 hown hK hP 0 rfl rfl 1 (by decide) (hts (.fieldLink RX0 15 "WrestleBook$Roster" "ratings" "[I") (by decide +kernel)) (fun _ h9 => h9) rfl dX0_drift_29 ?_
          refine lv_iload_n hx hb dX0_drift_32 rfl (lv_at hl 0 rfl) ?_
          refine rv_iald (k := i) hx hb hK hP 2 0 rfl rfl (show i < 12 by omega) (by decide) dX0_drift_33 ?_
          refine lv_sipush (v := 1000) hx hb dX0_drift_34 (by decide) ?_
          refine lv_isub hx hb dX0_drift_37 ?_
          refine lv_bipush (v := 8) hx hb dX0_drift_38 (by decide) ?_
          refine lv_idiv hx hb dX0_drift_40 (by decide) ?_
          refine lv_isub hx hb dX0_drift_41 ?_
          have hPc := hP.sub (ws' := (wR h ad cI n G)) [0, 1, 2, 3, 4, 5, 6, 7] rfl
          have hDc := hD.sub (ws' := (wR h ad cI n G)) [0, 1, 2, 3, 4, 5, 6, 7] (by decide) rfl
          have hFc := va_free (wc := (wR h ad cI n G)) hD hS hA [0, 1, 2, 3, 4, 5, 6, 7] rfl
          refine va_callv (va_runV (As := [.int (nI i), .int ((G 1 i) - (((G 1 i) - 1000) / 8))]) (rest := []) ⟨hx, hb, hml, hown, hts⟩ (c_X0_setRating l dC dI cI h ad n G H.size i (show i < n by omega) ((G 1 i) - (((G 1 i) - 1000) / 8)) hn) (cwV 2 hts gX0_drift_X0_setRating rfl rfl rfl (by decide +kernel) ⟨Nat.le_of_ble_eq_true rfl, Nat.le_of_ble_eq_true rfl⟩) ⟨PW.blind, va_recv hK hP (ci := 0) (q0 := 0) rfl rfl, fun U hU hW => ⟨rfl, PW.go hPc hK hDc hE hS hFc hU hW⟩⟩ rfl rfl hl.1 rfl (lv_room (Nat.le_of_ble_eq_true rfl)) dX0_drift_42 ⟨Nat.le_of_ble_eq_true rfl, Nat.le_of_ble_eq_true rfl⟩) hS (fun q _ h9 => hFc q h9) hFc (fun u9 t9 H1 locs ht9 hvm9 hw9 hB9 hz9 hk9 hS => ?_)
          obtain ⟨hP9, hD9⟩ := hB9
          rw [ht9] at hP9
          obtain ⟨hP, hD⟩ := va_join (wr := []) (w1 := wR h ad cI n (s_set G i ((G 1 i) - (((G 1 i) - 1000) / 8)))) hP hD [0, 1, 2, 3, 4, 5, 6, 7] [] rfl rfl (by decide) (by decide) hk9 hFc hP9 hD9
          generalize H1 = H at hP hS ⊢
          have hP : va_P (dC, dI) vwCl (wR h ad cI n (s_set G i ((G 1 i) - (((G 1 i) - 1000) / 8)))) H := hP
          have hD : va_D A (wR h ad cI n (s_set G i ((G 1 i) - (((G 1 i) - 1000) / 8)))) := hD
          refine lv_iinc (v := nI (i + 1)) (lv' := [(1, .int (nI (i + 1))), (0, .ref h)]) hx hb dX0_drift_45 hl (k := 0) rfl (nI_add i 1) (by decide) rfl (fun ls hl => ?_)
          refine lv_goto (tgt := 2) hx hb dX0_drift_48 (by decide) ?_
          exact ih_2 (i + 1) (s_set G i ((G 1 i) - (((G 1 i) - 1000) / 8))) (by omega) (by rw [hG]; show _ = (if (3 : Int32) ≤ (s_driftU F i) 4 i then s_driftU F i else s_set (s_driftU F i) i ((s_driftU F i) 1 i - ((s_driftU F i) 1 i - 1000) / 8)); rw [← hG]; rw [if_neg c_17]) _ _ hP hD hS ls (lv_sub hl [0, 1] rfl)
  exact L_2 n 0 F (by omega) rfl _ _ hP hD hS ls (lv_sub hl [0, 1] rfl)

set_option maxHeartbeats 4000000 in
set_option maxRecDepth 100000 in
theorem c_X0_clearSeason (l : Launch) (dC : Nat → ClassId) (dI : Nat → Nat → Nat) (cI : ClassId) (h : Nat) (ad : Nat → Nat) (n : Nat) (F : Nat → Nat → Int32) (sz : Nat) (hn : n ≤ 12) : Met l yX0_clearSeason wsX0_clearSeason ({ frames := 0, cells := 0, slots := 0, locals := 0 } : Room) (va_Pc [.ref h] (fun U => PW dC dI cI (wR h ad cI n F) sz U)) (va_Qv (fun (_ : Unit) => True) (BW dC dI (va_A (wR h ad cI n F) sz) (wR h ad cI n (s_clear n F))) (va_A (wR h ad cI n F) sz)) 0 0 (va_A (wR h ad cI n F) sz) := by
  refine Met.ofW (cc := cX0_clearSeason) (maxL := 2) (ret := none) (by decide) rfl ?_
  intro p e s m args below meth c s₁ B hml hv
  obtain ⟨rfl, hsz, hP, hK, hD0, hE⟩ := hv
  have hx := B.exec
  have hb := B.bytes
  have hr := B.returns
  have hts := atoms_spec (ws := wsX0_clearSeason) B.pre
  have hown : s.vm.findClass RX0 = some m.cls := findClass_of_methodNamed B.named
  have hlocks := B.notSynchronized
  subst hsz
  have hD := hD0.self (sz := s.heap.size)
  generalize hAe : va_A (wR h ad cI n F) s.heap.size = A at hD hE ⊢
  have hA : ∀ q : Nat, s.heap.size ≤ q → A q := fun q h9 => by rw [← hAe]; exact Or.inr h9
  have hS : va_S A s.heap s.heap [] := va_S.rf
  have hinX0 : ∀ w ∈ wsX00, w ∈ wsX0_clearSeason := by decide +kernel
  have hl := lv_entry ([.ref h]) (n := 2) (Nat.le_of_ble_eq_true rfl)
  rw [lg_entry_eq]
  generalize (lg_sl ([.ref h]) ++ List.replicate (2 - (lg_sl ([.ref h])).length) Slot.unset).toArray = ls at hl ⊢
  have hl : lv_has ls 2 [(0, .ref h)] := hl
  refine lv_iconst (v := 0) hx hb dX0_clearSeason_0 (by decide) ?_
  refine lv_istore_n (lv' := [(1, .int 0), (0, .ref h)]) hx hb dX0_clearSeason_1 rfl hl (by decide) rfl (fun ls hl => ?_)
  have L_2 : ∀ (k i : Nat) (G : Nat → Nat → Int32), i + k = n → G = s_clearU F i → ∀ (H : Heap) (locs : List Loc), va_P (dC, dI) vwCl (wR h ad cI n G) H → va_D A (wR h ad cI n G) → va_S A s.heap H locs → ∀ (ls : Array Slot), lv_has ls 2 [(1, .int (nI i)), (0, .ref h)] → W p l e (headSpec wsX0_clearSeason ({ frames := 0, cells := 0, slots := 0, locals := 0 } : Room)).room s m ([.ref h] : List Value).toArray below meth c H locs 0 0 (MQ below (va_Qv (fun (_ : Unit) => True) (BW dC dI A (wR h ad cI n (s_clear n F))) A) ([.ref h] : List Value).toArray s 0 0 A) (F0 m 2 ls []) := by
    intro k
    induction k with
    | zero =>
      intro i G e_i hG H locs hP hD hS ls hl
      refine lv_iload_n hx hb dX0_clearSeason_2 rfl (lv_at hl 0 rfl) ?_
      refine lv_aload_n hx hb dX0_clearSeason_3 rfl (lv_at hl 1 rfl) ?_
      refine va_get (D := (dC, dI)) (ci := 0) (v := .int (nI n)) (C := RX0) (T := TX0) (N := 8) hx hb hts hinX0 hown hK hP 0 rfl rfl 7 (by decide) (hts (.fieldLink RX0 33 "WrestleBook$Roster" "size" "I") (by decide +kernel)) (fun _ h9 => h9) rfl dX0_clearSeason_4 ?_
      refine rv_icmp_ge (tgt := 30) hx hb (a := i) (b := n) (by omega) (by omega) dX0_clearSeason_7 (by decide) (fun c_7 => ?_) (fun c_7 => ?_)
      · have hP8 : va_P (dC, dI) vwCl (wR h ad cI n (s_clear n F)) H := by rw [show s_clear n F = G from by rw [hG, show i = n by omega]; rfl]; exact hP
        have hD8 : va_D A (wR h ad cI n (s_clear n F)) := by rw [show s_clear n F = G from by rw [hG, show i = n by omega]; rfl]; exact hD
        exact W.vret hx hb hr (fun t ht hW => ⟨⟨(), rfl, trivial, by rw [ht]; exact hP8, hD8⟩, hS.F ht⟩) hS.2.2 dX0_clearSeason_30
      · exact absurd c_7 (by omega)
    | succ k ih_2 =>
      intro i G e_i hG H locs hP hD hS ls hl
      refine lv_iload_n hx hb dX0_clearSeason_2 rfl (lv_at hl 0 rfl) ?_
      refine lv_aload_n hx hb dX0_clearSeason_3 rfl (lv_at hl 1 rfl) ?_
      refine va_get (D := (dC, dI)) (ci := 0) (v := .int (nI n)) (C := RX0) (T := TX0) (N := 8) hx hb hts hinX0 hown hK hP 0 rfl rfl 7 (by decide) (hts (.fieldLink RX0 33 "WrestleBook$Roster" "size" "I") (by decide +kernel)) (fun _ h9 => h9) rfl dX0_clearSeason_4 ?_
      refine rv_icmp_ge (tgt := 30) hx hb (a := i) (b := n) (by omega) (by omega) dX0_clearSeason_7 (by decide) (fun c_7 => ?_) (fun c_7 => ?_)
      · exact absurd c_7 (by omega)
      · refine lv_aload_n hx hb dX0_clearSeason_10 rfl (lv_at hl 1 rfl) ?_
        refine va_get (D := (dC, dI)) (ci := 0) (v := .ref (ad 2)) (C := RX0) (T := TX0) (N := 8) hx hb hts hinX0 hown hK hP 0 rfl rfl 2 (by decide) (hts (.fieldLink RX0 18 "WrestleBook$Roster" "points" "[I") (by decide +kernel)) (fun _ h9 => h9) rfl dX0_clearSeason_11 ?_
        refine lv_iload_n hx hb dX0_clearSeason_14 rfl (lv_at hl 0 rfl) ?_
        refine lv_iconst (v := 0) hx hb dX0_clearSeason_15 (by decide) ?_
        refine rv_iast (k := i) hx hb hK hP hD hS 3 0 rfl rfl (show i < 12 by omega) (by decide) dX0_clearSeason_16 (fun H locs hP hD hS => ?_)
        have hP : va_P (dC, dI) vwCl (wR h ad cI n (pu G 2 i 0)) H := hP
        have hD : va_D A (wR h ad cI n (pu G 2 i 0)) := hD
        refine lv_aload_n hx hb dX0_clearSeason_17 rfl (lv_at hl 1 rfl) ?_
        refine va_get (D := (dC, dI)) (ci := 0) (v := .ref (ad 4)) (C := RX0) (T := TX0) (N := 8) hx hb hts hinX0 hown hK hP 0 rfl rfl 4 (by decide) (hts (.fieldLink RX0 24 "WrestleBook$Roster" "seasonBouts" "[I") (by decide +kernel)) (fun _ h9 => h9) rfl dX0_clearSeason_18 ?_
        refine lv_iload_n hx hb dX0_clearSeason_21 rfl (lv_at hl 0 rfl) ?_
        refine lv_iconst (v := 0) hx hb dX0_clearSeason_22 (by decide) ?_
        refine rv_iast (k := i) hx hb hK hP hD hS 5 0 rfl rfl (show i < 12 by omega) (by decide) dX0_clearSeason_23 (fun H locs hP hD hS => ?_)
        have hP : va_P (dC, dI) vwCl (wR h ad cI n (pu (pu G 2 i 0) 4 i 0)) H := hP
        have hD : va_D A (wR h ad cI n (pu (pu G 2 i 0) 4 i 0)) := hD
        refine lv_iinc (v := nI (i + 1)) (lv' := [(1, .int (nI (i + 1))), (0, .ref h)]) hx hb dX0_clearSeason_24 hl (k := 0) rfl (nI_add i 1) (by decide) rfl (fun ls hl => ?_)
        refine lv_goto (tgt := 2) hx hb dX0_clearSeason_27 (by decide) ?_
        exact ih_2 (i + 1) (pu (pu G 2 i 0) 4 i 0) (by omega) (by rw [hG]; rfl) _ _ hP hD hS ls (lv_sub hl [0, 1] rfl)
  exact L_2 n 0 F (by omega) rfl _ _ hP hD hS ls (lv_sub hl [0, 1] rfl)

set_option maxHeartbeats 4000000 in
set_option maxRecDepth 100000 in
theorem c_X0_exchange (l : Launch) (dC : Nat → ClassId) (dI : Nat → Nat → Nat) (cI : ClassId) (h : Nat) (ad : Nat → Nat) (n : Nat) (F : Nat → Nat → Int32) (sz : Nat) (vp : Int32) (hn : n ≤ 12) : Met l yX0_exchange wsX0_exchange ({ frames := 3, cells := 0, slots := 0, locals := 68 } : Room) (va_Pc [.ref h, .int vp] (fun U => PW dC dI cI (wR h ad cI n F) sz U)) (va_Qi (fun r (_ : Unit) => r = bI (s_exchB n F vp)) (BW dC dI (va_A (wR h ad cI n F) sz) (wR h ad cI n (s_exch n F vp))) (va_A (wR h ad cI n F) sz)) 0 0 (va_A (wR h ad cI n F) sz) := by
  refine Met.ofW (cc := cX0_exchange) (maxL := 4) (ret := (some .boolean)) (by decide) rfl ?_
  intro p e s m args below meth c s₁ B hml hv
  obtain ⟨rfl, hsz, hP, hK, hD0, hE⟩ := hv
  have hx := B.exec
  have hb := B.bytes
  have hr := B.returns
  have hts := atoms_spec (ws := wsX0_exchange) B.pre
  have hown : s.vm.findClass RX0 = some m.cls := findClass_of_methodNamed B.named
  have hlocks := B.notSynchronized
  subst hsz
  have hD := hD0.self (sz := s.heap.size)
  generalize hAe : va_A (wR h ad cI n F) s.heap.size = A at hD hE ⊢
  have hA : ∀ q : Nat, s.heap.size ≤ q → A q := fun q h9 => by rw [← hAe]; exact Or.inr h9
  have hS : va_S A s.heap s.heap [] := va_S.rf
  have hinX0 : ∀ w ∈ wsX00, w ∈ wsX0_exchange := by decide +kernel
  have hl := lv_entry ([.ref h, .int vp]) (n := 4) (Nat.le_of_ble_eq_true rfl)
  rw [lg_entry_eq]
  generalize (lg_sl ([.ref h, .int vp]) ++ List.replicate (4 - (lg_sl ([.ref h, .int vp])).length) Slot.unset).toArray = ls at hl ⊢
  have hl : lv_has ls 4 [(0, .ref h), (1, .int vp)] := hl
  refine lv_aload_n hx hb dX0_exchange_0 rfl (lv_at hl 0 rfl) ?_
  refine lv_iload_n hx hb dX0_exchange_1 rfl (lv_at hl 1 rfl) ?_
  refine lv_aload_n hx hb dX0_exchange_2 rfl (lv_at hl 0 rfl) ?_
  refine lv_iload_n hx hb dX0_exchange_3 rfl (lv_at hl 1 rfl) ?_
  refine vp_callSi (W.runV (As := [.int vp]) (rest := [.int vp, .ref h]) ⟨hx, hb, hml, hown, hts⟩ (c_X0_sizeOf l dC dI cI h ad n F vp hn) (cwV 1 hts gX0_exchange_X0_sizeOf rfl rfl rfl (by decide +kernel) ⟨Nat.le_of_ble_eq_true rfl, Nat.le_of_ble_eq_true rfl⟩) ⟨PR.blind, va_recv hK hP (ci := 0) (q0 := 0) rfl rfl, fun U hU hW => ⟨rfl, PR.go hP hK hE hS hU hW⟩⟩ rfl rfl hl.1 rfl (lv_room (Nat.le_of_ble_eq_true rfl)) dX0_exchange_4 ⟨Nat.le_of_ble_eq_true rfl, Nat.le_of_ble_eq_true rfl⟩) (fun r hr0 => ?_)
  subst hr0
  refine vp_callSi (W.runV (As := [.int vp, .int (nI (s_many n F vp))]) (rest := []) ⟨hx, hb, hml, hown, hts⟩ (c_X0_standingAt l dC dI cI h ad n F vp (nI (s_many n F vp)) hn) (cwV 2 hts gX0_exchange_X0_standingAt rfl rfl rfl (by decide +kernel) ⟨Nat.le_of_ble_eq_true rfl, Nat.le_of_ble_eq_true rfl⟩) ⟨PR.blind, va_recv hK hP (ci := 0) (q0 := 0) rfl rfl, fun U hU hW => ⟨rfl, PR.go hP hK hE hS hU hW⟩⟩ rfl rfl hl.1 rfl (lv_room (Nat.le_of_ble_eq_true rfl)) dX0_exchange_7 ⟨Nat.le_of_ble_eq_true rfl, Nat.le_of_ble_eq_true rfl⟩) (fun r hr0 => ?_)
  subst hr0
  obtain ⟨o7, ho_7⟩ : ∃ z9 : Option Nat, s_at n F vp (nI (s_many n F vp)) = z9 := ⟨_, rfl⟩
  refine rv_top (y := oI o7) (by rw [ho_7]) ?_
  rcases o7 with _ | k7
  · refine rv_top (y := -1) rfl ?_
    refine lv_istore_n (lv' := [(2, .int (-1)), (0, .ref h), (1, .int vp)]) hx hb dX0_exchange_10 rfl hl (by decide) rfl (fun ls hl => ?_)
    refine lv_aload_n hx hb dX0_exchange_11 rfl (lv_at hl 1 rfl) ?_
    refine lv_iload_n hx hb dX0_exchange_12 rfl (lv_at hl 2 rfl) ?_
    refine lv_iconst (v := 1) hx hb dX0_exchange_13 (by decide) ?_
    refine lv_iadd hx hb dX0_exchange_14 ?_
    refine lv_iconst (v := 1) hx hb dX0_exchange_15 (by decide) ?_
    refine vp_callSi (W.runV (As := [.int (vp + 1), .int 1]) (rest := []) ⟨hx, hb, hml, hown, hts⟩ (c_X0_standingAt l dC dI cI h ad n F (vp + 1) 1 hn) (cwV 2 hts gX0_exchange_X0_standingAt rfl rfl rfl (by decide +kernel) ⟨Nat.le_of_ble_eq_true rfl, Nat.le_of_ble_eq_true rfl⟩) ⟨PR.blind, va_recv hK hP (ci := 0) (q0 := 0) rfl rfl, fun U hU hW => ⟨rfl, PR.go hP hK hE hS hU hW⟩⟩ rfl rfl hl.1 rfl (lv_room (Nat.le_of_ble_eq_true rfl)) dX0_exchange_16 ⟨Nat.le_of_ble_eq_true rfl, Nat.le_of_ble_eq_true rfl⟩) (fun r hr0 => ?_)
    subst hr0
    obtain ⟨o17, ho_17⟩ : ∃ z9 : Option Nat, s_at n F (vp + 1) 1 = z9 := ⟨_, rfl⟩
    refine rv_top (y := oI o17) (by rw [ho_17]) ?_
    rcases o17 with _ | k17
    · refine rv_top (y := -1) rfl ?_
      refine lv_istore_n (lv' := [(3, .int (-1)), (2, .int (-1)), (0, .ref h), (1, .int vp)]) hx hb dX0_exchange_19 rfl hl (by decide) rfl (fun ls hl => ?_)
      refine lv_iload_n hx hb dX0_exchange_20 rfl (lv_at hl 1 rfl) ?_
      refine lv_iconst (v := (-1)) hx hb dX0_exchange_21 (by decide) ?_
      refine lv_icmp_eq (tgt := 45) hx hb dX0_exchange_22 (by decide) (fun c_22 => ?_) (fun c_22 => ?_)
      · refine lv_iconst (v := 0) hx hb dX0_exchange_45 (by decide) ?_
        have hP8 : va_P (dC, dI) vwCl (wR h ad cI n (s_exch n F vp)) s.heap := by unfold s_exch; rw [ho_7]; exact hP
        have hD8 : va_D A (wR h ad cI n (s_exch n F vp)) := by unfold s_exch; rw [ho_7]; exact hD
        exact W.zret (v := 0) hx hb hr (by decide) (fun t ht hW => ⟨⟨_, (), rfl, (show 0 = bI (s_exchB n F vp) from by unfold s_exchB; rw [ho_7]; rfl), by rw [ht]; exact hP8, hD8⟩, hS.F ht⟩) hS.2.2 dX0_exchange_46
      · exact absurd c_22 (by decide)
    · refine rv_top (y := nI k17) rfl ?_
      have i_k17 : k17 < n := (s_at_lt n k17 ho_17).1
      refine lv_istore_n (lv' := [(3, .int (nI k17)), (2, .int (-1)), (0, .ref h), (1, .int vp)]) hx hb dX0_exchange_19 rfl hl (by decide) rfl (fun ls hl => ?_)
      refine lv_iload_n hx hb dX0_exchange_20 rfl (lv_at hl 1 rfl) ?_
      refine lv_iconst (v := (-1)) hx hb dX0_exchange_21 (by decide) ?_
      refine lv_icmp_eq (tgt := 45) hx hb dX0_exchange_22 (by decide) (fun c_22 => ?_) (fun c_22 => ?_)
      · refine lv_iconst (v := 0) hx hb dX0_exchange_45 (by decide) ?_
        have hP8 : va_P (dC, dI) vwCl (wR h ad cI n (s_exch n F vp)) s.heap := by unfold s_exch; rw [ho_7]; exact hP
        have hD8 : va_D A (wR h ad cI n (s_exch n F vp)) := by unfold s_exch; rw [ho_7]; exact hD
        exact W.zret (v := 0) hx hb hr (by decide) (fun t ht hW => ⟨⟨_, (), rfl, (show 0 = bI (s_exchB n F vp) from by unfold s_exchB; rw [ho_7]; rfl), by rw [ht]; exact hP8, hD8⟩, hS.F ht⟩) hS.2.2 dX0_exchange_46
      · exact absurd c_22 (by decide)
  · refine rv_top (y := nI k7) rfl ?_
    have i_k7 : k7 < n := (s_at_lt n k7 ho_7).1
    refine lv_istore_n (lv' := [(2, .int (nI k7)), (0, .ref h), (1, .int vp)]) hx hb dX0_exchange_10 rfl hl (by decide) rfl (fun ls hl => ?_)
    refine lv_aload_n hx hb dX0_exchange_11 rfl (lv_at hl 1 rfl) ?_
    refine lv_iload_n hx hb dX0_exchange_12 rfl (lv_at hl 2 rfl) ?_
    refine lv_iconst (v := 1) hx hb dX0_exchange_13 (by decide) ?_
    refine lv_iadd hx hb dX0_exchange_14 ?_
    refine lv_iconst (v := 1) hx hb dX0_exchange_15 (by decide) ?_
    refine vp_callSi (W.runV (As := [.int (vp + 1), .int 1]) (rest := []) ⟨hx, hb, hml, hown, hts⟩ (c_X0_standingAt l dC dI cI h ad n F (vp + 1) 1 hn) (cwV 2 hts gX0_exchange_X0_standingAt rfl rfl rfl (by decide +kernel) ⟨Nat.le_of_ble_eq_true rfl, Nat.le_of_ble_eq_true rfl⟩) ⟨PR.blind, va_recv hK hP (ci := 0) (q0 := 0) rfl rfl, fun U hU hW => ⟨rfl, PR.go hP hK hE hS hU hW⟩⟩ rfl rfl hl.1 rfl (lv_room (Nat.le_of_ble_eq_true rfl)) dX0_exchange_16 ⟨Nat.le_of_ble_eq_true rfl, Nat.le_of_ble_eq_true rfl⟩) (fun r hr0 => ?_)
    subst hr0
    obtain ⟨o17, ho_17⟩ : ∃ z9 : Option Nat, s_at n F (vp + 1) 1 = z9 := ⟨_, rfl⟩
    refine rv_top (y := oI o17) (by rw [ho_17]) ?_
    rcases o17 with _ | k17
    · refine rv_top (y := -1) rfl ?_
      refine lv_istore_n (lv' := [(3, .int (-1)), (2, .int (nI k7)), (0, .ref h), (1, .int vp)]) hx hb dX0_exchange_19 rfl hl (by decide) rfl (fun ls hl => ?_)
      refine lv_iload_n hx hb dX0_exchange_20 rfl (lv_at hl 1 rfl) ?_
      refine lv_iconst (v := (-1)) hx hb dX0_exchange_21 (by decide) ?_
      refine lv_icmp_eq (tgt := 45) hx hb dX0_exchange_22 (by decide) (fun c_22 => ?_) (fun c_22 => ?_)
      · exact absurd c_22 (nI_m1 (by omega))
      · refine lv_iload_n hx hb dX0_exchange_25 rfl (lv_at hl 0 rfl) ?_
        refine lv_iconst (v := (-1)) hx hb dX0_exchange_26 (by decide) ?_
        refine lv_icmp_eq (tgt := 45) hx hb dX0_exchange_27 (by decide) (fun c_27 => ?_) (fun c_27 => ?_)
        · refine lv_iconst (v := 0) hx hb dX0_exchange_45 (by decide) ?_
          have hP8 : va_P (dC, dI) vwCl (wR h ad cI n (s_exch n F vp)) s.heap := by unfold s_exch; rw [ho_7]; rw [ho_17]; exact hP
          have hD8 : va_D A (wR h ad cI n (s_exch n F vp)) := by unfold s_exch; rw [ho_7]; rw [ho_17]; exact hD
          exact W.zret (v := 0) hx hb hr (by decide) (fun t ht hW => ⟨⟨_, (), rfl, (show 0 = bI (s_exchB n F vp) from by unfold s_exchB; rw [ho_7]; rw [ho_17]; rfl), by rw [ht]; exact hP8, hD8⟩, hS.F ht⟩) hS.2.2 dX0_exchange_46
        · exact absurd c_27 (by decide)
    · refine rv_top (y := nI k17) rfl ?_
      have i_k17 : k17 < n := (s_at_lt n k17 ho_17).1
      refine lv_istore_n (lv' := [(3, .int (nI k17)), (2, .int (nI k7)), (0, .ref h), (1, .int vp)]) hx hb dX0_exchange_19 rfl hl (by decide) rfl (fun ls hl => ?_)
      refine lv_iload_n hx hb dX0_exchange_20 rfl (lv_at hl 1 rfl) ?_
      refine lv_iconst (v := (-1)) hx hb dX0_exchange_21 (by decide) ?_
      refine lv_icmp_eq (tgt := 45) hx hb dX0_exchange_22 (by decide) (fun c_22 => ?_) (fun c_22 => ?_)
      · exact absurd c_22 (nI_m1 (by omega))
      · refine lv_iload_n hx hb dX0_exchange_25 rfl (lv_at hl 0 rfl) ?_
        refine lv_iconst (v := (-1)) hx hb dX0_exchange_26 (by decide) ?_
        refine lv_icmp_eq (tgt := 45) hx hb dX0_exchange_27 (by decide) (fun c_27 => ?_) (fun c_27 => ?_)
        · exact absurd c_27 (nI_m1 (by omega))
        · refine lv_aload_n hx hb dX0_exchange_30 rfl (lv_at hl 2 rfl) ?_
          refine va_get (D := (dC, dI)) (ci := 0) (v := .ref (ad 2)) (C := RX0) (T := TX0) (N := 8) hx hb hts hinX0 hown hK hP 0 rfl rfl 2 (by decide) (hts (.fieldLink RX0 18 "WrestleBook$Roster" "points" "[I") (by decide +kernel)) (fun _ h9 => h9) rfl dX0_exchange_31 ?_
          refine lv_iload_n hx hb dX0_exchange_34 rfl (lv_at hl 0 rfl) ?_
          refine rv_iald (k := k17) hx hb hK hP 3 0 rfl rfl (show k17 < 12 by omega) (by decide) dX0_exchange_35 ?_
          refine lv_aload_n hx hb dX0_exchange_36 rfl (lv_at hl 2 rfl) ?_
          refine va_get (D := (dC, dI)) (ci := 0) (v := .ref (ad 2)) (C := RX0) (T := TX0) (N := 8) hx hb hts hinX0 hown hK hP 0 rfl rfl 2 (by decide) (hts (.fieldLink RX0 18 "WrestleBook$Roster" "points" "[I") (by decide +kernel)) (fun _ h9 => h9) rfl dX0_exchange_37 ?_
          refine lv_iload_n hx hb dX0_exchange_40 rfl (lv_at hl 1 rfl) ?_
          refine rv_iald (k := k7) hx hb hK hP 3 0 rfl rfl (show k7 < 12 by omega) (by decide) dX0_exchange_41 ?_
          refine lv_icmp_gt (tgt := 47) hx hb dX0_exchange_42 (by decide) (fun c_42 => ?_) (fun c_42 => ?_)
          · refine lv_aload_n hx hb dX0_exchange_47 rfl (lv_at hl 2 rfl) ?_
            refine va_get (D := (dC, dI)) (ci := 0) (v := .ref (ad 0)) (C := RX0) (T := TX0) (N := 8) hx hb hts hinX0 hown hK hP 0 rfl rfl 0 (by decide) (hts (.fieldLink RX0 9 "WrestleBook$Roster" "leagues" "[I") (by decide +kernel)) (fun _ h9 => h9) rfl dX0_exchange_48 ?_
            refine lv_iload_n hx hb dX0_exchange_51 rfl (lv_at hl 1 rfl) ?_
            refine lv_iload_n hx hb dX0_exchange_52 rfl (lv_at hl 3 rfl) ?_
            refine lv_iconst (v := 1) hx hb dX0_exchange_53 (by decide) ?_
            refine lv_iadd hx hb dX0_exchange_54 ?_
            refine rv_iast (k := k7) hx hb hK hP hD hS 1 0 rfl rfl (show k7 < 12 by omega) (by decide) dX0_exchange_55 (fun H locs hP hD hS => ?_)
            have hP : va_P (dC, dI) vwCl (wR h ad cI n (pu F 0 k7 (vp + 1))) H := hP
            have hD : va_D A (wR h ad cI n (pu F 0 k7 (vp + 1))) := hD
            refine lv_aload_n hx hb dX0_exchange_56 rfl (lv_at hl 2 rfl) ?_
            refine va_get (D := (dC, dI)) (ci := 0) (v := .ref (ad 0)) (C := RX0) (T := TX0) (N := 8) hx hb hts hinX0 hown hK hP 0 rfl rfl 0 (by decide) (hts (.fieldLink RX0 9 "WrestleBook$Roster" "leagues" "[I") (by decide +kernel)) (fun _ h9 => h9) rfl dX0_exchange_57 ?_
            refine lv_iload_n hx hb dX0_exchange_60 rfl (lv_at hl 0 rfl) ?_
            refine lv_iload_n hx hb dX0_exchange_61 rfl (lv_at hl 3 rfl) ?_
            refine rv_iast (k := k17) hx hb hK hP hD hS 1 0 rfl rfl (show k17 < 12 by omega) (by decide) dX0_exchange_62 (fun H locs hP hD hS => ?_)
            have hP : va_P (dC, dI) vwCl (wR h ad cI n (pu (pu F 0 k7 (vp + 1)) 0 k17 vp)) H := hP
            have hD : va_D A (wR h ad cI n (pu (pu F 0 k7 (vp + 1)) 0 k17 vp)) := hD
            refine lv_iconst (v := 1) hx hb dX0_exchange_63 (by decide) ?_
            have hP8 : va_P (dC, dI) vwCl (wR h ad cI n (s_exch n F vp)) H := by unfold s_exch; rw [ho_7]; rw [ho_17]; simp only [if_pos c_42]; exact hP
            have hD8 : va_D A (wR h ad cI n (s_exch n F vp)) := by unfold s_exch; rw [ho_7]; rw [ho_17]; simp only [if_pos c_42]; exact hD
            exact W.zret (v := 1) hx hb hr (by decide) (fun t ht hW => ⟨⟨_, (), rfl, (show 1 = bI (s_exchB n F vp) from by unfold s_exchB; rw [ho_7]; rw [ho_17]; simp [c_42, bI]), by rw [ht]; exact hP8, hD8⟩, hS.F ht⟩) hS.2.2 dX0_exchange_64
          · refine lv_iconst (v := 0) hx hb dX0_exchange_45 (by decide) ?_
            have hP8 : va_P (dC, dI) vwCl (wR h ad cI n (s_exch n F vp)) s.heap := by unfold s_exch; rw [ho_7]; rw [ho_17]; simp only [if_neg c_42]; exact hP
            have hD8 : va_D A (wR h ad cI n (s_exch n F vp)) := by unfold s_exch; rw [ho_7]; rw [ho_17]; simp only [if_neg c_42]; exact hD
            exact W.zret (v := 0) hx hb hr (by decide) (fun t ht hW => ⟨⟨_, (), rfl, (show 0 = bI (s_exchB n F vp) from by unfold s_exchB; rw [ho_7]; rw [ho_17]; simp [c_42, bI]), by rw [ht]; exact hP8, hD8⟩, hS.F ht⟩) hS.2.2 dX0_exchange_46

set_option maxHeartbeats 4000000 in
set_option maxRecDepth 100000 in
theorem c_X0_copyFrom (l : Launch) (dC : Nat → ClassId) (dI : Nat → Nat → Nat) (cI : ClassId) (h : Nat) (ad : Nat → Nat) (n : Nat) (F : Nat → Nat → Int32) (h2 : Nat) (ad2 : Nat → Nat) (n2 : Nat) (G : Nat → Nat → Int32) (sz : Nat) (hn2 : n2 ≤ 12) : Met l yX0_copyFrom wsX0_copyFrom ({ frames := 0, cells := 0, slots := 0, locals := 0 } : Room) (va_Pc [.ref h, .ref h2] (fun U => PW dC dI cI (wR h ad cI n F ++ wR h2 ad2 cI n2 G) sz U)) (va_Qv (fun (_ : Unit) => True) (BW dC dI (va_A (wR h ad cI n F ++ wR h2 ad2 cI n2 G) sz) (wR h ad cI n2 (s_copyU G F n2) ++ wR h2 ad2 cI n2 G)) (va_A (wR h ad cI n F ++ wR h2 ad2 cI n2 G) sz)) 0 0 (va_A (wR h ad cI n F ++ wR h2 ad2 cI n2 G) sz) := by
  refine Met.ofW (cc := cX0_copyFrom) (maxL := 3) (ret := none) (by decide) rfl ?_
  intro p e s m args below meth c s₁ B hml hv
  obtain ⟨rfl, hsz, hP, hK, hD0, hE⟩ := hv
  have hx := B.exec
  have hb := B.bytes
  have hr := B.returns
  have hts := atoms_spec (ws := wsX0_copyFrom) B.pre
  have hown : s.vm.findClass RX0 = some m.cls := findClass_of_methodNamed B.named
  have hlocks := B.notSynchronized
  subst hsz
  have hD := hD0.self (sz := s.heap.size)
  generalize hAe : va_A (wR h ad cI n F ++ wR h2 ad2 cI n2 G) s.heap.size = A at hD hE ⊢
  have hA : ∀ q : Nat, s.heap.size ≤ q → A q := fun q h9 => by rw [← hAe]; exact Or.inr h9
  have hS : va_S A s.heap s.heap [] := va_S.rf
  have hinX0 : ∀ w ∈ wsX00, w ∈ wsX0_copyFrom := by decide +kernel
  have hl := lv_entry ([.ref h, .ref h2]) (n := 3) (Nat.le_of_ble_eq_true rfl)
  rw [lg_entry_eq]
  generalize (lg_sl ([.ref h, .ref h2]) ++ List.replicate (3 - (lg_sl ([.ref h, .ref h2])).length) Slot.unset).toArray = ls at hl ⊢
  have hl : lv_has ls 3 [(0, .ref h), (1, .ref h2)] := hl
  refine lv_aload_n hx hb dX0_copyFrom_0 rfl (lv_at hl 0 rfl) ?_
  refine lv_aload_n hx hb dX0_copyFrom_1 rfl (lv_at hl 1 rfl) ?_
  refine va_get (D := (dC, dI)) (ci := 0) (v := .int (nI n2)) (C := RX0) (T := TX0) (N := 8) hx hb hts hinX0 hown hK hP 8 rfl rfl 7 (by decide) (hts (.fieldLink RX0 33 "WrestleBook$Roster" "size" "I") (by decide +kernel)) (fun _ h9 => h9) rfl dX0_copyFrom_2 ?_
  refine va_put (D := (dC, dI)) (ci := 0) (v := .int (nI n2)) (ty := .int) (C := RX0) (T := TX0) (N := 8) hx hb hts hinX0 tyX0 tyX0_ok nmX0 hown hK hP hD hS 0 rfl rfl 7 (by decide) (hts (.fieldLink RX0 33 "WrestleBook$Roster" "size" "I") (by decide +kernel)) (fun _ h9 => h9) rfl (by decide +kernel) rfl rfl (Nat.le_of_ble_eq_true rfl) dX0_copyFrom_5 (fun H locs hP hD hS => ?_)
  have hP : va_P (dC, dI) vwCl (wR h ad cI n2 F ++ wR h2 ad2 cI n2 G) H := hP
  have hD : va_D A (wR h ad cI n2 F ++ wR h2 ad2 cI n2 G) := hD
  refine lv_iconst (v := 0) hx hb dX0_copyFrom_8 (by decide) ?_
  refine lv_istore_n (lv' := [(2, .int 0), (0, .ref h), (1, .ref h2)]) hx hb dX0_copyFrom_9 rfl hl (by decide) rfl (fun ls hl => ?_)
  have L_10 : ∀ (k i : Nat) (X : Nat → Nat → Int32), i + k = n2 → X = s_copyU G F i → ∀ (H : Heap) (locs : List Loc), va_P (dC, dI) vwCl (wR h ad cI n2 X ++ wR h2 ad2 cI n2 G) H → va_D A (wR h ad cI n2 X ++ wR h2 ad2 cI n2 G) → va_S A s.heap H locs → ∀ (ls : Array Slot), lv_has ls 3 [(2, .int (nI i)), (0, .ref h), (1, .ref h2)] → W p l e (headSpec wsX0_copyFrom ({ frames := 0, cells := 0, slots := 0, locals := 0 } : Room)).room s m ([.ref h, .ref h2] : List Value).toArray below meth c H locs 0 0 (MQ below (va_Qv (fun (_ : Unit) => True) (BW dC dI A (wR h ad cI n2 (s_copyU G F n2) ++ wR h2 ad2 cI n2 G)) A) ([.ref h, .ref h2] : List Value).toArray s 0 0 A) (F0 m 10 ls []) := by
    intro k
    induction k with
    | zero =>
      intro i X e_i hX H locs hP hD hS ls hl
      refine lv_iload_n hx hb dX0_copyFrom_10 rfl (lv_at hl 0 rfl) ?_
      refine lv_aload_n hx hb dX0_copyFrom_11 rfl (lv_at hl 1 rfl) ?_
      refine va_get (D := (dC, dI)) (ci := 0) (v := .int (nI n2)) (C := RX0) (T := TX0) (N := 8) hx hb hts hinX0 hown hK hP 0 rfl rfl 7 (by decide) (hts (.fieldLink RX0 33 "WrestleBook$Roster" "size" "I") (by decide +kernel)) (fun _ h9 => h9) rfl dX0_copyFrom_12 ?_
      refine rv_icmp_ge (tgt := 108) hx hb (a := i) (b := n2) (by omega) (by omega) dX0_copyFrom_15 (by decide) (fun c_15 => ?_) (fun c_15 => ?_)
      · have hP8 : va_P (dC, dI) vwCl (wR h ad cI n2 (s_copyU G F n2) ++ wR h2 ad2 cI n2 G) H := by rw [show s_copyU G F n2 = X from by rw [hX, show i = n2 by omega]]; exact hP
        have hD8 : va_D A (wR h ad cI n2 (s_copyU G F n2) ++ wR h2 ad2 cI n2 G) := by rw [show s_copyU G F n2 = X from by rw [hX, show i = n2 by omega]]; exact hD
        exact W.vret hx hb hr (fun t ht hW => ⟨⟨(), rfl, trivial, by rw [ht]; exact hP8, hD8⟩, hS.F ht⟩) hS.2.2 dX0_copyFrom_108
      · exact absurd c_15 (by omega)
    | succ k ih_10 =>
      intro i X e_i hX H locs hP hD hS ls hl
      refine lv_iload_n hx hb dX0_copyFrom_10 rfl (lv_at hl 0 rfl) ?_
      refine lv_aload_n hx hb dX0_copyFrom_11 rfl (lv_at hl 1 rfl) ?_
      refine va_get (D := (dC, dI)) (ci := 0) (v := .int (nI n2)) (C := RX0) (T := TX0) (N := 8) hx hb hts hinX0 hown hK hP 0 rfl rfl 7 (by decide) (hts (.fieldLink RX0 33 "WrestleBook$Roster" "size" "I") (by decide +kernel)) (fun _ h9 => h9) rfl dX0_copyFrom_12 ?_
      refine rv_icmp_ge (tgt := 108) hx hb (a := i) (b := n2) (by omega) (by omega) dX0_copyFrom_15 (by decide) (fun c_15 => ?_) (fun c_15 => ?_)
      · exact absurd c_15 (by omega)
      · refine lv_aload_n hx hb dX0_copyFrom_18 rfl (lv_at hl 1 rfl) ?_
        refine va_get (D := (dC, dI)) (ci := 0) (v := .ref (ad 0)) (C := RX0) (T := TX0) (N := 8) hx hb hts hinX0 hown hK hP 0 rfl rfl 0 (by decide) (hts (.fieldLink RX0 9 "WrestleBook$Roster" "leagues" "[I") (by decide +kernel)) (fun _ h9 => h9) rfl dX0_copyFrom_19 ?_
        refine lv_iload_n hx hb dX0_copyFrom_22 rfl (lv_at hl 0 rfl) ?_
        refine lv_aload_n hx hb dX0_copyFrom_23 rfl (lv_at hl 2 rfl) ?_
        refine va_get (D := (dC, dI)) (ci := 0) (v := .ref (ad2 0)) (C := RX0) (T := TX0) (N := 8) hx hb hts hinX0 hown hK hP 8 rfl rfl 0 (by decide) (hts (.fieldLink RX0 9 "WrestleBook$Roster" "leagues" "[I") (by decide +kernel)) (fun _ h9 => h9) rfl dX0_copyFrom_24 ?_
        refine lv_iload_n hx hb dX0_copyFrom_27 rfl (lv_at hl 0 rfl) ?_
        refine rv_iald (k := i) hx hb hK hP 9 0 rfl rfl (show i < 12 by omega) (by decide) dX0_copyFrom_28 ?_
        refine rv_iast (k := i) hx hb hK hP hD hS 1 0 rfl rfl (show i < 12 by omega) (by decide) dX0_copyFrom_29 (fun H locs hP hD hS => ?_)
        have hP : va_P (dC, dI) vwCl (wR h ad cI n2 (pu X 0 i (G 0 i)) ++ wR h2 ad2 cI n2 G) H := hP
        have hD : va_D A (wR h ad cI n2 (pu X 0 i (G 0 i)) ++ wR h2 ad2 cI n2 G) := hD
        refine lv_aload_n hx hb dX0_copyFrom_30 rfl (lv_at hl 1 rfl) ?_
        refine va_get (D := (dC, dI)) (ci := 0) (v := .ref (ad 1)) (C := RX0) (T := TX0) (N := 8) hx hb hts hinX0 hown hK hP 0 rfl rfl 1 (by decide) (hts (.fieldLink RX0 15 "WrestleBook$Roster" "ratings" "[I") (by decide +kernel)) (fun _ h9 => h9) rfl dX0_copyFrom_31 ?_
        refine lv_iload_n hx hb dX0_copyFrom_34 rfl (lv_at hl 0 rfl) ?_
        refine lv_aload_n hx hb dX0_copyFrom_35 rfl (lv_at hl 2 rfl) ?_
        refine va_get (D := (dC, dI)) (ci := 0) (v := .ref (ad2 1)) (C := RX0) (T := TX0) (N := 8) hx hb hts hinX0 hown hK hP 8 rfl rfl 1 (by decide) (hts (.fieldLink RX0 15 "WrestleBook$Roster" "ratings" "[I") (by decide +kernel)) (fun _ h9 => h9) rfl dX0_copyFrom_36 ?_
        refine lv_iload_n hx hb dX0_copyFrom_39 rfl (lv_at hl 0 rfl) ?_
        refine rv_iald (k := i) hx hb hK hP 10 0 rfl rfl (show i < 12 by omega) (by decide) dX0_copyFrom_40 ?_
        refine rv_iast (k := i) hx hb hK hP hD hS 2 0 rfl rfl (show i < 12 by omega) (by decide) dX0_copyFrom_41 (fun H locs hP hD hS => ?_)
        have hP : va_P (dC, dI) vwCl (wR h ad cI n2 (pu (pu X 0 i (G 0 i)) 1 i (G 1 i)) ++ wR h2 ad2 cI n2 G) H := hP
        have hD : va_D A (wR h ad cI n2 (pu (pu X 0 i (G 0 i)) 1 i (G 1 i)) ++ wR h2 ad2 cI n2 G) := hD
        refine lv_aload_n hx hb dX0_copyFrom_42 rfl (lv_at hl 1 rfl) ?_
        refine va_get (D := (dC, dI)) (ci := 0) (v := .ref (ad 2)) (C := RX0) (T := TX0) (N := 8) hx hb hts hinX0 hown hK hP 0 rfl rfl 2 (by decide) (hts (.fieldLink RX0 18 "WrestleBook$Roster" "points" "[I") (by decide +kernel)) (fun _ h9 => h9) rfl dX0_copyFrom_43 ?_
        refine lv_iload_n hx hb dX0_copyFrom_46 rfl (lv_at hl 0 rfl) ?_
        refine lv_aload_n hx hb dX0_copyFrom_47 rfl (lv_at hl 2 rfl) ?_
        refine va_get (D := (dC, dI)) (ci := 0) (v := .ref (ad2 2)) (C := RX0) (T := TX0) (N := 8) hx hb hts hinX0 hown hK hP 8 rfl rfl 2 (by decide) (hts (.fieldLink RX0 18 "WrestleBook$Roster" "points" "[I") (by decide +kernel)) (fun _ h9 => h9) rfl dX0_copyFrom_48 ?_
        refine lv_iload_n hx hb dX0_copyFrom_51 rfl (lv_at hl 0 rfl) ?_
        refine rv_iald (k := i) hx hb hK hP 11 0 rfl rfl (show i < 12 by omega) (by decide) dX0_copyFrom_52 ?_
        refine rv_iast (k := i) hx hb hK hP hD hS 3 0 rfl rfl (show i < 12 by omega) (by decide) dX0_copyFrom_53 (fun H locs hP hD hS => ?_)
        have hP : va_P (dC, dI) vwCl (wR h ad cI n2 (pu (pu (pu X 0 i (G 0 i)) 1 i (G 1 i)) 2 i (G 2 i)) ++ wR h2 ad2 cI n2 G) H := hP
        have hD : va_D A (wR h ad cI n2 (pu (pu (pu X 0 i (G 0 i)) 1 i (G 1 i)) 2 i (G 2 i)) ++ wR h2 ad2 cI n2 G) := hD
        refine lv_aload_n hx hb dX0_copyFrom_54 rfl (lv_at hl 1 rfl) ?_
        refine va_get (D := (dC, dI)) (ci := 0) (v := .ref (ad 3)) (C := RX0) (T := TX0) (N := 8) hx hb hts hinX0 hown hK hP 0 rfl rfl 3 (by decide) (hts (.fieldLink RX0 21 "WrestleBook$Roster" "bouts" "[I") (by decide +kernel)) (fun _ h9 => h9) rfl dX0_copyFrom_55 ?_
        refine lv_iload_n hx hb dX0_copyFrom_58 rfl (lv_at hl 0 rfl) ?_
        refine lv_aload_n hx hb dX0_copyFrom_59 rfl (lv_at hl 2 rfl) ?_
        refine va_get (D := (dC, dI)) (ci := 0) (v := .ref (ad2 3)) (C := RX0) (T := TX0) (N := 8) hx hb hts hinX0 hown hK hP 8 rfl rfl 3 (by decide) (hts (.fieldLink RX0 21 "WrestleBook$Roster" "bouts" "[I") (by decide +kernel)) (fun _ h9 => h9) rfl dX0_copyFrom_60 ?_
        refine lv_iload_n hx hb dX0_copyFrom_63 rfl (lv_at hl 0 rfl) ?_
        refine rv_iald (k := i) hx hb hK hP 12 0 rfl rfl (show i < 12 by omega) (by decide) dX0_copyFrom_64 ?_
        refine rv_iast (k := i) hx hb hK hP hD hS 4 0 rfl rfl (show i < 12 by omega) (by decide) dX0_copyFrom_65 (fun H locs hP hD hS => ?_)
        have hP : va_P (dC, dI) vwCl (wR h ad cI n2 (pu (pu (pu (pu X 0 i (G 0 i)) 1 i (G 1 i)) 2 i (G 2 i)) 3 i (G 3 i)) ++ wR h2 ad2 cI n2 G) H := hP
        have hD : va_D A (wR h ad cI n2 (pu (pu (pu (pu X 0 i (G 0 i)) 1 i (G 1 i)) 2 i (G 2 i)) 3 i (G 3 i)) ++ wR h2 ad2 cI n2 G) := hD
        refine lv_aload_n hx hb dX0_copyFrom_66 rfl (lv_at hl 1 rfl) ?_
        refine va_get (D := (dC, dI)) (ci := 0) (v := .ref (ad 4)) (C := RX0) (T := TX0) (N := 8) hx hb hts hinX0 hown hK hP 0 rfl rfl 4 (by decide) (hts (.fieldLink RX0 24 "WrestleBook$Roster" "seasonBouts" "[I") (by decide +kernel)) (fun _ h9 => h9) rfl dX0_copyFrom_67 ?_
        refine lv_iload_n hx hb dX0_copyFrom_70 rfl (lv_at hl 0 rfl) ?_
        refine lv_aload_n hx hb dX0_copyFrom_71 rfl (lv_at hl 2 rfl) ?_
        refine va_get (D := (dC, dI)) (ci := 0) (v := .ref (ad2 4)) (C := RX0) (T := TX0) (N := 8) hx hb hts hinX0 hown hK hP 8 rfl rfl 4 (by decide) (hts (.fieldLink RX0 24 "WrestleBook$Roster" "seasonBouts" "[I") (by decide +kernel)) (fun _ h9 => h9) rfl dX0_copyFrom_72 ?_
        refine lv_iload_n hx hb dX0_copyFrom_75 rfl (lv_at hl 0 rfl) ?_
        refine rv_iald (k := i) hx hb hK hP 13 0 rfl rfl (show i < 12 by omega) (by decide) dX0_copyFrom_76 ?_
        refine rv_iast (k := i) hx hb hK hP hD hS 5 0 rfl rfl (show i < 12 by omega) (by decide) dX0_copyFrom_77 (fun H locs hP hD hS => ?_)
        have hP : va_P (dC, dI) vwCl (wR h ad cI n2 (pu (pu (pu (pu (pu X 0 i (G 0 i)) 1 i (G 1 i)) 2 i (G 2 i)) 3 i (G 3 i)) 4 i (G 4 i)) ++ wR h2 ad2 cI n2 G) H := hP
        have hD : va_D A (wR h ad cI n2 (pu (pu (pu (pu (pu X 0 i (G 0 i)) 1 i (G 1 i)) 2 i (G 2 i)) 3 i (G 3 i)) 4 i (G 4 i)) ++ wR h2 ad2 cI n2 G) := hD
        refine lv_aload_n hx hb dX0_copyFrom_78 rfl (lv_at hl 1 rfl) ?_
        refine va_get (D := (dC, dI)) (ci := 0) (v := .ref (ad 5)) (C := RX0) (T := TX0) (N := 8) hx hb hts hinX0 hown hK hP 0 rfl rfl 5 (by decide) (hts (.fieldLink RX0 27 "WrestleBook$Roster" "winRows" "[I") (by decide +kernel)) (fun _ h9 => h9) rfl dX0_copyFrom_79 ?_
        refine lv_iload_n hx hb dX0_copyFrom_82 rfl (lv_at hl 0 rfl) ?_
        refine lv_aload_n hx hb dX0_copyFrom_83 rfl (lv_at hl 2 rfl) ?_
        refine va_get (D := (dC, dI)) (ci := 0) (v := .ref (ad2 5)) (C := RX0) (T := TX0) (N := 8) hx hb hts hinX0 hown hK hP 8 rfl rfl 5 (by decide) (hts (.fieldLink RX0 27 "WrestleBook$Roster" "winRows" "[I") (by decide +kernel)) (fun _ h9 => h9) rfl dX0_copyFrom_84 ?_
        refine lv_iload_n hx hb dX0_copyFrom_87 rfl (lv_at hl 0 rfl) ?_
        refine rv_iald (k := i) hx hb hK hP 14 0 rfl rfl (show i < 12 by omega) (by decide) dX0_copyFrom_88 ?_
        refine rv_iast (k := i) hx hb hK hP hD hS 6 0 rfl rfl (show i < 12 by omega) (by decide) dX0_copyFrom_89 (fun H locs hP hD hS => ?_)
        have hP : va_P (dC, dI) vwCl (wR h ad cI n2 (pu (pu (pu (pu (pu (pu X 0 i (G 0 i)) 1 i (G 1 i)) 2 i (G 2 i)) 3 i (G 3 i)) 4 i (G 4 i)) 5 i (G 5 i)) ++ wR h2 ad2 cI n2 G) H := hP
        have hD : va_D A (wR h ad cI n2 (pu (pu (pu (pu (pu (pu X 0 i (G 0 i)) 1 i (G 1 i)) 2 i (G 2 i)) 3 i (G 3 i)) 4 i (G 4 i)) 5 i (G 5 i)) ++ wR h2 ad2 cI n2 G) := hD
        refine lv_aload_n hx hb dX0_copyFrom_90 rfl (lv_at hl 1 rfl) ?_
        refine va_get (D := (dC, dI)) (ci := 0) (v := .ref (ad 6)) (C := RX0) (T := TX0) (N := 8) hx hb hts hinX0 hown hK hP 0 rfl rfl 6 (by decide) (hts (.fieldLink RX0 30 "WrestleBook$Roster" "bests" "[I") (by decide +kernel)) (fun _ h9 => h9) rfl dX0_copyFrom_91 ?_
        refine lv_iload_n hx hb dX0_copyFrom_94 rfl (lv_at hl 0 rfl) ?_
        refine lv_aload_n hx hb dX0_copyFrom_95 rfl (lv_at hl 2 rfl) ?_
        refine va_get (D := (dC, dI)) (ci := 0) (v := .ref (ad2 6)) (C := RX0) (T := TX0) (N := 8) hx hb hts hinX0 hown hK hP 8 rfl rfl 6 (by decide) (hts (.fieldLink RX0 30 "WrestleBook$Roster" "bests" "[I") (by decide +kernel)) (fun _ h9 => h9) rfl dX0_copyFrom_96 ?_
        refine lv_iload_n hx hb dX0_copyFrom_99 rfl (lv_at hl 0 rfl) ?_
        refine rv_iald (k := i) hx hb hK hP 15 0 rfl rfl (show i < 12 by omega) (by decide) dX0_copyFrom_100 ?_
        refine rv_iast (k := i) hx hb hK hP hD hS 7 0 rfl rfl (show i < 12 by omega) (by decide) dX0_copyFrom_101 (fun H locs hP hD hS => ?_)
        have hP : va_P (dC, dI) vwCl (wR h ad cI n2 (pu (pu (pu (pu (pu (pu (pu X 0 i (G 0 i)) 1 i (G 1 i)) 2 i (G 2 i)) 3 i (G 3 i)) 4 i (G 4 i)) 5 i (G 5 i)) 6 i (G 6 i)) ++ wR h2 ad2 cI n2 G) H := hP
        have hD : va_D A (wR h ad cI n2 (pu (pu (pu (pu (pu (pu (pu X 0 i (G 0 i)) 1 i (G 1 i)) 2 i (G 2 i)) 3 i (G 3 i)) 4 i (G 4 i)) 5 i (G 5 i)) 6 i (G 6 i)) ++ wR h2 ad2 cI n2 G) := hD
        refine lv_iinc (v := nI (i + 1)) (lv' := [(2, .int (nI (i + 1))), (0, .ref h), (1, .ref h2)]) hx hb dX0_copyFrom_102 hl (k := 0) rfl (nI_add i 1) (by decide) rfl (fun ls hl => ?_)
        refine lv_goto (tgt := 10) hx hb dX0_copyFrom_105 (by decide) ?_
        exact ih_10 (i + 1) (pu (pu (pu (pu (pu (pu (pu X 0 i (G 0 i)) 1 i (G 1 i)) 2 i (G 2 i)) 3 i (G 3 i)) 4 i (G 4 i)) 5 i (G 5 i)) 6 i (G 6 i)) (by omega) (by rw [hX]; rfl) _ _ hP hD hS ls (lv_sub hl [0, 1, 2] rfl)
  exact L_10 n2 0 F (by omega) rfl _ _ hP hD hS ls (lv_sub hl [0, 1, 2] rfl)
