/-! The law: its rounds -/
set_option maxHeartbeats 4000000 in
set_option maxRecDepth 100000 in
theorem law_loop {p : Program} {l : Launch} {e : Env} {s : State} {m : MethodId} {below : List Frame} {meth : Method} {c : Code} {b L : Nat} {xs : Nat → Int32} {dC : Nat → ClassId} {dI : Nat → Nat → Nat} {A : Nat → Prop} {cI cA : ClassId} {Q : State → Prop} (C0 : LC p l s m meth c b L xs dC dI A cI cA) (mb r1 : Nat) (d1 : Nat → Nat) (r2 : Nat) (d2 : Nat → Nat) (rc h : Nat) (kret : ∀ (H : Heap) (locs : List Loc) (ls : Array Slot), va_S A s.heap H locs → W p l e room_1 s m #[Value.ref b] below meth c H locs 600104 7301314 Q (F0 m 1251 ls [.int 1])) : ∀ (k t : Nat), t + k = 24 → ∀ (n : Nat) (F : Nat → Nat → Int32) (ct : Nat → Int32) (n2 : Nat) (G : Nat → Nat → Int32) (ch : Nat → Int32) (al : Nat) (rw : Nat → Nat), INV n F ct (80 + 4 * t) → ∀ (H : Heap) (locs : List Loc), va_P (dC, dI) vwCl (([] : va_W) ++ (wB mb r1 d1 r2 d2 rc cI n F n2 G ct ch ++ wT h al rw cA cI n F ct)) H → va_D A (([] : va_W) ++ (wB mb r1 d1 r2 d2 rc cI n F n2 G ct ch ++ wT h al rw cA cI n F ct)) → va_S A s.heap H locs → ∀ (ls : Array Slot), lv_has ls 29 [(3, .int (nI t)), (2, .ref h), (1, .ref mb), (0, .ref b)] → W p l e room_1 s m #[Value.ref b] below meth c H locs (400 + 30 * t) (4000 + 300 * t) Q (F0 m 22 ls []) := by
  have C1 := C0
  obtain ⟨hx, hb, hr, hml, hown, hts, hX, hbl, hlocks, hl0, hK, hE, hbA, hA, hL⟩ := C0
  intro k
  induction k with
  | zero =>
    intro t e_t n F ct n2 G ch al rw hI H locs hP hD hS ls hl
    refine lv_iload_n hx hb dL_law_22 rfl (lv_at hl 0 rfl) ?_
    refine lv_bipush (v := 24) hx hb dL_law_23 (by decide) ?_
    refine rv_icmp_ge (tgt := 1246) hx hb (a := t) (b := 24) (by omega) (by omega) dL_law_25 (by decide) (fun c_25 => ?_) (fun c_25 => ?_)
    · exact law_z C1 mb r1 d1 r2 d2 rc h t n F ct n2 G ch al rw (80 + 4 * t) (400 + 30 * t) (4000 + 300 * t) hI (by omega) (by omega) kret H locs hP hD hS ls hl
    · exact absurd (show 24 ≤ t by omega) c_25
  | succ k ih =>
    intro t e_t n F ct n2 G ch al rw hI H locs hP hD hS ls hl
    refine lv_iload_n hx hb dL_law_22 rfl (lv_at hl 0 rfl) ?_
    refine lv_bipush (v := 24) hx hb dL_law_23 (by decide) ?_
    refine rv_icmp_ge (tgt := 1246) hx hb (a := t) (b := 24) (by omega) (by omega) dL_law_25 (by decide) (fun c_25 => ?_) (fun c_25 => ?_)
    · exact absurd c_25 (by omega)
    · refine lv_aload_n hx hb dL_law_28 rfl (lv_at hl 3 rfl) ?_
      refine lv_iload_n hx hb dL_law_29 rfl (lv_at hl 0 rfl) ?_
      refine lv_bipush (v := 16) hx hb dL_law_30 (by decide) ?_
      refine lv_irem hx hb dL_law_32 (by decide) ?_
      refine rv_top (y := nI (t % 16)) (pk_rem (d := 16) (by omega) (by decide) (by decide)) ?_
      refine vp_callSi (W.runS (As := [.ref b, .int (nI (t % 16))]) (rest := []) ⟨hx, hb, hml, hown, hts⟩ (c_L_cell l b L xs hL (t % 16) (by omega)) (va_cwS 2 hts gL_law_L_cell rfl rfl rfl (by decide +kernel) ⟨Nat.le_of_ble_eq_true rfl, Nat.le_of_ble_eq_true rfl⟩) ⟨PX.blind, fun U hU hW => ⟨rfl, X_go hX hbl hbA hS hU hW⟩⟩ rfl rfl hl.1 rfl (lv_room (Nat.le_of_ble_eq_true rfl)) dL_law_33 ⟨(by show _ ≤ 600104; omega), (by show _ ≤ 7301314; omega)⟩) (fun r _ => ?_)
      refine lv_iload_n hx hb dL_law_36 rfl (lv_at hl 0 rfl) ?_
      refine lv_bipush (v := 16) hx hb dL_law_37 (by decide) ?_
      refine lv_idiv hx hb dL_law_39 (by decide) ?_
      refine lv_iconst (v := 4) hx hb dL_law_40 (by decide) ?_
      refine lv_imul hx hb dL_law_41 ?_
      refine lv_ishr hx hb dL_law_42 ?_
      refine lv_sipush (v := 263) hx hb dL_law_43 (by decide) ?_
      refine lv_iload_n hx hb dL_law_46 rfl (lv_at hl 0 rfl) ?_
      refine lv_imul hx hb dL_law_47 ?_
      refine lv_iadd hx hb dL_law_48 ?_
      generalize (r >>> (nI t / 16 * 4 &&& 31) + 263 * nI t) = v
      refine lv_istore (lv' := [(4, .int v), (3, .int (nI t)), (2, .ref h), (1, .ref mb), (0, .ref b)]) hx hb dL_law_49 hl (by decide) rfl (fun ls hl => ?_)
      refine lv_aload_n hx hb dL_law_51 rfl (lv_at hl 3 rfl) ?_
      refine lv_aload_n hx hb dL_law_52 rfl (lv_at hl 2 rfl) ?_
      refine lv_iload hx hb dL_law_53 (lv_at hl 0 rfl) ?_
      have hP : va_P (dC, dI) vwCl (wW mb r1 d1 r2 d2 rc h cA cI n F ct n2 G ch al rw) H := hP
      have hD : va_D A (wW mb r1 d1 r2 d2 rc h cA cI n F ct n2 G ch al rw) := hD
      have hFc := free_all hD hS hA
      refine va_calli (vx_runSW (As := [.ref mb, .ref h, .int v]) (rest := []) ⟨hx, hb, hml, hown, hts⟩ (c_L_act l hl0 dC dI cI mb r1 d1 r2 d2 rc h cA n F ct n2 G ch al rw H.size v (80 + 4 * t) (by omega) hI) (vx_cwSW 3 hts gL_law_L_act rfl rfl rfl (by decide +kernel) ⟨Nat.le_of_ble_eq_true rfl, Nat.le_of_ble_eq_true rfl⟩) ⟨PV.blind, fun U hU hW => ⟨rfl, PV.go hP hK hD hE hS hFc hU hW⟩⟩ rfl rfl hl.1 rfl (lv_room (Nat.le_of_ble_eq_true rfl)) dL_law_55 ⟨(by show _ ≤ 600104; omega), (by show _ ≤ 7301314; omega)⟩) hS (fun q _ h9 => hFc q h9) hFc (fun r9 u9 t9 H1 locs ht9 hvm9 hw9 hB9 hz9 hk9 hS => ?_)
      obtain ⟨n', F', ct', n2', G', ch', al', rw'⟩ := u9
      obtain ⟨hP9, hD9⟩ := hB9
      rw [ht9] at hP9
      obtain ⟨hr1, hI9⟩ := hw9
      subst hr1
      refine lv_if_ne (tgt := 63) hx hb dL_law_58 (by decide) (fun _ => ?_) (fun c_58 => absurd c_58 (by decide))
      refine law_a C1 mb r1 d1 r2 d2 rc h t v n' F' ct' n2' G' ch' al' rw' (80 + 4 * t + 2) (400 + 30 * t + 8) (4000 + 300 * t + 80) hI9 (by omega) (by omega) (by omega) (fun F8 ct8 n8 G8 hI8 H locs hP hD hS ls hl => ?_) H1 locs hP9 (hD9.weaken (fun _ q _ h9 => hFc q.1 h9)) hS ls hl
      refine lv_iinc (v := nI (t + 1)) (lv' := [(3, .int (nI (t + 1))), (2, .ref h), (1, .ref mb), (0, .ref b)]) hx hb dL_law_1240 hl (k := 0) rfl (nI_add t 1) (by decide) rfl (fun ls hl => ?_)
      refine lv_goto (tgt := 22) hx hb dL_law_1243 (by decide) ?_
      refine W.widen (k := 400 + 30 * (t + 1)) (n := 4000 + 300 * (t + 1)) (by omega) (by omega) ?_
      exact ih (t + 1) (by omega) n' F8 ct8 n8 G8 ch' al' rw' (by rw [show 80 + 4 * (t + 1) = 80 + 4 * t + 2 + 2 by omega]; exact hI8) H locs hP hD hS ls hl
