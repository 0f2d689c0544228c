/-! The Sim: bout, match, next, order, end -/
theorem bout_mb (F : Nat → Nat → Int32) {a b : Nat} (q : Nat) (h : a ≠ b) : s_note (s_note (s_set (s_set F a (F 1 a + s_gain F a b (nI q))) b (s_set F a (F 1 a + s_gain F a b (nI q)) 1 b + s_gain F b a (nI (2 - q)))) a q) b (2 - q) = s_hold F a b q := by
  rw [hold_mb F q h]
  unfold s_mb
  rw [set_1, if_neg (fun z => h z.symm)]
  unfold s_gain
  rw [i32_asc, i32_asc, q500, q500]
theorem up_no {ct : Nat → Int32} {F : Nat → Nat → Int32} {a b q : Nat} (h : s_up F a b (nI q) = false) : upd ct 1 (ct 1 + 1) = s_ct ct F a b q := by
  unfold s_ct
  rw [h, show upd ct 2 (ct 2 + bI false) = ct from upd_0 ct 2]
theorem up_yes {ct : Nat → Int32} {F : Nat → Nat → Int32} {a b q : Nat} (h : s_up F a b (nI q) = true) : upd (upd ct 2 (ct 2 + 1)) 1 (ct 1 + 1) = s_ct ct F a b q := by
  unfold s_ct
  rw [h]; rfl
theorem s_up2 {F : Nat → Nat → Int32} {a b q : Nat} (h : q = 2) : s_up F a b (nI q) = (if s_exp F a b < 400 then true else false) := by subst h; rfl
theorem s_up0 {F : Nat → Nat → Int32} {a b q : Nat} (h : q = 0) : s_up F a b (nI q) = (if s_exp F b a < 400 then true else false) := by subst h; rfl
theorem driftU_1 (F : Nat → Nat → Int32) : ∀ m j, m ≤ j → s_driftU F m 1 j = F 1 j
  | 0, _, _ => rfl
  | m + 1, j, h => by
    show (if (3 : Int32) ≤ (s_driftU F m) 4 m then s_driftU F m else s_set (s_driftU F m) m ((s_driftU F m) 1 m - ((s_driftU F m) 1 m - 1000) / 8)) 1 j = F 1 j
    by_cases c : (3 : Int32) ≤ (s_driftU F m) 4 m
    · rw [if_pos c]; exact driftU_1 F m j (by omega)
    · rw [if_neg c, set_1, if_neg (by omega)]; exact driftU_1 F m j (by omega)
theorem ngd0 : (List.range 3001).all (fun r => decide ((-(nI r - 1000)) / 8 = -((nI r - 1000) / 8))) = true := by decide +kernel
theorem ngd {x : Int32} (h : ∃ r : Nat, 100 ≤ r ∧ r ≤ 3000 ∧ x = nI r) : (-(x - 1000)) / 8 = -((x - 1000) / 8) := by
  obtain ⟨r, h1, h2, rfl⟩ := h
  exact of_decide_eq_true (List.all_eq_true.mp ngd0 r (List.mem_range.mpr (by omega)))
theorem add_ng (x y : Int32) : x + -y = x - y := by rw [Int32.sub_eq_add_neg]
theorem qz {q : Nat} (hq : q ≤ 2) (c : nI q = 0) : q = 0 := (nI_eq (b := 0) (by omega) (by decide)).mp c
theorem q1 {q : Nat} (hq : q ≤ 2) (c2 : ¬ q = 2) (c : ¬ nI q = 0) : q = 1 := by
  have : ¬ q = 0 := fun z => c (by rw [z]; rfl)
  omega
set_option maxHeartbeats 4000000 in
set_option maxRecDepth 100000 in
theorem c_X2_bout (l : Launch) (dC : Nat → ClassId) (dI : Nat → Nat → Nat) (cI : ClassId) (h al : Nat) (rw : Nat → Nat) (cA : ClassId) (n : Nat) (F : Nat → Nat → Int32) (ct : Nat → Int32) (sz : Nat) (a : Nat) (i_a : a < n) (b : Nat) (i_b : b < n) (q : Nat) (hq : q ≤ 2) (hab : a ≠ b) (hn : n ≤ 12) (hR : okR n F) : Met l yX2_bout wsX2_bout ({ frames := 3, cells := 4, slots := 36, locals := 77 } : Room) (va_Pc [.ref h, .int (nI a), .int (nI b), .int (nI q)] (fun U => PV dC dI cI cA (wT h al rw cA cI n F ct) sz U)) (va_Qi (fun r (_ : Unit) => r = s_gain F a b (nI q)) (BW dC dI (va_A (wT h al rw cA cI n F ct) sz) (wT h al rw cA cI n (s_hold F a b q) (s_ct ct F a b q))) (va_A (wT h al rw cA cI n F ct) sz)) 4 36 (va_A (wT h al rw cA cI n F ct) sz) := by
  refine Met.ofW (cc := cX2_bout) (maxL := 6) (ret := (some .int)) (by decide) rfl ?_
  intro p e s m args below meth c s₁ B hml hv
  obtain ⟨rfl, hsz, hP, hK, hD0, hE⟩ := hv
  have hx := B.exec
  have hb := B.bytes
  have hr := B.returns
  have hts := atoms_spec (ws := wsX2_bout) B.pre
  have hown : s.vm.findClass RX2 = some m.cls := findClass_of_methodNamed B.named
  have hlocks := B.notSynchronized
  subst hsz
  have hD := hD0.self (sz := s.heap.size)
  generalize hAe : va_A (wT h al rw cA cI n F ct) s.heap.size = A at hD hE ⊢
  have hA : ∀ q : Nat, s.heap.size ≤ q → A q := fun q h9 => by rw [← hAe]; exact Or.inr h9
  have hS : va_S A s.heap s.heap [] := va_S.rf
  have hinX2 : ∀ w ∈ wsX20, w ∈ wsX2_bout := by decide +kernel
  have hl := lv_entry ([.ref h, .int (nI a), .int (nI b), .int (nI q)]) (n := 6) (Nat.le_of_ble_eq_true rfl)
  rw [lg_entry_eq]
  generalize (lg_sl ([.ref h, .int (nI a), .int (nI b), .int (nI q)]) ++ List.replicate (6 - (lg_sl ([.ref h, .int (nI a), .int (nI b), .int (nI q)])).length) Slot.unset).toArray = ls at hl ⊢
  have hl : lv_has ls 6 [(0, .ref h), (1, .int (nI a)), (2, .int (nI b)), (3, .int (nI q))] := hl
  obtain ⟨H, hHe⟩ : ∃ H, H = s.heap := ⟨_, rfl⟩
  have hP : va_P (dC, dI) vwCl (wT h al rw cA cI n F ct) H := by rw [hHe]; exact hP
  have hS : va_S A s.heap H [] := by rw [hHe]; exact hS
  suffices h0 : W p l e (headSpec wsX2_bout ({ frames := 3, cells := 4, slots := 36, locals := 77 } : Room)).room s m ([.ref h, .int (nI a), .int (nI b), .int (nI q)] : List Value).toArray below meth c H [] 0 0 (MQ below (va_Qi (fun r (_ : Unit) => r = s_gain F a b (nI q)) (BW dC dI A (wT h al rw cA cI n (s_hold F a b q) (s_ct ct F a b q))) A) ([.ref h, .int (nI a), .int (nI b), .int (nI q)] : List Value).toArray s 4 36 A) (F0 m 0 ls []) from by have h9 := h0; rw [hHe] at h9; exact h9
  refine lv_aload_n hx hb dX2_bout_0 rfl (lv_at hl 0 rfl) ?_
  refine lv_iload_n hx hb dX2_bout_1 rfl (lv_at hl 1 rfl) ?_
  refine lv_iload_n hx hb dX2_bout_2 rfl (lv_at hl 2 rfl) ?_
  refine lv_iload_n hx hb dX2_bout_3 rfl (lv_at hl 3 rfl) ?_
  refine va_calli (va_runV (As := [.int (nI a), .int (nI b), .int (nI q)]) (rest := []) ⟨hx, hb, hml, hown, hts⟩ (c_X2_change l dC dI cI h al rw cA n F ct H.size a (show a < n by omega) b (show b < n by omega) (nI q) hn hR) (cwV 3 hts gX2_bout_X2_change rfl rfl rfl (by decide +kernel) ⟨Nat.le_of_ble_eq_true rfl, Nat.le_of_ble_eq_true rfl⟩) ⟨PT.blind, va_recv hK hP (ci := 2) (q0 := 0) rfl rfl, fun U hU hW => ⟨rfl, PT.go hP hK hE hS hA hU hW⟩⟩ rfl rfl hl.1 rfl (lv_room (Nat.le_of_ble_eq_true rfl)) dX2_bout_4 ⟨(by show _ ≤ 4; omega), (by show _ ≤ 36; omega)⟩) hS (fun q h8 h9 => absurd h9 (Nat.not_le.mpr h8)) (fun q h9 => hA q (Nat.le_trans hS.1 h9)) (fun r u9 t9 H locs ht9 hvm9 hw9 hB9 hz9 hk9 hS => ?_)
  have hP := P_new hP hk9
  have hw9 : r = s_gain F a b (nI q) := hw9
  subst hw9
  refine lv_istore (lv' := [(4, .int (s_gain F a b (nI q))), (0, .ref h), (1, .int (nI a)), (2, .int (nI b)), (3, .int (nI q))]) hx hb dX2_bout_7 hl (by decide) rfl (fun ls hl => ?_)
  refine lv_aload_n hx hb dX2_bout_9 rfl (lv_at hl 1 rfl) ?_
  refine lv_iload_n hx hb dX2_bout_10 rfl (lv_at hl 3 rfl) ?_
  refine lv_iload_n hx hb dX2_bout_11 rfl (lv_at hl 2 rfl) ?_
  refine lv_iconst (v := 2) hx hb dX2_bout_12 (by decide) ?_
  refine lv_iload_n hx hb dX2_bout_13 rfl (lv_at hl 4 rfl) ?_
  refine lv_isub hx hb dX2_bout_14 ?_
  refine rv_top (y := nI (2 - q)) (pk_sub (a := 2) hq) ?_
  refine va_calli (va_runV (As := [.int (nI b), .int (nI a), .int (nI (2 - q))]) (rest := []) ⟨hx, hb, hml, hown, hts⟩ (c_X2_change l dC dI cI h al rw cA n F ct H.size b (show b < n by omega) a (show a < n by omega) (nI (2 - q)) hn hR) (cwV 3 hts gX2_bout_X2_change rfl rfl rfl (by decide +kernel) ⟨Nat.le_of_ble_eq_true rfl, Nat.le_of_ble_eq_true rfl⟩) ⟨PT.blind, va_recv hK hP (ci := 2) (q0 := 0) rfl rfl, fun U hU hW => ⟨rfl, PT.go hP hK hE hS hA hU hW⟩⟩ rfl rfl hl.1 rfl (lv_room (Nat.le_of_ble_eq_true rfl)) dX2_bout_15 ⟨(by show _ ≤ 4; omega), (by show _ ≤ 36; omega)⟩) hS (fun q h8 h9 => absurd h9 (Nat.not_le.mpr h8)) (fun q h9 => hA q (Nat.le_trans hS.1 h9)) (fun r u9 t9 H locs ht9 hvm9 hw9 hB9 hz9 hk9 hS => ?_)
  have hP := P_new hP hk9
  have hw9 : r = s_gain F b a (nI (2 - q)) := hw9
  subst hw9
  refine lv_istore (lv' := [(5, .int (s_gain F b a (nI (2 - q)))), (4, .int (s_gain F a b (nI q))), (0, .ref h), (1, .int (nI a)), (2, .int (nI b)), (3, .int (nI q))]) hx hb dX2_bout_18 hl (by decide) rfl (fun ls hl => ?_)
  refine lv_iload_n hx hb dX2_bout_20 rfl (lv_at hl 5 rfl) ?_
  refine lv_iconst (v := 2) hx hb dX2_bout_21 (by decide) ?_
  refine rv_icmp_ne (tgt := 37) hx hb (a := q) (b := 2) (by omega) (by omega) dX2_bout_22 (by decide) (fun c_22 => ?_) (fun c_22 => ?_)
  · refine lv_iload_n hx hb dX2_bout_37 rfl (lv_at hl 5 rfl) ?_
    refine lv_if_ne (tgt := 63) hx hb dX2_bout_38 (by decide) (fun c_38 => ?_) (fun c_38 => ?_)
    · refine lv_aload_n hx hb dX2_bout_63 rfl (lv_at hl 2 rfl) ?_
      refine lv_iload_n hx hb dX2_bout_64 rfl (lv_at hl 3 rfl) ?_
      refine lv_iload hx hb dX2_bout_65 (lv_at hl 1 rfl) ?_
      have hFc := free_all hD hS hA
      refine va_callv (va_runV (As := [.int (nI a), .int (s_gain F a b (nI q))]) (rest := []) ⟨hx, hb, hml, hown, hts⟩ (c_X2_raise l dC dI cI h al rw cA n F ct H.size a (show a < n by omega) (s_gain F a b (nI q)) hn) (cwV 2 hts gX2_bout_X2_raise rfl rfl rfl (by decide +kernel) ⟨Nat.le_of_ble_eq_true rfl, Nat.le_of_ble_eq_true rfl⟩) ⟨PV.blind, va_recv hK hP (ci := 2) (q0 := 0) rfl rfl, fun U hU hW => ⟨rfl, PV.go hP hK hD hE hS hFc hU hW⟩⟩ rfl rfl hl.1 rfl (lv_room (Nat.le_of_ble_eq_true rfl)) dX2_bout_67 ⟨(by show _ ≤ 4; omega), (by show _ ≤ 36; omega)⟩) hS (fun q _ h9 => hFc q h9) hFc (fun u9 t9 H locs ht9 hvm9 hw9 hB9 hz9 hk9 hS => ?_)
      obtain ⟨hP, hD9⟩ := hB9
      rw [ht9] at hP
      have hD := hD9.weaken (fun _ q _ h9 => hFc q.1 h9)
      have hP : va_P (dC, dI) vwCl (wT h al rw cA cI n (s_set F a (F 1 a + (s_gain F a b (nI q)))) ct) H := hP
      have hD : va_D A (wT h al rw cA cI n (s_set F a (F 1 a + (s_gain F a b (nI q)))) ct) := hD
      refine lv_aload_n hx hb dX2_bout_70 rfl (lv_at hl 2 rfl) ?_
      refine lv_iload_n hx hb dX2_bout_71 rfl (lv_at hl 4 rfl) ?_
      refine lv_iload hx hb dX2_bout_72 (lv_at hl 0 rfl) ?_
      have hFc := free_all hD hS hA
      refine va_callv (va_runV (As := [.int (nI b), .int (s_gain F b a (nI (2 - q)))]) (rest := []) ⟨hx, hb, hml, hown, hts⟩ (c_X2_raise l dC dI cI h al rw cA n (s_set F a (F 1 a + (s_gain F a b (nI q)))) ct H.size b (show b < n by omega) (s_gain F b a (nI (2 - q))) hn) (cwV 2 hts gX2_bout_X2_raise rfl rfl rfl (by decide +kernel) ⟨Nat.le_of_ble_eq_true rfl, Nat.le_of_ble_eq_true rfl⟩) ⟨PV.blind, va_recv hK hP (ci := 2) (q0 := 0) rfl rfl, fun U hU hW => ⟨rfl, PV.go hP hK hD hE hS hFc hU hW⟩⟩ rfl rfl hl.1 rfl (lv_room (Nat.le_of_ble_eq_true rfl)) dX2_bout_74 ⟨(by show _ ≤ 4; omega), (by show _ ≤ 36; omega)⟩) hS (fun q _ h9 => hFc q h9) hFc (fun u9 t9 H locs ht9 hvm9 hw9 hB9 hz9 hk9 hS => ?_)
      obtain ⟨hP, hD9⟩ := hB9
      rw [ht9] at hP
      have hD := hD9.weaken (fun _ q _ h9 => hFc q.1 h9)
      have hP : va_P (dC, dI) vwCl (wT h al rw cA cI n (s_set (s_set F a (F 1 a + (s_gain F a b (nI q)))) b ((s_set F a (F 1 a + (s_gain F a b (nI q)))) 1 b + (s_gain F b a (nI (2 - q))))) ct) H := hP
      have hD : va_D A (wT h al rw cA cI n (s_set (s_set F a (F 1 a + (s_gain F a b (nI q)))) b ((s_set F a (F 1 a + (s_gain F a b (nI q)))) 1 b + (s_gain F b a (nI (2 - q))))) ct) := hD
      refine lv_aload_n hx hb dX2_bout_77 rfl (lv_at hl 2 rfl) ?_
      refine lv_iload_n hx hb dX2_bout_78 rfl (lv_at hl 3 rfl) ?_
      refine lv_iload_n hx hb dX2_bout_79 rfl (lv_at hl 5 rfl) ?_
      have hFc := free_all hD hS hA
      refine va_callv (va_runV (As := [.int (nI a), .int (nI q)]) (rest := []) ⟨hx, hb, hml, hown, hts⟩ (c_X2_note l dC dI cI h al rw cA n (s_set (s_set F a (F 1 a + (s_gain F a b (nI q)))) b ((s_set F a (F 1 a + (s_gain F a b (nI q)))) 1 b + (s_gain F b a (nI (2 - q))))) ct H.size a (show a < n by omega) q hq hn) (cwV 2 hts gX2_bout_X2_note rfl rfl rfl (by decide +kernel) ⟨Nat.le_of_ble_eq_true rfl, Nat.le_of_ble_eq_true rfl⟩) ⟨PV.blind, va_recv hK hP (ci := 2) (q0 := 0) rfl rfl, fun U hU hW => ⟨rfl, PV.go hP hK hD hE hS hFc hU hW⟩⟩ rfl rfl hl.1 rfl (lv_room (Nat.le_of_ble_eq_true rfl)) dX2_bout_80 ⟨(by show _ ≤ 4; omega), (by show _ ≤ 36; omega)⟩) hS (fun q _ h9 => hFc q h9) hFc (fun u9 t9 H locs ht9 hvm9 hw9 hB9 hz9 hk9 hS => ?_)
      obtain ⟨hP, hD9⟩ := hB9
      rw [ht9] at hP
      have hD := hD9.weaken (fun _ q _ h9 => hFc q.1 h9)
      have hP : va_P (dC, dI) vwCl (wT h al rw cA cI n (s_note (s_set (s_set F a (F 1 a + (s_gain F a b (nI q)))) b ((s_set F a (F 1 a + (s_gain F a b (nI q)))) 1 b + (s_gain F b a (nI (2 - q))))) a q) ct) H := hP
      have hD : va_D A (wT h al rw cA cI n (s_note (s_set (s_set F a (F 1 a + (s_gain F a b (nI q)))) b ((s_set F a (F 1 a + (s_gain F a b (nI q)))) 1 b + (s_gain F b a (nI (2 - q))))) a q) ct) := hD
      refine lv_aload_n hx hb dX2_bout_83 rfl (lv_at hl 2 rfl) ?_
      refine lv_iload_n hx hb dX2_bout_84 rfl (lv_at hl 4 rfl) ?_
      refine lv_iconst (v := 2) hx hb dX2_bout_85 (by decide) ?_
      refine lv_iload_n hx hb dX2_bout_86 rfl (lv_at hl 5 rfl) ?_
      refine lv_isub hx hb dX2_bout_87 ?_
      refine rv_top (y := nI (2 - q)) (pk_sub (a := 2) hq) ?_
      have hFc := free_all hD hS hA
      refine va_callv (va_runV (As := [.int (nI b), .int (nI (2 - q))]) (rest := []) ⟨hx, hb, hml, hown, hts⟩ (c_X2_note l dC dI cI h al rw cA n (s_note (s_set (s_set F a (F 1 a + (s_gain F a b (nI q)))) b ((s_set F a (F 1 a + (s_gain F a b (nI q)))) 1 b + (s_gain F b a (nI (2 - q))))) a q) ct H.size b (show b < n by omega) (2 - q) (Nat.sub_le 2 q) hn) (cwV 2 hts gX2_bout_X2_note rfl rfl rfl (by decide +kernel) ⟨Nat.le_of_ble_eq_true rfl, Nat.le_of_ble_eq_true rfl⟩) ⟨PV.blind, va_recv hK hP (ci := 2) (q0 := 0) rfl rfl, fun U hU hW => ⟨rfl, PV.go hP hK hD hE hS hFc hU hW⟩⟩ rfl rfl hl.1 rfl (lv_room (Nat.le_of_ble_eq_true rfl)) dX2_bout_88 ⟨(by show _ ≤ 4; omega), (by show _ ≤ 36; omega)⟩) hS (fun q _ h9 => hFc q h9) hFc (fun u9 t9 H locs ht9 hvm9 hw9 hB9 hz9 hk9 hS => ?_)
      obtain ⟨hP, hD9⟩ := hB9
      rw [ht9] at hP
      have hD := hD9.weaken (fun _ q _ h9 => hFc q.1 h9)
      have hP : va_P (dC, dI) vwCl (wT h al rw cA cI n (s_note (s_note (s_set (s_set F a (F 1 a + (s_gain F a b (nI q)))) b ((s_set F a (F 1 a + (s_gain F a b (nI q)))) 1 b + (s_gain F b a (nI (2 - q))))) a q) b (2 - q)) ct) H := hP
      have hD : va_D A (wT h al rw cA cI n (s_note (s_note (s_set (s_set F a (F 1 a + (s_gain F a b (nI q)))) b ((s_set F a (F 1 a + (s_gain F a b (nI q)))) 1 b + (s_gain F b a (nI (2 - q))))) a q) b (2 - q)) ct) := hD
      refine lv_aload_n hx hb dX2_bout_91 rfl (lv_at hl 2 rfl) ?_
      refine lv_dup hx hb dX2_bout_92 rfl ?_
      refine va_get (D := (dC, dI)) (ci := 2) (v := .int (ct 1)) (C := RX2) (T := TX2) (N := 4) hx hb hts hinX2 hown hK hP 0 rfl rfl 1 (by decide) (hts (.fieldLink RX2 38 "WrestleBookLaw$Sim" "bouts" "I") (by decide +kernel)) (fun _ h9 => h9) rfl dX2_bout_93 ?_
      refine lv_iconst (v := 1) hx hb dX2_bout_96 (by decide) ?_
      refine lv_iadd hx hb dX2_bout_97 ?_
      refine rv_top (y := ct 1 + 1) rfl ?_
      refine va_put (D := (dC, dI)) (ci := 2) (v := .int (ct 1 + 1)) (ty := .int) (C := RX2) (T := TX2) (N := 4) hx hb hts hinX2 tyX2 tyX2_ok nmX2 hown hK hP hD hS 0 rfl rfl 1 (by decide) (hts (.fieldLink RX2 38 "WrestleBookLaw$Sim" "bouts" "I") (by decide +kernel)) (fun _ h9 => h9) rfl (by decide +kernel) rfl rfl (Nat.le_of_ble_eq_true rfl) dX2_bout_98 (fun H locs hP hD hS => ?_)
      have hP : va_P (dC, dI) vwCl (wT h al rw cA cI n (s_note (s_note (s_set (s_set F a (F 1 a + (s_gain F a b (nI q)))) b ((s_set F a (F 1 a + (s_gain F a b (nI q)))) 1 b + (s_gain F b a (nI (2 - q))))) a q) b (2 - q)) (upd ct 1 (ct 1 + 1))) H := hP
      have hD : va_D A (wT h al rw cA cI n (s_note (s_note (s_set (s_set F a (F 1 a + (s_gain F a b (nI q)))) b ((s_set F a (F 1 a + (s_gain F a b (nI q)))) 1 b + (s_gain F b a (nI (2 - q))))) a q) b (2 - q)) (upd ct 1 (ct 1 + 1))) := hD
      refine lv_iload hx hb dX2_bout_101 (lv_at hl 1 rfl) ?_
      refine W.widen (k := 4) (n := 36) (by omega) (by omega) ?_
      have hP8 : va_P (dC, dI) vwCl (wT h al rw cA cI n (s_hold F a b q) (s_ct ct F a b q)) H := by rw [← bout_mb F q hab, ← up_no (by rw [s_upE (q1 hq c_22 c_38)])]; exact hP
      have hD8 : va_D A (wT h al rw cA cI n (s_hold F a b q) (s_ct ct F a b q)) := by rw [← bout_mb F q hab, ← up_no (by rw [s_upE (q1 hq c_22 c_38)])]; exact hD
      exact W.iret (v := s_gain F a b (nI q)) hx hb hr (fun t ht hW => ⟨⟨_, (), rfl, (show s_gain F a b (nI q) = s_gain F a b (nI q) from by rfl), by rw [ht]; exact hP8, hD8⟩, hS.F ht⟩) hS.2.2 dX2_bout_103
    · refine lv_aload_n hx hb dX2_bout_41 rfl (lv_at hl 2 rfl) ?_
      refine lv_iload_n hx hb dX2_bout_42 rfl (lv_at hl 4 rfl) ?_
      refine lv_iload_n hx hb dX2_bout_43 rfl (lv_at hl 3 rfl) ?_
      refine va_calli (va_runV (As := [.int (nI b), .int (nI a)]) (rest := []) ⟨hx, hb, hml, hown, hts⟩ (c_X2_expected l dC dI cI h al rw cA n F ct H.size b (show b < n by omega) a (show a < n by omega) hn hR) (cwV 2 hts gX2_bout_X2_expected rfl rfl rfl (by decide +kernel) ⟨Nat.le_of_ble_eq_true rfl, Nat.le_of_ble_eq_true rfl⟩) ⟨PT.blind, va_recv hK hP (ci := 2) (q0 := 0) rfl rfl, fun U hU hW => ⟨rfl, PT.go hP hK hE hS hA hU hW⟩⟩ rfl rfl hl.1 rfl (lv_room (Nat.le_of_ble_eq_true rfl)) dX2_bout_44 ⟨(by show _ ≤ 4; omega), (by show _ ≤ 36; omega)⟩) hS (fun q h8 h9 => absurd h9 (Nat.not_le.mpr h8)) (fun q h9 => hA q (Nat.le_trans hS.1 h9)) (fun r u9 t9 H locs ht9 hvm9 hw9 hB9 hz9 hk9 hS => ?_)
      have hP := P_new hP hk9
      have hw9 : r = s_exp F b a := hw9
      subst hw9
      refine lv_sipush (v := 400) hx hb dX2_bout_47 (by decide) ?_
      refine lv_icmp_ge (tgt := 63) hx hb dX2_bout_50 (by decide) (fun c_50 => ?_) (fun c_50 => ?_)
      · refine lv_aload_n hx hb dX2_bout_63 rfl (lv_at hl 2 rfl) ?_
        refine lv_iload_n hx hb dX2_bout_64 rfl (lv_at hl 3 rfl) ?_
        refine lv_iload hx hb dX2_bout_65 (lv_at hl 1 rfl) ?_
        have hFc := free_all hD hS hA
        refine va_callv (va_runV (As := [.int (nI a), .int (s_gain F a b (nI q))]) (rest := []) ⟨hx, hb, hml, hown, hts⟩ (c_X2_raise l dC dI cI h al rw cA n F ct H.size a (show a < n by omega) (s_gain F a b (nI q)) hn) (cwV 2 hts gX2_bout_X2_raise rfl rfl rfl (by decide +kernel) ⟨Nat.le_of_ble_eq_true rfl, Nat.le_of_ble_eq_true rfl⟩) ⟨PV.blind, va_recv hK hP (ci := 2) (q0 := 0) rfl rfl, fun U hU hW => ⟨rfl, PV.go hP hK hD hE hS hFc hU hW⟩⟩ rfl rfl hl.1 rfl (lv_room (Nat.le_of_ble_eq_true rfl)) dX2_bout_67 ⟨(by show _ ≤ 4; omega), (by show _ ≤ 36; omega)⟩) hS (fun q _ h9 => hFc q h9) hFc (fun u9 t9 H locs ht9 hvm9 hw9 hB9 hz9 hk9 hS => ?_)
        obtain ⟨hP, hD9⟩ := hB9
        rw [ht9] at hP
        have hD := hD9.weaken (fun _ q _ h9 => hFc q.1 h9)
        have hP : va_P (dC, dI) vwCl (wT h al rw cA cI n (s_set F a (F 1 a + (s_gain F a b (nI q)))) ct) H := hP
        have hD : va_D A (wT h al rw cA cI n (s_set F a (F 1 a + (s_gain F a b (nI q)))) ct) := hD
        refine lv_aload_n hx hb dX2_bout_70 rfl (lv_at hl 2 rfl) ?_
        refine lv_iload_n hx hb dX2_bout_71 rfl (lv_at hl 4 rfl) ?_
        refine lv_iload hx hb dX2_bout_72 (lv_at hl 0 rfl) ?_
        have hFc := free_all hD hS hA
        refine va_callv (va_runV (As := [.int (nI b), .int (s_gain F b a (nI (2 - q)))]) (rest := []) ⟨hx, hb, hml, hown, hts⟩ (c_X2_raise l dC dI cI h al rw cA n (s_set F a (F 1 a + (s_gain F a b (nI q)))) ct H.size b (show b < n by omega) (s_gain F b a (nI (2 - q))) hn) (cwV 2 hts gX2_bout_X2_raise rfl rfl rfl (by decide +kernel) ⟨Nat.le_of_ble_eq_true rfl, Nat.le_of_ble_eq_true rfl⟩) ⟨PV.blind, va_recv hK hP (ci := 2) (q0 := 0) rfl rfl, fun U hU hW => ⟨rfl, PV.go hP hK hD hE hS hFc hU hW⟩⟩ rfl rfl hl.1 rfl (lv_room (Nat.le_of_ble_eq_true rfl)) dX2_bout_74 ⟨(by show _ ≤ 4; omega), (by show _ ≤ 36; omega)⟩) hS (fun q _ h9 => hFc q h9) hFc (fun u9 t9 H locs ht9 hvm9 hw9 hB9 hz9 hk9 hS => ?_)
        obtain ⟨hP, hD9⟩ := hB9
        rw [ht9] at hP
        have hD := hD9.weaken (fun _ q _ h9 => hFc q.1 h9)
        have hP : va_P (dC, dI) vwCl (wT h al rw cA cI n (s_set (s_set F a (F 1 a + (s_gain F a b (nI q)))) b ((s_set F a (F 1 a + (s_gain F a b (nI q)))) 1 b + (s_gain F b a (nI (2 - q))))) ct) H := hP
        have hD : va_D A (wT h al rw cA cI n (s_set (s_set F a (F 1 a + (s_gain F a b (nI q)))) b ((s_set F a (F 1 a + (s_gain F a b (nI q)))) 1 b + (s_gain F b a (nI (2 - q))))) ct) := hD
        refine lv_aload_n hx hb dX2_bout_77 rfl (lv_at hl 2 rfl) ?_
        refine lv_iload_n hx hb dX2_bout_78 rfl (lv_at hl 3 rfl) ?_
        refine lv_iload_n hx hb dX2_bout_79 rfl (lv_at hl 5 rfl) ?_
        have hFc := free_all hD hS hA
        refine va_callv (va_runV (As := [.int (nI a), .int (nI q)]) (rest := []) ⟨hx, hb, hml, hown, hts⟩ (c_X2_note l dC dI cI h al rw cA n (s_set (s_set F a (F 1 a + (s_gain F a b (nI q)))) b ((s_set F a (F 1 a + (s_gain F a b (nI q)))) 1 b + (s_gain F b a (nI (2 - q))))) ct H.size a (show a < n by omega) q hq hn) (cwV 2 hts gX2_bout_X2_note rfl rfl rfl (by decide +kernel) ⟨Nat.le_of_ble_eq_true rfl, Nat.le_of_ble_eq_true rfl⟩) ⟨PV.blind, va_recv hK hP (ci := 2) (q0 := 0) rfl rfl, fun U hU hW => ⟨rfl, PV.go hP hK hD hE hS hFc hU hW⟩⟩ rfl rfl hl.1 rfl (lv_room (Nat.le_of_ble_eq_true rfl)) dX2_bout_80 ⟨(by show _ ≤ 4; omega), (by show _ ≤ 36; omega)⟩) hS (fun q _ h9 => hFc q h9) hFc (fun u9 t9 H locs ht9 hvm9 hw9 hB9 hz9 hk9 hS => ?_)
        obtain ⟨hP, hD9⟩ := hB9
        rw [ht9] at hP
        have hD := hD9.weaken (fun _ q _ h9 => hFc q.1 h9)
        have hP : va_P (dC, dI) vwCl (wT h al rw cA cI n (s_note (s_set (s_set F a (F 1 a + (s_gain F a b (nI q)))) b ((s_set F a (F 1 a + (s_gain F a b (nI q)))) 1 b + (s_gain F b a (nI (2 - q))))) a q) ct) H := hP
        have hD : va_D A (wT h al rw cA cI n (s_note (s_set (s_set F a (F 1 a + (s_gain F a b (nI q)))) b ((s_set F a (F 1 a + (s_gain F a b (nI q)))) 1 b + (s_gain F b a (nI (2 - q))))) a q) ct) := hD
        refine lv_aload_n hx hb dX2_bout_83 rfl (lv_at hl 2 rfl) ?_
        refine lv_iload_n hx hb dX2_bout_84 rfl (lv_at hl 4 rfl) ?_
        refine lv_iconst (v := 2) hx hb dX2_bout_85 (by decide) ?_
        refine lv_iload_n hx hb dX2_bout_86 rfl (lv_at hl 5 rfl) ?_
        refine lv_isub hx hb dX2_bout_87 ?_
        refine rv_top (y := nI (2 - q)) (pk_sub (a := 2) hq) ?_
        have hFc := free_all hD hS hA
        refine va_callv (va_runV (As := [.int (nI b), .int (nI (2 - q))]) (rest := []) ⟨hx, hb, hml, hown, hts⟩ (c_X2_note l dC dI cI h al rw cA n (s_note (s_set (s_set F a (F 1 a + (s_gain F a b (nI q)))) b ((s_set F a (F 1 a + (s_gain F a b (nI q)))) 1 b + (s_gain F b a (nI (2 - q))))) a q) ct H.size b (show b < n by omega) (2 - q) (Nat.sub_le 2 q) hn) (cwV 2 hts gX2_bout_X2_note rfl rfl rfl (by decide +kernel) ⟨Nat.le_of_ble_eq_true rfl, Nat.le_of_ble_eq_true rfl⟩) ⟨PV.blind, va_recv hK hP (ci := 2) (q0 := 0) rfl rfl, fun U hU hW => ⟨rfl, PV.go hP hK hD hE hS hFc hU hW⟩⟩ rfl rfl hl.1 rfl (lv_room (Nat.le_of_ble_eq_true rfl)) dX2_bout_88 ⟨(by show _ ≤ 4; omega), (by show _ ≤ 36; omega)⟩) hS (fun q _ h9 => hFc q h9) hFc (fun u9 t9 H locs ht9 hvm9 hw9 hB9 hz9 hk9 hS => ?_)
        obtain ⟨hP, hD9⟩ := hB9
        rw [ht9] at hP
        have hD := hD9.weaken (fun _ q _ h9 => hFc q.1 h9)
        have hP : va_P (dC, dI) vwCl (wT h al rw cA cI n (s_note (s_note (s_set (s_set F a (F 1 a + (s_gain F a b (nI q)))) b ((s_set F a (F 1 a + (s_gain F a b (nI q)))) 1 b + (s_gain F b a (nI (2 - q))))) a q) b (2 - q)) ct) H := hP
        have hD : va_D A (wT h al rw cA cI n (s_note (s_note (s_set (s_set F a (F 1 a + (s_gain F a b (nI q)))) b ((s_set F a (F 1 a + (s_gain F a b (nI q)))) 1 b + (s_gain F b a (nI (2 - q))))) a q) b (2 - q)) ct) := hD
        refine lv_aload_n hx hb dX2_bout_91 rfl (lv_at hl 2 rfl) ?_
        refine lv_dup hx hb dX2_bout_92 rfl ?_
        refine va_get (D := (dC, dI)) (ci := 2) (v := .int (ct 1)) (C := RX2) (T := TX2) (N := 4) hx hb hts hinX2 hown hK hP 0 rfl rfl 1 (by decide) (hts (.fieldLink RX2 38 "WrestleBookLaw$Sim" "bouts" "I") (by decide +kernel)) (fun _ h9 => h9) rfl dX2_bout_93 ?_
        refine lv_iconst (v := 1) hx hb dX2_bout_96 (by decide) ?_
        refine lv_iadd hx hb dX2_bout_97 ?_
        refine rv_top (y := ct 1 + 1) rfl ?_
        refine va_put (D := (dC, dI)) (ci := 2) (v := .int (ct 1 + 1)) (ty := .int) (C := RX2) (T := TX2) (N := 4) hx hb hts hinX2 tyX2 tyX2_ok nmX2 hown hK hP hD hS 0 rfl rfl 1 (by decide) (hts (.fieldLink RX2 38 "WrestleBookLaw$Sim" "bouts" "I") (by decide +kernel)) (fun _ h9 => h9) rfl (by decide +kernel) rfl rfl (Nat.le_of_ble_eq_true rfl) dX2_bout_98 (fun H locs hP hD hS => ?_)
        have hP : va_P (dC, dI) vwCl (wT h al rw cA cI n (s_note (s_note (s_set (s_set F a (F 1 a + (s_gain F a b (nI q)))) b ((s_set F a (F 1 a + (s_gain F a b (nI q)))) 1 b + (s_gain F b a (nI (2 - q))))) a q) b (2 - q)) (upd ct 1 (ct 1 + 1))) H := hP
        have hD : va_D A (wT h al rw cA cI n (s_note (s_note (s_set (s_set F a (F 1 a + (s_gain F a b (nI q)))) b ((s_set F a (F 1 a + (s_gain F a b (nI q)))) 1 b + (s_gain F b a (nI (2 - q))))) a q) b (2 - q)) (upd ct 1 (ct 1 + 1))) := hD
        refine lv_iload hx hb dX2_bout_101 (lv_at hl 1 rfl) ?_
        refine W.widen (k := 4) (n := 36) (by omega) (by omega) ?_
        have hP8 : va_P (dC, dI) vwCl (wT h al rw cA cI n (s_hold F a b q) (s_ct ct F a b q)) H := by rw [← bout_mb F q hab, ← up_no (by rw [s_up0 (qz hq c_38), if_neg (Int32.not_lt.mpr c_50)])]; exact hP
        have hD8 : va_D A (wT h al rw cA cI n (s_hold F a b q) (s_ct ct F a b q)) := by rw [← bout_mb F q hab, ← up_no (by rw [s_up0 (qz hq c_38), if_neg (Int32.not_lt.mpr c_50)])]; exact hD
        exact W.iret (v := s_gain F a b (nI q)) hx hb hr (fun t ht hW => ⟨⟨_, (), rfl, (show s_gain F a b (nI q) = s_gain F a b (nI q) from by rfl), by rw [ht]; exact hP8, hD8⟩, hS.F ht⟩) hS.2.2 dX2_bout_103
      · refine lv_aload_n hx hb dX2_bout_53 rfl (lv_at hl 2 rfl) ?_
        refine lv_dup hx hb dX2_bout_54 rfl ?_
        refine va_get (D := (dC, dI)) (ci := 2) (v := .int (ct 2)) (C := RX2) (T := TX2) (N := 4) hx hb hts hinX2 hown hK hP 0 rfl rfl 2 (by decide) (hts (.fieldLink RX2 27 "WrestleBookLaw$Sim" "upsets" "I") (by decide +kernel)) (fun _ h9 => h9) rfl dX2_bout_55 ?_
        refine lv_iconst (v := 1) hx hb dX2_bout_58 (by decide) ?_
        refine lv_iadd hx hb dX2_bout_59 ?_
        refine va_put (D := (dC, dI)) (ci := 2) (v := .int ((ct 2) + 1)) (ty := .int) (C := RX2) (T := TX2) (N := 4) hx hb hts hinX2 tyX2 tyX2_ok nmX2 hown hK hP hD hS 0 rfl rfl 2 (by decide) (hts (.fieldLink RX2 27 "WrestleBookLaw$Sim" "upsets" "I") (by decide +kernel)) (fun _ h9 => h9) rfl (by decide +kernel) rfl rfl (Nat.le_of_ble_eq_true rfl) dX2_bout_60 (fun H locs hP hD hS => ?_)
        have hP : va_P (dC, dI) vwCl (wT h al rw cA cI n F (upd ct 2 ((ct 2) + 1))) H := hP
        have hD : va_D A (wT h al rw cA cI n F (upd ct 2 ((ct 2) + 1))) := hD
        refine lv_aload_n hx hb dX2_bout_63 rfl (lv_at hl 2 rfl) ?_
        refine lv_iload_n hx hb dX2_bout_64 rfl (lv_at hl 3 rfl) ?_
        refine lv_iload hx hb dX2_bout_65 (lv_at hl 1 rfl) ?_
        have hFc := free_all hD hS hA
        refine va_callv (va_runV (As := [.int (nI a), .int (s_gain F a b (nI q))]) (rest := []) ⟨hx, hb, hml, hown, hts⟩ (c_X2_raise l dC dI cI h al rw cA n F (upd ct 2 ((ct 2) + 1)) H.size a (show a < n by omega) (s_gain F a b (nI q)) hn) (cwV 2 hts gX2_bout_X2_raise rfl rfl rfl (by decide +kernel) ⟨Nat.le_of_ble_eq_true rfl, Nat.le_of_ble_eq_true rfl⟩) ⟨PV.blind, va_recv hK hP (ci := 2) (q0 := 0) rfl rfl, fun U hU hW => ⟨rfl, PV.go hP hK hD hE hS hFc hU hW⟩⟩ rfl rfl hl.1 rfl (lv_room (Nat.le_of_ble_eq_true rfl)) dX2_bout_67 ⟨(by show _ ≤ 4; omega), (by show _ ≤ 36; omega)⟩) hS (fun q _ h9 => hFc q h9) hFc (fun u9 t9 H locs ht9 hvm9 hw9 hB9 hz9 hk9 hS => ?_)
        obtain ⟨hP, hD9⟩ := hB9
        rw [ht9] at hP
        have hD := hD9.weaken (fun _ q _ h9 => hFc q.1 h9)
        have hP : va_P (dC, dI) vwCl (wT h al rw cA cI n (s_set F a (F 1 a + (s_gain F a b (nI q)))) (upd ct 2 ((ct 2) + 1))) H := hP
        have hD : va_D A (wT h al rw cA cI n (s_set F a (F 1 a + (s_gain F a b (nI q)))) (upd ct 2 ((ct 2) + 1))) := hD
        refine lv_aload_n hx hb dX2_bout_70 rfl (lv_at hl 2 rfl) ?_
        refine lv_iload_n hx hb dX2_bout_71 rfl (lv_at hl 4 rfl) ?_
        refine lv_iload hx hb dX2_bout_72 (lv_at hl 0 rfl) ?_
        have hFc := free_all hD hS hA
        refine va_callv (va_runV (As := [.int (nI b), .int (s_gain F b a (nI (2 - q)))]) (rest := []) ⟨hx, hb, hml, hown, hts⟩ (c_X2_raise l dC dI cI h al rw cA n (s_set F a (F 1 a + (s_gain F a b (nI q)))) (upd ct 2 ((ct 2) + 1)) H.size b (show b < n by omega) (s_gain F b a (nI (2 - q))) hn) (cwV 2 hts gX2_bout_X2_raise rfl rfl rfl (by decide +kernel) ⟨Nat.le_of_ble_eq_true rfl, Nat.le_of_ble_eq_true rfl⟩) ⟨PV.blind, va_recv hK hP (ci := 2) (q0 := 0) rfl rfl, fun U hU hW => ⟨rfl, PV.go hP hK hD hE hS hFc hU hW⟩⟩ rfl rfl hl.1 rfl (lv_room (Nat.le_of_ble_eq_true rfl)) dX2_bout_74 ⟨(by show _ ≤ 4; omega), (by show _ ≤ 36; omega)⟩) hS (fun q _ h9 => hFc q h9) hFc (fun u9 t9 H locs ht9 hvm9 hw9 hB9 hz9 hk9 hS => ?_)
        obtain ⟨hP, hD9⟩ := hB9
        rw [ht9] at hP
        have hD := hD9.weaken (fun _ q _ h9 => hFc q.1 h9)
        have hP : va_P (dC, dI) vwCl (wT h al rw cA cI n (s_set (s_set F a (F 1 a + (s_gain F a b (nI q)))) b ((s_set F a (F 1 a + (s_gain F a b (nI q)))) 1 b + (s_gain F b a (nI (2 - q))))) (upd ct 2 ((ct 2) + 1))) H := hP
        have hD : va_D A (wT h al rw cA cI n (s_set (s_set F a (F 1 a + (s_gain F a b (nI q)))) b ((s_set F a (F 1 a + (s_gain F a b (nI q)))) 1 b + (s_gain F b a (nI (2 - q))))) (upd ct 2 ((ct 2) + 1))) := hD
        refine lv_aload_n hx hb dX2_bout_77 rfl (lv_at hl 2 rfl) ?_
        refine lv_iload_n hx hb dX2_bout_78 rfl (lv_at hl 3 rfl) ?_
        refine lv_iload_n hx hb dX2_bout_79 rfl (lv_at hl 5 rfl) ?_
        have hFc := free_all hD hS hA
        refine va_callv (va_runV (As := [.int (nI a), .int (nI q)]) (rest := []) ⟨hx, hb, hml, hown, hts⟩ (c_X2_note l dC dI cI h al rw cA n (s_set (s_set F a (F 1 a + (s_gain F a b (nI q)))) b ((s_set F a (F 1 a + (s_gain F a b (nI q)))) 1 b + (s_gain F b a (nI (2 - q))))) (upd ct 2 ((ct 2) + 1)) H.size a (show a < n by omega) q hq hn) (cwV 2 hts gX2_bout_X2_note rfl rfl rfl (by decide +kernel) ⟨Nat.le_of_ble_eq_true rfl, Nat.le_of_ble_eq_true rfl⟩) ⟨PV.blind, va_recv hK hP (ci := 2) (q0 := 0) rfl rfl, fun U hU hW => ⟨rfl, PV.go hP hK hD hE hS hFc hU hW⟩⟩ rfl rfl hl.1 rfl (lv_room (Nat.le_of_ble_eq_true rfl)) dX2_bout_80 ⟨(by show _ ≤ 4; omega), (by show _ ≤ 36; omega)⟩) hS (fun q _ h9 => hFc q h9) hFc (fun u9 t9 H locs ht9 hvm9 hw9 hB9 hz9 hk9 hS => ?_)
        obtain ⟨hP, hD9⟩ := hB9
        rw [ht9] at hP
        have hD := hD9.weaken (fun _ q _ h9 => hFc q.1 h9)
        have hP : va_P (dC, dI) vwCl (wT h al rw cA cI n (s_note (s_set (s_set F a (F 1 a + (s_gain F a b (nI q)))) b ((s_set F a (F 1 a + (s_gain F a b (nI q)))) 1 b + (s_gain F b a (nI (2 - q))))) a q) (upd ct 2 ((ct 2) + 1))) H := hP
        have hD : va_D A (wT h al rw cA cI n (s_note (s_set (s_set F a (F 1 a + (s_gain F a b (nI q)))) b ((s_set F a (F 1 a + (s_gain F a b (nI q)))) 1 b + (s_gain F b a (nI (2 - q))))) a q) (upd ct 2 ((ct 2) + 1))) := hD
        refine lv_aload_n hx hb dX2_bout_83 rfl (lv_at hl 2 rfl) ?_
        refine lv_iload_n hx hb dX2_bout_84 rfl (lv_at hl 4 rfl) ?_
        refine lv_iconst (v := 2) hx hb dX2_bout_85 (by decide) ?_
        refine lv_iload_n hx hb dX2_bout_86 rfl (lv_at hl 5 rfl) ?_
        refine lv_isub hx hb dX2_bout_87 ?_
        refine rv_top (y := nI (2 - q)) (pk_sub (a := 2) hq) ?_
        have hFc := free_all hD hS hA
        refine va_callv (va_runV (As := [.int (nI b), .int (nI (2 - q))]) (rest := []) ⟨hx, hb, hml, hown, hts⟩ (c_X2_note l dC dI cI h al rw cA n (s_note (s_set (s_set F a (F 1 a + (s_gain F a b (nI q)))) b ((s_set F a (F 1 a + (s_gain F a b (nI q)))) 1 b + (s_gain F b a (nI (2 - q))))) a q) (upd ct 2 ((ct 2) + 1)) H.size b (show b < n by omega) (2 - q) (Nat.sub_le 2 q) hn) (cwV 2 hts gX2_bout_X2_note rfl rfl rfl (by decide +kernel) ⟨Nat.le_of_ble_eq_true rfl, Nat.le_of_ble_eq_true rfl⟩) ⟨PV.blind, va_recv hK hP (ci := 2) (q0 := 0) rfl rfl, fun U hU hW => ⟨rfl, PV.go hP hK hD hE hS hFc hU hW⟩⟩ rfl rfl hl.1 rfl (lv_room (Nat.le_of_ble_eq_true rfl)) dX2_bout_88 ⟨(by show _ ≤ 4; omega), (by show _ ≤ 36; omega)⟩) hS (fun q _ h9 => hFc q h9) hFc (fun u9 t9 H locs ht9 hvm9 hw9 hB9 hz9 hk9 hS => ?_)
        obtain ⟨hP, hD9⟩ := hB9
        rw [ht9] at hP
        have hD := hD9.weaken (fun _ q _ h9 => hFc q.1 h9)
        have hP : va_P (dC, dI) vwCl (wT h al rw cA cI n (s_note (s_note (s_set (s_set F a (F 1 a + (s_gain F a b (nI q)))) b ((s_set F a (F 1 a + (s_gain F a b (nI q)))) 1 b + (s_gain F b a (nI (2 - q))))) a q) b (2 - q)) (upd ct 2 ((ct 2) + 1))) H := hP
        have hD : va_D A (wT h al rw cA cI n (s_note (s_note (s_set (s_set F a (F 1 a + (s_gain F a b (nI q)))) b ((s_set F a (F 1 a + (s_gain F a b (nI q)))) 1 b + (s_gain F b a (nI (2 - q))))) a q) b (2 - q)) (upd ct 2 ((ct 2) + 1))) := hD
        refine lv_aload_n hx hb dX2_bout_91 rfl (lv_at hl 2 rfl) ?_
        refine lv_dup hx hb dX2_bout_92 rfl ?_
        refine va_get (D := (dC, dI)) (ci := 2) (v := .int ((upd ct 2 ((ct 2) + 1)) 1)) (C := RX2) (T := TX2) (N := 4) hx hb hts hinX2 hown hK hP 0 rfl rfl 1 (by decide) (hts (.fieldLink RX2 38 "WrestleBookLaw$Sim" "bouts" "I") (by decide +kernel)) (fun _ h9 => h9) rfl dX2_bout_93 ?_
        refine lv_iconst (v := 1) hx hb dX2_bout_96 (by decide) ?_
        refine lv_iadd hx hb dX2_bout_97 ?_
        refine rv_top (y := ct 1 + 1) rfl ?_
        refine va_put (D := (dC, dI)) (ci := 2) (v := .int (ct 1 + 1)) (ty := .int) (C := RX2) (T := TX2) (N := 4) hx hb hts hinX2 tyX2 tyX2_ok nmX2 hown hK hP hD hS 0 rfl rfl 1 (by decide) (hts (.fieldLink RX2 38 "WrestleBookLaw$Sim" "bouts" "I") (by decide +kernel)) (fun _ h9 => h9) rfl (by decide +kernel) rfl rfl (Nat.le_of_ble_eq_true rfl) dX2_bout_98 (fun H locs hP hD hS => ?_)
        have hP : va_P (dC, dI) vwCl (wT h al rw cA cI n (s_note (s_note (s_set (s_set F a (F 1 a + (s_gain F a b (nI q)))) b ((s_set F a (F 1 a + (s_gain F a b (nI q)))) 1 b + (s_gain F b a (nI (2 - q))))) a q) b (2 - q)) (upd (upd ct 2 ((ct 2) + 1)) 1 (ct 1 + 1))) H := hP
        have hD : va_D A (wT h al rw cA cI n (s_note (s_note (s_set (s_set F a (F 1 a + (s_gain F a b (nI q)))) b ((s_set F a (F 1 a + (s_gain F a b (nI q)))) 1 b + (s_gain F b a (nI (2 - q))))) a q) b (2 - q)) (upd (upd ct 2 ((ct 2) + 1)) 1 (ct 1 + 1))) := hD
        refine lv_iload hx hb dX2_bout_101 (lv_at hl 1 rfl) ?_
        refine W.widen (k := 4) (n := 36) (by omega) (by omega) ?_
        have hP8 : va_P (dC, dI) vwCl (wT h al rw cA cI n (s_hold F a b q) (s_ct ct F a b q)) H := by rw [← bout_mb F q hab, ← up_yes (by rw [s_up0 (qz hq c_38), if_pos (Int32.not_le.mp c_50)])]; exact hP
        have hD8 : va_D A (wT h al rw cA cI n (s_hold F a b q) (s_ct ct F a b q)) := by rw [← bout_mb F q hab, ← up_yes (by rw [s_up0 (qz hq c_38), if_pos (Int32.not_le.mp c_50)])]; exact hD
        exact W.iret (v := s_gain F a b (nI q)) hx hb hr (fun t ht hW => ⟨⟨_, (), rfl, (show s_gain F a b (nI q) = s_gain F a b (nI q) from by rfl), by rw [ht]; exact hP8, hD8⟩, hS.F ht⟩) hS.2.2 dX2_bout_103
  · refine lv_aload_n hx hb dX2_bout_25 rfl (lv_at hl 2 rfl) ?_
    refine lv_iload_n hx hb dX2_bout_26 rfl (lv_at hl 3 rfl) ?_
    refine lv_iload_n hx hb dX2_bout_27 rfl (lv_at hl 4 rfl) ?_
    refine va_calli (va_runV (As := [.int (nI a), .int (nI b)]) (rest := []) ⟨hx, hb, hml, hown, hts⟩ (c_X2_expected l dC dI cI h al rw cA n F ct H.size a (show a < n by omega) b (show b < n by omega) hn hR) (cwV 2 hts gX2_bout_X2_expected rfl rfl rfl (by decide +kernel) ⟨Nat.le_of_ble_eq_true rfl, Nat.le_of_ble_eq_true rfl⟩) ⟨PT.blind, va_recv hK hP (ci := 2) (q0 := 0) rfl rfl, fun U hU hW => ⟨rfl, PT.go hP hK hE hS hA hU hW⟩⟩ rfl rfl hl.1 rfl (lv_room (Nat.le_of_ble_eq_true rfl)) dX2_bout_28 ⟨(by show _ ≤ 4; omega), (by show _ ≤ 36; omega)⟩) hS (fun q h8 h9 => absurd h9 (Nat.not_le.mpr h8)) (fun q h9 => hA q (Nat.le_trans hS.1 h9)) (fun r u9 t9 H locs ht9 hvm9 hw9 hB9 hz9 hk9 hS => ?_)
    have hP := P_new hP hk9
    have hw9 : r = s_exp F a b := hw9
    subst hw9
    refine lv_sipush (v := 400) hx hb dX2_bout_31 (by decide) ?_
    refine lv_icmp_lt (tgt := 53) hx hb dX2_bout_34 (by decide) (fun c_34 => ?_) (fun c_34 => ?_)
    · refine lv_aload_n hx hb dX2_bout_53 rfl (lv_at hl 2 rfl) ?_
      refine lv_dup hx hb dX2_bout_54 rfl ?_
      refine va_get (D := (dC, dI)) (ci := 2) (v := .int (ct 2)) (C := RX2) (T := TX2) (N := 4) hx hb hts hinX2 hown hK hP 0 rfl rfl 2 (by decide) (hts (.fieldLink RX2 27 "WrestleBookLaw$Sim" "upsets" "I") (by decide +kernel)) (fun _ h9 => h9) rfl dX2_bout_55 ?_
      refine lv_iconst (v := 1) hx hb dX2_bout_58 (by decide) ?_
      refine lv_iadd hx hb dX2_bout_59 ?_
      refine va_put (D := (dC, dI)) (ci := 2) (v := .int ((ct 2) + 1)) (ty := .int) (C := RX2) (T := TX2) (N := 4) hx hb hts hinX2 tyX2 tyX2_ok nmX2 hown hK hP hD hS 0 rfl rfl 2 (by decide) (hts (.fieldLink RX2 27 "WrestleBookLaw$Sim" "upsets" "I") (by decide +kernel)) (fun _ h9 => h9) rfl (by decide +kernel) rfl rfl (Nat.le_of_ble_eq_true rfl) dX2_bout_60 (fun H locs hP hD hS => ?_)
      have hP : va_P (dC, dI) vwCl (wT h al rw cA cI n F (upd ct 2 ((ct 2) + 1))) H := hP
      have hD : va_D A (wT h al rw cA cI n F (upd ct 2 ((ct 2) + 1))) := hD
      refine lv_aload_n hx hb dX2_bout_63 rfl (lv_at hl 2 rfl) ?_
      refine lv_iload_n hx hb dX2_bout_64 rfl (lv_at hl 3 rfl) ?_
      refine lv_iload hx hb dX2_bout_65 (lv_at hl 1 rfl) ?_
      have hFc := free_all hD hS hA
      refine va_callv (va_runV (As := [.int (nI a), .int (s_gain F a b (nI q))]) (rest := []) ⟨hx, hb, hml, hown, hts⟩ (c_X2_raise l dC dI cI h al rw cA n F (upd ct 2 ((ct 2) + 1)) H.size a (show a < n by omega) (s_gain F a b (nI q)) hn) (cwV 2 hts gX2_bout_X2_raise rfl rfl rfl (by decide +kernel) ⟨Nat.le_of_ble_eq_true rfl, Nat.le_of_ble_eq_true rfl⟩) ⟨PV.blind, va_recv hK hP (ci := 2) (q0 := 0) rfl rfl, fun U hU hW => ⟨rfl, PV.go hP hK hD hE hS hFc hU hW⟩⟩ rfl rfl hl.1 rfl (lv_room (Nat.le_of_ble_eq_true rfl)) dX2_bout_67 ⟨(by show _ ≤ 4; omega), (by show _ ≤ 36; omega)⟩) hS (fun q _ h9 => hFc q h9) hFc (fun u9 t9 H locs ht9 hvm9 hw9 hB9 hz9 hk9 hS => ?_)
      obtain ⟨hP, hD9⟩ := hB9
      rw [ht9] at hP
      have hD := hD9.weaken (fun _ q _ h9 => hFc q.1 h9)
      have hP : va_P (dC, dI) vwCl (wT h al rw cA cI n (s_set F a (F 1 a + (s_gain F a b (nI q)))) (upd ct 2 ((ct 2) + 1))) H := hP
      have hD : va_D A (wT h al rw cA cI n (s_set F a (F 1 a + (s_gain F a b (nI q)))) (upd ct 2 ((ct 2) + 1))) := hD
      refine lv_aload_n hx hb dX2_bout_70 rfl (lv_at hl 2 rfl) ?_
      refine lv_iload_n hx hb dX2_bout_71 rfl (lv_at hl 4 rfl) ?_
      refine lv_iload hx hb dX2_bout_72 (lv_at hl 0 rfl) ?_
      have hFc := free_all hD hS hA
      refine va_callv (va_runV (As := [.int (nI b), .int (s_gain F b a (nI (2 - q)))]) (rest := []) ⟨hx, hb, hml, hown, hts⟩ (c_X2_raise l dC dI cI h al rw cA n (s_set F a (F 1 a + (s_gain F a b (nI q)))) (upd ct 2 ((ct 2) + 1)) H.size b (show b < n by omega) (s_gain F b a (nI (2 - q))) hn) (cwV 2 hts gX2_bout_X2_raise rfl rfl rfl (by decide +kernel) ⟨Nat.le_of_ble_eq_true rfl, Nat.le_of_ble_eq_true rfl⟩) ⟨PV.blind, va_recv hK hP (ci := 2) (q0 := 0) rfl rfl, fun U hU hW => ⟨rfl, PV.go hP hK hD hE hS hFc hU hW⟩⟩ rfl rfl hl.1 rfl (lv_room (Nat.le_of_ble_eq_true rfl)) dX2_bout_74 ⟨(by show _ ≤ 4; omega), (by show _ ≤ 36; omega)⟩) hS (fun q _ h9 => hFc q h9) hFc (fun u9 t9 H locs ht9 hvm9 hw9 hB9 hz9 hk9 hS => ?_)
      obtain ⟨hP, hD9⟩ := hB9
      rw [ht9] at hP
      have hD := hD9.weaken (fun _ q _ h9 => hFc q.1 h9)
      have hP : va_P (dC, dI) vwCl (wT h al rw cA cI n (s_set (s_set F a (F 1 a + (s_gain F a b (nI q)))) b ((s_set F a (F 1 a + (s_gain F a b (nI q)))) 1 b + (s_gain F b a (nI (2 - q))))) (upd ct 2 ((ct 2) + 1))) H := hP
      have hD : va_D A (wT h al rw cA cI n (s_set (s_set F a (F 1 a + (s_gain F a b (nI q)))) b ((s_set F a (F 1 a + (s_gain F a b (nI q)))) 1 b + (s_gain F b a (nI (2 - q))))) (upd ct 2 ((ct 2) + 1))) := hD
      refine lv_aload_n hx hb dX2_bout_77 rfl (lv_at hl 2 rfl) ?_
      refine lv_iload_n hx hb dX2_bout_78 rfl (lv_at hl 3 rfl) ?_
      refine lv_iload_n hx hb dX2_bout_79 rfl (lv_at hl 5 rfl) ?_
      have hFc := free_all hD hS hA
      refine va_callv (va_runV (As := [.int (nI a), .int (nI q)]) (rest := []) ⟨hx, hb, hml, hown, hts⟩ (c_X2_note l dC dI cI h al rw cA n (s_set (s_set F a (F 1 a + (s_gain F a b (nI q)))) b ((s_set F a (F 1 a + (s_gain F a b (nI q)))) 1 b + (s_gain F b a (nI (2 - q))))) (upd ct 2 ((ct 2) + 1)) H.size a (show a < n by omega) q hq hn) (cwV 2 hts gX2_bout_X2_note rfl rfl rfl (by decide +kernel) ⟨Nat.le_of_ble_eq_true rfl, Nat.le_of_ble_eq_true rfl⟩) ⟨PV.blind, va_recv hK hP (ci := 2) (q0 := 0) rfl rfl, fun U hU hW => ⟨rfl, PV.go hP hK hD hE hS hFc hU hW⟩⟩ rfl rfl hl.1 rfl (lv_room (Nat.le_of_ble_eq_true rfl)) dX2_bout_80 ⟨(by show _ ≤ 4; omega), (by show _ ≤ 36; omega)⟩) hS (fun q _ h9 => hFc q h9) hFc (fun u9 t9 H locs ht9 hvm9 hw9 hB9 hz9 hk9 hS => ?_)
      obtain ⟨hP, hD9⟩ := hB9
      rw [ht9] at hP
      have hD := hD9.weaken (fun _ q _ h9 => hFc q.1 h9)
      have hP : va_P (dC, dI) vwCl (wT h al rw cA cI n (s_note (s_set (s_set F a (F 1 a + (s_gain F a b (nI q)))) b ((s_set F a (F 1 a + (s_gain F a b (nI q)))) 1 b + (s_gain F b a (nI (2 - q))))) a q) (upd ct 2 ((ct 2) + 1))) H := hP
      have hD : va_D A (wT h al rw cA cI n (s_note (s_set (s_set F a (F 1 a + (s_gain F a b (nI q)))) b ((s_set F a (F 1 a + (s_gain F a b (nI q)))) 1 b + (s_gain F b a (nI (2 - q))))) a q) (upd ct 2 ((ct 2) + 1))) := hD
      refine lv_aload_n hx hb dX2_bout_83 rfl (lv_at hl 2 rfl) ?_
      refine lv_iload_n hx hb dX2_bout_84 rfl (lv_at hl 4 rfl) ?_
      refine lv_iconst (v := 2) hx hb dX2_bout_85 (by decide) ?_
      refine lv_iload_n hx hb dX2_bout_86 rfl (lv_at hl 5 rfl) ?_
      refine lv_isub hx hb dX2_bout_87 ?_
      refine rv_top (y := nI (2 - q)) (pk_sub (a := 2) hq) ?_
      have hFc := free_all hD hS hA
      refine va_callv (va_runV (As := [.int (nI b), .int (nI (2 - q))]) (rest := []) ⟨hx, hb, hml, hown, hts⟩ (c_X2_note l dC dI cI h al rw cA n (s_note (s_set (s_set F a (F 1 a + (s_gain F a b (nI q)))) b ((s_set F a (F 1 a + (s_gain F a b (nI q)))) 1 b + (s_gain F b a (nI (2 - q))))) a q) (upd ct 2 ((ct 2) + 1)) H.size b (show b < n by omega) (2 - q) (Nat.sub_le 2 q) hn) (cwV 2 hts gX2_bout_X2_note rfl rfl rfl (by decide +kernel) ⟨Nat.le_of_ble_eq_true rfl, Nat.le_of_ble_eq_true rfl⟩) ⟨PV.blind, va_recv hK hP (ci := 2) (q0 := 0) rfl rfl, fun U hU hW => ⟨rfl, PV.go hP hK hD hE hS hFc hU hW⟩⟩ rfl rfl hl.1 rfl (lv_room (Nat.le_of_ble_eq_true rfl)) dX2_bout_88 ⟨(by show _ ≤ 4; omega), (by show _ ≤ 36; omega)⟩) hS (fun q _ h9 => hFc q h9) hFc (fun u9 t9 H locs ht9 hvm9 hw9 hB9 hz9 hk9 hS => ?_)
      obtain ⟨hP, hD9⟩ := hB9
      rw [ht9] at hP
      have hD := hD9.weaken (fun _ q _ h9 => hFc q.1 h9)
      have hP : va_P (dC, dI) vwCl (wT h al rw cA cI n (s_note (s_note (s_set (s_set F a (F 1 a + (s_gain F a b (nI q)))) b ((s_set F a (F 1 a + (s_gain F a b (nI q)))) 1 b + (s_gain F b a (nI (2 - q))))) a q) b (2 - q)) (upd ct 2 ((ct 2) + 1))) H := hP
      have hD : va_D A (wT h al rw cA cI n (s_note (s_note (s_set (s_set F a (F 1 a + (s_gain F a b (nI q)))) b ((s_set F a (F 1 a + (s_gain F a b (nI q)))) 1 b + (s_gain F b a (nI (2 - q))))) a q) b (2 - q)) (upd ct 2 ((ct 2) + 1))) := hD
      refine lv_aload_n hx hb dX2_bout_91 rfl (lv_at hl 2 rfl) ?_
      refine lv_dup hx hb dX2_bout_92 rfl ?_
      refine va_get (D := (dC, dI)) (ci := 2) (v := .int ((upd ct 2 ((ct 2) + 1)) 1)) (C := RX2) (T := TX2) (N := 4) hx hb hts hinX2 hown hK hP 0 rfl rfl 1 (by decide) (hts (.fieldLink RX2 38 "WrestleBookLaw$Sim" "bouts" "I") (by decide +kernel)) (fun _ h9 => h9) rfl dX2_bout_93 ?_
      refine lv_iconst (v := 1) hx hb dX2_bout_96 (by decide) ?_
      refine lv_iadd hx hb dX2_bout_97 ?_
      refine rv_top (y := ct 1 + 1) rfl ?_
      refine va_put (D := (dC, dI)) (ci := 2) (v := .int (ct 1 + 1)) (ty := .int) (C := RX2) (T := TX2) (N := 4) hx hb hts hinX2 tyX2 tyX2_ok nmX2 hown hK hP hD hS 0 rfl rfl 1 (by decide) (hts (.fieldLink RX2 38 "WrestleBookLaw$Sim" "bouts" "I") (by decide +kernel)) (fun _ h9 => h9) rfl (by decide +kernel) rfl rfl (Nat.le_of_ble_eq_true rfl) dX2_bout_98 (fun H locs hP hD hS => ?_)
      have hP : va_P (dC, dI) vwCl (wT h al rw cA cI n (s_note (s_note (s_set (s_set F a (F 1 a + (s_gain F a b (nI q)))) b ((s_set F a (F 1 a + (s_gain F a b (nI q)))) 1 b + (s_gain F b a (nI (2 - q))))) a q) b (2 - q)) (upd (upd ct 2 ((ct 2) + 1)) 1 (ct 1 + 1))) H := hP
      have hD : va_D A (wT h al rw cA cI n (s_note (s_note (s_set (s_set F a (F 1 a + (s_gain F a b (nI q)))) b ((s_set F a (F 1 a + (s_gain F a b (nI q)))) 1 b + (s_gain F b a (nI (2 - q))))) a q) b (2 - q)) (upd (upd ct 2 ((ct 2) + 1)) 1 (ct 1 + 1))) := hD
      refine lv_iload hx hb dX2_bout_101 (lv_at hl 1 rfl) ?_
      refine W.widen (k := 4) (n := 36) (by omega) (by omega) ?_
      have hP8 : va_P (dC, dI) vwCl (wT h al rw cA cI n (s_hold F a b q) (s_ct ct F a b q)) H := by rw [← bout_mb F q hab, ← up_yes (by rw [s_up2 (by omega), if_pos c_34])]; exact hP
      have hD8 : va_D A (wT h al rw cA cI n (s_hold F a b q) (s_ct ct F a b q)) := by rw [← bout_mb F q hab, ← up_yes (by rw [s_up2 (by omega), if_pos c_34])]; exact hD
      exact W.iret (v := s_gain F a b (nI q)) hx hb hr (fun t ht hW => ⟨⟨_, (), rfl, (show s_gain F a b (nI q) = s_gain F a b (nI q) from by rfl), by rw [ht]; exact hP8, hD8⟩, hS.F ht⟩) hS.2.2 dX2_bout_103
    · refine lv_iload_n hx hb dX2_bout_37 rfl (lv_at hl 5 rfl) ?_
      refine lv_if_ne (tgt := 63) hx hb dX2_bout_38 (by decide) (fun c_38 => ?_) (fun c_38 => ?_)
      · refine lv_aload_n hx hb dX2_bout_63 rfl (lv_at hl 2 rfl) ?_
        refine lv_iload_n hx hb dX2_bout_64 rfl (lv_at hl 3 rfl) ?_
        refine lv_iload hx hb dX2_bout_65 (lv_at hl 1 rfl) ?_
        have hFc := free_all hD hS hA
        refine va_callv (va_runV (As := [.int (nI a), .int (s_gain F a b (nI q))]) (rest := []) ⟨hx, hb, hml, hown, hts⟩ (c_X2_raise l dC dI cI h al rw cA n F ct H.size a (show a < n by omega) (s_gain F a b (nI q)) hn) (cwV 2 hts gX2_bout_X2_raise rfl rfl rfl (by decide +kernel) ⟨Nat.le_of_ble_eq_true rfl, Nat.le_of_ble_eq_true rfl⟩) ⟨PV.blind, va_recv hK hP (ci := 2) (q0 := 0) rfl rfl, fun U hU hW => ⟨rfl, PV.go hP hK hD hE hS hFc hU hW⟩⟩ rfl rfl hl.1 rfl (lv_room (Nat.le_of_ble_eq_true rfl)) dX2_bout_67 ⟨(by show _ ≤ 4; omega), (by show _ ≤ 36; omega)⟩) hS (fun q _ h9 => hFc q h9) hFc (fun u9 t9 H locs ht9 hvm9 hw9 hB9 hz9 hk9 hS => ?_)
        obtain ⟨hP, hD9⟩ := hB9
        rw [ht9] at hP
        have hD := hD9.weaken (fun _ q _ h9 => hFc q.1 h9)
        have hP : va_P (dC, dI) vwCl (wT h al rw cA cI n (s_set F a (F 1 a + (s_gain F a b (nI q)))) ct) H := hP
        have hD : va_D A (wT h al rw cA cI n (s_set F a (F 1 a + (s_gain F a b (nI q)))) ct) := hD
        refine lv_aload_n hx hb dX2_bout_70 rfl (lv_at hl 2 rfl) ?_
        refine lv_iload_n hx hb dX2_bout_71 rfl (lv_at hl 4 rfl) ?_
        refine lv_iload hx hb dX2_bout_72 (lv_at hl 0 rfl) ?_
        have hFc := free_all hD hS hA
        refine va_callv (va_runV (As := [.int (nI b), .int (s_gain F b a (nI (2 - q)))]) (rest := []) ⟨hx, hb, hml, hown, hts⟩ (c_X2_raise l dC dI cI h al rw cA n (s_set F a (F 1 a + (s_gain F a b (nI q)))) ct H.size b (show b < n by omega) (s_gain F b a (nI (2 - q))) hn) (cwV 2 hts gX2_bout_X2_raise rfl rfl rfl (by decide +kernel) ⟨Nat.le_of_ble_eq_true rfl, Nat.le_of_ble_eq_true rfl⟩) ⟨PV.blind, va_recv hK hP (ci := 2) (q0 := 0) rfl rfl, fun U hU hW => ⟨rfl, PV.go hP hK hD hE hS hFc hU hW⟩⟩ rfl rfl hl.1 rfl (lv_room (Nat.le_of_ble_eq_true rfl)) dX2_bout_74 ⟨(by show _ ≤ 4; omega), (by show _ ≤ 36; omega)⟩) hS (fun q _ h9 => hFc q h9) hFc (fun u9 t9 H locs ht9 hvm9 hw9 hB9 hz9 hk9 hS => ?_)
        obtain ⟨hP, hD9⟩ := hB9
        rw [ht9] at hP
        have hD := hD9.weaken (fun _ q _ h9 => hFc q.1 h9)
        have hP : va_P (dC, dI) vwCl (wT h al rw cA cI n (s_set (s_set F a (F 1 a + (s_gain F a b (nI q)))) b ((s_set F a (F 1 a + (s_gain F a b (nI q)))) 1 b + (s_gain F b a (nI (2 - q))))) ct) H := hP
        have hD : va_D A (wT h al rw cA cI n (s_set (s_set F a (F 1 a + (s_gain F a b (nI q)))) b ((s_set F a (F 1 a + (s_gain F a b (nI q)))) 1 b + (s_gain F b a (nI (2 - q))))) ct) := hD
        refine lv_aload_n hx hb dX2_bout_77 rfl (lv_at hl 2 rfl) ?_
        refine lv_iload_n hx hb dX2_bout_78 rfl (lv_at hl 3 rfl) ?_
        refine lv_iload_n hx hb dX2_bout_79 rfl (lv_at hl 5 rfl) ?_
        have hFc := free_all hD hS hA
        refine va_callv (va_runV (As := [.int (nI a), .int (nI q)]) (rest := []) ⟨hx, hb, hml, hown, hts⟩ (c_X2_note l dC dI cI h al rw cA n (s_set (s_set F a (F 1 a + (s_gain F a b (nI q)))) b ((s_set F a (F 1 a + (s_gain F a b (nI q)))) 1 b + (s_gain F b a (nI (2 - q))))) ct H.size a (show a < n by omega) q hq hn) (cwV 2 hts gX2_bout_X2_note rfl rfl rfl (by decide +kernel) ⟨Nat.le_of_ble_eq_true rfl, Nat.le_of_ble_eq_true rfl⟩) ⟨PV.blind, va_recv hK hP (ci := 2) (q0 := 0) rfl rfl, fun U hU hW => ⟨rfl, PV.go hP hK hD hE hS hFc hU hW⟩⟩ rfl rfl hl.1 rfl (lv_room (Nat.le_of_ble_eq_true rfl)) dX2_bout_80 ⟨(by show _ ≤ 4; omega), (by show _ ≤ 36; omega)⟩) hS (fun q _ h9 => hFc q h9) hFc (fun u9 t9 H locs ht9 hvm9 hw9 hB9 hz9 hk9 hS => ?_)
        obtain ⟨hP, hD9⟩ := hB9
        rw [ht9] at hP
        have hD := hD9.weaken (fun _ q _ h9 => hFc q.1 h9)
        have hP : va_P (dC, dI) vwCl (wT h al rw cA cI n (s_note (s_set (s_set F a (F 1 a + (s_gain F a b (nI q)))) b ((s_set F a (F 1 a + (s_gain F a b (nI q)))) 1 b + (s_gain F b a (nI (2 - q))))) a q) ct) H := hP
        have hD : va_D A (wT h al rw cA cI n (s_note (s_set (s_set F a (F 1 a + (s_gain F a b (nI q)))) b ((s_set F a (F 1 a + (s_gain F a b (nI q)))) 1 b + (s_gain F b a (nI (2 - q))))) a q) ct) := hD
        refine lv_aload_n hx hb dX2_bout_83 rfl (lv_at hl 2 rfl) ?_
        refine lv_iload_n hx hb dX2_bout_84 rfl (lv_at hl 4 rfl) ?_
        refine lv_iconst (v := 2) hx hb dX2_bout_85 (by decide) ?_
        refine lv_iload_n hx hb dX2_bout_86 rfl (lv_at hl 5 rfl) ?_
        refine lv_isub hx hb dX2_bout_87 ?_
        refine rv_top (y := nI (2 - q)) (pk_sub (a := 2) hq) ?_
        have hFc := free_all hD hS hA
        refine va_callv (va_runV (As := [.int (nI b), .int (nI (2 - q))]) (rest := []) ⟨hx, hb, hml, hown, hts⟩ (c_X2_note l dC dI cI h al rw cA n (s_note (s_set (s_set F a (F 1 a + (s_gain F a b (nI q)))) b ((s_set F a (F 1 a + (s_gain F a b (nI q)))) 1 b + (s_gain F b a (nI (2 - q))))) a q) ct H.size b (show b < n by omega) (2 - q) (Nat.sub_le 2 q) hn) (cwV 2 hts gX2_bout_X2_note rfl rfl rfl (by decide +kernel) ⟨Nat.le_of_ble_eq_true rfl, Nat.le_of_ble_eq_true rfl⟩) ⟨PV.blind, va_recv hK hP (ci := 2) (q0 := 0) rfl rfl, fun U hU hW => ⟨rfl, PV.go hP hK hD hE hS hFc hU hW⟩⟩ rfl rfl hl.1 rfl (lv_room (Nat.le_of_ble_eq_true rfl)) dX2_bout_88 ⟨(by show _ ≤ 4; omega), (by show _ ≤ 36; omega)⟩) hS (fun q _ h9 => hFc q h9) hFc (fun u9 t9 H locs ht9 hvm9 hw9 hB9 hz9 hk9 hS => ?_)
        obtain ⟨hP, hD9⟩ := hB9
        rw [ht9] at hP
        have hD := hD9.weaken (fun _ q _ h9 => hFc q.1 h9)
        have hP : va_P (dC, dI) vwCl (wT h al rw cA cI n (s_note (s_note (s_set (s_set F a (F 1 a + (s_gain F a b (nI q)))) b ((s_set F a (F 1 a + (s_gain F a b (nI q)))) 1 b + (s_gain F b a (nI (2 - q))))) a q) b (2 - q)) ct) H := hP
        have hD : va_D A (wT h al rw cA cI n (s_note (s_note (s_set (s_set F a (F 1 a + (s_gain F a b (nI q)))) b ((s_set F a (F 1 a + (s_gain F a b (nI q)))) 1 b + (s_gain F b a (nI (2 - q))))) a q) b (2 - q)) ct) := hD
        refine lv_aload_n hx hb dX2_bout_91 rfl (lv_at hl 2 rfl) ?_
        refine lv_dup hx hb dX2_bout_92 rfl ?_
        refine va_get (D := (dC, dI)) (ci := 2) (v := .int (ct 1)) (C := RX2) (T := TX2) (N := 4) hx hb hts hinX2 hown hK hP 0 rfl rfl 1 (by decide) (hts (.fieldLink RX2 38 "WrestleBookLaw$Sim" "bouts" "I") (by decide +kernel)) (fun _ h9 => h9) rfl dX2_bout_93 ?_
        refine lv_iconst (v := 1) hx hb dX2_bout_96 (by decide) ?_
        refine lv_iadd hx hb dX2_bout_97 ?_
        refine rv_top (y := ct 1 + 1) rfl ?_
        refine va_put (D := (dC, dI)) (ci := 2) (v := .int (ct 1 + 1)) (ty := .int) (C := RX2) (T := TX2) (N := 4) hx hb hts hinX2 tyX2 tyX2_ok nmX2 hown hK hP hD hS 0 rfl rfl 1 (by decide) (hts (.fieldLink RX2 38 "WrestleBookLaw$Sim" "bouts" "I") (by decide +kernel)) (fun _ h9 => h9) rfl (by decide +kernel) rfl rfl (Nat.le_of_ble_eq_true rfl) dX2_bout_98 (fun H locs hP hD hS => ?_)
        have hP : va_P (dC, dI) vwCl (wT h al rw cA cI n (s_note (s_note (s_set (s_set F a (F 1 a + (s_gain F a b (nI q)))) b ((s_set F a (F 1 a + (s_gain F a b (nI q)))) 1 b + (s_gain F b a (nI (2 - q))))) a q) b (2 - q)) (upd ct 1 (ct 1 + 1))) H := hP
        have hD : va_D A (wT h al rw cA cI n (s_note (s_note (s_set (s_set F a (F 1 a + (s_gain F a b (nI q)))) b ((s_set F a (F 1 a + (s_gain F a b (nI q)))) 1 b + (s_gain F b a (nI (2 - q))))) a q) b (2 - q)) (upd ct 1 (ct 1 + 1))) := hD
        refine lv_iload hx hb dX2_bout_101 (lv_at hl 1 rfl) ?_
        refine W.widen (k := 4) (n := 36) (by omega) (by omega) ?_
        have hP8 : va_P (dC, dI) vwCl (wT h al rw cA cI n (s_hold F a b q) (s_ct ct F a b q)) H := by rw [← bout_mb F q hab, ← up_no (by rw [s_up2 (by omega), if_neg c_34])]; exact hP
        have hD8 : va_D A (wT h al rw cA cI n (s_hold F a b q) (s_ct ct F a b q)) := by rw [← bout_mb F q hab, ← up_no (by rw [s_up2 (by omega), if_neg c_34])]; exact hD
        exact W.iret (v := s_gain F a b (nI q)) hx hb hr (fun t ht hW => ⟨⟨_, (), rfl, (show s_gain F a b (nI q) = s_gain F a b (nI q) from by rfl), by rw [ht]; exact hP8, hD8⟩, hS.F ht⟩) hS.2.2 dX2_bout_103
      · refine lv_aload_n hx hb dX2_bout_41 rfl (lv_at hl 2 rfl) ?_
        refine lv_iload_n hx hb dX2_bout_42 rfl (lv_at hl 4 rfl) ?_
        refine lv_iload_n hx hb dX2_bout_43 rfl (lv_at hl 3 rfl) ?_
        refine va_calli (va_runV (As := [.int (nI b), .int (nI a)]) (rest := []) ⟨hx, hb, hml, hown, hts⟩ (c_X2_expected l dC dI cI h al rw cA n F ct H.size b (show b < n by omega) a (show a < n by omega) hn hR) (cwV 2 hts gX2_bout_X2_expected rfl rfl rfl (by decide +kernel) ⟨Nat.le_of_ble_eq_true rfl, Nat.le_of_ble_eq_true rfl⟩) ⟨PT.blind, va_recv hK hP (ci := 2) (q0 := 0) rfl rfl, fun U hU hW => ⟨rfl, PT.go hP hK hE hS hA hU hW⟩⟩ rfl rfl hl.1 rfl (lv_room (Nat.le_of_ble_eq_true rfl)) dX2_bout_44 ⟨(by show _ ≤ 4; omega), (by show _ ≤ 36; omega)⟩) hS (fun q h8 h9 => absurd h9 (Nat.not_le.mpr h8)) (fun q h9 => hA q (Nat.le_trans hS.1 h9)) (fun r u9 t9 H locs ht9 hvm9 hw9 hB9 hz9 hk9 hS => ?_)
        have hP := P_new hP hk9
        have hw9 : r = s_exp F b a := hw9
        subst hw9
        refine lv_sipush (v := 400) hx hb dX2_bout_47 (by decide) ?_
        refine lv_icmp_ge (tgt := 63) hx hb dX2_bout_50 (by decide) (fun c_50 => ?_) (fun c_50 => ?_)
        · refine lv_aload_n hx hb dX2_bout_63 rfl (lv_at hl 2 rfl) ?_
          refine lv_iload_n hx hb dX2_bout_64 rfl (lv_at hl 3 rfl) ?_
          refine lv_iload hx hb dX2_bout_65 (lv_at hl 1 rfl) ?_
          have hFc := free_all hD hS hA
          refine va_callv (va_runV (As := [.int (nI a), .int (s_gain F a b (nI q))]) (rest := []) ⟨hx, hb, hml, hown, hts⟩ (c_X2_raise l dC dI cI h al rw cA n F ct H.size a (show a < n by omega) (s_gain F a b (nI q)) hn) (cwV 2 hts gX2_bout_X2_raise rfl rfl rfl (by decide +kernel) ⟨Nat.le_of_ble_eq_true rfl, Nat.le_of_ble_eq_true rfl⟩) ⟨PV.blind, va_recv hK hP (ci := 2) (q0 := 0) rfl rfl, fun U hU hW => ⟨rfl, PV.go hP hK hD hE hS hFc hU hW⟩⟩ rfl rfl hl.1 rfl (lv_room (Nat.le_of_ble_eq_true rfl)) dX2_bout_67 ⟨(by show _ ≤ 4; omega), (by show _ ≤ 36; omega)⟩) hS (fun q _ h9 => hFc q h9) hFc (fun u9 t9 H locs ht9 hvm9 hw9 hB9 hz9 hk9 hS => ?_)
          obtain ⟨hP, hD9⟩ := hB9
          rw [ht9] at hP
          have hD := hD9.weaken (fun _ q _ h9 => hFc q.1 h9)
          have hP : va_P (dC, dI) vwCl (wT h al rw cA cI n (s_set F a (F 1 a + (s_gain F a b (nI q)))) ct) H := hP
          have hD : va_D A (wT h al rw cA cI n (s_set F a (F 1 a + (s_gain F a b (nI q)))) ct) := hD
          refine lv_aload_n hx hb dX2_bout_70 rfl (lv_at hl 2 rfl) ?_
          refine lv_iload_n hx hb dX2_bout_71 rfl (lv_at hl 4 rfl) ?_
          refine lv_iload hx hb dX2_bout_72 (lv_at hl 0 rfl) ?_
          have hFc := free_all hD hS hA
          refine va_callv (va_runV (As := [.int (nI b), .int (s_gain F b a (nI (2 - q)))]) (rest := []) ⟨hx, hb, hml, hown, hts⟩ (c_X2_raise l dC dI cI h al rw cA n (s_set F a (F 1 a + (s_gain F a b (nI q)))) ct H.size b (show b < n by omega) (s_gain F b a (nI (2 - q))) hn) (cwV 2 hts gX2_bout_X2_raise rfl rfl rfl (by decide +kernel) ⟨Nat.le_of_ble_eq_true rfl, Nat.le_of_ble_eq_true rfl⟩) ⟨PV.blind, va_recv hK hP (ci := 2) (q0 := 0) rfl rfl, fun U hU hW => ⟨rfl, PV.go hP hK hD hE hS hFc hU hW⟩⟩ rfl rfl hl.1 rfl (lv_room (Nat.le_of_ble_eq_true rfl)) dX2_bout_74 ⟨(by show _ ≤ 4; omega), (by show _ ≤ 36; omega)⟩) hS (fun q _ h9 => hFc q h9) hFc (fun u9 t9 H locs ht9 hvm9 hw9 hB9 hz9 hk9 hS => ?_)
          obtain ⟨hP, hD9⟩ := hB9
          rw [ht9] at hP
          have hD := hD9.weaken (fun _ q _ h9 => hFc q.1 h9)
          have hP : va_P (dC, dI) vwCl (wT h al rw cA cI n (s_set (s_set F a (F 1 a + (s_gain F a b (nI q)))) b ((s_set F a (F 1 a + (s_gain F a b (nI q)))) 1 b + (s_gain F b a (nI (2 - q))))) ct) H := hP
          have hD : va_D A (wT h al rw cA cI n (s_set (s_set F a (F 1 a + (s_gain F a b (nI q)))) b ((s_set F a (F 1 a + (s_gain F a b (nI q)))) 1 b + (s_gain F b a (nI (2 - q))))) ct) := hD
          refine lv_aload_n hx hb dX2_bout_77 rfl (lv_at hl 2 rfl) ?_
          refine lv_iload_n hx hb dX2_bout_78 rfl (lv_at hl 3 rfl) ?_
          refine lv_iload_n hx hb dX2_bout_79 rfl (lv_at hl 5 rfl) ?_
          have hFc := free_all hD hS hA
          refine va_callv (va_runV (As := [.int (nI a), .int (nI q)]) (rest := []) ⟨hx, hb, hml, hown, hts⟩ (c_X2_note l dC dI cI h al rw cA n (s_set (s_set F a (F 1 a + (s_gain F a b (nI q)))) b ((s_set F a (F 1 a + (s_gain F a b (nI q)))) 1 b + (s_gain F b a (nI (2 - q))))) ct H.size a (show a < n by omega) q hq hn) (cwV 2 hts gX2_bout_X2_note rfl rfl rfl (by decide +kernel) ⟨Nat.le_of_ble_eq_true rfl, Nat.le_of_ble_eq_true rfl⟩) ⟨PV.blind, va_recv hK hP (ci := 2) (q0 := 0) rfl rfl, fun U hU hW => ⟨rfl, PV.go hP hK hD hE hS hFc hU hW⟩⟩ rfl rfl hl.1 rfl (lv_room (Nat.le_of_ble_eq_true rfl)) dX2_bout_80 ⟨(by show _ ≤ 4; omega), (by show _ ≤ 36; omega)⟩) hS (fun q _ h9 => hFc q h9) hFc (fun u9 t9 H locs ht9 hvm9 hw9 hB9 hz9 hk9 hS => ?_)
          obtain ⟨hP, hD9⟩ := hB9
          rw [ht9] at hP
          have hD := hD9.weaken (fun _ q _ h9 => hFc q.1 h9)
          have hP : va_P (dC, dI) vwCl (wT h al rw cA cI n (s_note (s_set (s_set F a (F 1 a + (s_gain F a b (nI q)))) b ((s_set F a (F 1 a + (s_gain F a b (nI q)))) 1 b + (s_gain F b a (nI (2 - q))))) a q) ct) H := hP
          have hD : va_D A (wT h al rw cA cI n (s_note (s_set (s_set F a (F 1 a + (s_gain F a b (nI q)))) b ((s_set F a (F 1 a + (s_gain F a b (nI q)))) 1 b + (s_gain F b a (nI (2 - q))))) a q) ct) := hD
          refine lv_aload_n hx hb dX2_bout_83 rfl (lv_at hl 2 rfl) ?_
          refine lv_iload_n hx hb dX2_bout_84 rfl (lv_at hl 4 rfl) ?_
          refine lv_iconst (v := 2) hx hb dX2_bout_85 (by decide) ?_
          refine lv_iload_n hx hb dX2_bout_86 rfl (lv_at hl 5 rfl) ?_
          refine lv_isub hx hb dX2_bout_87 ?_
          refine rv_top (y := nI (2 - q)) (pk_sub (a := 2) hq) ?_
          have hFc := free_all hD hS hA
          refine va_callv (va_runV (As := [.int (nI b), .int (nI (2 - q))]) (rest := []) ⟨hx, hb, hml, hown, hts⟩ (c_X2_note l dC dI cI h al rw cA n (s_note (s_set (s_set F a (F 1 a + (s_gain F a b (nI q)))) b ((s_set F a (F 1 a + (s_gain F a b (nI q)))) 1 b + (s_gain F b a (nI (2 - q))))) a q) ct H.size b (show b < n by omega) (2 - q) (Nat.sub_le 2 q) hn) (cwV 2 hts gX2_bout_X2_note rfl rfl rfl (by decide +kernel) ⟨Nat.le_of_ble_eq_true rfl, Nat.le_of_ble_eq_true rfl⟩) ⟨PV.blind, va_recv hK hP (ci := 2) (q0 := 0) rfl rfl, fun U hU hW => ⟨rfl, PV.go hP hK hD hE hS hFc hU hW⟩⟩ rfl rfl hl.1 rfl (lv_room (Nat.le_of_ble_eq_true rfl)) dX2_bout_88 ⟨(by show _ ≤ 4; omega), (by show _ ≤ 36; omega)⟩) hS (fun q _ h9 => hFc q h9) hFc (fun u9 t9 H locs ht9 hvm9 hw9 hB9 hz9 hk9 hS => ?_)
          obtain ⟨hP, hD9⟩ := hB9
          rw [ht9] at hP
          have hD := hD9.weaken (fun _ q _ h9 => hFc q.1 h9)
          have hP : va_P (dC, dI) vwCl (wT h al rw cA cI n (s_note (s_note (s_set (s_set F a (F 1 a + (s_gain F a b (nI q)))) b ((s_set F a (F 1 a + (s_gain F a b (nI q)))) 1 b + (s_gain F b a (nI (2 - q))))) a q) b (2 - q)) ct) H := hP
          have hD : va_D A (wT h al rw cA cI n (s_note (s_note (s_set (s_set F a (F 1 a + (s_gain F a b (nI q)))) b ((s_set F a (F 1 a + (s_gain F a b (nI q)))) 1 b + (s_gain F b a (nI (2 - q))))) a q) b (2 - q)) ct) := hD
          refine lv_aload_n hx hb dX2_bout_91 rfl (lv_at hl 2 rfl) ?_
          refine lv_dup hx hb dX2_bout_92 rfl ?_
          refine va_get (D := (dC, dI)) (ci := 2) (v := .int (ct 1)) (C := RX2) (T := TX2) (N := 4) hx hb hts hinX2 hown hK hP 0 rfl rfl 1 (by decide) (hts (.fieldLink RX2 38 "WrestleBookLaw$Sim" "bouts" "I") (by decide +kernel)) (fun _ h9 => h9) rfl dX2_bout_93 ?_
          refine lv_iconst (v := 1) hx hb dX2_bout_96 (by decide) ?_
          refine lv_iadd hx hb dX2_bout_97 ?_
          refine rv_top (y := ct 1 + 1) rfl ?_
          refine va_put (D := (dC, dI)) (ci := 2) (v := .int (ct 1 + 1)) (ty := .int) (C := RX2) (T := TX2) (N := 4) hx hb hts hinX2 tyX2 tyX2_ok nmX2 hown hK hP hD hS 0 rfl rfl 1 (by decide) (hts (.fieldLink RX2 38 "WrestleBookLaw$Sim" "bouts" "I") (by decide +kernel)) (fun _ h9 => h9) rfl (by decide +kernel) rfl rfl (Nat.le_of_ble_eq_true rfl) dX2_bout_98 (fun H locs hP hD hS => ?_)
          have hP : va_P (dC, dI) vwCl (wT h al rw cA cI n (s_note (s_note (s_set (s_set F a (F 1 a + (s_gain F a b (nI q)))) b ((s_set F a (F 1 a + (s_gain F a b (nI q)))) 1 b + (s_gain F b a (nI (2 - q))))) a q) b (2 - q)) (upd ct 1 (ct 1 + 1))) H := hP
          have hD : va_D A (wT h al rw cA cI n (s_note (s_note (s_set (s_set F a (F 1 a + (s_gain F a b (nI q)))) b ((s_set F a (F 1 a + (s_gain F a b (nI q)))) 1 b + (s_gain F b a (nI (2 - q))))) a q) b (2 - q)) (upd ct 1 (ct 1 + 1))) := hD
          refine lv_iload hx hb dX2_bout_101 (lv_at hl 1 rfl) ?_
          refine W.widen (k := 4) (n := 36) (by omega) (by omega) ?_
          have hP8 : va_P (dC, dI) vwCl (wT h al rw cA cI n (s_hold F a b q) (s_ct ct F a b q)) H := by rw [← bout_mb F q hab, ← up_no (by rw [s_up2 (by omega), if_neg c_34])]; exact hP
          have hD8 : va_D A (wT h al rw cA cI n (s_hold F a b q) (s_ct ct F a b q)) := by rw [← bout_mb F q hab, ← up_no (by rw [s_up2 (by omega), if_neg c_34])]; exact hD
          exact W.iret (v := s_gain F a b (nI q)) hx hb hr (fun t ht hW => ⟨⟨_, (), rfl, (show s_gain F a b (nI q) = s_gain F a b (nI q) from by rfl), by rw [ht]; exact hP8, hD8⟩, hS.F ht⟩) hS.2.2 dX2_bout_103
        · refine lv_aload_n hx hb dX2_bout_53 rfl (lv_at hl 2 rfl) ?_
          refine lv_dup hx hb dX2_bout_54 rfl ?_
          refine va_get (D := (dC, dI)) (ci := 2) (v := .int (ct 2)) (C := RX2) (T := TX2) (N := 4) hx hb hts hinX2 hown hK hP 0 rfl rfl 2 (by decide) (hts (.fieldLink RX2 27 "WrestleBookLaw$Sim" "upsets" "I") (by decide +kernel)) (fun _ h9 => h9) rfl dX2_bout_55 ?_
          refine lv_iconst (v := 1) hx hb dX2_bout_58 (by decide) ?_
          refine lv_iadd hx hb dX2_bout_59 ?_
          refine va_put (D := (dC, dI)) (ci := 2) (v := .int ((ct 2) + 1)) (ty := .int) (C := RX2) (T := TX2) (N := 4) hx hb hts hinX2 tyX2 tyX2_ok nmX2 hown hK hP hD hS 0 rfl rfl 2 (by decide) (hts (.fieldLink RX2 27 "WrestleBookLaw$Sim" "upsets" "I") (by decide +kernel)) (fun _ h9 => h9) rfl (by decide +kernel) rfl rfl (Nat.le_of_ble_eq_true rfl) dX2_bout_60 (fun H locs hP hD hS => ?_)
          have hP : va_P (dC, dI) vwCl (wT h al rw cA cI n F (upd ct 2 ((ct 2) + 1))) H := hP
          have hD : va_D A (wT h al rw cA cI n F (upd ct 2 ((ct 2) + 1))) := hD
          refine lv_aload_n hx hb dX2_bout_63 rfl (lv_at hl 2 rfl) ?_
          refine lv_iload_n hx hb dX2_bout_64 rfl (lv_at hl 3 rfl) ?_
          refine lv_iload hx hb dX2_bout_65 (lv_at hl 1 rfl) ?_
          have hFc := free_all hD hS hA
          refine va_callv (va_runV (As := [.int (nI a), .int (s_gain F a b (nI q))]) (rest := []) ⟨hx, hb, hml, hown, hts⟩ (c_X2_raise l dC dI cI h al rw cA n F (upd ct 2 ((ct 2) + 1)) H.size a (show a < n by omega) (s_gain F a b (nI q)) hn) (cwV 2 hts gX2_bout_X2_raise rfl rfl rfl (by decide +kernel) ⟨Nat.le_of_ble_eq_true rfl, Nat.le_of_ble_eq_true rfl⟩) ⟨PV.blind, va_recv hK hP (ci := 2) (q0 := 0) rfl rfl, fun U hU hW => ⟨rfl, PV.go hP hK hD hE hS hFc hU hW⟩⟩ rfl rfl hl.1 rfl (lv_room (Nat.le_of_ble_eq_true rfl)) dX2_bout_67 ⟨(by show _ ≤ 4; omega), (by show _ ≤ 36; omega)⟩) hS (fun q _ h9 => hFc q h9) hFc (fun u9 t9 H locs ht9 hvm9 hw9 hB9 hz9 hk9 hS => ?_)
          obtain ⟨hP, hD9⟩ := hB9
          rw [ht9] at hP
          have hD := hD9.weaken (fun _ q _ h9 => hFc q.1 h9)
          have hP : va_P (dC, dI) vwCl (wT h al rw cA cI n (s_set F a (F 1 a + (s_gain F a b (nI q)))) (upd ct 2 ((ct 2) + 1))) H := hP
          have hD : va_D A (wT h al rw cA cI n (s_set F a (F 1 a + (s_gain F a b (nI q)))) (upd ct 2 ((ct 2) + 1))) := hD
          refine lv_aload_n hx hb dX2_bout_70 rfl (lv_at hl 2 rfl) ?_
          refine lv_iload_n hx hb dX2_bout_71 rfl (lv_at hl 4 rfl) ?_
          refine lv_iload hx hb dX2_bout_72 (lv_at hl 0 rfl) ?_
          have hFc := free_all hD hS hA
          refine va_callv (va_runV (As := [.int (nI b), .int (s_gain F b a (nI (2 - q)))]) (rest := []) ⟨hx, hb, hml, hown, hts⟩ (c_X2_raise l dC dI cI h al rw cA n (s_set F a (F 1 a + (s_gain F a b (nI q)))) (upd ct 2 ((ct 2) + 1)) H.size b (show b < n by omega) (s_gain F b a (nI (2 - q))) hn) (cwV 2 hts gX2_bout_X2_raise rfl rfl rfl (by decide +kernel) ⟨Nat.le_of_ble_eq_true rfl, Nat.le_of_ble_eq_true rfl⟩) ⟨PV.blind, va_recv hK hP (ci := 2) (q0 := 0) rfl rfl, fun U hU hW => ⟨rfl, PV.go hP hK hD hE hS hFc hU hW⟩⟩ rfl rfl hl.1 rfl (lv_room (Nat.le_of_ble_eq_true rfl)) dX2_bout_74 ⟨(by show _ ≤ 4; omega), (by show _ ≤ 36; omega)⟩) hS (fun q _ h9 => hFc q h9) hFc (fun u9 t9 H locs ht9 hvm9 hw9 hB9 hz9 hk9 hS => ?_)
          obtain ⟨hP, hD9⟩ := hB9
          rw [ht9] at hP
          have hD := hD9.weaken (fun _ q _ h9 => hFc q.1 h9)
          have hP : va_P (dC, dI) vwCl (wT h al rw cA cI n (s_set (s_set F a (F 1 a + (s_gain F a b (nI q)))) b ((s_set F a (F 1 a + (s_gain F a b (nI q)))) 1 b + (s_gain F b a (nI (2 - q))))) (upd ct 2 ((ct 2) + 1))) H := hP
          have hD : va_D A (wT h al rw cA cI n (s_set (s_set F a (F 1 a + (s_gain F a b (nI q)))) b ((s_set F a (F 1 a + (s_gain F a b (nI q)))) 1 b + (s_gain F b a (nI (2 - q))))) (upd ct 2 ((ct 2) + 1))) := hD
          refine lv_aload_n hx hb dX2_bout_77 rfl (lv_at hl 2 rfl) ?_
          refine lv_iload_n hx hb dX2_bout_78 rfl (lv_at hl 3 rfl) ?_
          refine lv_iload_n hx hb dX2_bout_79 rfl (lv_at hl 5 rfl) ?_
          have hFc := free_all hD hS hA
          refine va_callv (va_runV (As := [.int (nI a), .int (nI q)]) (rest := []) ⟨hx, hb, hml, hown, hts⟩ (c_X2_note l dC dI cI h al rw cA n (s_set (s_set F a (F 1 a + (s_gain F a b (nI q)))) b ((s_set F a (F 1 a + (s_gain F a b (nI q)))) 1 b + (s_gain F b a (nI (2 - q))))) (upd ct 2 ((ct 2) + 1)) H.size a (show a < n by omega) q hq hn) (cwV 2 hts gX2_bout_X2_note rfl rfl rfl (by decide +kernel) ⟨Nat.le_of_ble_eq_true rfl, Nat.le_of_ble_eq_true rfl⟩) ⟨PV.blind, va_recv hK hP (ci := 2) (q0 := 0) rfl rfl, fun U hU hW => ⟨rfl, PV.go hP hK hD hE hS hFc hU hW⟩⟩ rfl rfl hl.1 rfl (lv_room (Nat.le_of_ble_eq_true rfl)) dX2_bout_80 ⟨(by show _ ≤ 4; omega), (by show _ ≤ 36; omega)⟩) hS (fun q _ h9 => hFc q h9) hFc (fun u9 t9 H locs ht9 hvm9 hw9 hB9 hz9 hk9 hS => ?_)
          obtain ⟨hP, hD9⟩ := hB9
          rw [ht9] at hP
          have hD := hD9.weaken (fun _ q _ h9 => hFc q.1 h9)
          have hP : va_P (dC, dI) vwCl (wT h al rw cA cI n (s_note (s_set (s_set F a (F 1 a + (s_gain F a b (nI q)))) b ((s_set F a (F 1 a + (s_gain F a b (nI q)))) 1 b + (s_gain F b a (nI (2 - q))))) a q) (upd ct 2 ((ct 2) + 1))) H := hP
          have hD : va_D A (wT h al rw cA cI n (s_note (s_set (s_set F a (F 1 a + (s_gain F a b (nI q)))) b ((s_set F a (F 1 a + (s_gain F a b (nI q)))) 1 b + (s_gain F b a (nI (2 - q))))) a q) (upd ct 2 ((ct 2) + 1))) := hD
          refine lv_aload_n hx hb dX2_bout_83 rfl (lv_at hl 2 rfl) ?_
          refine lv_iload_n hx hb dX2_bout_84 rfl (lv_at hl 4 rfl) ?_
          refine lv_iconst (v := 2) hx hb dX2_bout_85 (by decide) ?_
          refine lv_iload_n hx hb dX2_bout_86 rfl (lv_at hl 5 rfl) ?_
          refine lv_isub hx hb dX2_bout_87 ?_
          refine rv_top (y := nI (2 - q)) (pk_sub (a := 2) hq) ?_
          have hFc := free_all hD hS hA
          refine va_callv (va_runV (As := [.int (nI b), .int (nI (2 - q))]) (rest := []) ⟨hx, hb, hml, hown, hts⟩ (c_X2_note l dC dI cI h al rw cA n (s_note (s_set (s_set F a (F 1 a + (s_gain F a b (nI q)))) b ((s_set F a (F 1 a + (s_gain F a b (nI q)))) 1 b + (s_gain F b a (nI (2 - q))))) a q) (upd ct 2 ((ct 2) + 1)) H.size b (show b < n by omega) (2 - q) (Nat.sub_le 2 q) hn) (cwV 2 hts gX2_bout_X2_note rfl rfl rfl (by decide +kernel) ⟨Nat.le_of_ble_eq_true rfl, Nat.le_of_ble_eq_true rfl⟩) ⟨PV.blind, va_recv hK hP (ci := 2) (q0 := 0) rfl rfl, fun U hU hW => ⟨rfl, PV.go hP hK hD hE hS hFc hU hW⟩⟩ rfl rfl hl.1 rfl (lv_room (Nat.le_of_ble_eq_true rfl)) dX2_bout_88 ⟨(by show _ ≤ 4; omega), (by show _ ≤ 36; omega)⟩) hS (fun q _ h9 => hFc q h9) hFc (fun u9 t9 H locs ht9 hvm9 hw9 hB9 hz9 hk9 hS => ?_)
          obtain ⟨hP, hD9⟩ := hB9
          rw [ht9] at hP
          have hD := hD9.weaken (fun _ q _ h9 => hFc q.1 h9)
          have hP : va_P (dC, dI) vwCl (wT h al rw cA cI n (s_note (s_note (s_set (s_set F a (F 1 a + (s_gain F a b (nI q)))) b ((s_set F a (F 1 a + (s_gain F a b (nI q)))) 1 b + (s_gain F b a (nI (2 - q))))) a q) b (2 - q)) (upd ct 2 ((ct 2) + 1))) H := hP
          have hD : va_D A (wT h al rw cA cI n (s_note (s_note (s_set (s_set F a (F 1 a + (s_gain F a b (nI q)))) b ((s_set F a (F 1 a + (s_gain F a b (nI q)))) 1 b + (s_gain F b a (nI (2 - q))))) a q) b (2 - q)) (upd ct 2 ((ct 2) + 1))) := hD
          refine lv_aload_n hx hb dX2_bout_91 rfl (lv_at hl 2 rfl) ?_
          refine lv_dup hx hb dX2_bout_92 rfl ?_
          refine va_get (D := (dC, dI)) (ci := 2) (v := .int ((upd ct 2 ((ct 2) + 1)) 1)) (C := RX2) (T := TX2) (N := 4) hx hb hts hinX2 hown hK hP 0 rfl rfl 1 (by decide) (hts (.fieldLink RX2 38 "WrestleBookLaw$Sim" "bouts" "I") (by decide +kernel)) (fun _ h9 => h9) rfl dX2_bout_93 ?_
          refine lv_iconst (v := 1) hx hb dX2_bout_96 (by decide) ?_
          refine lv_iadd hx hb dX2_bout_97 ?_
          refine rv_top (y := ct 1 + 1) rfl ?_
          refine va_put (D := (dC, dI)) (ci := 2) (v := .int (ct 1 + 1)) (ty := .int) (C := RX2) (T := TX2) (N := 4) hx hb hts hinX2 tyX2 tyX2_ok nmX2 hown hK hP hD hS 0 rfl rfl 1 (by decide) (hts (.fieldLink RX2 38 "WrestleBookLaw$Sim" "bouts" "I") (by decide +kernel)) (fun _ h9 => h9) rfl (by decide +kernel) rfl rfl (Nat.le_of_ble_eq_true rfl) dX2_bout_98 (fun H locs hP hD hS => ?_)
          have hP : va_P (dC, dI) vwCl (wT h al rw cA cI n (s_note (s_note (s_set (s_set F a (F 1 a + (s_gain F a b (nI q)))) b ((s_set F a (F 1 a + (s_gain F a b (nI q)))) 1 b + (s_gain F b a (nI (2 - q))))) a q) b (2 - q)) (upd (upd ct 2 ((ct 2) + 1)) 1 (ct 1 + 1))) H := hP
          have hD : va_D A (wT h al rw cA cI n (s_note (s_note (s_set (s_set F a (F 1 a + (s_gain F a b (nI q)))) b ((s_set F a (F 1 a + (s_gain F a b (nI q)))) 1 b + (s_gain F b a (nI (2 - q))))) a q) b (2 - q)) (upd (upd ct 2 ((ct 2) + 1)) 1 (ct 1 + 1))) := hD
          refine lv_iload hx hb dX2_bout_101 (lv_at hl 1 rfl) ?_
          refine W.widen (k := 4) (n := 36) (by omega) (by omega) ?_
          have hP8 : va_P (dC, dI) vwCl (wT h al rw cA cI n (s_hold F a b q) (s_ct ct F a b q)) H := by rw [← bout_mb F q hab, ← up_yes (by rw [s_up0 (qz hq c_38), if_pos (Int32.not_le.mp c_50)])]; exact hP
          have hD8 : va_D A (wT h al rw cA cI n (s_hold F a b q) (s_ct ct F a b q)) := by rw [← bout_mb F q hab, ← up_yes (by rw [s_up0 (qz hq c_38), if_pos (Int32.not_le.mp c_50)])]; exact hD
          exact W.iret (v := s_gain F a b (nI q)) hx hb hr (fun t ht hW => ⟨⟨_, (), rfl, (show s_gain F a b (nI q) = s_gain F a b (nI q) from by rfl), by rw [ht]; exact hP8, hD8⟩, hS.F ht⟩) hS.2.2 dX2_bout_103

set_option maxHeartbeats 4000000 in
set_option maxRecDepth 100000 in
theorem c_X2_match (l : Launch) (dC : Nat → ClassId) (dI : Nat → Nat → Nat) (cI : ClassId) (h al : Nat) (rw : Nat → Nat) (cA : ClassId) (n : Nat) (F : Nat → Nat → Int32) (ct : Nat → Int32) (sz : Nat) (w : Nat) (i_w : w < n) (hn : n ≤ 12) (hR : okR n F) : Met l yX2_match wsX2_match ({ frames := 3, cells := 24, slots := 216, locals := 75 } : Room) (va_Pc [.ref h, .int (nI w)] (fun U => PT dC dI cI cA (wT h al rw cA cI n F ct) sz U)) (va_Qi (fun r (_ : Unit) => r = oI (s_match n F w)) (fun _ _ => True) (fun q : Nat => sz ≤ q)) 24 216 (fun q : Nat => sz ≤ q) := by
  refine Met.ofW (cc := cX2_match) (maxL := 4) (ret := (some .int)) (by decide) rfl ?_
  intro p e s m args below meth c s₁ B hml hv
  obtain ⟨rfl, hsz, hP0, hK, hE⟩ := hv
  have hx := B.exec
  have hb := B.bytes
  have hr := B.returns
  have hts := atoms_spec (ws := wsX2_match) B.pre
  have hown : s.vm.findClass RX2 = some m.cls := findClass_of_methodNamed B.named
  have hlocks := B.notSynchronized
  subst hsz
  have hAn : ∀ q : Nat, q < s.heap.size → ¬ (fun q : Nat => s.heap.size ≤ q) q := fun q h9 => Nat.not_le.mpr h9
  have hA : ∀ q : Nat, s.heap.size ≤ q → (fun q : Nat => s.heap.size ≤ q) q := fun q h9 => h9
  have hAi : ∀ q : Nat, (fun q : Nat => s.heap.size ≤ q) q → s.heap.size ≤ q := fun q h9 => h9
  generalize (fun q : Nat => s.heap.size ≤ q) = A at hA hAi hAn hE ⊢
  have hP := hP0
  have hS : va_S A s.heap s.heap [] := va_S.rf
  have hinX2 : ∀ w ∈ wsX20, w ∈ wsX2_match := by decide +kernel
  have hl := lv_entry ([.ref h, .int (nI w)]) (n := 4) (Nat.le_of_ble_eq_true rfl)
  rw [lg_entry_eq]
  generalize (lg_sl ([.ref h, .int (nI w)]) ++ List.replicate (4 - (lg_sl ([.ref h, .int (nI w)])).length) Slot.unset).toArray = ls at hl ⊢
  have hl : lv_has ls 4 [(0, .ref h), (1, .int (nI w))] := hl
  obtain ⟨H, hHe⟩ : ∃ H, H = s.heap := ⟨_, rfl⟩
  have hP : va_P (dC, dI) vwCl (wT h al rw cA cI n F ct) H := by rw [hHe]; exact hP
  have hS : va_S A s.heap H [] := by rw [hHe]; exact hS
  suffices h0 : W p l e (headSpec wsX2_match ({ frames := 3, cells := 24, slots := 216, locals := 75 } : Room)).room s m ([.ref h, .int (nI w)] : List Value).toArray below meth c H [] 0 0 (MQ below (va_Qi (fun r (_ : Unit) => r = oI (s_match n F w)) (fun _ _ => True) A) ([.ref h, .int (nI w)] : List Value).toArray s 24 216 A) (F0 m 0 ls []) from by have h9 := h0; rw [hHe] at h9; exact h9
  refine lv_iconst (v := (-1)) hx hb dX2_match_0 (by decide) ?_
  refine lv_istore_n (lv' := [(2, .int (-1)), (0, .ref h), (1, .int (nI w))]) hx hb dX2_match_1 rfl hl (by decide) rfl (fun ls hl => ?_)
  refine lv_aload_n hx hb dX2_match_2 rfl (lv_at hl 1 rfl) ?_
  refine va_get (D := (dC, dI)) (ci := 2) (v := .ref al) (C := RX2) (T := TX2) (N := 4) hx hb hts hinX2 hown hK hP 0 rfl rfl 3 (by decide) (hts (.fieldLink RX2 9 "WrestleBookLaw$Sim" "all" "[[I") (by decide +kernel)) (fun _ h9 => h9) rfl dX2_match_3 ?_
  refine va_alen hx hb hK hP 1 1 rfl rfl (v := nI n) rfl dX2_match_6 ?_
  refine lv_iconst (v := 1) hx hb dX2_match_7 (by decide) ?_
  refine lv_isub hx hb dX2_match_8 ?_
  refine lv_istore_n (lv' := [(3, .int ((nI n) - 1)), (2, .int (-1)), (0, .ref h), (1, .int (nI w))]) hx hb dX2_match_9 rfl hl (by decide) rfl (fun ls hl => ?_)
  have L_10 : ∀ (k : Nat) (o2 : Option Nat), k ≤ n → MM F w k n o2 → ∀ (H : Heap) (locs : List Loc), va_S A s.heap H locs → ∀ (ls : Array Slot), lv_has ls 4 [(3, .int (nI k - 1)), (2, .int (oI o2)), (0, .ref h), (1, .int (nI w))] → W p l e (headSpec wsX2_match ({ frames := 3, cells := 24, slots := 216, locals := 75 } : Room)).room s m ([.ref h, .int (nI w)] : List Value).toArray below meth c H locs (0 + 2 * (n - k)) (0 + 18 * (n - k)) (MQ below (va_Qi (fun r (_ : Unit) => r = oI (s_match n F w)) (fun _ _ => True) A) ([.ref h, .int (nI w)] : List Value).toArray s 24 216 A) (F0 m 10 ls []) := by
    intro k
    induction k with
    | zero =>
      intro o2 e_k ho2 H locs hS ls hl
      have hP := keepS hP0 hAn hS
      have hl : lv_has ls 4 [(3, .int (-1)), (2, .int (oI o2)), (0, .ref h), (1, .int (nI w))] := by have h9 := hl; rw [dn_0] at h9; exact h9
      refine lv_iload_n hx hb dX2_match_10 rfl (lv_at hl 0 rfl) ?_
      refine lv_if_lt (tgt := 65) hx hb dX2_match_11 (by decide) (fun c_11 => ?_) (fun c_11 => ?_)
      · refine lv_iload_n hx hb dX2_match_65 rfl (lv_at hl 1 rfl) ?_
        refine W.widen (k := 24) (n := 216) (by omega) (by omega) ?_
        exact W.iret (v := oI o2) hx hb hr (fun t ht hW => ⟨⟨_, (), rfl, (show oI o2 = oI (s_match n F w) from by rw [MM_whole ho2]), trivial⟩, hS.F ht⟩) hS.2.2 dX2_match_66
      · exact absurd (by decide) c_11
    | succ k ih_10 =>
      intro o2 e_k ho2 H locs hS ls hl
      have hP := keepS hP0 hAn hS
      have hl : lv_has ls 4 [(3, .int (nI k)), (2, .int (oI o2)), (0, .ref h), (1, .int (nI w))] := by have h9 := hl; rw [nI_pred] at h9; exact h9
      refine lv_iload_n hx hb dX2_match_10 rfl (lv_at hl 0 rfl) ?_
      refine lv_if_lt (tgt := 65) hx hb dX2_match_11 (by decide) (fun c_11 => ?_) (fun c_11 => ?_)
      · exact absurd c_11 (nI_pos (by omega))
      · refine lv_iload_n hx hb dX2_match_14 rfl (lv_at hl 0 rfl) ?_
        refine lv_iload_n hx hb dX2_match_15 rfl (lv_at hl 3 rfl) ?_
        refine rv_icmp_eq (tgt := 59) hx hb (a := k) (b := w) (by omega) (by omega) dX2_match_16 (by decide) (fun c_16 => ?_) (fun c_16 => ?_)
        · refine lv_iinc (v := (nI k) - 1) (lv' := [(3, .int ((nI k) - 1)), (2, .int (oI o2)), (0, .ref h), (1, .int (nI w))]) hx hb dX2_match_59 hl (k := 0) rfl (i32_m1 _) (by decide) rfl (fun ls hl => ?_)
          refine lv_goto (tgt := 10) hx hb dX2_match_62 (by decide) ?_
          refine W.widen (k := 0 + 2 * (n - k)) (n := 0 + 18 * (n - k)) (by omega) (by omega) ?_
          exact ih_10 o2 (by omega) (MM_skip (Or.inl c_16) ho2) _ _ hS ls (lv_sub hl [0, 1, 2, 3] rfl)
        · refine lv_aload_n hx hb dX2_match_19 rfl (lv_at hl 2 rfl) ?_
          refine va_get (D := (dC, dI)) (ci := 2) (v := .ref al) (C := RX2) (T := TX2) (N := 4) hx hb hts hinX2 hown hK hP 0 rfl rfl 3 (by decide) (hts (.fieldLink RX2 9 "WrestleBookLaw$Sim" "all" "[[I") (by decide +kernel)) (fun _ h9 => h9) rfl dX2_match_20 ?_
          refine lv_iload_n hx hb dX2_match_23 rfl (lv_at hl 0 rfl) ?_
          refine rv_aald (k := k) hx hb hK hP 1 1 rfl rfl (show k < n by omega) (by omega) dX2_match_24 ?_
          refine lv_iconst (v := 1) hx hb dX2_match_25 (by decide) ?_
          refine rv_iald (k := 1) hx hb hK hP (2 + k) 0 (rl_get rfl (show k < n by omega)) rfl (by decide) (by decide) dX2_match_26 ?_
          refine rv_top (y := F 0 k) rfl ?_
          refine lv_aload_n hx hb dX2_match_27 rfl (lv_at hl 2 rfl) ?_
          refine va_get (D := (dC, dI)) (ci := 2) (v := .ref al) (C := RX2) (T := TX2) (N := 4) hx hb hts hinX2 hown hK hP 0 rfl rfl 3 (by decide) (hts (.fieldLink RX2 9 "WrestleBookLaw$Sim" "all" "[[I") (by decide +kernel)) (fun _ h9 => h9) rfl dX2_match_28 ?_
          refine lv_iload_n hx hb dX2_match_31 rfl (lv_at hl 3 rfl) ?_
          refine rv_aald (k := w) hx hb hK hP 1 1 rfl rfl (show w < n by omega) (by omega) dX2_match_32 ?_
          refine lv_iconst (v := 1) hx hb dX2_match_33 (by decide) ?_
          refine rv_iald (k := 1) hx hb hK hP (2 + w) 0 (rl_get rfl (show w < n by omega)) rfl (by decide) (by decide) dX2_match_34 ?_
          refine rv_top (y := F 0 w) rfl ?_
          refine lv_icmp_ne (tgt := 59) hx hb dX2_match_35 (by decide) (fun c_35 => ?_) (fun c_35 => ?_)
          · refine lv_iinc (v := (nI k) - 1) (lv' := [(3, .int ((nI k) - 1)), (2, .int (oI o2)), (0, .ref h), (1, .int (nI w))]) hx hb dX2_match_59 hl (k := 0) rfl (i32_m1 _) (by decide) rfl (fun ls hl => ?_)
            refine lv_goto (tgt := 10) hx hb dX2_match_62 (by decide) ?_
            refine W.widen (k := 0 + 2 * (n - k)) (n := 0 + 18 * (n - k)) (by omega) (by omega) ?_
            exact ih_10 o2 (by omega) (MM_skip (Or.inr c_35) ho2) _ _ hS ls (lv_sub hl [0, 1, 2, 3] rfl)
          · refine lv_iload_n hx hb dX2_match_38 rfl (lv_at hl 1 rfl) ?_
            rcases o2 with _ | b2
            · refine rv_top (y := -1) rfl ?_
              refine lv_if_lt (tgt := 57) hx hb dX2_match_39 (by decide) (fun c_39 => ?_) (fun c_39 => ?_)
              · refine lv_iload_n hx hb dX2_match_57 rfl (lv_at hl 0 rfl) ?_
                refine lv_istore_n (lv' := [(2, .int (nI k)), (3, .int (nI k)), (0, .ref h), (1, .int (nI w))]) hx hb dX2_match_58 rfl hl (by decide) rfl (fun ls hl => ?_)
                refine lv_iinc (v := (nI k) - 1) (lv' := [(3, .int ((nI k) - 1)), (2, .int (nI k)), (0, .ref h), (1, .int (nI w))]) hx hb dX2_match_59 hl (k := 1) rfl (i32_m1 _) (by decide) rfl (fun ls hl => ?_)
                refine lv_goto (tgt := 10) hx hb dX2_match_62 (by decide) ?_
                refine W.widen (k := 0 + 2 * (n - k)) (n := 0 + 18 * (n - k)) (by omega) (by omega) ?_
                exact ih_10 (some k) (by omega) (MM_first ho2 (by omega) c_16 c_35) _ _ hS ls (lv_sub hl [0, 1, 2, 3] rfl)
              · exact absurd (by decide) c_39
            · refine rv_top (y := nI b2) rfl ?_
              have i_b2 : b2 < n := ho2.1.2.1
              refine lv_if_lt (tgt := 57) hx hb dX2_match_39 (by decide) (fun c_39 => ?_) (fun c_39 => ?_)
              · exact absurd c_39 (nI_pos (by omega))
              · refine lv_aload_n hx hb dX2_match_42 rfl (lv_at hl 2 rfl) ?_
                refine lv_iload_n hx hb dX2_match_43 rfl (lv_at hl 0 rfl) ?_
                refine lv_iload_n hx hb dX2_match_44 rfl (lv_at hl 3 rfl) ?_
                refine va_calli (va_runV (As := [.int (nI k), .int (nI w)]) (rest := []) ⟨hx, hb, hml, hown, hts⟩ (c_X2_off l dC dI cI h al rw cA n F ct H.size k (show k < n by omega) w (show w < n by omega) hn hR) (cwV 2 hts gX2_match_X2_off rfl rfl rfl (by decide +kernel) ⟨Nat.le_of_ble_eq_true rfl, Nat.le_of_ble_eq_true rfl⟩) ⟨PT.blind, va_recv hK hP (ci := 2) (q0 := 0) rfl rfl, fun U hU hW => ⟨rfl, PT.go hP hK hE hS hA hU hW⟩⟩ rfl rfl hl.1 rfl (lv_room (Nat.le_of_ble_eq_true rfl)) dX2_match_45 ⟨(by show _ ≤ 24; omega), (by show _ ≤ 216; omega)⟩) hS (fun q h8 h9 => absurd h9 (Nat.not_le.mpr h8)) (fun q h9 => hA q (Nat.le_trans hS.1 h9)) (fun r u9 t9 H locs ht9 hvm9 hw9 hB9 hz9 hk9 hS => ?_)
                have hP := P_new hP hk9
                have hw9 : r = s_off F k w := hw9
                subst hw9
                refine lv_aload_n hx hb dX2_match_48 rfl (lv_at hl 2 rfl) ?_
                refine lv_iload_n hx hb dX2_match_49 rfl (lv_at hl 1 rfl) ?_
                refine lv_iload_n hx hb dX2_match_50 rfl (lv_at hl 3 rfl) ?_
                refine va_calli (va_runV (As := [.int (nI b2), .int (nI w)]) (rest := [.int (s_off F k w)]) ⟨hx, hb, hml, hown, hts⟩ (c_X2_off l dC dI cI h al rw cA n F ct H.size b2 (show b2 < n by omega) w (show w < n by omega) hn hR) (cwV 2 hts gX2_match_X2_off rfl rfl rfl (by decide +kernel) ⟨Nat.le_of_ble_eq_true rfl, Nat.le_of_ble_eq_true rfl⟩) ⟨PT.blind, va_recv hK hP (ci := 2) (q0 := 0) rfl rfl, fun U hU hW => ⟨rfl, PT.go hP hK hE hS hA hU hW⟩⟩ rfl rfl hl.1 rfl (lv_room (Nat.le_of_ble_eq_true rfl)) dX2_match_51 ⟨(by show _ ≤ 24; omega), (by show _ ≤ 216; omega)⟩) hS (fun q h8 h9 => absurd h9 (Nat.not_le.mpr h8)) (fun q h9 => hA q (Nat.le_trans hS.1 h9)) (fun r u9 t9 H locs ht9 hvm9 hw9 hB9 hz9 hk9 hS => ?_)
                have hP := P_new hP hk9
                have hw9 : r = s_off F b2 w := hw9
                subst hw9
                refine lv_icmp_gt (tgt := 59) hx hb dX2_match_54 (by decide) (fun c_54 => ?_) (fun c_54 => ?_)
                · refine lv_iinc (v := (nI k) - 1) (lv' := [(3, .int ((nI k) - 1)), (2, .int (nI b2)), (0, .ref h), (1, .int (nI w))]) hx hb dX2_match_59 hl (k := 0) rfl (i32_m1 _) (by decide) rfl (fun ls hl => ?_)
                  refine lv_goto (tgt := 10) hx hb dX2_match_62 (by decide) ?_
                  refine W.widen (k := 0 + 2 * (n - k)) (n := 0 + 18 * (n - k)) (by omega) (by omega) ?_
                  exact ih_10 (some b2) (by omega) (MM_keep ho2 c_54) _ _ hS ls (lv_sub hl [0, 1, 2, 3] rfl)
                · refine lv_iload_n hx hb dX2_match_57 rfl (lv_at hl 0 rfl) ?_
                  refine lv_istore_n (lv' := [(2, .int (nI k)), (3, .int (nI k)), (0, .ref h), (1, .int (nI w))]) hx hb dX2_match_58 rfl hl (by decide) rfl (fun ls hl => ?_)
                  refine lv_iinc (v := (nI k) - 1) (lv' := [(3, .int ((nI k) - 1)), (2, .int (nI k)), (0, .ref h), (1, .int (nI w))]) hx hb dX2_match_59 hl (k := 1) rfl (i32_m1 _) (by decide) rfl (fun ls hl => ?_)
                  refine lv_goto (tgt := 10) hx hb dX2_match_62 (by decide) ?_
                  refine W.widen (k := 0 + 2 * (n - k)) (n := 0 + 18 * (n - k)) (by omega) (by omega) ?_
                  exact ih_10 (some k) (by omega) (MM_take ho2 (by omega) c_16 c_35 c_54) _ _ hS ls (lv_sub hl [0, 1, 2, 3] rfl)
  refine W.widen (k := 0 + 2 * (n - n)) (n := 0 + 18 * (n - n)) (by omega) (by omega) ?_
  exact L_10 n none (by omega) (MM_nil F w n) _ _ hS ls (lv_sub hl [0, 1, 2, 3] rfl)
