/-! The reference: chance, foresee, mean, digest -/
theorem in_chx {k : Int32} : (s_in k 1 9 = false → (if k < 1 then 2 else if k ≤ 9 then 0 else 2 : Nat) = 2) ∧ (s_in k 1 9 = true → (if k < 1 then 2 else if k ≤ 9 then 0 else 2 : Nat) = 0) := by
  constructor
  · intro h
    by_cases c : k < 1
    · rw [if_pos c]
    · rw [if_neg c, if_neg (in_ch h c)]
  · intro h
    obtain ⟨h1, h2⟩ := s_in_t h
    rw [if_neg h1, if_pos h2]
set_option maxHeartbeats 4000000 in
set_option maxRecDepth 100000 in
theorem c_X3_chance (l : Launch) (dC : Nat → ClassId) (dI : Nat → Nat → Nat) (cI : ClassId) (h r1 : Nat) (d1 : Nat → Nat) (r2 : Nat) (d2 : Nat → Nat) (th : Int32) (n : Nat) (F : Nat → Nat → Int32) (ct : Nat → Int32) (n2 : Nat) (G : Nat → Nat → Int32) (c2 : Nat → Int32) (sz : Nat) (va : Int32) (vb : Int32) (vk : Int32) (hn : n ≤ 12) (hR : okR n F) : Met l yX3_chance wsX3_chance ({ frames := 2, cells := 1, slots := 10, locals := 43 } : Room) (va_Pc [.ref h, .int va, .int vb, .int vk] (fun U => PW dC dI cI (wM h r1 d1 r2 d2 cI th n F ct n2 G c2) sz U)) (va_Qi (fun r (_ : Unit) => r = mo (x_chance n va vb vk) (s_chR (s_exp F (cl va) (cl vb)) (cl vk) (fun _ => 0) (cl vk)) 0) (BW dC dI (va_A (wM h r1 d1 r2 d2 cI th n F ct n2 G c2) sz) (wM h r1 d1 r2 d2 cI (nI (x_chance n va vb vk)) n F ct n2 G c2)) (va_A (wM h r1 d1 r2 d2 cI th n F ct n2 G c2) sz)) 1 10 (va_A (wM h r1 d1 r2 d2 cI th n F ct n2 G c2) sz) := by
  refine Met.ofW (cc := cX3_chance) (maxL := 8) (ret := (some .int)) (by decide) rfl ?_
  intro p e s m args below meth c s₁ B hml hv
  obtain ⟨rfl, hsz, hP, hK, hD0, hE⟩ := hv
  have hx := B.exec
  have hb := B.bytes
  have hr := B.returns
  have hts := atoms_spec (ws := wsX3_chance) B.pre
  have hown : s.vm.findClass RX3 = some m.cls := findClass_of_methodNamed B.named
  have hlocks := B.notSynchronized
  subst hsz
  have hD := hD0.self (sz := s.heap.size)
  generalize hAe : va_A (wM h r1 d1 r2 d2 cI th n F ct n2 G c2) s.heap.size = A at hD hE ⊢
  have hA : ∀ q : Nat, s.heap.size ≤ q → A q := fun q h9 => by rw [← hAe]; exact Or.inr h9
  have hS : va_S A s.heap s.heap [] := va_S.rf
  have hinX3 : ∀ w ∈ wsX30, w ∈ wsX3_chance := by decide +kernel
  have hl := lv_entry ([.ref h, .int va, .int vb, .int vk]) (n := 8) (Nat.le_of_ble_eq_true rfl)
  rw [lg_entry_eq]
  generalize (lg_sl ([.ref h, .int va, .int vb, .int vk]) ++ List.replicate (8 - (lg_sl ([.ref h, .int va, .int vb, .int vk])).length) Slot.unset).toArray = ls at hl ⊢
  have hl : lv_has ls 8 [(0, .ref h), (1, .int va), (2, .int vb), (3, .int vk)] := hl
  refine lv_aload_n hx hb dX3_chance_0 rfl (lv_at hl 0 rfl) ?_
  refine lv_iconst (v := 0) hx hb dX3_chance_1 (by decide) ?_
  refine va_put (D := (dC, dI)) (ci := 3) (v := .int 0) (ty := .int) (C := RX3) (T := TX3) (N := 3) hx hb hts hinX3 tyX3 tyX3_ok nmX3 hown hK hP hD hS 0 rfl rfl 0 (by decide) (hts (.fieldLink RX3 19 "WrestleBookModel" "thrown" "I") (by decide +kernel)) (fun _ h9 => h9) rfl (by decide +kernel) rfl rfl (Nat.le_of_ble_eq_true rfl) dX3_chance_2 (fun H locs hP hD hS => ?_)
  have hP : va_P (dC, dI) vwCl (wM h r1 d1 r2 d2 cI 0 n F ct n2 G c2) H := hP
  have hD : va_D A (wM h r1 d1 r2 d2 cI 0 n F ct n2 G c2) := hD
  refine lv_aload_n hx hb dX3_chance_5 rfl (lv_at hl 0 rfl) ?_
  refine lv_iload_n hx hb dX3_chance_6 rfl (lv_at hl 1 rfl) ?_
  refine vp_callSi (W.runV (As := [.int va]) (rest := []) ⟨hx, hb, hml, hown, hts⟩ (c_X3_isWrestler l dC dI cI h r1 d1 r2 d2 0 n F ct n2 G c2 va hn) (cwV 1 hts gX3_chance_X3_isWrestler rfl rfl rfl (by decide +kernel) ⟨Nat.le_of_ble_eq_true rfl, Nat.le_of_ble_eq_true rfl⟩) ⟨PR.blind, va_recv hK hP (ci := 3) (q0 := 0) rfl rfl, fun U hU hW => ⟨rfl, PR.go hP hK hE hS hU hW⟩⟩ rfl rfl hl.1 rfl (lv_room (Nat.le_of_ble_eq_true rfl)) dX3_chance_7 ⟨Nat.le_of_ble_eq_true rfl, Nat.le_of_ble_eq_true rfl⟩) (fun r hr0 => ?_)
  subst hr0
  refine rv_ifb_eq (tgt := 21) hx hb dX3_chance_10 (by decide) (fun c_10 => ?_) (fun c_10 => ?_)
  · refine lv_aload_n hx hb dX3_chance_21 rfl (lv_at hl 0 rfl) ?_
    refine lv_iconst (v := 1) hx hb dX3_chance_22 (by decide) ?_
    have hPc := hP.sub (ws' := (wM h r1 d1 r2 d2 cI 0 n F ct n2 G c2)) [0, 1, 2, 3, 4, 5, 6, 7, 8, 9, 10, 11, 12, 13, 14, 15, 16] rfl
    have hDc := hD.sub (ws' := (wM h r1 d1 r2 d2 cI 0 n F ct n2 G c2)) [0, 1, 2, 3, 4, 5, 6, 7, 8, 9, 10, 11, 12, 13, 14, 15, 16] (by decide) rfl
    have hFc := va_free (wc := (wM h r1 d1 r2 d2 cI 0 n F ct n2 G c2)) hD hS hA [0, 1, 2, 3, 4, 5, 6, 7, 8, 9, 10, 11, 12, 13, 14, 15, 16] rfl
    refine va_calli (va_runV (As := [.int 1]) (rest := []) ⟨hx, hb, hml, hown, hts⟩ (c_X3_no l dC dI cI h r1 d1 r2 d2 0 n F ct n2 G c2 H.size 1) (cwV 1 hts gX3_chance_X3_no rfl rfl rfl (by decide +kernel) ⟨Nat.le_of_ble_eq_true rfl, Nat.le_of_ble_eq_true rfl⟩) ⟨PW.blind, va_recv hK hP (ci := 3) (q0 := 0) rfl rfl, fun U hU hW => ⟨rfl, PW.go hPc hK hDc hE hS hFc hU hW⟩⟩ rfl rfl hl.1 rfl (lv_room (Nat.le_of_ble_eq_true rfl)) dX3_chance_23 ⟨Nat.le_of_ble_eq_true rfl, Nat.le_of_ble_eq_true rfl⟩) hS (fun q _ h9 => hFc q h9) hFc (fun r u9 t9 H1 locs ht9 hvm9 hw9 hB9 hz9 hk9 hS => ?_)
    obtain ⟨hP9, hD9⟩ := hB9
    rw [ht9] at hP9
    obtain ⟨hP, hD⟩ := va_join (wr := []) (w1 := wM h r1 d1 r2 d2 cI 1 n F ct n2 G c2) hP hD [0, 1, 2, 3, 4, 5, 6, 7, 8, 9, 10, 11, 12, 13, 14, 15, 16] [] rfl rfl (by decide) (by decide) hk9 hFc hP9 hD9
    generalize H1 = H at hP hS ⊢
    have hP : va_P (dC, dI) vwCl (wM h r1 d1 r2 d2 cI 1 n F ct n2 G c2) H := hP
    have hD : va_D A (wM h r1 d1 r2 d2 cI 1 n F ct n2 G c2) := hD
    have hw9 : r = 0 := hw9
    subst hw9
    have hcode : x_chance n va vb vk = 1 := by simp [x_chance, c_10]
    refine W.widen (k := 1) (n := 10) (by omega) (by omega) ?_
    have hP8 : va_P (dC, dI) vwCl (wM h r1 d1 r2 d2 cI (nI (x_chance n va vb vk)) n F ct n2 G c2) H := by rw [hcode]; exact hP
    have hD8 : va_D A (wM h r1 d1 r2 d2 cI (nI (x_chance n va vb vk)) n F ct n2 G c2) := by rw [hcode]; exact hD
    exact W.iret (v := 0) hx hb hr (fun t ht hW => ⟨⟨_, (), rfl, (show 0 = mo (x_chance n va vb vk) (s_chR (s_exp F (cl va) (cl vb)) (cl vk) (fun _ => 0) (cl vk)) 0 from by rw [hcode]; rfl), by rw [ht]; exact hP8, hD8⟩, hS.F ht⟩) hS.2.2 dX3_chance_26
  · obtain ⟨a, i_a, rfl⟩ := s_has_nat hn c_10
    have h_a := s_has_nI hn i_a
    refine lv_aload_n hx hb dX3_chance_13 rfl (lv_at hl 0 rfl) ?_
    refine lv_iload_n hx hb dX3_chance_14 rfl (lv_at hl 2 rfl) ?_
    refine vp_callSi (W.runV (As := [.int vb]) (rest := []) ⟨hx, hb, hml, hown, hts⟩ (c_X3_isWrestler l dC dI cI h r1 d1 r2 d2 0 n F ct n2 G c2 vb hn) (cwV 1 hts gX3_chance_X3_isWrestler rfl rfl rfl (by decide +kernel) ⟨Nat.le_of_ble_eq_true rfl, Nat.le_of_ble_eq_true rfl⟩) ⟨PR.blind, va_recv hK hP (ci := 3) (q0 := 0) rfl rfl, fun U hU hW => ⟨rfl, PR.go hP hK hE hS hU hW⟩⟩ rfl rfl hl.1 rfl (lv_room (Nat.le_of_ble_eq_true rfl)) dX3_chance_15 ⟨Nat.le_of_ble_eq_true rfl, Nat.le_of_ble_eq_true rfl⟩) (fun r hr0 => ?_)
    subst hr0
    refine rv_ifb_ne (tgt := 27) hx hb dX3_chance_18 (by decide) (fun c_18 => ?_) (fun c_18 => ?_)
    · obtain ⟨b, i_b, rfl⟩ := s_has_nat hn c_18
      have h_b := s_has_nI hn i_b
      refine lv_iload_n hx hb dX3_chance_27 rfl (lv_at hl 1 rfl) ?_
      refine lv_iload_n hx hb dX3_chance_28 rfl (lv_at hl 2 rfl) ?_
      refine lv_icmp_eq (tgt := 42) hx hb dX3_chance_29 (by decide) (fun c_29 => ?_) (fun c_29 => ?_)
      · refine lv_aload_n hx hb dX3_chance_42 rfl (lv_at hl 0 rfl) ?_
        refine lv_iconst (v := 2) hx hb dX3_chance_43 (by decide) ?_
        have hPc := hP.sub (ws' := (wM h r1 d1 r2 d2 cI 0 n F ct n2 G c2)) [0, 1, 2, 3, 4, 5, 6, 7, 8, 9, 10, 11, 12, 13, 14, 15, 16] rfl
        have hDc := hD.sub (ws' := (wM h r1 d1 r2 d2 cI 0 n F ct n2 G c2)) [0, 1, 2, 3, 4, 5, 6, 7, 8, 9, 10, 11, 12, 13, 14, 15, 16] (by decide) rfl
        have hFc := va_free (wc := (wM h r1 d1 r2 d2 cI 0 n F ct n2 G c2)) hD hS hA [0, 1, 2, 3, 4, 5, 6, 7, 8, 9, 10, 11, 12, 13, 14, 15, 16] rfl
        refine va_calli (va_runV (As := [.int 2]) (rest := []) ⟨hx, hb, hml, hown, hts⟩ (c_X3_no l dC dI cI h r1 d1 r2 d2 0 n F ct n2 G c2 H.size 2) (cwV 1 hts gX3_chance_X3_no rfl rfl rfl (by decide +kernel) ⟨Nat.le_of_ble_eq_true rfl, Nat.le_of_ble_eq_true rfl⟩) ⟨PW.blind, va_recv hK hP (ci := 3) (q0 := 0) rfl rfl, fun U hU hW => ⟨rfl, PW.go hPc hK hDc hE hS hFc hU hW⟩⟩ rfl rfl hl.1 rfl (lv_room (Nat.le_of_ble_eq_true rfl)) dX3_chance_44 ⟨Nat.le_of_ble_eq_true rfl, Nat.le_of_ble_eq_true rfl⟩) hS (fun q _ h9 => hFc q h9) hFc (fun r u9 t9 H1 locs ht9 hvm9 hw9 hB9 hz9 hk9 hS => ?_)
        obtain ⟨hP9, hD9⟩ := hB9
        rw [ht9] at hP9
        obtain ⟨hP, hD⟩ := va_join (wr := []) (w1 := wM h r1 d1 r2 d2 cI 2 n F ct n2 G c2) hP hD [0, 1, 2, 3, 4, 5, 6, 7, 8, 9, 10, 11, 12, 13, 14, 15, 16] [] rfl rfl (by decide) (by decide) hk9 hFc hP9 hD9
        generalize H1 = H at hP hS ⊢
        have hP : va_P (dC, dI) vwCl (wM h r1 d1 r2 d2 cI 2 n F ct n2 G c2) H := hP
        have hD : va_D A (wM h r1 d1 r2 d2 cI 2 n F ct n2 G c2) := hD
        have hw9 : r = 0 := hw9
        subst hw9
        have hcode : x_chance n (nI a) (nI b) vk = 2 := by simp [x_chance, h_a, h_b, c_29]
        refine W.widen (k := 1) (n := 10) (by omega) (by omega) ?_
        have hP8 : va_P (dC, dI) vwCl (wM h r1 d1 r2 d2 cI (nI (x_chance n (nI a) (nI b) vk)) n F ct n2 G c2) H := by rw [hcode]; exact hP
        have hD8 : va_D A (wM h r1 d1 r2 d2 cI (nI (x_chance n (nI a) (nI b) vk)) n F ct n2 G c2) := by rw [hcode]; exact hD
        exact W.iret (v := 0) hx hb hr (fun t ht hW => ⟨⟨_, (), rfl, (show 0 = mo (x_chance n (nI a) (nI b) vk) (s_chR (s_exp F (cl (nI a)) (cl (nI b))) (cl vk) (fun _ => 0) (cl vk)) 0 from by rw [hcode]; rfl), by rw [ht]; exact hP8, hD8⟩, hS.F ht⟩) hS.2.2 dX3_chance_47
      · refine lv_iload_n hx hb dX3_chance_32 rfl (lv_at hl 3 rfl) ?_
        refine lv_iconst (v := 1) hx hb dX3_chance_33 (by decide) ?_
        refine lv_bipush (v := 9) hx hb dX3_chance_34 (by decide) ?_
        refine vp_callSi (W.runS (As := [.int vk, .int 1, .int 9]) (rest := []) ⟨hx, hb, hml, hown, hts⟩ (c_X3_isIn l dC dI cI vk 1 9) (va_cwS 3 hts gX3_chance_X3_isIn rfl rfl rfl (by decide +kernel) ⟨Nat.le_of_ble_eq_true rfl, Nat.le_of_ble_eq_true rfl⟩) ⟨PR.blind, fun U hU hW => ⟨rfl, PR.go (vaP_nil) hK hE hS hU hW⟩⟩ rfl rfl hl.1 rfl (lv_room (Nat.le_of_ble_eq_true rfl)) dX3_chance_36 ⟨Nat.le_of_ble_eq_true rfl, Nat.le_of_ble_eq_true rfl⟩) (fun r hr0 => ?_)
        subst hr0
        refine rv_ifb_ne (tgt := 48) hx hb dX3_chance_39 (by decide) (fun c_39 => ?_) (fun c_39 => ?_)
        · have hok : x_chance n (nI a) (nI b) vk = 0 := by unfold x_chance; rw [if_pos h_a, if_pos h_b, if_neg c_29]; exact in_chx.2 c_39
          obtain ⟨k, hk1, hk, rfl⟩ := rngI (u := 1) (v := 9) (s_in_t c_39).1 (s_in_t c_39).2 rfl rfl (by decide) (by decide)
          refine lv_aload_n hx hb dX3_chance_48 rfl (lv_at hl 0 rfl) ?_
          refine va_get (D := (dC, dI)) (ci := 3) (v := .ref r1) (C := RX3) (T := TX3) (N := 3) hx hb hts hinX3 hown hK hP 0 rfl rfl 1 (by decide) (hts (.fieldLink RX3 10 "WrestleBookModel" "s" "LWrestleBookModel$State;") (by decide +kernel)) (fun _ h9 => h9) rfl dX3_chance_49 ?_
          refine lv_iload_n hx hb dX3_chance_52 rfl (lv_at hl 1 rfl) ?_
          refine lv_iload_n hx hb dX3_chance_53 rfl (lv_at hl 2 rfl) ?_
          refine vp_callSi (W.runV (As := [.int (nI a), .int (nI b)]) (rest := []) ⟨hx, hb, hml, hown, hts⟩ (c_X2_expected l dC dI cI r1 d1 n F ct a (show a < n by omega) b (show b < n by omega) hn hR) (cwV 2 hts gX3_chance_X2_expected rfl rfl rfl (by decide +kernel) ⟨Nat.le_of_ble_eq_true rfl, Nat.le_of_ble_eq_true rfl⟩) ⟨PR.blind, va_recv hK hP (ci := 2) (q0 := 1) rfl rfl, fun U hU hW => ⟨rfl, PR.go (hP.sub (ws' := (wS r1 d1 cI n F ct)) [1, 2, 3, 4, 5, 6, 7, 8] rfl) hK hE hS hU hW⟩⟩ rfl rfl hl.1 rfl (lv_room (Nat.le_of_ble_eq_true rfl)) dX3_chance_54 ⟨Nat.le_of_ble_eq_true rfl, Nat.le_of_ble_eq_true rfl⟩) (fun r hr0 => ?_)
          subst hr0
          refine lv_istore (lv' := [(4, .int (s_exp F a b)), (0, .ref h), (1, .int (nI a)), (2, .int (nI b)), (3, .int (nI k))]) hx hb dX3_chance_57 hl (by decide) rfl (fun ls hl => ?_)
          refine lv_iload_n hx hb dX3_chance_59 rfl (lv_at hl 4 rfl) ?_
          refine lv_iconst (v := 1) hx hb dX3_chance_60 (by decide) ?_
          refine lv_iadd hx hb dX3_chance_61 ?_
          refine rv_top (y := nI (k + 1)) (nI_1 k) ?_
          refine rv_newa (N' := (k + 1)) hx hb (hts (.arrayClass .int) (by decide +kernel)) hK hP hD hS hA (nI_pos (by omega)) (nI_clamp (by omega)) (by omega) (Nat.le_of_ble_eq_true rfl) (show _ + (k + 1) ≤ 10 by omega) dX3_chance_62 (fun q62 H hP hD hS => ?_)
          have hP : va_P (dC, dI) vwCl (wM h r1 d1 r2 d2 cI 0 n F ct n2 G c2 ++ [(q62, .inl (cI, k + 1, .inl (fun _ => 0)))]) H := hP
          have hD : va_D A (wM h r1 d1 r2 d2 cI 0 n F ct n2 G c2 ++ [(q62, .inl (cI, k + 1, .inl (fun _ => 0)))]) := hD
          refine lv_astore (lv' := [(5, .ref q62), (4, .int (s_exp F a b)), (0, .ref h), (1, .int (nI a)), (2, .int (nI b)), (3, .int (nI k))]) hx hb dX3_chance_64 hl (by decide) rfl (fun ls hl => ?_)
          refine lv_iconst (v := 0) hx hb dX3_chance_66 (by decide) ?_
          refine lv_istore (lv' := [(6, .int 0), (5, .ref q62), (4, .int (s_exp F a b)), (0, .ref h), (1, .int (nI a)), (2, .int (nI b)), (3, .int (nI k))]) hx hb dX3_chance_67 hl (by decide) rfl (fun ls hl => ?_)
          have L_69 : ∀ (k1 i1 : Nat) (R1 : Nat → Int32), i1 + k1 = k + 1 → R1 = s_fillU (fun _ => 0) i1 → ∀ (H : Heap) (locs : List Loc), va_P (dC, dI) vwCl (wM h r1 d1 r2 d2 cI 0 n F ct n2 G c2 ++ [(q62, .inl (cI, k + 1, .inl R1))]) H → va_D A (wM h r1 d1 r2 d2 cI 0 n F ct n2 G c2 ++ [(q62, .inl (cI, k + 1, .inl R1))]) → va_S A s.heap H locs → ∀ (ls : Array Slot), lv_has ls 8 [(6, .int (nI i1)), (5, .ref q62), (4, .int (s_exp F a b)), (0, .ref h), (1, .int (nI a)), (2, .int (nI b)), (3, .int (nI k))] → W p l e (headSpec wsX3_chance ({ frames := 2, cells := 1, slots := 10, locals := 43 } : Room)).room s m ([.ref h, .int (nI a), .int (nI b), .int (nI k)] : List Value).toArray below meth c H locs (0 + 1) (0 + (k + 1)) (MQ below (va_Qi (fun r (_ : Unit) => r = mo (x_chance n (nI a) (nI b) (nI k)) (s_chR (s_exp F (cl (nI a)) (cl (nI b))) (cl (nI k)) (fun _ => 0) (cl (nI k))) 0) (BW dC dI A (wM h r1 d1 r2 d2 cI (nI (x_chance n (nI a) (nI b) (nI k))) n F ct n2 G c2)) A) ([.ref h, .int (nI a), .int (nI b), .int (nI k)] : List Value).toArray s 1 10 A) (F0 m 69 ls []) := by
            intro k1
            induction k1 with
            | zero =>
              intro i1 R1 e_i1 hR1 H locs hP hD hS ls hl
              refine lv_iload hx hb dX3_chance_69 (lv_at hl 0 rfl) ?_
              refine lv_iload_n hx hb dX3_chance_71 rfl (lv_at hl 6 rfl) ?_
              refine rv_icmp_gt (tgt := 88) hx hb (a := i1) (b := k) (by omega) (by omega) dX3_chance_72 (by decide) (fun c_72 => ?_) (fun c_72 => ?_)
              · refine lv_iconst (v := 1) hx hb dX3_chance_88 (by decide) ?_
                refine lv_istore (lv' := [(6, .int 1), (5, .ref q62), (4, .int (s_exp F a b)), (0, .ref h), (1, .int (nI a)), (2, .int (nI b)), (3, .int (nI k))]) hx hb dX3_chance_89 hl (by decide) rfl (fun ls hl => ?_)
                have L_91 : ∀ (k2 i2 : Nat) (R2 : Nat → Int32), i2 + k2 = k + 1 → 1 ≤ i2 → R2 = s_chU (s_exp F a b) k R1 i2 → ∀ (H : Heap) (locs : List Loc), va_P (dC, dI) vwCl (wM h r1 d1 r2 d2 cI 0 n F ct n2 G c2 ++ [(q62, .inl (cI, k + 1, .inl R2))]) H → va_D A (wM h r1 d1 r2 d2 cI 0 n F ct n2 G c2 ++ [(q62, .inl (cI, k + 1, .inl R2))]) → va_S A s.heap H locs → ∀ (ls : Array Slot), lv_has ls 8 [(6, .int (nI i2)), (5, .ref q62), (4, .int (s_exp F a b)), (0, .ref h), (1, .int (nI a)), (2, .int (nI b)), (3, .int (nI k))] → W p l e (headSpec wsX3_chance ({ frames := 2, cells := 1, slots := 10, locals := 43 } : Room)).room s m ([.ref h, .int (nI a), .int (nI b), .int (nI k)] : List Value).toArray below meth c H locs (0 + 1) (0 + (k + 1)) (MQ below (va_Qi (fun r (_ : Unit) => r = mo (x_chance n (nI a) (nI b) (nI k)) (s_chR (s_exp F (cl (nI a)) (cl (nI b))) (cl (nI k)) (fun _ => 0) (cl (nI k))) 0) (BW dC dI A (wM h r1 d1 r2 d2 cI (nI (x_chance n (nI a) (nI b) (nI k))) n F ct n2 G c2)) A) ([.ref h, .int (nI a), .int (nI b), .int (nI k)] : List Value).toArray s 1 10 A) (F0 m 91 ls []) := by
                  intro k2
                  induction k2 with
                  | zero =>
                    intro i2 R2 e_i2 h12 hR2 H locs hP hD hS ls hl
                    refine lv_iload hx hb dX3_chance_91 (lv_at hl 0 rfl) ?_
                    refine lv_iload_n hx hb dX3_chance_93 rfl (lv_at hl 6 rfl) ?_
                    refine rv_icmp_gt (tgt := 155) hx hb (a := i2) (b := k) (by omega) (by omega) dX3_chance_94 (by decide) (fun c_94 => ?_) (fun c_94 => ?_)
                    · refine lv_aload hx hb dX3_chance_155 (lv_at hl 1 rfl) ?_
                      refine lv_iload_n hx hb dX3_chance_157 rfl (lv_at hl 6 rfl) ?_
                      refine rv_iald (k := k) hx hb hK hP 17 0 rfl rfl (show k < k + 1 by omega) (by omega) dX3_chance_158 ?_
                      have hcode : x_chance n (nI a) (nI b) (nI k) = 0 := by exact hok
                      refine W.widen (k := 1) (n := 10) (by omega) (by omega) ?_
                      have hP8 : va_P (dC, dI) vwCl (wM h r1 d1 r2 d2 cI (nI (x_chance n (nI a) (nI b) (nI k))) n F ct n2 G c2) H := by rw [hcode]; exact hP.sub [0, 1, 2, 3, 4, 5, 6, 7, 8, 9, 10, 11, 12, 13, 14, 15, 16] rfl
                      have hD8 : va_D A (wM h r1 d1 r2 d2 cI (nI (x_chance n (nI a) (nI b) (nI k))) n F ct n2 G c2) := by rw [hcode]; exact hD.sub [0, 1, 2, 3, 4, 5, 6, 7, 8, 9, 10, 11, 12, 13, 14, 15, 16] (by decide) rfl
                      exact W.iret (v := R2 k) hx hb hr (fun t ht hW => ⟨⟨_, (), rfl, (show R2 k = mo (x_chance n (nI a) (nI b) (nI k)) (s_chR (s_exp F (cl (nI a)) (cl (nI b))) (cl (nI k)) (fun _ => 0) (cl (nI k))) 0 from by rw [hcode, mo_0]; rw [cl_nI (show a < 2 ^ 31 by omega), cl_nI (show b < 2 ^ 31 by omega), cl_nI (show k < 2 ^ 31 by omega)]; rw [show s_chR (s_exp F a b) k (fun _ => 0) = R2 from by rw [hR2, hR1, show i2 = k + 1 by omega, show i1 = k + 1 by omega]; rfl]), by rw [ht]; exact hP8, hD8⟩, hS.F ht⟩) hS.2.2 dX3_chance_159
                    · exact absurd c_94 (by omega)
                  | succ k2 ih_91 =>
                    intro i2 R2 e_i2 h12 hR2 H locs hP hD hS ls hl
                    refine lv_iload hx hb dX3_chance_91 (lv_at hl 0 rfl) ?_
                    refine lv_iload_n hx hb dX3_chance_93 rfl (lv_at hl 6 rfl) ?_
                    refine rv_icmp_gt (tgt := 155) hx hb (a := i2) (b := k) (by omega) (by omega) dX3_chance_94 (by decide) (fun c_94 => ?_) (fun c_94 => ?_)
                    · exact absurd c_94 (by omega)
                    · refine lv_aload hx hb dX3_chance_97 (lv_at hl 1 rfl) ?_
                      refine lv_iconst (v := 0) hx hb dX3_chance_99 (by decide) ?_
                      refine lv_iconst (v := 0) hx hb dX3_chance_100 (by decide) ?_
                      refine rv_iast (k := 0) hx hb hK hP hD hS 17 0 rfl rfl (show 0 < k + 1 by omega) (by omega) dX3_chance_101 (fun H locs hP hD hS => ?_)
                      have hP : va_P (dC, dI) vwCl (wM h r1 d1 r2 d2 cI 0 n F ct n2 G c2 ++ [(q62, .inl (cI, k + 1, .inl (upd R2 0 0)))]) H := hP
                      have hD : va_D A (wM h r1 d1 r2 d2 cI 0 n F ct n2 G c2 ++ [(q62, .inl (cI, k + 1, .inl (upd R2 0 0)))]) := hD
                      refine lv_iconst (v := 1) hx hb dX3_chance_102 (by decide) ?_
                      refine lv_istore (lv' := [(7, .int 1), (6, .int (nI i2)), (5, .ref q62), (4, .int (s_exp F a b)), (0, .ref h), (1, .int (nI a)), (2, .int (nI b)), (3, .int (nI k))]) hx hb dX3_chance_103 hl (by decide) rfl (fun ls hl => ?_)
                      have L_105 : ∀ (k3 i3 : Nat) (R3 : Nat → Int32), i3 + k3 = k + 1 → 1 ≤ i3 → R3 = s_chI (s_exp F a b) (upd R2 0 0) i3 → ∀ (H : Heap) (locs : List Loc), va_P (dC, dI) vwCl (wM h r1 d1 r2 d2 cI 0 n F ct n2 G c2 ++ [(q62, .inl (cI, k + 1, .inl R3))]) H → va_D A (wM h r1 d1 r2 d2 cI 0 n F ct n2 G c2 ++ [(q62, .inl (cI, k + 1, .inl R3))]) → va_S A s.heap H locs → ∀ (ls : Array Slot), lv_has ls 8 [(7, .int (nI i3)), (6, .int (nI i2)), (5, .ref q62), (4, .int (s_exp F a b)), (0, .ref h), (1, .int (nI a)), (2, .int (nI b)), (3, .int (nI k))] → W p l e (headSpec wsX3_chance ({ frames := 2, cells := 1, slots := 10, locals := 43 } : Room)).room s m ([.ref h, .int (nI a), .int (nI b), .int (nI k)] : List Value).toArray below meth c H locs (0 + 1) (0 + (k + 1)) (MQ below (va_Qi (fun r (_ : Unit) => r = mo (x_chance n (nI a) (nI b) (nI k)) (s_chR (s_exp F (cl (nI a)) (cl (nI b))) (cl (nI k)) (fun _ => 0) (cl (nI k))) 0) (BW dC dI A (wM h r1 d1 r2 d2 cI (nI (x_chance n (nI a) (nI b) (nI k))) n F ct n2 G c2)) A) ([.ref h, .int (nI a), .int (nI b), .int (nI k)] : List Value).toArray s 1 10 A) (F0 m 105 ls []) := by
                        intro k3
                        induction k3 with
                        | zero =>
                          intro i3 R3 e_i3 h13 hR3 H locs hP hD hS ls hl
                          refine lv_iload hx hb dX3_chance_105 (lv_at hl 0 rfl) ?_
                          refine lv_iload_n hx hb dX3_chance_107 rfl (lv_at hl 7 rfl) ?_
                          refine rv_icmp_gt (tgt := 149) hx hb (a := i3) (b := k) (by omega) (by omega) dX3_chance_108 (by decide) (fun c_108 => ?_) (fun c_108 => ?_)
                          · refine lv_iinc (v := nI (i2 + 1)) (lv' := [(6, .int (nI (i2 + 1))), (7, .int (nI i3)), (5, .ref q62), (4, .int (s_exp F a b)), (0, .ref h), (1, .int (nI a)), (2, .int (nI b)), (3, .int (nI k))]) hx hb dX3_chance_149 hl (k := 1) rfl (nI_add i2 1) (by decide) rfl (fun ls hl => ?_)
                            refine lv_goto (tgt := 91) hx hb dX3_chance_152 (by decide) ?_
                            exact ih_91 (i2 + 1) R3 (by omega) (by omega) (by rw [hR3, show i3 = k + 1 by omega, hR2]; exact (if_pos h12).symm) _ _ hP hD hS ls (lv_sub hl [0, 2, 3, 4, 5, 6, 7] rfl)
                          · exact absurd c_108 (by omega)
                        | succ k3 ih_105 =>
                          intro i3 R3 e_i3 h13 hR3 H locs hP hD hS ls hl
                          refine lv_iload hx hb dX3_chance_105 (lv_at hl 0 rfl) ?_
                          refine lv_iload_n hx hb dX3_chance_107 rfl (lv_at hl 7 rfl) ?_
                          refine rv_icmp_gt (tgt := 149) hx hb (a := i3) (b := k) (by omega) (by omega) dX3_chance_108 (by decide) (fun c_108 => ?_) (fun c_108 => ?_)
                          · exact absurd c_108 (by omega)
                          · refine lv_aload hx hb dX3_chance_111 (lv_at hl 2 rfl) ?_
                            refine lv_iload hx hb dX3_chance_113 (lv_at hl 0 rfl) ?_
                            refine lv_iload hx hb dX3_chance_115 (lv_at hl 3 rfl) ?_
                            refine lv_aload hx hb dX3_chance_117 (lv_at hl 2 rfl) ?_
                            refine lv_iload hx hb dX3_chance_119 (lv_at hl 0 rfl) ?_
                            refine rv_iald (k := i3) hx hb hK hP 17 0 rfl rfl (show i3 < k + 1 by omega) (by omega) dX3_chance_121 ?_
                            refine lv_imul hx hb dX3_chance_122 ?_
                            refine lv_sipush (v := 1000) hx hb dX3_chance_123 (by decide) ?_
                            refine lv_iload hx hb dX3_chance_126 (lv_at hl 3 rfl) ?_
                            refine lv_isub hx hb dX3_chance_128 ?_
                            refine lv_aload hx hb dX3_chance_129 (lv_at hl 2 rfl) ?_
                            refine lv_iload hx hb dX3_chance_131 (lv_at hl 0 rfl) ?_
                            refine lv_iconst (v := 1) hx hb dX3_chance_133 (by decide) ?_
                            refine lv_isub hx hb dX3_chance_134 ?_
                            refine rv_top (y := nI (i3 - 1)) (pk_sub (b := 1) h13) ?_
                            refine rv_iald (k := (i3 - 1)) hx hb hK hP 17 0 rfl rfl (show i3 - 1 < k + 1 by omega) (by omega) dX3_chance_135 ?_
                            refine lv_imul hx hb dX3_chance_136 ?_
                            refine lv_iadd hx hb dX3_chance_137 ?_
                            refine lv_sipush (v := 1000) hx hb dX3_chance_138 (by decide) ?_
                            refine lv_idiv hx hb dX3_chance_141 (by decide) ?_
                            refine rv_iast (k := i3) hx hb hK hP hD hS 17 0 rfl rfl (show i3 < k + 1 by omega) (by omega) dX3_chance_142 (fun H locs hP hD hS => ?_)
                            have hP : va_P (dC, dI) vwCl (wM h r1 d1 r2 d2 cI 0 n F ct n2 G c2 ++ [(q62, .inl (cI, k + 1, .inl (upd R3 i3 ((((s_exp F a b) * (R3 i3)) + ((1000 - (s_exp F a b)) * (R3 (i3 - 1)))) / 1000))))]) H := hP
                            have hD : va_D A (wM h r1 d1 r2 d2 cI 0 n F ct n2 G c2 ++ [(q62, .inl (cI, k + 1, .inl (upd R3 i3 ((((s_exp F a b) * (R3 i3)) + ((1000 - (s_exp F a b)) * (R3 (i3 - 1)))) / 1000))))]) := hD
                            refine lv_iinc (v := nI (i3 + 1)) (lv' := [(7, .int (nI (i3 + 1))), (6, .int (nI i2)), (5, .ref q62), (4, .int (s_exp F a b)), (0, .ref h), (1, .int (nI a)), (2, .int (nI b)), (3, .int (nI k))]) hx hb dX3_chance_143 hl (k := 0) rfl (nI_add i3 1) (by decide) rfl (fun ls hl => ?_)
                            refine lv_goto (tgt := 105) hx hb dX3_chance_146 (by decide) ?_
                            exact ih_105 (i3 + 1) (upd R3 i3 ((((s_exp F a b) * (R3 i3)) + ((1000 - (s_exp F a b)) * (R3 (i3 - 1)))) / 1000)) (by omega) (by omega) (by rw [hR3]; exact (if_pos h13).symm) _ _ hP hD hS ls (lv_sub hl [0, 1, 2, 3, 4, 5, 6, 7] rfl)
                      exact L_105 k 1 (upd R2 0 0) (by omega) (Nat.le_refl 1) rfl _ _ hP hD hS ls (lv_sub hl [0, 1, 2, 3, 4, 5, 6, 7] rfl)
                exact L_91 k 1 R1 (by omega) (Nat.le_refl 1) rfl _ _ hP hD hS ls (lv_sub hl [0, 1, 2, 3, 4, 5, 6] rfl)
              · exact absurd c_72 (by omega)
            | succ k1 ih_69 =>
              intro i1 R1 e_i1 hR1 H locs hP hD hS ls hl
              refine lv_iload hx hb dX3_chance_69 (lv_at hl 0 rfl) ?_
              refine lv_iload_n hx hb dX3_chance_71 rfl (lv_at hl 6 rfl) ?_
              refine rv_icmp_gt (tgt := 88) hx hb (a := i1) (b := k) (by omega) (by omega) dX3_chance_72 (by decide) (fun c_72 => ?_) (fun c_72 => ?_)
              · exact absurd c_72 (by omega)
              · refine lv_aload hx hb dX3_chance_75 (lv_at hl 1 rfl) ?_
                refine lv_iload hx hb dX3_chance_77 (lv_at hl 0 rfl) ?_
                refine lv_ldc hx hb hown (hts (.constant RX3 113 1000000) (by decide +kernel)) dX3_chance_79 ?_
                refine rv_iast (k := i1) hx hb hK hP hD hS 17 0 rfl rfl (show i1 < k + 1 by omega) (by omega) dX3_chance_81 (fun H locs hP hD hS => ?_)
                have hP : va_P (dC, dI) vwCl (wM h r1 d1 r2 d2 cI 0 n F ct n2 G c2 ++ [(q62, .inl (cI, k + 1, .inl (upd R1 i1 1000000)))]) H := hP
                have hD : va_D A (wM h r1 d1 r2 d2 cI 0 n F ct n2 G c2 ++ [(q62, .inl (cI, k + 1, .inl (upd R1 i1 1000000)))]) := hD
                refine lv_iinc (v := nI (i1 + 1)) (lv' := [(6, .int (nI (i1 + 1))), (5, .ref q62), (4, .int (s_exp F a b)), (0, .ref h), (1, .int (nI a)), (2, .int (nI b)), (3, .int (nI k))]) hx hb dX3_chance_82 hl (k := 0) rfl (nI_add i1 1) (by decide) rfl (fun ls hl => ?_)
                refine lv_goto (tgt := 69) hx hb dX3_chance_85 (by decide) ?_
                exact ih_69 (i1 + 1) (upd R1 i1 1000000) (by omega) (by rw [hR1]; rfl) _ _ hP hD hS ls (lv_sub hl [0, 1, 2, 3, 4, 5, 6] rfl)
          exact L_69 (k + 1) 0 (fun _ => 0) (by omega) rfl _ _ hP hD hS ls (lv_sub hl [0, 1, 2, 3, 4, 5, 6] rfl)
        · refine lv_aload_n hx hb dX3_chance_42 rfl (lv_at hl 0 rfl) ?_
          refine lv_iconst (v := 2) hx hb dX3_chance_43 (by decide) ?_
          have hPc := hP.sub (ws' := (wM h r1 d1 r2 d2 cI 0 n F ct n2 G c2)) [0, 1, 2, 3, 4, 5, 6, 7, 8, 9, 10, 11, 12, 13, 14, 15, 16] rfl
          have hDc := hD.sub (ws' := (wM h r1 d1 r2 d2 cI 0 n F ct n2 G c2)) [0, 1, 2, 3, 4, 5, 6, 7, 8, 9, 10, 11, 12, 13, 14, 15, 16] (by decide) rfl
          have hFc := va_free (wc := (wM h r1 d1 r2 d2 cI 0 n F ct n2 G c2)) hD hS hA [0, 1, 2, 3, 4, 5, 6, 7, 8, 9, 10, 11, 12, 13, 14, 15, 16] rfl
          refine va_calli (va_runV (As := [.int 2]) (rest := []) ⟨hx, hb, hml, hown, hts⟩ (c_X3_no l dC dI cI h r1 d1 r2 d2 0 n F ct n2 G c2 H.size 2) (cwV 1 hts gX3_chance_X3_no rfl rfl rfl (by decide +kernel) ⟨Nat.le_of_ble_eq_true rfl, Nat.le_of_ble_eq_true rfl⟩) ⟨PW.blind, va_recv hK hP (ci := 3) (q0 := 0) rfl rfl, fun U hU hW => ⟨rfl, PW.go hPc hK hDc hE hS hFc hU hW⟩⟩ rfl rfl hl.1 rfl (lv_room (Nat.le_of_ble_eq_true rfl)) dX3_chance_44 ⟨Nat.le_of_ble_eq_true rfl, Nat.le_of_ble_eq_true rfl⟩) hS (fun q _ h9 => hFc q h9) hFc (fun r u9 t9 H1 locs ht9 hvm9 hw9 hB9 hz9 hk9 hS => ?_)
          obtain ⟨hP9, hD9⟩ := hB9
          rw [ht9] at hP9
          obtain ⟨hP, hD⟩ := va_join (wr := []) (w1 := wM h r1 d1 r2 d2 cI 2 n F ct n2 G c2) hP hD [0, 1, 2, 3, 4, 5, 6, 7, 8, 9, 10, 11, 12, 13, 14, 15, 16] [] rfl rfl (by decide) (by decide) hk9 hFc hP9 hD9
          generalize H1 = H at hP hS ⊢
          have hP : va_P (dC, dI) vwCl (wM h r1 d1 r2 d2 cI 2 n F ct n2 G c2) H := hP
          have hD : va_D A (wM h r1 d1 r2 d2 cI 2 n F ct n2 G c2) := hD
          have hw9 : r = 0 := hw9
          subst hw9
          have hcode : x_chance n (nI a) (nI b) vk = 2 := by unfold x_chance; rw [if_pos h_a, if_pos h_b, if_neg c_29]; exact in_chx.1 c_39
          refine W.widen (k := 1) (n := 10) (by omega) (by omega) ?_
          have hP8 : va_P (dC, dI) vwCl (wM h r1 d1 r2 d2 cI (nI (x_chance n (nI a) (nI b) vk)) n F ct n2 G c2) H := by rw [hcode]; exact hP
          have hD8 : va_D A (wM h r1 d1 r2 d2 cI (nI (x_chance n (nI a) (nI b) vk)) n F ct n2 G c2) := by rw [hcode]; exact hD
          exact W.iret (v := 0) hx hb hr (fun t ht hW => ⟨⟨_, (), rfl, (show 0 = mo (x_chance n (nI a) (nI b) vk) (s_chR (s_exp F (cl (nI a)) (cl (nI b))) (cl vk) (fun _ => 0) (cl vk)) 0 from by rw [hcode]; rfl), by rw [ht]; exact hP8, hD8⟩, hS.F ht⟩) hS.2.2 dX3_chance_47
    · refine lv_aload_n hx hb dX3_chance_21 rfl (lv_at hl 0 rfl) ?_
      refine lv_iconst (v := 1) hx hb dX3_chance_22 (by decide) ?_
      have hPc := hP.sub (ws' := (wM h r1 d1 r2 d2 cI 0 n F ct n2 G c2)) [0, 1, 2, 3, 4, 5, 6, 7, 8, 9, 10, 11, 12, 13, 14, 15, 16] rfl
      have hDc := hD.sub (ws' := (wM h r1 d1 r2 d2 cI 0 n F ct n2 G c2)) [0, 1, 2, 3, 4, 5, 6, 7, 8, 9, 10, 11, 12, 13, 14, 15, 16] (by decide) rfl
      have hFc := va_free (wc := (wM h r1 d1 r2 d2 cI 0 n F ct n2 G c2)) hD hS hA [0, 1, 2, 3, 4, 5, 6, 7, 8, 9, 10, 11, 12, 13, 14, 15, 16] rfl
      refine va_calli (va_runV (As := [.int 1]) (rest := []) ⟨hx, hb, hml, hown, hts⟩ (c_X3_no l dC dI cI h r1 d1 r2 d2 0 n F ct n2 G c2 H.size 1) (cwV 1 hts gX3_chance_X3_no rfl rfl rfl (by decide +kernel) ⟨Nat.le_of_ble_eq_true rfl, Nat.le_of_ble_eq_true rfl⟩) ⟨PW.blind, va_recv hK hP (ci := 3) (q0 := 0) rfl rfl, fun U hU hW => ⟨rfl, PW.go hPc hK hDc hE hS hFc hU hW⟩⟩ rfl rfl hl.1 rfl (lv_room (Nat.le_of_ble_eq_true rfl)) dX3_chance_23 ⟨Nat.le_of_ble_eq_true rfl, Nat.le_of_ble_eq_true rfl⟩) hS (fun q _ h9 => hFc q h9) hFc (fun r u9 t9 H1 locs ht9 hvm9 hw9 hB9 hz9 hk9 hS => ?_)
      obtain ⟨hP9, hD9⟩ := hB9
      rw [ht9] at hP9
      obtain ⟨hP, hD⟩ := va_join (wr := []) (w1 := wM h r1 d1 r2 d2 cI 1 n F ct n2 G c2) hP hD [0, 1, 2, 3, 4, 5, 6, 7, 8, 9, 10, 11, 12, 13, 14, 15, 16] [] rfl rfl (by decide) (by decide) hk9 hFc hP9 hD9
      generalize H1 = H at hP hS ⊢
      have hP : va_P (dC, dI) vwCl (wM h r1 d1 r2 d2 cI 1 n F ct n2 G c2) H := hP
      have hD : va_D A (wM h r1 d1 r2 d2 cI 1 n F ct n2 G c2) := hD
      have hw9 : r = 0 := hw9
      subst hw9
      have hcode : x_chance n (nI a) vb vk = 1 := by simp [x_chance, h_a, c_18]
      refine W.widen (k := 1) (n := 10) (by omega) (by omega) ?_
      have hP8 : va_P (dC, dI) vwCl (wM h r1 d1 r2 d2 cI (nI (x_chance n (nI a) vb vk)) n F ct n2 G c2) H := by rw [hcode]; exact hP
      have hD8 : va_D A (wM h r1 d1 r2 d2 cI (nI (x_chance n (nI a) vb vk)) n F ct n2 G c2) := by rw [hcode]; exact hD
      exact W.iret (v := 0) hx hb hr (fun t ht hW => ⟨⟨_, (), rfl, (show 0 = mo (x_chance n (nI a) vb vk) (s_chR (s_exp F (cl (nI a)) (cl vb)) (cl vk) (fun _ => 0) (cl vk)) 0 from by rw [hcode]; rfl), by rw [ht]; exact hP8, hD8⟩, hS.F ht⟩) hS.2.2 dX3_chance_26

set_option maxHeartbeats 4000000 in
set_option maxRecDepth 100000 in
theorem c_X3_foresee (l : Launch) (dC : Nat → ClassId) (dI : Nat → Nat → Nat) (cI : ClassId) (h r1 : Nat) (d1 : Nat → Nat) (r2 : Nat) (d2 : Nat → Nat) (th : Int32) (n : Nat) (F : Nat → Nat → Int32) (ct : Nat → Int32) (n2 : Nat) (G : Nat → Nat → Int32) (c2 : Nat → Int32) (sz : Nat) (vk : Int32) (hn : n ≤ 12) (hR : okR n F) (hK0 : okK n F 1000) : Met l yX3_foresee wsX3_foresee ({ frames := 4, cells := 0, slots := 0, locals := 142 } : Room) (va_Pc [.ref h, .int vk] (fun U => PW dC dI cI (wM h r1 d1 r2 d2 cI th n F ct n2 G c2) sz U)) (va_Qi (fun r (_ : Unit) => r = mo (x_for vk) (s_hi n (s_forU n (s_become F G) (cl vk))) 0) (BW dC dI (va_A (wM h r1 d1 r2 d2 cI th n F ct n2 G c2) sz) (wM h r1 d1 r2 d2 cI (nI (x_for vk)) n F ct (mo (x_for vk) n n2) (mo (x_for vk) (s_forU n (s_become F G) (cl vk)) G) (mo (x_for vk) (s_forM n (s_become F G) (upd (upd (upd c2 0 (ct 0)) 1 (ct 1)) 2 (ct 2)) (cl vk)) c2))) (va_A (wM h r1 d1 r2 d2 cI th n F ct n2 G c2) sz)) 0 0 (va_A (wM h r1 d1 r2 d2 cI th n F ct n2 G c2) sz) := by
  refine Met.ofW (cc := cX3_foresee) (maxL := 6) (ret := (some .int)) (by decide) rfl ?_
  intro p e s m args below meth c s₁ B hml hv
  obtain ⟨rfl, hsz, hP, hK, hD0, hE⟩ := hv
  have hx := B.exec
  have hb := B.bytes
  have hr := B.returns
  have hts := atoms_spec (ws := wsX3_foresee) B.pre
  have hown : s.vm.findClass RX3 = some m.cls := findClass_of_methodNamed B.named
  have hlocks := B.notSynchronized
  subst hsz
  have hD := hD0.self (sz := s.heap.size)
  generalize hAe : va_A (wM h r1 d1 r2 d2 cI th n F ct n2 G c2) s.heap.size = A at hD hE ⊢
  have hA : ∀ q : Nat, s.heap.size ≤ q → A q := fun q h9 => by rw [← hAe]; exact Or.inr h9
  have hS : va_S A s.heap s.heap [] := va_S.rf
  have hinX2 : ∀ w ∈ wsX20, w ∈ wsX3_foresee := by decide +kernel
  have hinX3 : ∀ w ∈ wsX30, w ∈ wsX3_foresee := by decide +kernel
  have hl := lv_entry ([.ref h, .int vk]) (n := 6) (Nat.le_of_ble_eq_true rfl)
  rw [lg_entry_eq]
  generalize (lg_sl ([.ref h, .int vk]) ++ List.replicate (6 - (lg_sl ([.ref h, .int vk])).length) Slot.unset).toArray = ls at hl ⊢
  have hl : lv_has ls 6 [(0, .ref h), (1, .int vk)] := hl
  refine lv_aload_n hx hb dX3_foresee_0 rfl (lv_at hl 0 rfl) ?_
  refine lv_iconst (v := 0) hx hb dX3_foresee_1 (by decide) ?_
  refine va_put (D := (dC, dI)) (ci := 3) (v := .int 0) (ty := .int) (C := RX3) (T := TX3) (N := 3) hx hb hts hinX3 tyX3 tyX3_ok nmX3 hown hK hP hD hS 0 rfl rfl 0 (by decide) (hts (.fieldLink RX3 19 "WrestleBookModel" "thrown" "I") (by decide +kernel)) (fun _ h9 => h9) rfl (by decide +kernel) rfl rfl (Nat.le_of_ble_eq_true rfl) dX3_foresee_2 (fun H locs hP hD hS => ?_)
  have hP : va_P (dC, dI) vwCl (wM h r1 d1 r2 d2 cI 0 n F ct n2 G c2) H := hP
  have hD : va_D A (wM h r1 d1 r2 d2 cI 0 n F ct n2 G c2) := hD
  refine lv_iload_n hx hb dX3_foresee_5 rfl (lv_at hl 1 rfl) ?_
  refine lv_iconst (v := 1) hx hb dX3_foresee_6 (by decide) ?_
  refine lv_bipush (v := 40) hx hb dX3_foresee_7 (by decide) ?_
  refine vp_callSi (W.runS (As := [.int vk, .int 1, .int 40]) (rest := []) ⟨hx, hb, hml, hown, hts⟩ (c_X3_isIn l dC dI cI vk 1 40) (va_cwS 3 hts gX3_foresee_X3_isIn rfl rfl rfl (by decide +kernel) ⟨Nat.le_of_ble_eq_true rfl, Nat.le_of_ble_eq_true rfl⟩) ⟨PR.blind, fun U hU hW => ⟨rfl, PR.go (vaP_nil) hK hE hS hU hW⟩⟩ rfl rfl hl.1 rfl (lv_room (Nat.le_of_ble_eq_true rfl)) dX3_foresee_9 ⟨Nat.le_of_ble_eq_true rfl, Nat.le_of_ble_eq_true rfl⟩) (fun r hr0 => ?_)
  subst hr0
  refine rv_ifb_ne (tgt := 21) hx hb dX3_foresee_12 (by decide) (fun c_12 => ?_) (fun c_12 => ?_)
  · have hok := in_fo.2 c_12
    obtain ⟨k, hk1, hk, rfl⟩ := rngI (u := 1) (v := 40) (s_in_t c_12).1 (s_in_t c_12).2 rfl rfl (by decide) (by decide)
    refine lv_aload_n hx hb dX3_foresee_21 rfl (lv_at hl 0 rfl) ?_
    refine va_get (D := (dC, dI)) (ci := 3) (v := .ref r2) (C := RX3) (T := TX3) (N := 3) hx hb hts hinX3 hown hK hP 0 rfl rfl 2 (by decide) (hts (.fieldLink RX3 16 "WrestleBookModel" "ahead" "LWrestleBookModel$State;") (by decide +kernel)) (fun _ h9 => h9) rfl dX3_foresee_22 ?_
    refine lv_aload_n hx hb dX3_foresee_25 rfl (lv_at hl 0 rfl) ?_
    refine va_get (D := (dC, dI)) (ci := 3) (v := .ref r1) (C := RX3) (T := TX3) (N := 3) hx hb hts hinX3 hown hK hP 0 rfl rfl 1 (by decide) (hts (.fieldLink RX3 10 "WrestleBookModel" "s" "LWrestleBookModel$State;") (by decide +kernel)) (fun _ h9 => h9) rfl dX3_foresee_26 ?_
    have hPc := hP.sub (ws' := (wS r2 d2 cI n2 G c2 ++ wS r1 d1 cI n F ct)) [9, 10, 11, 12, 13, 14, 15, 16, 1, 2, 3, 4, 5, 6, 7, 8] rfl
    have hDc := hD.sub (ws' := (wS r2 d2 cI n2 G c2 ++ wS r1 d1 cI n F ct)) [9, 10, 11, 12, 13, 14, 15, 16, 1, 2, 3, 4, 5, 6, 7, 8] (by decide) rfl
    have hFc := va_free (wc := (wS r2 d2 cI n2 G c2 ++ wS r1 d1 cI n F ct)) hD hS hA [9, 10, 11, 12, 13, 14, 15, 16, 1, 2, 3, 4, 5, 6, 7, 8] rfl
    refine va_callv (va_runV (As := [.ref r1]) (rest := []) ⟨hx, hb, hml, hown, hts⟩ (c_X2_become l dC dI cI r2 d2 n2 G c2 r1 d1 n F ct H.size) (cwV 1 hts gX3_foresee_X2_become rfl rfl rfl (by decide +kernel) ⟨Nat.le_of_ble_eq_true rfl, Nat.le_of_ble_eq_true rfl⟩) ⟨PW.blind, va_recv hK hP (ci := 2) (q0 := 9) rfl rfl, fun U hU hW => ⟨rfl, PW.go hPc hK hDc hE hS hFc hU hW⟩⟩ rfl rfl hl.1 rfl (lv_room (Nat.le_of_ble_eq_true rfl)) dX3_foresee_29 ⟨Nat.le_of_ble_eq_true rfl, Nat.le_of_ble_eq_true rfl⟩) hS (fun q _ h9 => hFc q h9) hFc (fun u9 t9 H1 locs ht9 hvm9 hw9 hB9 hz9 hk9 hS => ?_)
    obtain ⟨hP9, hD9⟩ := hB9
    rw [ht9] at hP9
    obtain ⟨hP, hD⟩ := va_join (wr := ([(h, .inr (3, [.int 0, .ref r1, .ref r2]))] : va_W)) (w1 := wS r2 d2 cI n (s_become F G) (upd (upd (upd c2 0 (ct 0)) 1 (ct 1)) 2 (ct 2)) ++ wS r1 d1 cI n F ct) hP hD [9, 10, 11, 12, 13, 14, 15, 16, 1, 2, 3, 4, 5, 6, 7, 8] [0] rfl rfl (by decide) (by decide) hk9 hFc hP9 hD9
    generalize H1 = H at hP hS ⊢
    have hP := hP.sub (ws' := wM h r1 d1 r2 d2 cI 0 n F ct n (s_become F G) (upd (upd (upd c2 0 (ct 0)) 1 (ct 1)) 2 (ct 2))) [0, 9, 10, 11, 12, 13, 14, 15, 16, 1, 2, 3, 4, 5, 6, 7, 8] rfl
    have hD := hD.sub (ws' := wM h r1 d1 r2 d2 cI 0 n F ct n (s_become F G) (upd (upd (upd c2 0 (ct 0)) 1 (ct 1)) 2 (ct 2))) [0, 9, 10, 11, 12, 13, 14, 15, 16, 1, 2, 3, 4, 5, 6, 7, 8] (by decide) rfl
    have hP : va_P (dC, dI) vwCl (wM h r1 d1 r2 d2 cI 0 n F ct n (s_become F G) (upd (upd (upd c2 0 (ct 0)) 1 (ct 1)) 2 (ct 2))) H := hP
    have hD : va_D A (wM h r1 d1 r2 d2 cI 0 n F ct n (s_become F G) (upd (upd (upd c2 0 (ct 0)) 1 (ct 1)) 2 (ct 2))) := hD
    refine lv_iconst (v := 0) hx hb dX3_foresee_32 (by decide) ?_
    refine lv_istore_n (lv' := [(2, .int 0), (0, .ref h), (1, .int (nI k))]) hx hb dX3_foresee_33 rfl hl (by decide) rfl (fun ls hl => ?_)
    have L_34 : ∀ (k8 i : Nat) (E : Nat → Nat → Int32) (C : Nat → Int32), i + k8 = k → E = s_forU n (s_become F G) i → C = s_forM n (s_become F G) (upd (upd (upd c2 0 (ct 0)) 1 (ct 1)) 2 (ct 2)) i → okR n E → okK n E (1000 + i) → ∀ (H : Heap) (locs : List Loc), va_P (dC, dI) vwCl (wM h r1 d1 r2 d2 cI 0 n F ct n E C) H → va_D A (wM h r1 d1 r2 d2 cI 0 n F ct n E C) → va_S A s.heap H locs → ∀ (ls : Array Slot), lv_has ls 6 [(2, .int (nI i)), (0, .ref h), (1, .int (nI k))] → W p l e (headSpec wsX3_foresee ({ frames := 4, cells := 0, slots := 0, locals := 142 } : Room)).room s m ([.ref h, .int (nI k)] : List Value).toArray below meth c H locs 0 0 (MQ below (va_Qi (fun r (_ : Unit) => r = mo (x_for (nI k)) (s_hi n (s_forU n (s_become F G) (cl (nI k)))) 0) (BW dC dI A (wM h r1 d1 r2 d2 cI (nI (x_for (nI k))) n F ct (mo (x_for (nI k)) n n2) (mo (x_for (nI k)) (s_forU n (s_become F G) (cl (nI k))) G) (mo (x_for (nI k)) (s_forM n (s_become F G) (upd (upd (upd c2 0 (ct 0)) 1 (ct 1)) 2 (ct 2)) (cl (nI k))) c2))) A) ([.ref h, .int (nI k)] : List Value).toArray s 0 0 A) (F0 m 34 ls []) := by
      intro k8
      induction k8 with
      | zero =>
        intro i E C e_i hE9 hC9 hokE hokK H locs hP hD hS ls hl
        refine lv_iload_n hx hb dX3_foresee_34 rfl (lv_at hl 0 rfl) ?_
        refine lv_iload_n hx hb dX3_foresee_35 rfl (lv_at hl 2 rfl) ?_
        refine rv_icmp_ge (tgt := 114) hx hb (a := i) (b := k) (by omega) (by omega) dX3_foresee_36 (by decide) (fun c_36 => ?_) (fun c_36 => ?_)
        · have hend : s_forU n (s_become F G) k = E := by rw [hE9, show i = k by omega]
          have hendC : s_forM n (s_become F G) (upd (upd (upd c2 0 (ct 0)) 1 (ct 1)) 2 (ct 2)) k = C := by rw [hC9, show i = k by omega]
          refine lv_aload_n hx hb dX3_foresee_114 rfl (lv_at hl 1 rfl) ?_
          refine va_get (D := (dC, dI)) (ci := 3) (v := .ref r2) (C := RX3) (T := TX3) (N := 3) hx hb hts hinX3 hown hK hP 0 rfl rfl 2 (by decide) (hts (.fieldLink RX3 16 "WrestleBookModel" "ahead" "LWrestleBookModel$State;") (by decide +kernel)) (fun _ h9 => h9) rfl dX3_foresee_115 ?_
          refine vp_callSi (W.runV (As := []) (rest := []) ⟨hx, hb, hml, hown, hts⟩ (c_X2_highest l dC dI cI r2 d2 n E C hn) (cwV 0 hts gX3_foresee_X2_highest rfl rfl rfl (by decide +kernel) ⟨Nat.le_of_ble_eq_true rfl, Nat.le_of_ble_eq_true rfl⟩) ⟨PR.blind, va_recv hK hP (ci := 2) (q0 := 9) rfl rfl, fun U hU hW => ⟨rfl, PR.go (hP.sub (ws' := (wS r2 d2 cI n E C)) [9, 10, 11, 12, 13, 14, 15, 16] rfl) hK hE hS hU hW⟩⟩ rfl rfl hl.1 rfl (lv_room (Nat.le_of_ble_eq_true rfl)) dX3_foresee_118 ⟨Nat.le_of_ble_eq_true rfl, Nat.le_of_ble_eq_true rfl⟩) (fun r hr0 => ?_)
          subst hr0
          have hcode : x_for (nI k) = 0 := by exact hok
          have hP8 : va_P (dC, dI) vwCl (wM h r1 d1 r2 d2 cI (nI (x_for (nI k))) n F ct (mo (x_for (nI k)) n n2) (mo (x_for (nI k)) (s_forU n (s_become F G) (cl (nI k))) G) (mo (x_for (nI k)) (s_forM n (s_become F G) (upd (upd (upd c2 0 (ct 0)) 1 (ct 1)) 2 (ct 2)) (cl (nI k))) c2)) H := by rw [hcode, cl_nI (show k < 2 ^ 31 by omega), hend, hendC]; exact hP
          have hD8 : va_D A (wM h r1 d1 r2 d2 cI (nI (x_for (nI k))) n F ct (mo (x_for (nI k)) n n2) (mo (x_for (nI k)) (s_forU n (s_become F G) (cl (nI k))) G) (mo (x_for (nI k)) (s_forM n (s_become F G) (upd (upd (upd c2 0 (ct 0)) 1 (ct 1)) 2 (ct 2)) (cl (nI k))) c2)) := by rw [hcode, cl_nI (show k < 2 ^ 31 by omega), hend, hendC]; exact hD
          exact W.iret (v := s_hi n E) hx hb hr (fun t ht hW => ⟨⟨_, (), rfl, (show s_hi n E = mo (x_for (nI k)) (s_hi n (s_forU n (s_become F G) (cl (nI k)))) 0 from by rw [hcode, mo_0, cl_nI (show k < 2 ^ 31 by omega), hend]), by rw [ht]; exact hP8, hD8⟩, hS.F ht⟩) hS.2.2 dX3_foresee_121
        · exact absurd c_36 (by omega)
      | succ k8 ih_34 =>
        intro i E C e_i hE9 hC9 hokE hokK H locs hP hD hS ls hl
        refine lv_iload_n hx hb dX3_foresee_34 rfl (lv_at hl 0 rfl) ?_
        refine lv_iload_n hx hb dX3_foresee_35 rfl (lv_at hl 2 rfl) ?_
        refine rv_icmp_ge (tgt := 114) hx hb (a := i) (b := k) (by omega) (by omega) dX3_foresee_36 (by decide) (fun c_36 => ?_) (fun c_36 => ?_)
        · exact absurd c_36 (by omega)
        · refine lv_aload_n hx hb dX3_foresee_39 rfl (lv_at hl 1 rfl) ?_
          refine va_get (D := (dC, dI)) (ci := 3) (v := .ref r2) (C := RX3) (T := TX3) (N := 3) hx hb hts hinX3 hown hK hP 0 rfl rfl 2 (by decide) (hts (.fieldLink RX3 16 "WrestleBookModel" "ahead" "LWrestleBookModel$State;") (by decide +kernel)) (fun _ h9 => h9) rfl dX3_foresee_40 ?_
          refine vp_callSi (W.runV (As := []) (rest := []) ⟨hx, hb, hml, hown, hts⟩ (c_X2_next l dC dI cI r2 d2 n E C hn hokE (hokK.B (by omega))) (cwV 0 hts gX3_foresee_X2_next rfl rfl rfl (by decide +kernel) ⟨Nat.le_of_ble_eq_true rfl, Nat.le_of_ble_eq_true rfl⟩) ⟨PR.blind, va_recv hK hP (ci := 2) (q0 := 9) rfl rfl, fun U hU hW => ⟨rfl, PR.go (hP.sub (ws' := (wS r2 d2 cI n E C)) [9, 10, 11, 12, 13, 14, 15, 16] rfl) hK hE hS hU hW⟩⟩ rfl rfl hl.1 rfl (lv_room (Nat.le_of_ble_eq_true rfl)) dX3_foresee_43 ⟨Nat.le_of_ble_eq_true rfl, Nat.le_of_ble_eq_true rfl⟩) (fun r hr0 => ?_)
          subst hr0
          refine lv_istore_n (lv' := [(3, .int (s_next n E)), (2, .int (nI i)), (0, .ref h), (1, .int (nI k))]) hx hb dX3_foresee_46 rfl hl (by decide) rfl (fun ls hl => ?_)
          refine lv_iload_n hx hb dX3_foresee_47 rfl (lv_at hl 0 rfl) ?_
          refine lv_iconst (v := (-1)) hx hb dX3_foresee_48 (by decide) ?_
          refine lv_icmp_ne (tgt := 55) hx hb dX3_foresee_49 (by decide) (fun c_49 => ?_) (fun c_49 => ?_)
          · obtain ⟨a, b, hab, hbn, e49⟩ := (pN_next (n := n) E).resolve_left c_49
            refine lv_iload_n hx hb dX3_foresee_55 rfl (lv_at hl 0 rfl) ?_
            refine lv_bipush (v := 12) hx hb dX3_foresee_56 (by decide) ?_
            refine lv_idiv hx hb dX3_foresee_58 (by decide) ?_
            refine rv_top (y := nI a) (by rw [e49]; exact div12 hab hbn hn) ?_
            refine lv_istore (lv' := [(4, .int (nI a)), (3, .int (s_next n E)), (2, .int (nI i)), (0, .ref h), (1, .int (nI k))]) hx hb dX3_foresee_59 hl (by decide) rfl (fun ls hl => ?_)
            refine lv_iload_n hx hb dX3_foresee_61 rfl (lv_at hl 1 rfl) ?_
            refine lv_bipush (v := 12) hx hb dX3_foresee_62 (by decide) ?_
            refine lv_irem hx hb dX3_foresee_64 (by decide) ?_
            refine rv_top (y := nI b) (by rw [e49]; exact rem12 hab hbn hn) ?_
            refine lv_istore (lv' := [(5, .int (nI b)), (4, .int (nI a)), (3, .int (s_next n E)), (2, .int (nI i)), (0, .ref h), (1, .int (nI k))]) hx hb dX3_foresee_65 hl (by decide) rfl (fun ls hl => ?_)
            refine lv_aload_n hx hb dX3_foresee_67 rfl (lv_at hl 4 rfl) ?_
            refine va_get (D := (dC, dI)) (ci := 3) (v := .ref r2) (C := RX3) (T := TX3) (N := 3) hx hb hts hinX3 hown hK hP 0 rfl rfl 2 (by decide) (hts (.fieldLink RX3 16 "WrestleBookModel" "ahead" "LWrestleBookModel$State;") (by decide +kernel)) (fun _ h9 => h9) rfl dX3_foresee_68 ?_
            refine lv_iload hx hb dX3_foresee_71 (lv_at hl 1 rfl) ?_
            refine lv_iload hx hb dX3_foresee_73 (lv_at hl 0 rfl) ?_
            refine lv_aload_n hx hb dX3_foresee_75 rfl (lv_at hl 4 rfl) ?_
            refine va_get (D := (dC, dI)) (ci := 3) (v := .ref r2) (C := RX3) (T := TX3) (N := 3) hx hb hts hinX3 hown hK hP 0 rfl rfl 2 (by decide) (hts (.fieldLink RX3 16 "WrestleBookModel" "ahead" "LWrestleBookModel$State;") (by decide +kernel)) (fun _ h9 => h9) rfl dX3_foresee_76 ?_
            refine va_getN (D := (dC, dI)) (ci := 2) (v := .ref (d2 1)) (C := RX2) (T := TX2) (N := 11) (host := "WrestleBookModel") hx hb hts hinX2 hown hK hP 9 rfl rfl 4 (by decide) (va_Nw.use rfl (hE.2.2.1 (.fieldLinkNest RX3 34 "WrestleBookModel$State" "rating" "[I" "WrestleBookModel") (by decide +kernel))) (fun _ h9 => h9) rfl dX3_foresee_79 ?_
            refine lv_iload hx hb dX3_foresee_82 (lv_at hl 1 rfl) ?_
            refine rv_iald (k := a) hx hb hK hP 11 0 rfl rfl (show a < 12 by omega) (by decide) dX3_foresee_84 ?_
            refine lv_aload_n hx hb dX3_foresee_85 rfl (lv_at hl 4 rfl) ?_
            refine va_get (D := (dC, dI)) (ci := 3) (v := .ref r2) (C := RX3) (T := TX3) (N := 3) hx hb hts hinX3 hown hK hP 0 rfl rfl 2 (by decide) (hts (.fieldLink RX3 16 "WrestleBookModel" "ahead" "LWrestleBookModel$State;") (by decide +kernel)) (fun _ h9 => h9) rfl dX3_foresee_86 ?_
            refine va_getN (D := (dC, dI)) (ci := 2) (v := .ref (d2 1)) (C := RX2) (T := TX2) (N := 11) (host := "WrestleBookModel") hx hb hts hinX2 hown hK hP 9 rfl rfl 4 (by decide) (va_Nw.use rfl (hE.2.2.1 (.fieldLinkNest RX3 34 "WrestleBookModel$State" "rating" "[I" "WrestleBookModel") (by decide +kernel))) (fun _ h9 => h9) rfl dX3_foresee_89 ?_
            refine lv_iload hx hb dX3_foresee_92 (lv_at hl 0 rfl) ?_
            refine rv_iald (k := b) hx hb hK hP 11 0 rfl rfl (show b < 12 by omega) (by decide) dX3_foresee_94 ?_
            refine lv_icmp_lt (tgt := 104) hx hb dX3_foresee_95 (by decide) (fun c_95 => ?_) (fun c_95 => ?_)
            · refine lv_iconst (v := 0) hx hb dX3_foresee_104 (by decide) ?_
              refine rv_top (y := nI (500 * 0)) rfl ?_
              have hPc := hP.sub (ws' := (wS r2 d2 cI n E C)) [9, 10, 11, 12, 13, 14, 15, 16] rfl
              have hDc := hD.sub (ws' := (wS r2 d2 cI n E C)) [9, 10, 11, 12, 13, 14, 15, 16] (by decide) rfl
              have hFc := va_free (wc := (wS r2 d2 cI n E C)) hD hS hA [9, 10, 11, 12, 13, 14, 15, 16] rfl
              refine va_callv (va_runV (As := [.int (nI a), .int (nI b), .int (nI (500 * 0))]) (rest := []) ⟨hx, hb, hml, hown, hts⟩ (c_X2_bout l dC dI cI r2 d2 n E C H.size a (show a < n by omega) b (show b < n by omega) 0 (by decide) hn hokE) (cwV 3 hts gX3_foresee_X2_bout rfl rfl rfl (by decide +kernel) ⟨Nat.le_of_ble_eq_true rfl, Nat.le_of_ble_eq_true rfl⟩) ⟨PW.blind, va_recv hK hP (ci := 2) (q0 := 9) rfl rfl, fun U hU hW => ⟨rfl, PW.go hPc hK hDc hE hS hFc hU hW⟩⟩ rfl rfl hl.1 rfl (lv_room (Nat.le_of_ble_eq_true rfl)) dX3_foresee_105 ⟨Nat.le_of_ble_eq_true rfl, Nat.le_of_ble_eq_true rfl⟩) hS (fun q _ h9 => hFc q h9) hFc (fun u9 t9 H1 locs ht9 hvm9 hw9 hB9 hz9 hk9 hS => ?_)
              obtain ⟨hP9, hD9⟩ := hB9
              rw [ht9] at hP9
              obtain ⟨hP, hD⟩ := va_join (wr := ([(h, .inr (3, [.int 0, .ref r1, .ref r2])), (r1, .inr (2, [.int (ct 0), .int (nI n), .int (ct 1), .int (ct 2), .ref (d1 1), .ref (d1 0), .ref (d1 2), .ref (d1 3), .ref (d1 4), .ref (d1 5), .ref (d1 6)])), (d1 0, .inl (cI, 12, .inl (F 0))), (d1 1, .inl (cI, 12, .inl (F 1))), (d1 2, .inl (cI, 12, .inl (F 2))), (d1 3, .inl (cI, 12, .inl (F 3))), (d1 4, .inl (cI, 12, .inl (F 4))), (d1 5, .inl (cI, 12, .inl (F 5))), (d1 6, .inl (cI, 12, .inl (F 6)))] : va_W)) (w1 := wS r2 d2 cI n (s_mb E a b 0) (s_ct C E a b 0)) hP hD [9, 10, 11, 12, 13, 14, 15, 16] [0, 1, 2, 3, 4, 5, 6, 7, 8] rfl rfl (by decide) (by decide) hk9 hFc hP9 hD9
              generalize H1 = H at hP hS ⊢
              have hP := hP.sub (ws' := wM h r1 d1 r2 d2 cI 0 n F ct n (s_mb E a b 0) (s_ct C E a b 0)) [0, 1, 2, 3, 4, 5, 6, 7, 8, 9, 10, 11, 12, 13, 14, 15, 16] rfl
              have hD := hD.sub (ws' := wM h r1 d1 r2 d2 cI 0 n F ct n (s_mb E a b 0) (s_ct C E a b 0)) [0, 1, 2, 3, 4, 5, 6, 7, 8, 9, 10, 11, 12, 13, 14, 15, 16] (by decide) rfl
              have hP : va_P (dC, dI) vwCl (wM h r1 d1 r2 d2 cI 0 n F ct n (s_mb E a b 0) (s_ct C E a b 0)) H := hP
              have hD : va_D A (wM h r1 d1 r2 d2 cI 0 n F ct n (s_mb E a b 0) (s_ct C E a b 0)) := hD
              refine lv_iinc (v := nI (i + 1)) (lv' := [(2, .int (nI (i + 1))), (5, .int (nI b)), (4, .int (nI a)), (3, .int (s_next n E)), (0, .ref h), (1, .int (nI k))]) hx hb dX3_foresee_108 hl (k := 3) rfl (nI_add i 1) (by decide) rfl (fun ls hl => ?_)
              refine lv_goto (tgt := 34) hx hb dX3_foresee_111 (by decide) ?_
              exact ih_34 (i + 1) (s_mb E a b 0) (s_ct C E a b 0) (by omega) (by rw [← forU_go hE9 hab hbn hn e49]; unfold s_har; rw [if_pos c_95, hold_mb E _ (Nat.ne_of_lt hab)]) (by rw [← forM_go hE9 hC9 hab hbn hn e49, if_pos c_95]) (okR_mb hokE) (okK_mb (Nat.ne_of_lt hab) hokK) _ _ hP hD hS ls (lv_sub hl [0, 4, 5] rfl)
            · refine lv_sipush (v := 1000) hx hb dX3_foresee_98 (by decide) ?_
              refine rv_top (y := nI (500 * 2)) rfl ?_
              refine lv_goto (tgt := 105) hx hb dX3_foresee_101 (by decide) ?_
              have hPc := hP.sub (ws' := (wS r2 d2 cI n E C)) [9, 10, 11, 12, 13, 14, 15, 16] rfl
              have hDc := hD.sub (ws' := (wS r2 d2 cI n E C)) [9, 10, 11, 12, 13, 14, 15, 16] (by decide) rfl
              have hFc := va_free (wc := (wS r2 d2 cI n E C)) hD hS hA [9, 10, 11, 12, 13, 14, 15, 16] rfl
              refine va_callv (va_runV (As := [.int (nI a), .int (nI b), .int (nI (500 * 2))]) (rest := []) ⟨hx, hb, hml, hown, hts⟩ (c_X2_bout l dC dI cI r2 d2 n E C H.size a (show a < n by omega) b (show b < n by omega) 2 (by decide) hn hokE) (cwV 3 hts gX3_foresee_X2_bout rfl rfl rfl (by decide +kernel) ⟨Nat.le_of_ble_eq_true rfl, Nat.le_of_ble_eq_true rfl⟩) ⟨PW.blind, va_recv hK hP (ci := 2) (q0 := 9) rfl rfl, fun U hU hW => ⟨rfl, PW.go hPc hK hDc hE hS hFc hU hW⟩⟩ rfl rfl hl.1 rfl (lv_room (Nat.le_of_ble_eq_true rfl)) dX3_foresee_105 ⟨Nat.le_of_ble_eq_true rfl, Nat.le_of_ble_eq_true rfl⟩) hS (fun q _ h9 => hFc q h9) hFc (fun u9 t9 H1 locs ht9 hvm9 hw9 hB9 hz9 hk9 hS => ?_)
              obtain ⟨hP9, hD9⟩ := hB9
              rw [ht9] at hP9
              obtain ⟨hP, hD⟩ := va_join (wr := ([(h, .inr (3, [.int 0, .ref r1, .ref r2])), (r1, .inr (2, [.int (ct 0), .int (nI n), .int (ct 1), .int (ct 2), .ref (d1 1), .ref (d1 0), .ref (d1 2), .ref (d1 3), .ref (d1 4), .ref (d1 5), .ref (d1 6)])), (d1 0, .inl (cI, 12, .inl (F 0))), (d1 1, .inl (cI, 12, .inl (F 1))), (d1 2, .inl (cI, 12, .inl (F 2))), (d1 3, .inl (cI, 12, .inl (F 3))), (d1 4, .inl (cI, 12, .inl (F 4))), (d1 5, .inl (cI, 12, .inl (F 5))), (d1 6, .inl (cI, 12, .inl (F 6)))] : va_W)) (w1 := wS r2 d2 cI n (s_mb E a b 2) (s_ct C E a b 2)) hP hD [9, 10, 11, 12, 13, 14, 15, 16] [0, 1, 2, 3, 4, 5, 6, 7, 8] rfl rfl (by decide) (by decide) hk9 hFc hP9 hD9
              generalize H1 = H at hP hS ⊢
              have hP := hP.sub (ws' := wM h r1 d1 r2 d2 cI 0 n F ct n (s_mb E a b 2) (s_ct C E a b 2)) [0, 1, 2, 3, 4, 5, 6, 7, 8, 9, 10, 11, 12, 13, 14, 15, 16] rfl
              have hD := hD.sub (ws' := wM h r1 d1 r2 d2 cI 0 n F ct n (s_mb E a b 2) (s_ct C E a b 2)) [0, 1, 2, 3, 4, 5, 6, 7, 8, 9, 10, 11, 12, 13, 14, 15, 16] (by decide) rfl
              have hP : va_P (dC, dI) vwCl (wM h r1 d1 r2 d2 cI 0 n F ct n (s_mb E a b 2) (s_ct C E a b 2)) H := hP
              have hD : va_D A (wM h r1 d1 r2 d2 cI 0 n F ct n (s_mb E a b 2) (s_ct C E a b 2)) := hD
              refine lv_iinc (v := nI (i + 1)) (lv' := [(2, .int (nI (i + 1))), (5, .int (nI b)), (4, .int (nI a)), (3, .int (s_next n E)), (0, .ref h), (1, .int (nI k))]) hx hb dX3_foresee_108 hl (k := 3) rfl (nI_add i 1) (by decide) rfl (fun ls hl => ?_)
              refine lv_goto (tgt := 34) hx hb dX3_foresee_111 (by decide) ?_
              exact ih_34 (i + 1) (s_mb E a b 2) (s_ct C E a b 2) (by omega) (by rw [← forU_go hE9 hab hbn hn e49]; unfold s_har; rw [if_neg c_95, hold_mb E _ (Nat.ne_of_lt hab)]) (by rw [← forM_go hE9 hC9 hab hbn hn e49, if_neg c_95]) (okR_mb hokE) (okK_mb (Nat.ne_of_lt hab) hokK) _ _ hP hD hS ls (lv_sub hl [0, 4, 5] rfl)
          · have c8 : s_next n (s_forU n (s_become F G) i) = -1 := by rw [← hE9]; exact c_49
            have hend : s_forU n (s_become F G) k = E := by
              have q := forU_stop c8 (k - i)
              rw [show i + (k - i) = k by omega] at q
              rw [q, hE9]
            have hendC : s_forM n (s_become F G) (upd (upd (upd c2 0 (ct 0)) 1 (ct 1)) 2 (ct 2)) k = C := by
              have q := forM_stop (c := (upd (upd (upd c2 0 (ct 0)) 1 (ct 1)) 2 (ct 2))) c8 (k - i)
              rw [show i + (k - i) = k by omega] at q
              rw [q, hC9]
            refine lv_goto (tgt := 114) hx hb dX3_foresee_52 (by decide) ?_
            refine lv_aload_n hx hb dX3_foresee_114 rfl (lv_at hl 2 rfl) ?_
            refine va_get (D := (dC, dI)) (ci := 3) (v := .ref r2) (C := RX3) (T := TX3) (N := 3) hx hb hts hinX3 hown hK hP 0 rfl rfl 2 (by decide) (hts (.fieldLink RX3 16 "WrestleBookModel" "ahead" "LWrestleBookModel$State;") (by decide +kernel)) (fun _ h9 => h9) rfl dX3_foresee_115 ?_
            refine vp_callSi (W.runV (As := []) (rest := []) ⟨hx, hb, hml, hown, hts⟩ (c_X2_highest l dC dI cI r2 d2 n E C hn) (cwV 0 hts gX3_foresee_X2_highest rfl rfl rfl (by decide +kernel) ⟨Nat.le_of_ble_eq_true rfl, Nat.le_of_ble_eq_true rfl⟩) ⟨PR.blind, va_recv hK hP (ci := 2) (q0 := 9) rfl rfl, fun U hU hW => ⟨rfl, PR.go (hP.sub (ws' := (wS r2 d2 cI n E C)) [9, 10, 11, 12, 13, 14, 15, 16] rfl) hK hE hS hU hW⟩⟩ rfl rfl hl.1 rfl (lv_room (Nat.le_of_ble_eq_true rfl)) dX3_foresee_118 ⟨Nat.le_of_ble_eq_true rfl, Nat.le_of_ble_eq_true rfl⟩) (fun r hr0 => ?_)
            subst hr0
            have hcode : x_for (nI k) = 0 := by exact hok
            have hP8 : va_P (dC, dI) vwCl (wM h r1 d1 r2 d2 cI (nI (x_for (nI k))) n F ct (mo (x_for (nI k)) n n2) (mo (x_for (nI k)) (s_forU n (s_become F G) (cl (nI k))) G) (mo (x_for (nI k)) (s_forM n (s_become F G) (upd (upd (upd c2 0 (ct 0)) 1 (ct 1)) 2 (ct 2)) (cl (nI k))) c2)) H := by rw [hcode, cl_nI (show k < 2 ^ 31 by omega), hend, hendC]; exact hP
            have hD8 : va_D A (wM h r1 d1 r2 d2 cI (nI (x_for (nI k))) n F ct (mo (x_for (nI k)) n n2) (mo (x_for (nI k)) (s_forU n (s_become F G) (cl (nI k))) G) (mo (x_for (nI k)) (s_forM n (s_become F G) (upd (upd (upd c2 0 (ct 0)) 1 (ct 1)) 2 (ct 2)) (cl (nI k))) c2)) := by rw [hcode, cl_nI (show k < 2 ^ 31 by omega), hend, hendC]; exact hD
            exact W.iret (v := s_hi n E) hx hb hr (fun t ht hW => ⟨⟨_, (), rfl, (show s_hi n E = mo (x_for (nI k)) (s_hi n (s_forU n (s_become F G) (cl (nI k)))) 0 from by rw [hcode, mo_0, cl_nI (show k < 2 ^ 31 by omega), hend]), by rw [ht]; exact hP8, hD8⟩, hS.F ht⟩) hS.2.2 dX3_foresee_121
    exact L_34 k 0 (s_become F G) (upd (upd (upd c2 0 (ct 0)) 1 (ct 1)) 2 (ct 2)) (by omega) rfl rfl (okR_ag (ag_become hn F G) hR) (okK_ag (ag_become hn F G) hK0) _ _ hP hD hS ls (lv_sub hl [0, 1, 2] rfl)
  · refine lv_aload_n hx hb dX3_foresee_15 rfl (lv_at hl 0 rfl) ?_
    refine lv_iconst (v := 1) hx hb dX3_foresee_16 (by decide) ?_
    have hPc := hP.sub (ws' := (wM h r1 d1 r2 d2 cI 0 n F ct n2 G c2)) [0, 1, 2, 3, 4, 5, 6, 7, 8, 9, 10, 11, 12, 13, 14, 15, 16] rfl
    have hDc := hD.sub (ws' := (wM h r1 d1 r2 d2 cI 0 n F ct n2 G c2)) [0, 1, 2, 3, 4, 5, 6, 7, 8, 9, 10, 11, 12, 13, 14, 15, 16] (by decide) rfl
    have hFc := va_free (wc := (wM h r1 d1 r2 d2 cI 0 n F ct n2 G c2)) hD hS hA [0, 1, 2, 3, 4, 5, 6, 7, 8, 9, 10, 11, 12, 13, 14, 15, 16] rfl
    refine va_calli (va_runV (As := [.int 1]) (rest := []) ⟨hx, hb, hml, hown, hts⟩ (c_X3_no l dC dI cI h r1 d1 r2 d2 0 n F ct n2 G c2 H.size 1) (cwV 1 hts gX3_foresee_X3_no rfl rfl rfl (by decide +kernel) ⟨Nat.le_of_ble_eq_true rfl, Nat.le_of_ble_eq_true rfl⟩) ⟨PW.blind, va_recv hK hP (ci := 3) (q0 := 0) rfl rfl, fun U hU hW => ⟨rfl, PW.go hPc hK hDc hE hS hFc hU hW⟩⟩ rfl rfl hl.1 rfl (lv_room (Nat.le_of_ble_eq_true rfl)) dX3_foresee_17 ⟨Nat.le_of_ble_eq_true rfl, Nat.le_of_ble_eq_true rfl⟩) hS (fun q _ h9 => hFc q h9) hFc (fun r u9 t9 H1 locs ht9 hvm9 hw9 hB9 hz9 hk9 hS => ?_)
    obtain ⟨hP9, hD9⟩ := hB9
    rw [ht9] at hP9
    obtain ⟨hP, hD⟩ := va_join (wr := []) (w1 := wM h r1 d1 r2 d2 cI 1 n F ct n2 G c2) hP hD [0, 1, 2, 3, 4, 5, 6, 7, 8, 9, 10, 11, 12, 13, 14, 15, 16] [] rfl rfl (by decide) (by decide) hk9 hFc hP9 hD9
    generalize H1 = H at hP hS ⊢
    have hP : va_P (dC, dI) vwCl (wM h r1 d1 r2 d2 cI 1 n F ct n2 G c2) H := hP
    have hD : va_D A (wM h r1 d1 r2 d2 cI 1 n F ct n2 G c2) := hD
    have hw9 : r = 0 := hw9
    subst hw9
    have hcode : x_for vk = 1 := by exact in_fo.1 c_12
    have hP8 : va_P (dC, dI) vwCl (wM h r1 d1 r2 d2 cI (nI (x_for vk)) n F ct (mo (x_for vk) n n2) (mo (x_for vk) (s_forU n (s_become F G) (cl vk)) G) (mo (x_for vk) (s_forM n (s_become F G) (upd (upd (upd c2 0 (ct 0)) 1 (ct 1)) 2 (ct 2)) (cl vk)) c2)) H := by rw [hcode]; exact hP
    have hD8 : va_D A (wM h r1 d1 r2 d2 cI (nI (x_for vk)) n F ct (mo (x_for vk) n n2) (mo (x_for vk) (s_forU n (s_become F G) (cl vk)) G) (mo (x_for vk) (s_forM n (s_become F G) (upd (upd (upd c2 0 (ct 0)) 1 (ct 1)) 2 (ct 2)) (cl vk)) c2)) := by rw [hcode]; exact hD
    exact W.iret (v := 0) hx hb hr (fun t ht hW => ⟨⟨_, (), rfl, (show 0 = mo (x_for vk) (s_hi n (s_forU n (s_become F G) (cl vk))) 0 from by rw [hcode]; rfl), by rw [ht]; exact hP8, hD8⟩, hS.F ht⟩) hS.2.2 dX3_foresee_20

set_option maxHeartbeats 4000000 in
set_option maxRecDepth 100000 in
theorem c_X3_mean (l : Launch) (dC : Nat → ClassId) (dI : Nat → Nat → Nat) (cI : ClassId) (h r1 : Nat) (d1 : Nat → Nat) (r2 : Nat) (d2 : Nat → Nat) (th : Int32) (n : Nat) (F : Nat → Nat → Int32) (ct : Nat → Int32) (n2 : Nat) (G : Nat → Nat → Int32) (c2 : Nat → Int32) (sz : Nat) (hn : n ≤ 12) : MetD lw_cs l yX3_mean wsX3_mean ({ frames := 0, cells := 0, slots := 0, locals := 0 } : Room) (va_Pc [.ref h] (fun U => PW dC dI cI (wM h r1 d1 r2 d2 cI th n F ct n2 G c2) sz U)) (va_Qd (fun r (_ : Unit) => alike64 r (s_mean n F) = true) (BW dC dI (va_A (wM h r1 d1 r2 d2 cI th n F ct n2 G c2) sz) (wM h r1 d1 r2 d2 cI 0 n F ct n2 G c2)) (va_A (wM h r1 d1 r2 d2 cI th n F ct n2 G c2) sz)) 0 0 (va_A (wM h r1 d1 r2 d2 cI th n F ct n2 G c2) sz) := by
  refine MetD.ofW (cc := cX3_mean) (maxL := 3) (ret := (some .double)) (by decide) rfl ?_
  intro p e s m args below meth c s₁ B hml hv hd0
  obtain ⟨rfl, hsz, hP, hK, hD0, hE⟩ := hv
  have hx := B.exec
  have hb := B.bytes
  have hr := B.returns
  have hts := atoms_spec (ws := wsX3_mean) B.pre
  have hown : s.vm.findClass RX3 = some m.cls := findClass_of_methodNamed B.named
  have hlocks := B.notSynchronized
  have hts := dr_words hts s.drawn
  subst hsz
  have hD := hD0.self (sz := s.heap.size)
  generalize hAe : va_A (wM h r1 d1 r2 d2 cI th n F ct n2 G c2) s.heap.size = A at hD hE ⊢
  have hA : ∀ q : Nat, s.heap.size ≤ q → A q := fun q h9 => by rw [← hAe]; exact Or.inr h9
  have hS : va_S A s.heap s.heap [] := va_S.rf
  have hinX2 : ∀ w ∈ wsX20, w ∈ wsX3_mean := by decide +kernel
  have hinX3 : ∀ w ∈ wsX30, w ∈ wsX3_mean := by decide +kernel
  have hl := lv_entry ([.ref h]) (n := 3) (Nat.le_of_ble_eq_true rfl)
  rw [lg_entry_eq]
  generalize (lg_sl ([.ref h]) ++ List.replicate (3 - (lg_sl ([.ref h])).length) Slot.unset).toArray = ls at hl ⊢
  have hl : lv_has ls 3 [(0, .ref h)] := hl
  refine lv_aload_n hx hb dX3_mean_0 rfl (lv_at hl 0 rfl) ?_
  refine lv_iconst (v := 0) hx hb dX3_mean_1 (by decide) ?_
  refine va_put (D := (dC, dI)) (ci := 3) (v := .int 0) (ty := .int) (C := RX3) (T := TX3) (N := 3) hx hb hts hinX3 tyX3 tyX3_ok nmX3 hown hK hP hD hS 0 rfl rfl 0 (by decide) (hts (.fieldLink RX3 19 "WrestleBookModel" "thrown" "I") (by decide +kernel)) (fun _ h9 => h9) rfl (by decide +kernel) rfl rfl (Nat.le_of_ble_eq_true rfl) dX3_mean_2 (fun H locs hP hD hS => ?_)
  have hP : va_P (dC, dI) vwCl (wM h r1 d1 r2 d2 cI 0 n F ct n2 G c2) H := hP
  have hD : va_D A (wM h r1 d1 r2 d2 cI 0 n F ct n2 G c2) := hD
  refine lv_iconst (v := 0) hx hb dX3_mean_5 (by decide) ?_
  refine lv_istore_n (lv' := [(1, .int 0), (0, .ref h)]) hx hb dX3_mean_6 rfl hl (by decide) rfl (fun ls hl => ?_)
  refine lv_iconst (v := 0) hx hb dX3_mean_7 (by decide) ?_
  refine lv_istore_n (lv' := [(2, .int 0), (1, .int 0), (0, .ref h)]) hx hb dX3_mean_8 rfl hl (by decide) rfl (fun ls hl => ?_)
  have L_9 : ∀ (k i : Nat) (x1 : Int32), i + k = n → x1 = s_sumU F i → ∀ (ls : Array Slot), lv_has ls 3 [(2, .int (nI i)), (1, .int x1), (0, .ref h)] → W p l e (headSpec wsX3_mean ({ frames := 0, cells := 0, slots := 0, locals := 0 } : Room)).room (s.setDrawn s.drawn) m ([.ref h] : List Value).toArray below meth c H locs 0 0 (MQD lw_cs below (va_Qd (fun r (_ : Unit) => alike64 r (s_mean n F) = true) (BW dC dI A (wM h r1 d1 r2 d2 cI 0 n F ct n2 G c2)) A) ([.ref h] : List Value).toArray s 0 0 A) (F0 m 9 ls []) := by
    intro k
    induction k with
    | zero =>
      intro i x1 e_i hx1 ls hl
      refine lv_iload_n hx hb dX3_mean_9 rfl (lv_at hl 0 rfl) ?_
      refine lv_aload_n hx hb dX3_mean_10 rfl (lv_at hl 2 rfl) ?_
      refine va_get (D := (dC, dI)) (ci := 3) (v := .ref r1) (C := RX3) (T := TX3) (N := 3) hx hb hts hinX3 hown hK hP 0 rfl rfl 1 (by decide) (hts (.fieldLink RX3 10 "WrestleBookModel" "s" "LWrestleBookModel$State;") (by decide +kernel)) (fun _ h9 => h9) rfl dX3_mean_11 ?_
      refine va_getN (D := (dC, dI)) (ci := 2) (v := .int (nI n)) (C := RX2) (T := TX2) (N := 11) (host := "WrestleBookModel") hx hb hts hinX2 hown hK hP 1 rfl rfl 1 (by decide) (va_Nw.use rfl (hE.2.2.1 (.fieldLinkNest RX3 23 "WrestleBookModel$State" "wrestlers" "I" "WrestleBookModel") (by decide +kernel))) (fun _ h9 => h9) rfl dX3_mean_14 ?_
      refine rv_icmp_ge (tgt := 38) hx hb (a := i) (b := n) (by omega) (by omega) dX3_mean_17 (by decide) (fun c_17 => ?_) (fun c_17 => ?_)
      · refine lv_aload_n hx hb dX3_mean_38 rfl (lv_at hl 2 rfl) ?_
        refine va_get (D := (dC, dI)) (ci := 3) (v := .ref r1) (C := RX3) (T := TX3) (N := 3) hx hb hts hinX3 hown hK hP 0 rfl rfl 1 (by decide) (hts (.fieldLink RX3 10 "WrestleBookModel" "s" "LWrestleBookModel$State;") (by decide +kernel)) (fun _ h9 => h9) rfl dX3_mean_39 ?_
        refine va_getN (D := (dC, dI)) (ci := 2) (v := .int (nI n)) (C := RX2) (T := TX2) (N := 11) (host := "WrestleBookModel") hx hb hts hinX2 hown hK hP 1 rfl rfl 1 (by decide) (va_Nw.use rfl (hE.2.2.1 (.fieldLinkNest RX3 23 "WrestleBookModel$State" "wrestlers" "I" "WrestleBookModel") (by decide +kernel))) (fun _ h9 => h9) rfl dX3_mean_42 ?_
        refine lv_if_ne (tgt := 52) hx hb dX3_mean_45 (by decide) (fun c_45 => ?_) (fun c_45 => ?_)
        · have hn0 : ¬ n = 0 := fun q => c_45 (by rw [q]; rfl)
          refine lv_iload_n hx hb dX3_mean_52 rfl (lv_at hl 1 rfl) ?_
          refine lv_i2d hx hb dX3_mean_53 ?_
          refine lv_aload_n hx hb dX3_mean_54 rfl (lv_at hl 2 rfl) ?_
          refine va_get (D := (dC, dI)) (ci := 3) (v := .ref r1) (C := RX3) (T := TX3) (N := 3) hx hb hts hinX3 hown hK hP 0 rfl rfl 1 (by decide) (hts (.fieldLink RX3 10 "WrestleBookModel" "s" "LWrestleBookModel$State;") (by decide +kernel)) (fun _ h9 => h9) rfl dX3_mean_55 ?_
          refine va_getN (D := (dC, dI)) (ci := 2) (v := .int (nI n)) (C := RX2) (T := TX2) (N := 11) (host := "WrestleBookModel") hx hb hts hinX2 hown hK hP 1 rfl rfl 1 (by decide) (va_Nw.use rfl (hE.2.2.1 (.fieldLinkNest RX3 23 "WrestleBookModel$State" "wrestlers" "I" "WrestleBookModel") (by decide +kernel))) (fun _ h9 => h9) rfl dX3_mean_58 ?_
          refine lv_i2d hx hb dX3_mean_61 ?_
          refine lv_ddiv_any hd0 lw_bits hx hb dX3_mean_62 (fun r dr1 hal hd1 => ?_)
          have hP8 : va_P (dC, dI) vwCl (wM h r1 d1 r2 d2 cI 0 n F ct n2 G c2) H := hP
          have hD8 : va_D A (wM h r1 d1 r2 d2 cI 0 n F ct n2 G c2) := hD
          refine W.endD hd1 ?_
          exact W.dret (v := r) hx hb hr (fun t ht hW => ⟨⟨_, (), rfl, (show alike64 (r) (s_mean n F) = true from by rw [s_mean, if_neg hn0, show s_sum n F = x1 from by rw [hx1, show i = n by omega]; rfl]; exact hal), by rw [ht]; exact hP8, hD8⟩, hS.F ht⟩) hS.2.2 dX3_mean_63
        · have hn0 : n = 0 := (nI_eq (by omega) (by decide)).mp c_45
          refine lv_dconst0 hx hb dX3_mean_48 ?_
          refine lv_goto (tgt := 63) hx hb dX3_mean_49 (by decide) ?_
          have hP8 : va_P (dC, dI) vwCl (wM h r1 d1 r2 d2 cI 0 n F ct n2 G c2) H := hP
          have hD8 : va_D A (wM h r1 d1 r2 d2 cI 0 n F ct n2 G c2) := hD
          refine W.endD hd0 ?_
          exact W.dret (v := FP.dconst0) hx hb hr (fun t ht hW => ⟨⟨_, (), rfl, (show alike64 (FP.dconst0) (s_mean n F) = true from by rw [s_mean, if_pos hn0]; exact alike_rfl _), by rw [ht]; exact hP8, hD8⟩, hS.F ht⟩) hS.2.2 dX3_mean_63
      · exact absurd c_17 (by omega)
    | succ k ih_9 =>
      intro i x1 e_i hx1 ls hl
      refine lv_iload_n hx hb dX3_mean_9 rfl (lv_at hl 0 rfl) ?_
      refine lv_aload_n hx hb dX3_mean_10 rfl (lv_at hl 2 rfl) ?_
      refine va_get (D := (dC, dI)) (ci := 3) (v := .ref r1) (C := RX3) (T := TX3) (N := 3) hx hb hts hinX3 hown hK hP 0 rfl rfl 1 (by decide) (hts (.fieldLink RX3 10 "WrestleBookModel" "s" "LWrestleBookModel$State;") (by decide +kernel)) (fun _ h9 => h9) rfl dX3_mean_11 ?_
      refine va_getN (D := (dC, dI)) (ci := 2) (v := .int (nI n)) (C := RX2) (T := TX2) (N := 11) (host := "WrestleBookModel") hx hb hts hinX2 hown hK hP 1 rfl rfl 1 (by decide) (va_Nw.use rfl (hE.2.2.1 (.fieldLinkNest RX3 23 "WrestleBookModel$State" "wrestlers" "I" "WrestleBookModel") (by decide +kernel))) (fun _ h9 => h9) rfl dX3_mean_14 ?_
      refine rv_icmp_ge (tgt := 38) hx hb (a := i) (b := n) (by omega) (by omega) dX3_mean_17 (by decide) (fun c_17 => ?_) (fun c_17 => ?_)
      · exact absurd c_17 (by omega)
      · refine lv_iload_n hx hb dX3_mean_20 rfl (lv_at hl 1 rfl) ?_
        refine lv_aload_n hx hb dX3_mean_21 rfl (lv_at hl 2 rfl) ?_
        refine va_get (D := (dC, dI)) (ci := 3) (v := .ref r1) (C := RX3) (T := TX3) (N := 3) hx hb hts hinX3 hown hK hP 0 rfl rfl 1 (by decide) (hts (.fieldLink RX3 10 "WrestleBookModel" "s" "LWrestleBookModel$State;") (by decide +kernel)) (fun _ h9 => h9) rfl dX3_mean_22 ?_
        refine va_getN (D := (dC, dI)) (ci := 2) (v := .ref (d1 1)) (C := RX2) (T := TX2) (N := 11) (host := "WrestleBookModel") hx hb hts hinX2 hown hK hP 1 rfl rfl 4 (by decide) (va_Nw.use rfl (hE.2.2.1 (.fieldLinkNest RX3 34 "WrestleBookModel$State" "rating" "[I" "WrestleBookModel") (by decide +kernel))) (fun _ h9 => h9) rfl dX3_mean_25 ?_
        refine lv_iload_n hx hb dX3_mean_28 rfl (lv_at hl 0 rfl) ?_
        refine rv_iald (k := i) hx hb hK hP 3 0 rfl rfl (show i < 12 by omega) (by decide) dX3_mean_29 ?_
        refine lv_iadd hx hb dX3_mean_30 ?_
        refine lv_istore_n (lv' := [(1, .int (x1 + (F 1 i))), (2, .int (nI i)), (0, .ref h)]) hx hb dX3_mean_31 rfl hl (by decide) rfl (fun ls hl => ?_)
        refine lv_iinc (v := nI (i + 1)) (lv' := [(2, .int (nI (i + 1))), (1, .int (x1 + (F 1 i))), (0, .ref h)]) hx hb dX3_mean_32 hl (k := 1) rfl (nI_add i 1) (by decide) rfl (fun ls hl => ?_)
        refine lv_goto (tgt := 9) hx hb dX3_mean_35 (by decide) ?_
        exact ih_9 (i + 1) (x1 + (F 1 i)) (by omega) (by rw [hx1]; rfl) ls (lv_sub hl [0, 1, 2] rfl)
  exact L_9 n 0 0 (by omega) rfl ls (lv_sub hl [0, 1, 2] rfl)

set_option maxHeartbeats 4000000 in
set_option maxRecDepth 100000 in
theorem c_X3_digest (l : Launch) (dC : Nat → ClassId) (dI : Nat → Nat → Nat) (cI : ClassId) (h r1 : Nat) (d1 : Nat → Nat) (r2 : Nat) (d2 : Nat → Nat) (th : Int32) (n : Nat) (F : Nat → Nat → Int32) (ct : Nat → Int32) (n2 : Nat) (G : Nat → Nat → Int32) (c2 : Nat → Int32) (sz : Nat) (hn : n ≤ 12) (hR : okR n F) (hB : okB n F) : Met l yX3_digest wsX3_digest ({ frames := 4, cells := 0, slots := 0, locals := 86 } : Room) (va_Pc [.ref h] (fun U => PW dC dI cI (wM h r1 d1 r2 d2 cI th n F ct n2 G c2) sz U)) (va_Ql (fun r (_ : Unit) => r = s_dig n F ct) (BW dC dI (va_A (wM h r1 d1 r2 d2 cI th n F ct n2 G c2) sz) (wM h r1 d1 r2 d2 cI 0 n F ct n2 G c2)) (va_A (wM h r1 d1 r2 d2 cI th n F ct n2 G c2) sz)) 0 0 (va_A (wM h r1 d1 r2 d2 cI th n F ct n2 G c2) sz) := by
  refine Met.ofW (cc := cX3_digest) (maxL := 5) (ret := (some .long)) (by decide) rfl ?_
  intro p e s m args below meth c s₁ B hml hv
  obtain ⟨rfl, hsz, hP, hK, hD0, hE⟩ := hv
  have hx := B.exec
  have hb := B.bytes
  have hr := B.returns
  have hts := atoms_spec (ws := wsX3_digest) B.pre
  have hown : s.vm.findClass RX3 = some m.cls := findClass_of_methodNamed B.named
  have hlocks := B.notSynchronized
  subst hsz
  have hD := hD0.self (sz := s.heap.size)
  generalize hAe : va_A (wM h r1 d1 r2 d2 cI th n F ct n2 G c2) s.heap.size = A at hD hE ⊢
  have hA : ∀ q : Nat, s.heap.size ≤ q → A q := fun q h9 => by rw [← hAe]; exact Or.inr h9
  have hS : va_S A s.heap s.heap [] := va_S.rf
  have hinX2 : ∀ w ∈ wsX20, w ∈ wsX3_digest := by decide +kernel
  have hinX3 : ∀ w ∈ wsX30, w ∈ wsX3_digest := by decide +kernel
  have hl := lv_entry ([.ref h]) (n := 5) (Nat.le_of_ble_eq_true rfl)
  rw [lg_entry_eq]
  generalize (lg_sl ([.ref h]) ++ List.replicate (5 - (lg_sl ([.ref h])).length) Slot.unset).toArray = ls at hl ⊢
  have hl : lv_has ls 5 [(0, .ref h)] := hl
  refine lv_aload_n hx hb dX3_digest_0 rfl (lv_at hl 0 rfl) ?_
  refine lv_iconst (v := 0) hx hb dX3_digest_1 (by decide) ?_
  refine va_put (D := (dC, dI)) (ci := 3) (v := .int 0) (ty := .int) (C := RX3) (T := TX3) (N := 3) hx hb hts hinX3 tyX3 tyX3_ok nmX3 hown hK hP hD hS 0 rfl rfl 0 (by decide) (hts (.fieldLink RX3 19 "WrestleBookModel" "thrown" "I") (by decide +kernel)) (fun _ h9 => h9) rfl (by decide +kernel) rfl rfl (Nat.le_of_ble_eq_true rfl) dX3_digest_2 (fun H locs hP hD hS => ?_)
  have hP : va_P (dC, dI) vwCl (wM h r1 d1 r2 d2 cI 0 n F ct n2 G c2) H := hP
  have hD : va_D A (wM h r1 d1 r2 d2 cI 0 n F ct n2 G c2) := hD
  refine lv_ldc2 hx hb hown (hts (.constantLong RX3 124 1637) (by decide +kernel)) dX3_digest_5 ?_
  refine lv_lstore_n (lv' := [(1, .long 1637), (0, .ref h)]) hx hb dX3_digest_8 rfl hl (by decide) rfl (fun ls hl => ?_)
  refine lv_iconst (v := 0) hx hb dX3_digest_9 (by decide) ?_
  refine lv_istore_n (lv' := [(3, .int 0), (1, .long 1637), (0, .ref h)]) hx hb dX3_digest_10 rfl hl (by decide) rfl (fun ls hl => ?_)
  have L_11 : ∀ (k1 i1 : Nat) (e1 : Int64), i1 + k1 = 9 → e1 = s_digC n F ct i1 → ∀ (ls : Array Slot), lv_has ls 5 [(3, .int (nI i1)), (1, .long e1), (0, .ref h)] → W p l e (headSpec wsX3_digest ({ frames := 4, cells := 0, slots := 0, locals := 86 } : Room)).room s m ([.ref h] : List Value).toArray below meth c H locs 0 0 (MQ below (va_Ql (fun r (_ : Unit) => r = s_dig n F ct) (BW dC dI A (wM h r1 d1 r2 d2 cI 0 n F ct n2 G c2)) A) ([.ref h] : List Value).toArray s 0 0 A) (F0 m 11 ls []) := by
    intro k1
    induction k1 with
    | zero =>
      intro i1 e1 e_i1 he1 ls hl
      refine lv_iload_n hx hb dX3_digest_11 rfl (lv_at hl 0 rfl) ?_
      refine lv_bipush (v := 9) hx hb dX3_digest_12 (by decide) ?_
      refine rv_icmp_ge (tgt := 36) hx hb (a := i1) (b := 9) (by omega) (by omega) dX3_digest_14 (by decide) (fun c_14 => ?_) (fun c_14 => ?_)
      · refine lv_iconst (v := 0) hx hb dX3_digest_36 (by decide) ?_
        refine lv_istore_n (lv' := [(3, .int 0), (1, .long e1), (0, .ref h)]) hx hb dX3_digest_37 rfl hl (by decide) rfl (fun ls hl => ?_)
        have L_38 : ∀ (k2 i2 : Nat) (e2 : Int64), i2 + k2 = n → e2 = s_digW n F e1 i2 → ∀ (ls : Array Slot), lv_has ls 5 [(3, .int (nI i2)), (1, .long e2), (0, .ref h)] → W p l e (headSpec wsX3_digest ({ frames := 4, cells := 0, slots := 0, locals := 86 } : Room)).room s m ([.ref h] : List Value).toArray below meth c H locs 0 0 (MQ below (va_Ql (fun r (_ : Unit) => r = s_dig n F ct) (BW dC dI A (wM h r1 d1 r2 d2 cI 0 n F ct n2 G c2)) A) ([.ref h] : List Value).toArray s 0 0 A) (F0 m 38 ls []) := by
          intro k2
          induction k2 with
          | zero =>
            intro i2 e2 e_i2 he2 ls hl
            refine lv_iload_n hx hb dX3_digest_38 rfl (lv_at hl 0 rfl) ?_
            refine lv_aload_n hx hb dX3_digest_39 rfl (lv_at hl 2 rfl) ?_
            refine va_get (D := (dC, dI)) (ci := 3) (v := .ref r1) (C := RX3) (T := TX3) (N := 3) hx hb hts hinX3 hown hK hP 0 rfl rfl 1 (by decide) (hts (.fieldLink RX3 10 "WrestleBookModel" "s" "LWrestleBookModel$State;") (by decide +kernel)) (fun _ h9 => h9) rfl dX3_digest_40 ?_
            refine va_getN (D := (dC, dI)) (ci := 2) (v := .int (nI n)) (C := RX2) (T := TX2) (N := 11) (host := "WrestleBookModel") hx hb hts hinX2 hown hK hP 1 rfl rfl 1 (by decide) (va_Nw.use rfl (hE.2.2.1 (.fieldLinkNest RX3 23 "WrestleBookModel$State" "wrestlers" "I" "WrestleBookModel") (by decide +kernel))) (fun _ h9 => h9) rfl dX3_digest_43 ?_
            refine rv_icmp_ge (tgt := 86) hx hb (a := i2) (b := n) (by omega) (by omega) dX3_digest_46 (by decide) (fun c_46 => ?_) (fun c_46 => ?_)
            · refine lv_lload_n hx hb dX3_digest_86 rfl (lv_at hl 1 rfl) ?_
              refine lv_ldc2 hx hb hown (hts (.constantLong RX3 126 31) (by decide +kernel)) dX3_digest_87 ?_
              refine lv_lmul hx hb dX3_digest_90 ?_
              refine lv_aload_n hx hb dX3_digest_91 rfl (lv_at hl 2 rfl) ?_
              refine va_get (D := (dC, dI)) (ci := 3) (v := .ref r1) (C := RX3) (T := TX3) (N := 3) hx hb hts hinX3 hown hK hP 0 rfl rfl 1 (by decide) (hts (.fieldLink RX3 10 "WrestleBookModel" "s" "LWrestleBookModel$State;") (by decide +kernel)) (fun _ h9 => h9) rfl dX3_digest_92 ?_
              refine vp_callSi (W.runV (As := []) (rest := [.long (e2 * 31)]) ⟨hx, hb, hml, hown, hts⟩ (c_X2_next l dC dI cI r1 d1 n F ct hn hR hB) (cwV 0 hts gX3_digest_X2_next rfl rfl rfl (by decide +kernel) ⟨Nat.le_of_ble_eq_true rfl, Nat.le_of_ble_eq_true rfl⟩) ⟨PR.blind, va_recv hK hP (ci := 2) (q0 := 1) rfl rfl, fun U hU hW => ⟨rfl, PR.go (hP.sub (ws' := (wS r1 d1 cI n F ct)) [1, 2, 3, 4, 5, 6, 7, 8] rfl) hK hE hS hU hW⟩⟩ rfl rfl hl.1 rfl (lv_room (Nat.le_of_ble_eq_true rfl)) dX3_digest_95 ⟨Nat.le_of_ble_eq_true rfl, Nat.le_of_ble_eq_true rfl⟩) (fun r hr0 => ?_)
              subst hr0
              refine lv_i2l hx hb dX3_digest_98 rfl ?_
              refine lv_ladd hx hb dX3_digest_99 ?_
              have hP8 : va_P (dC, dI) vwCl (wM h r1 d1 r2 d2 cI 0 n F ct n2 G c2) H := hP
              have hD8 : va_D A (wM h r1 d1 r2 d2 cI 0 n F ct n2 G c2) := hD
              exact W.lret (v := (e2 * 31) + ((s_next n F).toInt64)) hx hb hr (fun t ht hW => ⟨⟨_, (), rfl, (show (e2 * 31) + ((s_next n F).toInt64) = s_dig n F ct from by rw [he2, he1, show i2 = n by omega, show i1 = 9 by omega]; rfl), by rw [ht]; exact hP8, hD8⟩, hS.F ht⟩) hS.2.2 dX3_digest_100
            · exact absurd c_46 (by omega)
          | succ k2 ih_38 =>
            intro i2 e2 e_i2 he2 ls hl
            refine lv_iload_n hx hb dX3_digest_38 rfl (lv_at hl 0 rfl) ?_
            refine lv_aload_n hx hb dX3_digest_39 rfl (lv_at hl 2 rfl) ?_
            refine va_get (D := (dC, dI)) (ci := 3) (v := .ref r1) (C := RX3) (T := TX3) (N := 3) hx hb hts hinX3 hown hK hP 0 rfl rfl 1 (by decide) (hts (.fieldLink RX3 10 "WrestleBookModel" "s" "LWrestleBookModel$State;") (by decide +kernel)) (fun _ h9 => h9) rfl dX3_digest_40 ?_
            refine va_getN (D := (dC, dI)) (ci := 2) (v := .int (nI n)) (C := RX2) (T := TX2) (N := 11) (host := "WrestleBookModel") hx hb hts hinX2 hown hK hP 1 rfl rfl 1 (by decide) (va_Nw.use rfl (hE.2.2.1 (.fieldLinkNest RX3 23 "WrestleBookModel$State" "wrestlers" "I" "WrestleBookModel") (by decide +kernel))) (fun _ h9 => h9) rfl dX3_digest_43 ?_
            refine rv_icmp_ge (tgt := 86) hx hb (a := i2) (b := n) (by omega) (by omega) dX3_digest_46 (by decide) (fun c_46 => ?_) (fun c_46 => ?_)
            · exact absurd c_46 (by omega)
            · refine lv_iconst (v := 0) hx hb dX3_digest_49 (by decide) ?_
              refine lv_istore (lv' := [(4, .int 0), (3, .int (nI i2)), (1, .long e2), (0, .ref h)]) hx hb dX3_digest_50 hl (by decide) rfl (fun ls hl => ?_)
              have L_52 : ∀ (k3 i3 : Nat) (e3 : Int64), i3 + k3 = 9 → e3 = s_digT n F i2 e2 i3 → ∀ (ls : Array Slot), lv_has ls 5 [(4, .int (nI i3)), (3, .int (nI i2)), (1, .long e3), (0, .ref h)] → W p l e (headSpec wsX3_digest ({ frames := 4, cells := 0, slots := 0, locals := 86 } : Room)).room s m ([.ref h] : List Value).toArray below meth c H locs 0 0 (MQ below (va_Ql (fun r (_ : Unit) => r = s_dig n F ct) (BW dC dI A (wM h r1 d1 r2 d2 cI 0 n F ct n2 G c2)) A) ([.ref h] : List Value).toArray s 0 0 A) (F0 m 52 ls []) := by
                intro k3
                induction k3 with
                | zero =>
                  intro i3 e3 e_i3 he3 ls hl
                  refine lv_iload hx hb dX3_digest_52 (lv_at hl 0 rfl) ?_
                  refine lv_bipush (v := 9) hx hb dX3_digest_54 (by decide) ?_
                  refine rv_icmp_ge (tgt := 80) hx hb (a := i3) (b := 9) (by omega) (by omega) dX3_digest_56 (by decide) (fun c_56 => ?_) (fun c_56 => ?_)
                  · refine lv_iinc (v := nI (i2 + 1)) (lv' := [(3, .int (nI (i2 + 1))), (4, .int (nI i3)), (1, .long e3), (0, .ref h)]) hx hb dX3_digest_80 hl (k := 1) rfl (nI_add i2 1) (by decide) rfl (fun ls hl => ?_)
                    refine lv_goto (tgt := 38) hx hb dX3_digest_83 (by decide) ?_
                    exact ih_38 (i2 + 1) e3 (by omega) (by rw [he3, show i3 = 9 by omega, he2]; rfl) ls (lv_sub hl [0, 2, 3] rfl)
                  · exact absurd c_56 (by omega)
                | succ k3 ih_52 =>
                  intro i3 e3 e_i3 he3 ls hl
                  refine lv_iload hx hb dX3_digest_52 (lv_at hl 0 rfl) ?_
                  refine lv_bipush (v := 9) hx hb dX3_digest_54 (by decide) ?_
                  refine rv_icmp_ge (tgt := 80) hx hb (a := i3) (b := 9) (by omega) (by omega) dX3_digest_56 (by decide) (fun c_56 => ?_) (fun c_56 => ?_)
                  · exact absurd c_56 (by omega)
                  · refine lv_lload_n hx hb dX3_digest_59 rfl (lv_at hl 2 rfl) ?_
                    refine lv_ldc2 hx hb hown (hts (.constantLong RX3 126 31) (by decide +kernel)) dX3_digest_60 ?_
                    refine lv_lmul hx hb dX3_digest_63 ?_
                    refine lv_aload_n hx hb dX3_digest_64 rfl (lv_at hl 3 rfl) ?_
                    refine lv_iload_n hx hb dX3_digest_65 rfl (lv_at hl 1 rfl) ?_
                    refine lv_iload hx hb dX3_digest_66 (lv_at hl 0 rfl) ?_
                    refine vp_callSi (W.runV (As := [.int (nI i2), .int (nI i3)]) (rest := [.long (e3 * 31)]) ⟨hx, hb, hml, hown, hts⟩ (c_X3_wrestlerTold l dC dI cI h r1 d1 r2 d2 0 n F ct n2 G c2 i2 (show i2 < n by omega) i3 (show i3 < 9 by omega) hn) (cwV 2 hts gX3_digest_X3_wrestlerTold rfl rfl rfl (by decide +kernel) ⟨Nat.le_of_ble_eq_true rfl, Nat.le_of_ble_eq_true rfl⟩) ⟨PR.blind, va_recv hK hP (ci := 3) (q0 := 0) rfl rfl, fun U hU hW => ⟨rfl, PR.go hP hK hE hS hU hW⟩⟩ rfl rfl hl.1 rfl (lv_room (Nat.le_of_ble_eq_true rfl)) dX3_digest_68 ⟨Nat.le_of_ble_eq_true rfl, Nat.le_of_ble_eq_true rfl⟩) (fun r hr0 => ?_)
                    subst hr0
                    refine lv_i2l hx hb dX3_digest_71 rfl ?_
                    refine lv_ladd hx hb dX3_digest_72 ?_
                    refine lv_lstore_n (lv' := [(1, .long ((e3 * 31) + ((s_told n F i2 (nI i3)).toInt64))), (4, .int (nI i3)), (3, .int (nI i2)), (0, .ref h)]) hx hb dX3_digest_73 rfl hl (by decide) rfl (fun ls hl => ?_)
                    refine lv_iinc (v := nI (i3 + 1)) (lv' := [(4, .int (nI (i3 + 1))), (1, .long ((e3 * 31) + ((s_told n F i2 (nI i3)).toInt64))), (3, .int (nI i2)), (0, .ref h)]) hx hb dX3_digest_74 hl (k := 1) rfl (nI_add i3 1) (by decide) rfl (fun ls hl => ?_)
                    refine lv_goto (tgt := 52) hx hb dX3_digest_77 (by decide) ?_
                    exact ih_52 (i3 + 1) ((e3 * 31) + ((s_told n F i2 (nI i3)).toInt64)) (by omega) (by rw [he3]; rfl) ls (lv_sub hl [0, 2, 1, 3] rfl)
              exact L_52 9 0 e2 (by omega) rfl ls (lv_sub hl [0, 1, 2, 3] rfl)
        exact L_38 n 0 e1 (by omega) rfl ls (lv_sub hl [0, 1, 2] rfl)
      · exact absurd c_14 (by omega)
    | succ k1 ih_11 =>
      intro i1 e1 e_i1 he1 ls hl
      refine lv_iload_n hx hb dX3_digest_11 rfl (lv_at hl 0 rfl) ?_
      refine lv_bipush (v := 9) hx hb dX3_digest_12 (by decide) ?_
      refine rv_icmp_ge (tgt := 36) hx hb (a := i1) (b := 9) (by omega) (by omega) dX3_digest_14 (by decide) (fun c_14 => ?_) (fun c_14 => ?_)
      · exact absurd c_14 (by omega)
      · refine lv_lload_n hx hb dX3_digest_17 rfl (lv_at hl 1 rfl) ?_
        refine lv_ldc2 hx hb hown (hts (.constantLong RX3 126 31) (by decide +kernel)) dX3_digest_18 ?_
        refine lv_lmul hx hb dX3_digest_21 ?_
        refine lv_aload_n hx hb dX3_digest_22 rfl (lv_at hl 2 rfl) ?_
        refine lv_iload_n hx hb dX3_digest_23 rfl (lv_at hl 0 rfl) ?_
        refine vp_callSi (W.runV (As := [.int (nI i1)]) (rest := [.long (e1 * 31)]) ⟨hx, hb, hml, hown, hts⟩ (c_X3_counted l dC dI cI h r1 d1 r2 d2 0 n F ct n2 G c2 i1 (show i1 < 9 by omega) hn hR) (cwV 1 hts gX3_digest_X3_counted rfl rfl rfl (by decide +kernel) ⟨Nat.le_of_ble_eq_true rfl, Nat.le_of_ble_eq_true rfl⟩) ⟨PR.blind, va_recv hK hP (ci := 3) (q0 := 0) rfl rfl, fun U hU hW => ⟨rfl, PR.go hP hK hE hS hU hW⟩⟩ rfl rfl hl.1 rfl (lv_room (Nat.le_of_ble_eq_true rfl)) dX3_digest_24 ⟨Nat.le_of_ble_eq_true rfl, Nat.le_of_ble_eq_true rfl⟩) (fun r hr0 => ?_)
        subst hr0
        refine lv_i2l hx hb dX3_digest_27 rfl ?_
        refine lv_ladd hx hb dX3_digest_28 ?_
        refine lv_lstore_n (lv' := [(1, .long ((e1 * 31) + ((s_cnt n F ct (nI i1)).toInt64))), (3, .int (nI i1)), (0, .ref h)]) hx hb dX3_digest_29 rfl hl (by decide) rfl (fun ls hl => ?_)
        refine lv_iinc (v := nI (i1 + 1)) (lv' := [(3, .int (nI (i1 + 1))), (1, .long ((e1 * 31) + ((s_cnt n F ct (nI i1)).toInt64))), (0, .ref h)]) hx hb dX3_digest_30 hl (k := 1) rfl (nI_add i1 1) (by decide) rfl (fun ls hl => ?_)
        refine lv_goto (tgt := 11) hx hb dX3_digest_33 (by decide) ?_
        exact ih_11 (i1 + 1) ((e1 * 31) + ((s_cnt n F ct (nI i1)).toInt64)) (by omega) (by rw [he1]; rfl) ls (lv_sub hl [0, 1, 2] rfl)
  exact L_11 9 0 1637 (by omega) rfl ls (lv_sub hl [0, 1, 2] rfl)
