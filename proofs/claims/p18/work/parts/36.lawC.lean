/-! The law: a bout that is asked and held, the end of a season -/
theorem up_all {g φ : Nat → Int32} {i : Nat} {x : Int32} (h : ∀ j, j < i → g j = φ j) (hx : x = φ i) : ∀ j, j < i + 1 → upd g i x j = φ j := by
  intro j hj
  by_cases q : j = i
  · subst q; rw [pk_us]; exact hx
  · rw [pk_un q]; exact h j (by omega)
theorem in3 {f : Nat → Int32} {u : Nat} (h : u < 3) : upd (upd (upd (fun _ => 0) 0 (f 0)) 1 (f 1)) 2 (f 2) u = f u := by
  rcases (show u = 0 ∨ u = 1 ∨ u = 2 by omega) with rfl | rfl | rfl <;> rfl
set_option maxHeartbeats 1600000 in
set_option maxRecDepth 100000 in
theorem law_b {p : Program} {l : Launch} {e : Env} {s : State} {m : MethodId} {below : List Frame} {meth : Method} {c : Code} {b L : Nat} {xs : Nat → Int32} {dC : Nat → ClassId} {dI : Nat → Nat → Nat} {A : Nat → Prop} {cI cA : ClassId} {Q : State → Prop} (C0 : LC p l s m meth c b L xs dC dI A cI cA) (mb r1 : Nat) (d1 : Nat → Nat) (r2 : Nat) (d2 : Nat → Nat) (rc h : Nat) (t : Nat) (v : Int32) (n : Nat) (F : Nat → Nat → Int32) (ct : Nat → Int32) (n2 : Nat) (G : Nat → Nat → Int32) (ch : Nat → Int32) (al : Nat) (rw : Nat → Nat) (K Cn Sn : Nat) (hI : INV n F ct K) (hK9 : K ≤ 900) (hC9 : Cn ≤ 600000) (hS9 : Sn ≤ 7301000) (k1240 : ∀ (F : Nat → Nat → Int32) (ct : Nat → Int32) (n2 : Nat) (G : Nat → Nat → Int32), INV n F ct (K + 2) → ∀ (H : Heap) (locs : List Loc), va_P (dC, dI) vwCl (([] : va_W) ++ (wB mb r1 d1 r2 d2 rc cI n F n2 G ct ch ++ wT h al rw cA cI n F ct)) H → va_D A (([] : va_W) ++ (wB mb r1 d1 r2 d2 rc cI n F n2 G ct ch ++ wT h al rw cA cI n F ct)) → va_S A s.heap H locs → ∀ (ls : Array Slot), lv_has ls 29 [(3, .int (nI t)), (2, .ref h), (1, .ref mb), (0, .ref b)] → W p l e room_1 s m #[Value.ref b] below meth c H locs (Cn + 20) (Sn + 120) Q (F0 m 1240 ls [])) (k902 : ∀ (a o j : Nat), a < n → o < n → a ≠ o → j ≤ 2 → ∀ (H : Heap) (locs : List Loc), va_P (dC, dI) vwCl (([] : va_W) ++ (wB mb r1 d1 r2 d2 rc cI n F n2 G ct ch ++ wT h al rw cA cI n F ct)) H → va_D A (([] : va_W) ++ (wB mb r1 d1 r2 d2 rc cI n F n2 G ct ch ++ wT h al rw cA cI n F ct)) → va_S A s.heap H locs → ∀ (ls : Array Slot), lv_has ls 29 [(22, .int (F 1 o)), (21, .int (F 1 a)), (20, .int (s_gain F o a (nI (2 - j)))), (19, .int (s_gain F a o (nI j))), (18, .int (nI j)), (17, .int (nI o)), (16, .int (nI a)), (6, .long (s_dig n F ct)), (5, .int (nI n)), (4, .int v), (3, .int (nI t)), (2, .ref h), (1, .ref mb), (0, .ref b)] → W p l e room_1 s m #[Value.ref b] below meth c H locs Cn Sn Q (F0 m 902 ls [])) (H : Heap) (locs : List Loc) (hP : va_P (dC, dI) vwCl (([] : va_W) ++ (wB mb r1 d1 r2 d2 rc cI n F n2 G ct ch ++ wT h al rw cA cI n F ct)) H) (hD : va_D A (([] : va_W) ++ (wB mb r1 d1 r2 d2 rc cI n F n2 G ct ch ++ wT h al rw cA cI n F ct))) (hS : va_S A s.heap H locs) (ls : Array Slot) (hl : lv_has ls 29 [(6, .long (s_dig n F ct)), (5, .int (nI n)), (4, .int v), (3, .int (nI t)), (2, .ref h), (1, .ref mb), (0, .ref b)]) : W p l e room_1 s m #[Value.ref b] below meth c H locs Cn Sn Q (F0 m 775 ls []) := by
  obtain ⟨hx, hb, hr, hml, hown, hts, hX, hbl, hlocks, hl0, hK, hE, hbA, hA, hL⟩ := C0
  have hinX2 := inlX2
  have hPB : va_P (dC, dI) vwCl (wB mb r1 d1 r2 d2 rc cI n F n2 G ct ch) H := P_l (P_r hP)
  have hPS : va_P (dC, dI) vwCl (wT h al rw cA cI n F ct) H := P_r (P_r hP)
  have hn := hI.n12
  have hR := hI.okR
  refine lv_iload hx hb dL_law_775 (lv_at hl 1 rfl) ?_
  refine lv_iconst (v := 2) hx hb dL_law_777 (by decide) ?_
  refine rv_icmp_ge (tgt := 784) hx hb (a := n) (b := 2) (by omega) (by omega) dL_law_778 (by decide) (fun c_778 => ?_) (fun c_778 => ?_)
  · refine lv_iload hx hb dL_law_784 (lv_at hl 2 rfl) ?_
    refine lv_iconst (v := 3) hx hb dL_law_786 (by decide) ?_
    refine lv_ishr hx hb dL_law_787 ?_
    refine lv_iload hx hb dL_law_788 (lv_at hl 1 rfl) ?_
    refine vp_callSi (W.runS (As := [.int (v >>> ((3 : Int32) &&& 31)), .int (nI n)]) (rest := []) ⟨hx, hb, hml, hown, hts⟩ (c_L_below l (v >>> ((3 : Int32) &&& 31)) n (show 0 < n by omega) (by omega)) (va_cwS 2 hts gL_law_L_below rfl rfl rfl (by decide +kernel) ⟨Nat.le_of_ble_eq_true rfl, Nat.le_of_ble_eq_true rfl⟩) ⟨va_nop_blind, fun U hU hW => ⟨rfl, trivial⟩⟩ rfl rfl hl.1 rfl (lv_room (Nat.le_of_ble_eq_true rfl)) dL_law_790 ⟨(by show _ ≤ 600104; omega), (by show _ ≤ 7301314; omega)⟩) (fun r hr0 => ?_)
    subst hr0
    obtain ⟨a, h_a⟩ : ∃ z : Nat, bel (v >>> ((3 : Int32) &&& 31)) n = z := ⟨_, rfl⟩
    rw [h_a]
    have i_a : a < n := by rw [← h_a]; exact bel_lt _ (by omega)
    refine lv_istore (lv' := [(16, .int (nI a)), (6, .long (s_dig n F ct)), (5, .int (nI n)), (4, .int v), (3, .int (nI t)), (2, .ref h), (1, .ref mb), (0, .ref b)]) hx hb dL_law_793 hl (by decide) rfl (fun ls hl => ?_)
    refine lv_iload hx hb dL_law_795 (lv_at hl 0 rfl) ?_
    refine lv_iconst (v := 1) hx hb dL_law_797 (by decide) ?_
    refine lv_iadd hx hb dL_law_798 ?_
    refine rv_top (y := nI (a + 1)) (nI_1 a) ?_
    refine lv_iload hx hb dL_law_799 (lv_at hl 3 rfl) ?_
    refine lv_iconst (v := 5) hx hb dL_law_801 (by decide) ?_
    refine lv_ishr hx hb dL_law_802 ?_
    refine lv_iload hx hb dL_law_803 (lv_at hl 2 rfl) ?_
    refine lv_iconst (v := 1) hx hb dL_law_805 (by decide) ?_
    refine lv_isub hx hb dL_law_806 ?_
    refine rv_top (y := nI (n - 1)) (pk_sub (a := n) (b := 1) (by omega)) ?_
    refine vp_callSi (W.runS (As := [.int (v >>> ((5 : Int32) &&& 31)), .int (nI (n - 1))]) (rest := [.int (nI (a + 1))]) ⟨hx, hb, hml, hown, hts⟩ (c_L_below l (v >>> ((5 : Int32) &&& 31)) (n - 1) (show 0 < n - 1 by omega) (by omega)) (va_cwS 2 hts gL_law_L_below rfl rfl rfl (by decide +kernel) ⟨Nat.le_of_ble_eq_true rfl, Nat.le_of_ble_eq_true rfl⟩) ⟨va_nop_blind, fun U hU hW => ⟨rfl, trivial⟩⟩ rfl rfl hl.1 rfl (lv_room (Nat.le_of_ble_eq_true rfl)) dL_law_807 ⟨(by show _ ≤ 600104; omega), (by show _ ≤ 7301314; omega)⟩) (fun r hr0 => ?_)
    subst hr0
    obtain ⟨i, h_i⟩ : ∃ z : Nat, bel (v >>> ((5 : Int32) &&& 31)) (n - 1) = z := ⟨_, rfl⟩
    rw [h_i]
    have i_i : i < n - 1 := by rw [← h_i]; exact bel_lt _ (by omega)
    refine lv_iadd hx hb dL_law_810 ?_
    refine rv_top (y := nI (a + 1 + i)) (nI_add _ _) ?_
    refine lv_iload hx hb dL_law_811 (lv_at hl 2 rfl) ?_
    refine lv_irem hx hb dL_law_813 (nI_ne0 (by omega) (by omega)) ?_
    refine rv_top (y := nI ((a + 1 + i) % n)) (pk_rem (d := n) (by omega) (by omega) (by omega)) ?_
    obtain ⟨o, h_o⟩ : ∃ z : Nat, (a + 1 + i) % n = z := ⟨_, rfl⟩
    rw [h_o]
    have hbo : o < n ∧ a ≠ o := by rw [← h_o]; exact bne (by omega) i_a i_i
    obtain ⟨i_o, hao⟩ := hbo
    refine lv_istore (lv' := [(17, .int (nI o)), (16, .int (nI a)), (6, .long (s_dig n F ct)), (5, .int (nI n)), (4, .int v), (3, .int (nI t)), (2, .ref h), (1, .ref mb), (0, .ref b)]) hx hb dL_law_814 hl (by decide) rfl (fun ls hl => ?_)
    refine lv_iload hx hb dL_law_816 (lv_at hl 4 rfl) ?_
    refine lv_bipush (v := 7) hx hb dL_law_818 (by decide) ?_
    refine lv_ishr hx hb dL_law_820 ?_
    refine lv_iconst (v := 3) hx hb dL_law_821 (by decide) ?_
    refine vp_callSi (W.runS (As := [.int (v >>> ((7 : Int32) &&& 31)), .int 3]) (rest := []) ⟨hx, hb, hml, hown, hts⟩ (c_L_below l (v >>> ((7 : Int32) &&& 31)) 3 (show 0 < 3 by omega) (by omega)) (va_cwS 2 hts gL_law_L_below rfl rfl rfl (by decide +kernel) ⟨Nat.le_of_ble_eq_true rfl, Nat.le_of_ble_eq_true rfl⟩) ⟨va_nop_blind, fun U hU hW => ⟨rfl, trivial⟩⟩ rfl rfl hl.1 rfl (lv_room (Nat.le_of_ble_eq_true rfl)) dL_law_822 ⟨(by show _ ≤ 600104; omega), (by show _ ≤ 7301314; omega)⟩) (fun r hr0 => ?_)
    subst hr0
    obtain ⟨j, h_j⟩ : ∃ z : Nat, bel (v >>> ((7 : Int32) &&& 31)) 3 = z := ⟨_, rfl⟩
    rw [h_j]
    have i_j : j < 3 := by rw [← h_j]; exact bel_lt _ (by omega)
    have hj : j ≤ 2 := by omega
    refine lv_istore (lv' := [(18, .int (nI j)), (17, .int (nI o)), (16, .int (nI a)), (6, .long (s_dig n F ct)), (5, .int (nI n)), (4, .int v), (3, .int (nI t)), (2, .ref h), (1, .ref mb), (0, .ref b)]) hx hb dL_law_825 hl (by decide) rfl (fun ls hl => ?_)
    refine lv_aload_n hx hb dL_law_827 rfl (lv_at hl 8 rfl) ?_
    refine lv_iload hx hb dL_law_828 (lv_at hl 2 rfl) ?_
    refine lv_iload hx hb dL_law_830 (lv_at hl 1 rfl) ?_
    refine lv_iload hx hb dL_law_832 (lv_at hl 0 rfl) ?_
    refine lv_iconst (v := 0) hx hb dL_law_834 (by decide) ?_
    refine vp_callSi (W.runV (As := [.int (nI a), .int (nI o), .int (nI j), .int 0]) (rest := []) ⟨hx, hb, hml, hown, hts⟩ (c_X1_wouldK l dC dI cI mb r1 d1 r2 d2 rc n F n2 G ct ch a (show a < n by omega) o (show o < n by omega) j hj 0 (Or.inl rfl) hao hn hR) (cwV 4 hts gL_law_X1_would rfl rfl rfl (by decide +kernel) ⟨Nat.le_of_ble_eq_true rfl, Nat.le_of_ble_eq_true rfl⟩) ⟨PR.blind, va_recv (hK.sub (tys' := [(cI, .int)]) [0] rfl) hPB (ci := 1) (q0 := 0) rfl rfl, fun U hU hW => ⟨rfl, PR.go hPB (hK.sub (tys' := [(cI, .int)]) [0] rfl) hE hS hU hW⟩⟩ rfl rfl hl.1 rfl (lv_room (Nat.le_of_ble_eq_true rfl)) dL_law_835 ⟨(by show _ ≤ 600104; omega), (by show _ ≤ 7301314; omega)⟩) (fun r hr0 => ?_)
    subst hr0
    refine rv_top (y := s_gain F a o (nI j)) (if_pos rfl) ?_
    refine lv_istore (lv' := [(19, .int (s_gain F a o (nI j))), (18, .int (nI j)), (17, .int (nI o)), (16, .int (nI a)), (6, .long (s_dig n F ct)), (5, .int (nI n)), (4, .int v), (3, .int (nI t)), (2, .ref h), (1, .ref mb), (0, .ref b)]) hx hb dL_law_838 hl (by decide) rfl (fun ls hl => ?_)
    refine lv_aload_n hx hb dL_law_840 rfl (lv_at hl 9 rfl) ?_
    refine lv_iload hx hb dL_law_841 (lv_at hl 3 rfl) ?_
    refine lv_iload hx hb dL_law_843 (lv_at hl 2 rfl) ?_
    refine lv_iload hx hb dL_law_845 (lv_at hl 1 rfl) ?_
    refine lv_iconst (v := 1) hx hb dL_law_847 (by decide) ?_
    refine vp_callSi (W.runV (As := [.int (nI a), .int (nI o), .int (nI j), .int 1]) (rest := []) ⟨hx, hb, hml, hown, hts⟩ (c_X1_wouldK l dC dI cI mb r1 d1 r2 d2 rc n F n2 G ct ch a (show a < n by omega) o (show o < n by omega) j hj 1 (Or.inr rfl) hao hn hR) (cwV 4 hts gL_law_X1_would rfl rfl rfl (by decide +kernel) ⟨Nat.le_of_ble_eq_true rfl, Nat.le_of_ble_eq_true rfl⟩) ⟨PR.blind, va_recv (hK.sub (tys' := [(cI, .int)]) [0] rfl) hPB (ci := 1) (q0 := 0) rfl rfl, fun U hU hW => ⟨rfl, PR.go hPB (hK.sub (tys' := [(cI, .int)]) [0] rfl) hE hS hU hW⟩⟩ rfl rfl hl.1 rfl (lv_room (Nat.le_of_ble_eq_true rfl)) dL_law_848 ⟨(by show _ ≤ 600104; omega), (by show _ ≤ 7301314; omega)⟩) (fun r hr0 => ?_)
    subst hr0
    refine rv_top (y := s_gain F o a (nI (2 - j))) (if_neg (by decide)) ?_
    refine lv_istore (lv' := [(20, .int (s_gain F o a (nI (2 - j)))), (19, .int (s_gain F a o (nI j))), (18, .int (nI j)), (17, .int (nI o)), (16, .int (nI a)), (6, .long (s_dig n F ct)), (5, .int (nI n)), (4, .int v), (3, .int (nI t)), (2, .ref h), (1, .ref mb), (0, .ref b)]) hx hb dL_law_851 hl (by decide) rfl (fun ls hl => ?_)
    refine lv_aload_n hx hb dL_law_853 rfl (lv_at hl 10 rfl) ?_
    refine lv_iload hx hb dL_law_854 (lv_at hl 4 rfl) ?_
    refine lv_iconst (v := 0) hx hb dL_law_856 (by decide) ?_
    refine vp_callSi (W.runV (As := [.int (nI a), .int 0]) (rest := []) ⟨hx, hb, hml, hown, hts⟩ (c_X1_toldK l dC dI cI mb r1 d1 r2 d2 rc n F n2 G ct ch a (show a < n by omega) 0 (show 0 < 9 by decide) hn) (cwV 2 hts gL_law_X1_told rfl rfl rfl (by decide +kernel) ⟨Nat.le_of_ble_eq_true rfl, Nat.le_of_ble_eq_true rfl⟩) ⟨PR.blind, va_recv (hK.sub (tys' := [(cI, .int)]) [0] rfl) hPB (ci := 1) (q0 := 0) rfl rfl, fun U hU hW => ⟨rfl, PR.go hPB (hK.sub (tys' := [(cI, .int)]) [0] rfl) hE hS hU hW⟩⟩ rfl rfl hl.1 rfl (lv_room (Nat.le_of_ble_eq_true rfl)) dL_law_857 ⟨(by show _ ≤ 600104; omega), (by show _ ≤ 7301314; omega)⟩) (fun r hr0 => ?_)
    subst hr0
    refine rv_top (y := F 1 a) rfl ?_
    refine lv_istore (lv' := [(21, .int (F 1 a)), (20, .int (s_gain F o a (nI (2 - j)))), (19, .int (s_gain F a o (nI j))), (18, .int (nI j)), (17, .int (nI o)), (16, .int (nI a)), (6, .long (s_dig n F ct)), (5, .int (nI n)), (4, .int v), (3, .int (nI t)), (2, .ref h), (1, .ref mb), (0, .ref b)]) hx hb dL_law_860 hl (by decide) rfl (fun ls hl => ?_)
    refine lv_aload_n hx hb dL_law_862 rfl (lv_at hl 11 rfl) ?_
    refine lv_iload hx hb dL_law_863 (lv_at hl 4 rfl) ?_
    refine lv_iconst (v := 0) hx hb dL_law_865 (by decide) ?_
    refine vp_callSi (W.runV (As := [.int (nI o), .int 0]) (rest := []) ⟨hx, hb, hml, hown, hts⟩ (c_X1_toldK l dC dI cI mb r1 d1 r2 d2 rc n F n2 G ct ch o (show o < n by omega) 0 (show 0 < 9 by decide) hn) (cwV 2 hts gL_law_X1_told rfl rfl rfl (by decide +kernel) ⟨Nat.le_of_ble_eq_true rfl, Nat.le_of_ble_eq_true rfl⟩) ⟨PR.blind, va_recv (hK.sub (tys' := [(cI, .int)]) [0] rfl) hPB (ci := 1) (q0 := 0) rfl rfl, fun U hU hW => ⟨rfl, PR.go hPB (hK.sub (tys' := [(cI, .int)]) [0] rfl) hE hS hU hW⟩⟩ rfl rfl hl.1 rfl (lv_room (Nat.le_of_ble_eq_true rfl)) dL_law_866 ⟨(by show _ ≤ 600104; omega), (by show _ ≤ 7301314; omega)⟩) (fun r hr0 => ?_)
    subst hr0
    refine rv_top (y := F 1 o) rfl ?_
    refine lv_istore (lv' := [(22, .int (F 1 o)), (21, .int (F 1 a)), (20, .int (s_gain F o a (nI (2 - j)))), (19, .int (s_gain F a o (nI j))), (18, .int (nI j)), (17, .int (nI o)), (16, .int (nI a)), (6, .long (s_dig n F ct)), (5, .int (nI n)), (4, .int v), (3, .int (nI t)), (2, .ref h), (1, .ref mb), (0, .ref b)]) hx hb dL_law_869 hl (by decide) rfl (fun ls hl => ?_)
    refine lv_iload hx hb dL_law_871 (lv_at hl 4 rfl) ?_
    refine lv_iconst (v := 2) hx hb dL_law_873 (by decide) ?_
    refine lv_icmp_ne (tgt := 887) hx hb dL_law_874 (by decide) (fun c_874 => ?_) (fun c_874 => ?_)
    · refine lv_iload hx hb dL_law_887 (lv_at hl 4 rfl) ?_
      refine lv_if_ne (tgt := 902) hx hb dL_law_889 (by decide) (fun c_889 => ?_) (fun c_889 => ?_)
      · exact k902 a o j i_a i_o hao hj _ _ hP hD hS ls (lv_sub hl [0, 1, 2, 3, 4, 5, 6, 7, 8, 9, 10, 11, 12, 13] rfl)
      · have hj0 : j = 0 := (nI_eq (by omega) (by decide)).mp c_889
        refine lv_iload hx hb dL_law_892 (lv_at hl 3 rfl) ?_
        refine lv_if_gt (tgt := 930) hx hb dL_law_894 (by decide) (fun c_894 => ?_) (fun c_894 => ?_)
        · exact absurd c_894 (by rw [hj0]; exact gain_los hR i_a i_o)
        · refine lv_iload hx hb dL_law_897 (lv_at hl 2 rfl) ?_
          refine lv_if_lt (tgt := 930) hx hb dL_law_899 (by decide) (fun c_899 => ?_) (fun c_899 => ?_)
          · exact absurd c_899 (by rw [hj0]; exact gain_win hR i_o i_a)
          · exact k902 a o j i_a i_o hao hj _ _ hP hD hS ls (lv_sub hl [0, 1, 2, 3, 4, 5, 6, 7, 8, 9, 10, 11, 12, 13] rfl)
    · have hj2 : j = 2 := (nI_eq (by omega) (by decide)).mp c_874
      refine lv_iload hx hb dL_law_877 (lv_at hl 3 rfl) ?_
      refine lv_if_lt (tgt := 930) hx hb dL_law_879 (by decide) (fun c_879 => ?_) (fun c_879 => ?_)
      · exact absurd c_879 (by rw [hj2]; exact gain_win hR i_a i_o)
      · refine lv_iload hx hb dL_law_882 (lv_at hl 2 rfl) ?_
        refine lv_if_gt (tgt := 930) hx hb dL_law_884 (by decide) (fun c_884 => ?_) (fun c_884 => ?_)
        · exact absurd c_884 (by rw [hj2]; exact gain_los hR i_o i_a)
        · refine lv_iload hx hb dL_law_887 (lv_at hl 4 rfl) ?_
          refine lv_if_ne (tgt := 902) hx hb dL_law_889 (by decide) (fun c_889 => ?_) (fun c_889 => ?_)
          · exact k902 a o j i_a i_o hao hj _ _ hP hD hS ls (lv_sub hl [0, 1, 2, 3, 4, 5, 6, 7, 8, 9, 10, 11, 12, 13] rfl)
          · have hj0 : j = 0 := (nI_eq (by omega) (by decide)).mp c_889
            refine lv_iload hx hb dL_law_892 (lv_at hl 3 rfl) ?_
            refine lv_if_gt (tgt := 930) hx hb dL_law_894 (by decide) (fun c_894 => ?_) (fun c_894 => ?_)
            · exact absurd c_894 (by rw [hj0]; exact gain_los hR i_a i_o)
            · refine lv_iload hx hb dL_law_897 (lv_at hl 2 rfl) ?_
              refine lv_if_lt (tgt := 930) hx hb dL_law_899 (by decide) (fun c_899 => ?_) (fun c_899 => ?_)
              · exact absurd c_899 (by rw [hj0]; exact gain_win hR i_o i_a)
              · exact k902 a o j i_a i_o hao hj _ _ hP hD hS ls (lv_sub hl [0, 1, 2, 3, 4, 5, 6, 7, 8, 9, 10, 11, 12, 13] rfl)
  · refine lv_goto (tgt := 1240) hx hb dL_law_781 (by decide) ?_
    refine W.widen (k := Cn + 20) (n := Sn + 120) (by omega) (by omega) ?_
    exact k1240 F ct n2 G (hI.mono (by omega)) _ _ hP hD hS ls (lv_sub hl [3, 4, 5, 6] rfl)
