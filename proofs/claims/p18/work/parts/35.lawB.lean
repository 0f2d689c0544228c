/-! The law: sums, mean, next, foresee -/
theorem smN_le {F : Nat → Nat → Int32} {k M : Nat} : ∀ n, (∀ i, i < n → cl (F k i) ≤ M) → smN F k n ≤ n * M
  | 0, _ => Nat.zero_le _
  | n + 1, h => by
    rw [smN_s, Nat.succ_mul]
    have h1 := smN_le n (fun i hi => h i (by omega))
    have h2 := h n (by omega)
    omega
theorem INV.s4 {n : Nat} {F : Nat → Nat → Int32} {ct : Nat → Int32} {K : Nat} (h : INV n F ct K) (hK : K ≤ 900) : smN F 4 n ≤ 10800 := by
  have h0 := h.n12
  have h1 := smN_le (F := F) (k := 4) (M := 900) n (fun i hi => by
    obtain ⟨g, r, p, b, s, w, m, e0, e1, e2, e3, e4, e5, e6, h1, h2, h3, h4, h5, h6, h7, h8, h9⟩ := h.wr hi
    rw [e4, cl_nI (by omega)]
    omega)
  have h2 : n * 900 ≤ 12 * 900 := Nat.mul_le_mul_right 900 h0
  omega
set_option maxHeartbeats 16000000 in
set_option maxRecDepth 100000 in
theorem law_n {p : Program} {l : Launch} {e : Env} {s : State} {m : MethodId} {below : List Frame} {meth : Method} {c : Code} {b L : Nat} {xs : Nat → Int32} {dC : Nat → ClassId} {dI : Nat → Nat → Nat} {A : Nat → Prop} {cI cA : ClassId} {Q : State → Prop} (C0 : LC p l s m meth c b L xs dC dI A cI cA) (mb r1 : Nat) (d1 : Nat → Nat) (r2 : Nat) (d2 : Nat → Nat) (rc h : Nat) (t : Nat) (v : Int32) (n : Nat) (F : Nat → Nat → Int32) (ct : Nat → Int32) (n2 : Nat) (G : Nat → Nat → Int32) (ch : Nat → Int32) (al : Nat) (rw : Nat → Nat) (q K Cn Sn : Nat) (P : Nat → Int32) (hI : INV n F ct K) (hK9 : K ≤ 900) (hC9 : Cn ≤ 600000) (hS9 : Sn ≤ 7301000) (hPL : PLI n F n P) (k775 : ∀ (n2 : Nat) (G : Nat → Nat → Int32), ∀ (H : Heap) (locs : List Loc), va_P (dC, dI) vwCl (([] : va_W) ++ (wB mb r1 d1 r2 d2 rc cI n F n2 G ct ch ++ wT h al rw cA cI n F ct)) H → va_D A (([] : va_W) ++ (wB mb r1 d1 r2 d2 rc cI n F n2 G ct ch ++ wT h al rw cA cI n F ct)) → va_S A s.heap H locs → ∀ (ls : Array Slot), lv_has ls 29 [(6, .long (s_dig n F ct)), (5, .int (nI n)), (4, .int v), (3, .int (nI t)), (2, .ref h), (1, .ref mb), (0, .ref b)] → W p l e room_1 s m #[Value.ref b] below meth c H locs Cn Sn Q (F0 m 775 ls [])) (H : Heap) (locs : List Loc) (hP : va_P (dC, dI) vwCl (([(q, .inl (cI, 3, .inl (P)))] : va_W) ++ (wB mb r1 d1 r2 d2 rc cI n F n2 G ct ch ++ wT h al rw cA cI n F ct)) H) (hD : va_D A (([(q, .inl (cI, 3, .inl (P)))] : va_W) ++ (wB mb r1 d1 r2 d2 rc cI n F n2 G ct ch ++ wT h al rw cA cI n F ct))) (hS : va_S A s.heap H locs) (ls : Array Slot) (hl : lv_has ls 29 [(15, .int (nI n)), (14, .int (s_loU F 9999 n)), (13, .int (s_hiU F n)), (12, .ref q), (11, .int (nI (smN F 2 n))), (10, .int (nI (smN F 4 n))), (9, .int (nI (smN F 3 n))), (8, .int (s_sumU F n)), (6, .long (s_dig n F ct)), (5, .int (nI n)), (4, .int v), (3, .int (nI t)), (2, .ref h), (1, .ref mb), (0, .ref b)]) : W p l e room_1 s m #[Value.ref b] below meth c H locs Cn Sn Q (F0 m 572 ls []) := by
  obtain ⟨hx, hb, hr, hml, hown, hts, hX, hbl, hlocks, hl0, hK, hE, hbA, hA, hL⟩ := C0
  have hinX2 := inlX2
  have hPB : va_P (dC, dI) vwCl (wB mb r1 d1 r2 d2 rc cI n F n2 G ct ch) H := P_l (P_r hP)
  have hPS : va_P (dC, dI) vwCl (wT h al rw cA cI n F ct) H := P_r (P_r hP)
  have hn := hI.n12
  have hR := hI.okR
  have hS4b := hI.s4 hK9
  obtain ⟨-, -, ⟨B9, U9, ec1, ec2, hUB, hBK, hS3⟩, hS24, hS4⟩ := hI
  refine lv_iconst (v := 0) hx hb dL_law_572 (by decide) ?_
  refine lv_istore (lv' := [(15, .int 0), (14, .int (s_loU F 9999 n)), (13, .int (s_hiU F n)), (12, .ref q), (11, .int (nI (smN F 2 n))), (10, .int (nI (smN F 4 n))), (9, .int (nI (smN F 3 n))), (8, .int (s_sumU F n)), (6, .long (s_dig n F ct)), (5, .int (nI n)), (4, .int v), (3, .int (nI t)), (2, .ref h), (1, .ref mb), (0, .ref b)]) hx hb dL_law_573 hl (by decide) rfl (fun ls hl => ?_)
  have L_575 : ∀ (ku u : Nat), u + ku = 3 → ∀ (H : Heap) (locs : List Loc), va_P (dC, dI) vwCl (([(q, .inl (cI, 3, .inl (P)))] : va_W) ++ (wB mb r1 d1 r2 d2 rc cI n F n2 G ct ch ++ wT h al rw cA cI n F ct)) H → va_D A (([(q, .inl (cI, 3, .inl (P)))] : va_W) ++ (wB mb r1 d1 r2 d2 rc cI n F n2 G ct ch ++ wT h al rw cA cI n F ct)) → va_S A s.heap H locs → ∀ (ls : Array Slot), lv_has ls 29 [(15, .int (nI u)), (14, .int (s_loU F 9999 n)), (13, .int (s_hiU F n)), (12, .ref q), (11, .int (nI (smN F 2 n))), (10, .int (nI (smN F 4 n))), (9, .int (nI (smN F 3 n))), (8, .int (s_sumU F n)), (6, .long (s_dig n F ct)), (5, .int (nI n)), (4, .int v), (3, .int (nI t)), (2, .ref h), (1, .ref mb), (0, .ref b)] → W p l e room_1 s m #[Value.ref b] below meth c H locs Cn Sn Q (F0 m 575 ls []) := by
    intro ku
    induction ku with
    | zero =>
      intro u e_u H locs hP hD hS ls hl
      have hPB : va_P (dC, dI) vwCl (wB mb r1 d1 r2 d2 rc cI n F n2 G ct ch) H := P_l (P_r hP)
      have hPS : va_P (dC, dI) vwCl (wT h al rw cA cI n F ct) H := P_r (P_r hP)
      refine lv_iload hx hb dL_law_575 (lv_at hl 0 rfl) ?_
      refine lv_iconst (v := 3) hx hb dL_law_577 (by decide) ?_
      refine rv_icmp_ge (tgt := 609) hx hb (a := u) (b := 3) (by omega) (by omega) dL_law_578 (by decide) (fun c_578 => ?_) (fun c_578 => ?_)
      · refine lv_iload hx hb dL_law_609 (lv_at hl 4 rfl) ?_
        refine lv_iload hx hb dL_law_611 (lv_at hl 5 rfl) ?_
        refine lv_icmp_ne (tgt := 697) hx hb dL_law_613 (by decide) (fun c_613 => ?_) (fun c_613 => ?_)
        · exact absurd (show nI (smN F 2 n) = nI (smN F 4 n) by rw [hS24]) c_613
        · refine lv_iload hx hb dL_law_616 (lv_at hl 6 rfl) ?_
          refine lv_iconst (v := 2) hx hb dL_law_618 (by decide) ?_
          refine lv_aload_n hx hb dL_law_619 rfl (lv_at hl 13 rfl) ?_
          refine lv_iconst (v := 2) hx hb dL_law_620 (by decide) ?_
          refine vp_callSi (W.runV (As := [.int 2]) (rest := [.int 2, .int (nI (smN F 3 n))]) ⟨hx, hb, hml, hown, hts⟩ (c_X1_countK l dC dI cI mb r1 d1 r2 d2 rc n F n2 G ct ch 2 (show 2 < 9 by decide) hn) (cwV 1 hts gL_law_X1_count rfl rfl rfl (by decide +kernel) ⟨Nat.le_of_ble_eq_true rfl, Nat.le_of_ble_eq_true rfl⟩) ⟨PR.blind, va_recv (hK.sub (tys' := [(cI, .int)]) [0] rfl) hPB (ci := 1) (q0 := 0) rfl rfl, fun U hU hW => ⟨rfl, PR.go hPB (hK.sub (tys' := [(cI, .int)]) [0] rfl) hE hS hU hW⟩⟩ rfl rfl hl.1 rfl (lv_room (Nat.le_of_ble_eq_true rfl)) dL_law_621 ⟨(by show _ ≤ 600104; omega), (by show _ ≤ 7301314; omega)⟩) (fun r hr0 => ?_)
          subst hr0
          refine rv_top (y := nI B9) ec1 ?_
          refine lv_imul hx hb dL_law_624 ?_
          refine rv_top (y := nI (2 * B9)) (Int32.ofNat_mul 2 B9).symm ?_
          refine lv_icmp_ne (tgt := 697) hx hb dL_law_625 (by decide) (fun c_625 => ?_) (fun c_625 => ?_)
          · exact absurd (show nI (smN F 3 n) = nI (2 * B9) by rw [hS3]) c_625
          · refine lv_iload hx hb dL_law_628 (lv_at hl 5 rfl) ?_
            refine lv_iconst (v := 2) hx hb dL_law_630 (by decide) ?_
            refine lv_irem hx hb dL_law_631 (by decide) ?_
            refine rv_top (y := nI (smN F 4 n % 2)) (pk_rem (d := 2) (by omega) (by decide) (by decide)) ?_
            refine lv_if_ne (tgt := 697) hx hb dL_law_632 (by decide) (fun c_632 => ?_) (fun c_632 => ?_)
            · exact absurd (show nI (smN F 4 n % 2) = 0 by rw [hS4]; rfl) c_632
            · refine lv_iload hx hb dL_law_635 (lv_at hl 9 rfl) ?_
              refine lv_if_le (tgt := 684) hx hb dL_law_637 (by decide) (fun c_637 => ?_) (fun c_637 => ?_)
              · refine lv_aload_n hx hb dL_law_684 rfl (lv_at hl 13 rfl) ?_
                refine lv_iconst (v := 3) hx hb dL_law_685 (by decide) ?_
                refine vp_callSi (W.runV (As := [.int 3]) (rest := []) ⟨hx, hb, hml, hown, hts⟩ (c_X1_countK l dC dI cI mb r1 d1 r2 d2 rc n F n2 G ct ch 3 (show 3 < 9 by decide) hn) (cwV 1 hts gL_law_X1_count rfl rfl rfl (by decide +kernel) ⟨Nat.le_of_ble_eq_true rfl, Nat.le_of_ble_eq_true rfl⟩) ⟨PR.blind, va_recv (hK.sub (tys' := [(cI, .int)]) [0] rfl) hPB (ci := 1) (q0 := 0) rfl rfl, fun U hU hW => ⟨rfl, PR.go hPB (hK.sub (tys' := [(cI, .int)]) [0] rfl) hE hS hU hW⟩⟩ rfl rfl hl.1 rfl (lv_room (Nat.le_of_ble_eq_true rfl)) dL_law_686 ⟨(by show _ ≤ 600104; omega), (by show _ ≤ 7301314; omega)⟩) (fun r hr0 => ?_)
                subst hr0
                refine rv_top (y := nI U9) ec2 ?_
                refine lv_aload_n hx hb dL_law_689 rfl (lv_at hl 13 rfl) ?_
                refine lv_iconst (v := 2) hx hb dL_law_690 (by decide) ?_
                refine vp_callSi (W.runV (As := [.int 2]) (rest := [.int (nI U9)]) ⟨hx, hb, hml, hown, hts⟩ (c_X1_countK l dC dI cI mb r1 d1 r2 d2 rc n F n2 G ct ch 2 (show 2 < 9 by decide) hn) (cwV 1 hts gL_law_X1_count rfl rfl rfl (by decide +kernel) ⟨Nat.le_of_ble_eq_true rfl, Nat.le_of_ble_eq_true rfl⟩) ⟨PR.blind, va_recv (hK.sub (tys' := [(cI, .int)]) [0] rfl) hPB (ci := 1) (q0 := 0) rfl rfl, fun U hU hW => ⟨rfl, PR.go hPB (hK.sub (tys' := [(cI, .int)]) [0] rfl) hE hS hU hW⟩⟩ rfl rfl hl.1 rfl (lv_room (Nat.le_of_ble_eq_true rfl)) dL_law_691 ⟨(by show _ ≤ 600104; omega), (by show _ ≤ 7301314; omega)⟩) (fun r hr0 => ?_)
                subst hr0
                refine rv_top (y := nI B9) ec1 ?_
                refine lv_icmp_le (tgt := 699) hx hb dL_law_694 (by decide) (fun c_694 => ?_) (fun c_694 => ?_)
                · refine lv_aload_n hx hb dL_law_699 rfl (lv_at hl 13 rfl) ?_
                  refine vp_callSi (W.runV (As := []) (rest := []) ⟨hx, hb, hml, hown, hts⟩ (c_X1_next l dC dI cI mb r1 d1 r2 d2 rc n F n2 G ct ch hn hR) (cwV 0 hts gL_law_X1_next rfl rfl rfl (by decide +kernel) ⟨Nat.le_of_ble_eq_true rfl, Nat.le_of_ble_eq_true rfl⟩) ⟨PR.blind, va_recv (hK.sub (tys' := [(cI, .int)]) [0] rfl) hPB (ci := 1) (q0 := 0) rfl rfl, fun U hU hW => ⟨rfl, PR.go hPB (hK.sub (tys' := [(cI, .int)]) [0] rfl) hE hS hU hW⟩⟩ rfl rfl hl.1 rfl (lv_room (Nat.le_of_ble_eq_true rfl)) dL_law_700 ⟨(by show _ ≤ 600104; omega), (by show _ ≤ 7301314; omega)⟩) (fun r hr0 => ?_)
                  subst hr0
                  rcases next_c hn F with z9 | ⟨na, nb, nlt, nbn, neq, z9⟩
                  · refine rv_top (y := -1) z9 ?_
                    refine lv_istore (lv' := [(15, .int (-1)), (14, .int (s_loU F 9999 n)), (13, .int (s_hiU F n)), (12, .ref q), (11, .int (nI (smN F 2 n))), (10, .int (nI (smN F 4 n))), (9, .int (nI (smN F 3 n))), (8, .int (s_sumU F n)), (6, .long (s_dig n F ct)), (5, .int (nI n)), (4, .int v), (3, .int (nI t)), (2, .ref h), (1, .ref mb), (0, .ref b)]) hx hb dL_law_703 hl (by decide) rfl (fun ls hl => ?_)
                    refine lv_iload hx hb dL_law_705 (lv_at hl 0 rfl) ?_
                    refine lv_if_lt (tgt := 748) hx hb dL_law_707 (by decide) (fun c_707 => ?_) (fun c_707 => ?_)
                    · refine lv_iload hx hb dL_law_748 (lv_at hl 9 rfl) ?_
                      refine lv_if_le (tgt := 763) hx hb dL_law_750 (by decide) (fun c_750 => ?_) (fun c_750 => ?_)
                      · refine lv_aload_n hx hb dL_law_763 rfl (lv_at hl 13 rfl) ?_
                        refine vp_callSl (W.runV (As := []) (rest := []) ⟨hx, hb, hml, hown, hts⟩ (c_X1_digest l dC dI cI mb r1 d1 r2 d2 rc n F n2 G ct ch hn hR) (cwV 0 hts gL_law_X1_digest rfl rfl rfl (by decide +kernel) ⟨Nat.le_of_ble_eq_true rfl, Nat.le_of_ble_eq_true rfl⟩) ⟨PR.blind, va_recv (hK.sub (tys' := [(cI, .int)]) [0] rfl) hPB (ci := 1) (q0 := 0) rfl rfl, fun U hU hW => ⟨rfl, PR.go hPB (hK.sub (tys' := [(cI, .int)]) [0] rfl) hE hS hU hW⟩⟩ rfl rfl hl.1 rfl (lv_room (Nat.le_of_ble_eq_true rfl)) dL_law_764 ⟨(by show _ ≤ 600104; omega), (by show _ ≤ 7301314; omega)⟩) (fun r hr0 => ?_)
                        subst hr0
                        refine lv_lload hx hb dL_law_767 (lv_at hl 8 rfl) ?_
                        refine rv_lcmp0 hx hb (rfl) dL_law_769 ?_
                        refine lv_if_eq (tgt := 775) hx hb dL_law_770 (by decide) (fun c_770 => ?_) (fun c_770 => ?_)
                        · have hP := P_r hP
                          have hD := D_r hD
                          exact k775 n2 G _ _ hP hD hS ls (lv_sub hl [8, 9, 10, 11, 12, 13, 14] rfl)
                        · exact absurd (by decide) c_770
                      · refine lv_aload_n hx hb dL_law_753 rfl (lv_at hl 13 rfl) ?_
                        refine lv_iconst (v := 1) hx hb dL_law_754 (by decide) ?_
                        have hDB := D_l (D_r hD)
                        have hFc := free_all hDB hS hA
                        refine va_calli (va_runV (As := [.int 1]) (rest := []) ⟨hx, hb, hml, hown, hts⟩ (c_X1_foreseeK l dC dI cI mb r1 d1 r2 d2 rc n F n2 G ct ch H.size 1 (by decide) (by decide) hn hR) (cwV 1 hts gL_law_X1_foresee rfl rfl rfl (by decide +kernel) ⟨Nat.le_of_ble_eq_true rfl, Nat.le_of_ble_eq_true rfl⟩) ⟨PW.blind, va_recv (hK.sub (tys' := [(cI, .int)]) [0] rfl) hPB (ci := 1) (q0 := 0) rfl rfl, fun U hU hW => ⟨rfl, PW.go hPB (hK.sub (tys' := [(cI, .int)]) [0] rfl) hDB hE hS hFc hU hW⟩⟩ rfl rfl hl.1 rfl (lv_room (Nat.le_of_ble_eq_true rfl)) dL_law_755 ⟨(by show _ ≤ 600104; omega), (by show _ ≤ 7301314; omega)⟩) hS (fun q _ h9 => hFc q h9) hFc (fun r u9 t9 H locs ht9 hvm9 hw9 hB9 hz9 hk9 hS => ?_)
                        obtain ⟨hP9, hD9⟩ := hB9
                        rw [ht9] at hP9
                        obtain ⟨hP, hD⟩ := J_B hP hD hk9 hFc hP9 hD9
                        have hP : va_P (dC, dI) vwCl (([(q, .inl (cI, 3, .inl (P)))] : va_W) ++ (wB mb r1 d1 r2 d2 rc cI n F n (s_forU n (s_copyU F G n) 1) ct ch ++ wT h al rw cA cI n F ct)) H := hP
                        have hD : va_D A (([(q, .inl (cI, 3, .inl (P)))] : va_W) ++ (wB mb r1 d1 r2 d2 rc cI n F n (s_forU n (s_copyU F G n) 1) ct ch ++ wT h al rw cA cI n F ct)) := hD
                        have hPB : va_P (dC, dI) vwCl (wB mb r1 d1 r2 d2 rc cI n F n (s_forU n (s_copyU F G n) 1) ct ch) H := P_l (P_r hP)
                        have hPS : va_P (dC, dI) vwCl (wT h al rw cA cI n F ct) H := P_r (P_r hP)
                        have hw9 : r = s_hi n (s_forU n (s_copyU F G n) 1) := hw9
                        subst hw9
                        refine lv_iload hx hb dL_law_758 (lv_at hl 2 rfl) ?_
                        refine lv_icmp_lt (tgt := 773) hx hb dL_law_760 (by decide) (fun c_760 => ?_) (fun c_760 => ?_)
                        · exact absurd c_760 (Int32.not_lt.mpr (for_hi hn hR))
                        · refine lv_aload_n hx hb dL_law_763 rfl (lv_at hl 13 rfl) ?_
                          refine vp_callSl (W.runV (As := []) (rest := []) ⟨hx, hb, hml, hown, hts⟩ (c_X1_digest l dC dI cI mb r1 d1 r2 d2 rc n F n (s_forU n (s_copyU F G n) 1) ct ch hn hR) (cwV 0 hts gL_law_X1_digest rfl rfl rfl (by decide +kernel) ⟨Nat.le_of_ble_eq_true rfl, Nat.le_of_ble_eq_true rfl⟩) ⟨PR.blind, va_recv (hK.sub (tys' := [(cI, .int)]) [0] rfl) hPB (ci := 1) (q0 := 0) rfl rfl, fun U hU hW => ⟨rfl, PR.go hPB (hK.sub (tys' := [(cI, .int)]) [0] rfl) hE hS hU hW⟩⟩ rfl rfl hl.1 rfl (lv_room (Nat.le_of_ble_eq_true rfl)) dL_law_764 ⟨(by show _ ≤ 600104; omega), (by show _ ≤ 7301314; omega)⟩) (fun r hr0 => ?_)
                          subst hr0
                          refine lv_lload hx hb dL_law_767 (lv_at hl 8 rfl) ?_
                          refine rv_lcmp0 hx hb (rfl) dL_law_769 ?_
                          refine lv_if_eq (tgt := 775) hx hb dL_law_770 (by decide) (fun c_770 => ?_) (fun c_770 => ?_)
                          · have hP := P_r hP
                            have hD := D_r hD
                            exact k775 n (s_forU n (s_copyU F G n) 1) _ _ hP hD hS ls (lv_sub hl [8, 9, 10, 11, 12, 13, 14] rfl)
                          · exact absurd (by decide) c_770
                    · exact absurd (by decide) c_707
                  · refine rv_top (y := nI (12 * na + nb)) z9 ?_
                    refine lv_istore (lv' := [(15, .int (nI (12 * na + nb))), (14, .int (s_loU F 9999 n)), (13, .int (s_hiU F n)), (12, .ref q), (11, .int (nI (smN F 2 n))), (10, .int (nI (smN F 4 n))), (9, .int (nI (smN F 3 n))), (8, .int (s_sumU F n)), (6, .long (s_dig n F ct)), (5, .int (nI n)), (4, .int v), (3, .int (nI t)), (2, .ref h), (1, .ref mb), (0, .ref b)]) hx hb dL_law_703 hl (by decide) rfl (fun ls hl => ?_)
                    refine lv_iload hx hb dL_law_705 (lv_at hl 0 rfl) ?_
                    refine lv_if_lt (tgt := 748) hx hb dL_law_707 (by decide) (fun c_707 => ?_) (fun c_707 => ?_)
                    · exact absurd c_707 (nI_pos (by omega))
                    · refine lv_iload hx hb dL_law_710 (lv_at hl 0 rfl) ?_
                      refine lv_bipush (v := 12) hx hb dL_law_712 (by decide) ?_
                      refine lv_idiv hx hb dL_law_714 (by decide) ?_
                      refine rv_top (y := nI na) (div12 nlt nbn hn) ?_
                      refine lv_iload hx hb dL_law_715 (lv_at hl 0 rfl) ?_
                      refine lv_bipush (v := 12) hx hb dL_law_717 (by decide) ?_
                      refine lv_irem hx hb dL_law_719 (by decide) ?_
                      refine rv_top (y := nI nb) (rem12 nlt nbn hn) ?_
                      refine rv_icmp_ge (tgt := 746) hx hb (a := na) (b := nb) (by omega) (by omega) dL_law_720 (by decide) (fun c_720 => ?_) (fun c_720 => ?_)
                      · exact absurd c_720 (by omega)
                      · refine lv_aload_n hx hb dL_law_723 rfl (lv_at hl 13 rfl) ?_
                        refine lv_iload hx hb dL_law_724 (lv_at hl 0 rfl) ?_
                        refine lv_bipush (v := 12) hx hb dL_law_726 (by decide) ?_
                        refine lv_idiv hx hb dL_law_728 (by decide) ?_
                        refine rv_top (y := nI na) (div12 nlt nbn hn) ?_
                        refine lv_iconst (v := 1) hx hb dL_law_729 (by decide) ?_
                        refine vp_callSi (W.runV (As := [.int (nI na), .int 1]) (rest := []) ⟨hx, hb, hml, hown, hts⟩ (c_X1_toldK l dC dI cI mb r1 d1 r2 d2 rc n F n2 G ct ch na (show na < n by omega) 1 (show 1 < 9 by decide) hn) (cwV 2 hts gL_law_X1_told rfl rfl rfl (by decide +kernel) ⟨Nat.le_of_ble_eq_true rfl, Nat.le_of_ble_eq_true rfl⟩) ⟨PR.blind, va_recv (hK.sub (tys' := [(cI, .int)]) [0] rfl) hPB (ci := 1) (q0 := 0) rfl rfl, fun U hU hW => ⟨rfl, PR.go hPB (hK.sub (tys' := [(cI, .int)]) [0] rfl) hE hS hU hW⟩⟩ rfl rfl hl.1 rfl (lv_room (Nat.le_of_ble_eq_true rfl)) dL_law_730 ⟨(by show _ ≤ 600104; omega), (by show _ ≤ 7301314; omega)⟩) (fun r hr0 => ?_)
                        subst hr0
                        refine rv_top (y := F 0 na) rfl ?_
                        refine lv_aload_n hx hb dL_law_733 rfl (lv_at hl 13 rfl) ?_
                        refine lv_iload hx hb dL_law_734 (lv_at hl 0 rfl) ?_
                        refine lv_bipush (v := 12) hx hb dL_law_736 (by decide) ?_
                        refine lv_irem hx hb dL_law_738 (by decide) ?_
                        refine rv_top (y := nI nb) (rem12 nlt nbn hn) ?_
                        refine lv_iconst (v := 1) hx hb dL_law_739 (by decide) ?_
                        refine vp_callSi (W.runV (As := [.int (nI nb), .int 1]) (rest := [.int (F 0 na)]) ⟨hx, hb, hml, hown, hts⟩ (c_X1_toldK l dC dI cI mb r1 d1 r2 d2 rc n F n2 G ct ch nb (show nb < n by omega) 1 (show 1 < 9 by decide) hn) (cwV 2 hts gL_law_X1_told rfl rfl rfl (by decide +kernel) ⟨Nat.le_of_ble_eq_true rfl, Nat.le_of_ble_eq_true rfl⟩) ⟨PR.blind, va_recv (hK.sub (tys' := [(cI, .int)]) [0] rfl) hPB (ci := 1) (q0 := 0) rfl rfl, fun U hU hW => ⟨rfl, PR.go hPB (hK.sub (tys' := [(cI, .int)]) [0] rfl) hE hS hU hW⟩⟩ rfl rfl hl.1 rfl (lv_room (Nat.le_of_ble_eq_true rfl)) dL_law_740 ⟨(by show _ ≤ 600104; omega), (by show _ ≤ 7301314; omega)⟩) (fun r hr0 => ?_)
                        subst hr0
                        refine rv_top (y := F 0 nb) rfl ?_
                        refine lv_icmp_eq (tgt := 748) hx hb dL_law_743 (by decide) (fun c_743 => ?_) (fun c_743 => ?_)
                        · refine lv_iload hx hb dL_law_748 (lv_at hl 9 rfl) ?_
                          refine lv_if_le (tgt := 763) hx hb dL_law_750 (by decide) (fun c_750 => ?_) (fun c_750 => ?_)
                          · refine lv_aload_n hx hb dL_law_763 rfl (lv_at hl 13 rfl) ?_
                            refine vp_callSl (W.runV (As := []) (rest := []) ⟨hx, hb, hml, hown, hts⟩ (c_X1_digest l dC dI cI mb r1 d1 r2 d2 rc n F n2 G ct ch hn hR) (cwV 0 hts gL_law_X1_digest rfl rfl rfl (by decide +kernel) ⟨Nat.le_of_ble_eq_true rfl, Nat.le_of_ble_eq_true rfl⟩) ⟨PR.blind, va_recv (hK.sub (tys' := [(cI, .int)]) [0] rfl) hPB (ci := 1) (q0 := 0) rfl rfl, fun U hU hW => ⟨rfl, PR.go hPB (hK.sub (tys' := [(cI, .int)]) [0] rfl) hE hS hU hW⟩⟩ rfl rfl hl.1 rfl (lv_room (Nat.le_of_ble_eq_true rfl)) dL_law_764 ⟨(by show _ ≤ 600104; omega), (by show _ ≤ 7301314; omega)⟩) (fun r hr0 => ?_)
                            subst hr0
                            refine lv_lload hx hb dL_law_767 (lv_at hl 8 rfl) ?_
                            refine rv_lcmp0 hx hb (rfl) dL_law_769 ?_
                            refine lv_if_eq (tgt := 775) hx hb dL_law_770 (by decide) (fun c_770 => ?_) (fun c_770 => ?_)
                            · have hP := P_r hP
                              have hD := D_r hD
                              exact k775 n2 G _ _ hP hD hS ls (lv_sub hl [8, 9, 10, 11, 12, 13, 14] rfl)
                            · exact absurd (by decide) c_770
                          · refine lv_aload_n hx hb dL_law_753 rfl (lv_at hl 13 rfl) ?_
                            refine lv_iconst (v := 1) hx hb dL_law_754 (by decide) ?_
                            have hDB := D_l (D_r hD)
                            have hFc := free_all hDB hS hA
                            refine va_calli (va_runV (As := [.int 1]) (rest := []) ⟨hx, hb, hml, hown, hts⟩ (c_X1_foreseeK l dC dI cI mb r1 d1 r2 d2 rc n F n2 G ct ch H.size 1 (by decide) (by decide) hn hR) (cwV 1 hts gL_law_X1_foresee rfl rfl rfl (by decide +kernel) ⟨Nat.le_of_ble_eq_true rfl, Nat.le_of_ble_eq_true rfl⟩) ⟨PW.blind, va_recv (hK.sub (tys' := [(cI, .int)]) [0] rfl) hPB (ci := 1) (q0 := 0) rfl rfl, fun U hU hW => ⟨rfl, PW.go hPB (hK.sub (tys' := [(cI, .int)]) [0] rfl) hDB hE hS hFc hU hW⟩⟩ rfl rfl hl.1 rfl (lv_room (Nat.le_of_ble_eq_true rfl)) dL_law_755 ⟨(by show _ ≤ 600104; omega), (by show _ ≤ 7301314; omega)⟩) hS (fun q _ h9 => hFc q h9) hFc (fun r u9 t9 H locs ht9 hvm9 hw9 hB9 hz9 hk9 hS => ?_)
                            obtain ⟨hP9, hD9⟩ := hB9
                            rw [ht9] at hP9
                            obtain ⟨hP, hD⟩ := J_B hP hD hk9 hFc hP9 hD9
                            have hP : va_P (dC, dI) vwCl (([(q, .inl (cI, 3, .inl (P)))] : va_W) ++ (wB mb r1 d1 r2 d2 rc cI n F n (s_forU n (s_copyU F G n) 1) ct ch ++ wT h al rw cA cI n F ct)) H := hP
                            have hD : va_D A (([(q, .inl (cI, 3, .inl (P)))] : va_W) ++ (wB mb r1 d1 r2 d2 rc cI n F n (s_forU n (s_copyU F G n) 1) ct ch ++ wT h al rw cA cI n F ct)) := hD
                            have hPB : va_P (dC, dI) vwCl (wB mb r1 d1 r2 d2 rc cI n F n (s_forU n (s_copyU F G n) 1) ct ch) H := P_l (P_r hP)
                            have hPS : va_P (dC, dI) vwCl (wT h al rw cA cI n F ct) H := P_r (P_r hP)
                            have hw9 : r = s_hi n (s_forU n (s_copyU F G n) 1) := hw9
                            subst hw9
                            refine lv_iload hx hb dL_law_758 (lv_at hl 2 rfl) ?_
                            refine lv_icmp_lt (tgt := 773) hx hb dL_law_760 (by decide) (fun c_760 => ?_) (fun c_760 => ?_)
                            · exact absurd c_760 (Int32.not_lt.mpr (for_hi hn hR))
                            · refine lv_aload_n hx hb dL_law_763 rfl (lv_at hl 13 rfl) ?_
                              refine vp_callSl (W.runV (As := []) (rest := []) ⟨hx, hb, hml, hown, hts⟩ (c_X1_digest l dC dI cI mb r1 d1 r2 d2 rc n F n (s_forU n (s_copyU F G n) 1) ct ch hn hR) (cwV 0 hts gL_law_X1_digest rfl rfl rfl (by decide +kernel) ⟨Nat.le_of_ble_eq_true rfl, Nat.le_of_ble_eq_true rfl⟩) ⟨PR.blind, va_recv (hK.sub (tys' := [(cI, .int)]) [0] rfl) hPB (ci := 1) (q0 := 0) rfl rfl, fun U hU hW => ⟨rfl, PR.go hPB (hK.sub (tys' := [(cI, .int)]) [0] rfl) hE hS hU hW⟩⟩ rfl rfl hl.1 rfl (lv_room (Nat.le_of_ble_eq_true rfl)) dL_law_764 ⟨(by show _ ≤ 600104; omega), (by show _ ≤ 7301314; omega)⟩) (fun r hr0 => ?_)
                              subst hr0
                              refine lv_lload hx hb dL_law_767 (lv_at hl 8 rfl) ?_
                              refine rv_lcmp0 hx hb (rfl) dL_law_769 ?_
                              refine lv_if_eq (tgt := 775) hx hb dL_law_770 (by decide) (fun c_770 => ?_) (fun c_770 => ?_)
                              · have hP := P_r hP
                                have hD := D_r hD
                                exact k775 n (s_forU n (s_copyU F G n) 1) _ _ hP hD hS ls (lv_sub hl [8, 9, 10, 11, 12, 13, 14] rfl)
                              · exact absurd (by decide) c_770
                        · exact absurd neq c_743
                · exact absurd (nI_le hUB (by omega)) c_694
              · have hn0 : ¬ n = 0 := fun z => c_637 (by rw [z]; exact Int32.le_refl 0)
                refine lv_iload hx hb dL_law_640 (lv_at hl 2 rfl) ?_
                refine lv_aload_n hx hb dL_law_642 rfl (lv_at hl 13 rfl) ?_
                refine lv_bipush (v := 7) hx hb dL_law_643 (by decide) ?_
                refine vp_callSi (W.runV (As := [.int 7]) (rest := [.int (s_hiU F n)]) ⟨hx, hb, hml, hown, hts⟩ (c_X1_countK l dC dI cI mb r1 d1 r2 d2 rc n F n2 G ct ch 7 (show 7 < 9 by decide) hn) (cwV 1 hts gL_law_X1_count rfl rfl rfl (by decide +kernel) ⟨Nat.le_of_ble_eq_true rfl, Nat.le_of_ble_eq_true rfl⟩) ⟨PR.blind, va_recv (hK.sub (tys' := [(cI, .int)]) [0] rfl) hPB (ci := 1) (q0 := 0) rfl rfl, fun U hU hW => ⟨rfl, PR.go hPB (hK.sub (tys' := [(cI, .int)]) [0] rfl) hE hS hU hW⟩⟩ rfl rfl hl.1 rfl (lv_room (Nat.le_of_ble_eq_true rfl)) dL_law_645 ⟨(by show _ ≤ 600104; omega), (by show _ ≤ 7301314; omega)⟩) (fun r hr0 => ?_)
                subst hr0
                refine rv_top (y := s_hi n F) rfl ?_
                refine lv_icmp_ne (tgt := 697) hx hb dL_law_648 (by decide) (fun c_648 => ?_) (fun c_648 => ?_)
                · exact absurd (show s_hiU F n = s_hi n F from rfl) c_648
                · refine lv_iload hx hb dL_law_651 (lv_at hl 1 rfl) ?_
                  refine lv_aload_n hx hb dL_law_653 rfl (lv_at hl 13 rfl) ?_
                  refine lv_bipush (v := 8) hx hb dL_law_654 (by decide) ?_
                  refine vp_callSi (W.runV (As := [.int 8]) (rest := [.int (s_loU F 9999 n)]) ⟨hx, hb, hml, hown, hts⟩ (c_X1_countK l dC dI cI mb r1 d1 r2 d2 rc n F n2 G ct ch 8 (show 8 < 9 by decide) hn) (cwV 1 hts gL_law_X1_count rfl rfl rfl (by decide +kernel) ⟨Nat.le_of_ble_eq_true rfl, Nat.le_of_ble_eq_true rfl⟩) ⟨PR.blind, va_recv (hK.sub (tys' := [(cI, .int)]) [0] rfl) hPB (ci := 1) (q0 := 0) rfl rfl, fun U hU hW => ⟨rfl, PR.go hPB (hK.sub (tys' := [(cI, .int)]) [0] rfl) hE hS hU hW⟩⟩ rfl rfl hl.1 rfl (lv_room (Nat.le_of_ble_eq_true rfl)) dL_law_656 ⟨(by show _ ≤ 600104; omega), (by show _ ≤ 7301314; omega)⟩) (fun r hr0 => ?_)
                  subst hr0
                  refine rv_top (y := s_lo n F) rfl ?_
                  refine lv_icmp_ne (tgt := 697) hx hb dL_law_659 (by decide) (fun c_659 => ?_) (fun c_659 => ?_)
                  · exact absurd (low_n hR hn0) c_659
                  · refine lv_aload_n hx hb dL_law_662 rfl (lv_at hl 13 rfl) ?_
                    refine vp_callSd (W.runV (As := []) (rest := []) ⟨hx, hb, hml, hown, hts⟩ (c_X1_meanK l dC dI cI mb r1 d1 r2 d2 rc n F n2 G ct ch hn (mean_ne hn hR)) (cwV 0 hts gL_law_X1_mean rfl rfl rfl (by decide +kernel) ⟨Nat.le_of_ble_eq_true rfl, Nat.le_of_ble_eq_true rfl⟩) ⟨PR.blind, va_recv (hK.sub (tys' := [(cI, .int)]) [0] rfl) hPB (ci := 1) (q0 := 0) rfl rfl, fun U hU hW => ⟨rfl, PR.go hPB (hK.sub (tys' := [(cI, .int)]) [0] rfl) hE hS hU hW⟩⟩ rfl rfl hl.1 rfl (lv_room (Nat.le_of_ble_eq_true rfl)) dL_law_663 ⟨(by show _ ≤ 600104; omega), (by show _ ≤ 7301314; omega)⟩) (fun r hr0 => ?_)
                    subst hr0
                    refine lv_iload hx hb dL_law_666 (lv_at hl 9 rfl) ?_
                    refine lv_i2d hx hb dL_law_668 ?_
                    refine lv_dmul hx hb dL_law_669 (mul_ne hn hR hn0) ?_
                    refine lv_iload hx hb dL_law_670 (lv_at hl 7 rfl) ?_
                    refine lv_i2d hx hb dL_law_672 ?_
                    refine lv_dsub hx hb dL_law_673 (sub_ne hn hR hn0) ?_
                    refine rv_dabs (x := FP.dsub (FP.dmul (s_mean n F) (FP.i2d (nI n))) (FP.i2d (s_sumU F n))) hx hb (hml.trans hl.1.symm) hown (hts (.methodLink RL 94 yJ9_abs_294c1) (by decide +kernel)) (hts (.static yJ9_abs_294c1) (by decide +kernel)) (hts (.initialized RJ9) (by decide +kernel)) (hts (.code yJ9_abs_294c1 cJ9_abs_294c1 2 (some .double)) (by decide +kernel)) (sub_ne hn hR hn0) (Nat.le_of_ble_eq_true rfl) (Nat.le_of_ble_eq_true rfl) (by show _ ≤ 600104; omega) (by show _ ≤ 7301314; omega) dL_law_674 ?_
                    refine lv_ldc2d hx hb hown (hts (.constantDouble RL 98 0x3F50624DD2F1A9FC) (by decide +kernel)) dL_law_677 ?_
                    refine lv_dcmp hx hb dL_law_680 ?_
                    refine lv_if_gt (tgt := 697) hx hb dL_law_681 (by decide) (fun c_681 => ?_) (fun c_681 => ?_)
                    · exact absurd c_681 (abs_lt hn hR hn0)
                    · refine lv_aload_n hx hb dL_law_684 rfl (lv_at hl 13 rfl) ?_
                      refine lv_iconst (v := 3) hx hb dL_law_685 (by decide) ?_
                      refine vp_callSi (W.runV (As := [.int 3]) (rest := []) ⟨hx, hb, hml, hown, hts⟩ (c_X1_countK l dC dI cI mb r1 d1 r2 d2 rc n F n2 G ct ch 3 (show 3 < 9 by decide) hn) (cwV 1 hts gL_law_X1_count rfl rfl rfl (by decide +kernel) ⟨Nat.le_of_ble_eq_true rfl, Nat.le_of_ble_eq_true rfl⟩) ⟨PR.blind, va_recv (hK.sub (tys' := [(cI, .int)]) [0] rfl) hPB (ci := 1) (q0 := 0) rfl rfl, fun U hU hW => ⟨rfl, PR.go hPB (hK.sub (tys' := [(cI, .int)]) [0] rfl) hE hS hU hW⟩⟩ rfl rfl hl.1 rfl (lv_room (Nat.le_of_ble_eq_true rfl)) dL_law_686 ⟨(by show _ ≤ 600104; omega), (by show _ ≤ 7301314; omega)⟩) (fun r hr0 => ?_)
                      subst hr0
                      refine rv_top (y := nI U9) ec2 ?_
                      refine lv_aload_n hx hb dL_law_689 rfl (lv_at hl 13 rfl) ?_
                      refine lv_iconst (v := 2) hx hb dL_law_690 (by decide) ?_
                      refine vp_callSi (W.runV (As := [.int 2]) (rest := [.int (nI U9)]) ⟨hx, hb, hml, hown, hts⟩ (c_X1_countK l dC dI cI mb r1 d1 r2 d2 rc n F n2 G ct ch 2 (show 2 < 9 by decide) hn) (cwV 1 hts gL_law_X1_count rfl rfl rfl (by decide +kernel) ⟨Nat.le_of_ble_eq_true rfl, Nat.le_of_ble_eq_true rfl⟩) ⟨PR.blind, va_recv (hK.sub (tys' := [(cI, .int)]) [0] rfl) hPB (ci := 1) (q0 := 0) rfl rfl, fun U hU hW => ⟨rfl, PR.go hPB (hK.sub (tys' := [(cI, .int)]) [0] rfl) hE hS hU hW⟩⟩ rfl rfl hl.1 rfl (lv_room (Nat.le_of_ble_eq_true rfl)) dL_law_691 ⟨(by show _ ≤ 600104; omega), (by show _ ≤ 7301314; omega)⟩) (fun r hr0 => ?_)
                      subst hr0
                      refine rv_top (y := nI B9) ec1 ?_
                      refine lv_icmp_le (tgt := 699) hx hb dL_law_694 (by decide) (fun c_694 => ?_) (fun c_694 => ?_)
                      · refine lv_aload_n hx hb dL_law_699 rfl (lv_at hl 13 rfl) ?_
                        refine vp_callSi (W.runV (As := []) (rest := []) ⟨hx, hb, hml, hown, hts⟩ (c_X1_next l dC dI cI mb r1 d1 r2 d2 rc n F n2 G ct ch hn hR) (cwV 0 hts gL_law_X1_next rfl rfl rfl (by decide +kernel) ⟨Nat.le_of_ble_eq_true rfl, Nat.le_of_ble_eq_true rfl⟩) ⟨PR.blind, va_recv (hK.sub (tys' := [(cI, .int)]) [0] rfl) hPB (ci := 1) (q0 := 0) rfl rfl, fun U hU hW => ⟨rfl, PR.go hPB (hK.sub (tys' := [(cI, .int)]) [0] rfl) hE hS hU hW⟩⟩ rfl rfl hl.1 rfl (lv_room (Nat.le_of_ble_eq_true rfl)) dL_law_700 ⟨(by show _ ≤ 600104; omega), (by show _ ≤ 7301314; omega)⟩) (fun r hr0 => ?_)
                        subst hr0
                        rcases next_c hn F with z9 | ⟨na, nb, nlt, nbn, neq, z9⟩
                        · refine rv_top (y := -1) z9 ?_
                          refine lv_istore (lv' := [(15, .int (-1)), (14, .int (s_loU F 9999 n)), (13, .int (s_hiU F n)), (12, .ref q), (11, .int (nI (smN F 2 n))), (10, .int (nI (smN F 4 n))), (9, .int (nI (smN F 3 n))), (8, .int (s_sumU F n)), (6, .long (s_dig n F ct)), (5, .int (nI n)), (4, .int v), (3, .int (nI t)), (2, .ref h), (1, .ref mb), (0, .ref b)]) hx hb dL_law_703 hl (by decide) rfl (fun ls hl => ?_)
                          refine lv_iload hx hb dL_law_705 (lv_at hl 0 rfl) ?_
                          refine lv_if_lt (tgt := 748) hx hb dL_law_707 (by decide) (fun c_707 => ?_) (fun c_707 => ?_)
                          · refine lv_iload hx hb dL_law_748 (lv_at hl 9 rfl) ?_
                            refine lv_if_le (tgt := 763) hx hb dL_law_750 (by decide) (fun c_750 => ?_) (fun c_750 => ?_)
                            · refine lv_aload_n hx hb dL_law_763 rfl (lv_at hl 13 rfl) ?_
                              refine vp_callSl (W.runV (As := []) (rest := []) ⟨hx, hb, hml, hown, hts⟩ (c_X1_digest l dC dI cI mb r1 d1 r2 d2 rc n F n2 G ct ch hn hR) (cwV 0 hts gL_law_X1_digest rfl rfl rfl (by decide +kernel) ⟨Nat.le_of_ble_eq_true rfl, Nat.le_of_ble_eq_true rfl⟩) ⟨PR.blind, va_recv (hK.sub (tys' := [(cI, .int)]) [0] rfl) hPB (ci := 1) (q0 := 0) rfl rfl, fun U hU hW => ⟨rfl, PR.go hPB (hK.sub (tys' := [(cI, .int)]) [0] rfl) hE hS hU hW⟩⟩ rfl rfl hl.1 rfl (lv_room (Nat.le_of_ble_eq_true rfl)) dL_law_764 ⟨(by show _ ≤ 600104; omega), (by show _ ≤ 7301314; omega)⟩) (fun r hr0 => ?_)
                              subst hr0
                              refine lv_lload hx hb dL_law_767 (lv_at hl 8 rfl) ?_
                              refine rv_lcmp0 hx hb (rfl) dL_law_769 ?_
                              refine lv_if_eq (tgt := 775) hx hb dL_law_770 (by decide) (fun c_770 => ?_) (fun c_770 => ?_)
                              · have hP := P_r hP
                                have hD := D_r hD
                                exact k775 n2 G _ _ hP hD hS ls (lv_sub hl [8, 9, 10, 11, 12, 13, 14] rfl)
                              · exact absurd (by decide) c_770
                            · refine lv_aload_n hx hb dL_law_753 rfl (lv_at hl 13 rfl) ?_
                              refine lv_iconst (v := 1) hx hb dL_law_754 (by decide) ?_
                              have hDB := D_l (D_r hD)
                              have hFc := free_all hDB hS hA
                              refine va_calli (va_runV (As := [.int 1]) (rest := []) ⟨hx, hb, hml, hown, hts⟩ (c_X1_foreseeK l dC dI cI mb r1 d1 r2 d2 rc n F n2 G ct ch H.size 1 (by decide) (by decide) hn hR) (cwV 1 hts gL_law_X1_foresee rfl rfl rfl (by decide +kernel) ⟨Nat.le_of_ble_eq_true rfl, Nat.le_of_ble_eq_true rfl⟩) ⟨PW.blind, va_recv (hK.sub (tys' := [(cI, .int)]) [0] rfl) hPB (ci := 1) (q0 := 0) rfl rfl, fun U hU hW => ⟨rfl, PW.go hPB (hK.sub (tys' := [(cI, .int)]) [0] rfl) hDB hE hS hFc hU hW⟩⟩ rfl rfl hl.1 rfl (lv_room (Nat.le_of_ble_eq_true rfl)) dL_law_755 ⟨(by show _ ≤ 600104; omega), (by show _ ≤ 7301314; omega)⟩) hS (fun q _ h9 => hFc q h9) hFc (fun r u9 t9 H locs ht9 hvm9 hw9 hB9 hz9 hk9 hS => ?_)
                              obtain ⟨hP9, hD9⟩ := hB9
                              rw [ht9] at hP9
                              obtain ⟨hP, hD⟩ := J_B hP hD hk9 hFc hP9 hD9
                              have hP : va_P (dC, dI) vwCl (([(q, .inl (cI, 3, .inl (P)))] : va_W) ++ (wB mb r1 d1 r2 d2 rc cI n F n (s_forU n (s_copyU F G n) 1) ct ch ++ wT h al rw cA cI n F ct)) H := hP
                              have hD : va_D A (([(q, .inl (cI, 3, .inl (P)))] : va_W) ++ (wB mb r1 d1 r2 d2 rc cI n F n (s_forU n (s_copyU F G n) 1) ct ch ++ wT h al rw cA cI n F ct)) := hD
                              have hPB : va_P (dC, dI) vwCl (wB mb r1 d1 r2 d2 rc cI n F n (s_forU n (s_copyU F G n) 1) ct ch) H := P_l (P_r hP)
                              have hPS : va_P (dC, dI) vwCl (wT h al rw cA cI n F ct) H := P_r (P_r hP)
                              have hw9 : r = s_hi n (s_forU n (s_copyU F G n) 1) := hw9
                              subst hw9
                              refine lv_iload hx hb dL_law_758 (lv_at hl 2 rfl) ?_
                              refine lv_icmp_lt (tgt := 773) hx hb dL_law_760 (by decide) (fun c_760 => ?_) (fun c_760 => ?_)
                              · exact absurd c_760 (Int32.not_lt.mpr (for_hi hn hR))
                              · refine lv_aload_n hx hb dL_law_763 rfl (lv_at hl 13 rfl) ?_
                                refine vp_callSl (W.runV (As := []) (rest := []) ⟨hx, hb, hml, hown, hts⟩ (c_X1_digest l dC dI cI mb r1 d1 r2 d2 rc n F n (s_forU n (s_copyU F G n) 1) ct ch hn hR) (cwV 0 hts gL_law_X1_digest rfl rfl rfl (by decide +kernel) ⟨Nat.le_of_ble_eq_true rfl, Nat.le_of_ble_eq_true rfl⟩) ⟨PR.blind, va_recv (hK.sub (tys' := [(cI, .int)]) [0] rfl) hPB (ci := 1) (q0 := 0) rfl rfl, fun U hU hW => ⟨rfl, PR.go hPB (hK.sub (tys' := [(cI, .int)]) [0] rfl) hE hS hU hW⟩⟩ rfl rfl hl.1 rfl (lv_room (Nat.le_of_ble_eq_true rfl)) dL_law_764 ⟨(by show _ ≤ 600104; omega), (by show _ ≤ 7301314; omega)⟩) (fun r hr0 => ?_)
                                subst hr0
                                refine lv_lload hx hb dL_law_767 (lv_at hl 8 rfl) ?_
                                refine rv_lcmp0 hx hb (rfl) dL_law_769 ?_
                                refine lv_if_eq (tgt := 775) hx hb dL_law_770 (by decide) (fun c_770 => ?_) (fun c_770 => ?_)
                                · have hP := P_r hP
                                  have hD := D_r hD
                                  exact k775 n (s_forU n (s_copyU F G n) 1) _ _ hP hD hS ls (lv_sub hl [8, 9, 10, 11, 12, 13, 14] rfl)
                                · exact absurd (by decide) c_770
                          · exact absurd (by decide) c_707
                        · refine rv_top (y := nI (12 * na + nb)) z9 ?_
                          refine lv_istore (lv' := [(15, .int (nI (12 * na + nb))), (14, .int (s_loU F 9999 n)), (13, .int (s_hiU F n)), (12, .ref q), (11, .int (nI (smN F 2 n))), (10, .int (nI (smN F 4 n))), (9, .int (nI (smN F 3 n))), (8, .int (s_sumU F n)), (6, .long (s_dig n F ct)), (5, .int (nI n)), (4, .int v), (3, .int (nI t)), (2, .ref h), (1, .ref mb), (0, .ref b)]) hx hb dL_law_703 hl (by decide) rfl (fun ls hl => ?_)
                          refine lv_iload hx hb dL_law_705 (lv_at hl 0 rfl) ?_
                          refine lv_if_lt (tgt := 748) hx hb dL_law_707 (by decide) (fun c_707 => ?_) (fun c_707 => ?_)
                          · exact absurd c_707 (nI_pos (by omega))
                          · refine lv_iload hx hb dL_law_710 (lv_at hl 0 rfl) ?_
                            refine lv_bipush (v := 12) hx hb dL_law_712 (by decide) ?_
                            refine lv_idiv hx hb dL_law_714 (by decide) ?_
                            refine rv_top (y := nI na) (div12 nlt nbn hn) ?_
                            refine lv_iload hx hb dL_law_715 (lv_at hl 0 rfl) ?_
                            refine lv_bipush (v := 12) hx hb dL_law_717 (by decide) ?_
                            refine lv_irem hx hb dL_law_719 (by decide) ?_
                            refine rv_top (y := nI nb) (rem12 nlt nbn hn) ?_
                            refine rv_icmp_ge (tgt := 746) hx hb (a := na) (b := nb) (by omega) (by omega) dL_law_720 (by decide) (fun c_720 => ?_) (fun c_720 => ?_)
                            · exact absurd c_720 (by omega)
                            · refine lv_aload_n hx hb dL_law_723 rfl (lv_at hl 13 rfl) ?_
                              refine lv_iload hx hb dL_law_724 (lv_at hl 0 rfl) ?_
                              refine lv_bipush (v := 12) hx hb dL_law_726 (by decide) ?_
                              refine lv_idiv hx hb dL_law_728 (by decide) ?_
                              refine rv_top (y := nI na) (div12 nlt nbn hn) ?_
                              refine lv_iconst (v := 1) hx hb dL_law_729 (by decide) ?_
                              refine vp_callSi (W.runV (As := [.int (nI na), .int 1]) (rest := []) ⟨hx, hb, hml, hown, hts⟩ (c_X1_toldK l dC dI cI mb r1 d1 r2 d2 rc n F n2 G ct ch na (show na < n by omega) 1 (show 1 < 9 by decide) hn) (cwV 2 hts gL_law_X1_told rfl rfl rfl (by decide +kernel) ⟨Nat.le_of_ble_eq_true rfl, Nat.le_of_ble_eq_true rfl⟩) ⟨PR.blind, va_recv (hK.sub (tys' := [(cI, .int)]) [0] rfl) hPB (ci := 1) (q0 := 0) rfl rfl, fun U hU hW => ⟨rfl, PR.go hPB (hK.sub (tys' := [(cI, .int)]) [0] rfl) hE hS hU hW⟩⟩ rfl rfl hl.1 rfl (lv_room (Nat.le_of_ble_eq_true rfl)) dL_law_730 ⟨(by show _ ≤ 600104; omega), (by show _ ≤ 7301314; omega)⟩) (fun r hr0 => ?_)
                              subst hr0
                              refine rv_top (y := F 0 na) rfl ?_
                              refine lv_aload_n hx hb dL_law_733 rfl (lv_at hl 13 rfl) ?_
                              refine lv_iload hx hb dL_law_734 (lv_at hl 0 rfl) ?_
                              refine lv_bipush (v := 12) hx hb dL_law_736 (by decide) ?_
                              refine lv_irem hx hb dL_law_738 (by decide) ?_
                              refine rv_top (y := nI nb) (rem12 nlt nbn hn) ?_
                              refine lv_iconst (v := 1) hx hb dL_law_739 (by decide) ?_
                              refine vp_callSi (W.runV (As := [.int (nI nb), .int 1]) (rest := [.int (F 0 na)]) ⟨hx, hb, hml, hown, hts⟩ (c_X1_toldK l dC dI cI mb r1 d1 r2 d2 rc n F n2 G ct ch nb (show nb < n by omega) 1 (show 1 < 9 by decide) hn) (cwV 2 hts gL_law_X1_told rfl rfl rfl (by decide +kernel) ⟨Nat.le_of_ble_eq_true rfl, Nat.le_of_ble_eq_true rfl⟩) ⟨PR.blind, va_recv (hK.sub (tys' := [(cI, .int)]) [0] rfl) hPB (ci := 1) (q0 := 0) rfl rfl, fun U hU hW => ⟨rfl, PR.go hPB (hK.sub (tys' := [(cI, .int)]) [0] rfl) hE hS hU hW⟩⟩ rfl rfl hl.1 rfl (lv_room (Nat.le_of_ble_eq_true rfl)) dL_law_740 ⟨(by show _ ≤ 600104; omega), (by show _ ≤ 7301314; omega)⟩) (fun r hr0 => ?_)
                              subst hr0
                              refine rv_top (y := F 0 nb) rfl ?_
                              refine lv_icmp_eq (tgt := 748) hx hb dL_law_743 (by decide) (fun c_743 => ?_) (fun c_743 => ?_)
                              · refine lv_iload hx hb dL_law_748 (lv_at hl 9 rfl) ?_
                                refine lv_if_le (tgt := 763) hx hb dL_law_750 (by decide) (fun c_750 => ?_) (fun c_750 => ?_)
                                · refine lv_aload_n hx hb dL_law_763 rfl (lv_at hl 13 rfl) ?_
                                  refine vp_callSl (W.runV (As := []) (rest := []) ⟨hx, hb, hml, hown, hts⟩ (c_X1_digest l dC dI cI mb r1 d1 r2 d2 rc n F n2 G ct ch hn hR) (cwV 0 hts gL_law_X1_digest rfl rfl rfl (by decide +kernel) ⟨Nat.le_of_ble_eq_true rfl, Nat.le_of_ble_eq_true rfl⟩) ⟨PR.blind, va_recv (hK.sub (tys' := [(cI, .int)]) [0] rfl) hPB (ci := 1) (q0 := 0) rfl rfl, fun U hU hW => ⟨rfl, PR.go hPB (hK.sub (tys' := [(cI, .int)]) [0] rfl) hE hS hU hW⟩⟩ rfl rfl hl.1 rfl (lv_room (Nat.le_of_ble_eq_true rfl)) dL_law_764 ⟨(by show _ ≤ 600104; omega), (by show _ ≤ 7301314; omega)⟩) (fun r hr0 => ?_)
                                  subst hr0
                                  refine lv_lload hx hb dL_law_767 (lv_at hl 8 rfl) ?_
                                  refine rv_lcmp0 hx hb (rfl) dL_law_769 ?_
                                  refine lv_if_eq (tgt := 775) hx hb dL_law_770 (by decide) (fun c_770 => ?_) (fun c_770 => ?_)
                                  · have hP := P_r hP
                                    have hD := D_r hD
                                    exact k775 n2 G _ _ hP hD hS ls (lv_sub hl [8, 9, 10, 11, 12, 13, 14] rfl)
                                  · exact absurd (by decide) c_770
                                · refine lv_aload_n hx hb dL_law_753 rfl (lv_at hl 13 rfl) ?_
                                  refine lv_iconst (v := 1) hx hb dL_law_754 (by decide) ?_
                                  have hDB := D_l (D_r hD)
                                  have hFc := free_all hDB hS hA
                                  refine va_calli (va_runV (As := [.int 1]) (rest := []) ⟨hx, hb, hml, hown, hts⟩ (c_X1_foreseeK l dC dI cI mb r1 d1 r2 d2 rc n F n2 G ct ch H.size 1 (by decide) (by decide) hn hR) (cwV 1 hts gL_law_X1_foresee rfl rfl rfl (by decide +kernel) ⟨Nat.le_of_ble_eq_true rfl, Nat.le_of_ble_eq_true rfl⟩) ⟨PW.blind, va_recv (hK.sub (tys' := [(cI, .int)]) [0] rfl) hPB (ci := 1) (q0 := 0) rfl rfl, fun U hU hW => ⟨rfl, PW.go hPB (hK.sub (tys' := [(cI, .int)]) [0] rfl) hDB hE hS hFc hU hW⟩⟩ rfl rfl hl.1 rfl (lv_room (Nat.le_of_ble_eq_true rfl)) dL_law_755 ⟨(by show _ ≤ 600104; omega), (by show _ ≤ 7301314; omega)⟩) hS (fun q _ h9 => hFc q h9) hFc (fun r u9 t9 H locs ht9 hvm9 hw9 hB9 hz9 hk9 hS => ?_)
                                  obtain ⟨hP9, hD9⟩ := hB9
                                  rw [ht9] at hP9
                                  obtain ⟨hP, hD⟩ := J_B hP hD hk9 hFc hP9 hD9
                                  have hP : va_P (dC, dI) vwCl (([(q, .inl (cI, 3, .inl (P)))] : va_W) ++ (wB mb r1 d1 r2 d2 rc cI n F n (s_forU n (s_copyU F G n) 1) ct ch ++ wT h al rw cA cI n F ct)) H := hP
                                  have hD : va_D A (([(q, .inl (cI, 3, .inl (P)))] : va_W) ++ (wB mb r1 d1 r2 d2 rc cI n F n (s_forU n (s_copyU F G n) 1) ct ch ++ wT h al rw cA cI n F ct)) := hD
                                  have hPB : va_P (dC, dI) vwCl (wB mb r1 d1 r2 d2 rc cI n F n (s_forU n (s_copyU F G n) 1) ct ch) H := P_l (P_r hP)
                                  have hPS : va_P (dC, dI) vwCl (wT h al rw cA cI n F ct) H := P_r (P_r hP)
                                  have hw9 : r = s_hi n (s_forU n (s_copyU F G n) 1) := hw9
                                  subst hw9
                                  refine lv_iload hx hb dL_law_758 (lv_at hl 2 rfl) ?_
                                  refine lv_icmp_lt (tgt := 773) hx hb dL_law_760 (by decide) (fun c_760 => ?_) (fun c_760 => ?_)
                                  · exact absurd c_760 (Int32.not_lt.mpr (for_hi hn hR))
                                  · refine lv_aload_n hx hb dL_law_763 rfl (lv_at hl 13 rfl) ?_
                                    refine vp_callSl (W.runV (As := []) (rest := []) ⟨hx, hb, hml, hown, hts⟩ (c_X1_digest l dC dI cI mb r1 d1 r2 d2 rc n F n (s_forU n (s_copyU F G n) 1) ct ch hn hR) (cwV 0 hts gL_law_X1_digest rfl rfl rfl (by decide +kernel) ⟨Nat.le_of_ble_eq_true rfl, Nat.le_of_ble_eq_true rfl⟩) ⟨PR.blind, va_recv (hK.sub (tys' := [(cI, .int)]) [0] rfl) hPB (ci := 1) (q0 := 0) rfl rfl, fun U hU hW => ⟨rfl, PR.go hPB (hK.sub (tys' := [(cI, .int)]) [0] rfl) hE hS hU hW⟩⟩ rfl rfl hl.1 rfl (lv_room (Nat.le_of_ble_eq_true rfl)) dL_law_764 ⟨(by show _ ≤ 600104; omega), (by show _ ≤ 7301314; omega)⟩) (fun r hr0 => ?_)
                                    subst hr0
                                    refine lv_lload hx hb dL_law_767 (lv_at hl 8 rfl) ?_
                                    refine rv_lcmp0 hx hb (rfl) dL_law_769 ?_
                                    refine lv_if_eq (tgt := 775) hx hb dL_law_770 (by decide) (fun c_770 => ?_) (fun c_770 => ?_)
                                    · have hP := P_r hP
                                      have hD := D_r hD
                                      exact k775 n (s_forU n (s_copyU F G n) 1) _ _ hP hD hS ls (lv_sub hl [8, 9, 10, 11, 12, 13, 14] rfl)
                                    · exact absurd (by decide) c_770
                              · exact absurd neq c_743
                      · exact absurd (nI_le hUB (by omega)) c_694
      · exact absurd c_578 (by omega)
    | succ ku ih_575 =>
      intro u e_u H locs hP hD hS ls hl
      have hPB : va_P (dC, dI) vwCl (wB mb r1 d1 r2 d2 rc cI n F n2 G ct ch) H := P_l (P_r hP)
      have hPS : va_P (dC, dI) vwCl (wT h al rw cA cI n F ct) H := P_r (P_r hP)
      refine lv_iload hx hb dL_law_575 (lv_at hl 0 rfl) ?_
      refine lv_iconst (v := 3) hx hb dL_law_577 (by decide) ?_
      refine rv_icmp_ge (tgt := 609) hx hb (a := u) (b := 3) (by omega) (by omega) dL_law_578 (by decide) (fun c_578 => ?_) (fun c_578 => ?_)
      · exact absurd c_578 (by omega)
      · refine lv_aload hx hb dL_law_581 (lv_at hl 3 rfl) ?_
        refine lv_iload hx hb dL_law_583 (lv_at hl 0 rfl) ?_
        refine rv_iald (k := u) hx hb hK hP 0 0 rfl rfl (show u < 3 by omega) (by omega) dL_law_585 ?_
        refine lv_iconst (v := 2) hx hb dL_law_586 (by decide) ?_
        refine lv_aload_n hx hb dL_law_587 rfl (lv_at hl 13 rfl) ?_
        refine lv_iconst (v := 4) hx hb dL_law_588 (by decide) ?_
        refine lv_iload hx hb dL_law_589 (lv_at hl 0 rfl) ?_
        refine lv_iadd hx hb dL_law_591 ?_
        refine rv_top (y := nI (4 + u)) (nI_add 4 u) ?_
        refine vp_callSi (W.runV (As := [.int (nI (4 + u))]) (rest := [.int 2, .int (P u)]) ⟨hx, hb, hml, hown, hts⟩ (c_X1_countK l dC dI cI mb r1 d1 r2 d2 rc n F n2 G ct ch (4 + u) (show 4 + u < 9 by omega) hn) (cwV 1 hts gL_law_X1_count rfl rfl rfl (by decide +kernel) ⟨Nat.le_of_ble_eq_true rfl, Nat.le_of_ble_eq_true rfl⟩) ⟨PR.blind, va_recv (hK.sub (tys' := [(cI, .int)]) [0] rfl) hPB (ci := 1) (q0 := 0) rfl rfl, fun U hU hW => ⟨rfl, PR.go hPB (hK.sub (tys' := [(cI, .int)]) [0] rfl) hE hS hU hW⟩⟩ rfl rfl hl.1 rfl (lv_room (Nat.le_of_ble_eq_true rfl)) dL_law_592 ⟨(by show _ ≤ 600104; omega), (by show _ ≤ 7301314; omega)⟩) (fun r hr0 => ?_)
        subst hr0
        refine lv_ishl hx hb dL_law_595 ?_
        refine lv_iconst (v := 2) hx hb dL_law_596 (by decide) ?_
        refine lv_isub hx hb dL_law_597 ?_
        refine lv_icmp_eq (tgt := 603) hx hb dL_law_598 (by decide) (fun c_598 => ?_) (fun c_598 => ?_)
        · refine lv_iinc (v := nI (u + 1)) (lv' := [(15, .int (nI (u + 1))), (14, .int (s_loU F 9999 n)), (13, .int (s_hiU F n)), (12, .ref q), (11, .int (nI (smN F 2 n))), (10, .int (nI (smN F 4 n))), (9, .int (nI (smN F 3 n))), (8, .int (s_sumU F n)), (6, .long (s_dig n F ct)), (5, .int (nI n)), (4, .int v), (3, .int (nI t)), (2, .ref h), (1, .ref mb), (0, .ref b)]) hx hb dL_law_603 hl (k := 0) rfl (nI_add u 1) (by decide) rfl (fun ls hl => ?_)
          refine lv_goto (tgt := 575) hx hb dL_law_606 (by decide) ?_
          exact ih_575 (u + 1) (by omega) _ _ hP hD hS ls (lv_sub hl [0, 1, 2, 3, 4, 5, 6, 7, 8, 9, 10, 11, 12, 13, 14] rfl)
        · exact absurd (hPL.fin hn (show u < 3 by omega)) c_598
  exact L_575 3 0 (by omega) _ _ hP hD hS ls (lv_sub hl [0, 1, 2, 3, 4, 5, 6, 7, 8, 9, 10, 11, 12, 13, 14] rfl)
