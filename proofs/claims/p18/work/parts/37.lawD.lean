set_option maxHeartbeats 1600000 in
set_option maxRecDepth 100000 in
theorem law_h {p : Program} {l : Launch} {e : Env} {s : State} {m : MethodId} {below : List Frame} {meth : Method} {c : Code} {b L : Nat} {xs : Nat → Int32} {dC : Nat → ClassId} {dI : Nat → Nat → Nat} {A : Nat → Prop} {cI cA : ClassId} {Q : State → Prop} (C0 : LC p l s m meth c b L xs dC dI A cI cA) (mb r1 : Nat) (d1 : Nat → Nat) (r2 : Nat) (d2 : Nat → Nat) (rc h : Nat) (t : Nat) (v : Int32) (n : Nat) (F : Nat → Nat → Int32) (ct : Nat → Int32) (n2 : Nat) (G : Nat → Nat → Int32) (ch : Nat → Int32) (al : Nat) (rw : Nat → Nat) (K Cn Sn : Nat) (a o j : Nat) (hI : INV n F ct K) (hK9 : K ≤ 900) (hC9 : Cn ≤ 600000) (hS9 : Sn ≤ 7301000) (i_a : a < n) (i_o : o < n) (hao : a ≠ o) (hj : j ≤ 2) (k1240 : ∀ (F : Nat → Nat → Int32) (ct : Nat → Int32) (n2 : Nat) (G : Nat → Nat → Int32), INV n F ct (K + 2) → ∀ (H : Heap) (locs : List Loc), va_P (dC, dI) vwCl (([] : va_W) ++ (wB mb r1 d1 r2 d2 rc cI n F n2 G ct ch ++ wT h al rw cA cI n F ct)) H → va_D A (([] : va_W) ++ (wB mb r1 d1 r2 d2 rc cI n F n2 G ct ch ++ wT h al rw cA cI n F ct)) → va_S A s.heap H locs → ∀ (ls : Array Slot), lv_has ls 29 [(3, .int (nI t)), (2, .ref h), (1, .ref mb), (0, .ref b)] → W p l e room_1 s m #[Value.ref b] below meth c H locs (Cn + 20) (Sn + 120) Q (F0 m 1240 ls [])) (k1005 : ∀ (F : Nat → Nat → Int32) (ct : Nat → Int32), INV n F ct (K + 2) → ∀ (H : Heap) (locs : List Loc), va_P (dC, dI) vwCl (([] : va_W) ++ (wB mb r1 d1 r2 d2 rc cI n F n2 G ct ch ++ wT h al rw cA cI n F ct)) H → va_D A (([] : va_W) ++ (wB mb r1 d1 r2 d2 rc cI n F n2 G ct ch ++ wT h al rw cA cI n F ct)) → va_S A s.heap H locs → ∀ (ls : Array Slot), lv_has ls 29 [(5, .int (nI n)), (3, .int (nI t)), (2, .ref h), (1, .ref mb), (0, .ref b)] → W p l e room_1 s m #[Value.ref b] below meth c H locs (Cn + 4) (Sn + 36) Q (F0 m 1005 ls [])) (H : Heap) (locs : List Loc) (hP : va_P (dC, dI) vwCl (([] : va_W) ++ (wB mb r1 d1 r2 d2 rc cI n F n2 G ct ch ++ wT h al rw cA cI n F ct)) H) (hD : va_D A (([] : va_W) ++ (wB mb r1 d1 r2 d2 rc cI n F n2 G ct ch ++ wT h al rw cA cI n F ct))) (hS : va_S A s.heap H locs) (ls : Array Slot) (hl : lv_has ls 29 [(22, .int (F 1 o)), (21, .int (F 1 a)), (20, .int (s_gain F o a (nI (2 - j)))), (19, .int (s_gain F a o (nI j))), (18, .int (nI j)), (17, .int (nI o)), (16, .int (nI a)), (6, .long (s_dig n F ct)), (5, .int (nI n)), (4, .int v), (3, .int (nI t)), (2, .ref h), (1, .ref mb), (0, .ref b)]) : W p l e room_1 s m #[Value.ref b] below meth c H locs Cn Sn Q (F0 m 902 ls []) := by
  obtain ⟨hx, hb, hr, hml, hown, hts, hX, hbl, hlocks, hl0, hK, hE, hbA, hA, hL⟩ := C0
  have hinX2 := inlX2
  have hPB : va_P (dC, dI) vwCl (wB mb r1 d1 r2 d2 rc cI n F n2 G ct ch) H := P_l (P_r hP)
  have hPS : va_P (dC, dI) vwCl (wT h al rw cA cI n F ct) H := P_r (P_r hP)
  have hn := hI.n12
  have hR := hI.okR
  refine lv_aload_n hx hb dL_law_902 rfl (lv_at hl 12 rfl) ?_
  refine lv_iload hx hb dL_law_903 (lv_at hl 5 rfl) ?_
  refine lv_iload hx hb dL_law_905 (lv_at hl 6 rfl) ?_
  refine lv_iconst (v := 2) hx hb dL_law_907 (by decide) ?_
  refine lv_iload hx hb dL_law_908 (lv_at hl 4 rfl) ?_
  refine lv_isub hx hb dL_law_910 ?_
  refine rv_top (y := nI (2 - j)) (pk_sub (a := 2) hj) ?_
  refine lv_iconst (v := 0) hx hb dL_law_911 (by decide) ?_
  refine vp_callSi (W.runV (As := [.int (nI o), .int (nI a), .int (nI (2 - j)), .int 0]) (rest := []) ⟨hx, hb, hml, hown, hts⟩ (c_X1_wouldK l dC dI cI mb r1 d1 r2 d2 rc n F n2 G ct ch o (show o < n by omega) a (show a < n by omega) (2 - j) (Nat.sub_le 2 j) 0 (Or.inl rfl) (Ne.symm hao) hn hR) (cwV 4 hts gL_law_X1_would rfl rfl rfl (by decide +kernel) ⟨Nat.le_of_ble_eq_true rfl, Nat.le_of_ble_eq_true rfl⟩) ⟨PR.blind, va_recv (hK.sub (tys' := [(cI, .int)]) [0] rfl) hPB (ci := 1) (q0 := 0) rfl rfl, fun U hU hW => ⟨rfl, PR.go hPB (hK.sub (tys' := [(cI, .int)]) [0] rfl) hE hS hU hW⟩⟩ rfl rfl hl.1 rfl (lv_room (Nat.le_of_ble_eq_true rfl)) dL_law_912 ⟨(by show _ ≤ 600104; omega), (by show _ ≤ 7301314; omega)⟩) (fun r hr0 => ?_)
  subst hr0
  refine rv_top (y := s_gain F o a (nI (2 - j))) (if_pos rfl) ?_
  refine lv_iload hx hb dL_law_915 (lv_at hl 2 rfl) ?_
  refine lv_icmp_ne (tgt := 930) hx hb dL_law_917 (by decide) (fun c_917 => ?_) (fun c_917 => ?_)
  · exact absurd rfl c_917
  · refine lv_aload_n hx hb dL_law_920 rfl (lv_at hl 12 rfl) ?_
    refine vp_callSl (W.runV (As := []) (rest := []) ⟨hx, hb, hml, hown, hts⟩ (c_X1_digest l dC dI cI mb r1 d1 r2 d2 rc n F n2 G ct ch hn hR) (cwV 0 hts gL_law_X1_digest rfl rfl rfl (by decide +kernel) ⟨Nat.le_of_ble_eq_true rfl, Nat.le_of_ble_eq_true rfl⟩) ⟨PR.blind, va_recv (hK.sub (tys' := [(cI, .int)]) [0] rfl) hPB (ci := 1) (q0 := 0) rfl rfl, fun U hU hW => ⟨rfl, PR.go hPB (hK.sub (tys' := [(cI, .int)]) [0] rfl) hE hS hU hW⟩⟩ rfl rfl hl.1 rfl (lv_room (Nat.le_of_ble_eq_true rfl)) dL_law_921 ⟨(by show _ ≤ 600104; omega), (by show _ ≤ 7301314; omega)⟩) (fun r hr0 => ?_)
    subst hr0
    refine lv_lload hx hb dL_law_924 (lv_at hl 7 rfl) ?_
    refine rv_lcmp0 hx hb (rfl) dL_law_926 ?_
    refine lv_if_eq (tgt := 932) hx hb dL_law_927 (by decide) (fun c_927 => ?_) (fun c_927 => ?_)
    · refine lv_aload_n hx hb dL_law_932 rfl (lv_at hl 12 rfl) ?_
      refine lv_iload hx hb dL_law_933 (lv_at hl 6 rfl) ?_
      refine lv_iload hx hb dL_law_935 (lv_at hl 5 rfl) ?_
      refine lv_iload hx hb dL_law_937 (lv_at hl 4 rfl) ?_
      have hDB := D_l (D_r hD)
      have hFc := free_all hDB hS hA
      refine va_calli (va_runV (As := [.int (nI a), .int (nI o), .int (nI j)]) (rest := []) ⟨hx, hb, hml, hown, hts⟩ (c_X1_boutK l dC dI cI mb r1 d1 r2 d2 rc n F n2 G ct ch H.size a (show a < n by omega) o (show o < n by omega) j hj hao hn hR) (cwV 3 hts gL_law_X1_bout rfl rfl rfl (by decide +kernel) ⟨Nat.le_of_ble_eq_true rfl, Nat.le_of_ble_eq_true rfl⟩) ⟨PW.blind, va_recv (hK.sub (tys' := [(cI, .int)]) [0] rfl) hPB (ci := 1) (q0 := 0) rfl rfl, fun U hU hW => ⟨rfl, PW.go hPB (hK.sub (tys' := [(cI, .int)]) [0] rfl) hDB hE hS hFc hU hW⟩⟩ rfl rfl hl.1 rfl (lv_room (Nat.le_of_ble_eq_true rfl)) dL_law_939 ⟨(by show _ ≤ 600104; omega), (by show _ ≤ 7301314; omega)⟩) hS (fun q _ h9 => hFc q h9) hFc (fun r u9 t9 H locs ht9 hvm9 hw9 hB9 hz9 hk9 hS => ?_)
      obtain ⟨hP9, hD9⟩ := hB9
      rw [ht9] at hP9
      obtain ⟨hP, hD⟩ := J_B hP hD hk9 hFc hP9 hD9
      have hP : va_P (dC, dI) vwCl (([] : va_W) ++ (wB mb r1 d1 r2 d2 rc cI n (s_hold F a o j) n2 G (s_ct ct F a o j) ch ++ wT h al rw cA cI n F ct)) H := hP
      have hD : va_D A (([] : va_W) ++ (wB mb r1 d1 r2 d2 rc cI n (s_hold F a o j) n2 G (s_ct ct F a o j) ch ++ wT h al rw cA cI n F ct)) := hD
      have hPB : va_P (dC, dI) vwCl (wB mb r1 d1 r2 d2 rc cI n (s_hold F a o j) n2 G (s_ct ct F a o j) ch) H := P_l (P_r hP)
      have hPS : va_P (dC, dI) vwCl (wT h al rw cA cI n F ct) H := P_r (P_r hP)
      have hw9 : r = s_gain F a o (nI j) := hw9
      subst hw9
      refine lv_iload hx hb dL_law_942 (lv_at hl 3 rfl) ?_
      refine lv_icmp_ne (tgt := 992) hx hb dL_law_944 (by decide) (fun c_944 => ?_) (fun c_944 => ?_)
      · exact absurd rfl c_944
      · refine lv_aload_n hx hb dL_law_947 rfl (lv_at hl 11 rfl) ?_
        refine lv_iload hx hb dL_law_948 (lv_at hl 6 rfl) ?_
        refine lv_iload hx hb dL_law_950 (lv_at hl 5 rfl) ?_
        refine lv_iload hx hb dL_law_952 (lv_at hl 4 rfl) ?_
        have hDS := D_r (D_r hD)
        have hFc := free_all hDS hS hA
        refine va_calli (va_runV (As := [.int (nI a), .int (nI o), .int (nI j)]) (rest := []) ⟨hx, hb, hml, hown, hts⟩ (c_X2_bout l dC dI cI h al rw cA n F ct H.size a (show a < n by omega) o (show o < n by omega) j hj hao hn hR) (cwV 3 hts gL_law_X2_bout rfl rfl rfl (by decide +kernel) ⟨Nat.le_of_ble_eq_true rfl, Nat.le_of_ble_eq_true rfl⟩) ⟨PV.blind, va_recv hK hPS (ci := 2) (q0 := 0) rfl rfl, fun U hU hW => ⟨rfl, PV.go hPS hK hDS hE hS hFc hU hW⟩⟩ rfl rfl hl.1 rfl (lv_room (Nat.le_of_ble_eq_true rfl)) dL_law_954 ⟨(by show _ ≤ 600104; omega), (by show _ ≤ 7301314; omega)⟩) hS (fun q _ h9 => hFc q h9) hFc (fun r u9 t9 H locs ht9 hvm9 hw9 hB9 hz9 hk9 hS => ?_)
        obtain ⟨hP9, hD9⟩ := hB9
        rw [ht9] at hP9
        obtain ⟨hP, hD⟩ := J_S hP hD hk9 hFc hP9 hD9
        have hP : va_P (dC, dI) vwCl (([] : va_W) ++ (wB mb r1 d1 r2 d2 rc cI n (s_hold F a o j) n2 G (s_ct ct F a o j) ch ++ wT h al rw cA cI n (s_hold F a o j) (s_ct ct F a o j))) H := hP
        have hD : va_D A (([] : va_W) ++ (wB mb r1 d1 r2 d2 rc cI n (s_hold F a o j) n2 G (s_ct ct F a o j) ch ++ wT h al rw cA cI n (s_hold F a o j) (s_ct ct F a o j))) := hD
        have hPB : va_P (dC, dI) vwCl (wB mb r1 d1 r2 d2 rc cI n (s_hold F a o j) n2 G (s_ct ct F a o j) ch) H := P_l (P_r hP)
        have hPS : va_P (dC, dI) vwCl (wT h al rw cA cI n (s_hold F a o j) (s_ct ct F a o j)) H := P_r (P_r hP)
        have hw9 : r = s_gain F a o (nI j) := hw9
        subst hw9
        refine lv_iload hx hb dL_law_957 (lv_at hl 3 rfl) ?_
        refine lv_icmp_ne (tgt := 992) hx hb dL_law_959 (by decide) (fun c_959 => ?_) (fun c_959 => ?_)
        · exact absurd rfl c_959
        · refine lv_aload_n hx hb dL_law_962 rfl (lv_at hl 12 rfl) ?_
          refine lv_iload hx hb dL_law_963 (lv_at hl 6 rfl) ?_
          refine lv_iconst (v := 0) hx hb dL_law_965 (by decide) ?_
          refine vp_callSi (W.runV (As := [.int (nI a), .int 0]) (rest := []) ⟨hx, hb, hml, hown, hts⟩ (c_X1_toldK l dC dI cI mb r1 d1 r2 d2 rc n (s_hold F a o j) n2 G (s_ct ct F a o j) ch a (show a < n by omega) 0 (show 0 < 9 by decide) hn) (cwV 2 hts gL_law_X1_told rfl rfl rfl (by decide +kernel) ⟨Nat.le_of_ble_eq_true rfl, Nat.le_of_ble_eq_true rfl⟩) ⟨PR.blind, va_recv (hK.sub (tys' := [(cI, .int)]) [0] rfl) hPB (ci := 1) (q0 := 0) rfl rfl, fun U hU hW => ⟨rfl, PR.go hPB (hK.sub (tys' := [(cI, .int)]) [0] rfl) hE hS hU hW⟩⟩ rfl rfl hl.1 rfl (lv_room (Nat.le_of_ble_eq_true rfl)) dL_law_966 ⟨(by show _ ≤ 600104; omega), (by show _ ≤ 7301314; omega)⟩) (fun r hr0 => ?_)
          subst hr0
          refine rv_top (y := F 1 a + s_gain F a o (nI j)) ((told_sw (n := n) (F := s_hold F a o j) (w := a) (k := 0) (by decide)).trans (hold_a hao)) ?_
          refine lv_iload hx hb dL_law_969 (lv_at hl 1 rfl) ?_
          refine lv_iload hx hb dL_law_971 (lv_at hl 3 rfl) ?_
          refine lv_iadd hx hb dL_law_973 ?_
          refine lv_icmp_ne (tgt := 992) hx hb dL_law_974 (by decide) (fun c_974 => ?_) (fun c_974 => ?_)
          · exact absurd rfl c_974
          · refine lv_aload_n hx hb dL_law_977 rfl (lv_at hl 12 rfl) ?_
            refine lv_iload hx hb dL_law_978 (lv_at hl 5 rfl) ?_
            refine lv_iconst (v := 0) hx hb dL_law_980 (by decide) ?_
            refine vp_callSi (W.runV (As := [.int (nI o), .int 0]) (rest := []) ⟨hx, hb, hml, hown, hts⟩ (c_X1_toldK l dC dI cI mb r1 d1 r2 d2 rc n (s_hold F a o j) n2 G (s_ct ct F a o j) ch o (show o < n by omega) 0 (show 0 < 9 by decide) hn) (cwV 2 hts gL_law_X1_told rfl rfl rfl (by decide +kernel) ⟨Nat.le_of_ble_eq_true rfl, Nat.le_of_ble_eq_true rfl⟩) ⟨PR.blind, va_recv (hK.sub (tys' := [(cI, .int)]) [0] rfl) hPB (ci := 1) (q0 := 0) rfl rfl, fun U hU hW => ⟨rfl, PR.go hPB (hK.sub (tys' := [(cI, .int)]) [0] rfl) hE hS hU hW⟩⟩ rfl rfl hl.1 rfl (lv_room (Nat.le_of_ble_eq_true rfl)) dL_law_981 ⟨(by show _ ≤ 600104; omega), (by show _ ≤ 7301314; omega)⟩) (fun r hr0 => ?_)
            subst hr0
            refine rv_top (y := F 1 o + s_gain F o a (nI (2 - j))) ((told_sw (n := n) (F := s_hold F a o j) (w := o) (k := 0) (by decide)).trans (hold_b hao)) ?_
            refine lv_iload hx hb dL_law_984 (lv_at hl 0 rfl) ?_
            refine lv_iload hx hb dL_law_986 (lv_at hl 2 rfl) ?_
            refine lv_iadd hx hb dL_law_988 ?_
            refine lv_icmp_eq (tgt := 994) hx hb dL_law_989 (by decide) (fun c_989 => ?_) (fun c_989 => ?_)
            · refine lv_iload_n hx hb dL_law_994 rfl (lv_at hl 10 rfl) ?_
              refine lv_bipush (v := 6) hx hb dL_law_995 (by decide) ?_
              refine lv_irem hx hb dL_law_997 (by decide) ?_
              refine lv_iconst (v := 5) hx hb dL_law_998 (by decide) ?_
              refine lv_icmp_eq (tgt := 1005) hx hb dL_law_999 (by decide) (fun c_999 => ?_) (fun c_999 => ?_)
              · exact k1005 (s_hold F a o j) (s_ct ct F a o j) (hI.hold hK9 i_a i_o hao hj) _ _ hP hD hS ls (lv_sub hl [8, 10, 11, 12, 13] rfl)
              · refine lv_goto (tgt := 1240) hx hb dL_law_1002 (by decide) ?_
                refine W.widen (k := Cn + 20) (n := Sn + 120) (by omega) (by omega) ?_
                exact k1240 (s_hold F a o j) (s_ct ct F a o j) n2 G (hI.hold hK9 i_a i_o hao hj) _ _ hP hD hS ls (lv_sub hl [10, 11, 12, 13] rfl)
            · exact absurd rfl c_989
    · exact absurd (by decide) c_927
