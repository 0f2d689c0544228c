/-! The law: the end of a season -/
/-- what the end of a season makes of F -/
def FIN (n : Nat) (F E : Nat → Nat → Int32) : Prop := (∀ k, k < n → absI (E 1 k - 1000) = absI (F 1 k - 1000) - (if (3 : Int32) ≤ F 4 k then 0 else 1) * (absI (F 1 k - 1000) / 8)) ∧ (∀ k, k < n → E 2 k = 0 ∧ E 4 k = 0) ∧ ∀ g, s_many n E g = s_many n F g
theorem FIN.of {n : Nat} {F : Nat → Nat → Int32} (hR : okR n F) : FIN n F (s_clear n (s_endU n (s_drift n F) 2).1) := ⟨fun k hk => nearer hR hk, fun k hk => ⟨fin_24 hk (Or.inl rfl), fin_24 hk (Or.inr rfl)⟩, fun g => many_fin⟩
set_option maxHeartbeats 1600000 in
set_option maxRecDepth 100000 in
theorem law_s {p : Program} {l : Launch} {e : Env} {s : State} {m : MethodId} {below : List Frame} {meth : Method} {c : Code} {b L : Nat} {xs : Nat → Int32} {dC : Nat → ClassId} {dI : Nat → Nat → Nat} {A : Nat → Prop} {cI cA : ClassId} {Q : State → Prop} (C0 : LC p l s m meth c b L xs dC dI A cI cA) (mb r1 : Nat) (d1 : Nat → Nat) (r2 : Nat) (d2 : Nat → Nat) (rc h : Nat) (t : Nat) (v : Int32) (n : Nat) (F : Nat → Nat → Int32) (ct : Nat → Int32) (n2 : Nat) (G : Nat → Nat → Int32) (ch : Nat → Int32) (al : Nat) (rw : Nat → Nat) (K Cn Sn : Nat) (hI : INV n F ct K) (hK9 : K ≤ 902) (hC9 : Cn ≤ 600000) (hS9 : Sn ≤ 7301000) (k1124 : ∀ (q7 q8 q9 : Nat) (g7 g8 : Nat → Int32), (∀ i, i < n → g7 i = F 1 i) → (∀ i, i < n → g8 i = if (3 : Int32) ≤ F 4 i then 0 else 1) → ∀ (E : Nat → Nat → Int32) (ce : Nat → Int32), FIN n F E → INV n E ce K → ∀ (H : Heap) (locs : List Loc), va_P (dC, dI) vwCl (([(q9, .inl (cI, 3, .inl ((upd (upd (upd (fun _ => 0) 0 (nI (s_many n F (nI 0)))) 1 (nI (s_many n F (nI 1)))) 2 (nI (s_many n F (nI 2))))))), (q8, .inl (cI, n, .inl (g8))), (q7, .inl (cI, n, .inl (g7)))] : va_W) ++ (wB mb r1 d1 r2 d2 rc cI n E n2 G ce ch ++ wT h al rw cA cI n E ce)) H → va_D A (([(q9, .inl (cI, 3, .inl ((upd (upd (upd (fun _ => 0) 0 (nI (s_many n F (nI 0)))) 1 (nI (s_many n F (nI 1)))) 2 (nI (s_many n F (nI 2))))))), (q8, .inl (cI, n, .inl (g8))), (q7, .inl (cI, n, .inl (g7)))] : va_W) ++ (wB mb r1 d1 r2 d2 rc cI n E n2 G ce ch ++ wT h al rw cA cI n E ce)) → va_S A s.heap H locs → ∀ (ls : Array Slot), lv_has ls 29 [(25, .ref q9), (24, .ref q8), (23, .ref q7), (5, .int (nI n)), (3, .int (nI t)), (2, .ref h), (1, .ref mb), (0, .ref b)] → W p l e room_1 s m #[Value.ref b] below meth c H locs (Cn + 7) (Sn + 80) Q (F0 m 1124 ls [])) (H : Heap) (locs : List Loc) (hP : va_P (dC, dI) vwCl (([] : va_W) ++ (wB mb r1 d1 r2 d2 rc cI n F n2 G ct ch ++ wT h al rw cA cI n F ct)) H) (hD : va_D A (([] : va_W) ++ (wB mb r1 d1 r2 d2 rc cI n F n2 G ct ch ++ wT h al rw cA cI n F ct))) (hS : va_S A s.heap H locs) (ls : Array Slot) (hl : lv_has ls 29 [(5, .int (nI n)), (3, .int (nI t)), (2, .ref h), (1, .ref mb), (0, .ref b)]) : W p l e room_1 s m #[Value.ref b] below meth c H locs Cn Sn Q (F0 m 1005 ls []) := by
  obtain ⟨hx, hb, hr, hml, hown, hts, hX, hbl, hlocks, hl0, hK, hE, hbA, hA, hL⟩ := C0
  have hinX2 := inlX2
  have hPB : va_P (dC, dI) vwCl (wB mb r1 d1 r2 d2 rc cI n F n2 G ct ch) H := P_l (P_r hP)
  have hPS : va_P (dC, dI) vwCl (wT h al rw cA cI n F ct) H := P_r (P_r hP)
  have hn := hI.n12
  have hR := hI.okR
  refine lv_iload hx hb dL_law_1005 (lv_at hl 0 rfl) ?_
  refine rv_newa (N' := n) hx hb (hts (.arrayClass .int) (by decide +kernel)) (hK.sub (tys' := [(cI, .int)]) [0] rfl) hP hD hS hA (nI_pos (by omega)) (nI_clamp (by omega)) (by omega) (by show _ ≤ 600104; omega) (by show _ ≤ 7301314; omega) dL_law_1007 (fun q1007 H hP hD hS => ?_)
  obtain ⟨hP, hD⟩ := front hP hD
  have hP : va_P (dC, dI) vwCl (([(q1007, .inl (cI, n, .inl (fun _ => 0)))] : va_W) ++ (wB mb r1 d1 r2 d2 rc cI n F n2 G ct ch ++ wT h al rw cA cI n F ct)) H := hP
  have hD : va_D A (([(q1007, .inl (cI, n, .inl (fun _ => 0)))] : va_W) ++ (wB mb r1 d1 r2 d2 rc cI n F n2 G ct ch ++ wT h al rw cA cI n F ct)) := hD
  have hPB : va_P (dC, dI) vwCl (wB mb r1 d1 r2 d2 rc cI n F n2 G ct ch) H := P_l (P_r hP)
  have hPS : va_P (dC, dI) vwCl (wT h al rw cA cI n F ct) H := P_r (P_r hP)
  refine lv_astore (lv' := [(23, .ref q1007), (5, .int (nI n)), (3, .int (nI t)), (2, .ref h), (1, .ref mb), (0, .ref b)]) hx hb dL_law_1009 hl (by decide) rfl (fun ls hl => ?_)
  refine lv_iload hx hb dL_law_1011 (lv_at hl 1 rfl) ?_
  refine rv_newa (N' := n) hx hb (hts (.arrayClass .int) (by decide +kernel)) (hK.sub (tys' := [(cI, .int)]) [0] rfl) hP hD hS hA (nI_pos (by omega)) (nI_clamp (by omega)) (by omega) (by show _ ≤ 600104; omega) (by show _ ≤ 7301314; omega) dL_law_1013 (fun q1013 H hP hD hS => ?_)
  obtain ⟨hP, hD⟩ := front hP hD
  have hP : va_P (dC, dI) vwCl (([(q1013, .inl (cI, n, .inl (fun _ => 0))), (q1007, .inl (cI, n, .inl (fun _ => 0)))] : va_W) ++ (wB mb r1 d1 r2 d2 rc cI n F n2 G ct ch ++ wT h al rw cA cI n F ct)) H := hP
  have hD : va_D A (([(q1013, .inl (cI, n, .inl (fun _ => 0))), (q1007, .inl (cI, n, .inl (fun _ => 0)))] : va_W) ++ (wB mb r1 d1 r2 d2 rc cI n F n2 G ct ch ++ wT h al rw cA cI n F ct)) := hD
  have hPB : va_P (dC, dI) vwCl (wB mb r1 d1 r2 d2 rc cI n F n2 G ct ch) H := P_l (P_r hP)
  have hPS : va_P (dC, dI) vwCl (wT h al rw cA cI n F ct) H := P_r (P_r hP)
  refine lv_astore (lv' := [(24, .ref q1013), (23, .ref q1007), (5, .int (nI n)), (3, .int (nI t)), (2, .ref h), (1, .ref mb), (0, .ref b)]) hx hb dL_law_1015 hl (by decide) rfl (fun ls hl => ?_)
  refine lv_iconst (v := 0) hx hb dL_law_1017 (by decide) ?_
  refine lv_istore (lv' := [(25, .int 0), (24, .ref q1013), (23, .ref q1007), (5, .int (nI n)), (3, .int (nI t)), (2, .ref h), (1, .ref mb), (0, .ref b)]) hx hb dL_law_1018 hl (by decide) rfl (fun ls hl => ?_)
  have L_1020 : ∀ (kz z : Nat) (g7 : Nat → Int32) (g8 : Nat → Int32), z + kz = n → (∀ i, i < z → g7 i = F 1 i) → (∀ i, i < z → g8 i = if (3 : Int32) ≤ F 4 i then 0 else 1) → ∀ (H : Heap) (locs : List Loc), va_P (dC, dI) vwCl (([(q1013, .inl (cI, n, .inl (g8))), (q1007, .inl (cI, n, .inl (g7)))] : va_W) ++ (wB mb r1 d1 r2 d2 rc cI n F n2 G ct ch ++ wT h al rw cA cI n F ct)) H → va_D A (([(q1013, .inl (cI, n, .inl (g8))), (q1007, .inl (cI, n, .inl (g7)))] : va_W) ++ (wB mb r1 d1 r2 d2 rc cI n F n2 G ct ch ++ wT h al rw cA cI n F ct)) → va_S A s.heap H locs → ∀ (ls : Array Slot), lv_has ls 29 [(25, .int (nI z)), (24, .ref q1013), (23, .ref q1007), (5, .int (nI n)), (3, .int (nI t)), (2, .ref h), (1, .ref mb), (0, .ref b)] → W p l e room_1 s m #[Value.ref b] below meth c H locs (Cn + 1 + 1) (Sn + n + n) Q (F0 m 1020 ls []) := by
    intro kz
    induction kz with
    | zero =>
      intro z g7 g8 e_z hg7 hg8 H locs hP hD hS ls hl
      have hPB : va_P (dC, dI) vwCl (wB mb r1 d1 r2 d2 rc cI n F n2 G ct ch) H := P_l (P_r hP)
      have hPS : va_P (dC, dI) vwCl (wT h al rw cA cI n F ct) H := P_r (P_r hP)
      refine lv_iload hx hb dL_law_1020 (lv_at hl 0 rfl) ?_
      refine lv_iload hx hb dL_law_1022 (lv_at hl 3 rfl) ?_
      refine rv_icmp_ge (tgt := 1066) hx hb (a := z) (b := n) (by omega) (by omega) dL_law_1024 (by decide) (fun c_1024 => ?_) (fun c_1024 => ?_)
      · refine lv_iconst (v := 3) hx hb dL_law_1066 (by decide) ?_
        refine rv_newa (N' := 3) hx hb (hts (.arrayClass .int) (by decide +kernel)) (hK.sub (tys' := [(cI, .int)]) [0] rfl) hP hD hS hA (by decide) (rfl) (Nat.le_of_ble_eq_true rfl) (by show _ ≤ 600104; omega) (by show _ ≤ 7301314; omega) dL_law_1067 (fun q1067 H hP hD hS => ?_)
        obtain ⟨hP, hD⟩ := front hP hD
        have hP : va_P (dC, dI) vwCl (([(q1067, .inl (cI, 3, .inl (fun _ => 0))), (q1013, .inl (cI, n, .inl (g8))), (q1007, .inl (cI, n, .inl (g7)))] : va_W) ++ (wB mb r1 d1 r2 d2 rc cI n F n2 G ct ch ++ wT h al rw cA cI n F ct)) H := hP
        have hD : va_D A (([(q1067, .inl (cI, 3, .inl (fun _ => 0))), (q1013, .inl (cI, n, .inl (g8))), (q1007, .inl (cI, n, .inl (g7)))] : va_W) ++ (wB mb r1 d1 r2 d2 rc cI n F n2 G ct ch ++ wT h al rw cA cI n F ct)) := hD
        have hPB : va_P (dC, dI) vwCl (wB mb r1 d1 r2 d2 rc cI n F n2 G ct ch) H := P_l (P_r hP)
        have hPS : va_P (dC, dI) vwCl (wT h al rw cA cI n F ct) H := P_r (P_r hP)
        refine lv_dup hx hb dL_law_1069 rfl ?_
        refine lv_iconst (v := 0) hx hb dL_law_1070 (by decide) ?_
        refine lv_aload_n hx hb dL_law_1071 rfl (lv_at hl 6 rfl) ?_
        refine lv_iconst (v := 4) hx hb dL_law_1072 (by decide) ?_
        refine vp_callSi (W.runV (As := [.int 4]) (rest := [.int 0, .ref q1067, .ref q1067]) ⟨hx, hb, hml, hown, hts⟩ (c_X1_countK l dC dI cI mb r1 d1 r2 d2 rc n F n2 G ct ch 4 (show 4 < 9 by decide) hn) (cwV 1 hts gL_law_X1_count rfl rfl rfl (by decide +kernel) ⟨Nat.le_of_ble_eq_true rfl, Nat.le_of_ble_eq_true rfl⟩) ⟨PR.blind, va_recv (hK.sub (tys' := [(cI, .int)]) [0] rfl) hPB (ci := 1) (q0 := 0) rfl rfl, fun U hU hW => ⟨rfl, PR.go hPB (hK.sub (tys' := [(cI, .int)]) [0] rfl) hE hS hU hW⟩⟩ rfl rfl hl.1 rfl (lv_room (Nat.le_of_ble_eq_true rfl)) dL_law_1073 ⟨(by show _ ≤ 600104; omega), (by show _ ≤ 7301314; omega)⟩) (fun r hr0 => ?_)
        subst hr0
        refine rv_top (y := nI (s_many n F (nI 0))) (cnt4 (l := 0) (by decide)) ?_
        refine rv_iast (k := 0) hx hb hK hP hD hS 0 0 rfl rfl (show 0 < 3 by omega) (by omega) dL_law_1076 (fun H locs hP hD hS => ?_)
        have hP : va_P (dC, dI) vwCl (([(q1067, .inl (cI, 3, .inl (upd (fun _ => 0) 0 (nI (s_many n F (nI 0)))))), (q1013, .inl (cI, n, .inl (g8))), (q1007, .inl (cI, n, .inl (g7)))] : va_W) ++ (wB mb r1 d1 r2 d2 rc cI n F n2 G ct ch ++ wT h al rw cA cI n F ct)) H := hP
        have hD : va_D A (([(q1067, .inl (cI, 3, .inl (upd (fun _ => 0) 0 (nI (s_many n F (nI 0)))))), (q1013, .inl (cI, n, .inl (g8))), (q1007, .inl (cI, n, .inl (g7)))] : va_W) ++ (wB mb r1 d1 r2 d2 rc cI n F n2 G ct ch ++ wT h al rw cA cI n F ct)) := hD
        have hPB : va_P (dC, dI) vwCl (wB mb r1 d1 r2 d2 rc cI n F n2 G ct ch) H := P_l (P_r hP)
        have hPS : va_P (dC, dI) vwCl (wT h al rw cA cI n F ct) H := P_r (P_r hP)
        refine lv_dup hx hb dL_law_1077 rfl ?_
        refine lv_iconst (v := 1) hx hb dL_law_1078 (by decide) ?_
        refine lv_aload_n hx hb dL_law_1079 rfl (lv_at hl 6 rfl) ?_
        refine lv_iconst (v := 5) hx hb dL_law_1080 (by decide) ?_
        refine vp_callSi (W.runV (As := [.int 5]) (rest := [.int 1, .ref q1067, .ref q1067]) ⟨hx, hb, hml, hown, hts⟩ (c_X1_countK l dC dI cI mb r1 d1 r2 d2 rc n F n2 G ct ch 5 (show 5 < 9 by decide) hn) (cwV 1 hts gL_law_X1_count rfl rfl rfl (by decide +kernel) ⟨Nat.le_of_ble_eq_true rfl, Nat.le_of_ble_eq_true rfl⟩) ⟨PR.blind, va_recv (hK.sub (tys' := [(cI, .int)]) [0] rfl) hPB (ci := 1) (q0 := 0) rfl rfl, fun U hU hW => ⟨rfl, PR.go hPB (hK.sub (tys' := [(cI, .int)]) [0] rfl) hE hS hU hW⟩⟩ rfl rfl hl.1 rfl (lv_room (Nat.le_of_ble_eq_true rfl)) dL_law_1081 ⟨(by show _ ≤ 600104; omega), (by show _ ≤ 7301314; omega)⟩) (fun r hr0 => ?_)
        subst hr0
        refine rv_top (y := nI (s_many n F (nI 1))) (cnt4 (l := 1) (by decide)) ?_
        refine rv_iast (k := 1) hx hb hK hP hD hS 0 0 rfl rfl (show 1 < 3 by omega) (by omega) dL_law_1084 (fun H locs hP hD hS => ?_)
        have hP : va_P (dC, dI) vwCl (([(q1067, .inl (cI, 3, .inl (upd (upd (fun _ => 0) 0 (nI (s_many n F (nI 0)))) 1 (nI (s_many n F (nI 1)))))), (q1013, .inl (cI, n, .inl (g8))), (q1007, .inl (cI, n, .inl (g7)))] : va_W) ++ (wB mb r1 d1 r2 d2 rc cI n F n2 G ct ch ++ wT h al rw cA cI n F ct)) H := hP
        have hD : va_D A (([(q1067, .inl (cI, 3, .inl (upd (upd (fun _ => 0) 0 (nI (s_many n F (nI 0)))) 1 (nI (s_many n F (nI 1)))))), (q1013, .inl (cI, n, .inl (g8))), (q1007, .inl (cI, n, .inl (g7)))] : va_W) ++ (wB mb r1 d1 r2 d2 rc cI n F n2 G ct ch ++ wT h al rw cA cI n F ct)) := hD
        have hPB : va_P (dC, dI) vwCl (wB mb r1 d1 r2 d2 rc cI n F n2 G ct ch) H := P_l (P_r hP)
        have hPS : va_P (dC, dI) vwCl (wT h al rw cA cI n F ct) H := P_r (P_r hP)
        refine lv_dup hx hb dL_law_1085 rfl ?_
        refine lv_iconst (v := 2) hx hb dL_law_1086 (by decide) ?_
        refine lv_aload_n hx hb dL_law_1087 rfl (lv_at hl 6 rfl) ?_
        refine lv_bipush (v := 6) hx hb dL_law_1088 (by decide) ?_
        refine vp_callSi (W.runV (As := [.int 6]) (rest := [.int 2, .ref q1067, .ref q1067]) ⟨hx, hb, hml, hown, hts⟩ (c_X1_countK l dC dI cI mb r1 d1 r2 d2 rc n F n2 G ct ch 6 (show 6 < 9 by decide) hn) (cwV 1 hts gL_law_X1_count rfl rfl rfl (by decide +kernel) ⟨Nat.le_of_ble_eq_true rfl, Nat.le_of_ble_eq_true rfl⟩) ⟨PR.blind, va_recv (hK.sub (tys' := [(cI, .int)]) [0] rfl) hPB (ci := 1) (q0 := 0) rfl rfl, fun U hU hW => ⟨rfl, PR.go hPB (hK.sub (tys' := [(cI, .int)]) [0] rfl) hE hS hU hW⟩⟩ rfl rfl hl.1 rfl (lv_room (Nat.le_of_ble_eq_true rfl)) dL_law_1090 ⟨(by show _ ≤ 600104; omega), (by show _ ≤ 7301314; omega)⟩) (fun r hr0 => ?_)
        subst hr0
        refine rv_top (y := nI (s_many n F (nI 2))) (cnt4 (l := 2) (by decide)) ?_
        refine rv_iast (k := 2) hx hb hK hP hD hS 0 0 rfl rfl (show 2 < 3 by omega) (by omega) dL_law_1093 (fun H locs hP hD hS => ?_)
        have hP : va_P (dC, dI) vwCl (([(q1067, .inl (cI, 3, .inl (upd (upd (upd (fun _ => 0) 0 (nI (s_many n F (nI 0)))) 1 (nI (s_many n F (nI 1)))) 2 (nI (s_many n F (nI 2)))))), (q1013, .inl (cI, n, .inl (g8))), (q1007, .inl (cI, n, .inl (g7)))] : va_W) ++ (wB mb r1 d1 r2 d2 rc cI n F n2 G ct ch ++ wT h al rw cA cI n F ct)) H := hP
        have hD : va_D A (([(q1067, .inl (cI, 3, .inl (upd (upd (upd (fun _ => 0) 0 (nI (s_many n F (nI 0)))) 1 (nI (s_many n F (nI 1)))) 2 (nI (s_many n F (nI 2)))))), (q1013, .inl (cI, n, .inl (g8))), (q1007, .inl (cI, n, .inl (g7)))] : va_W) ++ (wB mb r1 d1 r2 d2 rc cI n F n2 G ct ch ++ wT h al rw cA cI n F ct)) := hD
        have hPB : va_P (dC, dI) vwCl (wB mb r1 d1 r2 d2 rc cI n F n2 G ct ch) H := P_l (P_r hP)
        have hPS : va_P (dC, dI) vwCl (wT h al rw cA cI n F ct) H := P_r (P_r hP)
        refine lv_astore (lv' := [(25, .ref q1067), (24, .ref q1013), (23, .ref q1007), (5, .int (nI n)), (3, .int (nI t)), (2, .ref h), (1, .ref mb), (0, .ref b)]) hx hb dL_law_1094 hl (by decide) rfl (fun ls hl => ?_)
        refine lv_aload_n hx hb dL_law_1096 rfl (lv_at hl 6 rfl) ?_
        have hDB := D_l (D_r hD)
        have hFc := free_all hDB hS hA
        refine va_calli (va_runV (As := []) (rest := []) ⟨hx, hb, hml, hown, hts⟩ (c_X1_end l dC dI cI mb r1 d1 r2 d2 rc n F n2 G ct ch H.size hn) (cwV 0 hts gL_law_X1_end rfl rfl rfl (by decide +kernel) ⟨Nat.le_of_ble_eq_true rfl, Nat.le_of_ble_eq_true rfl⟩) ⟨PW.blind, va_recv (hK.sub (tys' := [(cI, .int)]) [0] rfl) hPB (ci := 1) (q0 := 0) rfl rfl, fun U hU hW => ⟨rfl, PW.go hPB (hK.sub (tys' := [(cI, .int)]) [0] rfl) hDB hE hS hFc hU hW⟩⟩ rfl rfl hl.1 rfl (lv_room (Nat.le_of_ble_eq_true rfl)) dL_law_1097 ⟨(by show _ ≤ 600104; omega), (by show _ ≤ 7301314; omega)⟩) hS (fun q _ h9 => hFc q h9) hFc (fun r u9 t9 H locs ht9 hvm9 hw9 hB9 hz9 hk9 hS => ?_)
        obtain ⟨hP9, hD9⟩ := hB9
        rw [ht9] at hP9
        obtain ⟨hP, hD⟩ := J_B hP hD hk9 hFc hP9 hD9
        have hP : va_P (dC, dI) vwCl (([(q1067, .inl (cI, 3, .inl (upd (upd (upd (fun _ => 0) 0 (nI (s_many n F (nI 0)))) 1 (nI (s_many n F (nI 1)))) 2 (nI (s_many n F (nI 2)))))), (q1013, .inl (cI, n, .inl (g8))), (q1007, .inl (cI, n, .inl (g7)))] : va_W) ++ (wB mb r1 d1 r2 d2 rc cI n (s_clear n (s_endU n (s_drift n F) 2).1) n2 G (upd ct 0 (ct 0 + 1)) ch ++ wT h al rw cA cI n F ct)) H := hP
        have hD : va_D A (([(q1067, .inl (cI, 3, .inl (upd (upd (upd (fun _ => 0) 0 (nI (s_many n F (nI 0)))) 1 (nI (s_many n F (nI 1)))) 2 (nI (s_many n F (nI 2)))))), (q1013, .inl (cI, n, .inl (g8))), (q1007, .inl (cI, n, .inl (g7)))] : va_W) ++ (wB mb r1 d1 r2 d2 rc cI n (s_clear n (s_endU n (s_drift n F) 2).1) n2 G (upd ct 0 (ct 0 + 1)) ch ++ wT h al rw cA cI n F ct)) := hD
        have hPB : va_P (dC, dI) vwCl (wB mb r1 d1 r2 d2 rc cI n (s_clear n (s_endU n (s_drift n F) 2).1) n2 G (upd ct 0 (ct 0 + 1)) ch) H := P_l (P_r hP)
        have hPS : va_P (dC, dI) vwCl (wT h al rw cA cI n F ct) H := P_r (P_r hP)
        have hw9 : r = (s_endU n (s_drift n F) 2).2 := hw9
        subst hw9
        refine lv_istore (lv' := [(26, .int ((s_endU n (s_drift n F) 2).2)), (25, .ref q1067), (24, .ref q1013), (23, .ref q1007), (5, .int (nI n)), (3, .int (nI t)), (2, .ref h), (1, .ref mb), (0, .ref b)]) hx hb dL_law_1100 hl (by decide) rfl (fun ls hl => ?_)
        refine lv_aload_n hx hb dL_law_1102 rfl (lv_at hl 6 rfl) ?_
        have hDS := D_r (D_r hD)
        have hFc := free_all hDS hS hA
        refine va_calli (va_runV (As := []) (rest := []) ⟨hx, hb, hml, hown, hts⟩ (c_X2_end l dC dI cI h al rw cA n F ct H.size hn hR) (cwV 0 hts gL_law_X2_end rfl rfl rfl (by decide +kernel) ⟨Nat.le_of_ble_eq_true rfl, Nat.le_of_ble_eq_true rfl⟩) ⟨PV.blind, va_recv hK hPS (ci := 2) (q0 := 0) rfl rfl, fun U hU hW => ⟨rfl, PV.go hPS hK hDS hE hS hFc hU hW⟩⟩ rfl rfl hl.1 rfl (lv_room (Nat.le_of_ble_eq_true rfl)) dL_law_1103 ⟨(by show _ ≤ 600104; omega), (by show _ ≤ 7301314; omega)⟩) hS (fun q _ h9 => hFc q h9) hFc (fun r u9 t9 H locs ht9 hvm9 hw9 hB9 hz9 hk9 hS => ?_)
        obtain ⟨hP9, hD9⟩ := hB9
        rw [ht9] at hP9
        obtain ⟨hP, hD⟩ := J_S hP hD hk9 hFc hP9 hD9
        have hP : va_P (dC, dI) vwCl (([(q1067, .inl (cI, 3, .inl (upd (upd (upd (fun _ => 0) 0 (nI (s_many n F (nI 0)))) 1 (nI (s_many n F (nI 1)))) 2 (nI (s_many n F (nI 2)))))), (q1013, .inl (cI, n, .inl (g8))), (q1007, .inl (cI, n, .inl (g7)))] : va_W) ++ (wB mb r1 d1 r2 d2 rc cI n (s_clear n (s_endU n (s_drift n F) 2).1) n2 G (upd ct 0 (ct 0 + 1)) ch ++ wT h al rw cA cI n (s_clear n (s_endU n (s_drift n F) 2).1) (upd ct 0 (ct 0 + 1)))) H := hP
        have hD : va_D A (([(q1067, .inl (cI, 3, .inl (upd (upd (upd (fun _ => 0) 0 (nI (s_many n F (nI 0)))) 1 (nI (s_many n F (nI 1)))) 2 (nI (s_many n F (nI 2)))))), (q1013, .inl (cI, n, .inl (g8))), (q1007, .inl (cI, n, .inl (g7)))] : va_W) ++ (wB mb r1 d1 r2 d2 rc cI n (s_clear n (s_endU n (s_drift n F) 2).1) n2 G (upd ct 0 (ct 0 + 1)) ch ++ wT h al rw cA cI n (s_clear n (s_endU n (s_drift n F) 2).1) (upd ct 0 (ct 0 + 1)))) := hD
        have hPB : va_P (dC, dI) vwCl (wB mb r1 d1 r2 d2 rc cI n (s_clear n (s_endU n (s_drift n F) 2).1) n2 G (upd ct 0 (ct 0 + 1)) ch) H := P_l (P_r hP)
        have hPS : va_P (dC, dI) vwCl (wT h al rw cA cI n (s_clear n (s_endU n (s_drift n F) 2).1) (upd ct 0 (ct 0 + 1))) H := P_r (P_r hP)
        have hw9 : r = (s_endU n (s_drift n F) 2).2 := hw9
        subst hw9
        refine lv_iload hx hb dL_law_1106 (lv_at hl 0 rfl) ?_
        refine lv_icmp_ne (tgt := 1122) hx hb dL_law_1108 (by decide) (fun c_1108 => ?_) (fun c_1108 => ?_)
        · exact absurd rfl c_1108
        · obtain ⟨u9, hu2, eu⟩ := up_N n (s_drift n F) 2
          refine lv_iload hx hb dL_law_1111 (lv_at hl 0 rfl) ?_
          refine lv_if_lt (tgt := 1122) hx hb dL_law_1113 (by decide) (fun c_1113 => ?_) (fun c_1113 => ?_)
          · exact absurd c_1113 (by rw [eu]; exact nI_pos (by omega))
          · refine lv_iload hx hb dL_law_1116 (lv_at hl 0 rfl) ?_
            refine lv_iconst (v := 2) hx hb dL_law_1118 (by decide) ?_
            refine lv_icmp_le (tgt := 1124) hx hb dL_law_1119 (by decide) (fun c_1119 => ?_) (fun c_1119 => ?_)
            · have hg7 : (∀ i, i < n → g7 i = F 1 i) := fun i hi => hg7 i (by omega)
              have hg8 : (∀ i, i < n → g8 i = if (3 : Int32) ≤ F 4 i then 0 else 1) := fun i hi => hg8 i (by omega)
              refine W.widen (k := Cn + 7) (n := Sn + 80) (by omega) (by omega) ?_
              exact k1124 q1007 q1013 q1067 g7 g8 hg7 hg8 (s_clear n (s_endU n (s_drift n F) 2).1) (upd ct 0 (ct 0 + 1)) (FIN.of hR) hI.fin _ _ hP hD hS ls (lv_sub hl [1, 2, 3, 4, 5, 6, 7, 8] rfl)
            · exact absurd (by rw [eu]; exact nI_le (b := 2) hu2 (by decide)) c_1119
      · exact absurd c_1024 (by omega)
    | succ kz ih_1020 =>
      intro z g7 g8 e_z hg7 hg8 H locs hP hD hS ls hl
      have hPB : va_P (dC, dI) vwCl (wB mb r1 d1 r2 d2 rc cI n F n2 G ct ch) H := P_l (P_r hP)
      have hPS : va_P (dC, dI) vwCl (wT h al rw cA cI n F ct) H := P_r (P_r hP)
      refine lv_iload hx hb dL_law_1020 (lv_at hl 0 rfl) ?_
      refine lv_iload hx hb dL_law_1022 (lv_at hl 3 rfl) ?_
      refine rv_icmp_ge (tgt := 1066) hx hb (a := z) (b := n) (by omega) (by omega) dL_law_1024 (by decide) (fun c_1024 => ?_) (fun c_1024 => ?_)
      · exact absurd c_1024 (by omega)
      · refine lv_aload hx hb dL_law_1027 (lv_at hl 2 rfl) ?_
        refine lv_iload hx hb dL_law_1029 (lv_at hl 0 rfl) ?_
        refine lv_aload_n hx hb dL_law_1031 rfl (lv_at hl 6 rfl) ?_
        refine lv_iload hx hb dL_law_1032 (lv_at hl 0 rfl) ?_
        refine lv_iconst (v := 0) hx hb dL_law_1034 (by decide) ?_
        refine vp_callSi (W.runV (As := [.int (nI z), .int 0]) (rest := [.int (nI z), .ref q1007]) ⟨hx, hb, hml, hown, hts⟩ (c_X1_toldK l dC dI cI mb r1 d1 r2 d2 rc n F n2 G ct ch z (show z < n by omega) 0 (show 0 < 9 by decide) hn) (cwV 2 hts gL_law_X1_told rfl rfl rfl (by decide +kernel) ⟨Nat.le_of_ble_eq_true rfl, Nat.le_of_ble_eq_true rfl⟩) ⟨PR.blind, va_recv (hK.sub (tys' := [(cI, .int)]) [0] rfl) hPB (ci := 1) (q0 := 0) rfl rfl, fun U hU hW => ⟨rfl, PR.go hPB (hK.sub (tys' := [(cI, .int)]) [0] rfl) hE hS hU hW⟩⟩ rfl rfl hl.1 rfl (lv_room (Nat.le_of_ble_eq_true rfl)) dL_law_1035 ⟨(by show _ ≤ 600104; omega), (by show _ ≤ 7301314; omega)⟩) (fun r hr0 => ?_)
        subst hr0
        refine rv_top (y := F 1 z) rfl ?_
        refine rv_iast (k := z) hx hb hK hP hD hS 1 0 rfl rfl (show z < n by omega) (by omega) dL_law_1038 (fun H locs hP hD hS => ?_)
        have hP : va_P (dC, dI) vwCl (([(q1013, .inl (cI, n, .inl (g8))), (q1007, .inl (cI, n, .inl (upd g7 z (F 1 z))))] : va_W) ++ (wB mb r1 d1 r2 d2 rc cI n F n2 G ct ch ++ wT h al rw cA cI n F ct)) H := hP
        have hD : va_D A (([(q1013, .inl (cI, n, .inl (g8))), (q1007, .inl (cI, n, .inl (upd g7 z (F 1 z))))] : va_W) ++ (wB mb r1 d1 r2 d2 rc cI n F n2 G ct ch ++ wT h al rw cA cI n F ct)) := hD
        have hPB : va_P (dC, dI) vwCl (wB mb r1 d1 r2 d2 rc cI n F n2 G ct ch) H := P_l (P_r hP)
        have hPS : va_P (dC, dI) vwCl (wT h al rw cA cI n F ct) H := P_r (P_r hP)
        refine lv_aload hx hb dL_law_1039 (lv_at hl 1 rfl) ?_
        refine lv_iload hx hb dL_law_1041 (lv_at hl 0 rfl) ?_
        refine lv_aload_n hx hb dL_law_1043 rfl (lv_at hl 6 rfl) ?_
        refine lv_iload hx hb dL_law_1044 (lv_at hl 0 rfl) ?_
        refine lv_iconst (v := 4) hx hb dL_law_1046 (by decide) ?_
        refine vp_callSi (W.runV (As := [.int (nI z), .int 4]) (rest := [.int (nI z), .ref q1013]) ⟨hx, hb, hml, hown, hts⟩ (c_X1_toldK l dC dI cI mb r1 d1 r2 d2 rc n F n2 G ct ch z (show z < n by omega) 4 (show 4 < 9 by decide) hn) (cwV 2 hts gL_law_X1_told rfl rfl rfl (by decide +kernel) ⟨Nat.le_of_ble_eq_true rfl, Nat.le_of_ble_eq_true rfl⟩) ⟨PR.blind, va_recv (hK.sub (tys' := [(cI, .int)]) [0] rfl) hPB (ci := 1) (q0 := 0) rfl rfl, fun U hU hW => ⟨rfl, PR.go hPB (hK.sub (tys' := [(cI, .int)]) [0] rfl) hE hS hU hW⟩⟩ rfl rfl hl.1 rfl (lv_room (Nat.le_of_ble_eq_true rfl)) dL_law_1047 ⟨(by show _ ≤ 600104; omega), (by show _ ≤ 7301314; omega)⟩) (fun r hr0 => ?_)
        subst hr0
        refine rv_top (y := F 4 z) rfl ?_
        refine lv_iconst (v := 3) hx hb dL_law_1050 (by decide) ?_
        refine lv_icmp_ge (tgt := 1058) hx hb dL_law_1051 (by decide) (fun c_1051 => ?_) (fun c_1051 => ?_)
        · refine lv_iconst (v := 0) hx hb dL_law_1058 (by decide) ?_
          refine rv_iast (k := z) hx hb hK hP hD hS 0 0 rfl rfl (show z < n by omega) (by omega) dL_law_1059 (fun H locs hP hD hS => ?_)
          have hP : va_P (dC, dI) vwCl (([(q1013, .inl (cI, n, .inl (upd g8 z 0))), (q1007, .inl (cI, n, .inl (upd g7 z (F 1 z))))] : va_W) ++ (wB mb r1 d1 r2 d2 rc cI n F n2 G ct ch ++ wT h al rw cA cI n F ct)) H := hP
          have hD : va_D A (([(q1013, .inl (cI, n, .inl (upd g8 z 0))), (q1007, .inl (cI, n, .inl (upd g7 z (F 1 z))))] : va_W) ++ (wB mb r1 d1 r2 d2 rc cI n F n2 G ct ch ++ wT h al rw cA cI n F ct)) := hD
          have hPB : va_P (dC, dI) vwCl (wB mb r1 d1 r2 d2 rc cI n F n2 G ct ch) H := P_l (P_r hP)
          have hPS : va_P (dC, dI) vwCl (wT h al rw cA cI n F ct) H := P_r (P_r hP)
          refine lv_iinc (v := nI (z + 1)) (lv' := [(25, .int (nI (z + 1))), (24, .ref q1013), (23, .ref q1007), (5, .int (nI n)), (3, .int (nI t)), (2, .ref h), (1, .ref mb), (0, .ref b)]) hx hb dL_law_1060 hl (k := 0) rfl (nI_add z 1) (by decide) rfl (fun ls hl => ?_)
          refine lv_goto (tgt := 1020) hx hb dL_law_1063 (by decide) ?_
          exact ih_1020 (z + 1) (upd g7 z (F 1 z)) (upd g8 z 0) (by omega) (up_all (φ := fun i => F 1 i) hg7 rfl) (up_all (φ := fun i => if (3 : Int32) ≤ F 4 i then 0 else 1) hg8 (if_pos c_1051).symm) _ _ hP hD hS ls (lv_sub hl [0, 1, 2, 3, 4, 5, 6, 7] rfl)
        · refine lv_iconst (v := 1) hx hb dL_law_1054 (by decide) ?_
          refine lv_goto (tgt := 1059) hx hb dL_law_1055 (by decide) ?_
          refine rv_iast (k := z) hx hb hK hP hD hS 0 0 rfl rfl (show z < n by omega) (by omega) dL_law_1059 (fun H locs hP hD hS => ?_)
          have hP : va_P (dC, dI) vwCl (([(q1013, .inl (cI, n, .inl (upd g8 z 1))), (q1007, .inl (cI, n, .inl (upd g7 z (F 1 z))))] : va_W) ++ (wB mb r1 d1 r2 d2 rc cI n F n2 G ct ch ++ wT h al rw cA cI n F ct)) H := hP
          have hD : va_D A (([(q1013, .inl (cI, n, .inl (upd g8 z 1))), (q1007, .inl (cI, n, .inl (upd g7 z (F 1 z))))] : va_W) ++ (wB mb r1 d1 r2 d2 rc cI n F n2 G ct ch ++ wT h al rw cA cI n F ct)) := hD
          have hPB : va_P (dC, dI) vwCl (wB mb r1 d1 r2 d2 rc cI n F n2 G ct ch) H := P_l (P_r hP)
          have hPS : va_P (dC, dI) vwCl (wT h al rw cA cI n F ct) H := P_r (P_r hP)
          refine lv_iinc (v := nI (z + 1)) (lv' := [(25, .int (nI (z + 1))), (24, .ref q1013), (23, .ref q1007), (5, .int (nI n)), (3, .int (nI t)), (2, .ref h), (1, .ref mb), (0, .ref b)]) hx hb dL_law_1060 hl (k := 0) rfl (nI_add z 1) (by decide) rfl (fun ls hl => ?_)
          refine lv_goto (tgt := 1020) hx hb dL_law_1063 (by decide) ?_
          exact ih_1020 (z + 1) (upd g7 z (F 1 z)) (upd g8 z 1) (by omega) (up_all (φ := fun i => F 1 i) hg7 rfl) (up_all (φ := fun i => if (3 : Int32) ≤ F 4 i then 0 else 1) hg8 (if_neg c_1051).symm) _ _ hP hD hS ls (lv_sub hl [0, 1, 2, 3, 4, 5, 6, 7] rfl)
  exact L_1020 n 0 (fun _ => 0) (fun _ => 0) (by omega) (fun i hi => absurd hi (Nat.not_lt_zero i)) (fun i hi => absurd hi (Nat.not_lt_zero i)) _ _ hP hD hS ls (lv_sub hl [0, 1, 2, 3, 4, 5, 6, 7] rfl)
