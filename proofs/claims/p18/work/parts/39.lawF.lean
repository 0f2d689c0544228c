/-! The law: what is so after the end of a season -/
set_option maxHeartbeats 1600000 in
set_option maxRecDepth 100000 in
theorem law_t {p : Program} {l : Launch} {e : Env} {s : State} {m : MethodId} {below : List Frame} {meth : Method} {c : Code} {b L : Nat} {xs : Nat → Int32} {dC : Nat → ClassId} {dI : Nat → Nat → Nat} {A : Nat → Prop} {cI cA : ClassId} {Q : State → Prop} (C0 : LC p l s m meth c b L xs dC dI A cI cA) (mb r1 : Nat) (d1 : Nat → Nat) (r2 : Nat) (d2 : Nat → Nat) (rc h : Nat) (t : Nat) (v : Int32) (n : Nat) (F : Nat → Nat → Int32) (ct : Nat → Int32) (n2 : Nat) (G : Nat → Nat → Int32) (ch : Nat → Int32) (al : Nat) (rw : Nat → Nat) (K Cn Sn : Nat) (q7 q8 q9 : Nat) (g7 g8 : Nat → Int32) (E : Nat → Nat → Int32) (ce : Nat → Int32) (hK9 : K ≤ 902) (hC9 : Cn ≤ 600000) (hS9 : Sn ≤ 7301000) (hg7 : (∀ i, i < n → g7 i = F 1 i)) (hg8 : (∀ i, i < n → g8 i = if (3 : Int32) ≤ F 4 i then 0 else 1)) (hF : FIN n F E) (hI : INV n E ce K) (k1240 : ∀ (H : Heap) (locs : List Loc), va_P (dC, dI) vwCl (([] : va_W) ++ (wB mb r1 d1 r2 d2 rc cI n E n2 G ce ch ++ wT h al rw cA cI n E ce)) H → va_D A (([] : va_W) ++ (wB mb r1 d1 r2 d2 rc cI n E n2 G ce ch ++ wT h al rw cA cI n E ce)) → va_S A s.heap H locs → ∀ (ls : Array Slot), lv_has ls 29 [(3, .int (nI t)), (2, .ref h), (1, .ref mb), (0, .ref b)] → W p l e room_1 s m #[Value.ref b] below meth c H locs Cn Sn Q (F0 m 1240 ls [])) (H : Heap) (locs : List Loc) (hP : va_P (dC, dI) vwCl (([(q9, .inl (cI, 3, .inl ((upd (upd (upd (fun _ => 0) 0 (nI (s_many n F (nI 0)))) 1 (nI (s_many n F (nI 1)))) 2 (nI (s_many n F (nI 2))))))), (q8, .inl (cI, n, .inl (g8))), (q7, .inl (cI, n, .inl (g7)))] : va_W) ++ (wB mb r1 d1 r2 d2 rc cI n E n2 G ce ch ++ wT h al rw cA cI n E ce)) H) (hD : va_D A (([(q9, .inl (cI, 3, .inl ((upd (upd (upd (fun _ => 0) 0 (nI (s_many n F (nI 0)))) 1 (nI (s_many n F (nI 1)))) 2 (nI (s_many n F (nI 2))))))), (q8, .inl (cI, n, .inl (g8))), (q7, .inl (cI, n, .inl (g7)))] : va_W) ++ (wB mb r1 d1 r2 d2 rc cI n E n2 G ce ch ++ wT h al rw cA cI n E ce))) (hS : va_S A s.heap H locs) (ls : Array Slot) (hl : lv_has ls 29 [(25, .ref q9), (24, .ref q8), (23, .ref q7), (5, .int (nI n)), (3, .int (nI t)), (2, .ref h), (1, .ref mb), (0, .ref b)]) : W p l e room_1 s m #[Value.ref b] below meth c H locs Cn Sn Q (F0 m 1124 ls []) := by
  obtain ⟨hx, hb, hr, hml, hown, hts, hX, hbl, hlocks, hl0, hK, hE, hbA, hA, hL⟩ := C0
  have hinX2 := inlX2
  have hPB : va_P (dC, dI) vwCl (wB mb r1 d1 r2 d2 rc cI n E n2 G ce ch) H := P_l (P_r hP)
  have hPS : va_P (dC, dI) vwCl (wT h al rw cA cI n E ce) H := P_r (P_r hP)
  have hn := hI.n12
  have hR := hI.okR
  obtain ⟨hF1, hF2, hFm⟩ := hF
  refine lv_iconst (v := 0) hx hb dL_law_1124 (by decide) ?_
  refine lv_istore (lv' := [(27, .int 0), (25, .ref q9), (24, .ref q8), (23, .ref q7), (5, .int (nI n)), (3, .int (nI t)), (2, .ref h), (1, .ref mb), (0, .ref b)]) hx hb dL_law_1125 hl (by decide) rfl (fun ls hl => ?_)
  have L_1127 : ∀ (ku u : Nat), u + ku = 3 → ∀ (H : Heap) (locs : List Loc), va_P (dC, dI) vwCl (([(q9, .inl (cI, 3, .inl ((upd (upd (upd (fun _ => 0) 0 (nI (s_many n F (nI 0)))) 1 (nI (s_many n F (nI 1)))) 2 (nI (s_many n F (nI 2))))))), (q8, .inl (cI, n, .inl (g8))), (q7, .inl (cI, n, .inl (g7)))] : va_W) ++ (wB mb r1 d1 r2 d2 rc cI n E n2 G ce ch ++ wT h al rw cA cI n E ce)) H → va_D A (([(q9, .inl (cI, 3, .inl ((upd (upd (upd (fun _ => 0) 0 (nI (s_many n F (nI 0)))) 1 (nI (s_many n F (nI 1)))) 2 (nI (s_many n F (nI 2))))))), (q8, .inl (cI, n, .inl (g8))), (q7, .inl (cI, n, .inl (g7)))] : va_W) ++ (wB mb r1 d1 r2 d2 rc cI n E n2 G ce ch ++ wT h al rw cA cI n E ce)) → va_S A s.heap H locs → ∀ (ls : Array Slot), lv_has ls 29 [(27, .int (nI u)), (25, .ref q9), (24, .ref q8), (23, .ref q7), (5, .int (nI n)), (3, .int (nI t)), (2, .ref h), (1, .ref mb), (0, .ref b)] → W p l e room_1 s m #[Value.ref b] below meth c H locs Cn Sn Q (F0 m 1127 ls []) := by
    intro ku
    induction ku with
    | zero =>
      intro u e_u H locs hP hD hS ls hl
      have hPB : va_P (dC, dI) vwCl (wB mb r1 d1 r2 d2 rc cI n E n2 G ce ch) H := P_l (P_r hP)
      have hPS : va_P (dC, dI) vwCl (wT h al rw cA cI n E ce) H := P_r (P_r hP)
      refine lv_iload hx hb dL_law_1127 (lv_at hl 0 rfl) ?_
      refine lv_iconst (v := 3) hx hb dL_law_1129 (by decide) ?_
      refine rv_icmp_ge (tgt := 1157) hx hb (a := u) (b := 3) (by omega) (by omega) dL_law_1130 (by decide) (fun c_1130 => ?_) (fun c_1130 => ?_)
      · refine lv_iconst (v := 0) hx hb dL_law_1157 (by decide) ?_
        refine lv_istore (lv' := [(27, .int 0), (25, .ref q9), (24, .ref q8), (23, .ref q7), (5, .int (nI n)), (3, .int (nI t)), (2, .ref h), (1, .ref mb), (0, .ref b)]) hx hb dL_law_1158 hl (by decide) rfl (fun ls hl => ?_)
        have L_1160 : ∀ (kz z : Nat), z + kz = n → ∀ (H : Heap) (locs : List Loc), va_P (dC, dI) vwCl (([(q9, .inl (cI, 3, .inl ((upd (upd (upd (fun _ => 0) 0 (nI (s_many n F (nI 0)))) 1 (nI (s_many n F (nI 1)))) 2 (nI (s_many n F (nI 2))))))), (q8, .inl (cI, n, .inl (g8))), (q7, .inl (cI, n, .inl (g7)))] : va_W) ++ (wB mb r1 d1 r2 d2 rc cI n E n2 G ce ch ++ wT h al rw cA cI n E ce)) H → va_D A (([(q9, .inl (cI, 3, .inl ((upd (upd (upd (fun _ => 0) 0 (nI (s_many n F (nI 0)))) 1 (nI (s_many n F (nI 1)))) 2 (nI (s_many n F (nI 2))))))), (q8, .inl (cI, n, .inl (g8))), (q7, .inl (cI, n, .inl (g7)))] : va_W) ++ (wB mb r1 d1 r2 d2 rc cI n E n2 G ce ch ++ wT h al rw cA cI n E ce)) → va_S A s.heap H locs → ∀ (ls : Array Slot), lv_has ls 29 [(27, .int (nI z)), (25, .ref q9), (24, .ref q8), (23, .ref q7), (5, .int (nI n)), (3, .int (nI t)), (2, .ref h), (1, .ref mb), (0, .ref b)] → W p l e room_1 s m #[Value.ref b] below meth c H locs Cn Sn Q (F0 m 1160 ls []) := by
          intro kz
          induction kz with
          | zero =>
            intro z e_z H locs hP hD hS ls hl
            have hPB : va_P (dC, dI) vwCl (wB mb r1 d1 r2 d2 rc cI n E n2 G ce ch) H := P_l (P_r hP)
            have hPS : va_P (dC, dI) vwCl (wT h al rw cA cI n E ce) H := P_r (P_r hP)
            refine lv_iload hx hb dL_law_1160 (lv_at hl 0 rfl) ?_
            refine lv_iload hx hb dL_law_1162 (lv_at hl 4 rfl) ?_
            refine rv_icmp_ge (tgt := 1240) hx hb (a := z) (b := n) (by omega) (by omega) dL_law_1164 (by decide) (fun c_1164 => ?_) (fun c_1164 => ?_)
            · have hP := P_r hP
              have hD := D_r hD
              exact k1240 _ _ hP hD hS ls (lv_sub hl [5, 6, 7, 8] rfl)
            · exact absurd c_1164 (by omega)
          | succ kz ih_1160 =>
            intro z e_z H locs hP hD hS ls hl
            have hPB : va_P (dC, dI) vwCl (wB mb r1 d1 r2 d2 rc cI n E n2 G ce ch) H := P_l (P_r hP)
            have hPS : va_P (dC, dI) vwCl (wT h al rw cA cI n E ce) H := P_r (P_r hP)
            refine lv_iload hx hb dL_law_1160 (lv_at hl 0 rfl) ?_
            refine lv_iload hx hb dL_law_1162 (lv_at hl 4 rfl) ?_
            refine rv_icmp_ge (tgt := 1240) hx hb (a := z) (b := n) (by omega) (by omega) dL_law_1164 (by decide) (fun c_1164 => ?_) (fun c_1164 => ?_)
            · exact absurd c_1164 (by omega)
            · refine lv_aload hx hb dL_law_1167 (lv_at hl 3 rfl) ?_
              refine lv_iload hx hb dL_law_1169 (lv_at hl 0 rfl) ?_
              refine rv_iald (k := z) hx hb hK hP 2 0 rfl rfl (show z < n by omega) (by omega) dL_law_1171 ?_
              refine rv_top (y := F 1 z) (hg7 z (by omega)) ?_
              refine lv_sipush (v := 1000) hx hb dL_law_1172 (by decide) ?_
              refine lv_isub hx hb dL_law_1175 ?_
              refine va_mabs hx hb (hml.trans hl.1.symm) hown (hts (.methodLink RL 110 Lib.Math.abs.name) (by decide +kernel)) (hts (.static Lib.Math.abs.name) (by decide +kernel)) (hts (.initialized "java/lang/Math") (by decide +kernel)) (hts (.code Lib.Math.abs.name Lib.Math.abs.code 1 (some .int)) (by decide +kernel)) (Nat.le_of_ble_eq_true rfl) (Nat.le_of_ble_eq_true rfl) (by show _ ≤ 600104; omega) (by show _ ≤ 7301314; omega) dL_law_1176 ?_
              refine rv_top (y := absI (F 1 z - 1000)) rfl ?_
              refine lv_istore (lv' := [(28, .int (absI (F 1 z - 1000))), (27, .int (nI z)), (25, .ref q9), (24, .ref q8), (23, .ref q7), (5, .int (nI n)), (3, .int (nI t)), (2, .ref h), (1, .ref mb), (0, .ref b)]) hx hb dL_law_1179 hl (by decide) rfl (fun ls hl => ?_)
              refine lv_aload_n hx hb dL_law_1181 rfl (lv_at hl 8 rfl) ?_
              refine lv_iload hx hb dL_law_1182 (lv_at hl 1 rfl) ?_
              refine lv_iconst (v := 0) hx hb dL_law_1184 (by decide) ?_
              refine vp_callSi (W.runV (As := [.int (nI z), .int 0]) (rest := []) ⟨hx, hb, hml, hown, hts⟩ (c_X1_toldK l dC dI cI mb r1 d1 r2 d2 rc n E n2 G ce ch z (show z < n by omega) 0 (show 0 < 9 by decide) hn) (cwV 2 hts gL_law_X1_told rfl rfl rfl (by decide +kernel) ⟨Nat.le_of_ble_eq_true rfl, Nat.le_of_ble_eq_true rfl⟩) ⟨PR.blind, va_recv (hK.sub (tys' := [(cI, .int)]) [0] rfl) hPB (ci := 1) (q0 := 0) rfl rfl, fun U hU hW => ⟨rfl, PR.go hPB (hK.sub (tys' := [(cI, .int)]) [0] rfl) hE hS hU hW⟩⟩ rfl rfl hl.1 rfl (lv_room (Nat.le_of_ble_eq_true rfl)) dL_law_1185 ⟨(by show _ ≤ 600104; omega), (by show _ ≤ 7301314; omega)⟩) (fun r hr0 => ?_)
              subst hr0
              refine rv_top (y := E 1 z) rfl ?_
              refine lv_sipush (v := 1000) hx hb dL_law_1188 (by decide) ?_
              refine lv_isub hx hb dL_law_1191 ?_
              refine va_mabs hx hb (hml.trans hl.1.symm) hown (hts (.methodLink RL 110 Lib.Math.abs.name) (by decide +kernel)) (hts (.static Lib.Math.abs.name) (by decide +kernel)) (hts (.initialized "java/lang/Math") (by decide +kernel)) (hts (.code Lib.Math.abs.name Lib.Math.abs.code 1 (some .int)) (by decide +kernel)) (Nat.le_of_ble_eq_true rfl) (Nat.le_of_ble_eq_true rfl) (by show _ ≤ 600104; omega) (by show _ ≤ 7301314; omega) dL_law_1192 ?_
              refine rv_top (y := absI (E 1 z - 1000)) rfl ?_
              refine lv_iload hx hb dL_law_1195 (lv_at hl 0 rfl) ?_
              refine lv_aload hx hb dL_law_1197 (lv_at hl 3 rfl) ?_
              refine lv_iload hx hb dL_law_1199 (lv_at hl 1 rfl) ?_
              refine rv_iald (k := z) hx hb hK hP 1 0 rfl rfl (show z < n by omega) (by omega) dL_law_1201 ?_
              refine rv_top (y := if (3 : Int32) ≤ F 4 z then 0 else 1) (hg8 z (by omega)) ?_
              refine lv_iload hx hb dL_law_1202 (lv_at hl 0 rfl) ?_
              refine lv_bipush (v := 8) hx hb dL_law_1204 (by decide) ?_
              refine lv_idiv hx hb dL_law_1206 (by decide) ?_
              refine lv_imul hx hb dL_law_1207 ?_
              refine lv_isub hx hb dL_law_1208 ?_
              refine lv_icmp_ne (tgt := 1232) hx hb dL_law_1209 (by decide) (fun c_1209 => ?_) (fun c_1209 => ?_)
              · exact absurd (hF1 z (show z < n by omega)) c_1209
              · refine lv_aload_n hx hb dL_law_1212 rfl (lv_at hl 8 rfl) ?_
                refine lv_iload hx hb dL_law_1213 (lv_at hl 1 rfl) ?_
                refine lv_iconst (v := 2) hx hb dL_law_1215 (by decide) ?_
                refine vp_callSi (W.runV (As := [.int (nI z), .int 2]) (rest := []) ⟨hx, hb, hml, hown, hts⟩ (c_X1_toldK l dC dI cI mb r1 d1 r2 d2 rc n E n2 G ce ch z (show z < n by omega) 2 (show 2 < 9 by decide) hn) (cwV 2 hts gL_law_X1_told rfl rfl rfl (by decide +kernel) ⟨Nat.le_of_ble_eq_true rfl, Nat.le_of_ble_eq_true rfl⟩) ⟨PR.blind, va_recv (hK.sub (tys' := [(cI, .int)]) [0] rfl) hPB (ci := 1) (q0 := 0) rfl rfl, fun U hU hW => ⟨rfl, PR.go hPB (hK.sub (tys' := [(cI, .int)]) [0] rfl) hE hS hU hW⟩⟩ rfl rfl hl.1 rfl (lv_room (Nat.le_of_ble_eq_true rfl)) dL_law_1216 ⟨(by show _ ≤ 600104; omega), (by show _ ≤ 7301314; omega)⟩) (fun r hr0 => ?_)
                subst hr0
                refine rv_top (y := 0) (hF2 z (show z < n by omega)).1 ?_
                refine lv_if_ne (tgt := 1232) hx hb dL_law_1219 (by decide) (fun c_1219 => ?_) (fun c_1219 => ?_)
                · exact absurd c_1219 (by decide)
                · refine lv_aload_n hx hb dL_law_1222 rfl (lv_at hl 8 rfl) ?_
                  refine lv_iload hx hb dL_law_1223 (lv_at hl 1 rfl) ?_
                  refine lv_iconst (v := 4) hx hb dL_law_1225 (by decide) ?_
                  refine vp_callSi (W.runV (As := [.int (nI z), .int 4]) (rest := []) ⟨hx, hb, hml, hown, hts⟩ (c_X1_toldK l dC dI cI mb r1 d1 r2 d2 rc n E n2 G ce ch z (show z < n by omega) 4 (show 4 < 9 by decide) hn) (cwV 2 hts gL_law_X1_told rfl rfl rfl (by decide +kernel) ⟨Nat.le_of_ble_eq_true rfl, Nat.le_of_ble_eq_true rfl⟩) ⟨PR.blind, va_recv (hK.sub (tys' := [(cI, .int)]) [0] rfl) hPB (ci := 1) (q0 := 0) rfl rfl, fun U hU hW => ⟨rfl, PR.go hPB (hK.sub (tys' := [(cI, .int)]) [0] rfl) hE hS hU hW⟩⟩ rfl rfl hl.1 rfl (lv_room (Nat.le_of_ble_eq_true rfl)) dL_law_1226 ⟨(by show _ ≤ 600104; omega), (by show _ ≤ 7301314; omega)⟩) (fun r hr0 => ?_)
                  subst hr0
                  refine rv_top (y := 0) (hF2 z (show z < n by omega)).2 ?_
                  refine lv_if_eq (tgt := 1234) hx hb dL_law_1229 (by decide) (fun c_1229 => ?_) (fun c_1229 => ?_)
                  · refine lv_iinc (v := nI (z + 1)) (lv' := [(27, .int (nI (z + 1))), (28, .int (absI (F 1 z - 1000))), (25, .ref q9), (24, .ref q8), (23, .ref q7), (5, .int (nI n)), (3, .int (nI t)), (2, .ref h), (1, .ref mb), (0, .ref b)]) hx hb dL_law_1234 hl (k := 1) rfl (nI_add z 1) (by decide) rfl (fun ls hl => ?_)
                    refine lv_goto (tgt := 1160) hx hb dL_law_1237 (by decide) ?_
                    exact ih_1160 (z + 1) (by omega) _ _ hP hD hS ls (lv_sub hl [0, 2, 3, 4, 5, 6, 7, 8, 9] rfl)
                  · exact absurd (by decide) c_1229
        exact L_1160 n 0 (by omega) _ _ hP hD hS ls (lv_sub hl [0, 1, 2, 3, 4, 5, 6, 7, 8] rfl)
      · exact absurd c_1130 (by omega)
    | succ ku ih_1127 =>
      intro u e_u H locs hP hD hS ls hl
      have hPB : va_P (dC, dI) vwCl (wB mb r1 d1 r2 d2 rc cI n E n2 G ce ch) H := P_l (P_r hP)
      have hPS : va_P (dC, dI) vwCl (wT h al rw cA cI n E ce) H := P_r (P_r hP)
      refine lv_iload hx hb dL_law_1127 (lv_at hl 0 rfl) ?_
      refine lv_iconst (v := 3) hx hb dL_law_1129 (by decide) ?_
      refine rv_icmp_ge (tgt := 1157) hx hb (a := u) (b := 3) (by omega) (by omega) dL_law_1130 (by decide) (fun c_1130 => ?_) (fun c_1130 => ?_)
      · exact absurd c_1130 (by omega)
      · refine lv_aload_n hx hb dL_law_1133 rfl (lv_at hl 7 rfl) ?_
        refine lv_iconst (v := 4) hx hb dL_law_1134 (by decide) ?_
        refine lv_iload hx hb dL_law_1135 (lv_at hl 0 rfl) ?_
        refine lv_iadd hx hb dL_law_1137 ?_
        refine rv_top (y := nI (4 + u)) (nI_add 4 u) ?_
        refine vp_callSi (W.runV (As := [.int (nI (4 + u))]) (rest := []) ⟨hx, hb, hml, hown, hts⟩ (c_X1_countK l dC dI cI mb r1 d1 r2 d2 rc n E n2 G ce ch (4 + u) (show 4 + u < 9 by omega) hn) (cwV 1 hts gL_law_X1_count rfl rfl rfl (by decide +kernel) ⟨Nat.le_of_ble_eq_true rfl, Nat.le_of_ble_eq_true rfl⟩) ⟨PR.blind, va_recv (hK.sub (tys' := [(cI, .int)]) [0] rfl) hPB (ci := 1) (q0 := 0) rfl rfl, fun U hU hW => ⟨rfl, PR.go hPB (hK.sub (tys' := [(cI, .int)]) [0] rfl) hE hS hU hW⟩⟩ rfl rfl hl.1 rfl (lv_room (Nat.le_of_ble_eq_true rfl)) dL_law_1138 ⟨(by show _ ≤ 600104; omega), (by show _ ≤ 7301314; omega)⟩) (fun r hr0 => ?_)
        subst hr0
        refine rv_top (y := nI (s_many n F (nI u))) (by rw [cnt4 (show u < 3 by omega), hFm]) ?_
        refine lv_aload hx hb dL_law_1141 (lv_at hl 1 rfl) ?_
        refine lv_iload hx hb dL_law_1143 (lv_at hl 0 rfl) ?_
        refine rv_iald (k := u) hx hb hK hP 0 0 rfl rfl (show u < 3 by omega) (by omega) dL_law_1145 ?_
        refine lv_icmp_eq (tgt := 1151) hx hb dL_law_1146 (by decide) (fun c_1146 => ?_) (fun c_1146 => ?_)
        · refine lv_iinc (v := nI (u + 1)) (lv' := [(27, .int (nI (u + 1))), (25, .ref q9), (24, .ref q8), (23, .ref q7), (5, .int (nI n)), (3, .int (nI t)), (2, .ref h), (1, .ref mb), (0, .ref b)]) hx hb dL_law_1151 hl (k := 0) rfl (nI_add u 1) (by decide) rfl (fun ls hl => ?_)
          refine lv_goto (tgt := 1127) hx hb dL_law_1154 (by decide) ?_
          exact ih_1127 (u + 1) (by omega) _ _ hP hD hS ls (lv_sub hl [0, 1, 2, 3, 4, 5, 6, 7, 8] rfl)
        · exact absurd (in3 (f := fun i => nI (s_many n F (nI i))) (show u < 3 by omega)).symm c_1146
  exact L_1127 3 0 (by omega) _ _ hP hD hS ls (lv_sub hl [0, 1, 2, 3, 4, 5, 6, 7, 8] rfl)
