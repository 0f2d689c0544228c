/-! The law: what holds all through its walk -/
def LC (p : Program) (l : Launch) (s : State) (m : MethodId) (meth : Method) (c : Code) (b L : Nat) (xs : Nat → Int32) (dC : Nat → ClassId) (dI : Nat → Nat → Nat) (A : Nat → Prop) (cI cA : ClassId) : Prop :=
  p.tables.exec = Jvm.exec ∧ c.code = cL_law ∧ meth.sig.returnType = (some .boolean) ∧ c.maxLocals = 29 ∧ s.vm.findClass RL = some m.cls ∧ (∀ w ∈ wsL_law, w.before #[Value.ref b] s = true) ∧ va_X b L xs s s.heap ∧ b < s.heap.size ∧ meth.locks = false ∧ l.stackTraces = false ∧ va_K (dC, dI) vwCl [(cI, .int), (cA, .array .int)] s ∧ En A s s.heap ∧ ¬ A b ∧ (∀ q : Nat, s.heap.size ≤ q → A q) ∧ L ≤ 260
section RVL
variable {p : Program} {l : Launch} {e : Env} {R : Room} {s : State} {m : MethodId} {args : Array Value} {below : List Frame} {meth : Method} {c : Code} {cells slots : Nat} {H : Heap} {locs : List Loc} {Q : State → Prop} {pc : Nat} {ls : Array Slot} {rest : List Value} {cc : ByteArray}
theorem rv_lcmp0 (hx : p.tables.exec = Jvm.exec) (hb : c.code = cc) {x y : Int64} (he : x = y) (hdg : decode cc pc = .ok (.lcmp, 1))
    (k : W p l e R s m args below meth c H locs cells slots Q (F0 m (pc + 1) ls (.int 0 :: rest))) : W p l e R s m args below meth c H locs cells slots Q (F0 m pc ls (.long y :: .long x :: rest)) := by
  subst he
  intro T hT X
  obtain ⟨t, a, b⟩ := k T hT X
  refine ⟨t, ?_, b⟩
  have h1 : ¬ (x > x) := by intro q; exact absurd q (Int64.lt_irrefl)
  jvm_step X.here [X.here.top, hx, hb, hdg, h1]
  exact a
end RVL
theorem low_n {n : Nat} {F : Nat → Nat → Int32} (hR : okR n F) (h0 : ¬ n = 0) : s_loU F 9999 n = s_lo n F := by
  have h := lo_99 hR
  rw [if_neg h0] at h
  exact h
set_option maxHeartbeats 16000000 in
set_option maxRecDepth 100000 in
theorem law_k {p : Program} {l : Launch} {e : Env} {s : State} {m : MethodId} {below : List Frame} {meth : Method} {c : Code} {b L : Nat} {xs : Nat → Int32} {dC : Nat → ClassId} {dI : Nat → Nat → Nat} {A : Nat → Prop} {cI cA : ClassId} {Q : State → Prop} (C0 : LC p l s m meth c b L xs dC dI A cI cA) (mb r1 : Nat) (d1 : Nat → Nat) (r2 : Nat) (d2 : Nat → Nat) (rc h : Nat) (t : Nat) (v : Int32) (n : Nat) (F : Nat → Nat → Int32) (ct : Nat → Int32) (n2 : Nat) (G : Nat → Nat → Int32) (ch : Nat → Int32) (al : Nat) (rw : Nat → Nat) (q K Cn Sn : Nat) (hI : INV n F ct K) (hK9 : K ≤ 900) (hC9 : Cn ≤ 600000) (hS9 : Sn ≤ 7301000) (k572 : ∀ (P : Nat → Int32), PLI n F n P → ∀ (H : Heap) (locs : List Loc), va_P (dC, dI) vwCl (([(q, .inl (cI, 3, .inl (P)))] : va_W) ++ (wB mb r1 d1 r2 d2 rc cI n F n2 G ct ch ++ wT h al rw cA cI n F ct)) H → va_D A (([(q, .inl (cI, 3, .inl (P)))] : va_W) ++ (wB mb r1 d1 r2 d2 rc cI n F n2 G ct ch ++ wT h al rw cA cI n F ct)) → va_S A s.heap H locs → ∀ (ls : Array Slot), lv_has ls 29 [(15, .int (nI n)), (14, .int (s_loU F 9999 n)), (13, .int (s_hiU F n)), (12, .ref q), (11, .int (nI (smN F 2 n))), (10, .int (nI (smN F 4 n))), (9, .int (nI (smN F 3 n))), (8, .int (s_sumU F n)), (6, .long (s_dig n F ct)), (5, .int (nI n)), (4, .int v), (3, .int (nI t)), (2, .ref h), (1, .ref mb), (0, .ref b)] → W p l e room_1 s m #[Value.ref b] below meth c H locs Cn Sn Q (F0 m 572 ls [])) (H : Heap) (locs : List Loc) (hP : va_P (dC, dI) vwCl (([(q, .inl (cI, 3, .inl (fun _ => 0)))] : va_W) ++ (wB mb r1 d1 r2 d2 rc cI n F n2 G ct ch ++ wT h al rw cA cI n F ct)) H) (hD : va_D A (([(q, .inl (cI, 3, .inl (fun _ => 0)))] : va_W) ++ (wB mb r1 d1 r2 d2 rc cI n F n2 G ct ch ++ wT h al rw cA cI n F ct))) (hS : va_S A s.heap H locs) (ls : Array Slot) (hl : lv_has ls 29 [(15, .int (nI 0)), (14, .int (s_loU F 9999 0)), (13, .int (s_hiU F 0)), (12, .ref q), (11, .int (nI (smN F 2 0))), (10, .int (nI (smN F 4 0))), (9, .int (nI (smN F 3 0))), (8, .int (s_sumU F 0)), (6, .long (s_dig n F ct)), (5, .int (nI n)), (4, .int v), (3, .int (nI t)), (2, .ref h), (1, .ref mb), (0, .ref b)]) : W p l e room_1 s m #[Value.ref b] below meth c H locs Cn Sn Q (F0 m 104 ls []) := by
  obtain ⟨hx, hb, hr, hml, hown, hts, hX, hbl, hlocks, hl0, hK, hE, hbA, hA, hL⟩ := C0
  have hinX2 := inlX2
  have hPB : va_P (dC, dI) vwCl (wB mb r1 d1 r2 d2 rc cI n F n2 G ct ch) H := P_l (P_r hP)
  have hPS : va_P (dC, dI) vwCl (wT h al rw cA cI n F ct) H := P_r (P_r hP)
  have hn := hI.n12
  have hR := hI.okR
  have L_104 : ∀ (kk k : Nat) (P : Nat → Int32), k + kk = n → PLI n F k P → ∀ (H : Heap) (locs : List Loc), va_P (dC, dI) vwCl (([(q, .inl (cI, 3, .inl (P)))] : va_W) ++ (wB mb r1 d1 r2 d2 rc cI n F n2 G ct ch ++ wT h al rw cA cI n F ct)) H → va_D A (([(q, .inl (cI, 3, .inl (P)))] : va_W) ++ (wB mb r1 d1 r2 d2 rc cI n F n2 G ct ch ++ wT h al rw cA cI n F ct)) → va_S A s.heap H locs → ∀ (ls : Array Slot), lv_has ls 29 [(15, .int (nI k)), (14, .int (s_loU F 9999 k)), (13, .int (s_hiU F k)), (12, .ref q), (11, .int (nI (smN F 2 k))), (10, .int (nI (smN F 4 k))), (9, .int (nI (smN F 3 k))), (8, .int (s_sumU F k)), (6, .long (s_dig n F ct)), (5, .int (nI n)), (4, .int v), (3, .int (nI t)), (2, .ref h), (1, .ref mb), (0, .ref b)] → W p l e room_1 s m #[Value.ref b] below meth c H locs Cn Sn Q (F0 m 104 ls []) := by
    intro kk
    induction kk with
    | zero =>
      intro k P e_k hPL H locs hP hD hS ls hl
      have hPB : va_P (dC, dI) vwCl (wB mb r1 d1 r2 d2 rc cI n F n2 G ct ch) H := P_l (P_r hP)
      have hPS : va_P (dC, dI) vwCl (wT h al rw cA cI n F ct) H := P_r (P_r hP)
      refine lv_iload hx hb dL_law_104 (lv_at hl 0 rfl) ?_
      refine lv_iload hx hb dL_law_106 (lv_at hl 9 rfl) ?_
      refine rv_icmp_ge (tgt := 572) hx hb (a := k) (b := n) (by omega) (by omega) dL_law_108 (by decide) (fun c_108 => ?_) (fun c_108 => ?_)
      · have hkn : k = n := by omega
        subst hkn
        exact k572 P hPL _ _ hP hD hS ls (lv_sub hl [0, 1, 2, 3, 4, 5, 6, 7, 8, 9, 10, 11, 12, 13, 14] rfl)
      · exact absurd c_108 (by omega)
    | succ kk ih_104 =>
      intro k P e_k hPL H locs hP hD hS ls hl
      have hPB : va_P (dC, dI) vwCl (wB mb r1 d1 r2 d2 rc cI n F n2 G ct ch) H := P_l (P_r hP)
      have hPS : va_P (dC, dI) vwCl (wT h al rw cA cI n F ct) H := P_r (P_r hP)
      obtain ⟨g, r, p2, b3, s4, w5, m6, e0, e1, e2, e3, e4, e5, e6, hg3, hr1, hr2, hm3, hm1, hp2, hs4, hw5, hbK⟩ := hI.wr (show k < n by omega)
      refine lv_iload hx hb dL_law_104 (lv_at hl 0 rfl) ?_
      refine lv_iload hx hb dL_law_106 (lv_at hl 9 rfl) ?_
      refine rv_icmp_ge (tgt := 572) hx hb (a := k) (b := n) (by omega) (by omega) dL_law_108 (by decide) (fun c_108 => ?_) (fun c_108 => ?_)
      · exact absurd c_108 (by omega)
      · refine lv_aload_n hx hb dL_law_111 rfl (lv_at hl 13 rfl) ?_
        refine lv_iload hx hb dL_law_112 (lv_at hl 0 rfl) ?_
        refine lv_iconst (v := 0) hx hb dL_law_114 (by decide) ?_
        refine vp_callSi (W.runV (As := [.int (nI k), .int 0]) (rest := []) ⟨hx, hb, hml, hown, hts⟩ (c_X1_toldK l dC dI cI mb r1 d1 r2 d2 rc n F n2 G ct ch k (show k < n by omega) 0 (show 0 < 9 by decide) hn) (cwV 2 hts gL_law_X1_told rfl rfl rfl (by decide +kernel) ⟨Nat.le_of_ble_eq_true rfl, Nat.le_of_ble_eq_true rfl⟩) ⟨PR.blind, va_recv (hK.sub (tys' := [(cI, .int)]) [0] rfl) hPB (ci := 1) (q0 := 0) rfl rfl, fun U hU hW => ⟨rfl, PR.go hPB (hK.sub (tys' := [(cI, .int)]) [0] rfl) hE hS hU hW⟩⟩ rfl rfl hl.1 rfl (lv_room (Nat.le_of_ble_eq_true rfl)) dL_law_115 ⟨(by show _ ≤ 600104; omega), (by show _ ≤ 7301314; omega)⟩) (fun r hr0 => ?_)
        subst hr0
        refine rv_top (y := nI r) e1 ?_
        refine lv_istore (lv' := [(16, .int (nI r)), (15, .int (nI k)), (14, .int (s_loU F 9999 k)), (13, .int (s_hiU F k)), (12, .ref q), (11, .int (nI (smN F 2 k))), (10, .int (nI (smN F 4 k))), (9, .int (nI (smN F 3 k))), (8, .int (s_sumU F k)), (6, .long (s_dig n F ct)), (5, .int (nI n)), (4, .int v), (3, .int (nI t)), (2, .ref h), (1, .ref mb), (0, .ref b)]) hx hb dL_law_118 hl (by decide) rfl (fun ls hl => ?_)
        refine lv_aload_n hx hb dL_law_120 rfl (lv_at hl 14 rfl) ?_
        refine lv_iload hx hb dL_law_121 (lv_at hl 1 rfl) ?_
        refine lv_iconst (v := 1) hx hb dL_law_123 (by decide) ?_
        refine vp_callSi (W.runV (As := [.int (nI k), .int 1]) (rest := []) ⟨hx, hb, hml, hown, hts⟩ (c_X1_toldK l dC dI cI mb r1 d1 r2 d2 rc n F n2 G ct ch k (show k < n by omega) 1 (show 1 < 9 by decide) hn) (cwV 2 hts gL_law_X1_told rfl rfl rfl (by decide +kernel) ⟨Nat.le_of_ble_eq_true rfl, Nat.le_of_ble_eq_true rfl⟩) ⟨PR.blind, va_recv (hK.sub (tys' := [(cI, .int)]) [0] rfl) hPB (ci := 1) (q0 := 0) rfl rfl, fun U hU hW => ⟨rfl, PR.go hPB (hK.sub (tys' := [(cI, .int)]) [0] rfl) hE hS hU hW⟩⟩ rfl rfl hl.1 rfl (lv_room (Nat.le_of_ble_eq_true rfl)) dL_law_124 ⟨(by show _ ≤ 600104; omega), (by show _ ≤ 7301314; omega)⟩) (fun r hr0 => ?_)
        subst hr0
        refine rv_top (y := nI g) e0 ?_
        refine lv_istore (lv' := [(17, .int (nI g)), (16, .int (nI r)), (15, .int (nI k)), (14, .int (s_loU F 9999 k)), (13, .int (s_hiU F k)), (12, .ref q), (11, .int (nI (smN F 2 k))), (10, .int (nI (smN F 4 k))), (9, .int (nI (smN F 3 k))), (8, .int (s_sumU F k)), (6, .long (s_dig n F ct)), (5, .int (nI n)), (4, .int v), (3, .int (nI t)), (2, .ref h), (1, .ref mb), (0, .ref b)]) hx hb dL_law_127 hl (by decide) rfl (fun ls hl => ?_)
        refine lv_iload hx hb dL_law_129 (lv_at hl 9 rfl) ?_
        refine lv_iload hx hb dL_law_131 (lv_at hl 1 rfl) ?_
        refine lv_iadd hx hb dL_law_133 ?_
        refine rv_top (y := s_sumU F (k + 1)) (by rw [← e1]; rfl) ?_
        refine lv_istore (lv' := [(8, .int (s_sumU F (k + 1))), (17, .int (nI g)), (16, .int (nI r)), (15, .int (nI k)), (14, .int (s_loU F 9999 k)), (13, .int (s_hiU F k)), (12, .ref q), (11, .int (nI (smN F 2 k))), (10, .int (nI (smN F 4 k))), (9, .int (nI (smN F 3 k))), (6, .long (s_dig n F ct)), (5, .int (nI n)), (4, .int v), (3, .int (nI t)), (2, .ref h), (1, .ref mb), (0, .ref b)]) hx hb dL_law_134 hl (by decide) rfl (fun ls hl => ?_)
        refine lv_iload hx hb dL_law_136 (lv_at hl 5 rfl) ?_
        refine lv_iload hx hb dL_law_138 (lv_at hl 2 rfl) ?_
        refine va_mmax hx hb (hml.trans hl.1.symm) hown (hts (.methodLink RL 73 Lib.Math.max.name) (by decide +kernel)) (hts (.static Lib.Math.max.name) (by decide +kernel)) (hts (.initialized "java/lang/Math") (by decide +kernel)) (hts (.code Lib.Math.max.name Lib.Math.max.code 2 (some .int)) (by decide +kernel)) (Nat.le_of_ble_eq_true rfl) (Nat.le_of_ble_eq_true rfl) (by show _ ≤ 600104; omega) (by show _ ≤ 7301314; omega) dL_law_140 ?_
        refine rv_top (y := s_hiU F (k + 1)) (by rw [← e1]; rfl) ?_
        refine lv_istore (lv' := [(13, .int (s_hiU F (k + 1))), (8, .int (s_sumU F (k + 1))), (17, .int (nI g)), (16, .int (nI r)), (15, .int (nI k)), (14, .int (s_loU F 9999 k)), (12, .ref q), (11, .int (nI (smN F 2 k))), (10, .int (nI (smN F 4 k))), (9, .int (nI (smN F 3 k))), (6, .long (s_dig n F ct)), (5, .int (nI n)), (4, .int v), (3, .int (nI t)), (2, .ref h), (1, .ref mb), (0, .ref b)]) hx hb dL_law_143 hl (by decide) rfl (fun ls hl => ?_)
        refine lv_iload hx hb dL_law_145 (lv_at hl 5 rfl) ?_
        refine lv_iload hx hb dL_law_147 (lv_at hl 3 rfl) ?_
        refine va_mmin hx hb (hml.trans hl.1.symm) hown (hts (.methodLink RL 78 Lib.Math.min.name) (by decide +kernel)) (hts (.static Lib.Math.min.name) (by decide +kernel)) (hts (.initialized "java/lang/Math") (by decide +kernel)) (hts (.code Lib.Math.min.name Lib.Math.min.code 2 (some .int)) (by decide +kernel)) (Nat.le_of_ble_eq_true rfl) (Nat.le_of_ble_eq_true rfl) (by show _ ≤ 600104; omega) (by show _ ≤ 7301314; omega) dL_law_149 ?_
        refine rv_top (y := s_loU F 9999 (k + 1)) (by rw [← e1]; rfl) ?_
        refine lv_istore (lv' := [(14, .int (s_loU F 9999 (k + 1))), (13, .int (s_hiU F (k + 1))), (8, .int (s_sumU F (k + 1))), (17, .int (nI g)), (16, .int (nI r)), (15, .int (nI k)), (12, .ref q), (11, .int (nI (smN F 2 k))), (10, .int (nI (smN F 4 k))), (9, .int (nI (smN F 3 k))), (6, .long (s_dig n F ct)), (5, .int (nI n)), (4, .int v), (3, .int (nI t)), (2, .ref h), (1, .ref mb), (0, .ref b)]) hx hb dL_law_152 hl (by decide) rfl (fun ls hl => ?_)
        refine lv_iload hx hb dL_law_154 (lv_at hl 7 rfl) ?_
        refine lv_aload_n hx hb dL_law_156 rfl (lv_at hl 15 rfl) ?_
        refine lv_iload hx hb dL_law_157 (lv_at hl 5 rfl) ?_
        refine lv_iconst (v := 2) hx hb dL_law_159 (by decide) ?_
        refine vp_callSi (W.runV (As := [.int (nI k), .int 2]) (rest := [.int (nI (smN F 2 k))]) ⟨hx, hb, hml, hown, hts⟩ (c_X1_toldK l dC dI cI mb r1 d1 r2 d2 rc n F n2 G ct ch k (show k < n by omega) 2 (show 2 < 9 by decide) hn) (cwV 2 hts gL_law_X1_told rfl rfl rfl (by decide +kernel) ⟨Nat.le_of_ble_eq_true rfl, Nat.le_of_ble_eq_true rfl⟩) ⟨PR.blind, va_recv (hK.sub (tys' := [(cI, .int)]) [0] rfl) hPB (ci := 1) (q0 := 0) rfl rfl, fun U hU hW => ⟨rfl, PR.go hPB (hK.sub (tys' := [(cI, .int)]) [0] rfl) hE hS hU hW⟩⟩ rfl rfl hl.1 rfl (lv_room (Nat.le_of_ble_eq_true rfl)) dL_law_160 ⟨(by show _ ≤ 600104; omega), (by show _ ≤ 7301314; omega)⟩) (fun r hr0 => ?_)
        subst hr0
        refine rv_top (y := nI p2) e2 ?_
        refine lv_iadd hx hb dL_law_163 ?_
        refine rv_top (y := nI (smN F 2 (k + 1))) (by rw [nI_add, smN_s, e2, cl_nI (by omega)]) ?_
        refine lv_istore (lv' := [(11, .int (nI (smN F 2 (k + 1)))), (14, .int (s_loU F 9999 (k + 1))), (13, .int (s_hiU F (k + 1))), (8, .int (s_sumU F (k + 1))), (17, .int (nI g)), (16, .int (nI r)), (15, .int (nI k)), (12, .ref q), (10, .int (nI (smN F 4 k))), (9, .int (nI (smN F 3 k))), (6, .long (s_dig n F ct)), (5, .int (nI n)), (4, .int v), (3, .int (nI t)), (2, .ref h), (1, .ref mb), (0, .ref b)]) hx hb dL_law_164 hl (by decide) rfl (fun ls hl => ?_)
        refine lv_iload hx hb dL_law_166 (lv_at hl 9 rfl) ?_
        refine lv_aload_n hx hb dL_law_168 rfl (lv_at hl 15 rfl) ?_
        refine lv_iload hx hb dL_law_169 (lv_at hl 6 rfl) ?_
        refine lv_iconst (v := 3) hx hb dL_law_171 (by decide) ?_
        refine vp_callSi (W.runV (As := [.int (nI k), .int 3]) (rest := [.int (nI (smN F 3 k))]) ⟨hx, hb, hml, hown, hts⟩ (c_X1_toldK l dC dI cI mb r1 d1 r2 d2 rc n F n2 G ct ch k (show k < n by omega) 3 (show 3 < 9 by decide) hn) (cwV 2 hts gL_law_X1_told rfl rfl rfl (by decide +kernel) ⟨Nat.le_of_ble_eq_true rfl, Nat.le_of_ble_eq_true rfl⟩) ⟨PR.blind, va_recv (hK.sub (tys' := [(cI, .int)]) [0] rfl) hPB (ci := 1) (q0 := 0) rfl rfl, fun U hU hW => ⟨rfl, PR.go hPB (hK.sub (tys' := [(cI, .int)]) [0] rfl) hE hS hU hW⟩⟩ rfl rfl hl.1 rfl (lv_room (Nat.le_of_ble_eq_true rfl)) dL_law_172 ⟨(by show _ ≤ 600104; omega), (by show _ ≤ 7301314; omega)⟩) (fun r hr0 => ?_)
        subst hr0
        refine rv_top (y := nI b3) e3 ?_
        refine lv_iadd hx hb dL_law_175 ?_
        refine rv_top (y := nI (smN F 3 (k + 1))) (by rw [nI_add, smN_s, e3, cl_nI (by omega)]) ?_
        refine lv_istore (lv' := [(9, .int (nI (smN F 3 (k + 1)))), (11, .int (nI (smN F 2 (k + 1)))), (14, .int (s_loU F 9999 (k + 1))), (13, .int (s_hiU F (k + 1))), (8, .int (s_sumU F (k + 1))), (17, .int (nI g)), (16, .int (nI r)), (15, .int (nI k)), (12, .ref q), (10, .int (nI (smN F 4 k))), (6, .long (s_dig n F ct)), (5, .int (nI n)), (4, .int v), (3, .int (nI t)), (2, .ref h), (1, .ref mb), (0, .ref b)]) hx hb dL_law_176 hl (by decide) rfl (fun ls hl => ?_)
        refine lv_iload hx hb dL_law_178 (lv_at hl 9 rfl) ?_
        refine lv_aload_n hx hb dL_law_180 rfl (lv_at hl 15 rfl) ?_
        refine lv_iload hx hb dL_law_181 (lv_at hl 7 rfl) ?_
        refine lv_iconst (v := 4) hx hb dL_law_183 (by decide) ?_
        refine vp_callSi (W.runV (As := [.int (nI k), .int 4]) (rest := [.int (nI (smN F 4 k))]) ⟨hx, hb, hml, hown, hts⟩ (c_X1_toldK l dC dI cI mb r1 d1 r2 d2 rc n F n2 G ct ch k (show k < n by omega) 4 (show 4 < 9 by decide) hn) (cwV 2 hts gL_law_X1_told rfl rfl rfl (by decide +kernel) ⟨Nat.le_of_ble_eq_true rfl, Nat.le_of_ble_eq_true rfl⟩) ⟨PR.blind, va_recv (hK.sub (tys' := [(cI, .int)]) [0] rfl) hPB (ci := 1) (q0 := 0) rfl rfl, fun U hU hW => ⟨rfl, PR.go hPB (hK.sub (tys' := [(cI, .int)]) [0] rfl) hE hS hU hW⟩⟩ rfl rfl hl.1 rfl (lv_room (Nat.le_of_ble_eq_true rfl)) dL_law_184 ⟨(by show _ ≤ 600104; omega), (by show _ ≤ 7301314; omega)⟩) (fun r hr0 => ?_)
        subst hr0
        refine rv_top (y := nI s4) e4 ?_
        refine lv_iadd hx hb dL_law_187 ?_
        refine rv_top (y := nI (smN F 4 (k + 1))) (by rw [nI_add, smN_s, e4, cl_nI (by omega)]) ?_
        refine lv_istore (lv' := [(10, .int (nI (smN F 4 (k + 1)))), (9, .int (nI (smN F 3 (k + 1)))), (11, .int (nI (smN F 2 (k + 1)))), (14, .int (s_loU F 9999 (k + 1))), (13, .int (s_hiU F (k + 1))), (8, .int (s_sumU F (k + 1))), (17, .int (nI g)), (16, .int (nI r)), (15, .int (nI k)), (12, .ref q), (6, .long (s_dig n F ct)), (5, .int (nI n)), (4, .int v), (3, .int (nI t)), (2, .ref h), (1, .ref mb), (0, .ref b)]) hx hb dL_law_188 hl (by decide) rfl (fun ls hl => ?_)
        refine lv_aload hx hb dL_law_190 (lv_at hl 9 rfl) ?_
        refine lv_iload hx hb dL_law_192 (lv_at hl 6 rfl) ?_
        refine lv_dup2_11 hx hb dL_law_194 rfl rfl ?_
        refine rv_iald (k := g) hx hb hK hP 0 0 rfl rfl (show g < 3 by omega) (by omega) dL_law_195 ?_
        refine lv_iconst (v := 1) hx hb dL_law_196 (by decide) ?_
        refine lv_aload_n hx hb dL_law_197 rfl (lv_at hl 15 rfl) ?_
        refine lv_iload hx hb dL_law_198 (lv_at hl 8 rfl) ?_
        refine lv_bipush (v := 7) hx hb dL_law_200 (by decide) ?_
        refine vp_callSi (W.runV (As := [.int (nI k), .int 7]) (rest := [.int 1, .int (P g), .int (nI g), .ref q]) ⟨hx, hb, hml, hown, hts⟩ (c_X1_toldK l dC dI cI mb r1 d1 r2 d2 rc n F n2 G ct ch k (show k < n by omega) 7 (show 7 < 9 by decide) hn) (cwV 2 hts gL_law_X1_told rfl rfl rfl (by decide +kernel) ⟨Nat.le_of_ble_eq_true rfl, Nat.le_of_ble_eq_true rfl⟩) ⟨PR.blind, va_recv (hK.sub (tys' := [(cI, .int)]) [0] rfl) hPB (ci := 1) (q0 := 0) rfl rfl, fun U hU hW => ⟨rfl, PR.go hPB (hK.sub (tys' := [(cI, .int)]) [0] rfl) hE hS hU hW⟩⟩ rfl rfl hl.1 rfl (lv_room (Nat.le_of_ble_eq_true rfl)) dL_law_202 ⟨(by show _ ≤ 600104; omega), (by show _ ≤ 7301314; omega)⟩) (fun r hr0 => ?_)
        subst hr0
        refine rv_top (y := nI (s_place n F k)) rfl ?_
        refine lv_ishl hx hb dL_law_205 ?_
        refine lv_ior hx hb dL_law_206 ?_
        refine rv_iast (k := g) hx hb hK hP hD hS 0 0 rfl rfl (show g < 3 by omega) (by omega) dL_law_207 (fun H locs hP hD hS => ?_)
        have hP : va_P (dC, dI) vwCl (([(q, .inl (cI, 3, .inl (upd P g ((P g) ||| ((1 : Int32) <<< ((nI (s_place n F k)) &&& 31))))))] : va_W) ++ (wB mb r1 d1 r2 d2 rc cI n F n2 G ct ch ++ wT h al rw cA cI n F ct)) H := hP
        have hD : va_D A (([(q, .inl (cI, 3, .inl (upd P g ((P g) ||| ((1 : Int32) <<< ((nI (s_place n F k)) &&& 31))))))] : va_W) ++ (wB mb r1 d1 r2 d2 rc cI n F n2 G ct ch ++ wT h al rw cA cI n F ct)) := hD
        have hPB : va_P (dC, dI) vwCl (wB mb r1 d1 r2 d2 rc cI n F n2 G ct ch) H := P_l (P_r hP)
        have hPS : va_P (dC, dI) vwCl (wT h al rw cA cI n F ct) H := P_r (P_r hP)
        refine lv_iload hx hb dL_law_208 (lv_at hl 7 rfl) ?_
        refine lv_bipush (v := 100) hx hb dL_law_210 (by decide) ?_
        refine lv_icmp_lt (tgt := 328) hx hb dL_law_212 (by decide) (fun c_212 => ?_) (fun c_212 => ?_)
        · exact absurd c_212 (nI_nlt (b := 100) hr1 (by omega))
        · refine lv_iload hx hb dL_law_215 (lv_at hl 7 rfl) ?_
          refine lv_sipush (v := 3000) hx hb dL_law_217 (by decide) ?_
          refine lv_icmp_gt (tgt := 328) hx hb dL_law_220 (by decide) (fun c_220 => ?_) (fun c_220 => ?_)
          · exact absurd c_220 (nI_nlt (a := 3000) (by omega) (by decide))
          · refine lv_aload_n hx hb dL_law_223 rfl (lv_at hl 15 rfl) ?_
            refine lv_iload hx hb dL_law_224 (lv_at hl 8 rfl) ?_
            refine lv_bipush (v := 6) hx hb dL_law_226 (by decide) ?_
            refine vp_callSi (W.runV (As := [.int (nI k), .int 6]) (rest := []) ⟨hx, hb, hml, hown, hts⟩ (c_X1_toldK l dC dI cI mb r1 d1 r2 d2 rc n F n2 G ct ch k (show k < n by omega) 6 (show 6 < 9 by decide) hn) (cwV 2 hts gL_law_X1_told rfl rfl rfl (by decide +kernel) ⟨Nat.le_of_ble_eq_true rfl, Nat.le_of_ble_eq_true rfl⟩) ⟨PR.blind, va_recv (hK.sub (tys' := [(cI, .int)]) [0] rfl) hPB (ci := 1) (q0 := 0) rfl rfl, fun U hU hW => ⟨rfl, PR.go hPB (hK.sub (tys' := [(cI, .int)]) [0] rfl) hE hS hU hW⟩⟩ rfl rfl hl.1 rfl (lv_room (Nat.le_of_ble_eq_true rfl)) dL_law_228 ⟨(by show _ ≤ 600104; omega), (by show _ ≤ 7301314; omega)⟩) (fun r hr0 => ?_)
            subst hr0
            refine rv_top (y := nI m6) e6 ?_
            refine lv_sipush (v := 1000) hx hb dL_law_231 (by decide) ?_
            refine lv_iload hx hb dL_law_234 (lv_at hl 7 rfl) ?_
            refine va_mmax hx hb (hml.trans hl.1.symm) hown (hts (.methodLink RL 73 Lib.Math.max.name) (by decide +kernel)) (hts (.static Lib.Math.max.name) (by decide +kernel)) (hts (.initialized "java/lang/Math") (by decide +kernel)) (hts (.code Lib.Math.max.name Lib.Math.max.code 2 (some .int)) (by decide +kernel)) (Nat.le_of_ble_eq_true rfl) (Nat.le_of_ble_eq_true rfl) (by show _ ≤ 600104; omega) (by show _ ≤ 7301314; omega) dL_law_236 ?_
            refine lv_icmp_lt (tgt := 328) hx hb dL_law_239 (by decide) (fun c_239 => ?_) (fun c_239 => ?_)
            · exact absurd c_239 (mx_lt hm1 hr2 (by omega))
            · refine lv_aload_n hx hb dL_law_242 rfl (lv_at hl 15 rfl) ?_
              refine lv_iload hx hb dL_law_243 (lv_at hl 8 rfl) ?_
              refine lv_iconst (v := 4) hx hb dL_law_245 (by decide) ?_
              refine vp_callSi (W.runV (As := [.int (nI k), .int 4]) (rest := []) ⟨hx, hb, hml, hown, hts⟩ (c_X1_toldK l dC dI cI mb r1 d1 r2 d2 rc n F n2 G ct ch k (show k < n by omega) 4 (show 4 < 9 by decide) hn) (cwV 2 hts gL_law_X1_told rfl rfl rfl (by decide +kernel) ⟨Nat.le_of_ble_eq_true rfl, Nat.le_of_ble_eq_true rfl⟩) ⟨PR.blind, va_recv (hK.sub (tys' := [(cI, .int)]) [0] rfl) hPB (ci := 1) (q0 := 0) rfl rfl, fun U hU hW => ⟨rfl, PR.go hPB (hK.sub (tys' := [(cI, .int)]) [0] rfl) hE hS hU hW⟩⟩ rfl rfl hl.1 rfl (lv_room (Nat.le_of_ble_eq_true rfl)) dL_law_246 ⟨(by show _ ≤ 600104; omega), (by show _ ≤ 7301314; omega)⟩) (fun r hr0 => ?_)
              subst hr0
              refine rv_top (y := nI s4) e4 ?_
              refine lv_aload_n hx hb dL_law_249 rfl (lv_at hl 15 rfl) ?_
              refine lv_iload hx hb dL_law_250 (lv_at hl 8 rfl) ?_
              refine lv_iconst (v := 3) hx hb dL_law_252 (by decide) ?_
              refine vp_callSi (W.runV (As := [.int (nI k), .int 3]) (rest := [.int (nI s4)]) ⟨hx, hb, hml, hown, hts⟩ (c_X1_toldK l dC dI cI mb r1 d1 r2 d2 rc n F n2 G ct ch k (show k < n by omega) 3 (show 3 < 9 by decide) hn) (cwV 2 hts gL_law_X1_told rfl rfl rfl (by decide +kernel) ⟨Nat.le_of_ble_eq_true rfl, Nat.le_of_ble_eq_true rfl⟩) ⟨PR.blind, va_recv (hK.sub (tys' := [(cI, .int)]) [0] rfl) hPB (ci := 1) (q0 := 0) rfl rfl, fun U hU hW => ⟨rfl, PR.go hPB (hK.sub (tys' := [(cI, .int)]) [0] rfl) hE hS hU hW⟩⟩ rfl rfl hl.1 rfl (lv_room (Nat.le_of_ble_eq_true rfl)) dL_law_253 ⟨(by show _ ≤ 600104; omega), (by show _ ≤ 7301314; omega)⟩) (fun r hr0 => ?_)
              subst hr0
              refine rv_top (y := nI b3) e3 ?_
              refine lv_icmp_gt (tgt := 328) hx hb dL_law_256 (by decide) (fun c_256 => ?_) (fun c_256 => ?_)
              · exact absurd c_256 (nI_nlt hs4 (by omega))
              · refine lv_aload_n hx hb dL_law_259 rfl (lv_at hl 15 rfl) ?_
                refine lv_iload hx hb dL_law_260 (lv_at hl 8 rfl) ?_
                refine lv_iconst (v := 5) hx hb dL_law_262 (by decide) ?_
                refine vp_callSi (W.runV (As := [.int (nI k), .int 5]) (rest := []) ⟨hx, hb, hml, hown, hts⟩ (c_X1_toldK l dC dI cI mb r1 d1 r2 d2 rc n F n2 G ct ch k (show k < n by omega) 5 (show 5 < 9 by decide) hn) (cwV 2 hts gL_law_X1_told rfl rfl rfl (by decide +kernel) ⟨Nat.le_of_ble_eq_true rfl, Nat.le_of_ble_eq_true rfl⟩) ⟨PR.blind, va_recv (hK.sub (tys' := [(cI, .int)]) [0] rfl) hPB (ci := 1) (q0 := 0) rfl rfl, fun U hU hW => ⟨rfl, PR.go hPB (hK.sub (tys' := [(cI, .int)]) [0] rfl) hE hS hU hW⟩⟩ rfl rfl hl.1 rfl (lv_room (Nat.le_of_ble_eq_true rfl)) dL_law_263 ⟨(by show _ ≤ 600104; omega), (by show _ ≤ 7301314; omega)⟩) (fun r hr0 => ?_)
                subst hr0
                refine rv_top (y := nI w5) e5 ?_
                refine lv_aload_n hx hb dL_law_266 rfl (lv_at hl 15 rfl) ?_
                refine lv_iload hx hb dL_law_267 (lv_at hl 8 rfl) ?_
                refine lv_iconst (v := 3) hx hb dL_law_269 (by decide) ?_
                refine vp_callSi (W.runV (As := [.int (nI k), .int 3]) (rest := [.int (nI w5)]) ⟨hx, hb, hml, hown, hts⟩ (c_X1_toldK l dC dI cI mb r1 d1 r2 d2 rc n F n2 G ct ch k (show k < n by omega) 3 (show 3 < 9 by decide) hn) (cwV 2 hts gL_law_X1_told rfl rfl rfl (by decide +kernel) ⟨Nat.le_of_ble_eq_true rfl, Nat.le_of_ble_eq_true rfl⟩) ⟨PR.blind, va_recv (hK.sub (tys' := [(cI, .int)]) [0] rfl) hPB (ci := 1) (q0 := 0) rfl rfl, fun U hU hW => ⟨rfl, PR.go hPB (hK.sub (tys' := [(cI, .int)]) [0] rfl) hE hS hU hW⟩⟩ rfl rfl hl.1 rfl (lv_room (Nat.le_of_ble_eq_true rfl)) dL_law_270 ⟨(by show _ ≤ 600104; omega), (by show _ ≤ 7301314; omega)⟩) (fun r hr0 => ?_)
                subst hr0
                refine rv_top (y := nI b3) e3 ?_
                refine lv_icmp_gt (tgt := 328) hx hb dL_law_273 (by decide) (fun c_273 => ?_) (fun c_273 => ?_)
                · exact absurd c_273 (nI_nlt hw5 (by omega))
                · refine lv_aload_n hx hb dL_law_276 rfl (lv_at hl 15 rfl) ?_
                  refine lv_iload hx hb dL_law_277 (lv_at hl 8 rfl) ?_
                  refine lv_iconst (v := 2) hx hb dL_law_279 (by decide) ?_
                  refine vp_callSi (W.runV (As := [.int (nI k), .int 2]) (rest := []) ⟨hx, hb, hml, hown, hts⟩ (c_X1_toldK l dC dI cI mb r1 d1 r2 d2 rc n F n2 G ct ch k (show k < n by omega) 2 (show 2 < 9 by decide) hn) (cwV 2 hts gL_law_X1_told rfl rfl rfl (by decide +kernel) ⟨Nat.le_of_ble_eq_true rfl, Nat.le_of_ble_eq_true rfl⟩) ⟨PR.blind, va_recv (hK.sub (tys' := [(cI, .int)]) [0] rfl) hPB (ci := 1) (q0 := 0) rfl rfl, fun U hU hW => ⟨rfl, PR.go hPB (hK.sub (tys' := [(cI, .int)]) [0] rfl) hE hS hU hW⟩⟩ rfl rfl hl.1 rfl (lv_room (Nat.le_of_ble_eq_true rfl)) dL_law_280 ⟨(by show _ ≤ 600104; omega), (by show _ ≤ 7301314; omega)⟩) (fun r hr0 => ?_)
                  subst hr0
                  refine rv_top (y := nI p2) e2 ?_
                  refine lv_iconst (v := 2) hx hb dL_law_283 (by decide) ?_
                  refine lv_aload_n hx hb dL_law_284 rfl (lv_at hl 15 rfl) ?_
                  refine lv_iload hx hb dL_law_285 (lv_at hl 8 rfl) ?_
                  refine lv_iconst (v := 4) hx hb dL_law_287 (by decide) ?_
                  refine vp_callSi (W.runV (As := [.int (nI k), .int 4]) (rest := [.int 2, .int (nI p2)]) ⟨hx, hb, hml, hown, hts⟩ (c_X1_toldK l dC dI cI mb r1 d1 r2 d2 rc n F n2 G ct ch k (show k < n by omega) 4 (show 4 < 9 by decide) hn) (cwV 2 hts gL_law_X1_told rfl rfl rfl (by decide +kernel) ⟨Nat.le_of_ble_eq_true rfl, Nat.le_of_ble_eq_true rfl⟩) ⟨PR.blind, va_recv (hK.sub (tys' := [(cI, .int)]) [0] rfl) hPB (ci := 1) (q0 := 0) rfl rfl, fun U hU hW => ⟨rfl, PR.go hPB (hK.sub (tys' := [(cI, .int)]) [0] rfl) hE hS hU hW⟩⟩ rfl rfl hl.1 rfl (lv_room (Nat.le_of_ble_eq_true rfl)) dL_law_288 ⟨(by show _ ≤ 600104; omega), (by show _ ≤ 7301314; omega)⟩) (fun r hr0 => ?_)
                  subst hr0
                  refine rv_top (y := nI s4) e4 ?_
                  refine lv_imul hx hb dL_law_291 ?_
                  refine rv_top (y := nI (2 * s4)) (Int32.ofNat_mul 2 s4).symm ?_
                  refine lv_icmp_gt (tgt := 328) hx hb dL_law_292 (by decide) (fun c_292 => ?_) (fun c_292 => ?_)
                  · exact absurd c_292 (nI_nlt hp2 (by omega))
                  · refine lv_aload_n hx hb dL_law_295 rfl (lv_at hl 15 rfl) ?_
                    refine lv_iload hx hb dL_law_296 (lv_at hl 6 rfl) ?_
                    refine lv_aload_n hx hb dL_law_298 rfl (lv_at hl 15 rfl) ?_
                    refine lv_iload hx hb dL_law_299 (lv_at hl 8 rfl) ?_
                    refine lv_bipush (v := 7) hx hb dL_law_301 (by decide) ?_
                    refine vp_callSi (W.runV (As := [.int (nI k), .int 7]) (rest := [.int (nI g), .ref mb]) ⟨hx, hb, hml, hown, hts⟩ (c_X1_toldK l dC dI cI mb r1 d1 r2 d2 rc n F n2 G ct ch k (show k < n by omega) 7 (show 7 < 9 by decide) hn) (cwV 2 hts gL_law_X1_told rfl rfl rfl (by decide +kernel) ⟨Nat.le_of_ble_eq_true rfl, Nat.le_of_ble_eq_true rfl⟩) ⟨PR.blind, va_recv (hK.sub (tys' := [(cI, .int)]) [0] rfl) hPB (ci := 1) (q0 := 0) rfl rfl, fun U hU hW => ⟨rfl, PR.go hPB (hK.sub (tys' := [(cI, .int)]) [0] rfl) hE hS hU hW⟩⟩ rfl rfl hl.1 rfl (lv_room (Nat.le_of_ble_eq_true rfl)) dL_law_303 ⟨(by show _ ≤ 600104; omega), (by show _ ≤ 7301314; omega)⟩) (fun r hr0 => ?_)
                    subst hr0
                    refine rv_top (y := nI (s_place n F k)) rfl ?_
                    refine vp_callSi (W.runV (As := [.int (nI g), .int (nI (s_place n F k))]) (rest := []) ⟨hx, hb, hml, hown, hts⟩ (c_X1_atK l dC dI cI mb r1 d1 r2 d2 rc n F n2 G ct ch (nI g) (nI (s_place n F k)) k (by rw [← e0]; exact at_place hn (show k < n by omega)) (lg_in hg3) hn) (cwV 2 hts gL_law_X1_at rfl rfl rfl (by decide +kernel) ⟨Nat.le_of_ble_eq_true rfl, Nat.le_of_ble_eq_true rfl⟩) ⟨PR.blind, va_recv (hK.sub (tys' := [(cI, .int)]) [0] rfl) hPB (ci := 1) (q0 := 0) rfl rfl, fun U hU hW => ⟨rfl, PR.go hPB (hK.sub (tys' := [(cI, .int)]) [0] rfl) hE hS hU hW⟩⟩ rfl rfl hl.1 rfl (lv_room (Nat.le_of_ble_eq_true rfl)) dL_law_306 ⟨(by show _ ≤ 600104; omega), (by show _ ≤ 7301314; omega)⟩) (fun r hr0 => ?_)
                    subst hr0
                    refine lv_iload hx hb dL_law_309 (lv_at hl 8 rfl) ?_
                    refine lv_icmp_ne (tgt := 328) hx hb dL_law_311 (by decide) (fun c_311 => ?_) (fun c_311 => ?_)
                    · exact absurd rfl c_311
                    · refine lv_aload_n hx hb dL_law_314 rfl (lv_at hl 15 rfl) ?_
                      refine lv_iload hx hb dL_law_315 (lv_at hl 8 rfl) ?_
                      refine lv_iload hx hb dL_law_317 (lv_at hl 8 rfl) ?_
                      refine vp_callSi (W.runV (As := [.int (nI k), .int (nI k)]) (rest := []) ⟨hx, hb, hml, hown, hts⟩ (c_X1_expectedK l dC dI cI mb r1 d1 r2 d2 rc n F n2 G ct ch k (show k < n by omega) k (show k < n by omega) hn hR) (cwV 2 hts gL_law_X1_expected rfl rfl rfl (by decide +kernel) ⟨Nat.le_of_ble_eq_true rfl, Nat.le_of_ble_eq_true rfl⟩) ⟨PR.blind, va_recv (hK.sub (tys' := [(cI, .int)]) [0] rfl) hPB (ci := 1) (q0 := 0) rfl rfl, fun U hU hW => ⟨rfl, PR.go hPB (hK.sub (tys' := [(cI, .int)]) [0] rfl) hE hS hU hW⟩⟩ rfl rfl hl.1 rfl (lv_room (Nat.le_of_ble_eq_true rfl)) dL_law_319 ⟨(by show _ ≤ 600104; omega), (by show _ ≤ 7301314; omega)⟩) (fun r hr0 => ?_)
                      subst hr0
                      refine rv_top (y := 500) (exp_self hR (show k < n by omega)) ?_
                      refine lv_sipush (v := 500) hx hb dL_law_322 (by decide) ?_
                      refine lv_icmp_eq (tgt := 330) hx hb dL_law_325 (by decide) (fun c_325 => ?_) (fun c_325 => ?_)
                      · refine lv_iconst (v := 0) hx hb dL_law_330 (by decide) ?_
                        refine lv_istore (lv' := [(18, .int 0), (10, .int (nI (smN F 4 (k + 1)))), (9, .int (nI (smN F 3 (k + 1)))), (11, .int (nI (smN F 2 (k + 1)))), (14, .int (s_loU F 9999 (k + 1))), (13, .int (s_hiU F (k + 1))), (8, .int (s_sumU F (k + 1))), (17, .int (nI g)), (16, .int (nI r)), (15, .int (nI k)), (12, .ref q), (6, .long (s_dig n F ct)), (5, .int (nI n)), (4, .int v), (3, .int (nI t)), (2, .ref h), (1, .ref mb), (0, .ref b)]) hx hb dL_law_331 hl (by decide) rfl (fun ls hl => ?_)
                        have L_333 : ∀ (ko o : Nat), o + ko = n → ∀ (H : Heap) (locs : List Loc), va_P (dC, dI) vwCl (([(q, .inl (cI, 3, .inl (upd P g ((P g) ||| ((1 : Int32) <<< ((nI (s_place n F k)) &&& 31))))))] : va_W) ++ (wB mb r1 d1 r2 d2 rc cI n F n2 G ct ch ++ wT h al rw cA cI n F ct)) H → va_D A (([(q, .inl (cI, 3, .inl (upd P g ((P g) ||| ((1 : Int32) <<< ((nI (s_place n F k)) &&& 31))))))] : va_W) ++ (wB mb r1 d1 r2 d2 rc cI n F n2 G ct ch ++ wT h al rw cA cI n F ct)) → va_S A s.heap H locs → ∀ (ls : Array Slot), lv_has ls 29 [(18, .int (nI o)), (10, .int (nI (smN F 4 (k + 1)))), (9, .int (nI (smN F 3 (k + 1)))), (11, .int (nI (smN F 2 (k + 1)))), (14, .int (s_loU F 9999 (k + 1))), (13, .int (s_hiU F (k + 1))), (8, .int (s_sumU F (k + 1))), (17, .int (nI g)), (16, .int (nI r)), (15, .int (nI k)), (12, .ref q), (6, .long (s_dig n F ct)), (5, .int (nI n)), (4, .int v), (3, .int (nI t)), (2, .ref h), (1, .ref mb), (0, .ref b)] → W p l e room_1 s m #[Value.ref b] below meth c H locs Cn Sn Q (F0 m 333 ls []) := by
                          intro ko
                          induction ko with
                          | zero =>
                            intro o e_o H locs hP hD hS ls hl
                            have hPB : va_P (dC, dI) vwCl (wB mb r1 d1 r2 d2 rc cI n F n2 G ct ch) H := P_l (P_r hP)
                            have hPS : va_P (dC, dI) vwCl (wT h al rw cA cI n F ct) H := P_r (P_r hP)
                            refine lv_iload hx hb dL_law_333 (lv_at hl 0 rfl) ?_
                            refine lv_iload hx hb dL_law_335 (lv_at hl 12 rfl) ?_
                            refine rv_icmp_ge (tgt := 517) hx hb (a := o) (b := n) (by omega) (by omega) dL_law_337 (by decide) (fun c_337 => ?_) (fun c_337 => ?_)
                            · refine lv_aload_n hx hb dL_law_517 rfl (lv_at hl 16 rfl) ?_
                              refine lv_iload hx hb dL_law_518 (lv_at hl 9 rfl) ?_
                              refine vp_callSi (W.runV (As := [.int (nI k)]) (rest := []) ⟨hx, hb, hml, hown, hts⟩ (c_X1_matchK l dC dI cI mb r1 d1 r2 d2 rc n F n2 G ct ch k (show k < n by omega) hn hR) (cwV 1 hts gL_law_X1_match rfl rfl rfl (by decide +kernel) ⟨Nat.le_of_ble_eq_true rfl, Nat.le_of_ble_eq_true rfl⟩) ⟨PR.blind, va_recv (hK.sub (tys' := [(cI, .int)]) [0] rfl) hPB (ci := 1) (q0 := 0) rfl rfl, fun U hU hW => ⟨rfl, PR.go hPB (hK.sub (tys' := [(cI, .int)]) [0] rfl) hE hS hU hW⟩⟩ rfl rfl hl.1 rfl (lv_room (Nat.le_of_ble_eq_true rfl)) dL_law_520 ⟨(by show _ ≤ 600104; omega), (by show _ ≤ 7301314; omega)⟩) (fun r hr0 => ?_)
                              subst hr0
                              obtain ⟨mo, hmo⟩ : ∃ z9 : Option Nat, s_match n F k = z9 := ⟨_, rfl⟩
                              refine rv_top (y := oI mo) (by rw [hmo]) ?_
                              rcases mo with _ | mk
                              · refine rv_top (y := -1) rfl ?_
                                refine lv_istore (lv' := [(18, .int (-1)), (10, .int (nI (smN F 4 (k + 1)))), (9, .int (nI (smN F 3 (k + 1)))), (11, .int (nI (smN F 2 (k + 1)))), (14, .int (s_loU F 9999 (k + 1))), (13, .int (s_hiU F (k + 1))), (8, .int (s_sumU F (k + 1))), (17, .int (nI g)), (16, .int (nI r)), (15, .int (nI k)), (12, .ref q), (6, .long (s_dig n F ct)), (5, .int (nI n)), (4, .int v), (3, .int (nI t)), (2, .ref h), (1, .ref mb), (0, .ref b)]) hx hb dL_law_523 hl (by decide) rfl (fun ls hl => ?_)
                                refine lv_iload hx hb dL_law_525 (lv_at hl 0 rfl) ?_
                                refine lv_if_lt (tgt := 552) hx hb dL_law_527 (by decide) (fun c_527 => ?_) (fun c_527 => ?_)
                                · refine lv_aload_n hx hb dL_law_552 rfl (lv_at hl 16 rfl) ?_
                                  refine lv_iconst (v := 4) hx hb dL_law_553 (by decide) ?_
                                  refine lv_iload hx hb dL_law_554 (lv_at hl 7 rfl) ?_
                                  refine lv_iadd hx hb dL_law_556 ?_
                                  refine rv_top (y := nI (4 + g)) (nI_add 4 g) ?_
                                  refine vp_callSi (W.runV (As := [.int (nI (4 + g))]) (rest := []) ⟨hx, hb, hml, hown, hts⟩ (c_X1_countK l dC dI cI mb r1 d1 r2 d2 rc n F n2 G ct ch (4 + g) (show 4 + g < 9 by omega) hn) (cwV 1 hts gL_law_X1_count rfl rfl rfl (by decide +kernel) ⟨Nat.le_of_ble_eq_true rfl, Nat.le_of_ble_eq_true rfl⟩) ⟨PR.blind, va_recv (hK.sub (tys' := [(cI, .int)]) [0] rfl) hPB (ci := 1) (q0 := 0) rfl rfl, fun U hU hW => ⟨rfl, PR.go hPB (hK.sub (tys' := [(cI, .int)]) [0] rfl) hE hS hU hW⟩⟩ rfl rfl hl.1 rfl (lv_room (Nat.le_of_ble_eq_true rfl)) dL_law_557 ⟨(by show _ ≤ 600104; omega), (by show _ ≤ 7301314; omega)⟩) (fun r hr0 => ?_)
                                  subst hr0
                                  refine rv_top (y := 1) (by rw [cnt4 hg3, ← e0, match_none (show k < n by omega) hmo]; rfl) ?_
                                  refine lv_iconst (v := 1) hx hb dL_law_560 (by decide) ?_
                                  refine lv_icmp_eq (tgt := 566) hx hb dL_law_561 (by decide) (fun c_561 => ?_) (fun c_561 => ?_)
                                  · refine lv_iinc (v := nI (k + 1)) (lv' := [(15, .int (nI (k + 1))), (18, .int (-1)), (10, .int (nI (smN F 4 (k + 1)))), (9, .int (nI (smN F 3 (k + 1)))), (11, .int (nI (smN F 2 (k + 1)))), (14, .int (s_loU F 9999 (k + 1))), (13, .int (s_hiU F (k + 1))), (8, .int (s_sumU F (k + 1))), (17, .int (nI g)), (16, .int (nI r)), (12, .ref q), (6, .long (s_dig n F ct)), (5, .int (nI n)), (4, .int v), (3, .int (nI t)), (2, .ref h), (1, .ref mb), (0, .ref b)]) hx hb dL_law_566 hl (k := 9) rfl (nI_add k 1) (by decide) rfl (fun ls hl => ?_)
                                    refine lv_goto (tgt := 104) hx hb dL_law_569 (by decide) ?_
                                    exact ih_104 (k + 1) (upd P g ((P g) ||| ((1 : Int32) <<< ((nI (s_place n F k)) &&& 31)))) (by omega) (PLI.step hn hPL (show k < n by omega) e0 hg3) _ _ hP hD hS ls (lv_sub hl [0, 5, 6, 10, 4, 2, 3, 7, 11, 12, 13, 14, 15, 16, 17] rfl)
                                  · exact absurd c_561 (by decide)
                                · exact absurd (by decide) c_527
                              · refine rv_top (y := nI mk) rfl ?_
                                obtain ⟨mlt, mne, mlg⟩ := match_some hmo
                                refine lv_istore (lv' := [(18, .int (nI mk)), (10, .int (nI (smN F 4 (k + 1)))), (9, .int (nI (smN F 3 (k + 1)))), (11, .int (nI (smN F 2 (k + 1)))), (14, .int (s_loU F 9999 (k + 1))), (13, .int (s_hiU F (k + 1))), (8, .int (s_sumU F (k + 1))), (17, .int (nI g)), (16, .int (nI r)), (15, .int (nI k)), (12, .ref q), (6, .long (s_dig n F ct)), (5, .int (nI n)), (4, .int v), (3, .int (nI t)), (2, .ref h), (1, .ref mb), (0, .ref b)]) hx hb dL_law_523 hl (by decide) rfl (fun ls hl => ?_)
                                refine lv_iload hx hb dL_law_525 (lv_at hl 0 rfl) ?_
                                refine lv_if_lt (tgt := 552) hx hb dL_law_527 (by decide) (fun c_527 => ?_) (fun c_527 => ?_)
                                · exact absurd c_527 (nI_pos (by omega))
                                · refine lv_iload hx hb dL_law_530 (lv_at hl 0 rfl) ?_
                                  refine lv_iload hx hb dL_law_532 (lv_at hl 9 rfl) ?_
                                  refine lv_icmp_eq (tgt := 564) hx hb dL_law_534 (by decide) (fun c_534 => ?_) (fun c_534 => ?_)
                                  · exact absurd ((nI_eq (by omega) (by omega)).mp c_534) mne
                                  · refine lv_aload_n hx hb dL_law_537 rfl (lv_at hl 16 rfl) ?_
                                    refine lv_iload hx hb dL_law_538 (lv_at hl 0 rfl) ?_
                                    refine lv_iconst (v := 1) hx hb dL_law_540 (by decide) ?_
                                    refine vp_callSi (W.runV (As := [.int (nI mk), .int 1]) (rest := []) ⟨hx, hb, hml, hown, hts⟩ (c_X1_toldK l dC dI cI mb r1 d1 r2 d2 rc n F n2 G ct ch mk (show mk < n by omega) 1 (show 1 < 9 by decide) hn) (cwV 2 hts gL_law_X1_told rfl rfl rfl (by decide +kernel) ⟨Nat.le_of_ble_eq_true rfl, Nat.le_of_ble_eq_true rfl⟩) ⟨PR.blind, va_recv (hK.sub (tys' := [(cI, .int)]) [0] rfl) hPB (ci := 1) (q0 := 0) rfl rfl, fun U hU hW => ⟨rfl, PR.go hPB (hK.sub (tys' := [(cI, .int)]) [0] rfl) hE hS hU hW⟩⟩ rfl rfl hl.1 rfl (lv_room (Nat.le_of_ble_eq_true rfl)) dL_law_541 ⟨(by show _ ≤ 600104; omega), (by show _ ≤ 7301314; omega)⟩) (fun r hr0 => ?_)
                                    subst hr0
                                    refine rv_top (y := nI g) (mlg.trans e0) ?_
                                    refine lv_iload hx hb dL_law_544 (lv_at hl 7 rfl) ?_
                                    refine lv_icmp_eq (tgt := 566) hx hb dL_law_546 (by decide) (fun c_546 => ?_) (fun c_546 => ?_)
                                    · refine lv_iinc (v := nI (k + 1)) (lv' := [(15, .int (nI (k + 1))), (18, .int (nI mk)), (10, .int (nI (smN F 4 (k + 1)))), (9, .int (nI (smN F 3 (k + 1)))), (11, .int (nI (smN F 2 (k + 1)))), (14, .int (s_loU F 9999 (k + 1))), (13, .int (s_hiU F (k + 1))), (8, .int (s_sumU F (k + 1))), (17, .int (nI g)), (16, .int (nI r)), (12, .ref q), (6, .long (s_dig n F ct)), (5, .int (nI n)), (4, .int v), (3, .int (nI t)), (2, .ref h), (1, .ref mb), (0, .ref b)]) hx hb dL_law_566 hl (k := 9) rfl (nI_add k 1) (by decide) rfl (fun ls hl => ?_)
                                      refine lv_goto (tgt := 104) hx hb dL_law_569 (by decide) ?_
                                      exact ih_104 (k + 1) (upd P g ((P g) ||| ((1 : Int32) <<< ((nI (s_place n F k)) &&& 31)))) (by omega) (PLI.step hn hPL (show k < n by omega) e0 hg3) _ _ hP hD hS ls (lv_sub hl [0, 5, 6, 10, 4, 2, 3, 7, 11, 12, 13, 14, 15, 16, 17] rfl)
                                    · exact absurd rfl c_546
                            · exact absurd c_337 (by omega)
                          | succ ko ih_333 =>
                            intro o e_o H locs hP hD hS ls hl
                            have hPB : va_P (dC, dI) vwCl (wB mb r1 d1 r2 d2 rc cI n F n2 G ct ch) H := P_l (P_r hP)
                            have hPS : va_P (dC, dI) vwCl (wT h al rw cA cI n F ct) H := P_r (P_r hP)
                            refine lv_iload hx hb dL_law_333 (lv_at hl 0 rfl) ?_
                            refine lv_iload hx hb dL_law_335 (lv_at hl 12 rfl) ?_
                            refine rv_icmp_ge (tgt := 517) hx hb (a := o) (b := n) (by omega) (by omega) dL_law_337 (by decide) (fun c_337 => ?_) (fun c_337 => ?_)
                            · exact absurd c_337 (by omega)
                            · refine lv_aload_n hx hb dL_law_340 rfl (lv_at hl 16 rfl) ?_
                              refine lv_iload hx hb dL_law_341 (lv_at hl 9 rfl) ?_
                              refine lv_iload hx hb dL_law_343 (lv_at hl 0 rfl) ?_
                              refine vp_callSi (W.runV (As := [.int (nI k), .int (nI o)]) (rest := []) ⟨hx, hb, hml, hown, hts⟩ (c_X1_expectedK l dC dI cI mb r1 d1 r2 d2 rc n F n2 G ct ch k (show k < n by omega) o (show o < n by omega) hn hR) (cwV 2 hts gL_law_X1_expected rfl rfl rfl (by decide +kernel) ⟨Nat.le_of_ble_eq_true rfl, Nat.le_of_ble_eq_true rfl⟩) ⟨PR.blind, va_recv (hK.sub (tys' := [(cI, .int)]) [0] rfl) hPB (ci := 1) (q0 := 0) rfl rfl, fun U hU hW => ⟨rfl, PR.go hPB (hK.sub (tys' := [(cI, .int)]) [0] rfl) hE hS hU hW⟩⟩ rfl rfl hl.1 rfl (lv_room (Nat.le_of_ble_eq_true rfl)) dL_law_345 ⟨(by show _ ≤ 600104; omega), (by show _ ≤ 7301314; omega)⟩) (fun r hr0 => ?_)
                              subst hr0
                              refine lv_aload_n hx hb dL_law_348 rfl (lv_at hl 16 rfl) ?_
                              refine lv_iload hx hb dL_law_349 (lv_at hl 0 rfl) ?_
                              refine lv_iload hx hb dL_law_351 (lv_at hl 9 rfl) ?_
                              refine vp_callSi (W.runV (As := [.int (nI o), .int (nI k)]) (rest := [.int (s_exp F k o)]) ⟨hx, hb, hml, hown, hts⟩ (c_X1_expectedK l dC dI cI mb r1 d1 r2 d2 rc n F n2 G ct ch o (show o < n by omega) k (show k < n by omega) hn hR) (cwV 2 hts gL_law_X1_expected rfl rfl rfl (by decide +kernel) ⟨Nat.le_of_ble_eq_true rfl, Nat.le_of_ble_eq_true rfl⟩) ⟨PR.blind, va_recv (hK.sub (tys' := [(cI, .int)]) [0] rfl) hPB (ci := 1) (q0 := 0) rfl rfl, fun U hU hW => ⟨rfl, PR.go hPB (hK.sub (tys' := [(cI, .int)]) [0] rfl) hE hS hU hW⟩⟩ rfl rfl hl.1 rfl (lv_room (Nat.le_of_ble_eq_true rfl)) dL_law_353 ⟨(by show _ ≤ 600104; omega), (by show _ ≤ 7301314; omega)⟩) (fun r hr0 => ?_)
                              subst hr0
                              refine lv_iadd hx hb dL_law_356 ?_
                              refine rv_top (y := 1000) (exp_sum hR (show k < n by omega) (show o < n by omega)) ?_
                              refine lv_sipush (v := 1000) hx hb dL_law_357 (by decide) ?_
                              refine lv_icmp_ne (tgt := 389) hx hb dL_law_360 (by decide) (fun c_360 => ?_) (fun c_360 => ?_)
                              · exact absurd c_360 (by decide)
                              · refine lv_aload_n hx hb dL_law_363 rfl (lv_at hl 16 rfl) ?_
                                refine lv_iload hx hb dL_law_364 (lv_at hl 9 rfl) ?_
                                refine lv_iload hx hb dL_law_366 (lv_at hl 0 rfl) ?_
                                refine vp_callSi (W.runV (As := [.int (nI k), .int (nI o)]) (rest := []) ⟨hx, hb, hml, hown, hts⟩ (c_X1_expectedK l dC dI cI mb r1 d1 r2 d2 rc n F n2 G ct ch k (show k < n by omega) o (show o < n by omega) hn hR) (cwV 2 hts gL_law_X1_expected rfl rfl rfl (by decide +kernel) ⟨Nat.le_of_ble_eq_true rfl, Nat.le_of_ble_eq_true rfl⟩) ⟨PR.blind, va_recv (hK.sub (tys' := [(cI, .int)]) [0] rfl) hPB (ci := 1) (q0 := 0) rfl rfl, fun U hU hW => ⟨rfl, PR.go hPB (hK.sub (tys' := [(cI, .int)]) [0] rfl) hE hS hU hW⟩⟩ rfl rfl hl.1 rfl (lv_room (Nat.le_of_ble_eq_true rfl)) dL_law_368 ⟨(by show _ ≤ 600104; omega), (by show _ ≤ 7301314; omega)⟩) (fun r hr0 => ?_)
                                subst hr0
                                refine lv_sipush (v := 500) hx hb dL_law_371 (by decide) ?_
                                refine lv_icmp_le (tgt := 391) hx hb dL_law_374 (by decide) (fun c_374 => ?_) (fun c_374 => ?_)
                                · refine lv_iload hx hb dL_law_391 (lv_at hl 0 rfl) ?_
                                  refine lv_iload hx hb dL_law_393 (lv_at hl 9 rfl) ?_
                                  refine lv_icmp_eq (tgt := 511) hx hb dL_law_395 (by decide) (fun c_395 => ?_) (fun c_395 => ?_)
                                  · refine lv_iinc (v := nI (o + 1)) (lv' := [(18, .int (nI (o + 1))), (10, .int (nI (smN F 4 (k + 1)))), (9, .int (nI (smN F 3 (k + 1)))), (11, .int (nI (smN F 2 (k + 1)))), (14, .int (s_loU F 9999 (k + 1))), (13, .int (s_hiU F (k + 1))), (8, .int (s_sumU F (k + 1))), (17, .int (nI g)), (16, .int (nI r)), (15, .int (nI k)), (12, .ref q), (6, .long (s_dig n F ct)), (5, .int (nI n)), (4, .int v), (3, .int (nI t)), (2, .ref h), (1, .ref mb), (0, .ref b)]) hx hb dL_law_511 hl (k := 0) rfl (nI_add o 1) (by decide) rfl (fun ls hl => ?_)
                                    refine lv_goto (tgt := 333) hx hb dL_law_514 (by decide) ?_
                                    exact ih_333 (o + 1) (by omega) _ _ hP hD hS ls (lv_sub hl [0, 1, 2, 3, 4, 5, 6, 7, 8, 9, 10, 11, 12, 13, 14, 15, 16, 17] rfl)
                                  · have hne : ¬ o = k := fun z => c_395 (by rw [z])
                                    refine lv_aload_n hx hb dL_law_398 rfl (lv_at hl 16 rfl) ?_
                                    refine lv_iload hx hb dL_law_399 (lv_at hl 0 rfl) ?_
                                    refine lv_iconst (v := 1) hx hb dL_law_401 (by decide) ?_
                                    refine vp_callSi (W.runV (As := [.int (nI o), .int 1]) (rest := []) ⟨hx, hb, hml, hown, hts⟩ (c_X1_toldK l dC dI cI mb r1 d1 r2 d2 rc n F n2 G ct ch o (show o < n by omega) 1 (show 1 < 9 by decide) hn) (cwV 2 hts gL_law_X1_told rfl rfl rfl (by decide +kernel) ⟨Nat.le_of_ble_eq_true rfl, Nat.le_of_ble_eq_true rfl⟩) ⟨PR.blind, va_recv (hK.sub (tys' := [(cI, .int)]) [0] rfl) hPB (ci := 1) (q0 := 0) rfl rfl, fun U hU hW => ⟨rfl, PR.go hPB (hK.sub (tys' := [(cI, .int)]) [0] rfl) hE hS hU hW⟩⟩ rfl rfl hl.1 rfl (lv_room (Nat.le_of_ble_eq_true rfl)) dL_law_402 ⟨(by show _ ≤ 600104; omega), (by show _ ≤ 7301314; omega)⟩) (fun r hr0 => ?_)
                                    subst hr0
                                    refine rv_top (y := F 0 o) rfl ?_
                                    refine lv_iload hx hb dL_law_405 (lv_at hl 7 rfl) ?_
                                    refine lv_icmp_eq (tgt := 413) hx hb dL_law_407 (by decide) (fun c_407 => ?_) (fun c_407 => ?_)
                                    · refine lv_aload_n hx hb dL_law_413 rfl (lv_at hl 16 rfl) ?_
                                      refine lv_iload hx hb dL_law_414 (lv_at hl 9 rfl) ?_
                                      refine lv_bipush (v := 7) hx hb dL_law_416 (by decide) ?_
                                      refine vp_callSi (W.runV (As := [.int (nI k), .int 7]) (rest := []) ⟨hx, hb, hml, hown, hts⟩ (c_X1_toldK l dC dI cI mb r1 d1 r2 d2 rc n F n2 G ct ch k (show k < n by omega) 7 (show 7 < 9 by decide) hn) (cwV 2 hts gL_law_X1_told rfl rfl rfl (by decide +kernel) ⟨Nat.le_of_ble_eq_true rfl, Nat.le_of_ble_eq_true rfl⟩) ⟨PR.blind, va_recv (hK.sub (tys' := [(cI, .int)]) [0] rfl) hPB (ci := 1) (q0 := 0) rfl rfl, fun U hU hW => ⟨rfl, PR.go hPB (hK.sub (tys' := [(cI, .int)]) [0] rfl) hE hS hU hW⟩⟩ rfl rfl hl.1 rfl (lv_room (Nat.le_of_ble_eq_true rfl)) dL_law_418 ⟨(by show _ ≤ 600104; omega), (by show _ ≤ 7301314; omega)⟩) (fun r hr0 => ?_)
                                      subst hr0
                                      refine rv_top (y := nI (s_place n F k)) rfl ?_
                                      refine lv_aload_n hx hb dL_law_421 rfl (lv_at hl 16 rfl) ?_
                                      refine lv_iload hx hb dL_law_422 (lv_at hl 0 rfl) ?_
                                      refine lv_bipush (v := 7) hx hb dL_law_424 (by decide) ?_
                                      refine vp_callSi (W.runV (As := [.int (nI o), .int 7]) (rest := [.int (nI (s_place n F k))]) ⟨hx, hb, hml, hown, hts⟩ (c_X1_toldK l dC dI cI mb r1 d1 r2 d2 rc n F n2 G ct ch o (show o < n by omega) 7 (show 7 < 9 by decide) hn) (cwV 2 hts gL_law_X1_told rfl rfl rfl (by decide +kernel) ⟨Nat.le_of_ble_eq_true rfl, Nat.le_of_ble_eq_true rfl⟩) ⟨PR.blind, va_recv (hK.sub (tys' := [(cI, .int)]) [0] rfl) hPB (ci := 1) (q0 := 0) rfl rfl, fun U hU hW => ⟨rfl, PR.go hPB (hK.sub (tys' := [(cI, .int)]) [0] rfl) hE hS hU hW⟩⟩ rfl rfl hl.1 rfl (lv_room (Nat.le_of_ble_eq_true rfl)) dL_law_426 ⟨(by show _ ≤ 600104; omega), (by show _ ≤ 7301314; omega)⟩) (fun r hr0 => ?_)
                                      subst hr0
                                      refine rv_top (y := nI (s_place n F o)) rfl ?_
                                      refine lv_icmp_ge (tgt := 436) hx hb dL_law_429 (by decide) (fun c_429 => ?_) (fun c_429 => ?_)
                                      · refine lv_iconst (v := 0) hx hb dL_law_436 (by decide) ?_
                                        refine lv_istore (lv' := [(19, .int 0), (18, .int (nI o)), (10, .int (nI (smN F 4 (k + 1)))), (9, .int (nI (smN F 3 (k + 1)))), (11, .int (nI (smN F 2 (k + 1)))), (14, .int (s_loU F 9999 (k + 1))), (13, .int (s_hiU F (k + 1))), (8, .int (s_sumU F (k + 1))), (17, .int (nI g)), (16, .int (nI r)), (15, .int (nI k)), (12, .ref q), (6, .long (s_dig n F ct)), (5, .int (nI n)), (4, .int v), (3, .int (nI t)), (2, .ref h), (1, .ref mb), (0, .ref b)]) hx hb dL_law_437 hl (by decide) rfl (fun ls hl => ?_)
                                        refine lv_iload hx hb dL_law_439 (lv_at hl 0 rfl) ?_
                                        refine lv_if_eq (tgt := 511) hx hb dL_law_441 (by decide) (fun c_441 => ?_) (fun c_441 => ?_)
                                        · refine lv_iinc (v := nI (o + 1)) (lv' := [(18, .int (nI (o + 1))), (19, .int 0), (10, .int (nI (smN F 4 (k + 1)))), (9, .int (nI (smN F 3 (k + 1)))), (11, .int (nI (smN F 2 (k + 1)))), (14, .int (s_loU F 9999 (k + 1))), (13, .int (s_hiU F (k + 1))), (8, .int (s_sumU F (k + 1))), (17, .int (nI g)), (16, .int (nI r)), (15, .int (nI k)), (12, .ref q), (6, .long (s_dig n F ct)), (5, .int (nI n)), (4, .int v), (3, .int (nI t)), (2, .ref h), (1, .ref mb), (0, .ref b)]) hx hb dL_law_511 hl (k := 1) rfl (nI_add o 1) (by decide) rfl (fun ls hl => ?_)
                                          refine lv_goto (tgt := 333) hx hb dL_law_514 (by decide) ?_
                                          exact ih_333 (o + 1) (by omega) _ _ hP hD hS ls (lv_sub hl [0, 2, 3, 4, 5, 6, 7, 8, 9, 10, 11, 12, 13, 14, 15, 16, 17, 18] rfl)
                                        · exact absurd (by decide) c_441
                                      · have hah := ahead_pl hn (show k < n by omega) (show o < n by omega) e0 c_407 hne c_429
                                        refine lv_iconst (v := 1) hx hb dL_law_432 (by decide) ?_
                                        refine lv_goto (tgt := 437) hx hb dL_law_433 (by decide) ?_
                                        refine lv_istore (lv' := [(19, .int 1), (18, .int (nI o)), (10, .int (nI (smN F 4 (k + 1)))), (9, .int (nI (smN F 3 (k + 1)))), (11, .int (nI (smN F 2 (k + 1)))), (14, .int (s_loU F 9999 (k + 1))), (13, .int (s_hiU F (k + 1))), (8, .int (s_sumU F (k + 1))), (17, .int (nI g)), (16, .int (nI r)), (15, .int (nI k)), (12, .ref q), (6, .long (s_dig n F ct)), (5, .int (nI n)), (4, .int v), (3, .int (nI t)), (2, .ref h), (1, .ref mb), (0, .ref b)]) hx hb dL_law_437 hl (by decide) rfl (fun ls hl => ?_)
                                        refine lv_iload hx hb dL_law_439 (lv_at hl 0 rfl) ?_
                                        refine lv_if_eq (tgt := 511) hx hb dL_law_441 (by decide) (fun c_441 => ?_) (fun c_441 => ?_)
                                        · exact absurd c_441 (by decide)
                                        · refine lv_aload_n hx hb dL_law_444 rfl (lv_at hl 17 rfl) ?_
                                          refine lv_iload hx hb dL_law_445 (lv_at hl 10 rfl) ?_
                                          refine lv_iconst (v := 2) hx hb dL_law_447 (by decide) ?_
                                          refine vp_callSi (W.runV (As := [.int (nI k), .int 2]) (rest := []) ⟨hx, hb, hml, hown, hts⟩ (c_X1_toldK l dC dI cI mb r1 d1 r2 d2 rc n F n2 G ct ch k (show k < n by omega) 2 (show 2 < 9 by decide) hn) (cwV 2 hts gL_law_X1_told rfl rfl rfl (by decide +kernel) ⟨Nat.le_of_ble_eq_true rfl, Nat.le_of_ble_eq_true rfl⟩) ⟨PR.blind, va_recv (hK.sub (tys' := [(cI, .int)]) [0] rfl) hPB (ci := 1) (q0 := 0) rfl rfl, fun U hU hW => ⟨rfl, PR.go hPB (hK.sub (tys' := [(cI, .int)]) [0] rfl) hE hS hU hW⟩⟩ rfl rfl hl.1 rfl (lv_room (Nat.le_of_ble_eq_true rfl)) dL_law_448 ⟨(by show _ ≤ 600104; omega), (by show _ ≤ 7301314; omega)⟩) (fun r hr0 => ?_)
                                          subst hr0
                                          refine rv_top (y := F 2 k) rfl ?_
                                          refine lv_aload_n hx hb dL_law_451 rfl (lv_at hl 17 rfl) ?_
                                          refine lv_iload hx hb dL_law_452 (lv_at hl 1 rfl) ?_
                                          refine lv_iconst (v := 2) hx hb dL_law_454 (by decide) ?_
                                          refine vp_callSi (W.runV (As := [.int (nI o), .int 2]) (rest := [.int (F 2 k)]) ⟨hx, hb, hml, hown, hts⟩ (c_X1_toldK l dC dI cI mb r1 d1 r2 d2 rc n F n2 G ct ch o (show o < n by omega) 2 (show 2 < 9 by decide) hn) (cwV 2 hts gL_law_X1_told rfl rfl rfl (by decide +kernel) ⟨Nat.le_of_ble_eq_true rfl, Nat.le_of_ble_eq_true rfl⟩) ⟨PR.blind, va_recv (hK.sub (tys' := [(cI, .int)]) [0] rfl) hPB (ci := 1) (q0 := 0) rfl rfl, fun U hU hW => ⟨rfl, PR.go hPB (hK.sub (tys' := [(cI, .int)]) [0] rfl) hE hS hU hW⟩⟩ rfl rfl hl.1 rfl (lv_room (Nat.le_of_ble_eq_true rfl)) dL_law_455 ⟨(by show _ ≤ 600104; omega), (by show _ ≤ 7301314; omega)⟩) (fun r hr0 => ?_)
                                          subst hr0
                                          refine rv_top (y := F 2 o) rfl ?_
                                          refine lv_icmp_lt (tgt := 509) hx hb dL_law_458 (by decide) (fun c_458 => ?_) (fun c_458 => ?_)
                                          · exact absurd (show F 2 k < F 2 o from c_458) (ahead_pts hah)
                                          · refine lv_aload_n hx hb dL_law_461 rfl (lv_at hl 17 rfl) ?_
                                            refine lv_iload hx hb dL_law_462 (lv_at hl 10 rfl) ?_
                                            refine lv_iconst (v := 2) hx hb dL_law_464 (by decide) ?_
                                            refine vp_callSi (W.runV (As := [.int (nI k), .int 2]) (rest := []) ⟨hx, hb, hml, hown, hts⟩ (c_X1_toldK l dC dI cI mb r1 d1 r2 d2 rc n F n2 G ct ch k (show k < n by omega) 2 (show 2 < 9 by decide) hn) (cwV 2 hts gL_law_X1_told rfl rfl rfl (by decide +kernel) ⟨Nat.le_of_ble_eq_true rfl, Nat.le_of_ble_eq_true rfl⟩) ⟨PR.blind, va_recv (hK.sub (tys' := [(cI, .int)]) [0] rfl) hPB (ci := 1) (q0 := 0) rfl rfl, fun U hU hW => ⟨rfl, PR.go hPB (hK.sub (tys' := [(cI, .int)]) [0] rfl) hE hS hU hW⟩⟩ rfl rfl hl.1 rfl (lv_room (Nat.le_of_ble_eq_true rfl)) dL_law_465 ⟨(by show _ ≤ 600104; omega), (by show _ ≤ 7301314; omega)⟩) (fun r hr0 => ?_)
                                            subst hr0
                                            refine rv_top (y := F 2 k) rfl ?_
                                            refine lv_aload_n hx hb dL_law_468 rfl (lv_at hl 17 rfl) ?_
                                            refine lv_iload hx hb dL_law_469 (lv_at hl 1 rfl) ?_
                                            refine lv_iconst (v := 2) hx hb dL_law_471 (by decide) ?_
                                            refine vp_callSi (W.runV (As := [.int (nI o), .int 2]) (rest := [.int (F 2 k)]) ⟨hx, hb, hml, hown, hts⟩ (c_X1_toldK l dC dI cI mb r1 d1 r2 d2 rc n F n2 G ct ch o (show o < n by omega) 2 (show 2 < 9 by decide) hn) (cwV 2 hts gL_law_X1_told rfl rfl rfl (by decide +kernel) ⟨Nat.le_of_ble_eq_true rfl, Nat.le_of_ble_eq_true rfl⟩) ⟨PR.blind, va_recv (hK.sub (tys' := [(cI, .int)]) [0] rfl) hPB (ci := 1) (q0 := 0) rfl rfl, fun U hU hW => ⟨rfl, PR.go hPB (hK.sub (tys' := [(cI, .int)]) [0] rfl) hE hS hU hW⟩⟩ rfl rfl hl.1 rfl (lv_room (Nat.le_of_ble_eq_true rfl)) dL_law_472 ⟨(by show _ ≤ 600104; omega), (by show _ ≤ 7301314; omega)⟩) (fun r hr0 => ?_)
                                            subst hr0
                                            refine rv_top (y := F 2 o) rfl ?_
                                            refine lv_icmp_ne (tgt := 511) hx hb dL_law_475 (by decide) (fun c_475 => ?_) (fun c_475 => ?_)
                                            · refine lv_iinc (v := nI (o + 1)) (lv' := [(18, .int (nI (o + 1))), (19, .int 1), (10, .int (nI (smN F 4 (k + 1)))), (9, .int (nI (smN F 3 (k + 1)))), (11, .int (nI (smN F 2 (k + 1)))), (14, .int (s_loU F 9999 (k + 1))), (13, .int (s_hiU F (k + 1))), (8, .int (s_sumU F (k + 1))), (17, .int (nI g)), (16, .int (nI r)), (15, .int (nI k)), (12, .ref q), (6, .long (s_dig n F ct)), (5, .int (nI n)), (4, .int v), (3, .int (nI t)), (2, .ref h), (1, .ref mb), (0, .ref b)]) hx hb dL_law_511 hl (k := 1) rfl (nI_add o 1) (by decide) rfl (fun ls hl => ?_)
                                              refine lv_goto (tgt := 333) hx hb dL_law_514 (by decide) ?_
                                              exact ih_333 (o + 1) (by omega) _ _ hP hD hS ls (lv_sub hl [0, 2, 3, 4, 5, 6, 7, 8, 9, 10, 11, 12, 13, 14, 15, 16, 17, 18] rfl)
                                            · refine lv_iload hx hb dL_law_478 (lv_at hl 9 rfl) ?_
                                              refine lv_aload_n hx hb dL_law_480 rfl (lv_at hl 17 rfl) ?_
                                              refine lv_iload hx hb dL_law_481 (lv_at hl 1 rfl) ?_
                                              refine lv_iconst (v := 0) hx hb dL_law_483 (by decide) ?_
                                              refine vp_callSi (W.runV (As := [.int (nI o), .int 0]) (rest := [.int (nI r)]) ⟨hx, hb, hml, hown, hts⟩ (c_X1_toldK l dC dI cI mb r1 d1 r2 d2 rc n F n2 G ct ch o (show o < n by omega) 0 (show 0 < 9 by decide) hn) (cwV 2 hts gL_law_X1_told rfl rfl rfl (by decide +kernel) ⟨Nat.le_of_ble_eq_true rfl, Nat.le_of_ble_eq_true rfl⟩) ⟨PR.blind, va_recv (hK.sub (tys' := [(cI, .int)]) [0] rfl) hPB (ci := 1) (q0 := 0) rfl rfl, fun U hU hW => ⟨rfl, PR.go hPB (hK.sub (tys' := [(cI, .int)]) [0] rfl) hE hS hU hW⟩⟩ rfl rfl hl.1 rfl (lv_room (Nat.le_of_ble_eq_true rfl)) dL_law_484 ⟨(by show _ ≤ 600104; omega), (by show _ ≤ 7301314; omega)⟩) (fun r hr0 => ?_)
                                              subst hr0
                                              refine rv_top (y := F 1 o) rfl ?_
                                              refine lv_icmp_lt (tgt := 509) hx hb dL_law_487 (by decide) (fun c_487 => ?_) (fun c_487 => ?_)
                                              · exact absurd (show F 1 k < F 1 o from by rw [e1]; exact c_487) (ahead_rat hah c_475)
                                              · refine lv_iload hx hb dL_law_490 (lv_at hl 9 rfl) ?_
                                                refine lv_aload_n hx hb dL_law_492 rfl (lv_at hl 17 rfl) ?_
                                                refine lv_iload hx hb dL_law_493 (lv_at hl 1 rfl) ?_
                                                refine lv_iconst (v := 0) hx hb dL_law_495 (by decide) ?_
                                                refine vp_callSi (W.runV (As := [.int (nI o), .int 0]) (rest := [.int (nI r)]) ⟨hx, hb, hml, hown, hts⟩ (c_X1_toldK l dC dI cI mb r1 d1 r2 d2 rc n F n2 G ct ch o (show o < n by omega) 0 (show 0 < 9 by decide) hn) (cwV 2 hts gL_law_X1_told rfl rfl rfl (by decide +kernel) ⟨Nat.le_of_ble_eq_true rfl, Nat.le_of_ble_eq_true rfl⟩) ⟨PR.blind, va_recv (hK.sub (tys' := [(cI, .int)]) [0] rfl) hPB (ci := 1) (q0 := 0) rfl rfl, fun U hU hW => ⟨rfl, PR.go hPB (hK.sub (tys' := [(cI, .int)]) [0] rfl) hE hS hU hW⟩⟩ rfl rfl hl.1 rfl (lv_room (Nat.le_of_ble_eq_true rfl)) dL_law_496 ⟨(by show _ ≤ 600104; omega), (by show _ ≤ 7301314; omega)⟩) (fun r hr0 => ?_)
                                                subst hr0
                                                refine rv_top (y := F 1 o) rfl ?_
                                                refine lv_icmp_ne (tgt := 511) hx hb dL_law_499 (by decide) (fun c_499 => ?_) (fun c_499 => ?_)
                                                · refine lv_iinc (v := nI (o + 1)) (lv' := [(18, .int (nI (o + 1))), (19, .int 1), (10, .int (nI (smN F 4 (k + 1)))), (9, .int (nI (smN F 3 (k + 1)))), (11, .int (nI (smN F 2 (k + 1)))), (14, .int (s_loU F 9999 (k + 1))), (13, .int (s_hiU F (k + 1))), (8, .int (s_sumU F (k + 1))), (17, .int (nI g)), (16, .int (nI r)), (15, .int (nI k)), (12, .ref q), (6, .long (s_dig n F ct)), (5, .int (nI n)), (4, .int v), (3, .int (nI t)), (2, .ref h), (1, .ref mb), (0, .ref b)]) hx hb dL_law_511 hl (k := 1) rfl (nI_add o 1) (by decide) rfl (fun ls hl => ?_)
                                                  refine lv_goto (tgt := 333) hx hb dL_law_514 (by decide) ?_
                                                  exact ih_333 (o + 1) (by omega) _ _ hP hD hS ls (lv_sub hl [0, 2, 3, 4, 5, 6, 7, 8, 9, 10, 11, 12, 13, 14, 15, 16, 17, 18] rfl)
                                                · refine lv_iload hx hb dL_law_502 (lv_at hl 10 rfl) ?_
                                                  refine lv_iload hx hb dL_law_504 (lv_at hl 1 rfl) ?_
                                                  refine lv_icmp_le (tgt := 511) hx hb dL_law_506 (by decide) (fun c_506 => ?_) (fun c_506 => ?_)
                                                  · refine lv_iinc (v := nI (o + 1)) (lv' := [(18, .int (nI (o + 1))), (19, .int 1), (10, .int (nI (smN F 4 (k + 1)))), (9, .int (nI (smN F 3 (k + 1)))), (11, .int (nI (smN F 2 (k + 1)))), (14, .int (s_loU F 9999 (k + 1))), (13, .int (s_hiU F (k + 1))), (8, .int (s_sumU F (k + 1))), (17, .int (nI g)), (16, .int (nI r)), (15, .int (nI k)), (12, .ref q), (6, .long (s_dig n F ct)), (5, .int (nI n)), (4, .int v), (3, .int (nI t)), (2, .ref h), (1, .ref mb), (0, .ref b)]) hx hb dL_law_511 hl (k := 1) rfl (nI_add o 1) (by decide) rfl (fun ls hl => ?_)
                                                    refine lv_goto (tgt := 333) hx hb dL_law_514 (by decide) ?_
                                                    exact ih_333 (o + 1) (by omega) _ _ hP hD hS ls (lv_sub hl [0, 2, 3, 4, 5, 6, 7, 8, 9, 10, 11, 12, 13, 14, 15, 16, 17, 18] rfl)
                                                  · exact absurd (nI_le (Nat.le_of_lt (ahead_num hah c_475 (e1.trans c_499))) (by omega)) c_506
                                    · refine lv_goto (tgt := 511) hx hb dL_law_410 (by decide) ?_
                                      refine lv_iinc (v := nI (o + 1)) (lv' := [(18, .int (nI (o + 1))), (10, .int (nI (smN F 4 (k + 1)))), (9, .int (nI (smN F 3 (k + 1)))), (11, .int (nI (smN F 2 (k + 1)))), (14, .int (s_loU F 9999 (k + 1))), (13, .int (s_hiU F (k + 1))), (8, .int (s_sumU F (k + 1))), (17, .int (nI g)), (16, .int (nI r)), (15, .int (nI k)), (12, .ref q), (6, .long (s_dig n F ct)), (5, .int (nI n)), (4, .int v), (3, .int (nI t)), (2, .ref h), (1, .ref mb), (0, .ref b)]) hx hb dL_law_511 hl (k := 0) rfl (nI_add o 1) (by decide) rfl (fun ls hl => ?_)
                                      refine lv_goto (tgt := 333) hx hb dL_law_514 (by decide) ?_
                                      exact ih_333 (o + 1) (by omega) _ _ hP hD hS ls (lv_sub hl [0, 1, 2, 3, 4, 5, 6, 7, 8, 9, 10, 11, 12, 13, 14, 15, 16, 17] rfl)
                                · refine lv_iload hx hb dL_law_377 (lv_at hl 8 rfl) ?_
                                  refine lv_aload_n hx hb dL_law_379 rfl (lv_at hl 16 rfl) ?_
                                  refine lv_iload hx hb dL_law_380 (lv_at hl 0 rfl) ?_
                                  refine lv_iconst (v := 0) hx hb dL_law_382 (by decide) ?_
                                  refine vp_callSi (W.runV (As := [.int (nI o), .int 0]) (rest := [.int (nI r)]) ⟨hx, hb, hml, hown, hts⟩ (c_X1_toldK l dC dI cI mb r1 d1 r2 d2 rc n F n2 G ct ch o (show o < n by omega) 0 (show 0 < 9 by decide) hn) (cwV 2 hts gL_law_X1_told rfl rfl rfl (by decide +kernel) ⟨Nat.le_of_ble_eq_true rfl, Nat.le_of_ble_eq_true rfl⟩) ⟨PR.blind, va_recv (hK.sub (tys' := [(cI, .int)]) [0] rfl) hPB (ci := 1) (q0 := 0) rfl rfl, fun U hU hW => ⟨rfl, PR.go hPB (hK.sub (tys' := [(cI, .int)]) [0] rfl) hE hS hU hW⟩⟩ rfl rfl hl.1 rfl (lv_room (Nat.le_of_ble_eq_true rfl)) dL_law_383 ⟨(by show _ ≤ 600104; omega), (by show _ ≤ 7301314; omega)⟩) (fun r hr0 => ?_)
                                  subst hr0
                                  refine rv_top (y := F 1 o) rfl ?_
                                  refine lv_icmp_gt (tgt := 391) hx hb dL_law_386 (by decide) (fun c_386 => ?_) (fun c_386 => ?_)
                                  · refine lv_iload hx hb dL_law_391 (lv_at hl 0 rfl) ?_
                                    refine lv_iload hx hb dL_law_393 (lv_at hl 9 rfl) ?_
                                    refine lv_icmp_eq (tgt := 511) hx hb dL_law_395 (by decide) (fun c_395 => ?_) (fun c_395 => ?_)
                                    · refine lv_iinc (v := nI (o + 1)) (lv' := [(18, .int (nI (o + 1))), (10, .int (nI (smN F 4 (k + 1)))), (9, .int (nI (smN F 3 (k + 1)))), (11, .int (nI (smN F 2 (k + 1)))), (14, .int (s_loU F 9999 (k + 1))), (13, .int (s_hiU F (k + 1))), (8, .int (s_sumU F (k + 1))), (17, .int (nI g)), (16, .int (nI r)), (15, .int (nI k)), (12, .ref q), (6, .long (s_dig n F ct)), (5, .int (nI n)), (4, .int v), (3, .int (nI t)), (2, .ref h), (1, .ref mb), (0, .ref b)]) hx hb dL_law_511 hl (k := 0) rfl (nI_add o 1) (by decide) rfl (fun ls hl => ?_)
                                      refine lv_goto (tgt := 333) hx hb dL_law_514 (by decide) ?_
                                      exact ih_333 (o + 1) (by omega) _ _ hP hD hS ls (lv_sub hl [0, 1, 2, 3, 4, 5, 6, 7, 8, 9, 10, 11, 12, 13, 14, 15, 16, 17] rfl)
                                    · have hne : ¬ o = k := fun z => c_395 (by rw [z])
                                      refine lv_aload_n hx hb dL_law_398 rfl (lv_at hl 16 rfl) ?_
                                      refine lv_iload hx hb dL_law_399 (lv_at hl 0 rfl) ?_
                                      refine lv_iconst (v := 1) hx hb dL_law_401 (by decide) ?_
                                      refine vp_callSi (W.runV (As := [.int (nI o), .int 1]) (rest := []) ⟨hx, hb, hml, hown, hts⟩ (c_X1_toldK l dC dI cI mb r1 d1 r2 d2 rc n F n2 G ct ch o (show o < n by omega) 1 (show 1 < 9 by decide) hn) (cwV 2 hts gL_law_X1_told rfl rfl rfl (by decide +kernel) ⟨Nat.le_of_ble_eq_true rfl, Nat.le_of_ble_eq_true rfl⟩) ⟨PR.blind, va_recv (hK.sub (tys' := [(cI, .int)]) [0] rfl) hPB (ci := 1) (q0 := 0) rfl rfl, fun U hU hW => ⟨rfl, PR.go hPB (hK.sub (tys' := [(cI, .int)]) [0] rfl) hE hS hU hW⟩⟩ rfl rfl hl.1 rfl (lv_room (Nat.le_of_ble_eq_true rfl)) dL_law_402 ⟨(by show _ ≤ 600104; omega), (by show _ ≤ 7301314; omega)⟩) (fun r hr0 => ?_)
                                      subst hr0
                                      refine rv_top (y := F 0 o) rfl ?_
                                      refine lv_iload hx hb dL_law_405 (lv_at hl 7 rfl) ?_
                                      refine lv_icmp_eq (tgt := 413) hx hb dL_law_407 (by decide) (fun c_407 => ?_) (fun c_407 => ?_)
                                      · refine lv_aload_n hx hb dL_law_413 rfl (lv_at hl 16 rfl) ?_
                                        refine lv_iload hx hb dL_law_414 (lv_at hl 9 rfl) ?_
                                        refine lv_bipush (v := 7) hx hb dL_law_416 (by decide) ?_
                                        refine vp_callSi (W.runV (As := [.int (nI k), .int 7]) (rest := []) ⟨hx, hb, hml, hown, hts⟩ (c_X1_toldK l dC dI cI mb r1 d1 r2 d2 rc n F n2 G ct ch k (show k < n by omega) 7 (show 7 < 9 by decide) hn) (cwV 2 hts gL_law_X1_told rfl rfl rfl (by decide +kernel) ⟨Nat.le_of_ble_eq_true rfl, Nat.le_of_ble_eq_true rfl⟩) ⟨PR.blind, va_recv (hK.sub (tys' := [(cI, .int)]) [0] rfl) hPB (ci := 1) (q0 := 0) rfl rfl, fun U hU hW => ⟨rfl, PR.go hPB (hK.sub (tys' := [(cI, .int)]) [0] rfl) hE hS hU hW⟩⟩ rfl rfl hl.1 rfl (lv_room (Nat.le_of_ble_eq_true rfl)) dL_law_418 ⟨(by show _ ≤ 600104; omega), (by show _ ≤ 7301314; omega)⟩) (fun r hr0 => ?_)
                                        subst hr0
                                        refine rv_top (y := nI (s_place n F k)) rfl ?_
                                        refine lv_aload_n hx hb dL_law_421 rfl (lv_at hl 16 rfl) ?_
                                        refine lv_iload hx hb dL_law_422 (lv_at hl 0 rfl) ?_
                                        refine lv_bipush (v := 7) hx hb dL_law_424 (by decide) ?_
                                        refine vp_callSi (W.runV (As := [.int (nI o), .int 7]) (rest := [.int (nI (s_place n F k))]) ⟨hx, hb, hml, hown, hts⟩ (c_X1_toldK l dC dI cI mb r1 d1 r2 d2 rc n F n2 G ct ch o (show o < n by omega) 7 (show 7 < 9 by decide) hn) (cwV 2 hts gL_law_X1_told rfl rfl rfl (by decide +kernel) ⟨Nat.le_of_ble_eq_true rfl, Nat.le_of_ble_eq_true rfl⟩) ⟨PR.blind, va_recv (hK.sub (tys' := [(cI, .int)]) [0] rfl) hPB (ci := 1) (q0 := 0) rfl rfl, fun U hU hW => ⟨rfl, PR.go hPB (hK.sub (tys' := [(cI, .int)]) [0] rfl) hE hS hU hW⟩⟩ rfl rfl hl.1 rfl (lv_room (Nat.le_of_ble_eq_true rfl)) dL_law_426 ⟨(by show _ ≤ 600104; omega), (by show _ ≤ 7301314; omega)⟩) (fun r hr0 => ?_)
                                        subst hr0
                                        refine rv_top (y := nI (s_place n F o)) rfl ?_
                                        refine lv_icmp_ge (tgt := 436) hx hb dL_law_429 (by decide) (fun c_429 => ?_) (fun c_429 => ?_)
                                        · refine lv_iconst (v := 0) hx hb dL_law_436 (by decide) ?_
                                          refine lv_istore (lv' := [(19, .int 0), (18, .int (nI o)), (10, .int (nI (smN F 4 (k + 1)))), (9, .int (nI (smN F 3 (k + 1)))), (11, .int (nI (smN F 2 (k + 1)))), (14, .int (s_loU F 9999 (k + 1))), (13, .int (s_hiU F (k + 1))), (8, .int (s_sumU F (k + 1))), (17, .int (nI g)), (16, .int (nI r)), (15, .int (nI k)), (12, .ref q), (6, .long (s_dig n F ct)), (5, .int (nI n)), (4, .int v), (3, .int (nI t)), (2, .ref h), (1, .ref mb), (0, .ref b)]) hx hb dL_law_437 hl (by decide) rfl (fun ls hl => ?_)
                                          refine lv_iload hx hb dL_law_439 (lv_at hl 0 rfl) ?_
                                          refine lv_if_eq (tgt := 511) hx hb dL_law_441 (by decide) (fun c_441 => ?_) (fun c_441 => ?_)
                                          · refine lv_iinc (v := nI (o + 1)) (lv' := [(18, .int (nI (o + 1))), (19, .int 0), (10, .int (nI (smN F 4 (k + 1)))), (9, .int (nI (smN F 3 (k + 1)))), (11, .int (nI (smN F 2 (k + 1)))), (14, .int (s_loU F 9999 (k + 1))), (13, .int (s_hiU F (k + 1))), (8, .int (s_sumU F (k + 1))), (17, .int (nI g)), (16, .int (nI r)), (15, .int (nI k)), (12, .ref q), (6, .long (s_dig n F ct)), (5, .int (nI n)), (4, .int v), (3, .int (nI t)), (2, .ref h), (1, .ref mb), (0, .ref b)]) hx hb dL_law_511 hl (k := 1) rfl (nI_add o 1) (by decide) rfl (fun ls hl => ?_)
                                            refine lv_goto (tgt := 333) hx hb dL_law_514 (by decide) ?_
                                            exact ih_333 (o + 1) (by omega) _ _ hP hD hS ls (lv_sub hl [0, 2, 3, 4, 5, 6, 7, 8, 9, 10, 11, 12, 13, 14, 15, 16, 17, 18] rfl)
                                          · exact absurd (by decide) c_441
                                        · have hah := ahead_pl hn (show k < n by omega) (show o < n by omega) e0 c_407 hne c_429
                                          refine lv_iconst (v := 1) hx hb dL_law_432 (by decide) ?_
                                          refine lv_goto (tgt := 437) hx hb dL_law_433 (by decide) ?_
                                          refine lv_istore (lv' := [(19, .int 1), (18, .int (nI o)), (10, .int (nI (smN F 4 (k + 1)))), (9, .int (nI (smN F 3 (k + 1)))), (11, .int (nI (smN F 2 (k + 1)))), (14, .int (s_loU F 9999 (k + 1))), (13, .int (s_hiU F (k + 1))), (8, .int (s_sumU F (k + 1))), (17, .int (nI g)), (16, .int (nI r)), (15, .int (nI k)), (12, .ref q), (6, .long (s_dig n F ct)), (5, .int (nI n)), (4, .int v), (3, .int (nI t)), (2, .ref h), (1, .ref mb), (0, .ref b)]) hx hb dL_law_437 hl (by decide) rfl (fun ls hl => ?_)
                                          refine lv_iload hx hb dL_law_439 (lv_at hl 0 rfl) ?_
                                          refine lv_if_eq (tgt := 511) hx hb dL_law_441 (by decide) (fun c_441 => ?_) (fun c_441 => ?_)
                                          · exact absurd c_441 (by decide)
                                          · refine lv_aload_n hx hb dL_law_444 rfl (lv_at hl 17 rfl) ?_
                                            refine lv_iload hx hb dL_law_445 (lv_at hl 10 rfl) ?_
                                            refine lv_iconst (v := 2) hx hb dL_law_447 (by decide) ?_
                                            refine vp_callSi (W.runV (As := [.int (nI k), .int 2]) (rest := []) ⟨hx, hb, hml, hown, hts⟩ (c_X1_toldK l dC dI cI mb r1 d1 r2 d2 rc n F n2 G ct ch k (show k < n by omega) 2 (show 2 < 9 by decide) hn) (cwV 2 hts gL_law_X1_told rfl rfl rfl (by decide +kernel) ⟨Nat.le_of_ble_eq_true rfl, Nat.le_of_ble_eq_true rfl⟩) ⟨PR.blind, va_recv (hK.sub (tys' := [(cI, .int)]) [0] rfl) hPB (ci := 1) (q0 := 0) rfl rfl, fun U hU hW => ⟨rfl, PR.go hPB (hK.sub (tys' := [(cI, .int)]) [0] rfl) hE hS hU hW⟩⟩ rfl rfl hl.1 rfl (lv_room (Nat.le_of_ble_eq_true rfl)) dL_law_448 ⟨(by show _ ≤ 600104; omega), (by show _ ≤ 7301314; omega)⟩) (fun r hr0 => ?_)
                                            subst hr0
                                            refine rv_top (y := F 2 k) rfl ?_
                                            refine lv_aload_n hx hb dL_law_451 rfl (lv_at hl 17 rfl) ?_
                                            refine lv_iload hx hb dL_law_452 (lv_at hl 1 rfl) ?_
                                            refine lv_iconst (v := 2) hx hb dL_law_454 (by decide) ?_
                                            refine vp_callSi (W.runV (As := [.int (nI o), .int 2]) (rest := [.int (F 2 k)]) ⟨hx, hb, hml, hown, hts⟩ (c_X1_toldK l dC dI cI mb r1 d1 r2 d2 rc n F n2 G ct ch o (show o < n by omega) 2 (show 2 < 9 by decide) hn) (cwV 2 hts gL_law_X1_told rfl rfl rfl (by decide +kernel) ⟨Nat.le_of_ble_eq_true rfl, Nat.le_of_ble_eq_true rfl⟩) ⟨PR.blind, va_recv (hK.sub (tys' := [(cI, .int)]) [0] rfl) hPB (ci := 1) (q0 := 0) rfl rfl, fun U hU hW => ⟨rfl, PR.go hPB (hK.sub (tys' := [(cI, .int)]) [0] rfl) hE hS hU hW⟩⟩ rfl rfl hl.1 rfl (lv_room (Nat.le_of_ble_eq_true rfl)) dL_law_455 ⟨(by show _ ≤ 600104; omega), (by show _ ≤ 7301314; omega)⟩) (fun r hr0 => ?_)
                                            subst hr0
                                            refine rv_top (y := F 2 o) rfl ?_
                                            refine lv_icmp_lt (tgt := 509) hx hb dL_law_458 (by decide) (fun c_458 => ?_) (fun c_458 => ?_)
                                            · exact absurd (show F 2 k < F 2 o from c_458) (ahead_pts hah)
                                            · refine lv_aload_n hx hb dL_law_461 rfl (lv_at hl 17 rfl) ?_
                                              refine lv_iload hx hb dL_law_462 (lv_at hl 10 rfl) ?_
                                              refine lv_iconst (v := 2) hx hb dL_law_464 (by decide) ?_
                                              refine vp_callSi (W.runV (As := [.int (nI k), .int 2]) (rest := []) ⟨hx, hb, hml, hown, hts⟩ (c_X1_toldK l dC dI cI mb r1 d1 r2 d2 rc n F n2 G ct ch k (show k < n by omega) 2 (show 2 < 9 by decide) hn) (cwV 2 hts gL_law_X1_told rfl rfl rfl (by decide +kernel) ⟨Nat.le_of_ble_eq_true rfl, Nat.le_of_ble_eq_true rfl⟩) ⟨PR.blind, va_recv (hK.sub (tys' := [(cI, .int)]) [0] rfl) hPB (ci := 1) (q0 := 0) rfl rfl, fun U hU hW => ⟨rfl, PR.go hPB (hK.sub (tys' := [(cI, .int)]) [0] rfl) hE hS hU hW⟩⟩ rfl rfl hl.1 rfl (lv_room (Nat.le_of_ble_eq_true rfl)) dL_law_465 ⟨(by show _ ≤ 600104; omega), (by show _ ≤ 7301314; omega)⟩) (fun r hr0 => ?_)
                                              subst hr0
                                              refine rv_top (y := F 2 k) rfl ?_
                                              refine lv_aload_n hx hb dL_law_468 rfl (lv_at hl 17 rfl) ?_
                                              refine lv_iload hx hb dL_law_469 (lv_at hl 1 rfl) ?_
                                              refine lv_iconst (v := 2) hx hb dL_law_471 (by decide) ?_
                                              refine vp_callSi (W.runV (As := [.int (nI o), .int 2]) (rest := [.int (F 2 k)]) ⟨hx, hb, hml, hown, hts⟩ (c_X1_toldK l dC dI cI mb r1 d1 r2 d2 rc n F n2 G ct ch o (show o < n by omega) 2 (show 2 < 9 by decide) hn) (cwV 2 hts gL_law_X1_told rfl rfl rfl (by decide +kernel) ⟨Nat.le_of_ble_eq_true rfl, Nat.le_of_ble_eq_true rfl⟩) ⟨PR.blind, va_recv (hK.sub (tys' := [(cI, .int)]) [0] rfl) hPB (ci := 1) (q0 := 0) rfl rfl, fun U hU hW => ⟨rfl, PR.go hPB (hK.sub (tys' := [(cI, .int)]) [0] rfl) hE hS hU hW⟩⟩ rfl rfl hl.1 rfl (lv_room (Nat.le_of_ble_eq_true rfl)) dL_law_472 ⟨(by show _ ≤ 600104; omega), (by show _ ≤ 7301314; omega)⟩) (fun r hr0 => ?_)
                                              subst hr0
                                              refine rv_top (y := F 2 o) rfl ?_
                                              refine lv_icmp_ne (tgt := 511) hx hb dL_law_475 (by decide) (fun c_475 => ?_) (fun c_475 => ?_)
                                              · refine lv_iinc (v := nI (o + 1)) (lv' := [(18, .int (nI (o + 1))), (19, .int 1), (10, .int (nI (smN F 4 (k + 1)))), (9, .int (nI (smN F 3 (k + 1)))), (11, .int (nI (smN F 2 (k + 1)))), (14, .int (s_loU F 9999 (k + 1))), (13, .int (s_hiU F (k + 1))), (8, .int (s_sumU F (k + 1))), (17, .int (nI g)), (16, .int (nI r)), (15, .int (nI k)), (12, .ref q), (6, .long (s_dig n F ct)), (5, .int (nI n)), (4, .int v), (3, .int (nI t)), (2, .ref h), (1, .ref mb), (0, .ref b)]) hx hb dL_law_511 hl (k := 1) rfl (nI_add o 1) (by decide) rfl (fun ls hl => ?_)
                                                refine lv_goto (tgt := 333) hx hb dL_law_514 (by decide) ?_
                                                exact ih_333 (o + 1) (by omega) _ _ hP hD hS ls (lv_sub hl [0, 2, 3, 4, 5, 6, 7, 8, 9, 10, 11, 12, 13, 14, 15, 16, 17, 18] rfl)
                                              · refine lv_iload hx hb dL_law_478 (lv_at hl 9 rfl) ?_
                                                refine lv_aload_n hx hb dL_law_480 rfl (lv_at hl 17 rfl) ?_
                                                refine lv_iload hx hb dL_law_481 (lv_at hl 1 rfl) ?_
                                                refine lv_iconst (v := 0) hx hb dL_law_483 (by decide) ?_
                                                refine vp_callSi (W.runV (As := [.int (nI o), .int 0]) (rest := [.int (nI r)]) ⟨hx, hb, hml, hown, hts⟩ (c_X1_toldK l dC dI cI mb r1 d1 r2 d2 rc n F n2 G ct ch o (show o < n by omega) 0 (show 0 < 9 by decide) hn) (cwV 2 hts gL_law_X1_told rfl rfl rfl (by decide +kernel) ⟨Nat.le_of_ble_eq_true rfl, Nat.le_of_ble_eq_true rfl⟩) ⟨PR.blind, va_recv (hK.sub (tys' := [(cI, .int)]) [0] rfl) hPB (ci := 1) (q0 := 0) rfl rfl, fun U hU hW => ⟨rfl, PR.go hPB (hK.sub (tys' := [(cI, .int)]) [0] rfl) hE hS hU hW⟩⟩ rfl rfl hl.1 rfl (lv_room (Nat.le_of_ble_eq_true rfl)) dL_law_484 ⟨(by show _ ≤ 600104; omega), (by show _ ≤ 7301314; omega)⟩) (fun r hr0 => ?_)
                                                subst hr0
                                                refine rv_top (y := F 1 o) rfl ?_
                                                refine lv_icmp_lt (tgt := 509) hx hb dL_law_487 (by decide) (fun c_487 => ?_) (fun c_487 => ?_)
                                                · exact absurd (show F 1 k < F 1 o from by rw [e1]; exact c_487) (ahead_rat hah c_475)
                                                · refine lv_iload hx hb dL_law_490 (lv_at hl 9 rfl) ?_
                                                  refine lv_aload_n hx hb dL_law_492 rfl (lv_at hl 17 rfl) ?_
                                                  refine lv_iload hx hb dL_law_493 (lv_at hl 1 rfl) ?_
                                                  refine lv_iconst (v := 0) hx hb dL_law_495 (by decide) ?_
                                                  refine vp_callSi (W.runV (As := [.int (nI o), .int 0]) (rest := [.int (nI r)]) ⟨hx, hb, hml, hown, hts⟩ (c_X1_toldK l dC dI cI mb r1 d1 r2 d2 rc n F n2 G ct ch o (show o < n by omega) 0 (show 0 < 9 by decide) hn) (cwV 2 hts gL_law_X1_told rfl rfl rfl (by decide +kernel) ⟨Nat.le_of_ble_eq_true rfl, Nat.le_of_ble_eq_true rfl⟩) ⟨PR.blind, va_recv (hK.sub (tys' := [(cI, .int)]) [0] rfl) hPB (ci := 1) (q0 := 0) rfl rfl, fun U hU hW => ⟨rfl, PR.go hPB (hK.sub (tys' := [(cI, .int)]) [0] rfl) hE hS hU hW⟩⟩ rfl rfl hl.1 rfl (lv_room (Nat.le_of_ble_eq_true rfl)) dL_law_496 ⟨(by show _ ≤ 600104; omega), (by show _ ≤ 7301314; omega)⟩) (fun r hr0 => ?_)
                                                  subst hr0
                                                  refine rv_top (y := F 1 o) rfl ?_
                                                  refine lv_icmp_ne (tgt := 511) hx hb dL_law_499 (by decide) (fun c_499 => ?_) (fun c_499 => ?_)
                                                  · refine lv_iinc (v := nI (o + 1)) (lv' := [(18, .int (nI (o + 1))), (19, .int 1), (10, .int (nI (smN F 4 (k + 1)))), (9, .int (nI (smN F 3 (k + 1)))), (11, .int (nI (smN F 2 (k + 1)))), (14, .int (s_loU F 9999 (k + 1))), (13, .int (s_hiU F (k + 1))), (8, .int (s_sumU F (k + 1))), (17, .int (nI g)), (16, .int (nI r)), (15, .int (nI k)), (12, .ref q), (6, .long (s_dig n F ct)), (5, .int (nI n)), (4, .int v), (3, .int (nI t)), (2, .ref h), (1, .ref mb), (0, .ref b)]) hx hb dL_law_511 hl (k := 1) rfl (nI_add o 1) (by decide) rfl (fun ls hl => ?_)
                                                    refine lv_goto (tgt := 333) hx hb dL_law_514 (by decide) ?_
                                                    exact ih_333 (o + 1) (by omega) _ _ hP hD hS ls (lv_sub hl [0, 2, 3, 4, 5, 6, 7, 8, 9, 10, 11, 12, 13, 14, 15, 16, 17, 18] rfl)
                                                  · refine lv_iload hx hb dL_law_502 (lv_at hl 10 rfl) ?_
                                                    refine lv_iload hx hb dL_law_504 (lv_at hl 1 rfl) ?_
                                                    refine lv_icmp_le (tgt := 511) hx hb dL_law_506 (by decide) (fun c_506 => ?_) (fun c_506 => ?_)
                                                    · refine lv_iinc (v := nI (o + 1)) (lv' := [(18, .int (nI (o + 1))), (19, .int 1), (10, .int (nI (smN F 4 (k + 1)))), (9, .int (nI (smN F 3 (k + 1)))), (11, .int (nI (smN F 2 (k + 1)))), (14, .int (s_loU F 9999 (k + 1))), (13, .int (s_hiU F (k + 1))), (8, .int (s_sumU F (k + 1))), (17, .int (nI g)), (16, .int (nI r)), (15, .int (nI k)), (12, .ref q), (6, .long (s_dig n F ct)), (5, .int (nI n)), (4, .int v), (3, .int (nI t)), (2, .ref h), (1, .ref mb), (0, .ref b)]) hx hb dL_law_511 hl (k := 1) rfl (nI_add o 1) (by decide) rfl (fun ls hl => ?_)
                                                      refine lv_goto (tgt := 333) hx hb dL_law_514 (by decide) ?_
                                                      exact ih_333 (o + 1) (by omega) _ _ hP hD hS ls (lv_sub hl [0, 2, 3, 4, 5, 6, 7, 8, 9, 10, 11, 12, 13, 14, 15, 16, 17, 18] rfl)
                                                    · exact absurd (nI_le (Nat.le_of_lt (ahead_num hah c_475 (e1.trans c_499))) (by omega)) c_506
                                      · refine lv_goto (tgt := 511) hx hb dL_law_410 (by decide) ?_
                                        refine lv_iinc (v := nI (o + 1)) (lv' := [(18, .int (nI (o + 1))), (10, .int (nI (smN F 4 (k + 1)))), (9, .int (nI (smN F 3 (k + 1)))), (11, .int (nI (smN F 2 (k + 1)))), (14, .int (s_loU F 9999 (k + 1))), (13, .int (s_hiU F (k + 1))), (8, .int (s_sumU F (k + 1))), (17, .int (nI g)), (16, .int (nI r)), (15, .int (nI k)), (12, .ref q), (6, .long (s_dig n F ct)), (5, .int (nI n)), (4, .int v), (3, .int (nI t)), (2, .ref h), (1, .ref mb), (0, .ref b)]) hx hb dL_law_511 hl (k := 0) rfl (nI_add o 1) (by decide) rfl (fun ls hl => ?_)
                                        refine lv_goto (tgt := 333) hx hb dL_law_514 (by decide) ?_
                                        exact ih_333 (o + 1) (by omega) _ _ hP hD hS ls (lv_sub hl [0, 1, 2, 3, 4, 5, 6, 7, 8, 9, 10, 11, 12, 13, 14, 15, 16, 17] rfl)
                                  · exact absurd (show F 1 o < nI r from by rw [← e1]; exact exp_high hR (show k < n by omega) (show o < n by omega) c_374) c_386
                        exact L_333 n 0 (by omega) _ _ hP hD hS ls (lv_sub hl [0, 1, 2, 3, 4, 5, 6, 7, 8, 9, 10, 11, 12, 13, 14, 15, 16, 17] rfl)
                      · exact absurd c_325 (by decide)
  exact L_104 n 0 (fun _ => 0) (by omega) (PLI.zero n F) _ _ hP hD hS ls (lv_sub hl [0, 1, 2, 3, 4, 5, 6, 7, 8, 9, 10, 11, 12, 13, 14] rfl)
