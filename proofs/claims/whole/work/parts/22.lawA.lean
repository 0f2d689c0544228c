/-! The law: its world, its rows, a case at a time -/
abbrev wL (h r1 : Nat) (d1 : Nat → Nat) (r2 : Nat) (d2 : Nat → Nat) (rc ao hm q1 : Nat) (e1 : Nat → Nat) (q2 : Nat) (e2 : Nat → Nat) (cI cL : ClassId) (n : Nat) (F : Nat → Nat → Int32) (n2 : Nat) (G : Nat → Nat → Int32) (ct ch : Nat → Int32) (O : Nat → Int64) (th : Int32) (n3 : Nat) (G3 : Nat → Nat → Int32) (c3 : Nat → Int32) : va_W := (wB h r1 d1 r2 d2 rc cI n F n2 G ct ch ++ [(ao, .inl (cL, 1, .inr (.inl O)))]) ++ wM hm q1 e1 q2 e2 cI th n F ct n3 G3 c3
/-- what stands through the whole run -/
def LC (p : Program) (l : Launch) (s : State) (m : MethodId) (meth : Method) (c : Code) (b L : Nat) (xs : Nat → Int32) (dC : Nat → ClassId) (dI : Nat → Nat → Nat) (A : Nat → Prop) (cI cL : ClassId) : Prop :=
  p.tables.exec = Jvm.exec ∧ c.code = cL_law ∧ meth.sig.returnType = ret ∧ c.maxLocals = 9 ∧ s.vm.findClass RL = some m.cls ∧ (∀ w ∈ wsL_law, w.before #[Value.ref b] s = true) ∧ va_X b L xs s s.heap ∧ b < s.heap.size ∧ meth.locks = false ∧ l.stackTraces = false ∧ va_K (dC, dI) vwCl [(cI, .int), (cL, .long)] s ∧ En A s s.heap ∧ va_Nc "java/lang/IllegalStateException" "java/lang/IllegalArgumentException" s ∧ va_Nc "java/lang/IllegalArgumentException" "java/lang/IndexOutOfBoundsException" s ∧ ¬ A b ∧ (∀ q, s.heap.size ≤ q → A q) ∧ L ≤ 2560
/-- the two systems in one state, at a point of the run with j calls made -/
def LI (s : State) (dC : Nat → ClassId) (dI : Nat → Nat → Nat) (A : Nat → Prop) (h r1 : Nat) (d1 : Nat → Nat) (r2 : Nat) (d2 : Nat → Nat) (rc ao hm q1 : Nat) (e1 : Nat → Nat) (q2 : Nat) (e2 : Nat → Nat) (cI cL : ClassId) (j : Nat) (n : Nat) (F : Nat → Nat → Int32) (n2 : Nat) (G : Nat → Nat → Int32) (ct ch : Nat → Int32) (O : Nat → Int64) (th : Int32) (n3 : Nat) (G3 : Nat → Nat → Int32) (c3 : Nat → Int32) (H : Heap) (locs : List Loc) : Prop :=
  va_P (dC, dI) vwCl (wL h r1 d1 r2 d2 rc ao hm q1 e1 q2 e2 cI cL n F n2 G ct ch O th n3 G3 c3) H ∧ va_D A (wL h r1 d1 r2 d2 rc ao hm q1 e1 q2 e2 cI cL n F n2 G ct ch O th n3 G3 c3) ∧ va_S A s.heap H locs ∧ n ≤ 12 ∧ okR n F ∧ okK 12 F j
/-- what comes behind a case -/
def KK (p : Program) (l : Launch) (e : Env) (s : State) (m : MethodId) (below : List Frame) (meth : Method) (c : Code) (b : Nat) (dC : Nat → ClassId) (dI : Nat → Nat → Nat) (A : Nat → Prop) (h r1 : Nat) (d1 : Nat → Nat) (r2 : Nat) (d2 : Nat → Nat) (rc ao hm q1 : Nat) (e1 : Nat → Nat) (q2 : Nat) (e2 : Nat → Nat) (cI cL : ClassId) (Q : State → Prop) (j : Nat) : Prop :=
  ∀ (n : Nat) (F : Nat → Nat → Int32) (n2 : Nat) (G : Nat → Nat → Int32) (ct ch : Nat → Int32) (O : Nat → Int64) (th : Int32) (n3 : Nat) (G3 : Nat → Nat → Int32) (c3 : Nat → Int32) (H : Heap) (locs : List Loc) (ls : Array Slot), LI s dC dI A h r1 d1 r2 d2 rc ao hm q1 e1 q2 e2 cI cL (j + 1) n F n2 G ct ch O th n3 G3 c3 H locs → lv_has ls 9 [(0, .ref b), (1, .ref h), (2, .ref hm), (3, .ref ao), (4, .int (nI (5 * j)))] → W p l e room_1 s m #[Value.ref b] below meth c H locs (40 + 8 * (j + 1)) (500 + 40 * (j + 1)) Q (F0 m 941 ls [])
theorem mo_z {α : Type} {k : Nat} {x y : α} (h : k = 0) : mo k x y = x := if_pos h
theorem mo_n {α : Type} {k : Nat} {x y : α} (h : ¬ k = 0) : mo k x y = y := if_neg h
theorem mo_O {k : Nat} {O : Nat → Int64} {a b : Int32} (h : a = b) : k = 0 → (mo k (vp_updL O 0 a.toInt64) O) 0 = (mo k b 0).toInt64 := fun hk => by rw [mo_z hk, mo_z hk, pk_uLs, h]
theorem mo_same {α : Type} (k : Nat) (x : α) : mo k x x = x := ite_self x
section LAWROWS
variable {p : Program} {l : Launch} {e : Env} {R : Room} {s : State} {m : MethodId} {args : Array Value} {below : List Frame} {meth : Method} {c : Code} {H : Heap} {locs : List Loc} {cells slots : Nat} {Q : State → Prop}
variable {cc : ByteArray} {pc : Nat} {ls : Array Slot} {rest : List Value} {A : Nat → Prop}
/-- an argument out of the script: xs (5 j + k) -/
theorem rv_arg (hx : p.tables.exec = Jvm.exec) (hb : c.code = cc) {b L j k : Nat} {xs : Nat → Int32} (hX : va_X b L xs s s.heap) (hbl : b < s.heap.size) (hbA : ¬ A b) (hS : va_S A s.heap H locs) {v1 v2 v3 : Value} {tl : List (Nat × Value)} (hl : lv_has ls 9 ((0, .ref b) :: (1, v1) :: (2, v2) :: (3, v3) :: (4, .int (nI (5 * j))) :: tl)) (hk : 5 * j + k < L) (hL : L ≤ 2560) {v : Int32} (hv : xs (5 * j + k) = v) {kz : Int}
    (g0 : decode cc pc = .ok (.aload_n 0, 1)) (g1 : decode cc (pc + 1) = .ok (.iload 4, 2)) (g3 : decode cc (pc + 3) = .ok (.iconst kz, 1)) (hkz : Int32.ofInt kz = nI k) (g4 : decode cc (pc + 4) = .ok (.iadd, 1)) (g5 : decode cc (pc + 5) = .ok (.iaload, 1))
    (kk : W p l e R s m args below meth c H locs cells slots Q (F0 m (pc + 6) ls (.int v :: rest))) : W p l e R s m args below meth c H locs cells slots Q (F0 m pc ls rest) := by
  refine lv_aload_n hx hb g0 rfl (lv_at hl 0 rfl) ?_
  refine lv_iload hx hb g1 (lv_at hl 4 rfl) ?_
  refine lv_iconst (v := nI k) hx hb g3 hkz ?_
  refine lv_iadd hx hb g4 ?_
  refine rv_top (nI_add (5 * j) k) ?_
  refine va_sld hx hb hX hbl hbA hS (vp_in_nI hk (by omega)) g5 ?_
  rw [nI_clamp (by omega), hv]
  exact kk
theorem rv_lcmp0 (hx : p.tables.exec = Jvm.exec) (hb : c.code = cc) {x y : Int64} (he : x = y) (hdg : decode cc pc = .ok (.lcmp, 1))
    (k : W p l e R s m args below meth c H locs cells slots Q (F0 m (pc + 1) ls (.int 0 :: rest))) : W p l e R s m args below meth c H locs cells slots Q (F0 m pc ls (.long y :: .long x :: rest)) := by
  subst he
  intro T hT X
  obtain ⟨t, a, b⟩ := k T hT X
  refine ⟨t, ?_, b⟩
  have h1 : ¬ (x > x) := by intro q; exact absurd q (Int64.lt_irrefl)
  jvm_step X.here [X.here.top, hx, hb, hdg, h1]
  exact a
/-- behind the two calls of a case: what was thrown, and what was answered -/
theorem rv_tail (hx : p.tables.exec = Jvm.exec) (hb : c.code = cc) {D : va_G} {cl : List vw_C} {tys : List (ClassId × FieldType)} {ws : va_W} (hK : va_K D cl tys s) (hP : va_P D cl ws H) (q0 t0 : Nat) {cL : ClassId} {ao : Nat} {O : Nat → Int64} (ha : ws[q0]? = some (ao, .inl (cL, 1, .inr (.inl O)))) (ht : tys[t0]? = some (cL, .long)) {k : Nat} {r : Int32} (hk : k ≤ 2) (hO : k = 0 → O 0 = r.toInt64) {v0 v1 v2 v4 : Value} (hl : lv_has ls 9 [(0, v0), (1, v1), (2, v2), (3, .ref ao), (4, v4), (5, .int (nI k)), (6, .int r)])
    (g0 : decode cc pc = .ok (.iload 5, 2)) (g2 : decode cc (pc + 2) = .ok (.if_icmp .eq 5, 3)) (g7 : decode cc (pc + 7) = .ok (.iload 5, 2)) (g9 : decode cc (pc + 9) = .ok (.ifCond .ne 15, 3)) (g12 : decode cc (pc + 12) = .ok (.aload_n 3, 1)) (g13 : decode cc (pc + 13) = .ok (.iconst 0, 1)) (g14 : decode cc (pc + 14) = .ok (.laload, 1)) (g15 : decode cc (pc + 15) = .ok (.iload 6, 2)) (g17 : decode cc (pc + 17) = .ok (.i2l, 1)) (g18 : decode cc (pc + 18) = .ok (.lcmp, 1)) (g19 : decode cc (pc + 19) = .ok (.ifCond .eq 5, 3)) {off : Int} (g24 : decode cc (pc + 24) = .ok (.goto off, 3)) (hoff : ((pc + 24 : Nat) : Int) + off = ((941 : Nat) : Int))
    (kk : W p l e R s m args below meth c H locs cells slots Q (F0 m 941 ls rest)) : W p l e R s m args below meth c H locs cells slots Q (F0 m pc ls (.int (nI k) :: rest)) := by
  refine lv_iload hx hb g0 (lv_at hl 5 rfl) ?_
  refine lv_icmp_eq (tgt := pc + 7) hx hb g2 (by push_cast; omega) (fun _ => ?_) (fun q => absurd rfl q)
  refine lv_iload hx hb g7 (lv_at hl 5 rfl) ?_
  refine lv_if_ne (tgt := pc + 24) hx hb g9 (by push_cast; omega) (fun _ => ?_) (fun q => ?_)
  · exact lv_goto (tgt := 941) hx hb g24 hoff kk
  · have hk0 : k = 0 := (nI_eq (by omega) (by decide)).mp (q.trans nI_0.symm)
    refine lv_aload_n hx hb g12 rfl (lv_at hl 3 rfl) ?_
    refine lv_iconst (v := 0) hx hb g13 (by decide) ?_
    refine va_lald hx hb hK hP q0 t0 ha ht (vp_in_nI (n := 0) (N := 1) (by decide) (by decide)) g14 ?_
    refine lv_iload hx hb g15 (lv_at hl 6 rfl) ?_
    refine lv_i2l hx hb g17 rfl ?_
    refine rv_lcmp0 hx hb (hO hk0) g18 ?_
    exact lv_if_eq (tgt := pc + 24) hx hb g19 (by push_cast; omega) (fun _ => lv_goto (tgt := 941) hx hb g24 hoff kk) (fun q => absurd rfl q)
end LAWROWS
set_option maxHeartbeats 4000000 in
set_option maxRecDepth 100000 in
theorem law_join {p : Program} {l : Launch} {e : Env} {s : State} {m : MethodId} {below : List Frame} {meth : Method} {c : Code} {b L : Nat} {xs : Nat → Int32} {dC : Nat → ClassId} {dI : Nat → Nat → Nat} {A : Nat → Prop} {h r1 : Nat} {d1 : Nat → Nat} {r2 : Nat} {d2 : Nat → Nat} {rc ao hm q1 : Nat} {e1 : Nat → Nat} {q2 : Nat} {e2 : Nat → Nat} {cI cL : ClassId} {Q : State → Prop} (C : LC p l s m meth c b L xs dC dI A cI cL) {j : Nat} (hj : 5 * j + 5 ≤ L) {n : Nat} {F : Nat → Nat → Int32} {n2 : Nat} {G : Nat → Nat → Int32} {ct ch : Nat → Int32} {O : Nat → Int64} {th : Int32} {n3 : Nat} {G3 : Nat → Nat → Int32} {c3 : Nat → Int32} {H : Heap} {locs : List Loc} (I : LI s dC dI A h r1 d1 r2 d2 rc ao hm q1 e1 q2 e2 cI cL j n F n2 G ct ch O th n3 G3 c3 H locs) {ls : Array Slot} (hl : lv_has ls 9 [(0, .ref b), (1, .ref h), (2, .ref hm), (3, .ref ao), (4, .int (nI (5 * j)))]) (K : KK p l e s m below meth c b dC dI A h r1 d1 r2 d2 rc ao hm q1 e1 q2 e2 cI cL Q j) : W p l e room_1 s m #[Value.ref b] below meth c H locs (40 + 8 * j) (500 + 40 * j) Q (F0 m 112 ls []) := by
  obtain ⟨hx, hb, hr, hml, hown, hts, hX, hbl, hlocks, hl0, hK, hE, hn1, hn2, hbA, hA, hL⟩ := C
  obtain ⟨hP, hD, hS, hn, hR, hK0⟩ := I
  have hKi := hK.sub (tys' := [(cI, .int)]) [0] rfl
  obtain ⟨vg, ev1⟩ : ∃ v : Int32, xs (5 * j + 1) = v := ⟨_, rfl⟩
  refine lv_aload_n hx hb dL_law_112 rfl (lv_at hl 1 rfl) ?_
  refine rv_arg hx hb hX hbl hbA hS hl (k := 1) (by omega) hL ev1 dL_law_113 dL_law_114 dL_law_116 (by decide) dL_law_117 dL_law_118 ?_
  refine lv_aload_n hx hb dL_law_119 rfl (lv_at hl 3 rfl) ?_
  have hPc := hP.sub (ws' := (wB h r1 d1 r2 d2 rc cI n F n2 G ct ch ++ [(ao, .inl (cL, 1, .inr (.inl O)))])) [0, 1, 2, 3, 4, 5, 6, 7, 8, 9, 10, 11, 12, 13, 14, 15, 16, 17, 18] rfl
  have hDc := hD.sub (ws' := (wB h r1 d1 r2 d2 rc cI n F n2 G ct ch ++ [(ao, .inl (cL, 1, .inr (.inl O)))])) [0, 1, 2, 3, 4, 5, 6, 7, 8, 9, 10, 11, 12, 13, 14, 15, 16, 17, 18] (by decide) rfl
  have hFc := va_free (wc := (wB h r1 d1 r2 d2 rc cI n F n2 G ct ch ++ [(ao, .inl (cL, 1, .inr (.inl O)))])) hD hS hA [0, 1, 2, 3, 4, 5, 6, 7, 8, 9, 10, 11, 12, 13, 14, 15, 16, 17, 18] rfl
  refine va_calli (vx_runSW (As := [.ref h, .int vg, .ref ao]) (rest := []) ⟨hx, hb, hml, hown, hts⟩ (c_L_join l hl0 dC dI cI cL h r1 d1 r2 d2 rc n F n2 G ct ch ao O H.size vg hn) (vx_cwSW 3 hts gL_law_L_join rfl rfl rfl (by decide +kernel) ⟨Nat.le_of_ble_eq_true rfl, Nat.le_of_ble_eq_true rfl⟩) ⟨PL.blind, fun U hU hW => ⟨rfl, PL.go hPc hK hDc hE hn1 hn2 hS hFc hU hW⟩⟩ rfl rfl hl.1 rfl (lv_room (Nat.le_of_ble_eq_true rfl)) dL_law_120 ⟨(show 40 + 8 * j + 1 ≤ 601024 by omega), (show 500 + 40 * j + 6 ≤ 7293034 by omega)⟩) hS (fun q _ h9 => hFc q h9) hFc (fun r9 u9 t9 H1 locs ht9 hvm9 hw9 hB9 hz9 hk9 hS => ?_)
  have hw9 : r9 = nI (x_join n vg) := hw9
  subst hw9
  obtain ⟨hP9, hD9⟩ := hB9
  rw [ht9] at hP9
  obtain ⟨hP, hD⟩ := va_join (wr := wM hm q1 e1 q2 e2 cI th n F ct n3 G3 c3) (w1 := (wB h r1 d1 r2 d2 rc cI (mo (x_join n vg) (n + 1) n) (mo (x_join n vg) (s_add F n vg) F) n2 G ct ch ++ [(ao, .inl (cL, 1, .inr (.inl (mo (x_join n vg) (vp_updL O 0 (nI n).toInt64) O))))])) hP hD [0, 1, 2, 3, 4, 5, 6, 7, 8, 9, 10, 11, 12, 13, 14, 15, 16, 17, 18] [19, 20, 21, 22, 23, 24, 25, 26, 27, 28, 29, 30, 31, 32, 33, 34, 35] rfl rfl (by decide) (by decide) hk9 hFc hP9 hD9
  have hP := hP.sub (ws' := (wB h r1 d1 r2 d2 rc cI (mo (x_join n vg) (n + 1) n) (mo (x_join n vg) (s_add F n vg) F) n2 G ct ch ++ [(ao, .inl (cL, 1, .inr (.inl (mo (x_join n vg) (vp_updL O 0 (nI n).toInt64) O))))]) ++ wM hm q1 e1 q2 e2 cI th n F ct n3 G3 c3) [17, 18, 19, 20, 21, 22, 23, 24, 25, 26, 27, 28, 29, 30, 31, 32, 33, 34, 35, 0, 1, 2, 3, 4, 5, 6, 7, 8, 9, 10, 11, 12, 13, 14, 15, 16] rfl
  have hD := hD.sub (ws' := (wB h r1 d1 r2 d2 rc cI (mo (x_join n vg) (n + 1) n) (mo (x_join n vg) (s_add F n vg) F) n2 G ct ch ++ [(ao, .inl (cL, 1, .inr (.inl (mo (x_join n vg) (vp_updL O 0 (nI n).toInt64) O))))]) ++ wM hm q1 e1 q2 e2 cI th n F ct n3 G3 c3) [17, 18, 19, 20, 21, 22, 23, 24, 25, 26, 27, 28, 29, 30, 31, 32, 33, 34, 35, 0, 1, 2, 3, 4, 5, 6, 7, 8, 9, 10, 11, 12, 13, 14, 15, 16] (by decide) rfl
  refine lv_istore (lv' := [(5, .int (nI (x_join n vg))), (0, .ref b), (1, .ref h), (2, .ref hm), (3, .ref ao), (4, .int (nI (5 * j)))]) hx hb dL_law_123 hl (by decide) rfl (fun ls hl => ?_)
  have hl : lv_has ls 9 [(0, .ref b), (1, .ref h), (2, .ref hm), (3, .ref ao), (4, .int (nI (5 * j))), (5, .int (nI (x_join n vg)))] := lv_sub hl [1, 2, 3, 4, 5, 0] rfl
  refine lv_aload_n hx hb dL_law_125 rfl (lv_at hl 2 rfl) ?_
  refine rv_arg hx hb hX hbl hbA hS hl (k := 1) (by omega) hL ev1 dL_law_126 dL_law_127 dL_law_129 (by decide) dL_law_130 dL_law_131 ?_
  have hPc := hP.sub (ws' := wM hm q1 e1 q2 e2 cI th n F ct n3 G3 c3) [19, 20, 21, 22, 23, 24, 25, 26, 27, 28, 29, 30, 31, 32, 33, 34, 35] rfl
  have hDc := hD.sub (ws' := wM hm q1 e1 q2 e2 cI th n F ct n3 G3 c3) [19, 20, 21, 22, 23, 24, 25, 26, 27, 28, 29, 30, 31, 32, 33, 34, 35] (by decide) rfl
  have hFc := va_free (wc := wM hm q1 e1 q2 e2 cI th n F ct n3 G3 c3) hD hS hA [19, 20, 21, 22, 23, 24, 25, 26, 27, 28, 29, 30, 31, 32, 33, 34, 35] rfl
  refine va_calli (va_runV (As := [.int vg]) (rest := []) ⟨hx, hb, hml, hown, hts⟩ (c_X3_join l dC dI cI hm q1 e1 q2 e2 th n F ct n3 G3 c3 H1.size vg hn) (cwV 1 hts gL_law_X3_join rfl rfl rfl (by decide +kernel) ⟨Nat.le_of_ble_eq_true rfl, Nat.le_of_ble_eq_true rfl⟩) ⟨PW.blind, va_recv hKi hPc (ci := 3) (q0 := 0) rfl rfl, fun U hU hW => ⟨rfl, PW.go hPc hKi hDc hE hS hFc hU hW⟩⟩ rfl rfl hl.1 rfl (lv_room (Nat.le_of_ble_eq_true rfl)) dL_law_132 ⟨(show 40 + 8 * j + 1 ≤ 601024 by omega), (show 500 + 40 * j + 6 ≤ 7293034 by omega)⟩) hS (fun q _ h9 => hFc q h9) hFc (fun r8 u9 t9 H2 locs ht9 hvm9 hw9 hB9 hz9 hk9 hS => ?_)
  have hw9 : r8 = mo (x_join n vg) (nI n) 0 := hw9
  obtain ⟨hP9, hD9⟩ := hB9
  rw [ht9] at hP9
  have hP9 : va_P (dC, dI) vwCl (wM hm q1 e1 q2 e2 cI (nI (x_join n vg)) (mo (x_join n vg) (n + 1) n) (mo (x_join n vg) (s_add F n vg) F) ct n3 G3 c3) H2 := hP9
  obtain ⟨hP, hD⟩ := va_join (wr := (wB h r1 d1 r2 d2 rc cI (mo (x_join n vg) (n + 1) n) (mo (x_join n vg) (s_add F n vg) F) n2 G ct ch ++ [(ao, .inl (cL, 1, .inr (.inl (mo (x_join n vg) (vp_updL O 0 (nI n).toInt64) O))))])) (w1 := wM hm q1 e1 q2 e2 cI (nI (x_join n vg)) (mo (x_join n vg) (n + 1) n) (mo (x_join n vg) (s_add F n vg) F) ct n3 G3 c3) hP hD [19, 20, 21, 22, 23, 24, 25, 26, 27, 28, 29, 30, 31, 32, 33, 34, 35] [0, 1, 2, 3, 4, 5, 6, 7, 8, 9, 10, 11, 12, 13, 14, 15, 16, 17, 18] rfl rfl (by decide) (by decide) hk9 hFc hP9 hD9
  refine lv_istore (lv' := [(6, .int r8), (0, .ref b), (1, .ref h), (2, .ref hm), (3, .ref ao), (4, .int (nI (5 * j))), (5, .int (nI (x_join n vg)))]) hx hb dL_law_135 hl (by decide) rfl (fun ls hl => ?_)
  have hl : lv_has ls 9 [(0, .ref b), (1, .ref h), (2, .ref hm), (3, .ref ao), (4, .int (nI (5 * j))), (5, .int (nI (x_join n vg))), (6, .int r8)] := lv_sub hl [1, 2, 3, 4, 5, 6, 0] rfl
  refine lv_aload_n hx hb dL_law_137 rfl (lv_at hl 2 rfl) ?_
  have hPc := hP.sub (ws' := wM hm q1 e1 q2 e2 cI (nI (x_join n vg)) (mo (x_join n vg) (n + 1) n) (mo (x_join n vg) (s_add F n vg) F) ct n3 G3 c3) [19, 20, 21, 22, 23, 24, 25, 26, 27, 28, 29, 30, 31, 32, 33, 34, 35] rfl
  refine vp_callSi (W.runV (As := []) (rest := []) ⟨hx, hb, hml, hown, hts⟩ (c_X3_thrown l dC dI cI hm q1 e1 q2 e2 (nI (x_join n vg)) (mo (x_join n vg) (n + 1) n) (mo (x_join n vg) (s_add F n vg) F) ct n3 G3 c3) (cwV 0 hts gL_law_X3_thrown rfl rfl rfl (by decide +kernel) ⟨Nat.le_of_ble_eq_true rfl, Nat.le_of_ble_eq_true rfl⟩) ⟨PR.blind, va_recv hKi hPc (ci := 3) (q0 := 0) rfl rfl, fun U hU hW => ⟨rfl, PR.go hPc hKi hE hS hU hW⟩⟩ rfl rfl hl.1 rfl (lv_room (Nat.le_of_ble_eq_true rfl)) dL_law_138 ⟨(show 40 + 8 * j + 1 ≤ 601024 by omega), (show 500 + 40 * j + 6 ≤ 7293034 by omega)⟩) (fun r7 hr7 => ?_)
  subst hr7
  subst hw9
  have hk2 : x_join n vg ≤ 2 := by unfold x_join; (repeat' split) <;> decide
  refine rv_tail hx hb hK hP 18 1 rfl rfl hk2 (mo_O (rfl)) hl dL_law_141 dL_law_143 dL_law_148 dL_law_150 dL_law_153 dL_law_154 dL_law_155 dL_law_156 dL_law_158 dL_law_159 dL_law_160 dL_law_165 (by decide) ?_
  have hfin : (mo (x_join n vg) (n + 1) n) ≤ 12 ∧ okR (mo (x_join n vg) (n + 1) n) (mo (x_join n vg) (s_add F n vg) F) ∧ okK 12 (mo (x_join n vg) (s_add F n vg) F) (j + 1) := by
    by_cases hc : x_join n vg = 0
    · (try simp only [mo_z hc]); exact ⟨join_ok hc, okR_add _ hR, (okK_add _ hK0).mono (Nat.le_succ j)⟩
    · (try simp only [mo_n hc]); exact ⟨hn, hR, hK0.mono (Nat.le_succ j)⟩
  refine W.widen (k := 40 + 8 * (j + 1)) (n := 500 + 40 * (j + 1)) (by omega) (by omega) ?_
  exact K _ _ _ _ _ _ _ _ _ _ _ _ _ ls ⟨hP, hD, hS, hfin.1, hfin.2.1, hfin.2.2⟩ (lv_sub hl [0, 1, 2, 3, 4] rfl)

set_option maxHeartbeats 4000000 in
set_option maxRecDepth 100000 in
theorem law_rate {p : Program} {l : Launch} {e : Env} {s : State} {m : MethodId} {below : List Frame} {meth : Method} {c : Code} {b L : Nat} {xs : Nat → Int32} {dC : Nat → ClassId} {dI : Nat → Nat → Nat} {A : Nat → Prop} {h r1 : Nat} {d1 : Nat → Nat} {r2 : Nat} {d2 : Nat → Nat} {rc ao hm q1 : Nat} {e1 : Nat → Nat} {q2 : Nat} {e2 : Nat → Nat} {cI cL : ClassId} {Q : State → Prop} (C : LC p l s m meth c b L xs dC dI A cI cL) {j : Nat} (hj : 5 * j + 5 ≤ L) {n : Nat} {F : Nat → Nat → Int32} {n2 : Nat} {G : Nat → Nat → Int32} {ct ch : Nat → Int32} {O : Nat → Int64} {th : Int32} {n3 : Nat} {G3 : Nat → Nat → Int32} {c3 : Nat → Int32} {H : Heap} {locs : List Loc} (I : LI s dC dI A h r1 d1 r2 d2 rc ao hm q1 e1 q2 e2 cI cL j n F n2 G ct ch O th n3 G3 c3 H locs) {ls : Array Slot} (hl : lv_has ls 9 [(0, .ref b), (1, .ref h), (2, .ref hm), (3, .ref ao), (4, .int (nI (5 * j)))]) (K : KK p l e s m below meth c b dC dI A h r1 d1 r2 d2 rc ao hm q1 e1 q2 e2 cI cL Q j) : W p l e room_1 s m #[Value.ref b] below meth c H locs (40 + 8 * j) (500 + 40 * j) Q (F0 m 168 ls []) := by
  obtain ⟨hx, hb, hr, hml, hown, hts, hX, hbl, hlocks, hl0, hK, hE, hn1, hn2, hbA, hA, hL⟩ := C
  obtain ⟨hP, hD, hS, hn, hR, hK0⟩ := I
  have hKi := hK.sub (tys' := [(cI, .int)]) [0] rfl
  obtain ⟨va, ev1⟩ : ∃ v : Int32, xs (5 * j + 1) = v := ⟨_, rfl⟩
  obtain ⟨vx, ev2⟩ : ∃ v : Int32, xs (5 * j + 2) = v := ⟨_, rfl⟩
  refine lv_aload_n hx hb dL_law_168 rfl (lv_at hl 1 rfl) ?_
  refine rv_arg hx hb hX hbl hbA hS hl (k := 1) (by omega) hL ev1 dL_law_169 dL_law_170 dL_law_172 (by decide) dL_law_173 dL_law_174 ?_
  refine rv_arg hx hb hX hbl hbA hS hl (k := 2) (by omega) hL ev2 dL_law_175 dL_law_176 dL_law_178 (by decide) dL_law_179 dL_law_180 ?_
  refine lv_aload_n hx hb dL_law_181 rfl (lv_at hl 3 rfl) ?_
  have hPc := hP.sub (ws' := (wB h r1 d1 r2 d2 rc cI n F n2 G ct ch ++ [(ao, .inl (cL, 1, .inr (.inl O)))])) [0, 1, 2, 3, 4, 5, 6, 7, 8, 9, 10, 11, 12, 13, 14, 15, 16, 17, 18] rfl
  have hDc := hD.sub (ws' := (wB h r1 d1 r2 d2 rc cI n F n2 G ct ch ++ [(ao, .inl (cL, 1, .inr (.inl O)))])) [0, 1, 2, 3, 4, 5, 6, 7, 8, 9, 10, 11, 12, 13, 14, 15, 16, 17, 18] (by decide) rfl
  have hFc := va_free (wc := (wB h r1 d1 r2 d2 rc cI n F n2 G ct ch ++ [(ao, .inl (cL, 1, .inr (.inl O)))])) hD hS hA [0, 1, 2, 3, 4, 5, 6, 7, 8, 9, 10, 11, 12, 13, 14, 15, 16, 17, 18] rfl
  refine va_calli (vx_runSW (As := [.ref h, .int va, .int vx, .ref ao]) (rest := []) ⟨hx, hb, hml, hown, hts⟩ (c_L_rate l hl0 dC dI cI cL h r1 d1 r2 d2 rc n F n2 G ct ch ao O H.size va vx hn) (vx_cwSW 4 hts gL_law_L_rate rfl rfl rfl (by decide +kernel) ⟨Nat.le_of_ble_eq_true rfl, Nat.le_of_ble_eq_true rfl⟩) ⟨PL.blind, fun U hU hW => ⟨rfl, PL.go hPc hK hDc hE hn1 hn2 hS hFc hU hW⟩⟩ rfl rfl hl.1 rfl (lv_room (Nat.le_of_ble_eq_true rfl)) dL_law_182 ⟨(show 40 + 8 * j + 2 ≤ 601024 by omega), (show 500 + 40 * j + 12 ≤ 7293034 by omega)⟩) hS (fun q _ h9 => hFc q h9) hFc (fun r9 u9 t9 H1 locs ht9 hvm9 hw9 hB9 hz9 hk9 hS => ?_)
  have hw9 : r9 = nI (x_rate n va vx) := hw9
  subst hw9
  obtain ⟨hP9, hD9⟩ := hB9
  rw [ht9] at hP9
  obtain ⟨hP, hD⟩ := va_join (wr := wM hm q1 e1 q2 e2 cI th n F ct n3 G3 c3) (w1 := (wB h r1 d1 r2 d2 rc cI n (mo (x_rate n va vx) (s_set F (cl va) vx) F) n2 G ct ch ++ [(ao, .inl (cL, 1, .inr (.inl (mo (x_rate n va vx) (vp_updL O 0 (F 1 (cl va)).toInt64) O))))])) hP hD [0, 1, 2, 3, 4, 5, 6, 7, 8, 9, 10, 11, 12, 13, 14, 15, 16, 17, 18] [19, 20, 21, 22, 23, 24, 25, 26, 27, 28, 29, 30, 31, 32, 33, 34, 35] rfl rfl (by decide) (by decide) hk9 hFc hP9 hD9
  have hP := hP.sub (ws' := (wB h r1 d1 r2 d2 rc cI n (mo (x_rate n va vx) (s_set F (cl va) vx) F) n2 G ct ch ++ [(ao, .inl (cL, 1, .inr (.inl (mo (x_rate n va vx) (vp_updL O 0 (F 1 (cl va)).toInt64) O))))]) ++ wM hm q1 e1 q2 e2 cI th n F ct n3 G3 c3) [17, 18, 19, 20, 21, 22, 23, 24, 25, 26, 27, 28, 29, 30, 31, 32, 33, 34, 35, 0, 1, 2, 3, 4, 5, 6, 7, 8, 9, 10, 11, 12, 13, 14, 15, 16] rfl
  have hD := hD.sub (ws' := (wB h r1 d1 r2 d2 rc cI n (mo (x_rate n va vx) (s_set F (cl va) vx) F) n2 G ct ch ++ [(ao, .inl (cL, 1, .inr (.inl (mo (x_rate n va vx) (vp_updL O 0 (F 1 (cl va)).toInt64) O))))]) ++ wM hm q1 e1 q2 e2 cI th n F ct n3 G3 c3) [17, 18, 19, 20, 21, 22, 23, 24, 25, 26, 27, 28, 29, 30, 31, 32, 33, 34, 35, 0, 1, 2, 3, 4, 5, 6, 7, 8, 9, 10, 11, 12, 13, 14, 15, 16] (by decide) rfl
  refine lv_istore (lv' := [(5, .int (nI (x_rate n va vx))), (0, .ref b), (1, .ref h), (2, .ref hm), (3, .ref ao), (4, .int (nI (5 * j)))]) hx hb dL_law_185 hl (by decide) rfl (fun ls hl => ?_)
  have hl : lv_has ls 9 [(0, .ref b), (1, .ref h), (2, .ref hm), (3, .ref ao), (4, .int (nI (5 * j))), (5, .int (nI (x_rate n va vx)))] := lv_sub hl [1, 2, 3, 4, 5, 0] rfl
  refine lv_aload_n hx hb dL_law_187 rfl (lv_at hl 2 rfl) ?_
  refine rv_arg hx hb hX hbl hbA hS hl (k := 1) (by omega) hL ev1 dL_law_188 dL_law_189 dL_law_191 (by decide) dL_law_192 dL_law_193 ?_
  refine rv_arg hx hb hX hbl hbA hS hl (k := 2) (by omega) hL ev2 dL_law_194 dL_law_195 dL_law_197 (by decide) dL_law_198 dL_law_199 ?_
  have hPc := hP.sub (ws' := wM hm q1 e1 q2 e2 cI th n F ct n3 G3 c3) [19, 20, 21, 22, 23, 24, 25, 26, 27, 28, 29, 30, 31, 32, 33, 34, 35] rfl
  have hDc := hD.sub (ws' := wM hm q1 e1 q2 e2 cI th n F ct n3 G3 c3) [19, 20, 21, 22, 23, 24, 25, 26, 27, 28, 29, 30, 31, 32, 33, 34, 35] (by decide) rfl
  have hFc := va_free (wc := wM hm q1 e1 q2 e2 cI th n F ct n3 G3 c3) hD hS hA [19, 20, 21, 22, 23, 24, 25, 26, 27, 28, 29, 30, 31, 32, 33, 34, 35] rfl
  refine va_calli (va_runV (As := [.int va, .int vx]) (rest := []) ⟨hx, hb, hml, hown, hts⟩ (c_X3_rate l dC dI cI hm q1 e1 q2 e2 th n F ct n3 G3 c3 H1.size va vx hn) (cwV 2 hts gL_law_X3_rate rfl rfl rfl (by decide +kernel) ⟨Nat.le_of_ble_eq_true rfl, Nat.le_of_ble_eq_true rfl⟩) ⟨PW.blind, va_recv hKi hPc (ci := 3) (q0 := 0) rfl rfl, fun U hU hW => ⟨rfl, PW.go hPc hKi hDc hE hS hFc hU hW⟩⟩ rfl rfl hl.1 rfl (lv_room (Nat.le_of_ble_eq_true rfl)) dL_law_200 ⟨(show 40 + 8 * j + 2 ≤ 601024 by omega), (show 500 + 40 * j + 12 ≤ 7293034 by omega)⟩) hS (fun q _ h9 => hFc q h9) hFc (fun r8 u9 t9 H2 locs ht9 hvm9 hw9 hB9 hz9 hk9 hS => ?_)
  have hw9 : r8 = mo (x_rate n va vx) (F 1 (cl va)) 0 := hw9
  obtain ⟨hP9, hD9⟩ := hB9
  rw [ht9] at hP9
  have hP9 : va_P (dC, dI) vwCl (wM hm q1 e1 q2 e2 cI (nI (x_rate n va vx)) n (mo (x_rate n va vx) (s_set F (cl va) vx) F) ct n3 G3 c3) H2 := hP9
  obtain ⟨hP, hD⟩ := va_join (wr := (wB h r1 d1 r2 d2 rc cI n (mo (x_rate n va vx) (s_set F (cl va) vx) F) n2 G ct ch ++ [(ao, .inl (cL, 1, .inr (.inl (mo (x_rate n va vx) (vp_updL O 0 (F 1 (cl va)).toInt64) O))))])) (w1 := wM hm q1 e1 q2 e2 cI (nI (x_rate n va vx)) n (mo (x_rate n va vx) (s_set F (cl va) vx) F) ct n3 G3 c3) hP hD [19, 20, 21, 22, 23, 24, 25, 26, 27, 28, 29, 30, 31, 32, 33, 34, 35] [0, 1, 2, 3, 4, 5, 6, 7, 8, 9, 10, 11, 12, 13, 14, 15, 16, 17, 18] rfl rfl (by decide) (by decide) hk9 hFc hP9 hD9
  refine lv_istore (lv' := [(6, .int r8), (0, .ref b), (1, .ref h), (2, .ref hm), (3, .ref ao), (4, .int (nI (5 * j))), (5, .int (nI (x_rate n va vx)))]) hx hb dL_law_203 hl (by decide) rfl (fun ls hl => ?_)
  have hl : lv_has ls 9 [(0, .ref b), (1, .ref h), (2, .ref hm), (3, .ref ao), (4, .int (nI (5 * j))), (5, .int (nI (x_rate n va vx))), (6, .int r8)] := lv_sub hl [1, 2, 3, 4, 5, 6, 0] rfl
  refine lv_aload_n hx hb dL_law_205 rfl (lv_at hl 2 rfl) ?_
  have hPc := hP.sub (ws' := wM hm q1 e1 q2 e2 cI (nI (x_rate n va vx)) n (mo (x_rate n va vx) (s_set F (cl va) vx) F) ct n3 G3 c3) [19, 20, 21, 22, 23, 24, 25, 26, 27, 28, 29, 30, 31, 32, 33, 34, 35] rfl
  refine vp_callSi (W.runV (As := []) (rest := []) ⟨hx, hb, hml, hown, hts⟩ (c_X3_thrown l dC dI cI hm q1 e1 q2 e2 (nI (x_rate n va vx)) n (mo (x_rate n va vx) (s_set F (cl va) vx) F) ct n3 G3 c3) (cwV 0 hts gL_law_X3_thrown rfl rfl rfl (by decide +kernel) ⟨Nat.le_of_ble_eq_true rfl, Nat.le_of_ble_eq_true rfl⟩) ⟨PR.blind, va_recv hKi hPc (ci := 3) (q0 := 0) rfl rfl, fun U hU hW => ⟨rfl, PR.go hPc hKi hE hS hU hW⟩⟩ rfl rfl hl.1 rfl (lv_room (Nat.le_of_ble_eq_true rfl)) dL_law_206 ⟨(show 40 + 8 * j + 2 ≤ 601024 by omega), (show 500 + 40 * j + 12 ≤ 7293034 by omega)⟩) (fun r7 hr7 => ?_)
  subst hr7
  subst hw9
  have hk2 : x_rate n va vx ≤ 2 := by unfold x_rate; (repeat' split) <;> decide
  refine rv_tail hx hb hK hP 18 1 rfl rfl hk2 (mo_O (rfl)) hl dL_law_209 dL_law_211 dL_law_216 dL_law_218 dL_law_221 dL_law_222 dL_law_223 dL_law_224 dL_law_226 dL_law_227 dL_law_228 dL_law_233 (by decide) ?_
  have hfin : n ≤ 12 ∧ okR n (mo (x_rate n va vx) (s_set F (cl va) vx) F) ∧ okK 12 (mo (x_rate n va vx) (s_set F (cl va) vx) F) (j + 1) := by
    by_cases hc : x_rate n va vx = 0
    · (try simp only [mo_z hc]); exact ⟨hn, okR_set hR (rate_ok hc), (okK_set hK0).mono (Nat.le_succ j)⟩
    · (try simp only [mo_n hc]); exact ⟨hn, hR, hK0.mono (Nat.le_succ j)⟩
  refine W.widen (k := 40 + 8 * (j + 1)) (n := 500 + 40 * (j + 1)) (by omega) (by omega) ?_
  exact K _ _ _ _ _ _ _ _ _ _ _ _ _ ls ⟨hP, hD, hS, hfin.1, hfin.2.1, hfin.2.2⟩ (lv_sub hl [0, 1, 2, 3, 4] rfl)

set_option maxHeartbeats 4000000 in
set_option maxRecDepth 100000 in
theorem law_bout {p : Program} {l : Launch} {e : Env} {s : State} {m : MethodId} {below : List Frame} {meth : Method} {c : Code} {b L : Nat} {xs : Nat → Int32} {dC : Nat → ClassId} {dI : Nat → Nat → Nat} {A : Nat → Prop} {h r1 : Nat} {d1 : Nat → Nat} {r2 : Nat} {d2 : Nat → Nat} {rc ao hm q1 : Nat} {e1 : Nat → Nat} {q2 : Nat} {e2 : Nat → Nat} {cI cL : ClassId} {Q : State → Prop} (C : LC p l s m meth c b L xs dC dI A cI cL) {j : Nat} (hj : 5 * j + 5 ≤ L) {n : Nat} {F : Nat → Nat → Int32} {n2 : Nat} {G : Nat → Nat → Int32} {ct ch : Nat → Int32} {O : Nat → Int64} {th : Int32} {n3 : Nat} {G3 : Nat → Nat → Int32} {c3 : Nat → Int32} {H : Heap} {locs : List Loc} (I : LI s dC dI A h r1 d1 r2 d2 rc ao hm q1 e1 q2 e2 cI cL j n F n2 G ct ch O th n3 G3 c3 H locs) {ls : Array Slot} (hl : lv_has ls 9 [(0, .ref b), (1, .ref h), (2, .ref hm), (3, .ref ao), (4, .int (nI (5 * j)))]) (K : KK p l e s m below meth c b dC dI A h r1 d1 r2 d2 rc ao hm q1 e1 q2 e2 cI cL Q j) : W p l e room_1 s m #[Value.ref b] below meth c H locs (40 + 8 * j) (500 + 40 * j) Q (F0 m 236 ls []) := by
  obtain ⟨hx, hb, hr, hml, hown, hts, hX, hbl, hlocks, hl0, hK, hE, hn1, hn2, hbA, hA, hL⟩ := C
  obtain ⟨hP, hD, hS, hn, hR, hK0⟩ := I
  have hKi := hK.sub (tys' := [(cI, .int)]) [0] rfl
  obtain ⟨va, ev1⟩ : ∃ v : Int32, xs (5 * j + 1) = v := ⟨_, rfl⟩
  obtain ⟨vb, ev2⟩ : ∃ v : Int32, xs (5 * j + 2) = v := ⟨_, rfl⟩
  obtain ⟨vr, ev3⟩ : ∃ v : Int32, xs (5 * j + 3) = v := ⟨_, rfl⟩
  refine lv_aload_n hx hb dL_law_236 rfl (lv_at hl 1 rfl) ?_
  refine rv_arg hx hb hX hbl hbA hS hl (k := 1) (by omega) hL ev1 dL_law_237 dL_law_238 dL_law_240 (by decide) dL_law_241 dL_law_242 ?_
  refine rv_arg hx hb hX hbl hbA hS hl (k := 2) (by omega) hL ev2 dL_law_243 dL_law_244 dL_law_246 (by decide) dL_law_247 dL_law_248 ?_
  refine rv_arg hx hb hX hbl hbA hS hl (k := 3) (by omega) hL ev3 dL_law_249 dL_law_250 dL_law_252 (by decide) dL_law_253 dL_law_254 ?_
  refine lv_aload_n hx hb dL_law_255 rfl (lv_at hl 3 rfl) ?_
  have hPc := hP.sub (ws' := (wB h r1 d1 r2 d2 rc cI n F n2 G ct ch ++ [(ao, .inl (cL, 1, .inr (.inl O)))])) [0, 1, 2, 3, 4, 5, 6, 7, 8, 9, 10, 11, 12, 13, 14, 15, 16, 17, 18] rfl
  have hDc := hD.sub (ws' := (wB h r1 d1 r2 d2 rc cI n F n2 G ct ch ++ [(ao, .inl (cL, 1, .inr (.inl O)))])) [0, 1, 2, 3, 4, 5, 6, 7, 8, 9, 10, 11, 12, 13, 14, 15, 16, 17, 18] (by decide) rfl
  have hFc := va_free (wc := (wB h r1 d1 r2 d2 rc cI n F n2 G ct ch ++ [(ao, .inl (cL, 1, .inr (.inl O)))])) hD hS hA [0, 1, 2, 3, 4, 5, 6, 7, 8, 9, 10, 11, 12, 13, 14, 15, 16, 17, 18] rfl
  refine va_calli (vx_runSW (As := [.ref h, .int va, .int vb, .int vr, .ref ao]) (rest := []) ⟨hx, hb, hml, hown, hts⟩ (c_L_bout l hl0 dC dI cI cL h r1 d1 r2 d2 rc n F n2 G ct ch ao O H.size va vb vr hn hR) (vx_cwSW 5 hts gL_law_L_bout rfl rfl rfl (by decide +kernel) ⟨Nat.le_of_ble_eq_true rfl, Nat.le_of_ble_eq_true rfl⟩) ⟨PL.blind, fun U hU hW => ⟨rfl, PL.go hPc hK hDc hE hn1 hn2 hS hFc hU hW⟩⟩ rfl rfl hl.1 rfl (lv_room (Nat.le_of_ble_eq_true rfl)) dL_law_256 ⟨(show 40 + 8 * j + 4 ≤ 601024 by omega), (show 500 + 40 * j + 24 ≤ 7293034 by omega)⟩) hS (fun q _ h9 => hFc q h9) hFc (fun r9 u9 t9 H1 locs ht9 hvm9 hw9 hB9 hz9 hk9 hS => ?_)
  have hw9 : r9 = nI (x_bout n va vb vr) := hw9
  subst hw9
  obtain ⟨hP9, hD9⟩ := hB9
  rw [ht9] at hP9
  obtain ⟨hP, hD⟩ := va_join (wr := wM hm q1 e1 q2 e2 cI th n F ct n3 G3 c3) (w1 := (wB h r1 d1 r2 d2 rc cI n (mo (x_bout n va vb vr) (s_hold F (cl va) (cl vb) (cl vr)) F) n2 G (mo (x_bout n va vb vr) (s_ct ct F (cl va) (cl vb) (cl vr)) ct) ch ++ [(ao, .inl (cL, 1, .inr (.inl (mo (x_bout n va vb vr) (vp_updL O 0 (s_gain F (cl va) (cl vb) vr).toInt64) O))))])) hP hD [0, 1, 2, 3, 4, 5, 6, 7, 8, 9, 10, 11, 12, 13, 14, 15, 16, 17, 18] [19, 20, 21, 22, 23, 24, 25, 26, 27, 28, 29, 30, 31, 32, 33, 34, 35] rfl rfl (by decide) (by decide) hk9 hFc hP9 hD9
  have hP := hP.sub (ws' := (wB h r1 d1 r2 d2 rc cI n (mo (x_bout n va vb vr) (s_hold F (cl va) (cl vb) (cl vr)) F) n2 G (mo (x_bout n va vb vr) (s_ct ct F (cl va) (cl vb) (cl vr)) ct) ch ++ [(ao, .inl (cL, 1, .inr (.inl (mo (x_bout n va vb vr) (vp_updL O 0 (s_gain F (cl va) (cl vb) vr).toInt64) O))))]) ++ wM hm q1 e1 q2 e2 cI th n F ct n3 G3 c3) [17, 18, 19, 20, 21, 22, 23, 24, 25, 26, 27, 28, 29, 30, 31, 32, 33, 34, 35, 0, 1, 2, 3, 4, 5, 6, 7, 8, 9, 10, 11, 12, 13, 14, 15, 16] rfl
  have hD := hD.sub (ws' := (wB h r1 d1 r2 d2 rc cI n (mo (x_bout n va vb vr) (s_hold F (cl va) (cl vb) (cl vr)) F) n2 G (mo (x_bout n va vb vr) (s_ct ct F (cl va) (cl vb) (cl vr)) ct) ch ++ [(ao, .inl (cL, 1, .inr (.inl (mo (x_bout n va vb vr) (vp_updL O 0 (s_gain F (cl va) (cl vb) vr).toInt64) O))))]) ++ wM hm q1 e1 q2 e2 cI th n F ct n3 G3 c3) [17, 18, 19, 20, 21, 22, 23, 24, 25, 26, 27, 28, 29, 30, 31, 32, 33, 34, 35, 0, 1, 2, 3, 4, 5, 6, 7, 8, 9, 10, 11, 12, 13, 14, 15, 16] (by decide) rfl
  refine lv_istore (lv' := [(5, .int (nI (x_bout n va vb vr))), (0, .ref b), (1, .ref h), (2, .ref hm), (3, .ref ao), (4, .int (nI (5 * j)))]) hx hb dL_law_259 hl (by decide) rfl (fun ls hl => ?_)
  have hl : lv_has ls 9 [(0, .ref b), (1, .ref h), (2, .ref hm), (3, .ref ao), (4, .int (nI (5 * j))), (5, .int (nI (x_bout n va vb vr)))] := lv_sub hl [1, 2, 3, 4, 5, 0] rfl
  refine lv_aload_n hx hb dL_law_261 rfl (lv_at hl 2 rfl) ?_
  refine rv_arg hx hb hX hbl hbA hS hl (k := 1) (by omega) hL ev1 dL_law_262 dL_law_263 dL_law_265 (by decide) dL_law_266 dL_law_267 ?_
  refine rv_arg hx hb hX hbl hbA hS hl (k := 2) (by omega) hL ev2 dL_law_268 dL_law_269 dL_law_271 (by decide) dL_law_272 dL_law_273 ?_
  refine rv_arg hx hb hX hbl hbA hS hl (k := 3) (by omega) hL ev3 dL_law_274 dL_law_275 dL_law_277 (by decide) dL_law_278 dL_law_279 ?_
  have hPc := hP.sub (ws' := wM hm q1 e1 q2 e2 cI th n F ct n3 G3 c3) [19, 20, 21, 22, 23, 24, 25, 26, 27, 28, 29, 30, 31, 32, 33, 34, 35] rfl
  have hDc := hD.sub (ws' := wM hm q1 e1 q2 e2 cI th n F ct n3 G3 c3) [19, 20, 21, 22, 23, 24, 25, 26, 27, 28, 29, 30, 31, 32, 33, 34, 35] (by decide) rfl
  have hFc := va_free (wc := wM hm q1 e1 q2 e2 cI th n F ct n3 G3 c3) hD hS hA [19, 20, 21, 22, 23, 24, 25, 26, 27, 28, 29, 30, 31, 32, 33, 34, 35] rfl
  refine va_calli (va_runV (As := [.int va, .int vb, .int vr]) (rest := []) ⟨hx, hb, hml, hown, hts⟩ (c_X3_bout l dC dI cI hm q1 e1 q2 e2 th n F ct n3 G3 c3 H1.size va vb vr hn hR) (cwV 3 hts gL_law_X3_bout rfl rfl rfl (by decide +kernel) ⟨Nat.le_of_ble_eq_true rfl, Nat.le_of_ble_eq_true rfl⟩) ⟨PW.blind, va_recv hKi hPc (ci := 3) (q0 := 0) rfl rfl, fun U hU hW => ⟨rfl, PW.go hPc hKi hDc hE hS hFc hU hW⟩⟩ rfl rfl hl.1 rfl (lv_room (Nat.le_of_ble_eq_true rfl)) dL_law_280 ⟨(show 40 + 8 * j + 4 ≤ 601024 by omega), (show 500 + 40 * j + 24 ≤ 7293034 by omega)⟩) hS (fun q _ h9 => hFc q h9) hFc (fun r8 u9 t9 H2 locs ht9 hvm9 hw9 hB9 hz9 hk9 hS => ?_)
  have hw9 : r8 = mo (x_bout n va vb vr) (s_gain F (cl va) (cl vb) vr) 0 := hw9
  obtain ⟨hP9, hD9⟩ := hB9
  rw [ht9] at hP9
  have hP9 : va_P (dC, dI) vwCl (wM hm q1 e1 q2 e2 cI (nI (x_bout n va vb vr)) n (mo (x_bout n va vb vr) (s_hold F (cl va) (cl vb) (cl vr)) F) (mo (x_bout n va vb vr) (s_ct ct F (cl va) (cl vb) (cl vr)) ct) n3 G3 c3) H2 := hP9
  obtain ⟨hP, hD⟩ := va_join (wr := (wB h r1 d1 r2 d2 rc cI n (mo (x_bout n va vb vr) (s_hold F (cl va) (cl vb) (cl vr)) F) n2 G (mo (x_bout n va vb vr) (s_ct ct F (cl va) (cl vb) (cl vr)) ct) ch ++ [(ao, .inl (cL, 1, .inr (.inl (mo (x_bout n va vb vr) (vp_updL O 0 (s_gain F (cl va) (cl vb) vr).toInt64) O))))])) (w1 := wM hm q1 e1 q2 e2 cI (nI (x_bout n va vb vr)) n (mo (x_bout n va vb vr) (s_hold F (cl va) (cl vb) (cl vr)) F) (mo (x_bout n va vb vr) (s_ct ct F (cl va) (cl vb) (cl vr)) ct) n3 G3 c3) hP hD [19, 20, 21, 22, 23, 24, 25, 26, 27, 28, 29, 30, 31, 32, 33, 34, 35] [0, 1, 2, 3, 4, 5, 6, 7, 8, 9, 10, 11, 12, 13, 14, 15, 16, 17, 18] rfl rfl (by decide) (by decide) hk9 hFc hP9 hD9
  refine lv_istore (lv' := [(6, .int r8), (0, .ref b), (1, .ref h), (2, .ref hm), (3, .ref ao), (4, .int (nI (5 * j))), (5, .int (nI (x_bout n va vb vr)))]) hx hb dL_law_283 hl (by decide) rfl (fun ls hl => ?_)
  have hl : lv_has ls 9 [(0, .ref b), (1, .ref h), (2, .ref hm), (3, .ref ao), (4, .int (nI (5 * j))), (5, .int (nI (x_bout n va vb vr))), (6, .int r8)] := lv_sub hl [1, 2, 3, 4, 5, 6, 0] rfl
  refine lv_aload_n hx hb dL_law_285 rfl (lv_at hl 2 rfl) ?_
  have hPc := hP.sub (ws' := wM hm q1 e1 q2 e2 cI (nI (x_bout n va vb vr)) n (mo (x_bout n va vb vr) (s_hold F (cl va) (cl vb) (cl vr)) F) (mo (x_bout n va vb vr) (s_ct ct F (cl va) (cl vb) (cl vr)) ct) n3 G3 c3) [19, 20, 21, 22, 23, 24, 25, 26, 27, 28, 29, 30, 31, 32, 33, 34, 35] rfl
  refine vp_callSi (W.runV (As := []) (rest := []) ⟨hx, hb, hml, hown, hts⟩ (c_X3_thrown l dC dI cI hm q1 e1 q2 e2 (nI (x_bout n va vb vr)) n (mo (x_bout n va vb vr) (s_hold F (cl va) (cl vb) (cl vr)) F) (mo (x_bout n va vb vr) (s_ct ct F (cl va) (cl vb) (cl vr)) ct) n3 G3 c3) (cwV 0 hts gL_law_X3_thrown rfl rfl rfl (by decide +kernel) ⟨Nat.le_of_ble_eq_true rfl, Nat.le_of_ble_eq_true rfl⟩) ⟨PR.blind, va_recv hKi hPc (ci := 3) (q0 := 0) rfl rfl, fun U hU hW => ⟨rfl, PR.go hPc hKi hE hS hU hW⟩⟩ rfl rfl hl.1 rfl (lv_room (Nat.le_of_ble_eq_true rfl)) dL_law_286 ⟨(show 40 + 8 * j + 4 ≤ 601024 by omega), (show 500 + 40 * j + 24 ≤ 7293034 by omega)⟩) (fun r7 hr7 => ?_)
  subst hr7
  subst hw9
  have hk2 : x_bout n va vb vr ≤ 2 := by unfold x_bout; (repeat' split) <;> decide
  refine rv_tail hx hb hK hP 18 1 rfl rfl hk2 (mo_O (rfl)) hl dL_law_289 dL_law_291 dL_law_296 dL_law_298 dL_law_301 dL_law_302 dL_law_303 dL_law_304 dL_law_306 dL_law_307 dL_law_308 dL_law_313 (by decide) ?_
  have hfin : n ≤ 12 ∧ okR n (mo (x_bout n va vb vr) (s_hold F (cl va) (cl vb) (cl vr)) F) ∧ okK 12 (mo (x_bout n va vb vr) (s_hold F (cl va) (cl vb) (cl vr)) F) (j + 1) := by
    by_cases hc : x_bout n va vb vr = 0
    · (try simp only [mo_z hc]); exact ⟨hn, okR_hold (bout_ok hn hc) hR, okK_hold (bout_ok hn hc) hK0⟩
    · (try simp only [mo_n hc]); exact ⟨hn, hR, hK0.mono (Nat.le_succ j)⟩
  refine W.widen (k := 40 + 8 * (j + 1)) (n := 500 + 40 * (j + 1)) (by omega) (by omega) ?_
  exact K _ _ _ _ _ _ _ _ _ _ _ _ _ ls ⟨hP, hD, hS, hfin.1, hfin.2.1, hfin.2.2⟩ (lv_sub hl [0, 1, 2, 3, 4] rfl)

set_option maxHeartbeats 4000000 in
set_option maxRecDepth 100000 in
theorem law_expected {p : Program} {l : Launch} {e : Env} {s : State} {m : MethodId} {below : List Frame} {meth : Method} {c : Code} {b L : Nat} {xs : Nat → Int32} {dC : Nat → ClassId} {dI : Nat → Nat → Nat} {A : Nat → Prop} {h r1 : Nat} {d1 : Nat → Nat} {r2 : Nat} {d2 : Nat → Nat} {rc ao hm q1 : Nat} {e1 : Nat → Nat} {q2 : Nat} {e2 : Nat → Nat} {cI cL : ClassId} {Q : State → Prop} (C : LC p l s m meth c b L xs dC dI A cI cL) {j : Nat} (hj : 5 * j + 5 ≤ L) {n : Nat} {F : Nat → Nat → Int32} {n2 : Nat} {G : Nat → Nat → Int32} {ct ch : Nat → Int32} {O : Nat → Int64} {th : Int32} {n3 : Nat} {G3 : Nat → Nat → Int32} {c3 : Nat → Int32} {H : Heap} {locs : List Loc} (I : LI s dC dI A h r1 d1 r2 d2 rc ao hm q1 e1 q2 e2 cI cL j n F n2 G ct ch O th n3 G3 c3 H locs) {ls : Array Slot} (hl : lv_has ls 9 [(0, .ref b), (1, .ref h), (2, .ref hm), (3, .ref ao), (4, .int (nI (5 * j)))]) (K : KK p l e s m below meth c b dC dI A h r1 d1 r2 d2 rc ao hm q1 e1 q2 e2 cI cL Q j) : W p l e room_1 s m #[Value.ref b] below meth c H locs (40 + 8 * j) (500 + 40 * j) Q (F0 m 329 ls []) := by
  obtain ⟨hx, hb, hr, hml, hown, hts, hX, hbl, hlocks, hl0, hK, hE, hn1, hn2, hbA, hA, hL⟩ := C
  obtain ⟨hP, hD, hS, hn, hR, hK0⟩ := I
  have hKi := hK.sub (tys' := [(cI, .int)]) [0] rfl
  obtain ⟨va, ev1⟩ : ∃ v : Int32, xs (5 * j + 1) = v := ⟨_, rfl⟩
  obtain ⟨vb, ev2⟩ : ∃ v : Int32, xs (5 * j + 2) = v := ⟨_, rfl⟩
  refine lv_aload_n hx hb dL_law_329 rfl (lv_at hl 1 rfl) ?_
  refine rv_arg hx hb hX hbl hbA hS hl (k := 1) (by omega) hL ev1 dL_law_330 dL_law_331 dL_law_333 (by decide) dL_law_334 dL_law_335 ?_
  refine rv_arg hx hb hX hbl hbA hS hl (k := 2) (by omega) hL ev2 dL_law_336 dL_law_337 dL_law_339 (by decide) dL_law_340 dL_law_341 ?_
  refine lv_aload_n hx hb dL_law_342 rfl (lv_at hl 3 rfl) ?_
  have hPc := hP.sub (ws' := (wB h r1 d1 r2 d2 rc cI n F n2 G ct ch ++ [(ao, .inl (cL, 1, .inr (.inl O)))])) [0, 1, 2, 3, 4, 5, 6, 7, 8, 9, 10, 11, 12, 13, 14, 15, 16, 17, 18] rfl
  have hDc := hD.sub (ws' := (wB h r1 d1 r2 d2 rc cI n F n2 G ct ch ++ [(ao, .inl (cL, 1, .inr (.inl O)))])) [0, 1, 2, 3, 4, 5, 6, 7, 8, 9, 10, 11, 12, 13, 14, 15, 16, 17, 18] (by decide) rfl
  have hFc := va_free (wc := (wB h r1 d1 r2 d2 rc cI n F n2 G ct ch ++ [(ao, .inl (cL, 1, .inr (.inl O)))])) hD hS hA [0, 1, 2, 3, 4, 5, 6, 7, 8, 9, 10, 11, 12, 13, 14, 15, 16, 17, 18] rfl
  refine va_calli (vx_runSW (As := [.ref h, .int va, .int vb, .ref ao]) (rest := []) ⟨hx, hb, hml, hown, hts⟩ (c_L_expected l hl0 dC dI cI cL h r1 d1 r2 d2 rc n F n2 G ct ch ao O H.size va vb hn hR) (vx_cwSW 4 hts gL_law_L_expected rfl rfl rfl (by decide +kernel) ⟨Nat.le_of_ble_eq_true rfl, Nat.le_of_ble_eq_true rfl⟩) ⟨PL.blind, fun U hU hW => ⟨rfl, PL.go hPc hK hDc hE hn1 hn2 hS hFc hU hW⟩⟩ rfl rfl hl.1 rfl (lv_room (Nat.le_of_ble_eq_true rfl)) dL_law_343 ⟨(show 40 + 8 * j + 2 ≤ 601024 by omega), (show 500 + 40 * j + 12 ≤ 7293034 by omega)⟩) hS (fun q _ h9 => hFc q h9) hFc (fun r9 u9 t9 H1 locs ht9 hvm9 hw9 hB9 hz9 hk9 hS => ?_)
  have hw9 : r9 = nI (x_exp n va vb) := hw9
  subst hw9
  obtain ⟨hP9, hD9⟩ := hB9
  rw [ht9] at hP9
  obtain ⟨hP, hD⟩ := va_join (wr := wM hm q1 e1 q2 e2 cI th n F ct n3 G3 c3) (w1 := (wB h r1 d1 r2 d2 rc cI n F n2 G ct ch ++ [(ao, .inl (cL, 1, .inr (.inl (mo (x_exp n va vb) (vp_updL O 0 (s_exp F (cl va) (cl vb)).toInt64) O))))])) hP hD [0, 1, 2, 3, 4, 5, 6, 7, 8, 9, 10, 11, 12, 13, 14, 15, 16, 17, 18] [19, 20, 21, 22, 23, 24, 25, 26, 27, 28, 29, 30, 31, 32, 33, 34, 35] rfl rfl (by decide) (by decide) hk9 hFc hP9 hD9
  have hP := hP.sub (ws' := (wB h r1 d1 r2 d2 rc cI n F n2 G ct ch ++ [(ao, .inl (cL, 1, .inr (.inl (mo (x_exp n va vb) (vp_updL O 0 (s_exp F (cl va) (cl vb)).toInt64) O))))]) ++ wM hm q1 e1 q2 e2 cI th n F ct n3 G3 c3) [17, 18, 19, 20, 21, 22, 23, 24, 25, 26, 27, 28, 29, 30, 31, 32, 33, 34, 35, 0, 1, 2, 3, 4, 5, 6, 7, 8, 9, 10, 11, 12, 13, 14, 15, 16] rfl
  have hD := hD.sub (ws' := (wB h r1 d1 r2 d2 rc cI n F n2 G ct ch ++ [(ao, .inl (cL, 1, .inr (.inl (mo (x_exp n va vb) (vp_updL O 0 (s_exp F (cl va) (cl vb)).toInt64) O))))]) ++ wM hm q1 e1 q2 e2 cI th n F ct n3 G3 c3) [17, 18, 19, 20, 21, 22, 23, 24, 25, 26, 27, 28, 29, 30, 31, 32, 33, 34, 35, 0, 1, 2, 3, 4, 5, 6, 7, 8, 9, 10, 11, 12, 13, 14, 15, 16] (by decide) rfl
  refine lv_istore (lv' := [(5, .int (nI (x_exp n va vb))), (0, .ref b), (1, .ref h), (2, .ref hm), (3, .ref ao), (4, .int (nI (5 * j)))]) hx hb dL_law_346 hl (by decide) rfl (fun ls hl => ?_)
  have hl : lv_has ls 9 [(0, .ref b), (1, .ref h), (2, .ref hm), (3, .ref ao), (4, .int (nI (5 * j))), (5, .int (nI (x_exp n va vb)))] := lv_sub hl [1, 2, 3, 4, 5, 0] rfl
  refine lv_aload_n hx hb dL_law_348 rfl (lv_at hl 2 rfl) ?_
  refine rv_arg hx hb hX hbl hbA hS hl (k := 1) (by omega) hL ev1 dL_law_349 dL_law_350 dL_law_352 (by decide) dL_law_353 dL_law_354 ?_
  refine rv_arg hx hb hX hbl hbA hS hl (k := 2) (by omega) hL ev2 dL_law_355 dL_law_356 dL_law_358 (by decide) dL_law_359 dL_law_360 ?_
  have hPc := hP.sub (ws' := wM hm q1 e1 q2 e2 cI th n F ct n3 G3 c3) [19, 20, 21, 22, 23, 24, 25, 26, 27, 28, 29, 30, 31, 32, 33, 34, 35] rfl
  have hDc := hD.sub (ws' := wM hm q1 e1 q2 e2 cI th n F ct n3 G3 c3) [19, 20, 21, 22, 23, 24, 25, 26, 27, 28, 29, 30, 31, 32, 33, 34, 35] (by decide) rfl
  have hFc := va_free (wc := wM hm q1 e1 q2 e2 cI th n F ct n3 G3 c3) hD hS hA [19, 20, 21, 22, 23, 24, 25, 26, 27, 28, 29, 30, 31, 32, 33, 34, 35] rfl
  refine va_calli (va_runV (As := [.int va, .int vb]) (rest := []) ⟨hx, hb, hml, hown, hts⟩ (c_X3_expected l dC dI cI hm q1 e1 q2 e2 th n F ct n3 G3 c3 H1.size va vb hn hR) (cwV 2 hts gL_law_X3_expected rfl rfl rfl (by decide +kernel) ⟨Nat.le_of_ble_eq_true rfl, Nat.le_of_ble_eq_true rfl⟩) ⟨PW.blind, va_recv hKi hPc (ci := 3) (q0 := 0) rfl rfl, fun U hU hW => ⟨rfl, PW.go hPc hKi hDc hE hS hFc hU hW⟩⟩ rfl rfl hl.1 rfl (lv_room (Nat.le_of_ble_eq_true rfl)) dL_law_361 ⟨(show 40 + 8 * j + 2 ≤ 601024 by omega), (show 500 + 40 * j + 12 ≤ 7293034 by omega)⟩) hS (fun q _ h9 => hFc q h9) hFc (fun r8 u9 t9 H2 locs ht9 hvm9 hw9 hB9 hz9 hk9 hS => ?_)
  have hw9 : r8 = mo (x_exp n va vb) (s_exp F (cl va) (cl vb)) 0 := hw9
  obtain ⟨hP9, hD9⟩ := hB9
  rw [ht9] at hP9
  have hP9 : va_P (dC, dI) vwCl (wM hm q1 e1 q2 e2 cI (nI (x_exp n va vb)) n F ct n3 G3 c3) H2 := hP9
  obtain ⟨hP, hD⟩ := va_join (wr := (wB h r1 d1 r2 d2 rc cI n F n2 G ct ch ++ [(ao, .inl (cL, 1, .inr (.inl (mo (x_exp n va vb) (vp_updL O 0 (s_exp F (cl va) (cl vb)).toInt64) O))))])) (w1 := wM hm q1 e1 q2 e2 cI (nI (x_exp n va vb)) n F ct n3 G3 c3) hP hD [19, 20, 21, 22, 23, 24, 25, 26, 27, 28, 29, 30, 31, 32, 33, 34, 35] [0, 1, 2, 3, 4, 5, 6, 7, 8, 9, 10, 11, 12, 13, 14, 15, 16, 17, 18] rfl rfl (by decide) (by decide) hk9 hFc hP9 hD9
  refine lv_istore (lv' := [(6, .int r8), (0, .ref b), (1, .ref h), (2, .ref hm), (3, .ref ao), (4, .int (nI (5 * j))), (5, .int (nI (x_exp n va vb)))]) hx hb dL_law_364 hl (by decide) rfl (fun ls hl => ?_)
  have hl : lv_has ls 9 [(0, .ref b), (1, .ref h), (2, .ref hm), (3, .ref ao), (4, .int (nI (5 * j))), (5, .int (nI (x_exp n va vb))), (6, .int r8)] := lv_sub hl [1, 2, 3, 4, 5, 6, 0] rfl
  refine lv_aload_n hx hb dL_law_366 rfl (lv_at hl 2 rfl) ?_
  have hPc := hP.sub (ws' := wM hm q1 e1 q2 e2 cI (nI (x_exp n va vb)) n F ct n3 G3 c3) [19, 20, 21, 22, 23, 24, 25, 26, 27, 28, 29, 30, 31, 32, 33, 34, 35] rfl
  refine vp_callSi (W.runV (As := []) (rest := []) ⟨hx, hb, hml, hown, hts⟩ (c_X3_thrown l dC dI cI hm q1 e1 q2 e2 (nI (x_exp n va vb)) n F ct n3 G3 c3) (cwV 0 hts gL_law_X3_thrown rfl rfl rfl (by decide +kernel) ⟨Nat.le_of_ble_eq_true rfl, Nat.le_of_ble_eq_true rfl⟩) ⟨PR.blind, va_recv hKi hPc (ci := 3) (q0 := 0) rfl rfl, fun U hU hW => ⟨rfl, PR.go hPc hKi hE hS hU hW⟩⟩ rfl rfl hl.1 rfl (lv_room (Nat.le_of_ble_eq_true rfl)) dL_law_367 ⟨(show 40 + 8 * j + 2 ≤ 601024 by omega), (show 500 + 40 * j + 12 ≤ 7293034 by omega)⟩) (fun r7 hr7 => ?_)
  subst hr7
  subst hw9
  have hk2 : x_exp n va vb ≤ 2 := by unfold x_exp; (repeat' split) <;> decide
  refine rv_tail hx hb hK hP 18 1 rfl rfl hk2 (mo_O (rfl)) hl dL_law_370 dL_law_372 dL_law_377 dL_law_379 dL_law_382 dL_law_383 dL_law_384 dL_law_385 dL_law_387 dL_law_388 dL_law_389 dL_law_394 (by decide) ?_
  have hfin : n ≤ 12 ∧ okR n F ∧ okK 12 F (j + 1) := ⟨hn, hR, hK0.mono (Nat.le_succ j)⟩
  refine W.widen (k := 40 + 8 * (j + 1)) (n := 500 + 40 * (j + 1)) (by omega) (by omega) ?_
  exact K _ _ _ _ _ _ _ _ _ _ _ _ _ ls ⟨hP, hD, hS, hfin.1, hfin.2.1, hfin.2.2⟩ (lv_sub hl [0, 1, 2, 3, 4] rfl)

set_option maxHeartbeats 4000000 in
set_option maxRecDepth 100000 in
theorem law_told {p : Program} {l : Launch} {e : Env} {s : State} {m : MethodId} {below : List Frame} {meth : Method} {c : Code} {b L : Nat} {xs : Nat → Int32} {dC : Nat → ClassId} {dI : Nat → Nat → Nat} {A : Nat → Prop} {h r1 : Nat} {d1 : Nat → Nat} {r2 : Nat} {d2 : Nat → Nat} {rc ao hm q1 : Nat} {e1 : Nat → Nat} {q2 : Nat} {e2 : Nat → Nat} {cI cL : ClassId} {Q : State → Prop} (C : LC p l s m meth c b L xs dC dI A cI cL) {j : Nat} (hj : 5 * j + 5 ≤ L) {n : Nat} {F : Nat → Nat → Int32} {n2 : Nat} {G : Nat → Nat → Int32} {ct ch : Nat → Int32} {O : Nat → Int64} {th : Int32} {n3 : Nat} {G3 : Nat → Nat → Int32} {c3 : Nat → Int32} {H : Heap} {locs : List Loc} (I : LI s dC dI A h r1 d1 r2 d2 rc ao hm q1 e1 q2 e2 cI cL j n F n2 G ct ch O th n3 G3 c3 H locs) {ls : Array Slot} (hl : lv_has ls 9 [(0, .ref b), (1, .ref h), (2, .ref hm), (3, .ref ao), (4, .int (nI (5 * j)))]) (K : KK p l e s m below meth c b dC dI A h r1 d1 r2 d2 rc ao hm q1 e1 q2 e2 cI cL Q j) : W p l e room_1 s m #[Value.ref b] below meth c H locs (40 + 8 * j) (500 + 40 * j) Q (F0 m 397 ls []) := by
  obtain ⟨hx, hb, hr, hml, hown, hts, hX, hbl, hlocks, hl0, hK, hE, hn1, hn2, hbA, hA, hL⟩ := C
  obtain ⟨hP, hD, hS, hn, hR, hK0⟩ := I
  have hKi := hK.sub (tys' := [(cI, .int)]) [0] rfl
  obtain ⟨va, ev1⟩ : ∃ v : Int32, xs (5 * j + 1) = v := ⟨_, rfl⟩
  obtain ⟨vk, ev2⟩ : ∃ v : Int32, xs (5 * j + 2) = v := ⟨_, rfl⟩
  refine lv_aload_n hx hb dL_law_397 rfl (lv_at hl 1 rfl) ?_
  refine rv_arg hx hb hX hbl hbA hS hl (k := 1) (by omega) hL ev1 dL_law_398 dL_law_399 dL_law_401 (by decide) dL_law_402 dL_law_403 ?_
  refine rv_arg hx hb hX hbl hbA hS hl (k := 2) (by omega) hL ev2 dL_law_404 dL_law_405 dL_law_407 (by decide) dL_law_408 dL_law_409 ?_
  refine lv_aload_n hx hb dL_law_410 rfl (lv_at hl 3 rfl) ?_
  have hPc := hP.sub (ws' := (wB h r1 d1 r2 d2 rc cI n F n2 G ct ch ++ [(ao, .inl (cL, 1, .inr (.inl O)))])) [0, 1, 2, 3, 4, 5, 6, 7, 8, 9, 10, 11, 12, 13, 14, 15, 16, 17, 18] rfl
  have hDc := hD.sub (ws' := (wB h r1 d1 r2 d2 rc cI n F n2 G ct ch ++ [(ao, .inl (cL, 1, .inr (.inl O)))])) [0, 1, 2, 3, 4, 5, 6, 7, 8, 9, 10, 11, 12, 13, 14, 15, 16, 17, 18] (by decide) rfl
  have hFc := va_free (wc := (wB h r1 d1 r2 d2 rc cI n F n2 G ct ch ++ [(ao, .inl (cL, 1, .inr (.inl O)))])) hD hS hA [0, 1, 2, 3, 4, 5, 6, 7, 8, 9, 10, 11, 12, 13, 14, 15, 16, 17, 18] rfl
  refine va_calli (vx_runSW (As := [.ref h, .int va, .int vk, .ref ao]) (rest := []) ⟨hx, hb, hml, hown, hts⟩ (c_L_told l hl0 dC dI cI cL h r1 d1 r2 d2 rc n F n2 G ct ch ao O H.size va vk hn) (vx_cwSW 4 hts gL_law_L_told rfl rfl rfl (by decide +kernel) ⟨Nat.le_of_ble_eq_true rfl, Nat.le_of_ble_eq_true rfl⟩) ⟨PL.blind, fun U hU hW => ⟨rfl, PL.go hPc hK hDc hE hn1 hn2 hS hFc hU hW⟩⟩ rfl rfl hl.1 rfl (lv_room (Nat.le_of_ble_eq_true rfl)) dL_law_411 ⟨(show 40 + 8 * j + 2 ≤ 601024 by omega), (show 500 + 40 * j + 12 ≤ 7293034 by omega)⟩) hS (fun q _ h9 => hFc q h9) hFc (fun r9 u9 t9 H1 locs ht9 hvm9 hw9 hB9 hz9 hk9 hS => ?_)
  have hw9 : r9 = nI (x_told n va vk) := hw9
  subst hw9
  obtain ⟨hP9, hD9⟩ := hB9
  rw [ht9] at hP9
  obtain ⟨hP, hD⟩ := va_join (wr := wM hm q1 e1 q2 e2 cI th n F ct n3 G3 c3) (w1 := (wB h r1 d1 r2 d2 rc cI n F n2 G ct ch ++ [(ao, .inl (cL, 1, .inr (.inl (mo (x_told n va vk) (vp_updL O 0 (s_told n F (cl va) vk).toInt64) O))))])) hP hD [0, 1, 2, 3, 4, 5, 6, 7, 8, 9, 10, 11, 12, 13, 14, 15, 16, 17, 18] [19, 20, 21, 22, 23, 24, 25, 26, 27, 28, 29, 30, 31, 32, 33, 34, 35] rfl rfl (by decide) (by decide) hk9 hFc hP9 hD9
  have hP := hP.sub (ws' := (wB h r1 d1 r2 d2 rc cI n F n2 G ct ch ++ [(ao, .inl (cL, 1, .inr (.inl (mo (x_told n va vk) (vp_updL O 0 (s_told n F (cl va) vk).toInt64) O))))]) ++ wM hm q1 e1 q2 e2 cI th n F ct n3 G3 c3) [17, 18, 19, 20, 21, 22, 23, 24, 25, 26, 27, 28, 29, 30, 31, 32, 33, 34, 35, 0, 1, 2, 3, 4, 5, 6, 7, 8, 9, 10, 11, 12, 13, 14, 15, 16] rfl
  have hD := hD.sub (ws' := (wB h r1 d1 r2 d2 rc cI n F n2 G ct ch ++ [(ao, .inl (cL, 1, .inr (.inl (mo (x_told n va vk) (vp_updL O 0 (s_told n F (cl va) vk).toInt64) O))))]) ++ wM hm q1 e1 q2 e2 cI th n F ct n3 G3 c3) [17, 18, 19, 20, 21, 22, 23, 24, 25, 26, 27, 28, 29, 30, 31, 32, 33, 34, 35, 0, 1, 2, 3, 4, 5, 6, 7, 8, 9, 10, 11, 12, 13, 14, 15, 16] (by decide) rfl
  refine lv_istore (lv' := [(5, .int (nI (x_told n va vk))), (0, .ref b), (1, .ref h), (2, .ref hm), (3, .ref ao), (4, .int (nI (5 * j)))]) hx hb dL_law_414 hl (by decide) rfl (fun ls hl => ?_)
  have hl : lv_has ls 9 [(0, .ref b), (1, .ref h), (2, .ref hm), (3, .ref ao), (4, .int (nI (5 * j))), (5, .int (nI (x_told n va vk)))] := lv_sub hl [1, 2, 3, 4, 5, 0] rfl
  refine lv_aload_n hx hb dL_law_416 rfl (lv_at hl 2 rfl) ?_
  refine rv_arg hx hb hX hbl hbA hS hl (k := 1) (by omega) hL ev1 dL_law_417 dL_law_418 dL_law_420 (by decide) dL_law_421 dL_law_422 ?_
  refine rv_arg hx hb hX hbl hbA hS hl (k := 2) (by omega) hL ev2 dL_law_423 dL_law_424 dL_law_426 (by decide) dL_law_427 dL_law_428 ?_
  have hPc := hP.sub (ws' := wM hm q1 e1 q2 e2 cI th n F ct n3 G3 c3) [19, 20, 21, 22, 23, 24, 25, 26, 27, 28, 29, 30, 31, 32, 33, 34, 35] rfl
  have hDc := hD.sub (ws' := wM hm q1 e1 q2 e2 cI th n F ct n3 G3 c3) [19, 20, 21, 22, 23, 24, 25, 26, 27, 28, 29, 30, 31, 32, 33, 34, 35] (by decide) rfl
  have hFc := va_free (wc := wM hm q1 e1 q2 e2 cI th n F ct n3 G3 c3) hD hS hA [19, 20, 21, 22, 23, 24, 25, 26, 27, 28, 29, 30, 31, 32, 33, 34, 35] rfl
  refine va_calli (va_runV (As := [.int va, .int vk]) (rest := []) ⟨hx, hb, hml, hown, hts⟩ (c_X3_told l dC dI cI hm q1 e1 q2 e2 th n F ct n3 G3 c3 H1.size va vk hn) (cwV 2 hts gL_law_X3_told rfl rfl rfl (by decide +kernel) ⟨Nat.le_of_ble_eq_true rfl, Nat.le_of_ble_eq_true rfl⟩) ⟨PW.blind, va_recv hKi hPc (ci := 3) (q0 := 0) rfl rfl, fun U hU hW => ⟨rfl, PW.go hPc hKi hDc hE hS hFc hU hW⟩⟩ rfl rfl hl.1 rfl (lv_room (Nat.le_of_ble_eq_true rfl)) dL_law_429 ⟨(show 40 + 8 * j + 2 ≤ 601024 by omega), (show 500 + 40 * j + 12 ≤ 7293034 by omega)⟩) hS (fun q _ h9 => hFc q h9) hFc (fun r8 u9 t9 H2 locs ht9 hvm9 hw9 hB9 hz9 hk9 hS => ?_)
  have hw9 : r8 = mo (x_told n va vk) (s_told n F (cl va) vk) 0 := hw9
  obtain ⟨hP9, hD9⟩ := hB9
  rw [ht9] at hP9
  have hP9 : va_P (dC, dI) vwCl (wM hm q1 e1 q2 e2 cI (nI (x_told n va vk)) n F ct n3 G3 c3) H2 := hP9
  obtain ⟨hP, hD⟩ := va_join (wr := (wB h r1 d1 r2 d2 rc cI n F n2 G ct ch ++ [(ao, .inl (cL, 1, .inr (.inl (mo (x_told n va vk) (vp_updL O 0 (s_told n F (cl va) vk).toInt64) O))))])) (w1 := wM hm q1 e1 q2 e2 cI (nI (x_told n va vk)) n F ct n3 G3 c3) hP hD [19, 20, 21, 22, 23, 24, 25, 26, 27, 28, 29, 30, 31, 32, 33, 34, 35] [0, 1, 2, 3, 4, 5, 6, 7, 8, 9, 10, 11, 12, 13, 14, 15, 16, 17, 18] rfl rfl (by decide) (by decide) hk9 hFc hP9 hD9
  refine lv_istore (lv' := [(6, .int r8), (0, .ref b), (1, .ref h), (2, .ref hm), (3, .ref ao), (4, .int (nI (5 * j))), (5, .int (nI (x_told n va vk)))]) hx hb dL_law_432 hl (by decide) rfl (fun ls hl => ?_)
  have hl : lv_has ls 9 [(0, .ref b), (1, .ref h), (2, .ref hm), (3, .ref ao), (4, .int (nI (5 * j))), (5, .int (nI (x_told n va vk))), (6, .int r8)] := lv_sub hl [1, 2, 3, 4, 5, 6, 0] rfl
  refine lv_aload_n hx hb dL_law_434 rfl (lv_at hl 2 rfl) ?_
  have hPc := hP.sub (ws' := wM hm q1 e1 q2 e2 cI (nI (x_told n va vk)) n F ct n3 G3 c3) [19, 20, 21, 22, 23, 24, 25, 26, 27, 28, 29, 30, 31, 32, 33, 34, 35] rfl
  refine vp_callSi (W.runV (As := []) (rest := []) ⟨hx, hb, hml, hown, hts⟩ (c_X3_thrown l dC dI cI hm q1 e1 q2 e2 (nI (x_told n va vk)) n F ct n3 G3 c3) (cwV 0 hts gL_law_X3_thrown rfl rfl rfl (by decide +kernel) ⟨Nat.le_of_ble_eq_true rfl, Nat.le_of_ble_eq_true rfl⟩) ⟨PR.blind, va_recv hKi hPc (ci := 3) (q0 := 0) rfl rfl, fun U hU hW => ⟨rfl, PR.go hPc hKi hE hS hU hW⟩⟩ rfl rfl hl.1 rfl (lv_room (Nat.le_of_ble_eq_true rfl)) dL_law_435 ⟨(show 40 + 8 * j + 2 ≤ 601024 by omega), (show 500 + 40 * j + 12 ≤ 7293034 by omega)⟩) (fun r7 hr7 => ?_)
  subst hr7
  subst hw9
  have hk2 : x_told n va vk ≤ 2 := by unfold x_told; (repeat' split) <;> decide
  refine rv_tail hx hb hK hP 18 1 rfl rfl hk2 (mo_O (rfl)) hl dL_law_438 dL_law_440 dL_law_445 dL_law_447 dL_law_450 dL_law_451 dL_law_452 dL_law_453 dL_law_455 dL_law_456 dL_law_457 dL_law_462 (by decide) ?_
  have hfin : n ≤ 12 ∧ okR n F ∧ okK 12 F (j + 1) := ⟨hn, hR, hK0.mono (Nat.le_succ j)⟩
  refine W.widen (k := 40 + 8 * (j + 1)) (n := 500 + 40 * (j + 1)) (by omega) (by omega) ?_
  exact K _ _ _ _ _ _ _ _ _ _ _ _ _ ls ⟨hP, hD, hS, hfin.1, hfin.2.1, hfin.2.2⟩ (lv_sub hl [0, 1, 2, 3, 4] rfl)

set_option maxHeartbeats 4000000 in
set_option maxRecDepth 100000 in
theorem law_at {p : Program} {l : Launch} {e : Env} {s : State} {m : MethodId} {below : List Frame} {meth : Method} {c : Code} {b L : Nat} {xs : Nat → Int32} {dC : Nat → ClassId} {dI : Nat → Nat → Nat} {A : Nat → Prop} {h r1 : Nat} {d1 : Nat → Nat} {r2 : Nat} {d2 : Nat → Nat} {rc ao hm q1 : Nat} {e1 : Nat → Nat} {q2 : Nat} {e2 : Nat → Nat} {cI cL : ClassId} {Q : State → Prop} (C : LC p l s m meth c b L xs dC dI A cI cL) {j : Nat} (hj : 5 * j + 5 ≤ L) {n : Nat} {F : Nat → Nat → Int32} {n2 : Nat} {G : Nat → Nat → Int32} {ct ch : Nat → Int32} {O : Nat → Int64} {th : Int32} {n3 : Nat} {G3 : Nat → Nat → Int32} {c3 : Nat → Int32} {H : Heap} {locs : List Loc} (I : LI s dC dI A h r1 d1 r2 d2 rc ao hm q1 e1 q2 e2 cI cL j n F n2 G ct ch O th n3 G3 c3 H locs) {ls : Array Slot} (hl : lv_has ls 9 [(0, .ref b), (1, .ref h), (2, .ref hm), (3, .ref ao), (4, .int (nI (5 * j)))]) (K : KK p l e s m below meth c b dC dI A h r1 d1 r2 d2 rc ao hm q1 e1 q2 e2 cI cL Q j) : W p l e room_1 s m #[Value.ref b] below meth c H locs (40 + 8 * j) (500 + 40 * j) Q (F0 m 465 ls []) := by
  obtain ⟨hx, hb, hr, hml, hown, hts, hX, hbl, hlocks, hl0, hK, hE, hn1, hn2, hbA, hA, hL⟩ := C
  obtain ⟨hP, hD, hS, hn, hR, hK0⟩ := I
  have hKi := hK.sub (tys' := [(cI, .int)]) [0] rfl
  obtain ⟨vg, ev1⟩ : ∃ v : Int32, xs (5 * j + 1) = v := ⟨_, rfl⟩
  obtain ⟨vq, ev2⟩ : ∃ v : Int32, xs (5 * j + 2) = v := ⟨_, rfl⟩
  refine lv_aload_n hx hb dL_law_465 rfl (lv_at hl 1 rfl) ?_
  refine rv_arg hx hb hX hbl hbA hS hl (k := 1) (by omega) hL ev1 dL_law_466 dL_law_467 dL_law_469 (by decide) dL_law_470 dL_law_471 ?_
  refine rv_arg hx hb hX hbl hbA hS hl (k := 2) (by omega) hL ev2 dL_law_472 dL_law_473 dL_law_475 (by decide) dL_law_476 dL_law_477 ?_
  refine lv_aload_n hx hb dL_law_478 rfl (lv_at hl 3 rfl) ?_
  have hPc := hP.sub (ws' := (wB h r1 d1 r2 d2 rc cI n F n2 G ct ch ++ [(ao, .inl (cL, 1, .inr (.inl O)))])) [0, 1, 2, 3, 4, 5, 6, 7, 8, 9, 10, 11, 12, 13, 14, 15, 16, 17, 18] rfl
  have hDc := hD.sub (ws' := (wB h r1 d1 r2 d2 rc cI n F n2 G ct ch ++ [(ao, .inl (cL, 1, .inr (.inl O)))])) [0, 1, 2, 3, 4, 5, 6, 7, 8, 9, 10, 11, 12, 13, 14, 15, 16, 17, 18] (by decide) rfl
  have hFc := va_free (wc := (wB h r1 d1 r2 d2 rc cI n F n2 G ct ch ++ [(ao, .inl (cL, 1, .inr (.inl O)))])) hD hS hA [0, 1, 2, 3, 4, 5, 6, 7, 8, 9, 10, 11, 12, 13, 14, 15, 16, 17, 18] rfl
  refine va_calli (vx_runSW (As := [.ref h, .int vg, .int vq, .ref ao]) (rest := []) ⟨hx, hb, hml, hown, hts⟩ (c_L_at l hl0 dC dI cI cL h r1 d1 r2 d2 rc n F n2 G ct ch ao O H.size vg vq hn) (vx_cwSW 4 hts gL_law_L_at rfl rfl rfl (by decide +kernel) ⟨Nat.le_of_ble_eq_true rfl, Nat.le_of_ble_eq_true rfl⟩) ⟨PL.blind, fun U hU hW => ⟨rfl, PL.go hPc hK hDc hE hn1 hn2 hS hFc hU hW⟩⟩ rfl rfl hl.1 rfl (lv_room (Nat.le_of_ble_eq_true rfl)) dL_law_479 ⟨(show 40 + 8 * j + 1 ≤ 601024 by omega), (show 500 + 40 * j + 6 ≤ 7293034 by omega)⟩) hS (fun q _ h9 => hFc q h9) hFc (fun r9 u9 t9 H1 locs ht9 hvm9 hw9 hB9 hz9 hk9 hS => ?_)
  have hw9 : r9 = nI (x_at n F vg vq) := hw9
  subst hw9
  obtain ⟨hP9, hD9⟩ := hB9
  rw [ht9] at hP9
  obtain ⟨hP, hD⟩ := va_join (wr := wM hm q1 e1 q2 e2 cI th n F ct n3 G3 c3) (w1 := (wB h r1 d1 r2 d2 rc cI n F n2 G ct ch ++ [(ao, .inl (cL, 1, .inr (.inl (mo (x_at n F vg vq) (vp_updL O 0 (oI (s_at n F vg vq)).toInt64) O))))])) hP hD [0, 1, 2, 3, 4, 5, 6, 7, 8, 9, 10, 11, 12, 13, 14, 15, 16, 17, 18] [19, 20, 21, 22, 23, 24, 25, 26, 27, 28, 29, 30, 31, 32, 33, 34, 35] rfl rfl (by decide) (by decide) hk9 hFc hP9 hD9
  have hP := hP.sub (ws' := (wB h r1 d1 r2 d2 rc cI n F n2 G ct ch ++ [(ao, .inl (cL, 1, .inr (.inl (mo (x_at n F vg vq) (vp_updL O 0 (oI (s_at n F vg vq)).toInt64) O))))]) ++ wM hm q1 e1 q2 e2 cI th n F ct n3 G3 c3) [17, 18, 19, 20, 21, 22, 23, 24, 25, 26, 27, 28, 29, 30, 31, 32, 33, 34, 35, 0, 1, 2, 3, 4, 5, 6, 7, 8, 9, 10, 11, 12, 13, 14, 15, 16] rfl
  have hD := hD.sub (ws' := (wB h r1 d1 r2 d2 rc cI n F n2 G ct ch ++ [(ao, .inl (cL, 1, .inr (.inl (mo (x_at n F vg vq) (vp_updL O 0 (oI (s_at n F vg vq)).toInt64) O))))]) ++ wM hm q1 e1 q2 e2 cI th n F ct n3 G3 c3) [17, 18, 19, 20, 21, 22, 23, 24, 25, 26, 27, 28, 29, 30, 31, 32, 33, 34, 35, 0, 1, 2, 3, 4, 5, 6, 7, 8, 9, 10, 11, 12, 13, 14, 15, 16] (by decide) rfl
  refine lv_istore (lv' := [(5, .int (nI (x_at n F vg vq))), (0, .ref b), (1, .ref h), (2, .ref hm), (3, .ref ao), (4, .int (nI (5 * j)))]) hx hb dL_law_482 hl (by decide) rfl (fun ls hl => ?_)
  have hl : lv_has ls 9 [(0, .ref b), (1, .ref h), (2, .ref hm), (3, .ref ao), (4, .int (nI (5 * j))), (5, .int (nI (x_at n F vg vq)))] := lv_sub hl [1, 2, 3, 4, 5, 0] rfl
  refine lv_aload_n hx hb dL_law_484 rfl (lv_at hl 2 rfl) ?_
  refine rv_arg hx hb hX hbl hbA hS hl (k := 1) (by omega) hL ev1 dL_law_485 dL_law_486 dL_law_488 (by decide) dL_law_489 dL_law_490 ?_
  refine rv_arg hx hb hX hbl hbA hS hl (k := 2) (by omega) hL ev2 dL_law_491 dL_law_492 dL_law_494 (by decide) dL_law_495 dL_law_496 ?_
  have hPc := hP.sub (ws' := wM hm q1 e1 q2 e2 cI th n F ct n3 G3 c3) [19, 20, 21, 22, 23, 24, 25, 26, 27, 28, 29, 30, 31, 32, 33, 34, 35] rfl
  have hDc := hD.sub (ws' := wM hm q1 e1 q2 e2 cI th n F ct n3 G3 c3) [19, 20, 21, 22, 23, 24, 25, 26, 27, 28, 29, 30, 31, 32, 33, 34, 35] (by decide) rfl
  have hFc := va_free (wc := wM hm q1 e1 q2 e2 cI th n F ct n3 G3 c3) hD hS hA [19, 20, 21, 22, 23, 24, 25, 26, 27, 28, 29, 30, 31, 32, 33, 34, 35] rfl
  refine va_calli (va_runV (As := [.int vg, .int vq]) (rest := []) ⟨hx, hb, hml, hown, hts⟩ (c_X3_at l dC dI cI hm q1 e1 q2 e2 th n F ct n3 G3 c3 H1.size vg vq hn) (cwV 2 hts gL_law_X3_at rfl rfl rfl (by decide +kernel) ⟨Nat.le_of_ble_eq_true rfl, Nat.le_of_ble_eq_true rfl⟩) ⟨PW.blind, va_recv hKi hPc (ci := 3) (q0 := 0) rfl rfl, fun U hU hW => ⟨rfl, PW.go hPc hKi hDc hE hS hFc hU hW⟩⟩ rfl rfl hl.1 rfl (lv_room (Nat.le_of_ble_eq_true rfl)) dL_law_497 ⟨(show 40 + 8 * j + 1 ≤ 601024 by omega), (show 500 + 40 * j + 6 ≤ 7293034 by omega)⟩) hS (fun q _ h9 => hFc q h9) hFc (fun r8 u9 t9 H2 locs ht9 hvm9 hw9 hB9 hz9 hk9 hS => ?_)
  have hw9 : r8 = mo (x_at n F vg vq) (oI (s_at n F vg vq)) 0 := hw9
  obtain ⟨hP9, hD9⟩ := hB9
  rw [ht9] at hP9
  have hP9 : va_P (dC, dI) vwCl (wM hm q1 e1 q2 e2 cI (nI (x_at n F vg vq)) n F ct n3 G3 c3) H2 := hP9
  obtain ⟨hP, hD⟩ := va_join (wr := (wB h r1 d1 r2 d2 rc cI n F n2 G ct ch ++ [(ao, .inl (cL, 1, .inr (.inl (mo (x_at n F vg vq) (vp_updL O 0 (oI (s_at n F vg vq)).toInt64) O))))])) (w1 := wM hm q1 e1 q2 e2 cI (nI (x_at n F vg vq)) n F ct n3 G3 c3) hP hD [19, 20, 21, 22, 23, 24, 25, 26, 27, 28, 29, 30, 31, 32, 33, 34, 35] [0, 1, 2, 3, 4, 5, 6, 7, 8, 9, 10, 11, 12, 13, 14, 15, 16, 17, 18] rfl rfl (by decide) (by decide) hk9 hFc hP9 hD9
  refine lv_istore (lv' := [(6, .int r8), (0, .ref b), (1, .ref h), (2, .ref hm), (3, .ref ao), (4, .int (nI (5 * j))), (5, .int (nI (x_at n F vg vq)))]) hx hb dL_law_500 hl (by decide) rfl (fun ls hl => ?_)
  have hl : lv_has ls 9 [(0, .ref b), (1, .ref h), (2, .ref hm), (3, .ref ao), (4, .int (nI (5 * j))), (5, .int (nI (x_at n F vg vq))), (6, .int r8)] := lv_sub hl [1, 2, 3, 4, 5, 6, 0] rfl
  refine lv_aload_n hx hb dL_law_502 rfl (lv_at hl 2 rfl) ?_
  have hPc := hP.sub (ws' := wM hm q1 e1 q2 e2 cI (nI (x_at n F vg vq)) n F ct n3 G3 c3) [19, 20, 21, 22, 23, 24, 25, 26, 27, 28, 29, 30, 31, 32, 33, 34, 35] rfl
  refine vp_callSi (W.runV (As := []) (rest := []) ⟨hx, hb, hml, hown, hts⟩ (c_X3_thrown l dC dI cI hm q1 e1 q2 e2 (nI (x_at n F vg vq)) n F ct n3 G3 c3) (cwV 0 hts gL_law_X3_thrown rfl rfl rfl (by decide +kernel) ⟨Nat.le_of_ble_eq_true rfl, Nat.le_of_ble_eq_true rfl⟩) ⟨PR.blind, va_recv hKi hPc (ci := 3) (q0 := 0) rfl rfl, fun U hU hW => ⟨rfl, PR.go hPc hKi hE hS hU hW⟩⟩ rfl rfl hl.1 rfl (lv_room (Nat.le_of_ble_eq_true rfl)) dL_law_503 ⟨(show 40 + 8 * j + 1 ≤ 601024 by omega), (show 500 + 40 * j + 6 ≤ 7293034 by omega)⟩) (fun r7 hr7 => ?_)
  subst hr7
  subst hw9
  have hk2 : x_at n F vg vq ≤ 2 := by unfold x_at; (repeat' split) <;> decide
  refine rv_tail hx hb hK hP 18 1 rfl rfl hk2 (mo_O (rfl)) hl dL_law_506 dL_law_508 dL_law_513 dL_law_515 dL_law_518 dL_law_519 dL_law_520 dL_law_521 dL_law_523 dL_law_524 dL_law_525 dL_law_530 (by decide) ?_
  have hfin : n ≤ 12 ∧ okR n F ∧ okK 12 F (j + 1) := ⟨hn, hR, hK0.mono (Nat.le_succ j)⟩
  refine W.widen (k := 40 + 8 * (j + 1)) (n := 500 + 40 * (j + 1)) (by omega) (by omega) ?_
  exact K _ _ _ _ _ _ _ _ _ _ _ _ _ ls ⟨hP, hD, hS, hfin.1, hfin.2.1, hfin.2.2⟩ (lv_sub hl [0, 1, 2, 3, 4] rfl)

set_option maxHeartbeats 4000000 in
set_option maxRecDepth 100000 in
theorem law_count {p : Program} {l : Launch} {e : Env} {s : State} {m : MethodId} {below : List Frame} {meth : Method} {c : Code} {b L : Nat} {xs : Nat → Int32} {dC : Nat → ClassId} {dI : Nat → Nat → Nat} {A : Nat → Prop} {h r1 : Nat} {d1 : Nat → Nat} {r2 : Nat} {d2 : Nat → Nat} {rc ao hm q1 : Nat} {e1 : Nat → Nat} {q2 : Nat} {e2 : Nat → Nat} {cI cL : ClassId} {Q : State → Prop} (C : LC p l s m meth c b L xs dC dI A cI cL) {j : Nat} (hj : 5 * j + 5 ≤ L) {n : Nat} {F : Nat → Nat → Int32} {n2 : Nat} {G : Nat → Nat → Int32} {ct ch : Nat → Int32} {O : Nat → Int64} {th : Int32} {n3 : Nat} {G3 : Nat → Nat → Int32} {c3 : Nat → Int32} {H : Heap} {locs : List Loc} (I : LI s dC dI A h r1 d1 r2 d2 rc ao hm q1 e1 q2 e2 cI cL j n F n2 G ct ch O th n3 G3 c3 H locs) {ls : Array Slot} (hl : lv_has ls 9 [(0, .ref b), (1, .ref h), (2, .ref hm), (3, .ref ao), (4, .int (nI (5 * j)))]) (K : KK p l e s m below meth c b dC dI A h r1 d1 r2 d2 rc ao hm q1 e1 q2 e2 cI cL Q j) : W p l e room_1 s m #[Value.ref b] below meth c H locs (40 + 8 * j) (500 + 40 * j) Q (F0 m 533 ls []) := by
  obtain ⟨hx, hb, hr, hml, hown, hts, hX, hbl, hlocks, hl0, hK, hE, hn1, hn2, hbA, hA, hL⟩ := C
  obtain ⟨hP, hD, hS, hn, hR, hK0⟩ := I
  have hKi := hK.sub (tys' := [(cI, .int)]) [0] rfl
  obtain ⟨vk, ev1⟩ : ∃ v : Int32, xs (5 * j + 1) = v := ⟨_, rfl⟩
  refine lv_aload_n hx hb dL_law_533 rfl (lv_at hl 1 rfl) ?_
  refine rv_arg hx hb hX hbl hbA hS hl (k := 1) (by omega) hL ev1 dL_law_534 dL_law_535 dL_law_537 (by decide) dL_law_538 dL_law_539 ?_
  refine lv_aload_n hx hb dL_law_540 rfl (lv_at hl 3 rfl) ?_
  have hPc := hP.sub (ws' := (wB h r1 d1 r2 d2 rc cI n F n2 G ct ch ++ [(ao, .inl (cL, 1, .inr (.inl O)))])) [0, 1, 2, 3, 4, 5, 6, 7, 8, 9, 10, 11, 12, 13, 14, 15, 16, 17, 18] rfl
  have hDc := hD.sub (ws' := (wB h r1 d1 r2 d2 rc cI n F n2 G ct ch ++ [(ao, .inl (cL, 1, .inr (.inl O)))])) [0, 1, 2, 3, 4, 5, 6, 7, 8, 9, 10, 11, 12, 13, 14, 15, 16, 17, 18] (by decide) rfl
  have hFc := va_free (wc := (wB h r1 d1 r2 d2 rc cI n F n2 G ct ch ++ [(ao, .inl (cL, 1, .inr (.inl O)))])) hD hS hA [0, 1, 2, 3, 4, 5, 6, 7, 8, 9, 10, 11, 12, 13, 14, 15, 16, 17, 18] rfl
  refine va_calli (vx_runSW (As := [.ref h, .int vk, .ref ao]) (rest := []) ⟨hx, hb, hml, hown, hts⟩ (c_L_count l hl0 dC dI cI cL h r1 d1 r2 d2 rc n F n2 G ct ch ao O H.size vk hn) (vx_cwSW 3 hts gL_law_L_count rfl rfl rfl (by decide +kernel) ⟨Nat.le_of_ble_eq_true rfl, Nat.le_of_ble_eq_true rfl⟩) ⟨PL.blind, fun U hU hW => ⟨rfl, PL.go hPc hK hDc hE hn1 hn2 hS hFc hU hW⟩⟩ rfl rfl hl.1 rfl (lv_room (Nat.le_of_ble_eq_true rfl)) dL_law_541 ⟨(show 40 + 8 * j + 1 ≤ 601024 by omega), (show 500 + 40 * j + 6 ≤ 7293034 by omega)⟩) hS (fun q _ h9 => hFc q h9) hFc (fun r9 u9 t9 H1 locs ht9 hvm9 hw9 hB9 hz9 hk9 hS => ?_)
  have hw9 : r9 = nI (x_cnt vk) := hw9
  subst hw9
  obtain ⟨hP9, hD9⟩ := hB9
  rw [ht9] at hP9
  obtain ⟨hP, hD⟩ := va_join (wr := wM hm q1 e1 q2 e2 cI th n F ct n3 G3 c3) (w1 := (wB h r1 d1 r2 d2 rc cI n F n2 G ct ch ++ [(ao, .inl (cL, 1, .inr (.inl (mo (x_cnt vk) (vp_updL O 0 (s_cnt n F ct vk).toInt64) O))))])) hP hD [0, 1, 2, 3, 4, 5, 6, 7, 8, 9, 10, 11, 12, 13, 14, 15, 16, 17, 18] [19, 20, 21, 22, 23, 24, 25, 26, 27, 28, 29, 30, 31, 32, 33, 34, 35] rfl rfl (by decide) (by decide) hk9 hFc hP9 hD9
  have hP := hP.sub (ws' := (wB h r1 d1 r2 d2 rc cI n F n2 G ct ch ++ [(ao, .inl (cL, 1, .inr (.inl (mo (x_cnt vk) (vp_updL O 0 (s_cnt n F ct vk).toInt64) O))))]) ++ wM hm q1 e1 q2 e2 cI th n F ct n3 G3 c3) [17, 18, 19, 20, 21, 22, 23, 24, 25, 26, 27, 28, 29, 30, 31, 32, 33, 34, 35, 0, 1, 2, 3, 4, 5, 6, 7, 8, 9, 10, 11, 12, 13, 14, 15, 16] rfl
  have hD := hD.sub (ws' := (wB h r1 d1 r2 d2 rc cI n F n2 G ct ch ++ [(ao, .inl (cL, 1, .inr (.inl (mo (x_cnt vk) (vp_updL O 0 (s_cnt n F ct vk).toInt64) O))))]) ++ wM hm q1 e1 q2 e2 cI th n F ct n3 G3 c3) [17, 18, 19, 20, 21, 22, 23, 24, 25, 26, 27, 28, 29, 30, 31, 32, 33, 34, 35, 0, 1, 2, 3, 4, 5, 6, 7, 8, 9, 10, 11, 12, 13, 14, 15, 16] (by decide) rfl
  refine lv_istore (lv' := [(5, .int (nI (x_cnt vk))), (0, .ref b), (1, .ref h), (2, .ref hm), (3, .ref ao), (4, .int (nI (5 * j)))]) hx hb dL_law_544 hl (by decide) rfl (fun ls hl => ?_)
  have hl : lv_has ls 9 [(0, .ref b), (1, .ref h), (2, .ref hm), (3, .ref ao), (4, .int (nI (5 * j))), (5, .int (nI (x_cnt vk)))] := lv_sub hl [1, 2, 3, 4, 5, 0] rfl
  refine lv_aload_n hx hb dL_law_546 rfl (lv_at hl 2 rfl) ?_
  refine rv_arg hx hb hX hbl hbA hS hl (k := 1) (by omega) hL ev1 dL_law_547 dL_law_548 dL_law_550 (by decide) dL_law_551 dL_law_552 ?_
  have hPc := hP.sub (ws' := wM hm q1 e1 q2 e2 cI th n F ct n3 G3 c3) [19, 20, 21, 22, 23, 24, 25, 26, 27, 28, 29, 30, 31, 32, 33, 34, 35] rfl
  have hDc := hD.sub (ws' := wM hm q1 e1 q2 e2 cI th n F ct n3 G3 c3) [19, 20, 21, 22, 23, 24, 25, 26, 27, 28, 29, 30, 31, 32, 33, 34, 35] (by decide) rfl
  have hFc := va_free (wc := wM hm q1 e1 q2 e2 cI th n F ct n3 G3 c3) hD hS hA [19, 20, 21, 22, 23, 24, 25, 26, 27, 28, 29, 30, 31, 32, 33, 34, 35] rfl
  refine va_calli (va_runV (As := [.int vk]) (rest := []) ⟨hx, hb, hml, hown, hts⟩ (c_X3_count l dC dI cI hm q1 e1 q2 e2 th n F ct n3 G3 c3 H1.size vk hn hR) (cwV 1 hts gL_law_X3_count rfl rfl rfl (by decide +kernel) ⟨Nat.le_of_ble_eq_true rfl, Nat.le_of_ble_eq_true rfl⟩) ⟨PW.blind, va_recv hKi hPc (ci := 3) (q0 := 0) rfl rfl, fun U hU hW => ⟨rfl, PW.go hPc hKi hDc hE hS hFc hU hW⟩⟩ rfl rfl hl.1 rfl (lv_room (Nat.le_of_ble_eq_true rfl)) dL_law_553 ⟨(show 40 + 8 * j + 1 ≤ 601024 by omega), (show 500 + 40 * j + 6 ≤ 7293034 by omega)⟩) hS (fun q _ h9 => hFc q h9) hFc (fun r8 u9 t9 H2 locs ht9 hvm9 hw9 hB9 hz9 hk9 hS => ?_)
  have hw9 : r8 = mo (x_cnt vk) (s_cnt n F ct vk) 0 := hw9
  obtain ⟨hP9, hD9⟩ := hB9
  rw [ht9] at hP9
  have hP9 : va_P (dC, dI) vwCl (wM hm q1 e1 q2 e2 cI (nI (x_cnt vk)) n F ct n3 G3 c3) H2 := hP9
  obtain ⟨hP, hD⟩ := va_join (wr := (wB h r1 d1 r2 d2 rc cI n F n2 G ct ch ++ [(ao, .inl (cL, 1, .inr (.inl (mo (x_cnt vk) (vp_updL O 0 (s_cnt n F ct vk).toInt64) O))))])) (w1 := wM hm q1 e1 q2 e2 cI (nI (x_cnt vk)) n F ct n3 G3 c3) hP hD [19, 20, 21, 22, 23, 24, 25, 26, 27, 28, 29, 30, 31, 32, 33, 34, 35] [0, 1, 2, 3, 4, 5, 6, 7, 8, 9, 10, 11, 12, 13, 14, 15, 16, 17, 18] rfl rfl (by decide) (by decide) hk9 hFc hP9 hD9
  refine lv_istore (lv' := [(6, .int r8), (0, .ref b), (1, .ref h), (2, .ref hm), (3, .ref ao), (4, .int (nI (5 * j))), (5, .int (nI (x_cnt vk)))]) hx hb dL_law_556 hl (by decide) rfl (fun ls hl => ?_)
  have hl : lv_has ls 9 [(0, .ref b), (1, .ref h), (2, .ref hm), (3, .ref ao), (4, .int (nI (5 * j))), (5, .int (nI (x_cnt vk))), (6, .int r8)] := lv_sub hl [1, 2, 3, 4, 5, 6, 0] rfl
  refine lv_aload_n hx hb dL_law_558 rfl (lv_at hl 2 rfl) ?_
  have hPc := hP.sub (ws' := wM hm q1 e1 q2 e2 cI (nI (x_cnt vk)) n F ct n3 G3 c3) [19, 20, 21, 22, 23, 24, 25, 26, 27, 28, 29, 30, 31, 32, 33, 34, 35] rfl
  refine vp_callSi (W.runV (As := []) (rest := []) ⟨hx, hb, hml, hown, hts⟩ (c_X3_thrown l dC dI cI hm q1 e1 q2 e2 (nI (x_cnt vk)) n F ct n3 G3 c3) (cwV 0 hts gL_law_X3_thrown rfl rfl rfl (by decide +kernel) ⟨Nat.le_of_ble_eq_true rfl, Nat.le_of_ble_eq_true rfl⟩) ⟨PR.blind, va_recv hKi hPc (ci := 3) (q0 := 0) rfl rfl, fun U hU hW => ⟨rfl, PR.go hPc hKi hE hS hU hW⟩⟩ rfl rfl hl.1 rfl (lv_room (Nat.le_of_ble_eq_true rfl)) dL_law_559 ⟨(show 40 + 8 * j + 1 ≤ 601024 by omega), (show 500 + 40 * j + 6 ≤ 7293034 by omega)⟩) (fun r7 hr7 => ?_)
  subst hr7
  subst hw9
  have hk2 : x_cnt vk ≤ 2 := by unfold x_cnt; (repeat' split) <;> decide
  refine rv_tail hx hb hK hP 18 1 rfl rfl hk2 (mo_O (rfl)) hl dL_law_562 dL_law_564 dL_law_569 dL_law_571 dL_law_574 dL_law_575 dL_law_576 dL_law_577 dL_law_579 dL_law_580 dL_law_581 dL_law_586 (by decide) ?_
  have hfin : n ≤ 12 ∧ okR n F ∧ okK 12 F (j + 1) := ⟨hn, hR, hK0.mono (Nat.le_succ j)⟩
  refine W.widen (k := 40 + 8 * (j + 1)) (n := 500 + 40 * (j + 1)) (by omega) (by omega) ?_
  exact K _ _ _ _ _ _ _ _ _ _ _ _ _ ls ⟨hP, hD, hS, hfin.1, hfin.2.1, hfin.2.2⟩ (lv_sub hl [0, 1, 2, 3, 4] rfl)

set_option maxHeartbeats 4000000 in
set_option maxRecDepth 100000 in
theorem law_would {p : Program} {l : Launch} {e : Env} {s : State} {m : MethodId} {below : List Frame} {meth : Method} {c : Code} {b L : Nat} {xs : Nat → Int32} {dC : Nat → ClassId} {dI : Nat → Nat → Nat} {A : Nat → Prop} {h r1 : Nat} {d1 : Nat → Nat} {r2 : Nat} {d2 : Nat → Nat} {rc ao hm q1 : Nat} {e1 : Nat → Nat} {q2 : Nat} {e2 : Nat → Nat} {cI cL : ClassId} {Q : State → Prop} (C : LC p l s m meth c b L xs dC dI A cI cL) {j : Nat} (hj : 5 * j + 5 ≤ L) {n : Nat} {F : Nat → Nat → Int32} {n2 : Nat} {G : Nat → Nat → Int32} {ct ch : Nat → Int32} {O : Nat → Int64} {th : Int32} {n3 : Nat} {G3 : Nat → Nat → Int32} {c3 : Nat → Int32} {H : Heap} {locs : List Loc} (I : LI s dC dI A h r1 d1 r2 d2 rc ao hm q1 e1 q2 e2 cI cL j n F n2 G ct ch O th n3 G3 c3 H locs) {ls : Array Slot} (hl : lv_has ls 9 [(0, .ref b), (1, .ref h), (2, .ref hm), (3, .ref ao), (4, .int (nI (5 * j)))]) (K : KK p l e s m below meth c b dC dI A h r1 d1 r2 d2 rc ao hm q1 e1 q2 e2 cI cL Q j) : W p l e room_1 s m #[Value.ref b] below meth c H locs (40 + 8 * j) (500 + 40 * j) Q (F0 m 589 ls []) := by
  obtain ⟨hx, hb, hr, hml, hown, hts, hX, hbl, hlocks, hl0, hK, hE, hn1, hn2, hbA, hA, hL⟩ := C
  obtain ⟨hP, hD, hS, hn, hR, hK0⟩ := I
  have hKi := hK.sub (tys' := [(cI, .int)]) [0] rfl
  obtain ⟨va, ev1⟩ : ∃ v : Int32, xs (5 * j + 1) = v := ⟨_, rfl⟩
  obtain ⟨vb, ev2⟩ : ∃ v : Int32, xs (5 * j + 2) = v := ⟨_, rfl⟩
  obtain ⟨vr, ev3⟩ : ∃ v : Int32, xs (5 * j + 3) = v := ⟨_, rfl⟩
  obtain ⟨vu, ev4⟩ : ∃ v : Int32, xs (5 * j + 4) = v := ⟨_, rfl⟩
  refine lv_aload_n hx hb dL_law_589 rfl (lv_at hl 1 rfl) ?_
  refine rv_arg hx hb hX hbl hbA hS hl (k := 1) (by omega) hL ev1 dL_law_590 dL_law_591 dL_law_593 (by decide) dL_law_594 dL_law_595 ?_
  refine rv_arg hx hb hX hbl hbA hS hl (k := 2) (by omega) hL ev2 dL_law_596 dL_law_597 dL_law_599 (by decide) dL_law_600 dL_law_601 ?_
  refine rv_arg hx hb hX hbl hbA hS hl (k := 3) (by omega) hL ev3 dL_law_602 dL_law_603 dL_law_605 (by decide) dL_law_606 dL_law_607 ?_
  refine rv_arg hx hb hX hbl hbA hS hl (k := 4) (by omega) hL ev4 dL_law_608 dL_law_609 dL_law_611 (by decide) dL_law_612 dL_law_613 ?_
  refine lv_aload_n hx hb dL_law_614 rfl (lv_at hl 3 rfl) ?_
  have hPc := hP.sub (ws' := (wB h r1 d1 r2 d2 rc cI n F n2 G ct ch ++ [(ao, .inl (cL, 1, .inr (.inl O)))])) [0, 1, 2, 3, 4, 5, 6, 7, 8, 9, 10, 11, 12, 13, 14, 15, 16, 17, 18] rfl
  have hDc := hD.sub (ws' := (wB h r1 d1 r2 d2 rc cI n F n2 G ct ch ++ [(ao, .inl (cL, 1, .inr (.inl O)))])) [0, 1, 2, 3, 4, 5, 6, 7, 8, 9, 10, 11, 12, 13, 14, 15, 16, 17, 18] (by decide) rfl
  have hFc := va_free (wc := (wB h r1 d1 r2 d2 rc cI n F n2 G ct ch ++ [(ao, .inl (cL, 1, .inr (.inl O)))])) hD hS hA [0, 1, 2, 3, 4, 5, 6, 7, 8, 9, 10, 11, 12, 13, 14, 15, 16, 17, 18] rfl
  refine va_calli (vx_runSW (As := [.ref h, .int va, .int vb, .int vr, .int vu, .ref ao]) (rest := []) ⟨hx, hb, hml, hown, hts⟩ (c_L_would l hl0 dC dI cI cL h r1 d1 r2 d2 rc n F n2 G ct ch ao O H.size va vb vr vu hn hR) (vx_cwSW 6 hts gL_law_L_would rfl rfl rfl (by decide +kernel) ⟨Nat.le_of_ble_eq_true rfl, Nat.le_of_ble_eq_true rfl⟩) ⟨PL.blind, fun U hU hW => ⟨rfl, PL.go hPc hK hDc hE hn1 hn2 hS hFc hU hW⟩⟩ rfl rfl hl.1 rfl (lv_room (Nat.le_of_ble_eq_true rfl)) dL_law_615 ⟨(show 40 + 8 * j + 4 ≤ 601024 by omega), (show 500 + 40 * j + 24 ≤ 7293034 by omega)⟩) hS (fun q _ h9 => hFc q h9) hFc (fun r9 u9 t9 H1 locs ht9 hvm9 hw9 hB9 hz9 hk9 hS => ?_)
  have hw9 : r9 = nI (x_would n va vb vr vu) := hw9
  subst hw9
  obtain ⟨hP9, hD9⟩ := hB9
  rw [ht9] at hP9
  obtain ⟨hP, hD⟩ := va_join (wr := wM hm q1 e1 q2 e2 cI th n F ct n3 G3 c3) (w1 := (wB h r1 d1 r2 d2 rc cI n F n2 G ct ch ++ [(ao, .inl (cL, 1, .inr (.inl (mo (x_would n va vb vr vu) (vp_updL O 0 (if vu = 0 then s_gain F (cl va) (cl vb) vr else s_gain F (cl vb) (cl va) (2 - vr)).toInt64) O))))])) hP hD [0, 1, 2, 3, 4, 5, 6, 7, 8, 9, 10, 11, 12, 13, 14, 15, 16, 17, 18] [19, 20, 21, 22, 23, 24, 25, 26, 27, 28, 29, 30, 31, 32, 33, 34, 35] rfl rfl (by decide) (by decide) hk9 hFc hP9 hD9
  have hP := hP.sub (ws' := (wB h r1 d1 r2 d2 rc cI n F n2 G ct ch ++ [(ao, .inl (cL, 1, .inr (.inl (mo (x_would n va vb vr vu) (vp_updL O 0 (if vu = 0 then s_gain F (cl va) (cl vb) vr else s_gain F (cl vb) (cl va) (2 - vr)).toInt64) O))))]) ++ wM hm q1 e1 q2 e2 cI th n F ct n3 G3 c3) [17, 18, 19, 20, 21, 22, 23, 24, 25, 26, 27, 28, 29, 30, 31, 32, 33, 34, 35, 0, 1, 2, 3, 4, 5, 6, 7, 8, 9, 10, 11, 12, 13, 14, 15, 16] rfl
  have hD := hD.sub (ws' := (wB h r1 d1 r2 d2 rc cI n F n2 G ct ch ++ [(ao, .inl (cL, 1, .inr (.inl (mo (x_would n va vb vr vu) (vp_updL O 0 (if vu = 0 then s_gain F (cl va) (cl vb) vr else s_gain F (cl vb) (cl va) (2 - vr)).toInt64) O))))]) ++ wM hm q1 e1 q2 e2 cI th n F ct n3 G3 c3) [17, 18, 19, 20, 21, 22, 23, 24, 25, 26, 27, 28, 29, 30, 31, 32, 33, 34, 35, 0, 1, 2, 3, 4, 5, 6, 7, 8, 9, 10, 11, 12, 13, 14, 15, 16] (by decide) rfl
  refine lv_istore (lv' := [(5, .int (nI (x_would n va vb vr vu))), (0, .ref b), (1, .ref h), (2, .ref hm), (3, .ref ao), (4, .int (nI (5 * j)))]) hx hb dL_law_618 hl (by decide) rfl (fun ls hl => ?_)
  have hl : lv_has ls 9 [(0, .ref b), (1, .ref h), (2, .ref hm), (3, .ref ao), (4, .int (nI (5 * j))), (5, .int (nI (x_would n va vb vr vu)))] := lv_sub hl [1, 2, 3, 4, 5, 0] rfl
  refine lv_aload_n hx hb dL_law_620 rfl (lv_at hl 2 rfl) ?_
  refine rv_arg hx hb hX hbl hbA hS hl (k := 1) (by omega) hL ev1 dL_law_621 dL_law_622 dL_law_624 (by decide) dL_law_625 dL_law_626 ?_
  refine rv_arg hx hb hX hbl hbA hS hl (k := 2) (by omega) hL ev2 dL_law_627 dL_law_628 dL_law_630 (by decide) dL_law_631 dL_law_632 ?_
  refine rv_arg hx hb hX hbl hbA hS hl (k := 3) (by omega) hL ev3 dL_law_633 dL_law_634 dL_law_636 (by decide) dL_law_637 dL_law_638 ?_
  refine rv_arg hx hb hX hbl hbA hS hl (k := 4) (by omega) hL ev4 dL_law_639 dL_law_640 dL_law_642 (by decide) dL_law_643 dL_law_644 ?_
  have hPc := hP.sub (ws' := wM hm q1 e1 q2 e2 cI th n F ct n3 G3 c3) [19, 20, 21, 22, 23, 24, 25, 26, 27, 28, 29, 30, 31, 32, 33, 34, 35] rfl
  have hDc := hD.sub (ws' := wM hm q1 e1 q2 e2 cI th n F ct n3 G3 c3) [19, 20, 21, 22, 23, 24, 25, 26, 27, 28, 29, 30, 31, 32, 33, 34, 35] (by decide) rfl
  have hFc := va_free (wc := wM hm q1 e1 q2 e2 cI th n F ct n3 G3 c3) hD hS hA [19, 20, 21, 22, 23, 24, 25, 26, 27, 28, 29, 30, 31, 32, 33, 34, 35] rfl
  refine va_calli (va_runV (As := [.int va, .int vb, .int vr, .int vu]) (rest := []) ⟨hx, hb, hml, hown, hts⟩ (c_X3_would l dC dI cI hm q1 e1 q2 e2 th n F ct n3 G3 c3 H1.size va vb vr vu hn hR) (cwV 4 hts gL_law_X3_would rfl rfl rfl (by decide +kernel) ⟨Nat.le_of_ble_eq_true rfl, Nat.le_of_ble_eq_true rfl⟩) ⟨PW.blind, va_recv hKi hPc (ci := 3) (q0 := 0) rfl rfl, fun U hU hW => ⟨rfl, PW.go hPc hKi hDc hE hS hFc hU hW⟩⟩ rfl rfl hl.1 rfl (lv_room (Nat.le_of_ble_eq_true rfl)) dL_law_645 ⟨(show 40 + 8 * j + 4 ≤ 601024 by omega), (show 500 + 40 * j + 24 ≤ 7293034 by omega)⟩) hS (fun q _ h9 => hFc q h9) hFc (fun r8 u9 t9 H2 locs ht9 hvm9 hw9 hB9 hz9 hk9 hS => ?_)
  have hw9 : r8 = mo (x_would n va vb vr vu) (if vu = 0 then s_gain F (cl va) (cl vb) vr else s_gain F (cl vb) (cl va) (2 - vr)) 0 := hw9
  obtain ⟨hP9, hD9⟩ := hB9
  rw [ht9] at hP9
  have hP9 : va_P (dC, dI) vwCl (wM hm q1 e1 q2 e2 cI (nI (x_would n va vb vr vu)) n F ct n3 G3 c3) H2 := hP9
  obtain ⟨hP, hD⟩ := va_join (wr := (wB h r1 d1 r2 d2 rc cI n F n2 G ct ch ++ [(ao, .inl (cL, 1, .inr (.inl (mo (x_would n va vb vr vu) (vp_updL O 0 (if vu = 0 then s_gain F (cl va) (cl vb) vr else s_gain F (cl vb) (cl va) (2 - vr)).toInt64) O))))])) (w1 := wM hm q1 e1 q2 e2 cI (nI (x_would n va vb vr vu)) n F ct n3 G3 c3) hP hD [19, 20, 21, 22, 23, 24, 25, 26, 27, 28, 29, 30, 31, 32, 33, 34, 35] [0, 1, 2, 3, 4, 5, 6, 7, 8, 9, 10, 11, 12, 13, 14, 15, 16, 17, 18] rfl rfl (by decide) (by decide) hk9 hFc hP9 hD9
  refine lv_istore (lv' := [(6, .int r8), (0, .ref b), (1, .ref h), (2, .ref hm), (3, .ref ao), (4, .int (nI (5 * j))), (5, .int (nI (x_would n va vb vr vu)))]) hx hb dL_law_648 hl (by decide) rfl (fun ls hl => ?_)
  have hl : lv_has ls 9 [(0, .ref b), (1, .ref h), (2, .ref hm), (3, .ref ao), (4, .int (nI (5 * j))), (5, .int (nI (x_would n va vb vr vu))), (6, .int r8)] := lv_sub hl [1, 2, 3, 4, 5, 6, 0] rfl
  refine lv_aload_n hx hb dL_law_650 rfl (lv_at hl 2 rfl) ?_
  have hPc := hP.sub (ws' := wM hm q1 e1 q2 e2 cI (nI (x_would n va vb vr vu)) n F ct n3 G3 c3) [19, 20, 21, 22, 23, 24, 25, 26, 27, 28, 29, 30, 31, 32, 33, 34, 35] rfl
  refine vp_callSi (W.runV (As := []) (rest := []) ⟨hx, hb, hml, hown, hts⟩ (c_X3_thrown l dC dI cI hm q1 e1 q2 e2 (nI (x_would n va vb vr vu)) n F ct n3 G3 c3) (cwV 0 hts gL_law_X3_thrown rfl rfl rfl (by decide +kernel) ⟨Nat.le_of_ble_eq_true rfl, Nat.le_of_ble_eq_true rfl⟩) ⟨PR.blind, va_recv hKi hPc (ci := 3) (q0 := 0) rfl rfl, fun U hU hW => ⟨rfl, PR.go hPc hKi hE hS hU hW⟩⟩ rfl rfl hl.1 rfl (lv_room (Nat.le_of_ble_eq_true rfl)) dL_law_651 ⟨(show 40 + 8 * j + 4 ≤ 601024 by omega), (show 500 + 40 * j + 24 ≤ 7293034 by omega)⟩) (fun r7 hr7 => ?_)
  subst hr7
  subst hw9
  have hk2 : x_would n va vb vr vu ≤ 2 := by unfold x_would; (repeat' split) <;> decide
  refine rv_tail hx hb hK hP 18 1 rfl rfl hk2 (mo_O (rfl)) hl dL_law_654 dL_law_656 dL_law_661 dL_law_663 dL_law_666 dL_law_667 dL_law_668 dL_law_669 dL_law_671 dL_law_672 dL_law_673 dL_law_678 (by decide) ?_
  have hfin : n ≤ 12 ∧ okR n F ∧ okK 12 F (j + 1) := ⟨hn, hR, hK0.mono (Nat.le_succ j)⟩
  refine W.widen (k := 40 + 8 * (j + 1)) (n := 500 + 40 * (j + 1)) (by omega) (by omega) ?_
  exact K _ _ _ _ _ _ _ _ _ _ _ _ _ ls ⟨hP, hD, hS, hfin.1, hfin.2.1, hfin.2.2⟩ (lv_sub hl [0, 1, 2, 3, 4] rfl)

set_option maxHeartbeats 4000000 in
set_option maxRecDepth 100000 in
theorem law_chance {p : Program} {l : Launch} {e : Env} {s : State} {m : MethodId} {below : List Frame} {meth : Method} {c : Code} {b L : Nat} {xs : Nat → Int32} {dC : Nat → ClassId} {dI : Nat → Nat → Nat} {A : Nat → Prop} {h r1 : Nat} {d1 : Nat → Nat} {r2 : Nat} {d2 : Nat → Nat} {rc ao hm q1 : Nat} {e1 : Nat → Nat} {q2 : Nat} {e2 : Nat → Nat} {cI cL : ClassId} {Q : State → Prop} (C : LC p l s m meth c b L xs dC dI A cI cL) {j : Nat} (hj : 5 * j + 5 ≤ L) {n : Nat} {F : Nat → Nat → Int32} {n2 : Nat} {G : Nat → Nat → Int32} {ct ch : Nat → Int32} {O : Nat → Int64} {th : Int32} {n3 : Nat} {G3 : Nat → Nat → Int32} {c3 : Nat → Int32} {H : Heap} {locs : List Loc} (I : LI s dC dI A h r1 d1 r2 d2 rc ao hm q1 e1 q2 e2 cI cL j n F n2 G ct ch O th n3 G3 c3 H locs) {ls : Array Slot} (hl : lv_has ls 9 [(0, .ref b), (1, .ref h), (2, .ref hm), (3, .ref ao), (4, .int (nI (5 * j)))]) (K : KK p l e s m below meth c b dC dI A h r1 d1 r2 d2 rc ao hm q1 e1 q2 e2 cI cL Q j) : W p l e room_1 s m #[Value.ref b] below meth c H locs (40 + 8 * j) (500 + 40 * j) Q (F0 m 681 ls []) := by
  obtain ⟨hx, hb, hr, hml, hown, hts, hX, hbl, hlocks, hl0, hK, hE, hn1, hn2, hbA, hA, hL⟩ := C
  obtain ⟨hP, hD, hS, hn, hR, hK0⟩ := I
  have hKi := hK.sub (tys' := [(cI, .int)]) [0] rfl
  obtain ⟨va, ev1⟩ : ∃ v : Int32, xs (5 * j + 1) = v := ⟨_, rfl⟩
  obtain ⟨vb, ev2⟩ : ∃ v : Int32, xs (5 * j + 2) = v := ⟨_, rfl⟩
  obtain ⟨vk, ev3⟩ : ∃ v : Int32, xs (5 * j + 3) = v := ⟨_, rfl⟩
  refine lv_aload_n hx hb dL_law_681 rfl (lv_at hl 1 rfl) ?_
  refine rv_arg hx hb hX hbl hbA hS hl (k := 1) (by omega) hL ev1 dL_law_682 dL_law_683 dL_law_685 (by decide) dL_law_686 dL_law_687 ?_
  refine rv_arg hx hb hX hbl hbA hS hl (k := 2) (by omega) hL ev2 dL_law_688 dL_law_689 dL_law_691 (by decide) dL_law_692 dL_law_693 ?_
  refine rv_arg hx hb hX hbl hbA hS hl (k := 3) (by omega) hL ev3 dL_law_694 dL_law_695 dL_law_697 (by decide) dL_law_698 dL_law_699 ?_
  refine lv_aload_n hx hb dL_law_700 rfl (lv_at hl 3 rfl) ?_
  have hPc := hP.sub (ws' := (wB h r1 d1 r2 d2 rc cI n F n2 G ct ch ++ [(ao, .inl (cL, 1, .inr (.inl O)))])) [0, 1, 2, 3, 4, 5, 6, 7, 8, 9, 10, 11, 12, 13, 14, 15, 16, 17, 18] rfl
  have hDc := hD.sub (ws' := (wB h r1 d1 r2 d2 rc cI n F n2 G ct ch ++ [(ao, .inl (cL, 1, .inr (.inl O)))])) [0, 1, 2, 3, 4, 5, 6, 7, 8, 9, 10, 11, 12, 13, 14, 15, 16, 17, 18] (by decide) rfl
  have hFc := va_free (wc := (wB h r1 d1 r2 d2 rc cI n F n2 G ct ch ++ [(ao, .inl (cL, 1, .inr (.inl O)))])) hD hS hA [0, 1, 2, 3, 4, 5, 6, 7, 8, 9, 10, 11, 12, 13, 14, 15, 16, 17, 18] rfl
  refine va_calli (vx_runSW (As := [.ref h, .int va, .int vb, .int vk, .ref ao]) (rest := []) ⟨hx, hb, hml, hown, hts⟩ (c_L_chance l hl0 dC dI cI cL h r1 d1 r2 d2 rc n F n2 G ct ch ao O H.size va vb vk hn hR) (vx_cwSW 5 hts gL_law_L_chance rfl rfl rfl (by decide +kernel) ⟨Nat.le_of_ble_eq_true rfl, Nat.le_of_ble_eq_true rfl⟩) ⟨PL.blind, fun U hU hW => ⟨rfl, PL.go hPc hK hDc hE hn1 hn2 hS hFc hU hW⟩⟩ rfl rfl hl.1 rfl (lv_room (Nat.le_of_ble_eq_true rfl)) dL_law_701 ⟨(show 40 + 8 * j + 4 ≤ 601024 by omega), (show 500 + 40 * j + 24 ≤ 7293034 by omega)⟩) hS (fun q _ h9 => hFc q h9) hFc (fun r9 u9 t9 H1 locs ht9 hvm9 hw9 hB9 hz9 hk9 hS => ?_)
  have hw9 : r9 = nI (x_chance n va vb vk) := hw9
  subst hw9
  obtain ⟨hP9, hD9⟩ := hB9
  rw [ht9] at hP9
  obtain ⟨hP, hD⟩ := va_join (wr := wM hm q1 e1 q2 e2 cI th n F ct n3 G3 c3) (w1 := (wB h r1 d1 r2 d2 rc cI n F n2 G ct (mo (x_chance n va vb vk) (s_chR (s_exp F (cl va) (cl vb)) (cl vk) ch) ch) ++ [(ao, .inl (cL, 1, .inr (.inl (mo (x_chance n va vb vk) (vp_updL O 0 (s_chR (s_exp F (cl va) (cl vb)) (cl vk) ch (cl vk)).toInt64) O))))])) hP hD [0, 1, 2, 3, 4, 5, 6, 7, 8, 9, 10, 11, 12, 13, 14, 15, 16, 17, 18] [19, 20, 21, 22, 23, 24, 25, 26, 27, 28, 29, 30, 31, 32, 33, 34, 35] rfl rfl (by decide) (by decide) hk9 hFc hP9 hD9
  have hP := hP.sub (ws' := (wB h r1 d1 r2 d2 rc cI n F n2 G ct (mo (x_chance n va vb vk) (s_chR (s_exp F (cl va) (cl vb)) (cl vk) ch) ch) ++ [(ao, .inl (cL, 1, .inr (.inl (mo (x_chance n va vb vk) (vp_updL O 0 (s_chR (s_exp F (cl va) (cl vb)) (cl vk) ch (cl vk)).toInt64) O))))]) ++ wM hm q1 e1 q2 e2 cI th n F ct n3 G3 c3) [17, 18, 19, 20, 21, 22, 23, 24, 25, 26, 27, 28, 29, 30, 31, 32, 33, 34, 35, 0, 1, 2, 3, 4, 5, 6, 7, 8, 9, 10, 11, 12, 13, 14, 15, 16] rfl
  have hD := hD.sub (ws' := (wB h r1 d1 r2 d2 rc cI n F n2 G ct (mo (x_chance n va vb vk) (s_chR (s_exp F (cl va) (cl vb)) (cl vk) ch) ch) ++ [(ao, .inl (cL, 1, .inr (.inl (mo (x_chance n va vb vk) (vp_updL O 0 (s_chR (s_exp F (cl va) (cl vb)) (cl vk) ch (cl vk)).toInt64) O))))]) ++ wM hm q1 e1 q2 e2 cI th n F ct n3 G3 c3) [17, 18, 19, 20, 21, 22, 23, 24, 25, 26, 27, 28, 29, 30, 31, 32, 33, 34, 35, 0, 1, 2, 3, 4, 5, 6, 7, 8, 9, 10, 11, 12, 13, 14, 15, 16] (by decide) rfl
  refine lv_istore (lv' := [(5, .int (nI (x_chance n va vb vk))), (0, .ref b), (1, .ref h), (2, .ref hm), (3, .ref ao), (4, .int (nI (5 * j)))]) hx hb dL_law_704 hl (by decide) rfl (fun ls hl => ?_)
  have hl : lv_has ls 9 [(0, .ref b), (1, .ref h), (2, .ref hm), (3, .ref ao), (4, .int (nI (5 * j))), (5, .int (nI (x_chance n va vb vk)))] := lv_sub hl [1, 2, 3, 4, 5, 0] rfl
  refine lv_aload_n hx hb dL_law_706 rfl (lv_at hl 2 rfl) ?_
  refine rv_arg hx hb hX hbl hbA hS hl (k := 1) (by omega) hL ev1 dL_law_707 dL_law_708 dL_law_710 (by decide) dL_law_711 dL_law_712 ?_
  refine rv_arg hx hb hX hbl hbA hS hl (k := 2) (by omega) hL ev2 dL_law_713 dL_law_714 dL_law_716 (by decide) dL_law_717 dL_law_718 ?_
  refine rv_arg hx hb hX hbl hbA hS hl (k := 3) (by omega) hL ev3 dL_law_719 dL_law_720 dL_law_722 (by decide) dL_law_723 dL_law_724 ?_
  have hPc := hP.sub (ws' := wM hm q1 e1 q2 e2 cI th n F ct n3 G3 c3) [19, 20, 21, 22, 23, 24, 25, 26, 27, 28, 29, 30, 31, 32, 33, 34, 35] rfl
  have hDc := hD.sub (ws' := wM hm q1 e1 q2 e2 cI th n F ct n3 G3 c3) [19, 20, 21, 22, 23, 24, 25, 26, 27, 28, 29, 30, 31, 32, 33, 34, 35] (by decide) rfl
  have hFc := va_free (wc := wM hm q1 e1 q2 e2 cI th n F ct n3 G3 c3) hD hS hA [19, 20, 21, 22, 23, 24, 25, 26, 27, 28, 29, 30, 31, 32, 33, 34, 35] rfl
  refine va_calli (va_runV (As := [.int va, .int vb, .int vk]) (rest := []) ⟨hx, hb, hml, hown, hts⟩ (c_X3_chance l dC dI cI hm q1 e1 q2 e2 th n F ct n3 G3 c3 H1.size va vb vk hn hR) (cwV 3 hts gL_law_X3_chance rfl rfl rfl (by decide +kernel) ⟨Nat.le_of_ble_eq_true rfl, Nat.le_of_ble_eq_true rfl⟩) ⟨PW.blind, va_recv hKi hPc (ci := 3) (q0 := 0) rfl rfl, fun U hU hW => ⟨rfl, PW.go hPc hKi hDc hE hS hFc hU hW⟩⟩ rfl rfl hl.1 rfl (lv_room (Nat.le_of_ble_eq_true rfl)) dL_law_725 ⟨(show 40 + 8 * j + 5 ≤ 601024 by omega), (show 500 + 40 * j + 34 ≤ 7293034 by omega)⟩) hS (fun q _ h9 => hFc q h9) hFc (fun r8 u9 t9 H2 locs ht9 hvm9 hw9 hB9 hz9 hk9 hS => ?_)
  have hw9 : r8 = mo (x_chance n va vb vk) (s_chR (s_exp F (cl va) (cl vb)) (cl vk) (fun _ => 0) (cl vk)) 0 := hw9
  obtain ⟨hP9, hD9⟩ := hB9
  rw [ht9] at hP9
  have hP9 : va_P (dC, dI) vwCl (wM hm q1 e1 q2 e2 cI (nI (x_chance n va vb vk)) n F ct n3 G3 c3) H2 := hP9
  obtain ⟨hP, hD⟩ := va_join (wr := (wB h r1 d1 r2 d2 rc cI n F n2 G ct (mo (x_chance n va vb vk) (s_chR (s_exp F (cl va) (cl vb)) (cl vk) ch) ch) ++ [(ao, .inl (cL, 1, .inr (.inl (mo (x_chance n va vb vk) (vp_updL O 0 (s_chR (s_exp F (cl va) (cl vb)) (cl vk) ch (cl vk)).toInt64) O))))])) (w1 := wM hm q1 e1 q2 e2 cI (nI (x_chance n va vb vk)) n F ct n3 G3 c3) hP hD [19, 20, 21, 22, 23, 24, 25, 26, 27, 28, 29, 30, 31, 32, 33, 34, 35] [0, 1, 2, 3, 4, 5, 6, 7, 8, 9, 10, 11, 12, 13, 14, 15, 16, 17, 18] rfl rfl (by decide) (by decide) hk9 hFc hP9 hD9
  refine lv_istore (lv' := [(6, .int r8), (0, .ref b), (1, .ref h), (2, .ref hm), (3, .ref ao), (4, .int (nI (5 * j))), (5, .int (nI (x_chance n va vb vk)))]) hx hb dL_law_728 hl (by decide) rfl (fun ls hl => ?_)
  have hl : lv_has ls 9 [(0, .ref b), (1, .ref h), (2, .ref hm), (3, .ref ao), (4, .int (nI (5 * j))), (5, .int (nI (x_chance n va vb vk))), (6, .int r8)] := lv_sub hl [1, 2, 3, 4, 5, 6, 0] rfl
  refine lv_aload_n hx hb dL_law_730 rfl (lv_at hl 2 rfl) ?_
  have hPc := hP.sub (ws' := wM hm q1 e1 q2 e2 cI (nI (x_chance n va vb vk)) n F ct n3 G3 c3) [19, 20, 21, 22, 23, 24, 25, 26, 27, 28, 29, 30, 31, 32, 33, 34, 35] rfl
  refine vp_callSi (W.runV (As := []) (rest := []) ⟨hx, hb, hml, hown, hts⟩ (c_X3_thrown l dC dI cI hm q1 e1 q2 e2 (nI (x_chance n va vb vk)) n F ct n3 G3 c3) (cwV 0 hts gL_law_X3_thrown rfl rfl rfl (by decide +kernel) ⟨Nat.le_of_ble_eq_true rfl, Nat.le_of_ble_eq_true rfl⟩) ⟨PR.blind, va_recv hKi hPc (ci := 3) (q0 := 0) rfl rfl, fun U hU hW => ⟨rfl, PR.go hPc hKi hE hS hU hW⟩⟩ rfl rfl hl.1 rfl (lv_room (Nat.le_of_ble_eq_true rfl)) dL_law_731 ⟨(show 40 + 8 * j + 5 ≤ 601024 by omega), (show 500 + 40 * j + 34 ≤ 7293034 by omega)⟩) (fun r7 hr7 => ?_)
  subst hr7
  subst hw9
  have hk2 : x_chance n va vb vk ≤ 2 := by unfold x_chance; (repeat' split) <;> decide
  refine rv_tail hx hb hK hP 18 1 rfl rfl hk2 (mo_O (chR_eq _ _ _ _)) hl dL_law_734 dL_law_736 dL_law_741 dL_law_743 dL_law_746 dL_law_747 dL_law_748 dL_law_749 dL_law_751 dL_law_752 dL_law_753 dL_law_758 (by decide) ?_
  have hfin : n ≤ 12 ∧ okR n F ∧ okK 12 F (j + 1) := ⟨hn, hR, hK0.mono (Nat.le_succ j)⟩
  refine W.widen (k := 40 + 8 * (j + 1)) (n := 500 + 40 * (j + 1)) (by omega) (by omega) ?_
  exact K _ _ _ _ _ _ _ _ _ _ _ _ _ ls ⟨hP, hD, hS, hfin.1, hfin.2.1, hfin.2.2⟩ (lv_sub hl [0, 1, 2, 3, 4] rfl)

set_option maxHeartbeats 4000000 in
set_option maxRecDepth 100000 in
theorem law_match {p : Program} {l : Launch} {e : Env} {s : State} {m : MethodId} {below : List Frame} {meth : Method} {c : Code} {b L : Nat} {xs : Nat → Int32} {dC : Nat → ClassId} {dI : Nat → Nat → Nat} {A : Nat → Prop} {h r1 : Nat} {d1 : Nat → Nat} {r2 : Nat} {d2 : Nat → Nat} {rc ao hm q1 : Nat} {e1 : Nat → Nat} {q2 : Nat} {e2 : Nat → Nat} {cI cL : ClassId} {Q : State → Prop} (C : LC p l s m meth c b L xs dC dI A cI cL) {j : Nat} (hj : 5 * j + 5 ≤ L) {n : Nat} {F : Nat → Nat → Int32} {n2 : Nat} {G : Nat → Nat → Int32} {ct ch : Nat → Int32} {O : Nat → Int64} {th : Int32} {n3 : Nat} {G3 : Nat → Nat → Int32} {c3 : Nat → Int32} {H : Heap} {locs : List Loc} (I : LI s dC dI A h r1 d1 r2 d2 rc ao hm q1 e1 q2 e2 cI cL j n F n2 G ct ch O th n3 G3 c3 H locs) {ls : Array Slot} (hl : lv_has ls 9 [(0, .ref b), (1, .ref h), (2, .ref hm), (3, .ref ao), (4, .int (nI (5 * j)))]) (K : KK p l e s m below meth c b dC dI A h r1 d1 r2 d2 rc ao hm q1 e1 q2 e2 cI cL Q j) : W p l e room_1 s m #[Value.ref b] below meth c H locs (40 + 8 * j) (500 + 40 * j) Q (F0 m 761 ls []) := by
  obtain ⟨hx, hb, hr, hml, hown, hts, hX, hbl, hlocks, hl0, hK, hE, hn1, hn2, hbA, hA, hL⟩ := C
  obtain ⟨hP, hD, hS, hn, hR, hK0⟩ := I
  have hKi := hK.sub (tys' := [(cI, .int)]) [0] rfl
  obtain ⟨va, ev1⟩ : ∃ v : Int32, xs (5 * j + 1) = v := ⟨_, rfl⟩
  refine lv_aload_n hx hb dL_law_761 rfl (lv_at hl 1 rfl) ?_
  refine rv_arg hx hb hX hbl hbA hS hl (k := 1) (by omega) hL ev1 dL_law_762 dL_law_763 dL_law_765 (by decide) dL_law_766 dL_law_767 ?_
  refine lv_aload_n hx hb dL_law_768 rfl (lv_at hl 3 rfl) ?_
  have hPc := hP.sub (ws' := (wB h r1 d1 r2 d2 rc cI n F n2 G ct ch ++ [(ao, .inl (cL, 1, .inr (.inl O)))])) [0, 1, 2, 3, 4, 5, 6, 7, 8, 9, 10, 11, 12, 13, 14, 15, 16, 17, 18] rfl
  have hDc := hD.sub (ws' := (wB h r1 d1 r2 d2 rc cI n F n2 G ct ch ++ [(ao, .inl (cL, 1, .inr (.inl O)))])) [0, 1, 2, 3, 4, 5, 6, 7, 8, 9, 10, 11, 12, 13, 14, 15, 16, 17, 18] (by decide) rfl
  have hFc := va_free (wc := (wB h r1 d1 r2 d2 rc cI n F n2 G ct ch ++ [(ao, .inl (cL, 1, .inr (.inl O)))])) hD hS hA [0, 1, 2, 3, 4, 5, 6, 7, 8, 9, 10, 11, 12, 13, 14, 15, 16, 17, 18] rfl
  refine va_calli (vx_runSW (As := [.ref h, .int va, .ref ao]) (rest := []) ⟨hx, hb, hml, hown, hts⟩ (c_L_match l hl0 dC dI cI cL h r1 d1 r2 d2 rc n F n2 G ct ch ao O H.size va hn hR) (vx_cwSW 3 hts gL_law_L_match rfl rfl rfl (by decide +kernel) ⟨Nat.le_of_ble_eq_true rfl, Nat.le_of_ble_eq_true rfl⟩) ⟨PL.blind, fun U hU hW => ⟨rfl, PL.go hPc hK hDc hE hn1 hn2 hS hFc hU hW⟩⟩ rfl rfl hl.1 rfl (lv_room (Nat.le_of_ble_eq_true rfl)) dL_law_769 ⟨(show 40 + 8 * j + 1 ≤ 601024 by omega), (show 500 + 40 * j + 6 ≤ 7293034 by omega)⟩) hS (fun q _ h9 => hFc q h9) hFc (fun r9 u9 t9 H1 locs ht9 hvm9 hw9 hB9 hz9 hk9 hS => ?_)
  have hw9 : r9 = nI (x_cw n va) := hw9
  subst hw9
  obtain ⟨hP9, hD9⟩ := hB9
  rw [ht9] at hP9
  obtain ⟨hP, hD⟩ := va_join (wr := wM hm q1 e1 q2 e2 cI th n F ct n3 G3 c3) (w1 := (wB h r1 d1 r2 d2 rc cI n F n2 G ct ch ++ [(ao, .inl (cL, 1, .inr (.inl (mo (x_cw n va) (vp_updL O 0 (oI (s_match n F (cl va))).toInt64) O))))])) hP hD [0, 1, 2, 3, 4, 5, 6, 7, 8, 9, 10, 11, 12, 13, 14, 15, 16, 17, 18] [19, 20, 21, 22, 23, 24, 25, 26, 27, 28, 29, 30, 31, 32, 33, 34, 35] rfl rfl (by decide) (by decide) hk9 hFc hP9 hD9
  have hP := hP.sub (ws' := (wB h r1 d1 r2 d2 rc cI n F n2 G ct ch ++ [(ao, .inl (cL, 1, .inr (.inl (mo (x_cw n va) (vp_updL O 0 (oI (s_match n F (cl va))).toInt64) O))))]) ++ wM hm q1 e1 q2 e2 cI th n F ct n3 G3 c3) [17, 18, 19, 20, 21, 22, 23, 24, 25, 26, 27, 28, 29, 30, 31, 32, 33, 34, 35, 0, 1, 2, 3, 4, 5, 6, 7, 8, 9, 10, 11, 12, 13, 14, 15, 16] rfl
  have hD := hD.sub (ws' := (wB h r1 d1 r2 d2 rc cI n F n2 G ct ch ++ [(ao, .inl (cL, 1, .inr (.inl (mo (x_cw n va) (vp_updL O 0 (oI (s_match n F (cl va))).toInt64) O))))]) ++ wM hm q1 e1 q2 e2 cI th n F ct n3 G3 c3) [17, 18, 19, 20, 21, 22, 23, 24, 25, 26, 27, 28, 29, 30, 31, 32, 33, 34, 35, 0, 1, 2, 3, 4, 5, 6, 7, 8, 9, 10, 11, 12, 13, 14, 15, 16] (by decide) rfl
  refine lv_istore (lv' := [(5, .int (nI (x_cw n va))), (0, .ref b), (1, .ref h), (2, .ref hm), (3, .ref ao), (4, .int (nI (5 * j)))]) hx hb dL_law_772 hl (by decide) rfl (fun ls hl => ?_)
  have hl : lv_has ls 9 [(0, .ref b), (1, .ref h), (2, .ref hm), (3, .ref ao), (4, .int (nI (5 * j))), (5, .int (nI (x_cw n va)))] := lv_sub hl [1, 2, 3, 4, 5, 0] rfl
  refine lv_aload_n hx hb dL_law_774 rfl (lv_at hl 2 rfl) ?_
  refine rv_arg hx hb hX hbl hbA hS hl (k := 1) (by omega) hL ev1 dL_law_775 dL_law_776 dL_law_778 (by decide) dL_law_779 dL_law_780 ?_
  have hPc := hP.sub (ws' := wM hm q1 e1 q2 e2 cI th n F ct n3 G3 c3) [19, 20, 21, 22, 23, 24, 25, 26, 27, 28, 29, 30, 31, 32, 33, 34, 35] rfl
  have hDc := hD.sub (ws' := wM hm q1 e1 q2 e2 cI th n F ct n3 G3 c3) [19, 20, 21, 22, 23, 24, 25, 26, 27, 28, 29, 30, 31, 32, 33, 34, 35] (by decide) rfl
  have hFc := va_free (wc := wM hm q1 e1 q2 e2 cI th n F ct n3 G3 c3) hD hS hA [19, 20, 21, 22, 23, 24, 25, 26, 27, 28, 29, 30, 31, 32, 33, 34, 35] rfl
  refine va_calli (va_runV (As := [.int va]) (rest := []) ⟨hx, hb, hml, hown, hts⟩ (c_X3_match l dC dI cI hm q1 e1 q2 e2 th n F ct n3 G3 c3 H1.size va hn hR) (cwV 1 hts gL_law_X3_match rfl rfl rfl (by decide +kernel) ⟨Nat.le_of_ble_eq_true rfl, Nat.le_of_ble_eq_true rfl⟩) ⟨PW.blind, va_recv hKi hPc (ci := 3) (q0 := 0) rfl rfl, fun U hU hW => ⟨rfl, PW.go hPc hKi hDc hE hS hFc hU hW⟩⟩ rfl rfl hl.1 rfl (lv_room (Nat.le_of_ble_eq_true rfl)) dL_law_781 ⟨(show 40 + 8 * j + 1 ≤ 601024 by omega), (show 500 + 40 * j + 6 ≤ 7293034 by omega)⟩) hS (fun q _ h9 => hFc q h9) hFc (fun r8 u9 t9 H2 locs ht9 hvm9 hw9 hB9 hz9 hk9 hS => ?_)
  have hw9 : r8 = mo (x_cw n va) (oI (s_match n F (cl va))) 0 := hw9
  obtain ⟨hP9, hD9⟩ := hB9
  rw [ht9] at hP9
  have hP9 : va_P (dC, dI) vwCl (wM hm q1 e1 q2 e2 cI (nI (x_cw n va)) n F ct n3 G3 c3) H2 := hP9
  obtain ⟨hP, hD⟩ := va_join (wr := (wB h r1 d1 r2 d2 rc cI n F n2 G ct ch ++ [(ao, .inl (cL, 1, .inr (.inl (mo (x_cw n va) (vp_updL O 0 (oI (s_match n F (cl va))).toInt64) O))))])) (w1 := wM hm q1 e1 q2 e2 cI (nI (x_cw n va)) n F ct n3 G3 c3) hP hD [19, 20, 21, 22, 23, 24, 25, 26, 27, 28, 29, 30, 31, 32, 33, 34, 35] [0, 1, 2, 3, 4, 5, 6, 7, 8, 9, 10, 11, 12, 13, 14, 15, 16, 17, 18] rfl rfl (by decide) (by decide) hk9 hFc hP9 hD9
  refine lv_istore (lv' := [(6, .int r8), (0, .ref b), (1, .ref h), (2, .ref hm), (3, .ref ao), (4, .int (nI (5 * j))), (5, .int (nI (x_cw n va)))]) hx hb dL_law_784 hl (by decide) rfl (fun ls hl => ?_)
  have hl : lv_has ls 9 [(0, .ref b), (1, .ref h), (2, .ref hm), (3, .ref ao), (4, .int (nI (5 * j))), (5, .int (nI (x_cw n va))), (6, .int r8)] := lv_sub hl [1, 2, 3, 4, 5, 6, 0] rfl
  refine lv_aload_n hx hb dL_law_786 rfl (lv_at hl 2 rfl) ?_
  have hPc := hP.sub (ws' := wM hm q1 e1 q2 e2 cI (nI (x_cw n va)) n F ct n3 G3 c3) [19, 20, 21, 22, 23, 24, 25, 26, 27, 28, 29, 30, 31, 32, 33, 34, 35] rfl
  refine vp_callSi (W.runV (As := []) (rest := []) ⟨hx, hb, hml, hown, hts⟩ (c_X3_thrown l dC dI cI hm q1 e1 q2 e2 (nI (x_cw n va)) n F ct n3 G3 c3) (cwV 0 hts gL_law_X3_thrown rfl rfl rfl (by decide +kernel) ⟨Nat.le_of_ble_eq_true rfl, Nat.le_of_ble_eq_true rfl⟩) ⟨PR.blind, va_recv hKi hPc (ci := 3) (q0 := 0) rfl rfl, fun U hU hW => ⟨rfl, PR.go hPc hKi hE hS hU hW⟩⟩ rfl rfl hl.1 rfl (lv_room (Nat.le_of_ble_eq_true rfl)) dL_law_787 ⟨(show 40 + 8 * j + 1 ≤ 601024 by omega), (show 500 + 40 * j + 6 ≤ 7293034 by omega)⟩) (fun r7 hr7 => ?_)
  subst hr7
  subst hw9
  have hk2 : x_cw n va ≤ 2 := by unfold x_cw; (repeat' split) <;> decide
  refine rv_tail hx hb hK hP 18 1 rfl rfl hk2 (mo_O (rfl)) hl dL_law_790 dL_law_792 dL_law_797 dL_law_799 dL_law_802 dL_law_803 dL_law_804 dL_law_805 dL_law_807 dL_law_808 dL_law_809 dL_law_814 (by decide) ?_
  have hfin : n ≤ 12 ∧ okR n F ∧ okK 12 F (j + 1) := ⟨hn, hR, hK0.mono (Nat.le_succ j)⟩
  refine W.widen (k := 40 + 8 * (j + 1)) (n := 500 + 40 * (j + 1)) (by omega) (by omega) ?_
  exact K _ _ _ _ _ _ _ _ _ _ _ _ _ ls ⟨hP, hD, hS, hfin.1, hfin.2.1, hfin.2.2⟩ (lv_sub hl [0, 1, 2, 3, 4] rfl)

set_option maxHeartbeats 4000000 in
set_option maxRecDepth 100000 in
theorem law_foresee {p : Program} {l : Launch} {e : Env} {s : State} {m : MethodId} {below : List Frame} {meth : Method} {c : Code} {b L : Nat} {xs : Nat → Int32} {dC : Nat → ClassId} {dI : Nat → Nat → Nat} {A : Nat → Prop} {h r1 : Nat} {d1 : Nat → Nat} {r2 : Nat} {d2 : Nat → Nat} {rc ao hm q1 : Nat} {e1 : Nat → Nat} {q2 : Nat} {e2 : Nat → Nat} {cI cL : ClassId} {Q : State → Prop} (C : LC p l s m meth c b L xs dC dI A cI cL) {j : Nat} (hj : 5 * j + 5 ≤ L) {n : Nat} {F : Nat → Nat → Int32} {n2 : Nat} {G : Nat → Nat → Int32} {ct ch : Nat → Int32} {O : Nat → Int64} {th : Int32} {n3 : Nat} {G3 : Nat → Nat → Int32} {c3 : Nat → Int32} {H : Heap} {locs : List Loc} (I : LI s dC dI A h r1 d1 r2 d2 rc ao hm q1 e1 q2 e2 cI cL j n F n2 G ct ch O th n3 G3 c3 H locs) {ls : Array Slot} (hl : lv_has ls 9 [(0, .ref b), (1, .ref h), (2, .ref hm), (3, .ref ao), (4, .int (nI (5 * j)))]) (K : KK p l e s m below meth c b dC dI A h r1 d1 r2 d2 rc ao hm q1 e1 q2 e2 cI cL Q j) : W p l e room_1 s m #[Value.ref b] below meth c H locs (40 + 8 * j) (500 + 40 * j) Q (F0 m 830 ls []) := by
  obtain ⟨hx, hb, hr, hml, hown, hts, hX, hbl, hlocks, hl0, hK, hE, hn1, hn2, hbA, hA, hL⟩ := C
  obtain ⟨hP, hD, hS, hn, hR, hK0⟩ := I
  have hKi := hK.sub (tys' := [(cI, .int)]) [0] rfl
  obtain ⟨vk, ev1⟩ : ∃ v : Int32, xs (5 * j + 1) = v := ⟨_, rfl⟩
  refine lv_aload_n hx hb dL_law_830 rfl (lv_at hl 1 rfl) ?_
  refine rv_arg hx hb hX hbl hbA hS hl (k := 1) (by omega) hL ev1 dL_law_831 dL_law_832 dL_law_834 (by decide) dL_law_835 dL_law_836 ?_
  refine lv_aload_n hx hb dL_law_837 rfl (lv_at hl 3 rfl) ?_
  have hPc := hP.sub (ws' := (wB h r1 d1 r2 d2 rc cI n F n2 G ct ch ++ [(ao, .inl (cL, 1, .inr (.inl O)))])) [0, 1, 2, 3, 4, 5, 6, 7, 8, 9, 10, 11, 12, 13, 14, 15, 16, 17, 18] rfl
  have hDc := hD.sub (ws' := (wB h r1 d1 r2 d2 rc cI n F n2 G ct ch ++ [(ao, .inl (cL, 1, .inr (.inl O)))])) [0, 1, 2, 3, 4, 5, 6, 7, 8, 9, 10, 11, 12, 13, 14, 15, 16, 17, 18] (by decide) rfl
  have hFc := va_free (wc := (wB h r1 d1 r2 d2 rc cI n F n2 G ct ch ++ [(ao, .inl (cL, 1, .inr (.inl O)))])) hD hS hA [0, 1, 2, 3, 4, 5, 6, 7, 8, 9, 10, 11, 12, 13, 14, 15, 16, 17, 18] rfl
  refine va_calli (vx_runSW (As := [.ref h, .int vk, .ref ao]) (rest := []) ⟨hx, hb, hml, hown, hts⟩ (c_L_foresee l hl0 dC dI cI cL h r1 d1 r2 d2 rc n F n2 G ct ch ao O H.size vk hn hR) (vx_cwSW 3 hts gL_law_L_foresee rfl rfl rfl (by decide +kernel) ⟨Nat.le_of_ble_eq_true rfl, Nat.le_of_ble_eq_true rfl⟩) ⟨PL.blind, fun U hU hW => ⟨rfl, PL.go hPc hK hDc hE hn1 hn2 hS hFc hU hW⟩⟩ rfl rfl hl.1 rfl (lv_room (Nat.le_of_ble_eq_true rfl)) dL_law_838 ⟨(show 40 + 8 * j + 1 ≤ 601024 by omega), (show 500 + 40 * j + 6 ≤ 7293034 by omega)⟩) hS (fun q _ h9 => hFc q h9) hFc (fun r9 u9 t9 H1 locs ht9 hvm9 hw9 hB9 hz9 hk9 hS => ?_)
  have hw9 : r9 = nI (x_for vk) := hw9
  subst hw9
  obtain ⟨hP9, hD9⟩ := hB9
  rw [ht9] at hP9
  obtain ⟨hP, hD⟩ := va_join (wr := wM hm q1 e1 q2 e2 cI th n F ct n3 G3 c3) (w1 := (wB h r1 d1 r2 d2 rc cI n F (mo (x_for vk) n n2) (mo (x_for vk) (s_forU n (s_copyU F G n) (cl vk)) G) ct ch ++ [(ao, .inl (cL, 1, .inr (.inl (mo (x_for vk) (vp_updL O 0 (s_hi n (s_forU n (s_copyU F G n) (cl vk))).toInt64) O))))])) hP hD [0, 1, 2, 3, 4, 5, 6, 7, 8, 9, 10, 11, 12, 13, 14, 15, 16, 17, 18] [19, 20, 21, 22, 23, 24, 25, 26, 27, 28, 29, 30, 31, 32, 33, 34, 35] rfl rfl (by decide) (by decide) hk9 hFc hP9 hD9
  have hP := hP.sub (ws' := (wB h r1 d1 r2 d2 rc cI n F (mo (x_for vk) n n2) (mo (x_for vk) (s_forU n (s_copyU F G n) (cl vk)) G) ct ch ++ [(ao, .inl (cL, 1, .inr (.inl (mo (x_for vk) (vp_updL O 0 (s_hi n (s_forU n (s_copyU F G n) (cl vk))).toInt64) O))))]) ++ wM hm q1 e1 q2 e2 cI th n F ct n3 G3 c3) [17, 18, 19, 20, 21, 22, 23, 24, 25, 26, 27, 28, 29, 30, 31, 32, 33, 34, 35, 0, 1, 2, 3, 4, 5, 6, 7, 8, 9, 10, 11, 12, 13, 14, 15, 16] rfl
  have hD := hD.sub (ws' := (wB h r1 d1 r2 d2 rc cI n F (mo (x_for vk) n n2) (mo (x_for vk) (s_forU n (s_copyU F G n) (cl vk)) G) ct ch ++ [(ao, .inl (cL, 1, .inr (.inl (mo (x_for vk) (vp_updL O 0 (s_hi n (s_forU n (s_copyU F G n) (cl vk))).toInt64) O))))]) ++ wM hm q1 e1 q2 e2 cI th n F ct n3 G3 c3) [17, 18, 19, 20, 21, 22, 23, 24, 25, 26, 27, 28, 29, 30, 31, 32, 33, 34, 35, 0, 1, 2, 3, 4, 5, 6, 7, 8, 9, 10, 11, 12, 13, 14, 15, 16] (by decide) rfl
  refine lv_istore (lv' := [(5, .int (nI (x_for vk))), (0, .ref b), (1, .ref h), (2, .ref hm), (3, .ref ao), (4, .int (nI (5 * j)))]) hx hb dL_law_841 hl (by decide) rfl (fun ls hl => ?_)
  have hl : lv_has ls 9 [(0, .ref b), (1, .ref h), (2, .ref hm), (3, .ref ao), (4, .int (nI (5 * j))), (5, .int (nI (x_for vk)))] := lv_sub hl [1, 2, 3, 4, 5, 0] rfl
  refine lv_aload_n hx hb dL_law_843 rfl (lv_at hl 2 rfl) ?_
  refine rv_arg hx hb hX hbl hbA hS hl (k := 1) (by omega) hL ev1 dL_law_844 dL_law_845 dL_law_847 (by decide) dL_law_848 dL_law_849 ?_
  have hPc := hP.sub (ws' := wM hm q1 e1 q2 e2 cI th n F ct n3 G3 c3) [19, 20, 21, 22, 23, 24, 25, 26, 27, 28, 29, 30, 31, 32, 33, 34, 35] rfl
  have hDc := hD.sub (ws' := wM hm q1 e1 q2 e2 cI th n F ct n3 G3 c3) [19, 20, 21, 22, 23, 24, 25, 26, 27, 28, 29, 30, 31, 32, 33, 34, 35] (by decide) rfl
  have hFc := va_free (wc := wM hm q1 e1 q2 e2 cI th n F ct n3 G3 c3) hD hS hA [19, 20, 21, 22, 23, 24, 25, 26, 27, 28, 29, 30, 31, 32, 33, 34, 35] rfl
  refine va_calli (va_runV (As := [.int vk]) (rest := []) ⟨hx, hb, hml, hown, hts⟩ (c_X3_foresee l dC dI cI hm q1 e1 q2 e2 th n F ct n3 G3 c3 H1.size vk hn hR ((hK0.sub hn).mono (show j ≤ 1000 by omega))) (cwV 1 hts gL_law_X3_foresee rfl rfl rfl (by decide +kernel) ⟨Nat.le_of_ble_eq_true rfl, Nat.le_of_ble_eq_true rfl⟩) ⟨PW.blind, va_recv hKi hPc (ci := 3) (q0 := 0) rfl rfl, fun U hU hW => ⟨rfl, PW.go hPc hKi hDc hE hS hFc hU hW⟩⟩ rfl rfl hl.1 rfl (lv_room (Nat.le_of_ble_eq_true rfl)) dL_law_850 ⟨(show 40 + 8 * j + 1 ≤ 601024 by omega), (show 500 + 40 * j + 6 ≤ 7293034 by omega)⟩) hS (fun q _ h9 => hFc q h9) hFc (fun r8 u9 t9 H2 locs ht9 hvm9 hw9 hB9 hz9 hk9 hS => ?_)
  have hw9 : r8 = mo (x_for vk) (s_hi n (s_forU n (s_become F G3) (cl vk))) 0 := hw9
  obtain ⟨hP9, hD9⟩ := hB9
  rw [ht9] at hP9
  have hP9 : va_P (dC, dI) vwCl (wM hm q1 e1 q2 e2 cI (nI (x_for vk)) n F ct (mo (x_for vk) n n3) (mo (x_for vk) (s_forU n (s_become F G3) (cl vk)) G3) (mo (x_for vk) (s_forM n (s_become F G3) (upd (upd (upd c3 0 (ct 0)) 1 (ct 1)) 2 (ct 2)) (cl vk)) c3)) H2 := hP9
  obtain ⟨hP, hD⟩ := va_join (wr := (wB h r1 d1 r2 d2 rc cI n F (mo (x_for vk) n n2) (mo (x_for vk) (s_forU n (s_copyU F G n) (cl vk)) G) ct ch ++ [(ao, .inl (cL, 1, .inr (.inl (mo (x_for vk) (vp_updL O 0 (s_hi n (s_forU n (s_copyU F G n) (cl vk))).toInt64) O))))])) (w1 := wM hm q1 e1 q2 e2 cI (nI (x_for vk)) n F ct (mo (x_for vk) n n3) (mo (x_for vk) (s_forU n (s_become F G3) (cl vk)) G3) (mo (x_for vk) (s_forM n (s_become F G3) (upd (upd (upd c3 0 (ct 0)) 1 (ct 1)) 2 (ct 2)) (cl vk)) c3)) hP hD [19, 20, 21, 22, 23, 24, 25, 26, 27, 28, 29, 30, 31, 32, 33, 34, 35] [0, 1, 2, 3, 4, 5, 6, 7, 8, 9, 10, 11, 12, 13, 14, 15, 16, 17, 18] rfl rfl (by decide) (by decide) hk9 hFc hP9 hD9
  refine lv_istore (lv' := [(6, .int r8), (0, .ref b), (1, .ref h), (2, .ref hm), (3, .ref ao), (4, .int (nI (5 * j))), (5, .int (nI (x_for vk)))]) hx hb dL_law_853 hl (by decide) rfl (fun ls hl => ?_)
  have hl : lv_has ls 9 [(0, .ref b), (1, .ref h), (2, .ref hm), (3, .ref ao), (4, .int (nI (5 * j))), (5, .int (nI (x_for vk))), (6, .int r8)] := lv_sub hl [1, 2, 3, 4, 5, 6, 0] rfl
  refine lv_aload_n hx hb dL_law_855 rfl (lv_at hl 2 rfl) ?_
  have hPc := hP.sub (ws' := wM hm q1 e1 q2 e2 cI (nI (x_for vk)) n F ct (mo (x_for vk) n n3) (mo (x_for vk) (s_forU n (s_become F G3) (cl vk)) G3) (mo (x_for vk) (s_forM n (s_become F G3) (upd (upd (upd c3 0 (ct 0)) 1 (ct 1)) 2 (ct 2)) (cl vk)) c3)) [19, 20, 21, 22, 23, 24, 25, 26, 27, 28, 29, 30, 31, 32, 33, 34, 35] rfl
  refine vp_callSi (W.runV (As := []) (rest := []) ⟨hx, hb, hml, hown, hts⟩ (c_X3_thrown l dC dI cI hm q1 e1 q2 e2 (nI (x_for vk)) n F ct (mo (x_for vk) n n3) (mo (x_for vk) (s_forU n (s_become F G3) (cl vk)) G3) (mo (x_for vk) (s_forM n (s_become F G3) (upd (upd (upd c3 0 (ct 0)) 1 (ct 1)) 2 (ct 2)) (cl vk)) c3)) (cwV 0 hts gL_law_X3_thrown rfl rfl rfl (by decide +kernel) ⟨Nat.le_of_ble_eq_true rfl, Nat.le_of_ble_eq_true rfl⟩) ⟨PR.blind, va_recv hKi hPc (ci := 3) (q0 := 0) rfl rfl, fun U hU hW => ⟨rfl, PR.go hPc hKi hE hS hU hW⟩⟩ rfl rfl hl.1 rfl (lv_room (Nat.le_of_ble_eq_true rfl)) dL_law_856 ⟨(show 40 + 8 * j + 1 ≤ 601024 by omega), (show 500 + 40 * j + 6 ≤ 7293034 by omega)⟩) (fun r7 hr7 => ?_)
  subst hr7
  subst hw9
  have hk2 : x_for vk ≤ 2 := by unfold x_for; (repeat' split) <;> decide
  refine rv_tail hx hb hK hP 18 1 rfl rfl hk2 (mo_O (for_eq hn _ _ _ _)) hl dL_law_859 dL_law_861 dL_law_866 dL_law_868 dL_law_871 dL_law_872 dL_law_873 dL_law_874 dL_law_876 dL_law_877 dL_law_878 dL_law_883 (by decide) ?_
  have hfin : n ≤ 12 ∧ okR n F ∧ okK 12 F (j + 1) := ⟨hn, hR, hK0.mono (Nat.le_succ j)⟩
  refine W.widen (k := 40 + 8 * (j + 1)) (n := 500 + 40 * (j + 1)) (by omega) (by omega) ?_
  exact K _ _ _ _ _ _ _ _ _ _ _ _ _ ls ⟨hP, hD, hS, hfin.1, hfin.2.1, hfin.2.2⟩ (lv_sub hl [0, 1, 2, 3, 4] rfl)
