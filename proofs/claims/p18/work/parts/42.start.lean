/-! The law: its environment at the start, its walk from the entry -/
def R_law : String := "WrestleBookLaw"
def lw_P (b : Addr) (xs : List Int32) (args : Array Value) (s : State) : Prop := args = #[.ref b] ∧ s.IntsAt b xs ∧ xs.length ≤ 260 ∧ (Jvm.Cond.and given_1 narrow_1).before args s = true
theorem lw_closed {s t : State} {o : Outcome} {d0 : Drawn} {L : List Loc} {k n : Nat} (hd0 : s.drawn.sameBut d0 lw_cs) (hv : ∃ v, o = .returned v) (hW : (s.setDrawn d0).WarmedH t.vm) (hs : (s.setDrawn d0).sameButNew ({ t with vm := s.vm } : State) L k n) : State.butDraws s t lw_cs (fun t1 => Framed s o t1 L k n) := by
  have h2 : t.drawn = d0 := congrArg State.drawn hs.1
  refine ⟨⟨hv, hW, State.sameButNew.setDrawn hs s.drawn⟩, ?_, by decide⟩
  rw [h2]
  exact hd0
def lw_Q (_ : Array Value) (s : State) (o : Outcome) (t : State) : Prop := o = .returned (some (.int 1)) ∧ State.butDraws s t lw_cs (fun t1 => Framed s o t1 [] 600104 7301314)
def lw_Z (below : List Frame) (a : Array Value) (s : State) : State → Prop := fun t => ∃ o, t.status = .running ∧ Ended t below o ∧ lw_Q a s o t
theorem lw_ret {p : Program} {l : Launch} {e : Env} {s : State} {m : MethodId} {below : List Frame} {meth : Method} {c : Code} {b : Nat} {d0 : Drawn} (hd0 : s.drawn.sameBut d0 lw_cs) (hx : p.tables.exec = Jvm.exec) (hb : c.code = code) (hr : meth.sig.returnType = ret) (hlocks : meth.locks = false) {pc : Nat} {H : Heap} {ls : Array Slot} (hdg : decode code pc = .ok (.ireturn, 1)) : W p l e room_1 (s.setDrawn d0) m #[Value.ref b] below meth c H [] 600104 7301314 (lw_Z below #[Value.ref b] s) (F0 m pc ls [.int 1]) := by
  intro T hT X
  obtain ⟨fs, hret, hrun, hended, hW, hframe⟩ := X.leave (v := some (.int 1)) (hlocks := hlocks) (fun h => by rw [hr] at h; cases h)
  have hmeth' : T.vm.method? m = some meth := X.method'
  refine ⟨T.setFrames fs, ?_, .returned (some (.int 1)), hrun, hended, rfl, lw_closed hd0 ⟨_, rfl⟩ hW hframe⟩
  jvm_step X.here [X.here.top, hx, hb, hdg, hmeth', hr, ret, narrow_b1]
  (try refine ⟨rfl, ?_⟩); (try refine ⟨rfl, ?_⟩)
  first | (intro acts; rw [hret _ acts rfl rfl rfl]) | rw [hret _ _ rfl rfl rfl]
  exact Steps.refl _
def lw_At (p : Program) (s : State) (m : MethodId) (meth : Method) (c : Code) (b L : Nat) (xs : Nat → Int32) : Prop :=
  p.tables.exec = Jvm.exec ∧ c.code = code ∧ meth.sig.returnType = ret ∧ c.maxLocals = 29 ∧ s.vm.findClass R_law = some m.cls ∧ (∀ w ∈ lw_tbl, w.before #[Value.ref b] s = true) ∧ va_X b L xs s s.heap ∧ b < s.heap.size ∧ meth.locks = false ∧ (Jvm.Cond.and given_1 narrow_1).before #[Value.ref b] s = true
theorem str_ok {s : State} {args : Array Value} {k : Nat} {tx : String} (h1 : (Cond.stringRef RX1 k tx).before args s = true) (h2 : (Cond.exactly (.string RX1 k) "java/lang/String").before args s = true) : ∃ a, vk_R RX1 k tx a s := by
  obtain ⟨a, c, cell, k', e, -⟩ := Cond.exactly_spec h2
  exact ⟨a, vk_R.of h1 e⟩
theorem eW_in : ∀ w ∈ eW, w ∈ lw_tbl := by decide +kernel
theorem ov_in : Cond.arrayOver (.array .int) ∈ lw_tbl := by decide +kernel
set_option maxHeartbeats 4000000 in
set_option maxRecDepth 100000 in
theorem law_env {s : State} {b : Addr} (hts : ∀ w ∈ lw_tbl, w.before #[Value.ref b] s = true) (hg : (Jvm.Cond.and given_1 narrow_1).before #[Value.ref b] s = true) : En (fun q : Nat => s.heap.size ≤ q) s s.heap := by
  have hf := flat_of_before _ hg
  have hA : ∀ a : Nat, a < s.heap.size → ¬ (fun q : Nat => s.heap.size ≤ q) a := fun a h1 h2 => absurd h1 (Nat.not_lt.mpr h2)
  have T1 := va_Tof (tm := .static "WrestleBook$Roster" "EXPECTED" "[I") (ty := .int) (N := 9) (f := fun j => .int (tb j)) (A := fun q : Nat => s.heap.size ≤ q) (by decide) (hf (.arrayOf (.static "WrestleBook$Roster" "EXPECTED" "[I") .int) (by decide +kernel)) (va_eqt (hf (.eq (.length (.static "WrestleBook$Roster" "EXPECTED" "[I")) (.int 9)) (by decide +kernel))) (fun j hj => by
    match j, hj with
    | 0, _ => exact va_eqt (hf (.eq (.elem (.static "WrestleBook$Roster" "EXPECTED" "[I") (.int 0)) (.int 500)) (by decide +kernel))
    | 1, _ => exact va_eqt (hf (.eq (.elem (.static "WrestleBook$Roster" "EXPECTED" "[I") (.int 1)) (.int 640)) (by decide +kernel))
    | 2, _ => exact va_eqt (hf (.eq (.elem (.static "WrestleBook$Roster" "EXPECTED" "[I") (.int 2)) (.int 760)) (by decide +kernel))
    | 3, _ => exact va_eqt (hf (.eq (.elem (.static "WrestleBook$Roster" "EXPECTED" "[I") (.int 3)) (.int 849)) (by decide +kernel))
    | 4, _ => exact va_eqt (hf (.eq (.elem (.static "WrestleBook$Roster" "EXPECTED" "[I") (.int 4)) (.int 909)) (by decide +kernel))
    | 5, _ => exact va_eqt (hf (.eq (.elem (.static "WrestleBook$Roster" "EXPECTED" "[I") (.int 5)) (.int 947)) (by decide +kernel))
    | 6, _ => exact va_eqt (hf (.eq (.elem (.static "WrestleBook$Roster" "EXPECTED" "[I") (.int 6)) (.int 969)) (by decide +kernel))
    | 7, _ => exact va_eqt (hf (.eq (.elem (.static "WrestleBook$Roster" "EXPECTED" "[I") (.int 7)) (.int 983)) (by decide +kernel))
    | 8, _ => exact va_eqt (hf (.eq (.elem (.static "WrestleBook$Roster" "EXPECTED" "[I") (.int 8)) (.int 990)) (by decide +kernel))
    | j + 9, hj => exact absurd hj (by omega)) hA
  obtain ⟨t1, e1, z1⟩ := T1
  have Z1 := va_Zref (hts (.laysStatic "WrestleBook$Roster" "EXPECTED" "[I") (by decide +kernel)) (hts (.initialized "WrestleBook$Roster") (by decide +kernel)) e1 hA
  refine ⟨⟨t1, Z1, z1⟩, over_moved (Vm.Alike.refl _) (hts _ ov_in), fun w hw => va_Nw.of (eW_on w hw) (hts w (eW_in w hw)), ?_, vx_Zqof (hts (.laysStatic Bundle.tN "UNASSIGNED_STACK" Bundle.steD) (by decide +kernel)) (hts (.initialized Bundle.tN) (by decide +kernel)) (hf (.isRef (.static Bundle.tN "UNASSIGNED_STACK" Bundle.steD)) (by decide +kernel)) hA, vx_Zqof (hts (.laysStatic Bundle.tN "SUPPRESSED_SENTINEL" Bundle.listD) (by decide +kernel)) (hts (.initialized Bundle.tN) (by decide +kernel)) (hf (.isRef (.static Bundle.tN "SUPPRESSED_SENTINEL" Bundle.listD)) (by decide +kernel)) hA⟩
  intro q hq
  simp only [eStr, List.mem_cons, List.not_mem_nil, or_false] at hq
  rcases hq with rfl | rfl | rfl | rfl | rfl | rfl | rfl | rfl | rfl | rfl | rfl
  · exact str_ok (hts (.stringRef RX1 29 "no such league") (by decide +kernel)) (hf (.exactly (.string RX1 29) "java/lang/String") (by decide +kernel))
  · exact str_ok (hts (.stringRef RX1 40 "the book is full") (by decide +kernel)) (hf (.exactly (.string RX1 40) "java/lang/String") (by decide +kernel))
  · exact str_ok (hts (.stringRef RX1 51 "no such rating") (by decide +kernel)) (hf (.exactly (.string RX1 51) "java/lang/String") (by decide +kernel))
  · exact str_ok (hts (.stringRef RX1 123 "nothing such is told") (by decide +kernel)) (hf (.exactly (.string RX1 123) "java/lang/String") (by decide +kernel))
  · exact str_ok (hts (.stringRef RX1 129 "no such place") (by decide +kernel)) (hf (.exactly (.string RX1 129) "java/lang/String") (by decide +kernel))
  · exact str_ok (hts (.stringRef RX1 144 "nothing such is counted") (by decide +kernel)) (hf (.exactly (.string RX1 144) "java/lang/String") (by decide +kernel))
  · exact str_ok (hts (.stringRef RX1 146 "neither of a nor of b") (by decide +kernel)) (hf (.exactly (.string RX1 146) "java/lang/String") (by decide +kernel))
  · exact str_ok (hts (.stringRef RX1 162 "no such number of bouts") (by decide +kernel)) (hf (.exactly (.string RX1 162) "java/lang/String") (by decide +kernel))
  · exact str_ok (hts (.stringRef RX1 190 "no such wrestler") (by decide +kernel)) (hf (.exactly (.string RX1 190) "java/lang/String") (by decide +kernel))
  · exact str_ok (hts (.stringRef RX1 192 "both are the same") (by decide +kernel)) (hf (.exactly (.string RX1 192) "java/lang/String") (by decide +kernel))
  · exact str_ok (hts (.stringRef RX1 194 "no such result") (by decide +kernel)) (hf (.exactly (.string RX1 194) "java/lang/String") (by decide +kernel))
theorem PB.blind {av : List Value} {dC : Nat → ClassId} {dI : Nat → Nat → Nat} {cI cA : ClassId} {w : va_W} {sz b L : Nat} {xs : Nat → Int32} {Z : Prop} : FrameBlind (va_Pc av (fun U => PV dC dI cI cA w sz U ∧ PX b L xs U ∧ Z)) := fun a U g mk q => ⟨q.1, (PV.blind (av := av) a U g mk ⟨q.1, q.2.1⟩).2, (PX.blind (av := av) a U g mk ⟨q.1, q.2.2.1⟩).2, q.2.2.2⟩
set_option maxHeartbeats 4000000 in
set_option maxRecDepth 100000 in
theorem whole_start {p : Program} {e : Env} {s : State} {m : MethodId} {below : List Frame} {meth : Method} {c : Code} (l : Launch) (hflags : l.flags = flags0) {b L : Nat} {xs : Nat → Int32} (hL : L ≤ 260) (C0 : lw_At p s m meth c b L xs) : W p l e room_1 s m #[Value.ref b] below meth c s.heap [] 0 0 (lw_Z below #[Value.ref b] s) (entryFrame m ([Value.ref b] : List Value).toArray 29) := by
  obtain ⟨hx, hb, hr, hml, hown0, hts0, hX, hbl, hlocks, hgv⟩ := C0
  have hown : s.vm.findClass RL = some m.cls := hown0
  have hb : c.code = cL_law := hb
  have hl0 : l.stackTraces = false := by
    unfold Launch.stackTraces
    rw [hflags]
    decide +kernel
  have hts : ∀ w ∈ wsL_law, w.before #[Value.ref b] s = true := fun w h => hts0 w (wsL_law_in w h)
  have hA : ∀ q : Nat, s.heap.size ≤ q → (fun q : Nat => s.heap.size ≤ q) q := fun _ h => h
  have hbA : ¬ (fun q : Nat => s.heap.size ≤ q) b := Nat.not_le.mpr hbl
  obtain ⟨c0, i0, k0⟩ := u_known (C := RX0) (T := TX0) (N := 8) (n := 8) hts0 inX0 (hts (.instantiable RX0 8) (by decide +kernel))
  obtain ⟨c1, i1, k1⟩ := u_known (C := RX1) (T := TX1) (N := 6) (n := 6) hts0 inX1 (hts (.instantiable RX1 6) (by decide +kernel))
  obtain ⟨c2, i2, k2⟩ := u_known (C := RX2) (T := TX2) (N := 4) (n := 4) hts0 inX2 (hts (.instantiable RX2 4) (by decide +kernel))
  obtain ⟨dC, dI, hKc⟩ : ∃ (dC : Nat → ClassId) (dI : Nat → Nat → Nat), ∀ (k : Nat) (q : vw_C), vwCl[k]? = some q → u_Kn s q.1 q.2.1 q.2.2 (dC k) (dI k) := by
    refine ⟨fun k => match k with | 0 => c0 | 1 => c1 | _ => c2, fun k => match k with | 0 => i0 | 1 => i1 | _ => i2, ?_⟩
    intro k q hq
    match k, hq with
    | 0, hq => cases hq; exact k0
    | 1, hq => cases hq; exact k1
    | 2, hq => cases hq; exact k2
    | k + 3, hq => simp [vwCl] at hq
  obtain ⟨cI, kI, pI, f1, f2, f3⟩ := Cond.arrayClass_spec (hts (.arrayClass .int) (by decide +kernel))
  obtain ⟨pA, cA, kA, g0, g2, g3, g1⟩ := Cond.arrayOver_specA (hts0 _ ov_in)
  have hK : va_K (dC, dI) vwCl [(cI, .int), (cA, .array .int)] s := ⟨hKc, fun k q h => by
    match k, h with
    | 0, h => cases h; exact ⟨fun n z => ⟨fun k h => (by cases h), kI, f2, pI, f3⟩, f1⟩
    | 1, h => cases h; exact ⟨fun n z => ⟨fun k h => (by cases h), kA, g2, pA, g3⟩, g1⟩
    | k + 2, h => simp at h⟩
  have hE := law_env hts0 hgv
  have C1 : LC p l s m meth c b L xs dC dI (fun q : Nat => s.heap.size ≤ q) cI cA := ⟨hx, hb, hr, hml, hown, hts, hX, hbl, hlocks, hl0, hK, hE, hbA, hA, hL⟩
  have hKi := hK.sub (tys' := [(cI, .int)]) [0] rfl
  have hS : va_S (fun q : Nat => s.heap.size ≤ q) s.heap s.heap [] := va_S.rf
  have hP : va_P (dC, dI) vwCl [] s.heap := fun k q h => by simp at h
  have hD : va_D (fun q : Nat => s.heap.size ≤ q) [] := ⟨fun i j p q h => by simp at h, fun k q h => by simp at h⟩
  have hl := lv_entry ([.ref b]) (n := 29) (Nat.le_of_ble_eq_true rfl)
  rw [lg_entry_eq]
  generalize (lg_sl ([.ref b]) ++ List.replicate (29 - (lg_sl ([.ref b])).length) Slot.unset).toArray = ls at hl ⊢
  have hl : lv_has ls 29 [(0, .ref b)] := hl
  refine va_new (ci := 1) (fs := [.null, .null, .null, .int 0, .int 0, .int 0]) (C := RX1) (T := TX1) (N := 6) hx hb hts inlX1 tyX1 tyX1_ok hown (hts (.classLink RL 24 RX1) (by decide +kernel)) (hts (.instantiable RX1 6) (by decide +kernel)) (hts (.initialized RX1) (by decide +kernel)) hK hP hD hS hA rfl (fun j hj => by rcases (show j = 0 ∨ j = 1 ∨ j = 2 ∨ j = 3 ∨ j = 4 ∨ j = 5 by omega) with rfl | rfl | rfl | rfl | rfl | rfl <;> rfl) (Nat.le_of_ble_eq_true rfl) (Nat.le_of_ble_eq_true rfl) dL_law_0 (fun q0 H hP hD hS => ?_)
  have hP : va_P (dC, dI) vwCl [(q0, .inr (1, [.null, .null, .null, .int 0, .int 0, .int 0]))] H := hP
  have hD : va_D (fun q : Nat => s.heap.size ≤ q) [(q0, .inr (1, [.null, .null, .null, .int 0, .int 0, .int 0]))] := hD
  refine lv_dup hx hb dL_law_3 rfl ?_
  have hFc := free_all hD hS hA
  refine va_callv (va_runI (As := []) (rest := [.ref q0]) ⟨hx, hb, hml, hown, hts⟩ (c_X1_init l dC dI cI q0 H.size) (cwI 0 hts gL_law_X1_init rfl rfl rfl (hts (.initialized RX1) (by decide +kernel)) (hts (.methodLink RL 58 yX1_init) (by decide +kernel)) (hts (.instanceMethod yX1_init) (by decide +kernel)) rfl (by decide +kernel) ⟨Nat.le_of_ble_eq_true rfl, Nat.le_of_ble_eq_true rfl⟩) ⟨PW.blind, fun U hU hW => ⟨rfl, PW.go hP hKi hD hE hS hFc hU hW⟩⟩ rfl rfl hl.1 rfl (lv_room (Nat.le_of_ble_eq_true rfl)) dL_law_4 ⟨Nat.le_of_ble_eq_true rfl, Nat.le_of_ble_eq_true rfl⟩) hS (fun q _ h9 => hFc q h9) hFc (fun u9 t9 H1 locs ht9 hvm9 hw9 hB9 hz9 hk9 hS => ?_)
  obtain ⟨r1, d1, r2, d2, rc⟩ := u9
  obtain ⟨hP9, hD9⟩ := hB9
  rw [ht9] at hP9
  have hP : va_P (dC, dI) vwCl (wB q0 r1 d1 r2 d2 rc cI 0 Z0 0 Z0 z0 z0) H1 := hP9
  have hD : va_D (fun q : Nat => s.heap.size ≤ q) (wB q0 r1 d1 r2 d2 rc cI 0 Z0 0 Z0 z0 z0) := hD9.weaken (fun _ q _ h9 => hFc q.1 h9)
  refine lv_astore_n (lv' := [(1, .ref q0), (0, .ref b)]) hx hb dL_law_7 rfl hl (by decide) rfl (fun ls hl => ?_)
  refine lv_aload_n hx hb dL_law_8 rfl (lv_at hl 0 rfl) ?_
  refine lv_aload_n hx hb dL_law_9 rfl (lv_at hl 1 rfl) ?_
  have hFc := free_all hD hS hA
  refine va_callr (va_runS (As := [.ref q0, .ref b]) (rest := []) ⟨hx, hb, hml, hown, hts⟩ (c_L_build l hl0 dC dI cI cA q0 r1 d1 r2 d2 rc b L xs hL H1.size) (va_cwS 2 hts gL_law_L_build rfl rfl rfl (by decide +kernel) ⟨Nat.le_of_ble_eq_true rfl, Nat.le_of_ble_eq_true rfl⟩) ⟨PB.blind, fun U hU hW => ⟨rfl, PV.go hP hK hD hE hS hFc hU hW, X_go hX hbl hbA hS hU hW, fun z => hbA (hFc b z)⟩⟩ rfl rfl hl.1 rfl (lv_room (Nat.le_of_ble_eq_true rfl)) dL_law_10 ⟨Nat.le_of_ble_eq_true rfl, Nat.le_of_ble_eq_true rfl⟩) hS (fun q _ h9 => hFc q h9) hFc (fun u9 h t9 H2 locs ht9 hvm9 hw9 hB9 hz9 hk9 hS => ?_)
  obtain ⟨n, F, ct, n2, G, ch, al, rw⟩ := u9
  obtain ⟨hP9, hD9⟩ := hB9
  rw [ht9] at hP9
  have hI : INV n F ct 80 := hw9
  refine lv_astore_n (lv' := [(2, .ref h), (1, .ref q0), (0, .ref b)]) hx hb dL_law_13 rfl hl (by decide) rfl (fun ls hl => ?_)
  refine lv_aload_n hx hb dL_law_14 rfl (lv_at hl 0 rfl) ?_
  refine lv_ifnonnull (tgt := 20) hx hb dL_law_15 (by decide) ?_
  refine lv_iconst (v := 0) hx hb dL_law_20 (by decide) ?_
  refine lv_istore_n (lv' := [(3, .int 0), (2, .ref h), (1, .ref q0), (0, .ref b)]) hx hb dL_law_21 rfl hl (by decide) rfl (fun ls hl => ?_)
  refine W.widen (k := 400 + 30 * 0) (n := 4000 + 300 * 0) (Nat.le_of_ble_eq_true rfl) (Nat.le_of_ble_eq_true rfl) ?_
  exact law_loop C1 q0 r1 d1 r2 d2 rc h (fun H locs ls hS => va_forget (fun q hq => hS.2.2 q hq) (W.base (lw_ret (Drawn.sameBut.refl s.drawn lw_cs) hx hb hr hlocks dL_law_1251))) 24 0 (by omega) n F ct n2 G ch al rw hI H2 _ hP9 (hD9.weaken (fun _ q _ h9 => hFc q.1 h9)) hS ls (lv_sub hl [0, 1, 2, 3] rfl)
