/-! The law: its environment at the start, its walk from the entry -/
theorem str_ok {s : State} {args : Array Value} {k : Nat} {tx : String} (h1 : (Cond.stringRef RX1 k tx).before args s = true) (h2 : (Cond.exactly (.string RX1 k) "java/lang/String").before args s = true) : ∃ a, vk_R RX1 k tx a s := by
  obtain ⟨a, c, cell, k', e, -⟩ := Cond.exactly_spec h2
  exact ⟨a, vk_R.of h1 e⟩
theorem eW_in : ∀ w ∈ eW, w ∈ lw_tbl := by decide +kernel
set_option maxHeartbeats 4000000 in
set_option maxRecDepth 100000 in
theorem law_env {s : State} {b : Addr} (hts : ∀ w ∈ lw_tbl, w.before #[Value.ref b] s = true) (hg : (Jvm.Cond.and given_1 narrow_1).before #[Value.ref b] s = true) : En (fun q : Nat => s.heap.size ≤ q) s s.heap := by
  have hf := flat_of_before _ hg
  have hA : ∀ a : Nat, a < s.heap.size → ¬ (fun q : Nat => s.heap.size ≤ q) a := fun a h1 h2 => absurd h1 (Nat.not_lt.mpr h2)
  have T1 := va_Tof (tm := .static "WrestleBook$Roster" "EXPECTED" "[I") (ty := .int) (N := 9) (f := fun j => .int (tb j)) (A := fun q : Nat => s.heap.size ≤ q) (by decide) (hf (.arrayOf (.static "WrestleBook$Roster" "EXPECTED" "[I") .int) (by decide +kernel)) (va_eqt (hf (.eq (.length (.static "WrestleBook$Roster" "EXPECTED" "[I")) (.int 9)) (by decide +kernel))) (fun j hj => by
    match j, hj with
    | 0, _ => exact va_eqt (hf (.eq (.elem (.static "WrestleBook$Roster" "EXPECTED" "[I") (.int 0)) (.int 500)) (by decide +kernel))
    | 1, _ => exact va_eqt (hf (.eq (.elem (.static "WrestleBook$Roster" "EXPECTED" "[I") (.int 1)) (.int 640)) (by decide +kernel))
    | 2, _ => exact va_eqt (hf (.eq (.elem (.static "WrestleBook$Roster" "EXPECTED" "[I") (.int 2)) (.int 760)) (by decide +kernel))
    | 3, _ => exact va_eqt (hf (.eq (.elem (.static "WrestleBook$Roster" "EXPECTED" "[I") (.int 3)) (.int 849)) (by decide +kernel))
    | 4, _ => exact va_eqt (hf (.eq (.elem (.static "WrestleBook$Roster" "EXPECTED" "[I") (.int 4)) (.int 909)) (by decide +kernel))
    | 5, _ => exact va_eqt (hf (.eq (.elem (.static "WrestleBook$Roster" "EXPECTED" "[I") (.int 5)) (.int 947)) (by decide +kernel))
    | 6, _ => exact va_eqt (hf (.eq (.elem (.static "WrestleBook$Roster" "EXPECTED" "[I") (.int 6)) (.int 969)) (by decide +kernel))
    | 7, _ => exact va_eqt (hf (.eq (.elem (.static "WrestleBook$Roster" "EXPECTED" "[I") (.int 7)) (.int 983)) (by decide +kernel))
    | 8, _ => exact va_eqt (hf (.eq (.elem (.static "WrestleBook$Roster" "EXPECTED" "[I") (.int 8)) (.int 990)) (by decide +kernel))
    | j + 9, hj => exact absurd hj (by omega)) hA
  obtain ⟨t1, e1, z1⟩ := T1
  have Z1 := va_Zref (hts (.laysStatic "WrestleBook$Roster" "EXPECTED" "[I") (by decide +kernel)) (hts (.initialized "WrestleBook$Roster") (by decide +kernel)) e1 hA
  have T2 := va_Tof (tm := .static "WrestleBookModel" "TABLE" "[I") (ty := .int) (N := 9) (f := fun j => .int (tb j)) (A := fun q : Nat => s.heap.size ≤ q) (by decide) (hf (.arrayOf (.static "WrestleBookModel" "TABLE" "[I") .int) (by decide +kernel)) (va_eqt (hf (.eq (.length (.static "WrestleBookModel" "TABLE" "[I")) (.int 9)) (by decide +kernel))) (fun j hj => by
    match j, hj with
    | 0, _ => exact va_eqt (hf (.eq (.elem (.static "WrestleBookModel" "TABLE" "[I") (.int 0)) (.int 500)) (by decide +kernel))
    | 1, _ => exact va_eqt (hf (.eq (.elem (.static "WrestleBookModel" "TABLE" "[I") (.int 1)) (.int 640)) (by decide +kernel))
    | 2, _ => exact va_eqt (hf (.eq (.elem (.static "WrestleBookModel" "TABLE" "[I") (.int 2)) (.int 760)) (by decide +kernel))
    | 3, _ => exact va_eqt (hf (.eq (.elem (.static "WrestleBookModel" "TABLE" "[I") (.int 3)) (.int 849)) (by decide +kernel))
    | 4, _ => exact va_eqt (hf (.eq (.elem (.static "WrestleBookModel" "TABLE" "[I") (.int 4)) (.int 909)) (by decide +kernel))
    | 5, _ => exact va_eqt (hf (.eq (.elem (.static "WrestleBookModel" "TABLE" "[I") (.int 5)) (.int 947)) (by decide +kernel))
    | 6, _ => exact va_eqt (hf (.eq (.elem (.static "WrestleBookModel" "TABLE" "[I") (.int 6)) (.int 969)) (by decide +kernel))
    | 7, _ => exact va_eqt (hf (.eq (.elem (.static "WrestleBookModel" "TABLE" "[I") (.int 7)) (.int 983)) (by decide +kernel))
    | 8, _ => exact va_eqt (hf (.eq (.elem (.static "WrestleBookModel" "TABLE" "[I") (.int 8)) (.int 990)) (by decide +kernel))
    | j + 9, hj => exact absurd hj (by omega)) hA
  obtain ⟨t2, e2, z2⟩ := T2
  have Z2 := va_Zref (hts (.laysStatic "WrestleBookModel" "TABLE" "[I") (by decide +kernel)) (hts (.initialized "WrestleBookModel") (by decide +kernel)) e2 hA
  refine ⟨⟨t1, Z1, z1⟩, ⟨t2, Z2, z2⟩, fun w hw => va_Nw.of (eW_on w hw) (hts w (eW_in w hw)), ?_, vx_Zqof (hts (.laysStatic Bundle.tN "UNASSIGNED_STACK" Bundle.steD) (by decide +kernel)) (hts (.initialized Bundle.tN) (by decide +kernel)) (hf (.isRef (.static Bundle.tN "UNASSIGNED_STACK" Bundle.steD)) (by decide +kernel)) hA, vx_Zqof (hts (.laysStatic Bundle.tN "SUPPRESSED_SENTINEL" Bundle.listD) (by decide +kernel)) (hts (.initialized Bundle.tN) (by decide +kernel)) (hf (.isRef (.static Bundle.tN "SUPPRESSED_SENTINEL" Bundle.listD)) (by decide +kernel)) hA⟩
  intro q hq
  simp only [eStr, List.mem_cons, List.not_mem_nil, or_false] at hq
  rcases hq with rfl | rfl | rfl | rfl | rfl | rfl | rfl | rfl | rfl | rfl | rfl | rfl
  · exact str_ok (hts (.stringRef RX1 29 "no such league") (by decide +kernel)) (hf (.exactly (.string RX1 29) "java/lang/String") (by decide +kernel))
  · exact str_ok (hts (.stringRef RX1 40 "the book is full") (by decide +kernel)) (hf (.exactly (.string RX1 40) "java/lang/String") (by decide +kernel))
  · exact str_ok (hts (.stringRef RX1 51 "no such rating") (by decide +kernel)) (hf (.exactly (.string RX1 51) "java/lang/String") (by decide +kernel))
  · exact str_ok (hts (.stringRef RX1 123 "nothing such is told") (by decide +kernel)) (hf (.exactly (.string RX1 123) "java/lang/String") (by decide +kernel))
  · exact str_ok (hts (.stringRef RX1 129 "no such place") (by decide +kernel)) (hf (.exactly (.string RX1 129) "java/lang/String") (by decide +kernel))
  · exact str_ok (hts (.stringRef RX1 144 "nothing such is counted") (by decide +kernel)) (hf (.exactly (.string RX1 144) "java/lang/String") (by decide +kernel))
  · exact str_ok (hts (.stringRef RX1 146 "neither of a nor of b") (by decide +kernel)) (hf (.exactly (.string RX1 146) "java/lang/String") (by decide +kernel))
  · exact str_ok (hts (.stringRef RX1 151 "no such number of wins") (by decide +kernel)) (hf (.exactly (.string RX1 151) "java/lang/String") (by decide +kernel))
  · exact str_ok (hts (.stringRef RX1 162 "no such number of bouts") (by decide +kernel)) (hf (.exactly (.string RX1 162) "java/lang/String") (by decide +kernel))
  · exact str_ok (hts (.stringRef RX1 190 "no such wrestler") (by decide +kernel)) (hf (.exactly (.string RX1 190) "java/lang/String") (by decide +kernel))
  · exact str_ok (hts (.stringRef RX1 192 "both are the same") (by decide +kernel)) (hf (.exactly (.string RX1 192) "java/lang/String") (by decide +kernel))
  · exact str_ok (hts (.stringRef RX1 194 "no such result") (by decide +kernel)) (hf (.exactly (.string RX1 194) "java/lang/String") (by decide +kernel))
set_option maxHeartbeats 4000000 in
set_option maxRecDepth 100000 in
theorem whole_start {p : Program} {e : Env} {s : State} {m : MethodId} {below : List Frame} {meth : Method} {c : Code} (l : Launch) (hflags : l.flags = flags0) {b L : Nat} {xs : Nat → Int32} (hL : L ≤ 2560) (C0 : lw_At p s m meth c b L xs) : W p l e room_1 s m #[Value.ref b] below meth c s.heap [] 0 0 (lw_Z below #[Value.ref b] s) (entryFrame m ([Value.ref b] : List Value).toArray 9) := by
  obtain ⟨hx, hb, hr, hml, hown0, hts0, hX, hbl, hlocks, hgv⟩ := C0
  have hown : s.vm.findClass RL = some m.cls := hown0
  have hb : c.code = cL_law := hb
  have hf := flat_of_before _ hgv
  have hl0 : l.stackTraces = false := by
    unfold Launch.stackTraces
    rw [hflags]
    decide +kernel
  have hts : ∀ w ∈ wsL_law, w.before #[Value.ref b] s = true := fun w h => hts0 w (wsL_law_in w h)
  have hA : ∀ q : Nat, s.heap.size ≤ q → (fun q : Nat => s.heap.size ≤ q) q := fun _ h => h
  have hbA : ¬ (fun q : Nat => s.heap.size ≤ q) b := Nat.not_le.mpr hbl
  obtain ⟨c0, i0, k0⟩ := u_known (C := RX0) (T := TX0) (N := 8) (n := 8) hts0 inX0 (hts (.instantiable RX0 8) (by decide +kernel))
  obtain ⟨c1, i1, k1⟩ := u_known (C := RX1) (T := TX1) (N := 6) (n := 6) hts0 inX1 (hts (.instantiable RX1 6) (by decide +kernel))
  obtain ⟨c2, i2, k2⟩ := u_known (C := RX2) (T := TX2) (N := 11) (n := 11) hts0 inX2 (hts (.instantiable RX2 11) (by decide +kernel))
  obtain ⟨c3, i3, k3⟩ := u_known (C := RX3) (T := TX3) (N := 3) (n := 3) hts0 inX3 (hts (.instantiable RX3 3) (by decide +kernel))
  obtain ⟨dC, dI, hKc⟩ : ∃ (dC : Nat → ClassId) (dI : Nat → Nat → Nat), ∀ (k : Nat) (q : vw_C), vwCl[k]? = some q → u_Kn s q.1 q.2.1 q.2.2 (dC k) (dI k) := by
    refine ⟨fun k => match k with | 0 => c0 | 1 => c1 | 2 => c2 | _ => c3, fun k => match k with | 0 => i0 | 1 => i1 | 2 => i2 | _ => i3, ?_⟩
    intro k q hq
    match k, hq with
    | 0, hq => cases hq; exact k0
    | 1, hq => cases hq; exact k1
    | 2, hq => cases hq; exact k2
    | 3, hq => cases hq; exact k3
    | k + 4, hq => simp [vwCl] at hq
  obtain ⟨cI, kI, pI, f1, f2, f3⟩ := Cond.arrayClass_spec (hts (.arrayClass .int) (by decide +kernel))
  obtain ⟨cL, kL, pL, g1, g2, g3⟩ := Cond.arrayClass_spec (hts (.arrayClass .long) (by decide +kernel))
  have hK : va_K (dC, dI) vwCl [(cI, .int), (cL, .long)] s := ⟨hKc, fun k q h => by
    match k, h with
    | 0, h => cases h; exact ⟨fun n z => ⟨fun k h => (by cases h), kI, f2, pI, f3⟩, f1⟩
    | 1, h => cases h; exact ⟨fun n z => ⟨fun k h => (by cases h), kL, g2, pL, g3⟩, g1⟩
    | k + 2, h => simp at h⟩
  have hE := law_env hts0 hgv
  have hn1 : va_Nc "java/lang/IllegalStateException" "java/lang/IllegalArgumentException" s := va_Nc.of (hf (.not (.castable "java/lang/IllegalStateException" "java/lang/IllegalArgumentException")) (by decide +kernel))
  have hn2 : va_Nc "java/lang/IllegalArgumentException" "java/lang/IndexOutOfBoundsException" s := va_Nc.of (hf (.not (.castable "java/lang/IllegalArgumentException" "java/lang/IndexOutOfBoundsException")) (by decide +kernel))
  have C : LC p l s m meth c b L xs dC dI (fun q : Nat => s.heap.size ≤ q) cI cL := ⟨hx, hb, hr, hml, hown, hts, hX, hbl, hlocks, hl0, hK, hE, hn1, hn2, hbA, hA, hL⟩
  have hKi := hK.sub (tys' := [(cI, .int)]) [0] rfl
  have hS : va_S (fun q : Nat => s.heap.size ≤ q) s.heap s.heap [] := va_S.rf
  have hP : va_P (dC, dI) vwCl [] s.heap := fun k q h => by simp at h
  have hD : va_D (fun q : Nat => s.heap.size ≤ q) [] := ⟨fun i j p q h => by simp at h, fun k q h => by simp at h⟩
  have hl := lv_entry ([.ref b]) (n := 9) (Nat.le_of_ble_eq_true rfl)
  rw [lg_entry_eq]
  generalize (lg_sl ([.ref b]) ++ List.replicate (9 - (lg_sl ([.ref b])).length) Slot.unset).toArray = ls at hl ⊢
  have hl : lv_has ls 9 [(0, .ref b)] := hl
  refine va_new (ci := 1) (fs := [.null, .null, .null, .int 0, .int 0, .int 0]) (C := RX1) (T := TX1) (N := 6) hx hb hts inlX1 tyX1 tyX1_ok hown (hts (.classLink RL 8 RX1) (by decide +kernel)) (hts (.instantiable RX1 6) (by decide +kernel)) (hts (.initialized RX1) (by decide +kernel)) hK hP hD hS hA rfl (fun j hj => by rcases (show j = 0 ∨ j = 1 ∨ j = 2 ∨ j = 3 ∨ j = 4 ∨ j = 5 by omega) with rfl | rfl | rfl | rfl | rfl | rfl <;> rfl) (Nat.le_of_ble_eq_true rfl) (Nat.le_of_ble_eq_true rfl) dL_law_0 (fun q0 H hP hD hS => ?_)
  have hP : va_P (dC, dI) vwCl [(q0, .inr (1, [.null, .null, .null, .int 0, .int 0, .int 0]))] H := hP
  have hD : va_D (fun q : Nat => s.heap.size ≤ q) [(q0, .inr (1, [.null, .null, .null, .int 0, .int 0, .int 0]))] := hD
  refine lv_dup hx hb dL_law_3 rfl ?_
  have hPc := hP.sub (ws' := [(q0, .inr (1, [.null, .null, .null, .int 0, .int 0, .int 0]))]) [0] rfl
  have hDc := hD.sub (ws' := [(q0, .inr (1, [.null, .null, .null, .int 0, .int 0, .int 0]))]) [0] (by decide) rfl
  have hFc := va_free (wc := [(q0, .inr (1, [.null, .null, .null, .int 0, .int 0, .int 0]))]) hD hS hA [0] rfl
  refine va_callv (va_runI (As := []) (rest := [.ref q0]) ⟨hx, hb, hml, hown, hts⟩ (c_X1_init l dC dI cI q0 H.size) (cwI 0 hts gL_law_X1_init rfl rfl rfl (hts (.initialized RX1) (by decide +kernel)) (hts (.methodLink RL 52 yX1_init) (by decide +kernel)) (hts (.instanceMethod yX1_init) (by decide +kernel)) rfl (by decide +kernel) ⟨Nat.le_of_ble_eq_true rfl, Nat.le_of_ble_eq_true rfl⟩) ⟨PW.blind, fun U hU hW => ⟨rfl, PW.go hPc hKi hDc hE hS hFc hU hW⟩⟩ rfl rfl hl.1 rfl (lv_room (Nat.le_of_ble_eq_true rfl)) dL_law_4 ⟨Nat.le_of_ble_eq_true rfl, Nat.le_of_ble_eq_true rfl⟩) hS (fun q _ h9 => hFc q h9) hFc (fun u9 t9 H1 locs ht9 hvm9 hw9 hB9 hz9 hk9 hS => ?_)
  obtain ⟨r1, d1, r2, d2, rc⟩ := u9
  obtain ⟨hP9, hD9⟩ := hB9
  rw [ht9] at hP9
  obtain ⟨hP, hD⟩ := va_join (wr := []) (w1 := wB q0 r1 d1 r2 d2 rc cI 0 Z0 0 Z0 z0 z0) hP hD [0] [] rfl rfl (by decide) (by decide) hk9 hFc hP9 hD9
  have hP : va_P (dC, dI) vwCl (wB q0 r1 d1 r2 d2 rc cI 0 Z0 0 Z0 z0 z0) H1 := hP
  have hD : va_D (fun q : Nat => s.heap.size ≤ q) (wB q0 r1 d1 r2 d2 rc cI 0 Z0 0 Z0 z0 z0) := hD
  refine lv_astore_n (lv' := [(1, .ref q0), (0, .ref b)]) hx hb dL_law_7 rfl hl (by decide) rfl (fun ls hl => ?_)
  refine va_new (ci := 3) (fs := [.int 0, .null, .null]) (C := RX3) (T := TX3) (N := 3) hx hb hts inlX3 tyX3 tyX3_ok hown (hts (.classLink RL 53 RX3) (by decide +kernel)) (hts (.instantiable RX3 3) (by decide +kernel)) (hts (.initialized RX3) (by decide +kernel)) hK hP hD hS hA rfl (fun j hj => by rcases (show j = 0 ∨ j = 1 ∨ j = 2 by omega) with rfl | rfl | rfl <;> rfl) (Nat.le_of_ble_eq_true rfl) (Nat.le_of_ble_eq_true rfl) dL_law_8 (fun hm H hP hD hS => ?_)
  refine lv_dup hx hb dL_law_11 rfl ?_
  have hPc := hP.sub (ws' := [(hm, .inr (3, [.int 0, .null, .null]))]) [18] rfl
  have hDc := hD.sub (ws' := [(hm, .inr (3, [.int 0, .null, .null]))]) [18] (by decide) rfl
  have hFc := va_free (wc := [(hm, .inr (3, [.int 0, .null, .null]))]) hD hS hA [18] rfl
  refine va_callv (va_runI (As := []) (rest := [.ref hm]) ⟨hx, hb, hml, hown, hts⟩ (c_X3_init l dC dI cI hm H.size) (cwI 0 hts gL_law_X3_init rfl rfl rfl (hts (.initialized RX3) (by decide +kernel)) (hts (.methodLink RL 55 yX3_init) (by decide +kernel)) (hts (.instanceMethod yX3_init) (by decide +kernel)) rfl (by decide +kernel) ⟨Nat.le_of_ble_eq_true rfl, Nat.le_of_ble_eq_true rfl⟩) ⟨PW.blind, fun U hU hW => ⟨rfl, PW.go hPc hKi hDc hE hS hFc hU hW⟩⟩ rfl rfl hl.1 rfl (lv_room (Nat.le_of_ble_eq_true rfl)) dL_law_12 ⟨Nat.le_of_ble_eq_true rfl, Nat.le_of_ble_eq_true rfl⟩) hS (fun q _ h9 => hFc q h9) hFc (fun u9 t9 H1 locs ht9 hvm9 hw9 hB9 hz9 hk9 hS => ?_)
  obtain ⟨q1, e1, q2, e2⟩ := u9
  obtain ⟨hP9, hD9⟩ := hB9
  rw [ht9] at hP9
  obtain ⟨hP, hD⟩ := va_join (wr := wB q0 r1 d1 r2 d2 rc cI 0 Z0 0 Z0 z0 z0) (w1 := wM hm q1 e1 q2 e2 cI 0 0 Z0 z0 0 Z0 z0) hP hD [18] [0, 1, 2, 3, 4, 5, 6, 7, 8, 9, 10, 11, 12, 13, 14, 15, 16, 17] rfl rfl (by decide) (by decide) hk9 hFc hP9 hD9
  refine lv_astore_n (lv' := [(2, .ref hm), (1, .ref q0), (0, .ref b)]) hx hb dL_law_15 rfl hl (by decide) rfl (fun ls hl => ?_)
  refine lv_iconst (v := 1) hx hb dL_law_16 (by decide) ?_
  refine va_newa (atype := .long) (ty := .long) (a0 := (1, .inr (.inl (fun _ => 0)))) hx hb (hts (.arrayClass .long) (by decide +kernel)) rfl hK hP hD hS hA (fun cA => rfl) (by decide) (by decide) (by decide) (Nat.le_of_ble_eq_true rfl) (Nat.le_of_ble_eq_true rfl) dL_law_17 (fun ao cA H2 hK2 hP hD hS => ?_)
  have a1 := va_nm_long (hK.2 1 (cL, .long) rfl).2
  have a2 := va_nm_long (hK2.2 2 (cA, .long) rfl).2
  have a3 : cA = cL := Option.some.inj (a2.symm.trans a1)
  subst a3
  refine lv_astore_n (lv' := [(3, .ref ao), (2, .ref hm), (1, .ref q0), (0, .ref b)]) hx hb dL_law_19 rfl hl (by decide) rfl (fun ls hl => ?_)
  refine lv_iconst (v := nI (5 * 0)) hx hb dL_law_20 (by decide) ?_
  refine lv_istore (lv' := [(4, .int (nI (5 * 0))), (3, .ref ao), (2, .ref hm), (1, .ref q0), (0, .ref b)]) hx hb dL_law_21 hl (by decide) rfl (fun ls hl => ?_)
  have hP := hP.sub (ws' := wL q0 r1 d1 r2 d2 rc ao hm q1 e1 q2 e2 cI cA 0 Z0 0 Z0 z0 z0 (fun _ => 0) 0 0 Z0 z0) [0, 1, 2, 3, 4, 5, 6, 7, 8, 9, 10, 11, 12, 13, 14, 15, 16, 17, 35, 18, 19, 20, 21, 22, 23, 24, 25, 26, 27, 28, 29, 30, 31, 32, 33, 34] rfl
  have hD := hD.sub (ws' := wL q0 r1 d1 r2 d2 rc ao hm q1 e1 q2 e2 cI cA 0 Z0 0 Z0 z0 z0 (fun _ => 0) 0 0 Z0 z0) [0, 1, 2, 3, 4, 5, 6, 7, 8, 9, 10, 11, 12, 13, 14, 15, 16, 17, 35, 18, 19, 20, 21, 22, 23, 24, 25, 26, 27, 28, 29, 30, 31, 32, 33, 34] (by decide) rfl
  refine W.widen (k := 40 + 8 * 0) (n := 500 + 40 * 0) (Nat.le_of_ble_eq_true rfl) (Nat.le_of_ble_eq_true rfl) ?_
  refine W.base ?_
  exact law_loop C (L + 1) 0 (Nat.zero_le _) (by omega) _ _ _ _ _ _ _ _ _ _ _ H2 locs ls s.drawn (Drawn.sameBut.refl s.drawn lw_cs) ⟨hP, hD, hS, by decide, fun i hi => absurd hi (Nat.not_lt_zero i), fun i _ => ⟨0, Nat.le_refl 0, nI_0.symm⟩⟩ (lv_sub hl [4, 3, 2, 1, 0] rfl)
