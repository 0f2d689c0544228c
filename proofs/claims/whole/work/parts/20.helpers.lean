/-! The law's helpers: what a call answers, or which exception it throws -/
theorem met_ofWH {l : Launch} {y : MethodName} {ws ws' : List Cond} {rm : Room} {Pc : Array Value → State → Prop} {Qc : Array Value → State → Outcome → State → Prop} {mc ms : Nat} {free : Addr → Prop} {cc : ByteArray} {maxL : Nat} {ret : Option FieldType} {hh : List (Nat × Nat × Nat × Nat)}
    (hy : plainName y.cls = true) (hw : ws = Cond.codeWith y cc maxL ret hh :: ws')
    (body : ∀ p e s m args below meth c s₁, BodyLoose p l y (headSpec ws rm) cc maxL ret e s m args below meth c s₁ → c.maxLocals = maxL → Pc args s →
      W p l e (headSpec ws rm).room s m args below meth c s.heap [] 0 0 (MQ below Qc args s mc ms free) (entryFrame m args maxL)) : Met l y ws rm Pc Qc mc ms free := by
  refine MetFree.of_bodyS (code := cc) (maxLocals := maxL) (ret := ret) hy ?_ ?_
  · intro args s m h hn
    obtain ⟨m9, meth, c, hn9, h1, h2, h3, h4, -, h5, h6, -⟩ := Cond.codeWith_spec (atoms_spec (ws := ws) h _ (by rw [hw]; exact List.mem_cons_self))
    cases hn.symm.trans hn9
    exact ⟨meth, c, h1, h2, h3, h4, h5, h6⟩
  · intro p e s m args below meth c s₁ B hml hP _
    have hh0 : s₁.heap = s.heap := by rw [B.state]; rfl
    obtain ⟨t, a1, o, b1, b2, b3⟩ := body p e s m args below meth c s₁ B hml hP s₁ hh0 (Stand.of_body B)
    exact ⟨t, o, a1, b1, b2, b3⟩
/-- a helper's start -/
def PL (dC : Nat → ClassId) (dI : Nat → Nat → Nat) (cI cL : ClassId) (ws : va_W) (sz : Nat) (U : State) : Prop := U.heap.size = sz ∧ va_P (dC, dI) vwCl ws U.heap ∧ va_K (dC, dI) vwCl [(cI, .int), (cL, .long)] U ∧ va_D (fun _ => True) ws ∧ En (va_A ws sz) U U.heap ∧ va_Nc "java/lang/IllegalStateException" "java/lang/IllegalArgumentException" U ∧ va_Nc "java/lang/IllegalArgumentException" "java/lang/IndexOutOfBoundsException" U
theorem PL.blind {dC : Nat → ClassId} {dI : Nat → Nat → Nat} {cI cL : ClassId} {ws : va_W} {sz : Nat} {av : List Value} : FrameBlind (va_Pc av (fun U => PL dC dI cI cL ws sz U)) := fun a U g mk q => ⟨q.1, q.2.1, q.2.2.1, va_K.moved (u := U) (U := U.calling g mk a) (Vm.Alike.refl U.vm) q.2.2.2.1, q.2.2.2.2.1, En.blind q.2.2.2.2.2.1, va_Nc.moved (u := U) (U := U.calling g mk a) (Vm.Alike.refl U.vm) q.2.2.2.2.2.2.1, va_Nc.moved (u := U) (U := U.calling g mk a) (Vm.Alike.refl U.vm) q.2.2.2.2.2.2.2⟩
theorem PL.go {dC : Nat → ClassId} {dI : Nat → Nat → Nat} {cI cL : ClassId} {ws : va_W} {A : Nat → Prop} {s U : State} {H : Heap} {locs : List Loc} (hP : va_P (dC, dI) vwCl ws H) (hK : va_K (dC, dI) vwCl [(cI, .int), (cL, .long)] s) (hD : va_D A ws) (hE : En A s s.heap) (hn1 : va_Nc "java/lang/IllegalStateException" "java/lang/IllegalArgumentException" s) (hn2 : va_Nc "java/lang/IllegalArgumentException" "java/lang/IndexOutOfBoundsException" s) (hS : va_S A s.heap H locs) (hF : ∀ q, va_A ws H.size q → A q) (hU : U.heap = H) (hW : s.WarmedH U.vm) : PL dC dI cI cL ws H.size U :=
  ⟨by rw [hU], by rw [hU]; exact hP, va_K.moved hW.alike hK, hD.weaken (fun _ _ _ _ => trivial), En.go hE hS hF hU hW, va_Nc.moved hW.alike hn1, va_Nc.moved hW.alike hn2⟩
theorem exE_1 {E1 : String} {k : Nat} {E : String} (h : exE [E1] k E) : k = 1 ∧ E = E1 := by
  obtain ⟨h1, h2⟩ := h
  have := (List.getElem?_eq_some_iff.mp h2).1
  simp at this
  have e : k = 1 := by omega
  subst e
  exact ⟨rfl, (Option.some.inj h2).symm⟩
theorem exE_2 {E1 E2 : String} {k : Nat} {E : String} (h : exE [E1, E2] k E) : (k = 1 ∧ E = E1) ∨ (k = 2 ∧ E = E2) := by
  obtain ⟨h1, h2⟩ := h
  have := (List.getElem?_eq_some_iff.mp h2).1
  simp at this
  rcases (show k = 1 ∨ k = 2 by omega) with e | e
  · subst e; exact Or.inl ⟨rfl, (Option.some.inj h2).symm⟩
  · subst e; exact Or.inr ⟨rfl, (Option.some.inj h2).symm⟩
set_option maxHeartbeats 4000000 in
set_option maxRecDepth 100000 in
theorem c_L_join (l : Launch) (hl0 : l.stackTraces = false) (dC : Nat → ClassId) (dI : Nat → Nat → Nat) (cI cL : ClassId) (h r1 : Nat) (d1 : Nat → Nat) (r2 : Nat) (d2 : Nat → Nat) (rc : Nat) (n : Nat) (F : Nat → Nat → Int32) (n2 : Nat) (G : Nat → Nat → Int32) (ct ch : Nat → Int32) (ao : Nat) (O : Nat → Int64) (sz : Nat) (vg : Int32) (hn : n ≤ 12) : Met l yL_join wsL_join ({ frames := 7, cells := 1, slots := 6, locals := 103 } : Room) (va_Pc [.ref h, .int vg, .ref ao] (fun U => PL dC dI cI cL (wB h r1 d1 r2 d2 rc cI n F n2 G ct ch ++ [(ao, .inl (cL, 1, .inr (.inl O)))]) sz U)) (va_Qi (fun r (_ : Unit) => r = nI (x_join n vg)) (BW dC dI (va_A (wB h r1 d1 r2 d2 rc cI n F n2 G ct ch ++ [(ao, .inl (cL, 1, .inr (.inl O)))]) sz) (wB h r1 d1 r2 d2 rc cI (mo (x_join n vg) (n + 1) n) (mo (x_join n vg) (s_add F n vg) F) n2 G ct ch ++ [(ao, .inl (cL, 1, .inr (.inl (mo (x_join n vg) (vp_updL O 0 (nI n).toInt64) O))))])) (va_A (wB h r1 d1 r2 d2 rc cI n F n2 G ct ch ++ [(ao, .inl (cL, 1, .inr (.inl O)))]) sz)) 1 6 (va_A (wB h r1 d1 r2 d2 rc cI n F n2 G ct ch ++ [(ao, .inl (cL, 1, .inr (.inl O)))]) sz) := by
  refine met_ofWH (cc := cL_join) (maxL := 4) (ret := (some .int)) (hh := [(0, 9, 12, 13), (0, 9, 15, 15)]) (by decide) rfl ?_
  intro p e s m args below meth c s₁ B hml hv
  obtain ⟨rfl, hsz, hP, hK2, hD0, hE, hn1, hn2⟩ := hv
  have hx := B.exec
  have hb := B.bytes
  have hr := B.returns
  have hts := atoms_spec (ws := wsL_join) B.pre
  have hown : s.vm.findClass RL = some m.cls := findClass_of_methodNamed B.named
  have hlocks := B.notSynchronized
  have htab := vx_table (x := yL_join) B (hts (.codeWith yL_join cL_join 4 (some .int) [(0, 9, 12, 13), (0, 9, 15, 15)]) List.mem_cons_self)
  have hK := hK2.sub (tys' := [(cI, .int)]) [0] rfl
  subst hsz
  have hD := hD0.self (sz := s.heap.size)
  generalize hAe : va_A (wB h r1 d1 r2 d2 rc cI n F n2 G ct ch ++ [(ao, .inl (cL, 1, .inr (.inl O)))]) s.heap.size = A at hD hE ⊢
  have hA : ∀ q : Nat, s.heap.size ≤ q → A q := fun q h9 => by rw [← hAe]; exact Or.inr h9
  have hS : va_S A s.heap s.heap [] := va_S.rf
  have hl := lv_entry ([.ref h, .int vg, .ref ao]) (n := 4) (Nat.le_of_ble_eq_true rfl)
  rw [lg_entry_eq]
  generalize (lg_sl ([.ref h, .int vg, .ref ao]) ++ List.replicate (4 - (lg_sl ([.ref h, .int vg, .ref ao])).length) Slot.unset).toArray = ls at hl ⊢
  have hl : lv_has ls 4 [(0, .ref h), (1, .int vg), (2, .ref ao)] := hl
  refine lv_aload_n hx hb dL_join_0 rfl (lv_at hl 2 rfl) ?_
  refine lv_iconst (v := 0) hx hb dL_join_1 (by decide) ?_
  refine lv_aload_n hx hb dL_join_2 rfl (lv_at hl 0 rfl) ?_
  refine lv_iload_n hx hb dL_join_3 rfl (lv_at hl 1 rfl) ?_
  have hPc := hP.sub (ws' := wB h r1 d1 r2 d2 rc cI n F n2 G ct ch) [0, 1, 2, 3, 4, 5, 6, 7, 8, 9, 10, 11, 12, 13, 14, 15, 16, 17] rfl
  have hDc := hD.sub (ws' := wB h r1 d1 r2 d2 rc cI n F n2 G ct ch) [0, 1, 2, 3, 4, 5, 6, 7, 8, 9, 10, 11, 12, 13, 14, 15, 16, 17] (by decide) rfl
  have hFc := va_free (wc := wB h r1 d1 r2 d2 rc cI n F n2 G ct ch) hD hS hA [0, 1, 2, 3, 4, 5, 6, 7, 8, 9, 10, 11, 12, 13, 14, 15, 16, 17] rfl
  refine vx_calli (vx_runV (As := [.int vg]) (rest := [.int 0, .ref ao]) ⟨hx, hb, hml, hown, hts⟩ (c_X1_join l hl0 dC dI cI h r1 d1 r2 d2 rc n F n2 G ct ch s.heap.size vg hn) (cwV 1 hts gL_join_X1_join rfl rfl rfl (by decide +kernel) ⟨Nat.le_of_ble_eq_true rfl, Nat.le_of_ble_eq_true rfl⟩) ⟨PW.blind, va_recv hK hP (ci := 1) (q0 := 0) rfl rfl, fun U hU hW => ⟨rfl, PW.go hPc hK hDc hE hS hFc hU hW⟩⟩ rfl rfl hl.1 rfl (lv_room (Nat.le_of_ble_eq_true rfl)) dL_join_4 ⟨Nat.le_of_ble_eq_true rfl, Nat.le_of_ble_eq_true rfl⟩) hS (fun q _ h9 => hFc q h9) hFc (fun q _ h9 => hFc q h9) (fun E9 ce9 q9 u9 t9 H1 locs9 ht9 hvm9 hw9 hB9 hz9 hk9 hS9 hce9 hcv9 hcl9 => ?_) (fun r u9 t9 H1 locs ht9 hvm9 hw9 hB9 hz9 hk9 hS => ?_)
  · have hS9 := hS9
    obtain ⟨hB9, hP9, hD9⟩ := hB9
    rw [ht9] at hP9
    obtain ⟨hP, hD⟩ := va_join (wr := [(ao, .inl (cL, 1, .inr (.inl O)))]) (w1 := wB h r1 d1 r2 d2 rc cI n F n2 G ct ch) hP hD [0, 1, 2, 3, 4, 5, 6, 7, 8, 9, 10, 11, 12, 13, 14, 15, 16, 17] [18] rfl rfl (by decide) (by decide) hk9 hFc hP9 hD9
    have hP := hP.sub (ws' := wB h r1 d1 r2 d2 rc cI n F n2 G ct ch ++ [(ao, .inl (cL, 1, .inr (.inl O)))]) [1, 2, 3, 4, 5, 6, 7, 8, 9, 10, 11, 12, 13, 14, 15, 16, 17, 18, 0] rfl
    have hD := hD.sub (ws' := wB h r1 d1 r2 d2 rc cI n F n2 G ct ch ++ [(ao, .inl (cL, 1, .inr (.inl O)))]) [1, 2, 3, 4, 5, 6, 7, 8, 9, 10, 11, 12, 13, 14, 15, 16, 17, 18, 0] (by decide) rfl
    rcases exE_2 hB9 with ⟨hc, hE9⟩ | ⟨hc, hE9⟩
    · subst hE9
      refine vx_catch (name := "java/lang/IllegalArgumentException") hown [] ⟨0, 9, 12, 13⟩ [⟨0, 9, 15, 15⟩] (htab.trans rfl) (fun z hz => by simp at hz) (by decide) (by decide) (hts (.classLink RL 13 "java/lang/IllegalArgumentException") (by decide +kernel)) (va_Nw.use rfl (hE.2.2.1 (.castable "java/lang/IllegalArgumentException" "java/lang/IllegalArgumentException") (by decide +kernel))) hce9 hcv9 hcl9 ?_
      refine lv_astore_n (lv' := [(3, .ref q9), (0, .ref h), (1, .int vg), (2, .ref ao)]) hx hb dL_join_12 rfl hl (by decide) rfl (fun ls hl => ?_)
      refine lv_iconst (v := 1) hx hb dL_join_13 (by decide) ?_
      refine W.widen (k := 1) (n := 6) (Nat.le_of_ble_eq_true rfl) (Nat.le_of_ble_eq_true rfl) ?_
      have hP8 : va_P (dC, dI) vwCl (wB h r1 d1 r2 d2 rc cI (mo (x_join n vg) (n + 1) n) (mo (x_join n vg) (s_add F n vg) F) n2 G ct ch ++ [(ao, .inl (cL, 1, .inr (.inl (mo (x_join n vg) (vp_updL O 0 (nI n).toInt64) O))))]) H1 := by rw [hc]; exact hP
      have hD8 : va_D A (wB h r1 d1 r2 d2 rc cI (mo (x_join n vg) (n + 1) n) (mo (x_join n vg) (s_add F n vg) F) n2 G ct ch ++ [(ao, .inl (cL, 1, .inr (.inl (mo (x_join n vg) (vp_updL O 0 (nI n).toInt64) O))))]) := by rw [hc]; exact hD
      exact W.iret (v := 1) hx hb hr (fun t ht hW => ⟨⟨_, (), rfl, (show (1 : Int32) = nI (x_join n vg) from by rw [hc]; rfl), by rw [ht]; exact hP8, hD8⟩, hS9.F ht⟩) hS9.2.2 dL_join_14
    · subst hE9
      refine vx_catch (name := "java/lang/IllegalStateException") hown [⟨0, 9, 12, 13⟩] ⟨0, 9, 15, 15⟩ [] (htab.trans rfl) (fun z hz => Or.inr (by rw [List.mem_singleton.mp hz]; exact ⟨by decide, "java/lang/IllegalArgumentException", hts (.classLink RL 13 "java/lang/IllegalArgumentException") (by decide +kernel), hn1⟩)) (by decide) (by decide) (hts (.classLink RL 15 "java/lang/IllegalStateException") (by decide +kernel)) (va_Nw.use rfl (hE.2.2.1 (.castable "java/lang/IllegalStateException" "java/lang/IllegalStateException") (by decide +kernel))) hce9 hcv9 hcl9 ?_
      refine lv_astore_n (lv' := [(3, .ref q9), (0, .ref h), (1, .int vg), (2, .ref ao)]) hx hb dL_join_15 rfl hl (by decide) rfl (fun ls hl => ?_)
      refine lv_iconst (v := 2) hx hb dL_join_16 (by decide) ?_
      refine W.widen (k := 1) (n := 6) (Nat.le_of_ble_eq_true rfl) (Nat.le_of_ble_eq_true rfl) ?_
      have hP8 : va_P (dC, dI) vwCl (wB h r1 d1 r2 d2 rc cI (mo (x_join n vg) (n + 1) n) (mo (x_join n vg) (s_add F n vg) F) n2 G ct ch ++ [(ao, .inl (cL, 1, .inr (.inl (mo (x_join n vg) (vp_updL O 0 (nI n).toInt64) O))))]) H1 := by rw [hc]; exact hP
      have hD8 : va_D A (wB h r1 d1 r2 d2 rc cI (mo (x_join n vg) (n + 1) n) (mo (x_join n vg) (s_add F n vg) F) n2 G ct ch ++ [(ao, .inl (cL, 1, .inr (.inl (mo (x_join n vg) (vp_updL O 0 (nI n).toInt64) O))))]) := by rw [hc]; exact hD
      exact W.iret (v := 2) hx hb hr (fun t ht hW => ⟨⟨_, (), rfl, (show (2 : Int32) = nI (x_join n vg) from by rw [hc]; rfl), by rw [ht]; exact hP8, hD8⟩, hS9.F ht⟩) hS9.2.2 dL_join_17
  · obtain ⟨hc, hr9⟩ := hw9
    subst hr9
    obtain ⟨hP9, hD9⟩ := hB9
    rw [ht9] at hP9
    obtain ⟨hP, hD⟩ := va_join (wr := [(ao, .inl (cL, 1, .inr (.inl O)))]) (w1 := wB h r1 d1 r2 d2 rc cI (n + 1) (s_add F n vg) n2 G ct ch) hP hD [0, 1, 2, 3, 4, 5, 6, 7, 8, 9, 10, 11, 12, 13, 14, 15, 16, 17] [18] rfl rfl (by decide) (by decide) hk9 hFc hP9 hD9
    have hP := hP.sub (ws' := wB h r1 d1 r2 d2 rc cI (n + 1) (s_add F n vg) n2 G ct ch ++ [(ao, .inl (cL, 1, .inr (.inl O)))]) [1, 2, 3, 4, 5, 6, 7, 8, 9, 10, 11, 12, 13, 14, 15, 16, 17, 18, 0] rfl
    have hD := hD.sub (ws' := wB h r1 d1 r2 d2 rc cI (n + 1) (s_add F n vg) n2 G ct ch ++ [(ao, .inl (cL, 1, .inr (.inl O)))]) [1, 2, 3, 4, 5, 6, 7, 8, 9, 10, 11, 12, 13, 14, 15, 16, 17, 18, 0] (by decide) rfl
    refine lv_i2l hx hb dL_join_7 rfl ?_
    refine va_last hx hb hK2 hP hD hS 18 1 rfl rfl (vp_in_nI (n := 0) (N := 1) (by decide) (by decide)) dL_join_8 (fun H locs hP hD hS => ?_)
    refine lv_goto (tgt := 18) hx hb dL_join_9 (by decide) ?_
    refine lv_iconst (v := 0) hx hb dL_join_18 (by decide) ?_
    refine W.widen (k := 1) (n := 6) (Nat.le_of_ble_eq_true rfl) (Nat.le_of_ble_eq_true rfl) ?_
    have hP8 : va_P (dC, dI) vwCl (wB h r1 d1 r2 d2 rc cI (mo (x_join n vg) (n + 1) n) (mo (x_join n vg) (s_add F n vg) F) n2 G ct ch ++ [(ao, .inl (cL, 1, .inr (.inl (mo (x_join n vg) (vp_updL O 0 (nI n).toInt64) O))))]) H := by rw [hc]; exact hP
    have hD8 : va_D A (wB h r1 d1 r2 d2 rc cI (mo (x_join n vg) (n + 1) n) (mo (x_join n vg) (s_add F n vg) F) n2 G ct ch ++ [(ao, .inl (cL, 1, .inr (.inl (mo (x_join n vg) (vp_updL O 0 (nI n).toInt64) O))))]) := by rw [hc]; exact hD
    exact W.iret (v := 0) hx hb hr (fun t ht hW => ⟨⟨_, (), rfl, (show (0 : Int32) = nI (x_join n vg) from by rw [hc]; rfl), by rw [ht]; exact hP8, hD8⟩, hS.F ht⟩) hS.2.2 dL_join_19

set_option maxHeartbeats 4000000 in
set_option maxRecDepth 100000 in
theorem c_L_rate (l : Launch) (hl0 : l.stackTraces = false) (dC : Nat → ClassId) (dI : Nat → Nat → Nat) (cI cL : ClassId) (h r1 : Nat) (d1 : Nat → Nat) (r2 : Nat) (d2 : Nat → Nat) (rc : Nat) (n : Nat) (F : Nat → Nat → Int32) (n2 : Nat) (G : Nat → Nat → Int32) (ct ch : Nat → Int32) (ao : Nat) (O : Nat → Int64) (sz : Nat) (va : Int32) (vx : Int32) (hn : n ≤ 12) : Met l yL_rate wsL_rate ({ frames := 8, cells := 2, slots := 12, locals := 126 } : Room) (va_Pc [.ref h, .int va, .int vx, .ref ao] (fun U => PL dC dI cI cL (wB h r1 d1 r2 d2 rc cI n F n2 G ct ch ++ [(ao, .inl (cL, 1, .inr (.inl O)))]) sz U)) (va_Qi (fun r (_ : Unit) => r = nI (x_rate n va vx)) (BW dC dI (va_A (wB h r1 d1 r2 d2 rc cI n F n2 G ct ch ++ [(ao, .inl (cL, 1, .inr (.inl O)))]) sz) (wB h r1 d1 r2 d2 rc cI n (mo (x_rate n va vx) (s_set F (cl va) vx) F) n2 G ct ch ++ [(ao, .inl (cL, 1, .inr (.inl (mo (x_rate n va vx) (vp_updL O 0 (F 1 (cl va)).toInt64) O))))])) (va_A (wB h r1 d1 r2 d2 rc cI n F n2 G ct ch ++ [(ao, .inl (cL, 1, .inr (.inl O)))]) sz)) 2 12 (va_A (wB h r1 d1 r2 d2 rc cI n F n2 G ct ch ++ [(ao, .inl (cL, 1, .inr (.inl O)))]) sz) := by
  refine met_ofWH (cc := cL_rate) (maxL := 5) (ret := (some .int)) (hh := [(0, 10, 13, 21), (0, 10, 17, 13)]) (by decide) rfl ?_
  intro p e s m args below meth c s₁ B hml hv
  obtain ⟨rfl, hsz, hP, hK2, hD0, hE, hn1, hn2⟩ := hv
  have hx := B.exec
  have hb := B.bytes
  have hr := B.returns
  have hts := atoms_spec (ws := wsL_rate) B.pre
  have hown : s.vm.findClass RL = some m.cls := findClass_of_methodNamed B.named
  have hlocks := B.notSynchronized
  have htab := vx_table (x := yL_rate) B (hts (.codeWith yL_rate cL_rate 5 (some .int) [(0, 10, 13, 21), (0, 10, 17, 13)]) List.mem_cons_self)
  have hK := hK2.sub (tys' := [(cI, .int)]) [0] rfl
  subst hsz
  have hD := hD0.self (sz := s.heap.size)
  generalize hAe : va_A (wB h r1 d1 r2 d2 rc cI n F n2 G ct ch ++ [(ao, .inl (cL, 1, .inr (.inl O)))]) s.heap.size = A at hD hE ⊢
  have hA : ∀ q : Nat, s.heap.size ≤ q → A q := fun q h9 => by rw [← hAe]; exact Or.inr h9
  have hS : va_S A s.heap s.heap [] := va_S.rf
  have hl := lv_entry ([.ref h, .int va, .int vx, .ref ao]) (n := 5) (Nat.le_of_ble_eq_true rfl)
  rw [lg_entry_eq]
  generalize (lg_sl ([.ref h, .int va, .int vx, .ref ao]) ++ List.replicate (5 - (lg_sl ([.ref h, .int va, .int vx, .ref ao])).length) Slot.unset).toArray = ls at hl ⊢
  have hl : lv_has ls 5 [(0, .ref h), (1, .int va), (2, .int vx), (3, .ref ao)] := hl
  refine lv_aload_n hx hb dL_rate_0 rfl (lv_at hl 3 rfl) ?_
  refine lv_iconst (v := 0) hx hb dL_rate_1 (by decide) ?_
  refine lv_aload_n hx hb dL_rate_2 rfl (lv_at hl 0 rfl) ?_
  refine lv_iload_n hx hb dL_rate_3 rfl (lv_at hl 1 rfl) ?_
  refine lv_iload_n hx hb dL_rate_4 rfl (lv_at hl 2 rfl) ?_
  have hPc := hP.sub (ws' := wB h r1 d1 r2 d2 rc cI n F n2 G ct ch) [0, 1, 2, 3, 4, 5, 6, 7, 8, 9, 10, 11, 12, 13, 14, 15, 16, 17] rfl
  have hDc := hD.sub (ws' := wB h r1 d1 r2 d2 rc cI n F n2 G ct ch) [0, 1, 2, 3, 4, 5, 6, 7, 8, 9, 10, 11, 12, 13, 14, 15, 16, 17] (by decide) rfl
  have hFc := va_free (wc := wB h r1 d1 r2 d2 rc cI n F n2 G ct ch) hD hS hA [0, 1, 2, 3, 4, 5, 6, 7, 8, 9, 10, 11, 12, 13, 14, 15, 16, 17] rfl
  refine vx_calli (vx_runV (As := [.int va, .int vx]) (rest := [.int 0, .ref ao]) ⟨hx, hb, hml, hown, hts⟩ (c_X1_rate l hl0 dC dI cI h r1 d1 r2 d2 rc n F n2 G ct ch s.heap.size va vx hn) (cwV 2 hts gL_rate_X1_rate rfl rfl rfl (by decide +kernel) ⟨Nat.le_of_ble_eq_true rfl, Nat.le_of_ble_eq_true rfl⟩) ⟨PW.blind, va_recv hK hP (ci := 1) (q0 := 0) rfl rfl, fun U hU hW => ⟨rfl, PW.go hPc hK hDc hE hS hFc hU hW⟩⟩ rfl rfl hl.1 rfl (lv_room (Nat.le_of_ble_eq_true rfl)) dL_rate_5 ⟨Nat.le_of_ble_eq_true rfl, Nat.le_of_ble_eq_true rfl⟩) hS (fun q _ h9 => hFc q h9) hFc (fun q _ h9 => hFc q h9) (fun E9 ce9 q9 u9 t9 H1 locs9 ht9 hvm9 hw9 hB9 hz9 hk9 hS9 hce9 hcv9 hcl9 => ?_) (fun r u9 t9 H1 locs ht9 hvm9 hw9 hB9 hz9 hk9 hS => ?_)
  · have hS9 := hS9
    obtain ⟨hB9, hP9, hD9⟩ := hB9
    rw [ht9] at hP9
    obtain ⟨hP, hD⟩ := va_join (wr := [(ao, .inl (cL, 1, .inr (.inl O)))]) (w1 := wB h r1 d1 r2 d2 rc cI n F n2 G ct ch) hP hD [0, 1, 2, 3, 4, 5, 6, 7, 8, 9, 10, 11, 12, 13, 14, 15, 16, 17] [18] rfl rfl (by decide) (by decide) hk9 hFc hP9 hD9
    have hP := hP.sub (ws' := wB h r1 d1 r2 d2 rc cI n F n2 G ct ch ++ [(ao, .inl (cL, 1, .inr (.inl O)))]) [1, 2, 3, 4, 5, 6, 7, 8, 9, 10, 11, 12, 13, 14, 15, 16, 17, 18, 0] rfl
    have hD := hD.sub (ws' := wB h r1 d1 r2 d2 rc cI n F n2 G ct ch ++ [(ao, .inl (cL, 1, .inr (.inl O)))]) [1, 2, 3, 4, 5, 6, 7, 8, 9, 10, 11, 12, 13, 14, 15, 16, 17, 18, 0] (by decide) rfl
    rcases exE_2 hB9 with ⟨hc, hE9⟩ | ⟨hc, hE9⟩
    · subst hE9
      refine vx_catch (name := "java/lang/IndexOutOfBoundsException") hown [] ⟨0, 10, 13, 21⟩ [⟨0, 10, 17, 13⟩] (htab.trans rfl) (fun z hz => by simp at hz) (by decide) (by decide) (hts (.classLink RL 21 "java/lang/IndexOutOfBoundsException") (by decide +kernel)) (va_Nw.use rfl (hE.2.2.1 (.castable "java/lang/IndexOutOfBoundsException" "java/lang/IndexOutOfBoundsException") (by decide +kernel))) hce9 hcv9 hcl9 ?_
      refine lv_astore (lv' := [(4, .ref q9), (0, .ref h), (1, .int va), (2, .int vx), (3, .ref ao)]) hx hb dL_rate_13 hl (by decide) rfl (fun ls hl => ?_)
      refine lv_iconst (v := 1) hx hb dL_rate_15 (by decide) ?_
      refine W.widen (k := 2) (n := 12) (Nat.le_of_ble_eq_true rfl) (Nat.le_of_ble_eq_true rfl) ?_
      have hP8 : va_P (dC, dI) vwCl (wB h r1 d1 r2 d2 rc cI n (mo (x_rate n va vx) (s_set F (cl va) vx) F) n2 G ct ch ++ [(ao, .inl (cL, 1, .inr (.inl (mo (x_rate n va vx) (vp_updL O 0 (F 1 (cl va)).toInt64) O))))]) H1 := by rw [hc]; exact hP
      have hD8 : va_D A (wB h r1 d1 r2 d2 rc cI n (mo (x_rate n va vx) (s_set F (cl va) vx) F) n2 G ct ch ++ [(ao, .inl (cL, 1, .inr (.inl (mo (x_rate n va vx) (vp_updL O 0 (F 1 (cl va)).toInt64) O))))]) := by rw [hc]; exact hD
      exact W.iret (v := 1) hx hb hr (fun t ht hW => ⟨⟨_, (), rfl, (show (1 : Int32) = nI (x_rate n va vx) from by rw [hc]; rfl), by rw [ht]; exact hP8, hD8⟩, hS9.F ht⟩) hS9.2.2 dL_rate_16
    · subst hE9
      refine vx_catch (name := "java/lang/IllegalArgumentException") hown [⟨0, 10, 13, 21⟩] ⟨0, 10, 17, 13⟩ [] (htab.trans rfl) (fun z hz => Or.inr (by rw [List.mem_singleton.mp hz]; exact ⟨by decide, "java/lang/IndexOutOfBoundsException", hts (.classLink RL 21 "java/lang/IndexOutOfBoundsException") (by decide +kernel), hn2⟩)) (by decide) (by decide) (hts (.classLink RL 13 "java/lang/IllegalArgumentException") (by decide +kernel)) (va_Nw.use rfl (hE.2.2.1 (.castable "java/lang/IllegalArgumentException" "java/lang/IllegalArgumentException") (by decide +kernel))) hce9 hcv9 hcl9 ?_
      refine lv_astore (lv' := [(4, .ref q9), (0, .ref h), (1, .int va), (2, .int vx), (3, .ref ao)]) hx hb dL_rate_17 hl (by decide) rfl (fun ls hl => ?_)
      refine lv_iconst (v := 2) hx hb dL_rate_19 (by decide) ?_
      refine W.widen (k := 2) (n := 12) (Nat.le_of_ble_eq_true rfl) (Nat.le_of_ble_eq_true rfl) ?_
      have hP8 : va_P (dC, dI) vwCl (wB h r1 d1 r2 d2 rc cI n (mo (x_rate n va vx) (s_set F (cl va) vx) F) n2 G ct ch ++ [(ao, .inl (cL, 1, .inr (.inl (mo (x_rate n va vx) (vp_updL O 0 (F 1 (cl va)).toInt64) O))))]) H1 := by rw [hc]; exact hP
      have hD8 : va_D A (wB h r1 d1 r2 d2 rc cI n (mo (x_rate n va vx) (s_set F (cl va) vx) F) n2 G ct ch ++ [(ao, .inl (cL, 1, .inr (.inl (mo (x_rate n va vx) (vp_updL O 0 (F 1 (cl va)).toInt64) O))))]) := by rw [hc]; exact hD
      exact W.iret (v := 2) hx hb hr (fun t ht hW => ⟨⟨_, (), rfl, (show (2 : Int32) = nI (x_rate n va vx) from by rw [hc]; rfl), by rw [ht]; exact hP8, hD8⟩, hS9.F ht⟩) hS9.2.2 dL_rate_20
  · obtain ⟨hc, hr9⟩ := hw9
    subst hr9
    obtain ⟨hP9, hD9⟩ := hB9
    rw [ht9] at hP9
    obtain ⟨hP, hD⟩ := va_join (wr := [(ao, .inl (cL, 1, .inr (.inl O)))]) (w1 := wB h r1 d1 r2 d2 rc cI n (s_set F (cl va) vx) n2 G ct ch) hP hD [0, 1, 2, 3, 4, 5, 6, 7, 8, 9, 10, 11, 12, 13, 14, 15, 16, 17] [18] rfl rfl (by decide) (by decide) hk9 hFc hP9 hD9
    have hP := hP.sub (ws' := wB h r1 d1 r2 d2 rc cI n (s_set F (cl va) vx) n2 G ct ch ++ [(ao, .inl (cL, 1, .inr (.inl O)))]) [1, 2, 3, 4, 5, 6, 7, 8, 9, 10, 11, 12, 13, 14, 15, 16, 17, 18, 0] rfl
    have hD := hD.sub (ws' := wB h r1 d1 r2 d2 rc cI n (s_set F (cl va) vx) n2 G ct ch ++ [(ao, .inl (cL, 1, .inr (.inl O)))]) [1, 2, 3, 4, 5, 6, 7, 8, 9, 10, 11, 12, 13, 14, 15, 16, 17, 18, 0] (by decide) rfl
    refine lv_i2l hx hb dL_rate_8 rfl ?_
    refine va_last hx hb hK2 hP hD hS 18 1 rfl rfl (vp_in_nI (n := 0) (N := 1) (by decide) (by decide)) dL_rate_9 (fun H locs hP hD hS => ?_)
    refine lv_goto (tgt := 21) hx hb dL_rate_10 (by decide) ?_
    refine lv_iconst (v := 0) hx hb dL_rate_21 (by decide) ?_
    refine W.widen (k := 2) (n := 12) (Nat.le_of_ble_eq_true rfl) (Nat.le_of_ble_eq_true rfl) ?_
    have hP8 : va_P (dC, dI) vwCl (wB h r1 d1 r2 d2 rc cI n (mo (x_rate n va vx) (s_set F (cl va) vx) F) n2 G ct ch ++ [(ao, .inl (cL, 1, .inr (.inl (mo (x_rate n va vx) (vp_updL O 0 (F 1 (cl va)).toInt64) O))))]) H := by rw [hc]; exact hP
    have hD8 : va_D A (wB h r1 d1 r2 d2 rc cI n (mo (x_rate n va vx) (s_set F (cl va) vx) F) n2 G ct ch ++ [(ao, .inl (cL, 1, .inr (.inl (mo (x_rate n va vx) (vp_updL O 0 (F 1 (cl va)).toInt64) O))))]) := by rw [hc]; exact hD
    exact W.iret (v := 0) hx hb hr (fun t ht hW => ⟨⟨_, (), rfl, (show (0 : Int32) = nI (x_rate n va vx) from by rw [hc]; rfl), by rw [ht]; exact hP8, hD8⟩, hS.F ht⟩) hS.2.2 dL_rate_22

set_option maxHeartbeats 4000000 in
set_option maxRecDepth 100000 in
theorem c_L_bout (l : Launch) (hl0 : l.stackTraces = false) (dC : Nat → ClassId) (dI : Nat → Nat → Nat) (cI cL : ClassId) (h r1 : Nat) (d1 : Nat → Nat) (r2 : Nat) (d2 : Nat → Nat) (rc : Nat) (n : Nat) (F : Nat → Nat → Int32) (n2 : Nat) (G : Nat → Nat → Int32) (ct ch : Nat → Int32) (ao : Nat) (O : Nat → Int64) (sz : Nat) (va : Int32) (vb : Int32) (vr : Int32) (hn : n ≤ 12) (hR : okR n F) : Met l yL_bout wsL_bout ({ frames := 8, cells := 4, slots := 24, locals := 132 } : Room) (va_Pc [.ref h, .int va, .int vb, .int vr, .ref ao] (fun U => PL dC dI cI cL (wB h r1 d1 r2 d2 rc cI n F n2 G ct ch ++ [(ao, .inl (cL, 1, .inr (.inl O)))]) sz U)) (va_Qi (fun r (_ : Unit) => r = nI (x_bout n va vb vr)) (BW dC dI (va_A (wB h r1 d1 r2 d2 rc cI n F n2 G ct ch ++ [(ao, .inl (cL, 1, .inr (.inl O)))]) sz) (wB h r1 d1 r2 d2 rc cI n (mo (x_bout n va vb vr) (s_hold F (cl va) (cl vb) (cl vr)) F) n2 G (mo (x_bout n va vb vr) (s_ct ct F (cl va) (cl vb) (cl vr)) ct) ch ++ [(ao, .inl (cL, 1, .inr (.inl (mo (x_bout n va vb vr) (vp_updL O 0 (s_gain F (cl va) (cl vb) vr).toInt64) O))))])) (va_A (wB h r1 d1 r2 d2 rc cI n F n2 G ct ch ++ [(ao, .inl (cL, 1, .inr (.inl O)))]) sz)) 4 24 (va_A (wB h r1 d1 r2 d2 rc cI n F n2 G ct ch ++ [(ao, .inl (cL, 1, .inr (.inl O)))]) sz) := by
  refine met_ofWH (cc := cL_bout) (maxL := 6) (ret := (some .int)) (hh := [(0, 12, 15, 21), (0, 12, 19, 13)]) (by decide) rfl ?_
  intro p e s m args below meth c s₁ B hml hv
  obtain ⟨rfl, hsz, hP, hK2, hD0, hE, hn1, hn2⟩ := hv
  have hx := B.exec
  have hb := B.bytes
  have hr := B.returns
  have hts := atoms_spec (ws := wsL_bout) B.pre
  have hown : s.vm.findClass RL = some m.cls := findClass_of_methodNamed B.named
  have hlocks := B.notSynchronized
  have htab := vx_table (x := yL_bout) B (hts (.codeWith yL_bout cL_bout 6 (some .int) [(0, 12, 15, 21), (0, 12, 19, 13)]) List.mem_cons_self)
  have hK := hK2.sub (tys' := [(cI, .int)]) [0] rfl
  subst hsz
  have hD := hD0.self (sz := s.heap.size)
  generalize hAe : va_A (wB h r1 d1 r2 d2 rc cI n F n2 G ct ch ++ [(ao, .inl (cL, 1, .inr (.inl O)))]) s.heap.size = A at hD hE ⊢
  have hA : ∀ q : Nat, s.heap.size ≤ q → A q := fun q h9 => by rw [← hAe]; exact Or.inr h9
  have hS : va_S A s.heap s.heap [] := va_S.rf
  have hl := lv_entry ([.ref h, .int va, .int vb, .int vr, .ref ao]) (n := 6) (Nat.le_of_ble_eq_true rfl)
  rw [lg_entry_eq]
  generalize (lg_sl ([.ref h, .int va, .int vb, .int vr, .ref ao]) ++ List.replicate (6 - (lg_sl ([.ref h, .int va, .int vb, .int vr, .ref ao])).length) Slot.unset).toArray = ls at hl ⊢
  have hl : lv_has ls 6 [(0, .ref h), (1, .int va), (2, .int vb), (3, .int vr), (4, .ref ao)] := hl
  refine lv_aload hx hb dL_bout_0 (lv_at hl 4 rfl) ?_
  refine lv_iconst (v := 0) hx hb dL_bout_2 (by decide) ?_
  refine lv_aload_n hx hb dL_bout_3 rfl (lv_at hl 0 rfl) ?_
  refine lv_iload_n hx hb dL_bout_4 rfl (lv_at hl 1 rfl) ?_
  refine lv_iload_n hx hb dL_bout_5 rfl (lv_at hl 2 rfl) ?_
  refine lv_iload_n hx hb dL_bout_6 rfl (lv_at hl 3 rfl) ?_
  have hPc := hP.sub (ws' := wB h r1 d1 r2 d2 rc cI n F n2 G ct ch) [0, 1, 2, 3, 4, 5, 6, 7, 8, 9, 10, 11, 12, 13, 14, 15, 16, 17] rfl
  have hDc := hD.sub (ws' := wB h r1 d1 r2 d2 rc cI n F n2 G ct ch) [0, 1, 2, 3, 4, 5, 6, 7, 8, 9, 10, 11, 12, 13, 14, 15, 16, 17] (by decide) rfl
  have hFc := va_free (wc := wB h r1 d1 r2 d2 rc cI n F n2 G ct ch) hD hS hA [0, 1, 2, 3, 4, 5, 6, 7, 8, 9, 10, 11, 12, 13, 14, 15, 16, 17] rfl
  refine vx_calli (vx_runV (As := [.int va, .int vb, .int vr]) (rest := [.int 0, .ref ao]) ⟨hx, hb, hml, hown, hts⟩ (c_X1_bout l hl0 dC dI cI h r1 d1 r2 d2 rc n F n2 G ct ch s.heap.size va vb vr hn hR) (cwV 3 hts gL_bout_X1_bout rfl rfl rfl (by decide +kernel) ⟨Nat.le_of_ble_eq_true rfl, Nat.le_of_ble_eq_true rfl⟩) ⟨PW.blind, va_recv hK hP (ci := 1) (q0 := 0) rfl rfl, fun U hU hW => ⟨rfl, PW.go hPc hK hDc hE hS hFc hU hW⟩⟩ rfl rfl hl.1 rfl (lv_room (Nat.le_of_ble_eq_true rfl)) dL_bout_7 ⟨Nat.le_of_ble_eq_true rfl, Nat.le_of_ble_eq_true rfl⟩) hS (fun q _ h9 => hFc q h9) hFc (fun q _ h9 => hFc q h9) (fun E9 ce9 q9 u9 t9 H1 locs9 ht9 hvm9 hw9 hB9 hz9 hk9 hS9 hce9 hcv9 hcl9 => ?_) (fun r u9 t9 H1 locs ht9 hvm9 hw9 hB9 hz9 hk9 hS => ?_)
  · have hS9 := hS9
    obtain ⟨hB9, hP9, hD9⟩ := hB9
    rw [ht9] at hP9
    obtain ⟨hP, hD⟩ := va_join (wr := [(ao, .inl (cL, 1, .inr (.inl O)))]) (w1 := wB h r1 d1 r2 d2 rc cI n F n2 G ct ch) hP hD [0, 1, 2, 3, 4, 5, 6, 7, 8, 9, 10, 11, 12, 13, 14, 15, 16, 17] [18] rfl rfl (by decide) (by decide) hk9 hFc hP9 hD9
    have hP := hP.sub (ws' := wB h r1 d1 r2 d2 rc cI n F n2 G ct ch ++ [(ao, .inl (cL, 1, .inr (.inl O)))]) [1, 2, 3, 4, 5, 6, 7, 8, 9, 10, 11, 12, 13, 14, 15, 16, 17, 18, 0] rfl
    have hD := hD.sub (ws' := wB h r1 d1 r2 d2 rc cI n F n2 G ct ch ++ [(ao, .inl (cL, 1, .inr (.inl O)))]) [1, 2, 3, 4, 5, 6, 7, 8, 9, 10, 11, 12, 13, 14, 15, 16, 17, 18, 0] (by decide) rfl
    rcases exE_2 hB9 with ⟨hc, hE9⟩ | ⟨hc, hE9⟩
    · subst hE9
      refine vx_catch (name := "java/lang/IndexOutOfBoundsException") hown [] ⟨0, 12, 15, 21⟩ [⟨0, 12, 19, 13⟩] (htab.trans rfl) (fun z hz => by simp at hz) (by decide) (by decide) (hts (.classLink RL 21 "java/lang/IndexOutOfBoundsException") (by decide +kernel)) (va_Nw.use rfl (hE.2.2.1 (.castable "java/lang/IndexOutOfBoundsException" "java/lang/IndexOutOfBoundsException") (by decide +kernel))) hce9 hcv9 hcl9 ?_
      refine lv_astore (lv' := [(5, .ref q9), (0, .ref h), (1, .int va), (2, .int vb), (3, .int vr), (4, .ref ao)]) hx hb dL_bout_15 hl (by decide) rfl (fun ls hl => ?_)
      refine lv_iconst (v := 1) hx hb dL_bout_17 (by decide) ?_
      refine W.widen (k := 4) (n := 24) (Nat.le_of_ble_eq_true rfl) (Nat.le_of_ble_eq_true rfl) ?_
      have hP8 : va_P (dC, dI) vwCl (wB h r1 d1 r2 d2 rc cI n (mo (x_bout n va vb vr) (s_hold F (cl va) (cl vb) (cl vr)) F) n2 G (mo (x_bout n va vb vr) (s_ct ct F (cl va) (cl vb) (cl vr)) ct) ch ++ [(ao, .inl (cL, 1, .inr (.inl (mo (x_bout n va vb vr) (vp_updL O 0 (s_gain F (cl va) (cl vb) vr).toInt64) O))))]) H1 := by rw [hc]; exact hP
      have hD8 : va_D A (wB h r1 d1 r2 d2 rc cI n (mo (x_bout n va vb vr) (s_hold F (cl va) (cl vb) (cl vr)) F) n2 G (mo (x_bout n va vb vr) (s_ct ct F (cl va) (cl vb) (cl vr)) ct) ch ++ [(ao, .inl (cL, 1, .inr (.inl (mo (x_bout n va vb vr) (vp_updL O 0 (s_gain F (cl va) (cl vb) vr).toInt64) O))))]) := by rw [hc]; exact hD
      exact W.iret (v := 1) hx hb hr (fun t ht hW => ⟨⟨_, (), rfl, (show (1 : Int32) = nI (x_bout n va vb vr) from by rw [hc]; rfl), by rw [ht]; exact hP8, hD8⟩, hS9.F ht⟩) hS9.2.2 dL_bout_18
    · subst hE9
      refine vx_catch (name := "java/lang/IllegalArgumentException") hown [⟨0, 12, 15, 21⟩] ⟨0, 12, 19, 13⟩ [] (htab.trans rfl) (fun z hz => Or.inr (by rw [List.mem_singleton.mp hz]; exact ⟨by decide, "java/lang/IndexOutOfBoundsException", hts (.classLink RL 21 "java/lang/IndexOutOfBoundsException") (by decide +kernel), hn2⟩)) (by decide) (by decide) (hts (.classLink RL 13 "java/lang/IllegalArgumentException") (by decide +kernel)) (va_Nw.use rfl (hE.2.2.1 (.castable "java/lang/IllegalArgumentException" "java/lang/IllegalArgumentException") (by decide +kernel))) hce9 hcv9 hcl9 ?_
      refine lv_astore (lv' := [(5, .ref q9), (0, .ref h), (1, .int va), (2, .int vb), (3, .int vr), (4, .ref ao)]) hx hb dL_bout_19 hl (by decide) rfl (fun ls hl => ?_)
      refine lv_iconst (v := 2) hx hb dL_bout_21 (by decide) ?_
      refine W.widen (k := 4) (n := 24) (Nat.le_of_ble_eq_true rfl) (Nat.le_of_ble_eq_true rfl) ?_
      have hP8 : va_P (dC, dI) vwCl (wB h r1 d1 r2 d2 rc cI n (mo (x_bout n va vb vr) (s_hold F (cl va) (cl vb) (cl vr)) F) n2 G (mo (x_bout n va vb vr) (s_ct ct F (cl va) (cl vb) (cl vr)) ct) ch ++ [(ao, .inl (cL, 1, .inr (.inl (mo (x_bout n va vb vr) (vp_updL O 0 (s_gain F (cl va) (cl vb) vr).toInt64) O))))]) H1 := by rw [hc]; exact hP
      have hD8 : va_D A (wB h r1 d1 r2 d2 rc cI n (mo (x_bout n va vb vr) (s_hold F (cl va) (cl vb) (cl vr)) F) n2 G (mo (x_bout n va vb vr) (s_ct ct F (cl va) (cl vb) (cl vr)) ct) ch ++ [(ao, .inl (cL, 1, .inr (.inl (mo (x_bout n va vb vr) (vp_updL O 0 (s_gain F (cl va) (cl vb) vr).toInt64) O))))]) := by rw [hc]; exact hD
      exact W.iret (v := 2) hx hb hr (fun t ht hW => ⟨⟨_, (), rfl, (show (2 : Int32) = nI (x_bout n va vb vr) from by rw [hc]; rfl), by rw [ht]; exact hP8, hD8⟩, hS9.F ht⟩) hS9.2.2 dL_bout_22
  · obtain ⟨hc, hr9⟩ := hw9
    subst hr9
    obtain ⟨hP9, hD9⟩ := hB9
    rw [ht9] at hP9
    obtain ⟨hP, hD⟩ := va_join (wr := [(ao, .inl (cL, 1, .inr (.inl O)))]) (w1 := wB h r1 d1 r2 d2 rc cI n (s_hold F (cl va) (cl vb) (cl vr)) n2 G (s_ct ct F (cl va) (cl vb) (cl vr)) ch) hP hD [0, 1, 2, 3, 4, 5, 6, 7, 8, 9, 10, 11, 12, 13, 14, 15, 16, 17] [18] rfl rfl (by decide) (by decide) hk9 hFc hP9 hD9
    have hP := hP.sub (ws' := wB h r1 d1 r2 d2 rc cI n (s_hold F (cl va) (cl vb) (cl vr)) n2 G (s_ct ct F (cl va) (cl vb) (cl vr)) ch ++ [(ao, .inl (cL, 1, .inr (.inl O)))]) [1, 2, 3, 4, 5, 6, 7, 8, 9, 10, 11, 12, 13, 14, 15, 16, 17, 18, 0] rfl
    have hD := hD.sub (ws' := wB h r1 d1 r2 d2 rc cI n (s_hold F (cl va) (cl vb) (cl vr)) n2 G (s_ct ct F (cl va) (cl vb) (cl vr)) ch ++ [(ao, .inl (cL, 1, .inr (.inl O)))]) [1, 2, 3, 4, 5, 6, 7, 8, 9, 10, 11, 12, 13, 14, 15, 16, 17, 18, 0] (by decide) rfl
    refine lv_i2l hx hb dL_bout_10 rfl ?_
    refine va_last hx hb hK2 hP hD hS 18 1 rfl rfl (vp_in_nI (n := 0) (N := 1) (by decide) (by decide)) dL_bout_11 (fun H locs hP hD hS => ?_)
    refine lv_goto (tgt := 23) hx hb dL_bout_12 (by decide) ?_
    refine lv_iconst (v := 0) hx hb dL_bout_23 (by decide) ?_
    refine W.widen (k := 4) (n := 24) (Nat.le_of_ble_eq_true rfl) (Nat.le_of_ble_eq_true rfl) ?_
    have hP8 : va_P (dC, dI) vwCl (wB h r1 d1 r2 d2 rc cI n (mo (x_bout n va vb vr) (s_hold F (cl va) (cl vb) (cl vr)) F) n2 G (mo (x_bout n va vb vr) (s_ct ct F (cl va) (cl vb) (cl vr)) ct) ch ++ [(ao, .inl (cL, 1, .inr (.inl (mo (x_bout n va vb vr) (vp_updL O 0 (s_gain F (cl va) (cl vb) vr).toInt64) O))))]) H := by rw [hc]; exact hP
    have hD8 : va_D A (wB h r1 d1 r2 d2 rc cI n (mo (x_bout n va vb vr) (s_hold F (cl va) (cl vb) (cl vr)) F) n2 G (mo (x_bout n va vb vr) (s_ct ct F (cl va) (cl vb) (cl vr)) ct) ch ++ [(ao, .inl (cL, 1, .inr (.inl (mo (x_bout n va vb vr) (vp_updL O 0 (s_gain F (cl va) (cl vb) vr).toInt64) O))))]) := by rw [hc]; exact hD
    exact W.iret (v := 0) hx hb hr (fun t ht hW => ⟨⟨_, (), rfl, (show (0 : Int32) = nI (x_bout n va vb vr) from by rw [hc]; rfl), by rw [ht]; exact hP8, hD8⟩, hS.F ht⟩) hS.2.2 dL_bout_24

set_option maxHeartbeats 4000000 in
set_option maxRecDepth 100000 in
theorem c_L_expected (l : Launch) (hl0 : l.stackTraces = false) (dC : Nat → ClassId) (dI : Nat → Nat → Nat) (cI cL : ClassId) (h r1 : Nat) (d1 : Nat → Nat) (r2 : Nat) (d2 : Nat → Nat) (rc : Nat) (n : Nat) (F : Nat → Nat → Int32) (n2 : Nat) (G : Nat → Nat → Int32) (ct ch : Nat → Int32) (ao : Nat) (O : Nat → Int64) (sz : Nat) (va : Int32) (vb : Int32) (hn : n ≤ 12) (hR : okR n F) : Met l yL_expected wsL_expected ({ frames := 8, cells := 2, slots := 12, locals := 125 } : Room) (va_Pc [.ref h, .int va, .int vb, .ref ao] (fun U => PL dC dI cI cL (wB h r1 d1 r2 d2 rc cI n F n2 G ct ch ++ [(ao, .inl (cL, 1, .inr (.inl O)))]) sz U)) (va_Qi (fun r (_ : Unit) => r = nI (x_exp n va vb)) (BW dC dI (va_A (wB h r1 d1 r2 d2 rc cI n F n2 G ct ch ++ [(ao, .inl (cL, 1, .inr (.inl O)))]) sz) (wB h r1 d1 r2 d2 rc cI n F n2 G ct ch ++ [(ao, .inl (cL, 1, .inr (.inl (mo (x_exp n va vb) (vp_updL O 0 (s_exp F (cl va) (cl vb)).toInt64) O))))])) (va_A (wB h r1 d1 r2 d2 rc cI n F n2 G ct ch ++ [(ao, .inl (cL, 1, .inr (.inl O)))]) sz)) 2 12 (va_A (wB h r1 d1 r2 d2 rc cI n F n2 G ct ch ++ [(ao, .inl (cL, 1, .inr (.inl O)))]) sz) := by
  refine met_ofWH (cc := cL_expected) (maxL := 5) (ret := (some .int)) (hh := [(0, 10, 13, 21)]) (by decide) rfl ?_
  intro p e s m args below meth c s₁ B hml hv
  obtain ⟨rfl, hsz, hP, hK2, hD0, hE, hn1, hn2⟩ := hv
  have hx := B.exec
  have hb := B.bytes
  have hr := B.returns
  have hts := atoms_spec (ws := wsL_expected) B.pre
  have hown : s.vm.findClass RL = some m.cls := findClass_of_methodNamed B.named
  have hlocks := B.notSynchronized
  have htab := vx_table (x := yL_expected) B (hts (.codeWith yL_expected cL_expected 5 (some .int) [(0, 10, 13, 21)]) List.mem_cons_self)
  have hK := hK2.sub (tys' := [(cI, .int)]) [0] rfl
  subst hsz
  have hD := hD0.self (sz := s.heap.size)
  generalize hAe : va_A (wB h r1 d1 r2 d2 rc cI n F n2 G ct ch ++ [(ao, .inl (cL, 1, .inr (.inl O)))]) s.heap.size = A at hD hE ⊢
  have hA : ∀ q : Nat, s.heap.size ≤ q → A q := fun q h9 => by rw [← hAe]; exact Or.inr h9
  have hS : va_S A s.heap s.heap [] := va_S.rf
  have hl := lv_entry ([.ref h, .int va, .int vb, .ref ao]) (n := 5) (Nat.le_of_ble_eq_true rfl)
  rw [lg_entry_eq]
  generalize (lg_sl ([.ref h, .int va, .int vb, .ref ao]) ++ List.replicate (5 - (lg_sl ([.ref h, .int va, .int vb, .ref ao])).length) Slot.unset).toArray = ls at hl ⊢
  have hl : lv_has ls 5 [(0, .ref h), (1, .int va), (2, .int vb), (3, .ref ao)] := hl
  refine lv_aload_n hx hb dL_expected_0 rfl (lv_at hl 3 rfl) ?_
  refine lv_iconst (v := 0) hx hb dL_expected_1 (by decide) ?_
  refine lv_aload_n hx hb dL_expected_2 rfl (lv_at hl 0 rfl) ?_
  refine lv_iload_n hx hb dL_expected_3 rfl (lv_at hl 1 rfl) ?_
  refine lv_iload_n hx hb dL_expected_4 rfl (lv_at hl 2 rfl) ?_
  refine vx_calli (vx_runV (As := [.int va, .int vb]) (rest := [.int 0, .ref ao]) ⟨hx, hb, hml, hown, hts⟩ (c_X1_expected l hl0 dC dI cI h r1 d1 r2 d2 rc n F n2 G ct ch s.heap va vb hn hR) (cwV 2 hts gL_expected_X1_expected rfl rfl rfl (by decide +kernel) ⟨Nat.le_of_ble_eq_true rfl, Nat.le_of_ble_eq_true rfl⟩) ⟨PRX.blind, va_recv hK hP (ci := 1) (q0 := 0) rfl rfl, fun U hU hW => ⟨rfl, hU, PR.go (hP.sub (ws' := wB h r1 d1 r2 d2 rc cI n F n2 G ct ch) [0, 1, 2, 3, 4, 5, 6, 7, 8, 9, 10, 11, 12, 13, 14, 15, 16, 17] rfl) hK hE hS hU hW⟩⟩ rfl rfl hl.1 rfl (lv_room (Nat.le_of_ble_eq_true rfl)) dL_expected_5 ⟨Nat.le_of_ble_eq_true rfl, Nat.le_of_ble_eq_true rfl⟩) hS (fun q _ h9 => h9.elim) (fun q h9 => h9.elim) (fun q _ h9 => h9.elim) (fun E9 ce9 q9 u9 t9 H1 locs9 ht9 hvm9 hw9 hB9 hz9 hk9 hS9 hce9 hcv9 hcl9 => ?_) (fun r u9 t9 H1 locs ht9 hvm9 hw9 hB9 hz9 hk9 hS => ?_)
  · have hS9 := hS9
    have hP : va_P (dC, dI) vwCl (wB h r1 d1 r2 d2 rc cI n F n2 G ct ch ++ [(ao, .inl (cL, 1, .inr (.inl O)))]) H1 := fun k8 q8 hq8 => (hP k8 q8 hq8).kept (hk9 q8.1 (hP k8 q8 hq8).lt (fun z => z))
    obtain ⟨hc, hE9⟩ := exE_1 hB9
    subst hE9
    refine vx_catch (name := "java/lang/IndexOutOfBoundsException") hown [] ⟨0, 10, 13, 21⟩ [] (htab.trans rfl) (fun z hz => by simp at hz) (by decide) (by decide) (hts (.classLink RL 21 "java/lang/IndexOutOfBoundsException") (by decide +kernel)) (va_Nw.use rfl (hE.2.2.1 (.castable "java/lang/IndexOutOfBoundsException" "java/lang/IndexOutOfBoundsException") (by decide +kernel))) hce9 hcv9 hcl9 ?_
    refine lv_astore (lv' := [(4, .ref q9), (0, .ref h), (1, .int va), (2, .int vb), (3, .ref ao)]) hx hb dL_expected_13 hl (by decide) rfl (fun ls hl => ?_)
    refine lv_iconst (v := 1) hx hb dL_expected_15 (by decide) ?_
    refine W.widen (k := 2) (n := 12) (Nat.le_of_ble_eq_true rfl) (Nat.le_of_ble_eq_true rfl) ?_
    have hP8 : va_P (dC, dI) vwCl (wB h r1 d1 r2 d2 rc cI n F n2 G ct ch ++ [(ao, .inl (cL, 1, .inr (.inl (mo (x_exp n va vb) (vp_updL O 0 (s_exp F (cl va) (cl vb)).toInt64) O))))]) H1 := by rw [hc]; exact hP
    have hD8 : va_D A (wB h r1 d1 r2 d2 rc cI n F n2 G ct ch ++ [(ao, .inl (cL, 1, .inr (.inl (mo (x_exp n va vb) (vp_updL O 0 (s_exp F (cl va) (cl vb)).toInt64) O))))]) := by rw [hc]; exact hD
    exact W.iret (v := 1) hx hb hr (fun t ht hW => ⟨⟨_, (), rfl, (show (1 : Int32) = nI (x_exp n va vb) from by rw [hc]; rfl), by rw [ht]; exact hP8, hD8⟩, hS9.F ht⟩) hS9.2.2 dL_expected_16
  · obtain ⟨hc, hr9⟩ := hw9
    subst hr9
    have e9 : H1 = s.heap := ht9.symm.trans hB9
    subst e9
    refine lv_i2l hx hb dL_expected_8 rfl ?_
    refine va_last hx hb hK2 hP hD hS 18 1 rfl rfl (vp_in_nI (n := 0) (N := 1) (by decide) (by decide)) dL_expected_9 (fun H locs hP hD hS => ?_)
    refine lv_goto (tgt := 17) hx hb dL_expected_10 (by decide) ?_
    refine lv_iconst (v := 0) hx hb dL_expected_17 (by decide) ?_
    refine W.widen (k := 2) (n := 12) (Nat.le_of_ble_eq_true rfl) (Nat.le_of_ble_eq_true rfl) ?_
    have hP8 : va_P (dC, dI) vwCl (wB h r1 d1 r2 d2 rc cI n F n2 G ct ch ++ [(ao, .inl (cL, 1, .inr (.inl (mo (x_exp n va vb) (vp_updL O 0 (s_exp F (cl va) (cl vb)).toInt64) O))))]) H := by rw [hc]; exact hP
    have hD8 : va_D A (wB h r1 d1 r2 d2 rc cI n F n2 G ct ch ++ [(ao, .inl (cL, 1, .inr (.inl (mo (x_exp n va vb) (vp_updL O 0 (s_exp F (cl va) (cl vb)).toInt64) O))))]) := by rw [hc]; exact hD
    exact W.iret (v := 0) hx hb hr (fun t ht hW => ⟨⟨_, (), rfl, (show (0 : Int32) = nI (x_exp n va vb) from by rw [hc]; rfl), by rw [ht]; exact hP8, hD8⟩, hS.F ht⟩) hS.2.2 dL_expected_18

set_option maxHeartbeats 4000000 in
set_option maxRecDepth 100000 in
theorem c_L_told (l : Launch) (hl0 : l.stackTraces = false) (dC : Nat → ClassId) (dI : Nat → Nat → Nat) (cI cL : ClassId) (h r1 : Nat) (d1 : Nat → Nat) (r2 : Nat) (d2 : Nat → Nat) (rc : Nat) (n : Nat) (F : Nat → Nat → Int32) (n2 : Nat) (G : Nat → Nat → Int32) (ct ch : Nat → Int32) (ao : Nat) (O : Nat → Int64) (sz : Nat) (va : Int32) (vk : Int32) (hn : n ≤ 12) : Met l yL_told wsL_told ({ frames := 8, cells := 2, slots := 12, locals := 125 } : Room) (va_Pc [.ref h, .int va, .int vk, .ref ao] (fun U => PL dC dI cI cL (wB h r1 d1 r2 d2 rc cI n F n2 G ct ch ++ [(ao, .inl (cL, 1, .inr (.inl O)))]) sz U)) (va_Qi (fun r (_ : Unit) => r = nI (x_told n va vk)) (BW dC dI (va_A (wB h r1 d1 r2 d2 rc cI n F n2 G ct ch ++ [(ao, .inl (cL, 1, .inr (.inl O)))]) sz) (wB h r1 d1 r2 d2 rc cI n F n2 G ct ch ++ [(ao, .inl (cL, 1, .inr (.inl (mo (x_told n va vk) (vp_updL O 0 (s_told n F (cl va) vk).toInt64) O))))])) (va_A (wB h r1 d1 r2 d2 rc cI n F n2 G ct ch ++ [(ao, .inl (cL, 1, .inr (.inl O)))]) sz)) 2 12 (va_A (wB h r1 d1 r2 d2 rc cI n F n2 G ct ch ++ [(ao, .inl (cL, 1, .inr (.inl O)))]) sz) := by
  refine met_ofWH (cc := cL_told) (maxL := 5) (ret := (some .int)) (hh := [(0, 10, 13, 21)]) (by decide) rfl ?_
  intro p e s m args below meth c s₁ B hml hv
  obtain ⟨rfl, hsz, hP, hK2, hD0, hE, hn1, hn2⟩ := hv
  have hx := B.exec
  have hb := B.bytes
  have hr := B.returns
  have hts := atoms_spec (ws := wsL_told) B.pre
  have hown : s.vm.findClass RL = some m.cls := findClass_of_methodNamed B.named
  have hlocks := B.notSynchronized
  have htab := vx_table (x := yL_told) B (hts (.codeWith yL_told cL_told 5 (some .int) [(0, 10, 13, 21)]) List.mem_cons_self)
  have hK := hK2.sub (tys' := [(cI, .int)]) [0] rfl
  subst hsz
  have hD := hD0.self (sz := s.heap.size)
  generalize hAe : va_A (wB h r1 d1 r2 d2 rc cI n F n2 G ct ch ++ [(ao, .inl (cL, 1, .inr (.inl O)))]) s.heap.size = A at hD hE ⊢
  have hA : ∀ q : Nat, s.heap.size ≤ q → A q := fun q h9 => by rw [← hAe]; exact Or.inr h9
  have hS : va_S A s.heap s.heap [] := va_S.rf
  have hl := lv_entry ([.ref h, .int va, .int vk, .ref ao]) (n := 5) (Nat.le_of_ble_eq_true rfl)
  rw [lg_entry_eq]
  generalize (lg_sl ([.ref h, .int va, .int vk, .ref ao]) ++ List.replicate (5 - (lg_sl ([.ref h, .int va, .int vk, .ref ao])).length) Slot.unset).toArray = ls at hl ⊢
  have hl : lv_has ls 5 [(0, .ref h), (1, .int va), (2, .int vk), (3, .ref ao)] := hl
  refine lv_aload_n hx hb dL_told_0 rfl (lv_at hl 3 rfl) ?_
  refine lv_iconst (v := 0) hx hb dL_told_1 (by decide) ?_
  refine lv_aload_n hx hb dL_told_2 rfl (lv_at hl 0 rfl) ?_
  refine lv_iload_n hx hb dL_told_3 rfl (lv_at hl 1 rfl) ?_
  refine lv_iload_n hx hb dL_told_4 rfl (lv_at hl 2 rfl) ?_
  refine vx_calli (vx_runV (As := [.int va, .int vk]) (rest := [.int 0, .ref ao]) ⟨hx, hb, hml, hown, hts⟩ (c_X1_told l hl0 dC dI cI h r1 d1 r2 d2 rc n F n2 G ct ch s.heap va vk hn) (cwV 2 hts gL_told_X1_told rfl rfl rfl (by decide +kernel) ⟨Nat.le_of_ble_eq_true rfl, Nat.le_of_ble_eq_true rfl⟩) ⟨PRX.blind, va_recv hK hP (ci := 1) (q0 := 0) rfl rfl, fun U hU hW => ⟨rfl, hU, PR.go (hP.sub (ws' := wB h r1 d1 r2 d2 rc cI n F n2 G ct ch) [0, 1, 2, 3, 4, 5, 6, 7, 8, 9, 10, 11, 12, 13, 14, 15, 16, 17] rfl) hK hE hS hU hW⟩⟩ rfl rfl hl.1 rfl (lv_room (Nat.le_of_ble_eq_true rfl)) dL_told_5 ⟨Nat.le_of_ble_eq_true rfl, Nat.le_of_ble_eq_true rfl⟩) hS (fun q _ h9 => h9.elim) (fun q h9 => h9.elim) (fun q _ h9 => h9.elim) (fun E9 ce9 q9 u9 t9 H1 locs9 ht9 hvm9 hw9 hB9 hz9 hk9 hS9 hce9 hcv9 hcl9 => ?_) (fun r u9 t9 H1 locs ht9 hvm9 hw9 hB9 hz9 hk9 hS => ?_)
  · have hS9 := hS9
    have hP : va_P (dC, dI) vwCl (wB h r1 d1 r2 d2 rc cI n F n2 G ct ch ++ [(ao, .inl (cL, 1, .inr (.inl O)))]) H1 := fun k8 q8 hq8 => (hP k8 q8 hq8).kept (hk9 q8.1 (hP k8 q8 hq8).lt (fun z => z))
    obtain ⟨hc, hE9⟩ := exE_1 hB9
    subst hE9
    refine vx_catch (name := "java/lang/IndexOutOfBoundsException") hown [] ⟨0, 10, 13, 21⟩ [] (htab.trans rfl) (fun z hz => by simp at hz) (by decide) (by decide) (hts (.classLink RL 21 "java/lang/IndexOutOfBoundsException") (by decide +kernel)) (va_Nw.use rfl (hE.2.2.1 (.castable "java/lang/IndexOutOfBoundsException" "java/lang/IndexOutOfBoundsException") (by decide +kernel))) hce9 hcv9 hcl9 ?_
    refine lv_astore (lv' := [(4, .ref q9), (0, .ref h), (1, .int va), (2, .int vk), (3, .ref ao)]) hx hb dL_told_13 hl (by decide) rfl (fun ls hl => ?_)
    refine lv_iconst (v := 1) hx hb dL_told_15 (by decide) ?_
    refine W.widen (k := 2) (n := 12) (Nat.le_of_ble_eq_true rfl) (Nat.le_of_ble_eq_true rfl) ?_
    have hP8 : va_P (dC, dI) vwCl (wB h r1 d1 r2 d2 rc cI n F n2 G ct ch ++ [(ao, .inl (cL, 1, .inr (.inl (mo (x_told n va vk) (vp_updL O 0 (s_told n F (cl va) vk).toInt64) O))))]) H1 := by rw [hc]; exact hP
    have hD8 : va_D A (wB h r1 d1 r2 d2 rc cI n F n2 G ct ch ++ [(ao, .inl (cL, 1, .inr (.inl (mo (x_told n va vk) (vp_updL O 0 (s_told n F (cl va) vk).toInt64) O))))]) := by rw [hc]; exact hD
    exact W.iret (v := 1) hx hb hr (fun t ht hW => ⟨⟨_, (), rfl, (show (1 : Int32) = nI (x_told n va vk) from by rw [hc]; rfl), by rw [ht]; exact hP8, hD8⟩, hS9.F ht⟩) hS9.2.2 dL_told_16
  · obtain ⟨hc, hr9⟩ := hw9
    subst hr9
    have e9 : H1 = s.heap := ht9.symm.trans hB9
    subst e9
    refine lv_i2l hx hb dL_told_8 rfl ?_
    refine va_last hx hb hK2 hP hD hS 18 1 rfl rfl (vp_in_nI (n := 0) (N := 1) (by decide) (by decide)) dL_told_9 (fun H locs hP hD hS => ?_)
    refine lv_goto (tgt := 17) hx hb dL_told_10 (by decide) ?_
    refine lv_iconst (v := 0) hx hb dL_told_17 (by decide) ?_
    refine W.widen (k := 2) (n := 12) (Nat.le_of_ble_eq_true rfl) (Nat.le_of_ble_eq_true rfl) ?_
    have hP8 : va_P (dC, dI) vwCl (wB h r1 d1 r2 d2 rc cI n F n2 G ct ch ++ [(ao, .inl (cL, 1, .inr (.inl (mo (x_told n va vk) (vp_updL O 0 (s_told n F (cl va) vk).toInt64) O))))]) H := by rw [hc]; exact hP
    have hD8 : va_D A (wB h r1 d1 r2 d2 rc cI n F n2 G ct ch ++ [(ao, .inl (cL, 1, .inr (.inl (mo (x_told n va vk) (vp_updL O 0 (s_told n F (cl va) vk).toInt64) O))))]) := by rw [hc]; exact hD
    exact W.iret (v := 0) hx hb hr (fun t ht hW => ⟨⟨_, (), rfl, (show (0 : Int32) = nI (x_told n va vk) from by rw [hc]; rfl), by rw [ht]; exact hP8, hD8⟩, hS.F ht⟩) hS.2.2 dL_told_18

set_option maxHeartbeats 4000000 in
set_option maxRecDepth 100000 in
theorem c_L_at (l : Launch) (hl0 : l.stackTraces = false) (dC : Nat → ClassId) (dI : Nat → Nat → Nat) (cI cL : ClassId) (h r1 : Nat) (d1 : Nat → Nat) (r2 : Nat) (d2 : Nat → Nat) (rc : Nat) (n : Nat) (F : Nat → Nat → Int32) (n2 : Nat) (G : Nat → Nat → Int32) (ct ch : Nat → Int32) (ao : Nat) (O : Nat → Int64) (sz : Nat) (vg : Int32) (vq : Int32) (hn : n ≤ 12) : Met l yL_at wsL_at ({ frames := 7, cells := 1, slots := 6, locals := 105 } : Room) (va_Pc [.ref h, .int vg, .int vq, .ref ao] (fun U => PL dC dI cI cL (wB h r1 d1 r2 d2 rc cI n F n2 G ct ch ++ [(ao, .inl (cL, 1, .inr (.inl O)))]) sz U)) (va_Qi (fun r (_ : Unit) => r = nI (x_at n F vg vq)) (BW dC dI (va_A (wB h r1 d1 r2 d2 rc cI n F n2 G ct ch ++ [(ao, .inl (cL, 1, .inr (.inl O)))]) sz) (wB h r1 d1 r2 d2 rc cI n F n2 G ct ch ++ [(ao, .inl (cL, 1, .inr (.inl (mo (x_at n F vg vq) (vp_updL O 0 (oI (s_at n F vg vq)).toInt64) O))))])) (va_A (wB h r1 d1 r2 d2 rc cI n F n2 G ct ch ++ [(ao, .inl (cL, 1, .inr (.inl O)))]) sz)) 1 6 (va_A (wB h r1 d1 r2 d2 rc cI n F n2 G ct ch ++ [(ao, .inl (cL, 1, .inr (.inl O)))]) sz) := by
  refine met_ofWH (cc := cL_at) (maxL := 5) (ret := (some .int)) (hh := [(0, 10, 13, 21)]) (by decide) rfl ?_
  intro p e s m args below meth c s₁ B hml hv
  obtain ⟨rfl, hsz, hP, hK2, hD0, hE, hn1, hn2⟩ := hv
  have hx := B.exec
  have hb := B.bytes
  have hr := B.returns
  have hts := atoms_spec (ws := wsL_at) B.pre
  have hown : s.vm.findClass RL = some m.cls := findClass_of_methodNamed B.named
  have hlocks := B.notSynchronized
  have htab := vx_table (x := yL_at) B (hts (.codeWith yL_at cL_at 5 (some .int) [(0, 10, 13, 21)]) List.mem_cons_self)
  have hK := hK2.sub (tys' := [(cI, .int)]) [0] rfl
  subst hsz
  have hD := hD0.self (sz := s.heap.size)
  generalize hAe : va_A (wB h r1 d1 r2 d2 rc cI n F n2 G ct ch ++ [(ao, .inl (cL, 1, .inr (.inl O)))]) s.heap.size = A at hD hE ⊢
  have hA : ∀ q : Nat, s.heap.size ≤ q → A q := fun q h9 => by rw [← hAe]; exact Or.inr h9
  have hS : va_S A s.heap s.heap [] := va_S.rf
  have hl := lv_entry ([.ref h, .int vg, .int vq, .ref ao]) (n := 5) (Nat.le_of_ble_eq_true rfl)
  rw [lg_entry_eq]
  generalize (lg_sl ([.ref h, .int vg, .int vq, .ref ao]) ++ List.replicate (5 - (lg_sl ([.ref h, .int vg, .int vq, .ref ao])).length) Slot.unset).toArray = ls at hl ⊢
  have hl : lv_has ls 5 [(0, .ref h), (1, .int vg), (2, .int vq), (3, .ref ao)] := hl
  refine lv_aload_n hx hb dL_at_0 rfl (lv_at hl 3 rfl) ?_
  refine lv_iconst (v := 0) hx hb dL_at_1 (by decide) ?_
  refine lv_aload_n hx hb dL_at_2 rfl (lv_at hl 0 rfl) ?_
  refine lv_iload_n hx hb dL_at_3 rfl (lv_at hl 1 rfl) ?_
  refine lv_iload_n hx hb dL_at_4 rfl (lv_at hl 2 rfl) ?_
  refine vx_calli (vx_runV (As := [.int vg, .int vq]) (rest := [.int 0, .ref ao]) ⟨hx, hb, hml, hown, hts⟩ (c_X1_at l hl0 dC dI cI h r1 d1 r2 d2 rc n F n2 G ct ch s.heap vg vq hn) (cwV 2 hts gL_at_X1_at rfl rfl rfl (by decide +kernel) ⟨Nat.le_of_ble_eq_true rfl, Nat.le_of_ble_eq_true rfl⟩) ⟨PRX.blind, va_recv hK hP (ci := 1) (q0 := 0) rfl rfl, fun U hU hW => ⟨rfl, hU, PR.go (hP.sub (ws' := wB h r1 d1 r2 d2 rc cI n F n2 G ct ch) [0, 1, 2, 3, 4, 5, 6, 7, 8, 9, 10, 11, 12, 13, 14, 15, 16, 17] rfl) hK hE hS hU hW⟩⟩ rfl rfl hl.1 rfl (lv_room (Nat.le_of_ble_eq_true rfl)) dL_at_5 ⟨Nat.le_of_ble_eq_true rfl, Nat.le_of_ble_eq_true rfl⟩) hS (fun q _ h9 => h9.elim) (fun q h9 => h9.elim) (fun q _ h9 => h9.elim) (fun E9 ce9 q9 u9 t9 H1 locs9 ht9 hvm9 hw9 hB9 hz9 hk9 hS9 hce9 hcv9 hcl9 => ?_) (fun r u9 t9 H1 locs ht9 hvm9 hw9 hB9 hz9 hk9 hS => ?_)
  · have hS9 := hS9
    have hP : va_P (dC, dI) vwCl (wB h r1 d1 r2 d2 rc cI n F n2 G ct ch ++ [(ao, .inl (cL, 1, .inr (.inl O)))]) H1 := fun k8 q8 hq8 => (hP k8 q8 hq8).kept (hk9 q8.1 (hP k8 q8 hq8).lt (fun z => z))
    obtain ⟨hc, hE9⟩ := exE_1 hB9
    subst hE9
    refine vx_catch (name := "java/lang/IndexOutOfBoundsException") hown [] ⟨0, 10, 13, 21⟩ [] (htab.trans rfl) (fun z hz => by simp at hz) (by decide) (by decide) (hts (.classLink RL 21 "java/lang/IndexOutOfBoundsException") (by decide +kernel)) (va_Nw.use rfl (hE.2.2.1 (.castable "java/lang/IndexOutOfBoundsException" "java/lang/IndexOutOfBoundsException") (by decide +kernel))) hce9 hcv9 hcl9 ?_
    refine lv_astore (lv' := [(4, .ref q9), (0, .ref h), (1, .int vg), (2, .int vq), (3, .ref ao)]) hx hb dL_at_13 hl (by decide) rfl (fun ls hl => ?_)
    refine lv_iconst (v := 1) hx hb dL_at_15 (by decide) ?_
    refine W.widen (k := 1) (n := 6) (Nat.le_of_ble_eq_true rfl) (Nat.le_of_ble_eq_true rfl) ?_
    have hP8 : va_P (dC, dI) vwCl (wB h r1 d1 r2 d2 rc cI n F n2 G ct ch ++ [(ao, .inl (cL, 1, .inr (.inl (mo (x_at n F vg vq) (vp_updL O 0 (oI (s_at n F vg vq)).toInt64) O))))]) H1 := by rw [hc]; exact hP
    have hD8 : va_D A (wB h r1 d1 r2 d2 rc cI n F n2 G ct ch ++ [(ao, .inl (cL, 1, .inr (.inl (mo (x_at n F vg vq) (vp_updL O 0 (oI (s_at n F vg vq)).toInt64) O))))]) := by rw [hc]; exact hD
    exact W.iret (v := 1) hx hb hr (fun t ht hW => ⟨⟨_, (), rfl, (show (1 : Int32) = nI (x_at n F vg vq) from by rw [hc]; rfl), by rw [ht]; exact hP8, hD8⟩, hS9.F ht⟩) hS9.2.2 dL_at_16
  · obtain ⟨hc, hr9⟩ := hw9
    subst hr9
    have e9 : H1 = s.heap := ht9.symm.trans hB9
    subst e9
    refine lv_i2l hx hb dL_at_8 rfl ?_
    refine va_last hx hb hK2 hP hD hS 18 1 rfl rfl (vp_in_nI (n := 0) (N := 1) (by decide) (by decide)) dL_at_9 (fun H locs hP hD hS => ?_)
    refine lv_goto (tgt := 17) hx hb dL_at_10 (by decide) ?_
    refine lv_iconst (v := 0) hx hb dL_at_17 (by decide) ?_
    refine W.widen (k := 1) (n := 6) (Nat.le_of_ble_eq_true rfl) (Nat.le_of_ble_eq_true rfl) ?_
    have hP8 : va_P (dC, dI) vwCl (wB h r1 d1 r2 d2 rc cI n F n2 G ct ch ++ [(ao, .inl (cL, 1, .inr (.inl (mo (x_at n F vg vq) (vp_updL O 0 (oI (s_at n F vg vq)).toInt64) O))))]) H := by rw [hc]; exact hP
    have hD8 : va_D A (wB h r1 d1 r2 d2 rc cI n F n2 G ct ch ++ [(ao, .inl (cL, 1, .inr (.inl (mo (x_at n F vg vq) (vp_updL O 0 (oI (s_at n F vg vq)).toInt64) O))))]) := by rw [hc]; exact hD
    exact W.iret (v := 0) hx hb hr (fun t ht hW => ⟨⟨_, (), rfl, (show (0 : Int32) = nI (x_at n F vg vq) from by rw [hc]; rfl), by rw [ht]; exact hP8, hD8⟩, hS.F ht⟩) hS.2.2 dL_at_18

set_option maxHeartbeats 4000000 in
set_option maxRecDepth 100000 in
theorem c_L_count (l : Launch) (hl0 : l.stackTraces = false) (dC : Nat → ClassId) (dI : Nat → Nat → Nat) (cI cL : ClassId) (h r1 : Nat) (d1 : Nat → Nat) (r2 : Nat) (d2 : Nat → Nat) (rc : Nat) (n : Nat) (F : Nat → Nat → Int32) (n2 : Nat) (G : Nat → Nat → Int32) (ct ch : Nat → Int32) (ao : Nat) (O : Nat → Int64) (sz : Nat) (vk : Int32) (hn : n ≤ 12) : Met l yL_count wsL_count ({ frames := 7, cells := 1, slots := 6, locals := 103 } : Room) (va_Pc [.ref h, .int vk, .ref ao] (fun U => PL dC dI cI cL (wB h r1 d1 r2 d2 rc cI n F n2 G ct ch ++ [(ao, .inl (cL, 1, .inr (.inl O)))]) sz U)) (va_Qi (fun r (_ : Unit) => r = nI (x_cnt vk)) (BW dC dI (va_A (wB h r1 d1 r2 d2 rc cI n F n2 G ct ch ++ [(ao, .inl (cL, 1, .inr (.inl O)))]) sz) (wB h r1 d1 r2 d2 rc cI n F n2 G ct ch ++ [(ao, .inl (cL, 1, .inr (.inl (mo (x_cnt vk) (vp_updL O 0 (s_cnt n F ct vk).toInt64) O))))])) (va_A (wB h r1 d1 r2 d2 rc cI n F n2 G ct ch ++ [(ao, .inl (cL, 1, .inr (.inl O)))]) sz)) 1 6 (va_A (wB h r1 d1 r2 d2 rc cI n F n2 G ct ch ++ [(ao, .inl (cL, 1, .inr (.inl O)))]) sz) := by
  refine met_ofWH (cc := cL_count) (maxL := 4) (ret := (some .int)) (hh := [(0, 9, 12, 21)]) (by decide) rfl ?_
  intro p e s m args below meth c s₁ B hml hv
  obtain ⟨rfl, hsz, hP, hK2, hD0, hE, hn1, hn2⟩ := hv
  have hx := B.exec
  have hb := B.bytes
  have hr := B.returns
  have hts := atoms_spec (ws := wsL_count) B.pre
  have hown : s.vm.findClass RL = some m.cls := findClass_of_methodNamed B.named
  have hlocks := B.notSynchronized
  have htab := vx_table (x := yL_count) B (hts (.codeWith yL_count cL_count 4 (some .int) [(0, 9, 12, 21)]) List.mem_cons_self)
  have hK := hK2.sub (tys' := [(cI, .int)]) [0] rfl
  subst hsz
  have hD := hD0.self (sz := s.heap.size)
  generalize hAe : va_A (wB h r1 d1 r2 d2 rc cI n F n2 G ct ch ++ [(ao, .inl (cL, 1, .inr (.inl O)))]) s.heap.size = A at hD hE ⊢
  have hA : ∀ q : Nat, s.heap.size ≤ q → A q := fun q h9 => by rw [← hAe]; exact Or.inr h9
  have hS : va_S A s.heap s.heap [] := va_S.rf
  have hl := lv_entry ([.ref h, .int vk, .ref ao]) (n := 4) (Nat.le_of_ble_eq_true rfl)
  rw [lg_entry_eq]
  generalize (lg_sl ([.ref h, .int vk, .ref ao]) ++ List.replicate (4 - (lg_sl ([.ref h, .int vk, .ref ao])).length) Slot.unset).toArray = ls at hl ⊢
  have hl : lv_has ls 4 [(0, .ref h), (1, .int vk), (2, .ref ao)] := hl
  refine lv_aload_n hx hb dL_count_0 rfl (lv_at hl 2 rfl) ?_
  refine lv_iconst (v := 0) hx hb dL_count_1 (by decide) ?_
  refine lv_aload_n hx hb dL_count_2 rfl (lv_at hl 0 rfl) ?_
  refine lv_iload_n hx hb dL_count_3 rfl (lv_at hl 1 rfl) ?_
  refine vx_calli (vx_runV (As := [.int vk]) (rest := [.int 0, .ref ao]) ⟨hx, hb, hml, hown, hts⟩ (c_X1_count l hl0 dC dI cI h r1 d1 r2 d2 rc n F n2 G ct ch s.heap vk hn) (cwV 1 hts gL_count_X1_count rfl rfl rfl (by decide +kernel) ⟨Nat.le_of_ble_eq_true rfl, Nat.le_of_ble_eq_true rfl⟩) ⟨PRX.blind, va_recv hK hP (ci := 1) (q0 := 0) rfl rfl, fun U hU hW => ⟨rfl, hU, PR.go (hP.sub (ws' := wB h r1 d1 r2 d2 rc cI n F n2 G ct ch) [0, 1, 2, 3, 4, 5, 6, 7, 8, 9, 10, 11, 12, 13, 14, 15, 16, 17] rfl) hK hE hS hU hW⟩⟩ rfl rfl hl.1 rfl (lv_room (Nat.le_of_ble_eq_true rfl)) dL_count_4 ⟨Nat.le_of_ble_eq_true rfl, Nat.le_of_ble_eq_true rfl⟩) hS (fun q _ h9 => h9.elim) (fun q h9 => h9.elim) (fun q _ h9 => h9.elim) (fun E9 ce9 q9 u9 t9 H1 locs9 ht9 hvm9 hw9 hB9 hz9 hk9 hS9 hce9 hcv9 hcl9 => ?_) (fun r u9 t9 H1 locs ht9 hvm9 hw9 hB9 hz9 hk9 hS => ?_)
  · have hS9 := hS9
    have hP : va_P (dC, dI) vwCl (wB h r1 d1 r2 d2 rc cI n F n2 G ct ch ++ [(ao, .inl (cL, 1, .inr (.inl O)))]) H1 := fun k8 q8 hq8 => (hP k8 q8 hq8).kept (hk9 q8.1 (hP k8 q8 hq8).lt (fun z => z))
    obtain ⟨hc, hE9⟩ := exE_1 hB9
    subst hE9
    refine vx_catch (name := "java/lang/IndexOutOfBoundsException") hown [] ⟨0, 9, 12, 21⟩ [] (htab.trans rfl) (fun z hz => by simp at hz) (by decide) (by decide) (hts (.classLink RL 21 "java/lang/IndexOutOfBoundsException") (by decide +kernel)) (va_Nw.use rfl (hE.2.2.1 (.castable "java/lang/IndexOutOfBoundsException" "java/lang/IndexOutOfBoundsException") (by decide +kernel))) hce9 hcv9 hcl9 ?_
    refine lv_astore_n (lv' := [(3, .ref q9), (0, .ref h), (1, .int vk), (2, .ref ao)]) hx hb dL_count_12 rfl hl (by decide) rfl (fun ls hl => ?_)
    refine lv_iconst (v := 1) hx hb dL_count_13 (by decide) ?_
    refine W.widen (k := 1) (n := 6) (Nat.le_of_ble_eq_true rfl) (Nat.le_of_ble_eq_true rfl) ?_
    have hP8 : va_P (dC, dI) vwCl (wB h r1 d1 r2 d2 rc cI n F n2 G ct ch ++ [(ao, .inl (cL, 1, .inr (.inl (mo (x_cnt vk) (vp_updL O 0 (s_cnt n F ct vk).toInt64) O))))]) H1 := by rw [hc]; exact hP
    have hD8 : va_D A (wB h r1 d1 r2 d2 rc cI n F n2 G ct ch ++ [(ao, .inl (cL, 1, .inr (.inl (mo (x_cnt vk) (vp_updL O 0 (s_cnt n F ct vk).toInt64) O))))]) := by rw [hc]; exact hD
    exact W.iret (v := 1) hx hb hr (fun t ht hW => ⟨⟨_, (), rfl, (show (1 : Int32) = nI (x_cnt vk) from by rw [hc]; rfl), by rw [ht]; exact hP8, hD8⟩, hS9.F ht⟩) hS9.2.2 dL_count_14
  · obtain ⟨hc, hr9⟩ := hw9
    subst hr9
    have e9 : H1 = s.heap := ht9.symm.trans hB9
    subst e9
    refine lv_i2l hx hb dL_count_7 rfl ?_
    refine va_last hx hb hK2 hP hD hS 18 1 rfl rfl (vp_in_nI (n := 0) (N := 1) (by decide) (by decide)) dL_count_8 (fun H locs hP hD hS => ?_)
    refine lv_goto (tgt := 15) hx hb dL_count_9 (by decide) ?_
    refine lv_iconst (v := 0) hx hb dL_count_15 (by decide) ?_
    refine W.widen (k := 1) (n := 6) (Nat.le_of_ble_eq_true rfl) (Nat.le_of_ble_eq_true rfl) ?_
    have hP8 : va_P (dC, dI) vwCl (wB h r1 d1 r2 d2 rc cI n F n2 G ct ch ++ [(ao, .inl (cL, 1, .inr (.inl (mo (x_cnt vk) (vp_updL O 0 (s_cnt n F ct vk).toInt64) O))))]) H := by rw [hc]; exact hP
    have hD8 : va_D A (wB h r1 d1 r2 d2 rc cI n F n2 G ct ch ++ [(ao, .inl (cL, 1, .inr (.inl (mo (x_cnt vk) (vp_updL O 0 (s_cnt n F ct vk).toInt64) O))))]) := by rw [hc]; exact hD
    exact W.iret (v := 0) hx hb hr (fun t ht hW => ⟨⟨_, (), rfl, (show (0 : Int32) = nI (x_cnt vk) from by rw [hc]; rfl), by rw [ht]; exact hP8, hD8⟩, hS.F ht⟩) hS.2.2 dL_count_16

set_option maxHeartbeats 4000000 in
set_option maxRecDepth 100000 in
theorem c_L_would (l : Launch) (hl0 : l.stackTraces = false) (dC : Nat → ClassId) (dI : Nat → Nat → Nat) (cI cL : ClassId) (h r1 : Nat) (d1 : Nat → Nat) (r2 : Nat) (d2 : Nat → Nat) (rc : Nat) (n : Nat) (F : Nat → Nat → Int32) (n2 : Nat) (G : Nat → Nat → Int32) (ct ch : Nat → Int32) (ao : Nat) (O : Nat → Int64) (sz : Nat) (va : Int32) (vb : Int32) (vr : Int32) (vu : Int32) (hn : n ≤ 12) (hR : okR n F) : Met l yL_would wsL_would ({ frames := 8, cells := 4, slots := 24, locals := 127 } : Room) (va_Pc [.ref h, .int va, .int vb, .int vr, .int vu, .ref ao] (fun U => PL dC dI cI cL (wB h r1 d1 r2 d2 rc cI n F n2 G ct ch ++ [(ao, .inl (cL, 1, .inr (.inl O)))]) sz U)) (va_Qi (fun r (_ : Unit) => r = nI (x_would n va vb vr vu)) (BW dC dI (va_A (wB h r1 d1 r2 d2 rc cI n F n2 G ct ch ++ [(ao, .inl (cL, 1, .inr (.inl O)))]) sz) (wB h r1 d1 r2 d2 rc cI n F n2 G ct ch ++ [(ao, .inl (cL, 1, .inr (.inl (mo (x_would n va vb vr vu) (vp_updL O 0 (if vu = 0 then s_gain F (cl va) (cl vb) vr else s_gain F (cl vb) (cl va) (2 - vr)).toInt64) O))))])) (va_A (wB h r1 d1 r2 d2 rc cI n F n2 G ct ch ++ [(ao, .inl (cL, 1, .inr (.inl O)))]) sz)) 4 24 (va_A (wB h r1 d1 r2 d2 rc cI n F n2 G ct ch ++ [(ao, .inl (cL, 1, .inr (.inl O)))]) sz) := by
  refine met_ofWH (cc := cL_would) (maxL := 7) (ret := (some .int)) (hh := [(0, 14, 17, 21), (0, 14, 21, 13)]) (by decide) rfl ?_
  intro p e s m args below meth c s₁ B hml hv
  obtain ⟨rfl, hsz, hP, hK2, hD0, hE, hn1, hn2⟩ := hv
  have hx := B.exec
  have hb := B.bytes
  have hr := B.returns
  have hts := atoms_spec (ws := wsL_would) B.pre
  have hown : s.vm.findClass RL = some m.cls := findClass_of_methodNamed B.named
  have hlocks := B.notSynchronized
  have htab := vx_table (x := yL_would) B (hts (.codeWith yL_would cL_would 7 (some .int) [(0, 14, 17, 21), (0, 14, 21, 13)]) List.mem_cons_self)
  have hK := hK2.sub (tys' := [(cI, .int)]) [0] rfl
  subst hsz
  have hD := hD0.self (sz := s.heap.size)
  generalize hAe : va_A (wB h r1 d1 r2 d2 rc cI n F n2 G ct ch ++ [(ao, .inl (cL, 1, .inr (.inl O)))]) s.heap.size = A at hD hE ⊢
  have hA : ∀ q : Nat, s.heap.size ≤ q → A q := fun q h9 => by rw [← hAe]; exact Or.inr h9
  have hS : va_S A s.heap s.heap [] := va_S.rf
  have hl := lv_entry ([.ref h, .int va, .int vb, .int vr, .int vu, .ref ao]) (n := 7) (Nat.le_of_ble_eq_true rfl)
  rw [lg_entry_eq]
  generalize (lg_sl ([.ref h, .int va, .int vb, .int vr, .int vu, .ref ao]) ++ List.replicate (7 - (lg_sl ([.ref h, .int va, .int vb, .int vr, .int vu, .ref ao])).length) Slot.unset).toArray = ls at hl ⊢
  have hl : lv_has ls 7 [(0, .ref h), (1, .int va), (2, .int vb), (3, .int vr), (4, .int vu), (5, .ref ao)] := hl
  refine lv_aload hx hb dL_would_0 (lv_at hl 5 rfl) ?_
  refine lv_iconst (v := 0) hx hb dL_would_2 (by decide) ?_
  refine lv_aload_n hx hb dL_would_3 rfl (lv_at hl 0 rfl) ?_
  refine lv_iload_n hx hb dL_would_4 rfl (lv_at hl 1 rfl) ?_
  refine lv_iload_n hx hb dL_would_5 rfl (lv_at hl 2 rfl) ?_
  refine lv_iload_n hx hb dL_would_6 rfl (lv_at hl 3 rfl) ?_
  refine lv_iload hx hb dL_would_7 (lv_at hl 4 rfl) ?_
  refine vx_calli (vx_runV (As := [.int va, .int vb, .int vr, .int vu]) (rest := [.int 0, .ref ao]) ⟨hx, hb, hml, hown, hts⟩ (c_X1_would l hl0 dC dI cI h r1 d1 r2 d2 rc n F n2 G ct ch s.heap va vb vr vu hn hR) (cwV 4 hts gL_would_X1_would rfl rfl rfl (by decide +kernel) ⟨Nat.le_of_ble_eq_true rfl, Nat.le_of_ble_eq_true rfl⟩) ⟨PRX.blind, va_recv hK hP (ci := 1) (q0 := 0) rfl rfl, fun U hU hW => ⟨rfl, hU, PR.go (hP.sub (ws' := wB h r1 d1 r2 d2 rc cI n F n2 G ct ch) [0, 1, 2, 3, 4, 5, 6, 7, 8, 9, 10, 11, 12, 13, 14, 15, 16, 17] rfl) hK hE hS hU hW⟩⟩ rfl rfl hl.1 rfl (lv_room (Nat.le_of_ble_eq_true rfl)) dL_would_9 ⟨Nat.le_of_ble_eq_true rfl, Nat.le_of_ble_eq_true rfl⟩) hS (fun q _ h9 => h9.elim) (fun q h9 => h9.elim) (fun q _ h9 => h9.elim) (fun E9 ce9 q9 u9 t9 H1 locs9 ht9 hvm9 hw9 hB9 hz9 hk9 hS9 hce9 hcv9 hcl9 => ?_) (fun r u9 t9 H1 locs ht9 hvm9 hw9 hB9 hz9 hk9 hS => ?_)
  · have hS9 := hS9
    have hP : va_P (dC, dI) vwCl (wB h r1 d1 r2 d2 rc cI n F n2 G ct ch ++ [(ao, .inl (cL, 1, .inr (.inl O)))]) H1 := fun k8 q8 hq8 => (hP k8 q8 hq8).kept (hk9 q8.1 (hP k8 q8 hq8).lt (fun z => z))
    rcases exE_2 hB9 with ⟨hc, hE9⟩ | ⟨hc, hE9⟩
    · subst hE9
      refine vx_catch (name := "java/lang/IndexOutOfBoundsException") hown [] ⟨0, 14, 17, 21⟩ [⟨0, 14, 21, 13⟩] (htab.trans rfl) (fun z hz => by simp at hz) (by decide) (by decide) (hts (.classLink RL 21 "java/lang/IndexOutOfBoundsException") (by decide +kernel)) (va_Nw.use rfl (hE.2.2.1 (.castable "java/lang/IndexOutOfBoundsException" "java/lang/IndexOutOfBoundsException") (by decide +kernel))) hce9 hcv9 hcl9 ?_
      refine lv_astore (lv' := [(6, .ref q9), (0, .ref h), (1, .int va), (2, .int vb), (3, .int vr), (4, .int vu), (5, .ref ao)]) hx hb dL_would_17 hl (by decide) rfl (fun ls hl => ?_)
      refine lv_iconst (v := 1) hx hb dL_would_19 (by decide) ?_
      refine W.widen (k := 4) (n := 24) (Nat.le_of_ble_eq_true rfl) (Nat.le_of_ble_eq_true rfl) ?_
      have hP8 : va_P (dC, dI) vwCl (wB h r1 d1 r2 d2 rc cI n F n2 G ct ch ++ [(ao, .inl (cL, 1, .inr (.inl (mo (x_would n va vb vr vu) (vp_updL O 0 (if vu = 0 then s_gain F (cl va) (cl vb) vr else s_gain F (cl vb) (cl va) (2 - vr)).toInt64) O))))]) H1 := by rw [hc]; exact hP
      have hD8 : va_D A (wB h r1 d1 r2 d2 rc cI n F n2 G ct ch ++ [(ao, .inl (cL, 1, .inr (.inl (mo (x_would n va vb vr vu) (vp_updL O 0 (if vu = 0 then s_gain F (cl va) (cl vb) vr else s_gain F (cl vb) (cl va) (2 - vr)).toInt64) O))))]) := by rw [hc]; exact hD
      exact W.iret (v := 1) hx hb hr (fun t ht hW => ⟨⟨_, (), rfl, (show (1 : Int32) = nI (x_would n va vb vr vu) from by rw [hc]; rfl), by rw [ht]; exact hP8, hD8⟩, hS9.F ht⟩) hS9.2.2 dL_would_20
    · subst hE9
      refine vx_catch (name := "java/lang/IllegalArgumentException") hown [⟨0, 14, 17, 21⟩] ⟨0, 14, 21, 13⟩ [] (htab.trans rfl) (fun z hz => Or.inr (by rw [List.mem_singleton.mp hz]; exact ⟨by decide, "java/lang/IndexOutOfBoundsException", hts (.classLink RL 21 "java/lang/IndexOutOfBoundsException") (by decide +kernel), hn2⟩)) (by decide) (by decide) (hts (.classLink RL 13 "java/lang/IllegalArgumentException") (by decide +kernel)) (va_Nw.use rfl (hE.2.2.1 (.castable "java/lang/IllegalArgumentException" "java/lang/IllegalArgumentException") (by decide +kernel))) hce9 hcv9 hcl9 ?_
      refine lv_astore (lv' := [(6, .ref q9), (0, .ref h), (1, .int va), (2, .int vb), (3, .int vr), (4, .int vu), (5, .ref ao)]) hx hb dL_would_21 hl (by decide) rfl (fun ls hl => ?_)
      refine lv_iconst (v := 2) hx hb dL_would_23 (by decide) ?_
      refine W.widen (k := 4) (n := 24) (Nat.le_of_ble_eq_true rfl) (Nat.le_of_ble_eq_true rfl) ?_
      have hP8 : va_P (dC, dI) vwCl (wB h r1 d1 r2 d2 rc cI n F n2 G ct ch ++ [(ao, .inl (cL, 1, .inr (.inl (mo (x_would n va vb vr vu) (vp_updL O 0 (if vu = 0 then s_gain F (cl va) (cl vb) vr else s_gain F (cl vb) (cl va) (2 - vr)).toInt64) O))))]) H1 := by rw [hc]; exact hP
      have hD8 : va_D A (wB h r1 d1 r2 d2 rc cI n F n2 G ct ch ++ [(ao, .inl (cL, 1, .inr (.inl (mo (x_would n va vb vr vu) (vp_updL O 0 (if vu = 0 then s_gain F (cl va) (cl vb) vr else s_gain F (cl vb) (cl va) (2 - vr)).toInt64) O))))]) := by rw [hc]; exact hD
      exact W.iret (v := 2) hx hb hr (fun t ht hW => ⟨⟨_, (), rfl, (show (2 : Int32) = nI (x_would n va vb vr vu) from by rw [hc]; rfl), by rw [ht]; exact hP8, hD8⟩, hS9.F ht⟩) hS9.2.2 dL_would_24
  · obtain ⟨hc, hr9⟩ := hw9
    subst hr9
    have e9 : H1 = s.heap := ht9.symm.trans hB9
    subst e9
    refine lv_i2l hx hb dL_would_12 rfl ?_
    refine va_last hx hb hK2 hP hD hS 18 1 rfl rfl (vp_in_nI (n := 0) (N := 1) (by decide) (by decide)) dL_would_13 (fun H locs hP hD hS => ?_)
    refine lv_goto (tgt := 25) hx hb dL_would_14 (by decide) ?_
    refine lv_iconst (v := 0) hx hb dL_would_25 (by decide) ?_
    refine W.widen (k := 4) (n := 24) (Nat.le_of_ble_eq_true rfl) (Nat.le_of_ble_eq_true rfl) ?_
    have hP8 : va_P (dC, dI) vwCl (wB h r1 d1 r2 d2 rc cI n F n2 G ct ch ++ [(ao, .inl (cL, 1, .inr (.inl (mo (x_would n va vb vr vu) (vp_updL O 0 (if vu = 0 then s_gain F (cl va) (cl vb) vr else s_gain F (cl vb) (cl va) (2 - vr)).toInt64) O))))]) H := by rw [hc]; exact hP
    have hD8 : va_D A (wB h r1 d1 r2 d2 rc cI n F n2 G ct ch ++ [(ao, .inl (cL, 1, .inr (.inl (mo (x_would n va vb vr vu) (vp_updL O 0 (if vu = 0 then s_gain F (cl va) (cl vb) vr else s_gain F (cl vb) (cl va) (2 - vr)).toInt64) O))))]) := by rw [hc]; exact hD
    exact W.iret (v := 0) hx hb hr (fun t ht hW => ⟨⟨_, (), rfl, (show (0 : Int32) = nI (x_would n va vb vr vu) from by rw [hc]; rfl), by rw [ht]; exact hP8, hD8⟩, hS.F ht⟩) hS.2.2 dL_would_26

set_option maxHeartbeats 4000000 in
set_option maxRecDepth 100000 in
theorem c_L_chance (l : Launch) (hl0 : l.stackTraces = false) (dC : Nat → ClassId) (dI : Nat → Nat → Nat) (cI cL : ClassId) (h r1 : Nat) (d1 : Nat → Nat) (r2 : Nat) (d2 : Nat → Nat) (rc : Nat) (n : Nat) (F : Nat → Nat → Int32) (n2 : Nat) (G : Nat → Nat → Int32) (ct ch : Nat → Int32) (ao : Nat) (O : Nat → Int64) (sz : Nat) (va : Int32) (vb : Int32) (vk : Int32) (hn : n ≤ 12) (hR : okR n F) : Met l yL_chance wsL_chance ({ frames := 8, cells := 4, slots := 24, locals := 126 } : Room) (va_Pc [.ref h, .int va, .int vb, .int vk, .ref ao] (fun U => PL dC dI cI cL (wB h r1 d1 r2 d2 rc cI n F n2 G ct ch ++ [(ao, .inl (cL, 1, .inr (.inl O)))]) sz U)) (va_Qi (fun r (_ : Unit) => r = nI (x_chance n va vb vk)) (BW dC dI (va_A (wB h r1 d1 r2 d2 rc cI n F n2 G ct ch ++ [(ao, .inl (cL, 1, .inr (.inl O)))]) sz) (wB h r1 d1 r2 d2 rc cI n F n2 G ct (mo (x_chance n va vb vk) (s_chR (s_exp F (cl va) (cl vb)) (cl vk) ch) ch) ++ [(ao, .inl (cL, 1, .inr (.inl (mo (x_chance n va vb vk) (vp_updL O 0 (s_chR (s_exp F (cl va) (cl vb)) (cl vk) ch (cl vk)).toInt64) O))))])) (va_A (wB h r1 d1 r2 d2 rc cI n F n2 G ct ch ++ [(ao, .inl (cL, 1, .inr (.inl O)))]) sz)) 4 24 (va_A (wB h r1 d1 r2 d2 rc cI n F n2 G ct ch ++ [(ao, .inl (cL, 1, .inr (.inl O)))]) sz) := by
  refine met_ofWH (cc := cL_chance) (maxL := 6) (ret := (some .int)) (hh := [(0, 12, 15, 21), (0, 12, 19, 13)]) (by decide) rfl ?_
  intro p e s m args below meth c s₁ B hml hv
  obtain ⟨rfl, hsz, hP, hK2, hD0, hE, hn1, hn2⟩ := hv
  have hx := B.exec
  have hb := B.bytes
  have hr := B.returns
  have hts := atoms_spec (ws := wsL_chance) B.pre
  have hown : s.vm.findClass RL = some m.cls := findClass_of_methodNamed B.named
  have hlocks := B.notSynchronized
  have htab := vx_table (x := yL_chance) B (hts (.codeWith yL_chance cL_chance 6 (some .int) [(0, 12, 15, 21), (0, 12, 19, 13)]) List.mem_cons_self)
  have hK := hK2.sub (tys' := [(cI, .int)]) [0] rfl
  subst hsz
  have hD := hD0.self (sz := s.heap.size)
  generalize hAe : va_A (wB h r1 d1 r2 d2 rc cI n F n2 G ct ch ++ [(ao, .inl (cL, 1, .inr (.inl O)))]) s.heap.size = A at hD hE ⊢
  have hA : ∀ q : Nat, s.heap.size ≤ q → A q := fun q h9 => by rw [← hAe]; exact Or.inr h9
  have hS : va_S A s.heap s.heap [] := va_S.rf
  have hl := lv_entry ([.ref h, .int va, .int vb, .int vk, .ref ao]) (n := 6) (Nat.le_of_ble_eq_true rfl)
  rw [lg_entry_eq]
  generalize (lg_sl ([.ref h, .int va, .int vb, .int vk, .ref ao]) ++ List.replicate (6 - (lg_sl ([.ref h, .int va, .int vb, .int vk, .ref ao])).length) Slot.unset).toArray = ls at hl ⊢
  have hl : lv_has ls 6 [(0, .ref h), (1, .int va), (2, .int vb), (3, .int vk), (4, .ref ao)] := hl
  refine lv_aload hx hb dL_chance_0 (lv_at hl 4 rfl) ?_
  refine lv_iconst (v := 0) hx hb dL_chance_2 (by decide) ?_
  refine lv_aload_n hx hb dL_chance_3 rfl (lv_at hl 0 rfl) ?_
  refine lv_iload_n hx hb dL_chance_4 rfl (lv_at hl 1 rfl) ?_
  refine lv_iload_n hx hb dL_chance_5 rfl (lv_at hl 2 rfl) ?_
  refine lv_iload_n hx hb dL_chance_6 rfl (lv_at hl 3 rfl) ?_
  have hPc := hP.sub (ws' := wB h r1 d1 r2 d2 rc cI n F n2 G ct ch) [0, 1, 2, 3, 4, 5, 6, 7, 8, 9, 10, 11, 12, 13, 14, 15, 16, 17] rfl
  have hDc := hD.sub (ws' := wB h r1 d1 r2 d2 rc cI n F n2 G ct ch) [0, 1, 2, 3, 4, 5, 6, 7, 8, 9, 10, 11, 12, 13, 14, 15, 16, 17] (by decide) rfl
  have hFc := va_free (wc := wB h r1 d1 r2 d2 rc cI n F n2 G ct ch) hD hS hA [0, 1, 2, 3, 4, 5, 6, 7, 8, 9, 10, 11, 12, 13, 14, 15, 16, 17] rfl
  refine vx_calli (vx_runV (As := [.int va, .int vb, .int vk]) (rest := [.int 0, .ref ao]) ⟨hx, hb, hml, hown, hts⟩ (c_X1_chance l hl0 dC dI cI h r1 d1 r2 d2 rc n F n2 G ct ch s.heap.size va vb vk hn hR) (cwV 3 hts gL_chance_X1_chance rfl rfl rfl (by decide +kernel) ⟨Nat.le_of_ble_eq_true rfl, Nat.le_of_ble_eq_true rfl⟩) ⟨PW.blind, va_recv hK hP (ci := 1) (q0 := 0) rfl rfl, fun U hU hW => ⟨rfl, PW.go hPc hK hDc hE hS hFc hU hW⟩⟩ rfl rfl hl.1 rfl (lv_room (Nat.le_of_ble_eq_true rfl)) dL_chance_7 ⟨Nat.le_of_ble_eq_true rfl, Nat.le_of_ble_eq_true rfl⟩) hS (fun q _ h9 => hFc q h9) hFc (fun q _ h9 => hFc q h9) (fun E9 ce9 q9 u9 t9 H1 locs9 ht9 hvm9 hw9 hB9 hz9 hk9 hS9 hce9 hcv9 hcl9 => ?_) (fun r u9 t9 H1 locs ht9 hvm9 hw9 hB9 hz9 hk9 hS => ?_)
  · have hS9 := hS9
    obtain ⟨hB9, hP9, hD9⟩ := hB9
    rw [ht9] at hP9
    obtain ⟨hP, hD⟩ := va_join (wr := [(ao, .inl (cL, 1, .inr (.inl O)))]) (w1 := wB h r1 d1 r2 d2 rc cI n F n2 G ct ch) hP hD [0, 1, 2, 3, 4, 5, 6, 7, 8, 9, 10, 11, 12, 13, 14, 15, 16, 17] [18] rfl rfl (by decide) (by decide) hk9 hFc hP9 hD9
    have hP := hP.sub (ws' := wB h r1 d1 r2 d2 rc cI n F n2 G ct ch ++ [(ao, .inl (cL, 1, .inr (.inl O)))]) [1, 2, 3, 4, 5, 6, 7, 8, 9, 10, 11, 12, 13, 14, 15, 16, 17, 18, 0] rfl
    have hD := hD.sub (ws' := wB h r1 d1 r2 d2 rc cI n F n2 G ct ch ++ [(ao, .inl (cL, 1, .inr (.inl O)))]) [1, 2, 3, 4, 5, 6, 7, 8, 9, 10, 11, 12, 13, 14, 15, 16, 17, 18, 0] (by decide) rfl
    rcases exE_2 hB9 with ⟨hc, hE9⟩ | ⟨hc, hE9⟩
    · subst hE9
      refine vx_catch (name := "java/lang/IndexOutOfBoundsException") hown [] ⟨0, 12, 15, 21⟩ [⟨0, 12, 19, 13⟩] (htab.trans rfl) (fun z hz => by simp at hz) (by decide) (by decide) (hts (.classLink RL 21 "java/lang/IndexOutOfBoundsException") (by decide +kernel)) (va_Nw.use rfl (hE.2.2.1 (.castable "java/lang/IndexOutOfBoundsException" "java/lang/IndexOutOfBoundsException") (by decide +kernel))) hce9 hcv9 hcl9 ?_
      refine lv_astore (lv' := [(5, .ref q9), (0, .ref h), (1, .int va), (2, .int vb), (3, .int vk), (4, .ref ao)]) hx hb dL_chance_15 hl (by decide) rfl (fun ls hl => ?_)
      refine lv_iconst (v := 1) hx hb dL_chance_17 (by decide) ?_
      refine W.widen (k := 4) (n := 24) (Nat.le_of_ble_eq_true rfl) (Nat.le_of_ble_eq_true rfl) ?_
      have hP8 : va_P (dC, dI) vwCl (wB h r1 d1 r2 d2 rc cI n F n2 G ct (mo (x_chance n va vb vk) (s_chR (s_exp F (cl va) (cl vb)) (cl vk) ch) ch) ++ [(ao, .inl (cL, 1, .inr (.inl (mo (x_chance n va vb vk) (vp_updL O 0 (s_chR (s_exp F (cl va) (cl vb)) (cl vk) ch (cl vk)).toInt64) O))))]) H1 := by rw [hc]; exact hP
      have hD8 : va_D A (wB h r1 d1 r2 d2 rc cI n F n2 G ct (mo (x_chance n va vb vk) (s_chR (s_exp F (cl va) (cl vb)) (cl vk) ch) ch) ++ [(ao, .inl (cL, 1, .inr (.inl (mo (x_chance n va vb vk) (vp_updL O 0 (s_chR (s_exp F (cl va) (cl vb)) (cl vk) ch (cl vk)).toInt64) O))))]) := by rw [hc]; exact hD
      exact W.iret (v := 1) hx hb hr (fun t ht hW => ⟨⟨_, (), rfl, (show (1 : Int32) = nI (x_chance n va vb vk) from by rw [hc]; rfl), by rw [ht]; exact hP8, hD8⟩, hS9.F ht⟩) hS9.2.2 dL_chance_18
    · subst hE9
      refine vx_catch (name := "java/lang/IllegalArgumentException") hown [⟨0, 12, 15, 21⟩] ⟨0, 12, 19, 13⟩ [] (htab.trans rfl) (fun z hz => Or.inr (by rw [List.mem_singleton.mp hz]; exact ⟨by decide, "java/lang/IndexOutOfBoundsException", hts (.classLink RL 21 "java/lang/IndexOutOfBoundsException") (by decide +kernel), hn2⟩)) (by decide) (by decide) (hts (.classLink RL 13 "java/lang/IllegalArgumentException") (by decide +kernel)) (va_Nw.use rfl (hE.2.2.1 (.castable "java/lang/IllegalArgumentException" "java/lang/IllegalArgumentException") (by decide +kernel))) hce9 hcv9 hcl9 ?_
      refine lv_astore (lv' := [(5, .ref q9), (0, .ref h), (1, .int va), (2, .int vb), (3, .int vk), (4, .ref ao)]) hx hb dL_chance_19 hl (by decide) rfl (fun ls hl => ?_)
      refine lv_iconst (v := 2) hx hb dL_chance_21 (by decide) ?_
      refine W.widen (k := 4) (n := 24) (Nat.le_of_ble_eq_true rfl) (Nat.le_of_ble_eq_true rfl) ?_
      have hP8 : va_P (dC, dI) vwCl (wB h r1 d1 r2 d2 rc cI n F n2 G ct (mo (x_chance n va vb vk) (s_chR (s_exp F (cl va) (cl vb)) (cl vk) ch) ch) ++ [(ao, .inl (cL, 1, .inr (.inl (mo (x_chance n va vb vk) (vp_updL O 0 (s_chR (s_exp F (cl va) (cl vb)) (cl vk) ch (cl vk)).toInt64) O))))]) H1 := by rw [hc]; exact hP
      have hD8 : va_D A (wB h r1 d1 r2 d2 rc cI n F n2 G ct (mo (x_chance n va vb vk) (s_chR (s_exp F (cl va) (cl vb)) (cl vk) ch) ch) ++ [(ao, .inl (cL, 1, .inr (.inl (mo (x_chance n va vb vk) (vp_updL O 0 (s_chR (s_exp F (cl va) (cl vb)) (cl vk) ch (cl vk)).toInt64) O))))]) := by rw [hc]; exact hD
      exact W.iret (v := 2) hx hb hr (fun t ht hW => ⟨⟨_, (), rfl, (show (2 : Int32) = nI (x_chance n va vb vk) from by rw [hc]; rfl), by rw [ht]; exact hP8, hD8⟩, hS9.F ht⟩) hS9.2.2 dL_chance_22
  · obtain ⟨hc, hr9⟩ := hw9
    subst hr9
    obtain ⟨hP9, hD9⟩ := hB9
    rw [ht9] at hP9
    obtain ⟨hP, hD⟩ := va_join (wr := [(ao, .inl (cL, 1, .inr (.inl O)))]) (w1 := wB h r1 d1 r2 d2 rc cI n F n2 G ct (s_chR (s_exp F (cl va) (cl vb)) (cl vk) ch)) hP hD [0, 1, 2, 3, 4, 5, 6, 7, 8, 9, 10, 11, 12, 13, 14, 15, 16, 17] [18] rfl rfl (by decide) (by decide) hk9 hFc hP9 hD9
    have hP := hP.sub (ws' := wB h r1 d1 r2 d2 rc cI n F n2 G ct (s_chR (s_exp F (cl va) (cl vb)) (cl vk) ch) ++ [(ao, .inl (cL, 1, .inr (.inl O)))]) [1, 2, 3, 4, 5, 6, 7, 8, 9, 10, 11, 12, 13, 14, 15, 16, 17, 18, 0] rfl
    have hD := hD.sub (ws' := wB h r1 d1 r2 d2 rc cI n F n2 G ct (s_chR (s_exp F (cl va) (cl vb)) (cl vk) ch) ++ [(ao, .inl (cL, 1, .inr (.inl O)))]) [1, 2, 3, 4, 5, 6, 7, 8, 9, 10, 11, 12, 13, 14, 15, 16, 17, 18, 0] (by decide) rfl
    refine lv_i2l hx hb dL_chance_10 rfl ?_
    refine va_last hx hb hK2 hP hD hS 18 1 rfl rfl (vp_in_nI (n := 0) (N := 1) (by decide) (by decide)) dL_chance_11 (fun H locs hP hD hS => ?_)
    refine lv_goto (tgt := 23) hx hb dL_chance_12 (by decide) ?_
    refine lv_iconst (v := 0) hx hb dL_chance_23 (by decide) ?_
    refine W.widen (k := 4) (n := 24) (Nat.le_of_ble_eq_true rfl) (Nat.le_of_ble_eq_true rfl) ?_
    have hP8 : va_P (dC, dI) vwCl (wB h r1 d1 r2 d2 rc cI n F n2 G ct (mo (x_chance n va vb vk) (s_chR (s_exp F (cl va) (cl vb)) (cl vk) ch) ch) ++ [(ao, .inl (cL, 1, .inr (.inl (mo (x_chance n va vb vk) (vp_updL O 0 (s_chR (s_exp F (cl va) (cl vb)) (cl vk) ch (cl vk)).toInt64) O))))]) H := by rw [hc]; exact hP
    have hD8 : va_D A (wB h r1 d1 r2 d2 rc cI n F n2 G ct (mo (x_chance n va vb vk) (s_chR (s_exp F (cl va) (cl vb)) (cl vk) ch) ch) ++ [(ao, .inl (cL, 1, .inr (.inl (mo (x_chance n va vb vk) (vp_updL O 0 (s_chR (s_exp F (cl va) (cl vb)) (cl vk) ch (cl vk)).toInt64) O))))]) := by rw [hc]; exact hD
    exact W.iret (v := 0) hx hb hr (fun t ht hW => ⟨⟨_, (), rfl, (show (0 : Int32) = nI (x_chance n va vb vk) from by rw [hc]; rfl), by rw [ht]; exact hP8, hD8⟩, hS.F ht⟩) hS.2.2 dL_chance_24

set_option maxHeartbeats 4000000 in
set_option maxRecDepth 100000 in
theorem c_L_match (l : Launch) (hl0 : l.stackTraces = false) (dC : Nat → ClassId) (dI : Nat → Nat → Nat) (cI cL : ClassId) (h r1 : Nat) (d1 : Nat → Nat) (r2 : Nat) (d2 : Nat → Nat) (rc : Nat) (n : Nat) (F : Nat → Nat → Int32) (n2 : Nat) (G : Nat → Nat → Int32) (ct ch : Nat → Int32) (ao : Nat) (O : Nat → Int64) (sz : Nat) (va : Int32) (hn : n ≤ 12) (hR : okR n F) : Met l yL_match wsL_match ({ frames := 8, cells := 1, slots := 6, locals := 124 } : Room) (va_Pc [.ref h, .int va, .ref ao] (fun U => PL dC dI cI cL (wB h r1 d1 r2 d2 rc cI n F n2 G ct ch ++ [(ao, .inl (cL, 1, .inr (.inl O)))]) sz U)) (va_Qi (fun r (_ : Unit) => r = nI (x_cw n va)) (BW dC dI (va_A (wB h r1 d1 r2 d2 rc cI n F n2 G ct ch ++ [(ao, .inl (cL, 1, .inr (.inl O)))]) sz) (wB h r1 d1 r2 d2 rc cI n F n2 G ct ch ++ [(ao, .inl (cL, 1, .inr (.inl (mo (x_cw n va) (vp_updL O 0 (oI (s_match n F (cl va))).toInt64) O))))])) (va_A (wB h r1 d1 r2 d2 rc cI n F n2 G ct ch ++ [(ao, .inl (cL, 1, .inr (.inl O)))]) sz)) 1 6 (va_A (wB h r1 d1 r2 d2 rc cI n F n2 G ct ch ++ [(ao, .inl (cL, 1, .inr (.inl O)))]) sz) := by
  refine met_ofWH (cc := cL_match) (maxL := 4) (ret := (some .int)) (hh := [(0, 9, 12, 21)]) (by decide) rfl ?_
  intro p e s m args below meth c s₁ B hml hv
  obtain ⟨rfl, hsz, hP, hK2, hD0, hE, hn1, hn2⟩ := hv
  have hx := B.exec
  have hb := B.bytes
  have hr := B.returns
  have hts := atoms_spec (ws := wsL_match) B.pre
  have hown : s.vm.findClass RL = some m.cls := findClass_of_methodNamed B.named
  have hlocks := B.notSynchronized
  have htab := vx_table (x := yL_match) B (hts (.codeWith yL_match cL_match 4 (some .int) [(0, 9, 12, 21)]) List.mem_cons_self)
  have hK := hK2.sub (tys' := [(cI, .int)]) [0] rfl
  subst hsz
  have hD := hD0.self (sz := s.heap.size)
  generalize hAe : va_A (wB h r1 d1 r2 d2 rc cI n F n2 G ct ch ++ [(ao, .inl (cL, 1, .inr (.inl O)))]) s.heap.size = A at hD hE ⊢
  have hA : ∀ q : Nat, s.heap.size ≤ q → A q := fun q h9 => by rw [← hAe]; exact Or.inr h9
  have hS : va_S A s.heap s.heap [] := va_S.rf
  have hl := lv_entry ([.ref h, .int va, .ref ao]) (n := 4) (Nat.le_of_ble_eq_true rfl)
  rw [lg_entry_eq]
  generalize (lg_sl ([.ref h, .int va, .ref ao]) ++ List.replicate (4 - (lg_sl ([.ref h, .int va, .ref ao])).length) Slot.unset).toArray = ls at hl ⊢
  have hl : lv_has ls 4 [(0, .ref h), (1, .int va), (2, .ref ao)] := hl
  refine lv_aload_n hx hb dL_match_0 rfl (lv_at hl 2 rfl) ?_
  refine lv_iconst (v := 0) hx hb dL_match_1 (by decide) ?_
  refine lv_aload_n hx hb dL_match_2 rfl (lv_at hl 0 rfl) ?_
  refine lv_iload_n hx hb dL_match_3 rfl (lv_at hl 1 rfl) ?_
  refine vx_calli (vx_runV (As := [.int va]) (rest := [.int 0, .ref ao]) ⟨hx, hb, hml, hown, hts⟩ (c_X1_match l hl0 dC dI cI h r1 d1 r2 d2 rc n F n2 G ct ch s.heap va hn hR) (cwV 1 hts gL_match_X1_match rfl rfl rfl (by decide +kernel) ⟨Nat.le_of_ble_eq_true rfl, Nat.le_of_ble_eq_true rfl⟩) ⟨PRX.blind, va_recv hK hP (ci := 1) (q0 := 0) rfl rfl, fun U hU hW => ⟨rfl, hU, PR.go (hP.sub (ws' := wB h r1 d1 r2 d2 rc cI n F n2 G ct ch) [0, 1, 2, 3, 4, 5, 6, 7, 8, 9, 10, 11, 12, 13, 14, 15, 16, 17] rfl) hK hE hS hU hW⟩⟩ rfl rfl hl.1 rfl (lv_room (Nat.le_of_ble_eq_true rfl)) dL_match_4 ⟨Nat.le_of_ble_eq_true rfl, Nat.le_of_ble_eq_true rfl⟩) hS (fun q _ h9 => h9.elim) (fun q h9 => h9.elim) (fun q _ h9 => h9.elim) (fun E9 ce9 q9 u9 t9 H1 locs9 ht9 hvm9 hw9 hB9 hz9 hk9 hS9 hce9 hcv9 hcl9 => ?_) (fun r u9 t9 H1 locs ht9 hvm9 hw9 hB9 hz9 hk9 hS => ?_)
  · have hS9 := hS9
    have hP : va_P (dC, dI) vwCl (wB h r1 d1 r2 d2 rc cI n F n2 G ct ch ++ [(ao, .inl (cL, 1, .inr (.inl O)))]) H1 := fun k8 q8 hq8 => (hP k8 q8 hq8).kept (hk9 q8.1 (hP k8 q8 hq8).lt (fun z => z))
    obtain ⟨hc, hE9⟩ := exE_1 hB9
    subst hE9
    refine vx_catch (name := "java/lang/IndexOutOfBoundsException") hown [] ⟨0, 9, 12, 21⟩ [] (htab.trans rfl) (fun z hz => by simp at hz) (by decide) (by decide) (hts (.classLink RL 21 "java/lang/IndexOutOfBoundsException") (by decide +kernel)) (va_Nw.use rfl (hE.2.2.1 (.castable "java/lang/IndexOutOfBoundsException" "java/lang/IndexOutOfBoundsException") (by decide +kernel))) hce9 hcv9 hcl9 ?_
    refine lv_astore_n (lv' := [(3, .ref q9), (0, .ref h), (1, .int va), (2, .ref ao)]) hx hb dL_match_12 rfl hl (by decide) rfl (fun ls hl => ?_)
    refine lv_iconst (v := 1) hx hb dL_match_13 (by decide) ?_
    refine W.widen (k := 1) (n := 6) (Nat.le_of_ble_eq_true rfl) (Nat.le_of_ble_eq_true rfl) ?_
    have hP8 : va_P (dC, dI) vwCl (wB h r1 d1 r2 d2 rc cI n F n2 G ct ch ++ [(ao, .inl (cL, 1, .inr (.inl (mo (x_cw n va) (vp_updL O 0 (oI (s_match n F (cl va))).toInt64) O))))]) H1 := by rw [hc]; exact hP
    have hD8 : va_D A (wB h r1 d1 r2 d2 rc cI n F n2 G ct ch ++ [(ao, .inl (cL, 1, .inr (.inl (mo (x_cw n va) (vp_updL O 0 (oI (s_match n F (cl va))).toInt64) O))))]) := by rw [hc]; exact hD
    exact W.iret (v := 1) hx hb hr (fun t ht hW => ⟨⟨_, (), rfl, (show (1 : Int32) = nI (x_cw n va) from by rw [hc]; rfl), by rw [ht]; exact hP8, hD8⟩, hS9.F ht⟩) hS9.2.2 dL_match_14
  · obtain ⟨hc, hr9⟩ := hw9
    subst hr9
    have e9 : H1 = s.heap := ht9.symm.trans hB9
    subst e9
    refine lv_i2l hx hb dL_match_7 rfl ?_
    refine va_last hx hb hK2 hP hD hS 18 1 rfl rfl (vp_in_nI (n := 0) (N := 1) (by decide) (by decide)) dL_match_8 (fun H locs hP hD hS => ?_)
    refine lv_goto (tgt := 15) hx hb dL_match_9 (by decide) ?_
    refine lv_iconst (v := 0) hx hb dL_match_15 (by decide) ?_
    refine W.widen (k := 1) (n := 6) (Nat.le_of_ble_eq_true rfl) (Nat.le_of_ble_eq_true rfl) ?_
    have hP8 : va_P (dC, dI) vwCl (wB h r1 d1 r2 d2 rc cI n F n2 G ct ch ++ [(ao, .inl (cL, 1, .inr (.inl (mo (x_cw n va) (vp_updL O 0 (oI (s_match n F (cl va))).toInt64) O))))]) H := by rw [hc]; exact hP
    have hD8 : va_D A (wB h r1 d1 r2 d2 rc cI n F n2 G ct ch ++ [(ao, .inl (cL, 1, .inr (.inl (mo (x_cw n va) (vp_updL O 0 (oI (s_match n F (cl va))).toInt64) O))))]) := by rw [hc]; exact hD
    exact W.iret (v := 0) hx hb hr (fun t ht hW => ⟨⟨_, (), rfl, (show (0 : Int32) = nI (x_cw n va) from by rw [hc]; rfl), by rw [ht]; exact hP8, hD8⟩, hS.F ht⟩) hS.2.2 dL_match_16

set_option maxHeartbeats 4000000 in
set_option maxRecDepth 100000 in
theorem c_L_foresee (l : Launch) (hl0 : l.stackTraces = false) (dC : Nat → ClassId) (dI : Nat → Nat → Nat) (cI cL : ClassId) (h r1 : Nat) (d1 : Nat → Nat) (r2 : Nat) (d2 : Nat → Nat) (rc : Nat) (n : Nat) (F : Nat → Nat → Int32) (n2 : Nat) (G : Nat → Nat → Int32) (ct ch : Nat → Int32) (ao : Nat) (O : Nat → Int64) (sz : Nat) (vk : Int32) (hn : n ≤ 12) (hR : okR n F) : Met l yL_foresee wsL_foresee ({ frames := 7, cells := 1, slots := 6, locals := 154 } : Room) (va_Pc [.ref h, .int vk, .ref ao] (fun U => PL dC dI cI cL (wB h r1 d1 r2 d2 rc cI n F n2 G ct ch ++ [(ao, .inl (cL, 1, .inr (.inl O)))]) sz U)) (va_Qi (fun r (_ : Unit) => r = nI (x_for vk)) (BW dC dI (va_A (wB h r1 d1 r2 d2 rc cI n F n2 G ct ch ++ [(ao, .inl (cL, 1, .inr (.inl O)))]) sz) (wB h r1 d1 r2 d2 rc cI n F (mo (x_for vk) n n2) (mo (x_for vk) (s_forU n (s_copyU F G n) (cl vk)) G) ct ch ++ [(ao, .inl (cL, 1, .inr (.inl (mo (x_for vk) (vp_updL O 0 (s_hi n (s_forU n (s_copyU F G n) (cl vk))).toInt64) O))))])) (va_A (wB h r1 d1 r2 d2 rc cI n F n2 G ct ch ++ [(ao, .inl (cL, 1, .inr (.inl O)))]) sz)) 1 6 (va_A (wB h r1 d1 r2 d2 rc cI n F n2 G ct ch ++ [(ao, .inl (cL, 1, .inr (.inl O)))]) sz) := by
  refine met_ofWH (cc := cL_foresee) (maxL := 4) (ret := (some .int)) (hh := [(0, 9, 12, 13)]) (by decide) rfl ?_
  intro p e s m args below meth c s₁ B hml hv
  obtain ⟨rfl, hsz, hP, hK2, hD0, hE, hn1, hn2⟩ := hv
  have hx := B.exec
  have hb := B.bytes
  have hr := B.returns
  have hts := atoms_spec (ws := wsL_foresee) B.pre
  have hown : s.vm.findClass RL = some m.cls := findClass_of_methodNamed B.named
  have hlocks := B.notSynchronized
  have htab := vx_table (x := yL_foresee) B (hts (.codeWith yL_foresee cL_foresee 4 (some .int) [(0, 9, 12, 13)]) List.mem_cons_self)
  have hK := hK2.sub (tys' := [(cI, .int)]) [0] rfl
  subst hsz
  have hD := hD0.self (sz := s.heap.size)
  generalize hAe : va_A (wB h r1 d1 r2 d2 rc cI n F n2 G ct ch ++ [(ao, .inl (cL, 1, .inr (.inl O)))]) s.heap.size = A at hD hE ⊢
  have hA : ∀ q : Nat, s.heap.size ≤ q → A q := fun q h9 => by rw [← hAe]; exact Or.inr h9
  have hS : va_S A s.heap s.heap [] := va_S.rf
  have hl := lv_entry ([.ref h, .int vk, .ref ao]) (n := 4) (Nat.le_of_ble_eq_true rfl)
  rw [lg_entry_eq]
  generalize (lg_sl ([.ref h, .int vk, .ref ao]) ++ List.replicate (4 - (lg_sl ([.ref h, .int vk, .ref ao])).length) Slot.unset).toArray = ls at hl ⊢
  have hl : lv_has ls 4 [(0, .ref h), (1, .int vk), (2, .ref ao)] := hl
  refine lv_aload_n hx hb dL_foresee_0 rfl (lv_at hl 2 rfl) ?_
  refine lv_iconst (v := 0) hx hb dL_foresee_1 (by decide) ?_
  refine lv_aload_n hx hb dL_foresee_2 rfl (lv_at hl 0 rfl) ?_
  refine lv_iload_n hx hb dL_foresee_3 rfl (lv_at hl 1 rfl) ?_
  have hPc := hP.sub (ws' := wB h r1 d1 r2 d2 rc cI n F n2 G ct ch) [0, 1, 2, 3, 4, 5, 6, 7, 8, 9, 10, 11, 12, 13, 14, 15, 16, 17] rfl
  have hDc := hD.sub (ws' := wB h r1 d1 r2 d2 rc cI n F n2 G ct ch) [0, 1, 2, 3, 4, 5, 6, 7, 8, 9, 10, 11, 12, 13, 14, 15, 16, 17] (by decide) rfl
  have hFc := va_free (wc := wB h r1 d1 r2 d2 rc cI n F n2 G ct ch) hD hS hA [0, 1, 2, 3, 4, 5, 6, 7, 8, 9, 10, 11, 12, 13, 14, 15, 16, 17] rfl
  refine vx_calli (vx_runV (As := [.int vk]) (rest := [.int 0, .ref ao]) ⟨hx, hb, hml, hown, hts⟩ (c_X1_foresee l hl0 dC dI cI h r1 d1 r2 d2 rc n F n2 G ct ch s.heap.size vk hn hR) (cwV 1 hts gL_foresee_X1_foresee rfl rfl rfl (by decide +kernel) ⟨Nat.le_of_ble_eq_true rfl, Nat.le_of_ble_eq_true rfl⟩) ⟨PW.blind, va_recv hK hP (ci := 1) (q0 := 0) rfl rfl, fun U hU hW => ⟨rfl, PW.go hPc hK hDc hE hS hFc hU hW⟩⟩ rfl rfl hl.1 rfl (lv_room (Nat.le_of_ble_eq_true rfl)) dL_foresee_4 ⟨Nat.le_of_ble_eq_true rfl, Nat.le_of_ble_eq_true rfl⟩) hS (fun q _ h9 => hFc q h9) hFc (fun q _ h9 => hFc q h9) (fun E9 ce9 q9 u9 t9 H1 locs9 ht9 hvm9 hw9 hB9 hz9 hk9 hS9 hce9 hcv9 hcl9 => ?_) (fun r u9 t9 H1 locs ht9 hvm9 hw9 hB9 hz9 hk9 hS => ?_)
  · have hS9 := hS9
    obtain ⟨hB9, hP9, hD9⟩ := hB9
    rw [ht9] at hP9
    obtain ⟨hP, hD⟩ := va_join (wr := [(ao, .inl (cL, 1, .inr (.inl O)))]) (w1 := wB h r1 d1 r2 d2 rc cI n F n2 G ct ch) hP hD [0, 1, 2, 3, 4, 5, 6, 7, 8, 9, 10, 11, 12, 13, 14, 15, 16, 17] [18] rfl rfl (by decide) (by decide) hk9 hFc hP9 hD9
    have hP := hP.sub (ws' := wB h r1 d1 r2 d2 rc cI n F n2 G ct ch ++ [(ao, .inl (cL, 1, .inr (.inl O)))]) [1, 2, 3, 4, 5, 6, 7, 8, 9, 10, 11, 12, 13, 14, 15, 16, 17, 18, 0] rfl
    have hD := hD.sub (ws' := wB h r1 d1 r2 d2 rc cI n F n2 G ct ch ++ [(ao, .inl (cL, 1, .inr (.inl O)))]) [1, 2, 3, 4, 5, 6, 7, 8, 9, 10, 11, 12, 13, 14, 15, 16, 17, 18, 0] (by decide) rfl
    obtain ⟨hc, hE9⟩ := exE_1 hB9
    subst hE9
    refine vx_catch (name := "java/lang/IllegalArgumentException") hown [] ⟨0, 9, 12, 13⟩ [] (htab.trans rfl) (fun z hz => by simp at hz) (by decide) (by decide) (hts (.classLink RL 13 "java/lang/IllegalArgumentException") (by decide +kernel)) (va_Nw.use rfl (hE.2.2.1 (.castable "java/lang/IllegalArgumentException" "java/lang/IllegalArgumentException") (by decide +kernel))) hce9 hcv9 hcl9 ?_
    refine lv_astore_n (lv' := [(3, .ref q9), (0, .ref h), (1, .int vk), (2, .ref ao)]) hx hb dL_foresee_12 rfl hl (by decide) rfl (fun ls hl => ?_)
    refine lv_iconst (v := 1) hx hb dL_foresee_13 (by decide) ?_
    refine W.widen (k := 1) (n := 6) (Nat.le_of_ble_eq_true rfl) (Nat.le_of_ble_eq_true rfl) ?_
    have hP8 : va_P (dC, dI) vwCl (wB h r1 d1 r2 d2 rc cI n F (mo (x_for vk) n n2) (mo (x_for vk) (s_forU n (s_copyU F G n) (cl vk)) G) ct ch ++ [(ao, .inl (cL, 1, .inr (.inl (mo (x_for vk) (vp_updL O 0 (s_hi n (s_forU n (s_copyU F G n) (cl vk))).toInt64) O))))]) H1 := by rw [hc]; exact hP
    have hD8 : va_D A (wB h r1 d1 r2 d2 rc cI n F (mo (x_for vk) n n2) (mo (x_for vk) (s_forU n (s_copyU F G n) (cl vk)) G) ct ch ++ [(ao, .inl (cL, 1, .inr (.inl (mo (x_for vk) (vp_updL O 0 (s_hi n (s_forU n (s_copyU F G n) (cl vk))).toInt64) O))))]) := by rw [hc]; exact hD
    exact W.iret (v := 1) hx hb hr (fun t ht hW => ⟨⟨_, (), rfl, (show (1 : Int32) = nI (x_for vk) from by rw [hc]; rfl), by rw [ht]; exact hP8, hD8⟩, hS9.F ht⟩) hS9.2.2 dL_foresee_14
  · obtain ⟨hc, hr9⟩ := hw9
    subst hr9
    obtain ⟨hP9, hD9⟩ := hB9
    rw [ht9] at hP9
    obtain ⟨hP, hD⟩ := va_join (wr := [(ao, .inl (cL, 1, .inr (.inl O)))]) (w1 := wB h r1 d1 r2 d2 rc cI n F n (s_forU n (s_copyU F G n) (cl vk)) ct ch) hP hD [0, 1, 2, 3, 4, 5, 6, 7, 8, 9, 10, 11, 12, 13, 14, 15, 16, 17] [18] rfl rfl (by decide) (by decide) hk9 hFc hP9 hD9
    have hP := hP.sub (ws' := wB h r1 d1 r2 d2 rc cI n F n (s_forU n (s_copyU F G n) (cl vk)) ct ch ++ [(ao, .inl (cL, 1, .inr (.inl O)))]) [1, 2, 3, 4, 5, 6, 7, 8, 9, 10, 11, 12, 13, 14, 15, 16, 17, 18, 0] rfl
    have hD := hD.sub (ws' := wB h r1 d1 r2 d2 rc cI n F n (s_forU n (s_copyU F G n) (cl vk)) ct ch ++ [(ao, .inl (cL, 1, .inr (.inl O)))]) [1, 2, 3, 4, 5, 6, 7, 8, 9, 10, 11, 12, 13, 14, 15, 16, 17, 18, 0] (by decide) rfl
    refine lv_i2l hx hb dL_foresee_7 rfl ?_
    refine va_last hx hb hK2 hP hD hS 18 1 rfl rfl (vp_in_nI (n := 0) (N := 1) (by decide) (by decide)) dL_foresee_8 (fun H locs hP hD hS => ?_)
    refine lv_goto (tgt := 15) hx hb dL_foresee_9 (by decide) ?_
    refine lv_iconst (v := 0) hx hb dL_foresee_15 (by decide) ?_
    refine W.widen (k := 1) (n := 6) (Nat.le_of_ble_eq_true rfl) (Nat.le_of_ble_eq_true rfl) ?_
    have hP8 : va_P (dC, dI) vwCl (wB h r1 d1 r2 d2 rc cI n F (mo (x_for vk) n n2) (mo (x_for vk) (s_forU n (s_copyU F G n) (cl vk)) G) ct ch ++ [(ao, .inl (cL, 1, .inr (.inl (mo (x_for vk) (vp_updL O 0 (s_hi n (s_forU n (s_copyU F G n) (cl vk))).toInt64) O))))]) H := by rw [hc]; exact hP
    have hD8 : va_D A (wB h r1 d1 r2 d2 rc cI n F (mo (x_for vk) n n2) (mo (x_for vk) (s_forU n (s_copyU F G n) (cl vk)) G) ct ch ++ [(ao, .inl (cL, 1, .inr (.inl (mo (x_for vk) (vp_updL O 0 (s_hi n (s_forU n (s_copyU F G n) (cl vk))).toInt64) O))))]) := by rw [hc]; exact hD
    exact W.iret (v := 0) hx hb hr (fun t ht hW => ⟨⟨_, (), rfl, (show (0 : Int32) = nI (x_for vk) from by rw [hc]; rfl), by rw [ht]; exact hP8, hD8⟩, hS.F ht⟩) hS.2.2 dL_foresee_16
