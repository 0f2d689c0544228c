/-! The law's cell and build -/
def PX (b L : Nat) (xs : Nat → Int32) (U : State) : Prop := va_X b L xs U U.heap ∧ b < U.heap.size
theorem PX.blind {b L : Nat} {xs : Nat → Int32} {av : List Value} : FrameBlind (va_Pc av (fun U => PX b L xs U)) := fun a U g mk q => ⟨q.1, va_X.moved (u := U) (U := U.calling g mk a) (Vm.Alike.refl U.vm) q.2.1, q.2.2⟩
theorem X_go {b L : Nat} {xs : Nat → Int32} {A : Nat → Prop} {s U : State} {H : Heap} {locs : List Loc} (hX : va_X b L xs s s.heap) (hbl : b < s.heap.size) (hbA : ¬ A b) (hS : va_S A s.heap H locs) (hU : U.heap = H) (hW : s.WarmedH U.vm) : PX b L xs U := by
  refine ⟨?_, ?_⟩
  · rw [hU]; exact va_X.moved hW.alike (hX.kept (hS.2.1 b hbl hbA))
  · rw [hU]; exact Nat.lt_of_lt_of_le hbl hS.1
set_option maxHeartbeats 4000000 in
set_option maxRecDepth 100000 in
theorem c_L_cell (l : Launch) (b L : Nat) (xs : Nat → Int32) (hL : L ≤ 260) (k : Nat) (hk : k < 1000) : Met l yL_cell wsL_cell ({ frames := 0, cells := 0, slots := 0, locals := 0 } : Room) (va_Pc [.ref b, .int (nI k)] (fun U => PX b L xs U)) (vp_Si (fun _ => True)) 0 0 (fun _ => False) := by
  refine Met.ofW (cc := cL_cell) (maxL := 2) (ret := (some .int)) (by decide) rfl ?_
  intro p e s m args below meth c s₁ B hml hv
  obtain ⟨rfl, hX, hbl⟩ := hv
  have hx := B.exec
  have hb := B.bytes
  have hr := B.returns
  have hts := atoms_spec (ws := wsL_cell) B.pre
  have hown : s.vm.findClass RL = some m.cls := findClass_of_methodNamed B.named
  have hlocks := B.notSynchronized
  have hS : va_S (fun _ => False) s.heap s.heap [] := va_S.rf
  have hbA : ¬ (fun _ : Nat => False) b := fun q => q
  have hl := lv_entry ([.ref b, .int (nI k)]) (n := 2) (Nat.le_of_ble_eq_true rfl)
  rw [lg_entry_eq]
  generalize (lg_sl ([.ref b, .int (nI k)]) ++ List.replicate (2 - (lg_sl ([.ref b, .int (nI k)])).length) Slot.unset).toArray = ls at hl ⊢
  have hl : lv_has ls 2 [(0, .ref b), (1, .int (nI k))] := hl
  refine lv_iload_n hx hb dL_cell_0 rfl (lv_at hl 1 rfl) ?_
  refine lv_aload_n hx hb dL_cell_1 rfl (lv_at hl 0 rfl) ?_
  refine va_slen hx hb hX hbl hbA hS dL_cell_2 ?_
  refine rv_icmp_ge (tgt := 12) hx hb (a := k) (b := L) (by omega) (by omega) dL_cell_3 (by decide) (fun c_3 => ?_) (fun c_3 => ?_)
  · refine lv_ldc hx hb hown (hts (.constant RL 8 790386105) (by decide +kernel)) dL_cell_12 ?_
    refine lv_iload_n hx hb dL_cell_14 rfl (lv_at hl 1 rfl) ?_
    refine lv_iconst (v := 3) hx hb dL_cell_15 (by decide) ?_
    refine lv_iadd hx hb dL_cell_16 ?_
    refine lv_imul hx hb dL_cell_17 ?_
    exact W.iret hx hb hr (fun t ht hW => ⟨_, rfl, trivial, ht⟩) hS.2.2 dL_cell_18
  · refine lv_aload_n hx hb dL_cell_6 rfl (lv_at hl 0 rfl) ?_
    refine lv_iload_n hx hb dL_cell_7 rfl (lv_at hl 1 rfl) ?_
    refine va_sld hx hb hX hbl hbA hS (vp_in_nI (show k < L by omega) (show L < 2 ^ 31 by omega)) dL_cell_8 ?_
    refine lv_goto (tgt := 18) hx hb dL_cell_9 (by decide) ?_
    exact W.iret hx hb hr (fun t ht hW => ⟨_, rfl, trivial, ht⟩) hS.2.2 dL_cell_18
set_option maxHeartbeats 8000000 in
set_option maxRecDepth 100000 in
theorem c_L_build (l : Launch) (hl0 : l.stackTraces = false) (dC : Nat → ClassId) (dI : Nat → Nat → Nat) (cI cA : ClassId) (mb r1 : Nat) (d1 : Nat → Nat) (r2 : Nat) (d2 : Nat → Nat) (rc : Nat) (b L : Nat) (xs : Nat → Int32) (hL : L ≤ 260) (sz : Nat) : Met l yL_build wsL_build ({ frames := 8, cells := 332, slots := 3210, locals := 160 } : Room) (va_Pc [.ref mb, .ref b] (fun U => PV dC dI cI cA (wB mb r1 d1 r2 d2 rc cI 0 Z0 0 Z0 z0 z0) sz U ∧ PX b L xs U ∧ ¬ va_A (wB mb r1 d1 r2 d2 rc cI 0 Z0 0 Z0 z0 z0) sz b)) (va_Qr (fun (u : ACT) => INV u.1 u.2.1 u.2.2.1 80) (fun u a t => va_P (dC, dI) vwCl (wU mb r1 d1 r2 d2 rc a cA cI u) t.heap ∧ va_D (va_A (wB mb r1 d1 r2 d2 rc cI 0 Z0 0 Z0 z0 z0) sz) (wU mb r1 d1 r2 d2 rc a cA cI u)) (va_A (wB mb r1 d1 r2 d2 rc cI 0 Z0 0 Z0 z0 z0) sz)) 332 3210 (va_A (wB mb r1 d1 r2 d2 rc cI 0 Z0 0 Z0 z0 z0) sz) := by
  refine Met.ofW (cc := cL_build) (maxL := 5) (ret := (some (.object "WrestleBookLaw$Sim"))) (by decide) rfl ?_
  intro p e s m args below meth c s₁ B hml hv
  obtain ⟨rfl, ⟨hsz, hP, hK, hD0, hE⟩, ⟨hX, hbl⟩, hbA⟩ := hv
  have hx := B.exec
  have hb9 := B.bytes
  have hr := B.returns
  have hts := atoms_spec (ws := wsL_build) B.pre
  have hown : s.vm.findClass RL = some m.cls := findClass_of_methodNamed B.named
  have hlocks := B.notSynchronized
  subst hsz
  have hD := hD0.self (sz := s.heap.size)
  generalize hAe : va_A (wB mb r1 d1 r2 d2 rc cI 0 Z0 0 Z0 z0 z0) s.heap.size = A at hD hE hbA ⊢
  have hA : ∀ q : Nat, s.heap.size ≤ q → A q := fun q h9 => by rw [← hAe]; exact Or.inr h9
  have hS : va_S A s.heap s.heap [] := va_S.rf
  have hinX2 : ∀ w ∈ wsX20, w ∈ wsL_build := by decide +kernel
  have hl := lv_entry ([.ref mb, .ref b]) (n := 5) (Nat.le_of_ble_eq_true rfl)
  rw [lg_entry_eq]
  generalize (lg_sl ([.ref mb, .ref b]) ++ List.replicate (5 - (lg_sl ([.ref mb, .ref b])).length) Slot.unset).toArray = ls at hl ⊢
  have hl : lv_has ls 5 [(0, .ref mb), (1, .ref b)] := hl
  refine va_new (ci := 2) (fs := [.int 0, .int 0, .int 0, .null]) (C := RX2) (T := TX2) (N := 4) hx hb9 hts hinX2 tyX2 tyX2_ok hown (hts (.classLink RL 10 RX2) (by decide +kernel)) (hts (.instantiable RX2 4) (by decide +kernel)) (hts (.initialized RX2) (by decide +kernel)) hK hP hD hS hA rfl (fun j hj => by rcases (show j = 0 ∨ j = 1 ∨ j = 2 ∨ j = 3 by omega) with rfl | rfl | rfl | rfl <;> rfl) (Nat.le_of_ble_eq_true rfl) (Nat.le_of_ble_eq_true rfl) dL_build_0 (fun h H hP hD hS => ?_)
  refine lv_dup hx hb9 dL_build_3 rfl ?_
  have hPc : va_P (dC, dI) vwCl ([(h, .inr (2, [.int 0, .int 0, .int 0, .null]))]) H := P_r hP
  have hDc : va_D A ([(h, .inr (2, [.int 0, .int 0, .int 0, .null]))]) := D_r hD
  have hFc := free_all hDc hS hA
  refine va_callv (va_runIN (As := []) (rest := [.ref h]) ⟨hx, hb9, hml, hown, hts⟩ (c_X2_init l dC dI cI cA h H.size) ⟨va_cnB 0 hts gL_build_X2_init_n48 rfl rfl rfl (hE.2.2.1 (.methodLinkNest RL 48 yX2_init "WrestleBookLaw") (by decide +kernel)) (hts (.initialized RX2) (by decide +kernel)) (by decide +kernel) ⟨Nat.le_of_ble_eq_true rfl, Nat.le_of_ble_eq_true rfl⟩, rfl, hts (.instanceMethod yX2_init) (by decide +kernel)⟩ ⟨PV.blind, fun U hU hW => ⟨rfl, PV.go hPc hK hDc hE hS hFc hU hW⟩⟩ rfl rfl hl.1 rfl (lv_room (Nat.le_of_ble_eq_true rfl)) dL_build_4 ⟨Nat.le_of_ble_eq_true rfl, Nat.le_of_ble_eq_true rfl⟩) hS (fun q _ h9 => hFc q h9) hFc (fun al t9 H1 locs ht9 hvm9 hw9 hB9 hz9 hk9 hS => ?_)
  obtain ⟨hP9, hD9⟩ := hB9
  rw [ht9] at hP9
  obtain ⟨hP, hD⟩ := J_S (u := []) (v := wB mb r1 d1 r2 d2 rc cI 0 Z0 0 Z0 z0 z0) hP hD hk9 hFc hP9 hD9
  have hP : va_P (dC, dI) vwCl (wW mb r1 d1 r2 d2 rc h cA cI 0 Z0 z0 0 Z0 z0 al (fun _ => 0)) H1 := hP
  have hD : va_D A (wW mb r1 d1 r2 d2 rc h cA cI 0 Z0 z0 0 Z0 z0 al (fun _ => 0)) := hD
  refine lv_astore_n (lv' := [(2, .ref h), (0, .ref mb), (1, .ref b)]) hx hb9 dL_build_7 rfl hl (by decide) rfl (fun ls hl => ?_)
  refine lv_iconst (v := 0) hx hb9 dL_build_8 (by decide) ?_
  refine lv_istore_n (lv' := [(3, .int 0), (2, .ref h), (0, .ref mb), (1, .ref b)]) hx hb9 dL_build_9 rfl hl (by decide) rfl (fun ls hl => ?_)
  have L_10 : ∀ (k i : Nat) (n : Nat) (F : Nat → Nat → Int32) (ct : Nat → Int32) (n2 : Nat) (G : Nat → Nat → Int32) (ch : Nat → Int32) (al : Nat) (rw : Nat → Nat), i + k = 40 → INV n F ct (2 * i) → ∀ (H : Heap) (locs : List Loc), va_P (dC, dI) vwCl (wW mb r1 d1 r2 d2 rc h cA cI n F ct n2 G ch al rw) H → va_D A (wW mb r1 d1 r2 d2 rc h cA cI n F ct n2 G ch al rw) → va_S A s.heap H locs → ∀ (ls : Array Slot), lv_has ls 5 [(3, .int (nI i)), (2, .ref h), (0, .ref mb), (1, .ref b)] → W p l e (headSpec wsL_build ({ frames := 8, cells := 332, slots := 3210, locals := 160 } : Room)).room s m ([.ref mb, .ref b] : List Value).toArray below meth c H locs (2 + 8 * i) (4 + 80 * i) (MQ below (va_Qr (fun (u : ACT) => INV u.1 u.2.1 u.2.2.1 80) (fun u a t => va_P (dC, dI) vwCl (wU mb r1 d1 r2 d2 rc a cA cI u) t.heap ∧ va_D A (wU mb r1 d1 r2 d2 rc a cA cI u)) A) ([.ref mb, .ref b] : List Value).toArray s 332 3210 A) (F0 m 10 ls []) := by
    intro k
    induction k with
    | zero =>
      intro i n F ct n2 G ch al rw e_i hI H locs hP hD hS ls hl
      refine lv_iload_n hx hb9 dL_build_10 rfl (lv_at hl 0 rfl) ?_
      refine lv_bipush (v := 40) hx hb9 dL_build_11 (by decide) ?_
      refine rv_icmp_ge (tgt := 75) hx hb9 (a := i) (b := 40) (by omega) (by omega) dL_build_13 (by decide) (fun c_13 => ?_) (fun c_13 => ?_)
      · refine lv_aload_n hx hb9 dL_build_75 rfl (lv_at hl 1 rfl) ?_
        refine W.widen (k := 332) (n := 3210) (by omega) (by omega) ?_
        have hI : INV n F ct 80 := hI.mono (by omega)
        exact W.aret (v := .ref h) hx hb9 hr (Or.inl ⟨_, rfl⟩) (Or.inr ⟨_, rfl⟩) (fun t ht hW => ⟨⟨(n, F, ct, n2, G, ch, al, rw), h, rfl, hI, by rw [ht]; exact hP, hD⟩, hS.F ht⟩) hS.2.2 dL_build_76
      · exact absurd (show 40 ≤ i by omega) c_13
    | succ k ih =>
      intro i n F ct n2 G ch al rw e_i hI H locs hP hD hS ls hl
      refine lv_iload_n hx hb9 dL_build_10 rfl (lv_at hl 0 rfl) ?_
      refine lv_bipush (v := 40) hx hb9 dL_build_11 (by decide) ?_
      refine rv_icmp_ge (tgt := 75) hx hb9 (a := i) (b := 40) (by omega) (by omega) dL_build_13 (by decide) (fun c_13 => ?_) (fun c_13 => ?_)
      · exact absurd c_13 (by omega)
      · refine lv_aload_n hx hb9 dL_build_16 rfl (lv_at hl 3 rfl) ?_
        refine lv_iload_n hx hb9 dL_build_17 rfl (lv_at hl 0 rfl) ?_
        refine lv_bipush (v := 16) hx hb9 dL_build_18 (by decide) ?_
        refine lv_irem hx hb9 dL_build_20 (by decide) ?_
        refine rv_top (y := nI (i % 16)) (pk_rem (d := 16) (by omega) (by decide) (by decide)) ?_
        refine vp_callSi (W.runS (As := [.ref b, .int (nI (i % 16))]) (rest := []) ⟨hx, hb9, hml, hown, hts⟩ (c_L_cell l b L xs hL (i % 16) (by omega)) (va_cwS 2 hts gL_build_L_cell rfl rfl rfl (by decide +kernel) ⟨Nat.le_of_ble_eq_true rfl, Nat.le_of_ble_eq_true rfl⟩) ⟨PX.blind, fun U hU hW => ⟨rfl, X_go hX hbl hbA hS hU hW⟩⟩ rfl rfl hl.1 rfl (lv_room (Nat.le_of_ble_eq_true rfl)) dL_build_21 ⟨(by show _ ≤ 332; omega), (by show _ ≤ 3210; omega)⟩) (fun r _ => ?_)
        refine lv_iload_n hx hb9 dL_build_24 rfl (lv_at hl 0 rfl) ?_
        refine lv_bipush (v := 16) hx hb9 dL_build_25 (by decide) ?_
        refine lv_idiv hx hb9 dL_build_27 (by decide) ?_
        refine lv_iconst (v := 5) hx hb9 dL_build_28 (by decide) ?_
        refine lv_imul hx hb9 dL_build_29 ?_
        refine lv_ishr hx hb9 dL_build_30 ?_
        refine lv_sipush (v := 263) hx hb9 dL_build_31 (by decide) ?_
        refine lv_iload_n hx hb9 dL_build_34 rfl (lv_at hl 0 rfl) ?_
        refine lv_imul hx hb9 dL_build_35 ?_
        refine lv_iadd hx hb9 dL_build_36 ?_
        generalize (r >>> (nI i / 16 * 5 &&& 31) + 263 * nI i) = y
        refine lv_istore (lv' := [(4, .int y), (3, .int (nI i)), (2, .ref h), (0, .ref mb), (1, .ref b)]) hx hb9 dL_build_37 hl (by decide) rfl (fun ls hl => ?_)
        have J57 : ∀ (x : Int32) (ls : Array Slot), lv_has ls 5 [(4, .int x), (3, .int (nI i)), (2, .ref h), (0, .ref mb), (1, .ref b)] → W p l e (headSpec wsL_build ({ frames := 8, cells := 332, slots := 3210, locals := 160 } : Room)).room s m ([.ref mb, .ref b] : List Value).toArray below meth c H locs (2 + 8 * i) (4 + 80 * i) (MQ below (va_Qr (fun (u : ACT) => INV u.1 u.2.1 u.2.2.1 80) (fun u a t => va_P (dC, dI) vwCl (wU mb r1 d1 r2 d2 rc a cA cI u) t.heap ∧ va_D A (wU mb r1 d1 r2 d2 rc a cA cI u)) A) ([.ref mb, .ref b] : List Value).toArray s 332 3210 A) (F0 m 57 ls []) := by
          intro x ls hl
          refine lv_aload_n hx hb9 dL_build_57 rfl (lv_at hl 3 rfl) ?_
          refine lv_aload_n hx hb9 dL_build_58 rfl (lv_at hl 2 rfl) ?_
          refine lv_iload hx hb9 dL_build_59 (lv_at hl 0 rfl) ?_
          have hFc := free_all hD hS hA
          refine va_calli (vx_runSW (As := [.ref mb, .ref h, .int x]) (rest := []) ⟨hx, hb9, hml, hown, hts⟩ (c_L_act l hl0 dC dI cI mb r1 d1 r2 d2 rc h cA n F ct n2 G ch al rw H.size x (2 * i) (by omega) hI) (vx_cwSW 3 hts gL_build_L_act rfl rfl rfl (by decide +kernel) ⟨Nat.le_of_ble_eq_true rfl, Nat.le_of_ble_eq_true rfl⟩) ⟨PV.blind, fun U hU hW => ⟨rfl, PV.go hP hK hD hE hS hFc hU hW⟩⟩ rfl rfl hl.1 rfl (lv_room (Nat.le_of_ble_eq_true rfl)) dL_build_61 ⟨(by show _ ≤ 332; omega), (by show _ ≤ 3210; omega)⟩) hS (fun q _ h9 => hFc q h9) hFc (fun r9 u9 t9 H1 locs ht9 hvm9 hw9 hB9 hz9 hk9 hS => ?_)
          obtain ⟨n', F', ct', n2', G', ch', al', rw'⟩ := u9
          obtain ⟨hP9, hD9⟩ := hB9
          rw [ht9] at hP9
          obtain ⟨hr1, hI9⟩ := hw9
          subst hr1
          refine lv_if_ne (tgt := 69) hx hb9 dL_build_64 (by decide) (fun _ => ?_) (fun c_64 => absurd c_64 (by decide))
          refine lv_iinc (v := nI (i + 1)) (lv' := [(3, .int (nI (i + 1))), (4, .int x), (2, .ref h), (0, .ref mb), (1, .ref b)]) hx hb9 dL_build_69 hl (k := 1) rfl (nI_add i 1) (by decide) rfl (fun ls hl => ?_)
          refine lv_goto (tgt := 10) hx hb9 dL_build_72 (by decide) ?_
          refine W.widen (k := 2 + 8 * (i + 1)) (n := 4 + 80 * (i + 1)) (by omega) (by omega) ?_
          exact ih (i + 1) n' F' ct' n2' G' ch' al' rw' (by omega) hI9 H1 _ hP9 (hD9.weaken (fun _ q _ h9 => hFc q.1 h9)) hS ls (lv_sub hl [0, 2, 3, 4] rfl)
        refine lv_iload_n hx hb9 dL_build_39 rfl (lv_at hl 1 rfl) ?_
        refine lv_bipush (v := 7) hx hb9 dL_build_40 (by decide) ?_
        refine lv_icmp_ge (tgt := 57) hx hb9 dL_build_42 (by decide) (fun _ => J57 y ls hl) (fun _ => ?_)
        refine lv_bipush (v := 14) hx hb9 dL_build_45 (by decide) ?_
        refine lv_iload hx hb9 dL_build_47 (lv_at hl 0 rfl) ?_
        refine lv_ldc hx hb9 hown (hts (.constant RL 53 100000) (by decide +kernel)) dL_build_49 ?_
        refine vp_callSi (W.runS (As := [.int y, .int (nI 100000)]) (rest := [.int 14]) ⟨hx, hb9, hml, hown, hts⟩ (c_L_below l y 100000 (by decide) (by decide)) (va_cwS 2 hts gL_build_L_below rfl rfl rfl (by decide +kernel) ⟨Nat.le_of_ble_eq_true rfl, Nat.le_of_ble_eq_true rfl⟩) ⟨va_nop_blind, fun U hU hW => ⟨rfl, trivial⟩⟩ rfl rfl hl.1 rfl (lv_room (Nat.le_of_ble_eq_true rfl)) dL_build_51 ⟨(by show _ ≤ 332; omega), (by show _ ≤ 3210; omega)⟩) (fun r2 _ => ?_)
        refine lv_imul hx hb9 dL_build_54 ?_
        refine lv_istore (lv' := [(4, .int (14 * r2)), (3, .int (nI i)), (2, .ref h), (0, .ref mb), (1, .ref b)]) hx hb9 dL_build_55 hl (by decide) rfl (fun ls hl => ?_)
        exact J57 _ ls hl
  refine W.widen (k := 2 + 8 * 0) (n := 4 + 80 * 0) (Nat.le_of_ble_eq_true rfl) (Nat.le_of_ble_eq_true rfl) ?_
  exact L_10 40 0 0 Z0 z0 0 Z0 z0 al (fun _ => 0) (by omega) INV.zero H1 _ hP hD hS ls (lv_sub hl [0, 1, 2, 3] rfl)
