/-! WrestleBook: foresee, mean, digest -/
def s_mean (n : Nat) (F : Nat → Nat → Int32) : UInt64 := if n = 0 then FP.dconst0 else FP.ddiv (FP.i2d (s_sum n F)) (FP.i2d (nI n))
theorem alike_rfl (x : UInt64) : alike64 x x = true := by simp [alike64]
def s_digC (n : Nat) (F : Nat → Nat → Int32) (ct : Nat → Int32) (m : Nat) : Int64 := fo (fun k d => d * 31 + (s_cnt n F ct (nI k)).toInt64) 1637 m
def s_digT (n : Nat) (F : Nat → Nat → Int32) (w : Nat) (d : Int64) (m : Nat) : Int64 := fo (fun k d => d * 31 + (s_told n F w (nI k)).toInt64) d m
def s_digW (n : Nat) (F : Nat → Nat → Int32) (d : Int64) (m : Nat) : Int64 := fo (fun w d => s_digT n F w d 9) d m
def s_dig (n : Nat) (F : Nat → Nat → Int32) (ct : Nat → Int32) : Int64 := s_digW n F (s_digC n F ct 9) n * 31 + (s_next n F).toInt64
set_option maxHeartbeats 4000000 in
set_option maxRecDepth 100000 in
theorem c_X1_foresee (l : Launch) (hl0 : l.stackTraces = false) (dC : Nat → ClassId) (dI : Nat → Nat → Nat) (cI : ClassId) (h r1 : Nat) (d1 : Nat → Nat) (r2 : Nat) (d2 : Nat → Nat) (rc : Nat) (n : Nat) (F : Nat → Nat → Int32) (n2 : Nat) (G : Nat → Nat → Int32) (ct ch : Nat → Int32) (sz : Nat) (vk : Int32) (hn : n ≤ 12) (hR : okR n F) : vx_Met l yX1_foresee wsX1_foresee ({ frames := 6, cells := 1, slots := 6, locals := 131 } : Room) (va_Pc [.ref h, .int vk] (fun U => PW dC dI cI (wB h r1 d1 r2 d2 rc cI n F n2 G ct ch) sz U)) (va_Qi (fun r (_ : Unit) => x_for vk = 0 ∧ r = s_hi n (s_forU n (s_copyU F G n) (cl vk))) (BW dC dI (va_A (wB h r1 d1 r2 d2 rc cI n F n2 G ct ch) sz) (wB h r1 d1 r2 d2 rc cI n F n (s_forU n (s_copyU F G n) (cl vk)) ct ch)) (va_A (wB h r1 d1 r2 d2 rc cI n F n2 G ct ch) sz)) (vx_X (fun (_ : Unit) => True) (fun E _ t => exE ["java/lang/IllegalArgumentException"] (x_for vk) E ∧ va_P (dC, dI) vwCl (wB h r1 d1 r2 d2 rc cI n F n2 G ct ch) t.heap ∧ va_D (va_A (wB h r1 d1 r2 d2 rc cI n F n2 G ct ch) sz) (wB h r1 d1 r2 d2 rc cI n F n2 G ct ch)) (va_A (wB h r1 d1 r2 d2 rc cI n F n2 G ct ch) sz)) 1 6 (va_A (wB h r1 d1 r2 d2 rc cI n F n2 G ct ch) sz) := by
  refine vx_ofW (cc := cX1_foresee) (maxL := 4) (ret := (some .int)) (by decide) rfl ?_
  intro p e s m args below meth c s₁ B hml htab hv
  obtain ⟨rfl, hsz, hP, hK, hD0, hE⟩ := hv
  have hx := B.exec
  have hb := B.bytes
  have hr := B.returns
  have hts := atoms_spec (ws := wsX1_foresee) B.pre
  have hown : s.vm.findClass RX1 = some m.cls := findClass_of_methodNamed B.named
  have hlocks := B.notSynchronized
  subst hsz
  have hD := hD0.self (sz := s.heap.size)
  generalize hAe : va_A (wB h r1 d1 r2 d2 rc cI n F n2 G ct ch) s.heap.size = A at hD hE ⊢
  have hA : ∀ q : Nat, s.heap.size ≤ q → A q := fun q h9 => by rw [← hAe]; exact Or.inr h9
  have hS : va_S A s.heap s.heap [] := va_S.rf
  have hinX1 : ∀ w ∈ wsX10, w ∈ wsX1_foresee := by decide +kernel
  have hthIAE : ∀ w ∈ (vx_atS RX1 31 "java/lang/IllegalArgumentException" ["java/lang/RuntimeException", "java/lang/Exception"]).filter goodWord, w ∈ wsX1_foresee := by decide +kernel
  have hl := lv_entry ([.ref h, .int vk]) (n := 4) (Nat.le_of_ble_eq_true rfl)
  rw [lg_entry_eq]
  generalize (lg_sl ([.ref h, .int vk]) ++ List.replicate (4 - (lg_sl ([.ref h, .int vk])).length) Slot.unset).toArray = ls at hl ⊢
  have hl : lv_has ls 4 [(0, .ref h), (1, .int vk)] := hl
  refine lv_iload_n hx hb dX1_foresee_0 rfl (lv_at hl 1 rfl) ?_
  refine lv_iconst (v := 1) hx hb dX1_foresee_1 (by decide) ?_
  refine lv_icmp_lt (tgt := 11) hx hb dX1_foresee_2 (by decide) (fun c_2 => ?_) (fun c_2 => ?_)
  · obtain ⟨sa, hstr⟩ := hE.2.2.2.1 (162, "no such number of bouts") (by decide +kernel)
    exact vx_throwS (names := ["java/lang/RuntimeException", "java/lang/Exception"]) hx hb hl0 hown (by decide +kernel) (by decide +kernel) (hts (.classLink RX1 27 "java/lang/IllegalArgumentException") (by decide +kernel)) (hts (.initialized "java/lang/IllegalArgumentException") (by decide +kernel)) hstr (vx_hat (B := [.castable "java/lang/IllegalArgumentException" "java/lang/IllegalArgumentException", .declares (Bundle.initS "java/lang/RuntimeException"), .declares (Bundle.initS "java/lang/Exception"), .declares (Bundle.initS Bundle.tN)]) (fun w h9 => hts w (hthIAE w h9)) tnIAE (vx_c (va_Nw.use rfl (hE.2.2.1 (.castable "java/lang/IllegalArgumentException" "java/lang/IllegalArgumentException") (by decide +kernel))) (vx_c (va_Nw.use rfl (hE.2.2.1 (.declares (Bundle.initS "java/lang/RuntimeException")) (by decide +kernel))) (vx_c (va_Nw.use rfl (hE.2.2.1 (.declares (Bundle.initS "java/lang/Exception")) (by decide +kernel))) (vx_c (va_Nw.use rfl (hE.2.2.1 (.declares (Bundle.initS Bundle.tN)) (by decide +kernel))) vx_n))))) tgIAE hE.2.2.2.2.1 hE.2.2.2.2.2 hS (hl.1.trans hml.symm) dX1_foresee_11 dX1_foresee_14 dX1_foresee_15 dX1_foresee_17 dX1_foresee_20 (fun x9 h9 => (htab x9 h9).elim) (Nat.le_of_ble_eq_true rfl) (Nat.le_of_ble_eq_true rfl) (Nat.le_of_ble_eq_true rfl) (Nat.le_of_ble_eq_true rfl) hlocks (fun t8 hal8 hz8 hk8 => ⟨(), trivial, ⟨(show exE ["java/lang/IllegalArgumentException"] (x_for vk) "java/lang/IllegalArgumentException" from by simp [exE, x_for, c_2]), fun k8 q8 hq8 => (hP k8 q8 hq8).kept (hk8 q8.1 (hP k8 q8 hq8).lt), hD⟩, ⟨hz8, fun q8 h8 _ => hk8 q8 h8⟩⟩) hS.2.2 (Nat.le_of_ble_eq_true rfl) (Nat.le_of_ble_eq_true rfl)
  · refine lv_iload_n hx hb dX1_foresee_5 rfl (lv_at hl 1 rfl) ?_
    refine lv_bipush (v := 40) hx hb dX1_foresee_6 (by decide) ?_
    refine lv_icmp_le (tgt := 21) hx hb dX1_foresee_8 (by decide) (fun c_8 => ?_) (fun c_8 => ?_)
    · have hok : x_for vk = 0 := by simp [x_for, c_2, c_8]
      obtain ⟨k, hk1, hk, rfl⟩ := rngI (u := 1) (v := 40) c_2 c_8 rfl rfl (by decide) (by decide)
      refine lv_aload_n hx hb dX1_foresee_21 rfl (lv_at hl 0 rfl) ?_
      refine va_get (D := (dC, dI)) (ci := 1) (v := .ref r2) (C := RX1) (T := TX1) (N := 6) hx hb hts hinX1 hown hK hP 0 rfl rfl 1 (by decide) (hts (.fieldLink RX1 16 "WrestleBook" "trial" "LWrestleBook$Roster;") (by decide +kernel)) (fun _ h9 => h9) rfl dX1_foresee_22 ?_
      refine lv_aload_n hx hb dX1_foresee_25 rfl (lv_at hl 0 rfl) ?_
      refine va_get (D := (dC, dI)) (ci := 1) (v := .ref r1) (C := RX1) (T := TX1) (N := 6) hx hb hts hinX1 hown hK hP 0 rfl rfl 0 (by decide) (hts (.fieldLink RX1 10 "WrestleBook" "roster" "LWrestleBook$Roster;") (by decide +kernel)) (fun _ h9 => h9) rfl dX1_foresee_26 ?_
      have hPc := hP.sub (ws' := (wR r2 d2 cI n2 G ++ wR r1 d1 cI n F)) [10, 11, 12, 13, 14, 15, 16, 17, 2, 3, 4, 5, 6, 7, 8, 9] rfl
      have hDc := hD.sub (ws' := (wR r2 d2 cI n2 G ++ wR r1 d1 cI n F)) [10, 11, 12, 13, 14, 15, 16, 17, 2, 3, 4, 5, 6, 7, 8, 9] (by decide) rfl
      have hFc := va_free (wc := (wR r2 d2 cI n2 G ++ wR r1 d1 cI n F)) hD hS hA [10, 11, 12, 13, 14, 15, 16, 17, 2, 3, 4, 5, 6, 7, 8, 9] rfl
      refine va_callv (va_runV (As := [.ref r1]) (rest := []) ⟨hx, hb, hml, hown, hts⟩ (c_X0_copyFrom l dC dI cI r2 d2 n2 G r1 d1 n F s.heap.size hn) (cwV 1 hts gX1_foresee_X0_copyFrom rfl rfl rfl (by decide +kernel) ⟨Nat.le_of_ble_eq_true rfl, Nat.le_of_ble_eq_true rfl⟩) ⟨PW.blind, va_recv hK hP (ci := 0) (q0 := 10) rfl rfl, fun U hU hW => ⟨rfl, PW.go hPc hK hDc hE hS hFc hU hW⟩⟩ rfl rfl hl.1 rfl (lv_room (Nat.le_of_ble_eq_true rfl)) dX1_foresee_29 ⟨Nat.le_of_ble_eq_true rfl, Nat.le_of_ble_eq_true rfl⟩) hS (fun q _ h9 => hFc q h9) hFc (fun u9 t9 H1 locs ht9 hvm9 hw9 hB9 hz9 hk9 hS => ?_)
      obtain ⟨hP9, hD9⟩ := hB9
      rw [ht9] at hP9
      obtain ⟨hP, hD⟩ := va_join (wr := ([(h, .inr (1, [.ref r1, .ref r2, .ref rc, .int (ct 0), .int (ct 1), .int (ct 2)])), (rc, .inl (cI, 10, .inl (ch)))] : va_W)) (w1 := wR r2 d2 cI n (s_copyU F G n) ++ wR r1 d1 cI n F) hP hD [10, 11, 12, 13, 14, 15, 16, 17, 2, 3, 4, 5, 6, 7, 8, 9] [0, 1] rfl rfl (by decide) (by decide) hk9 hFc hP9 hD9
      generalize H1 = H at hP hS ⊢
      have hP := hP.sub (ws' := wB h r1 d1 r2 d2 rc cI n F n (s_copyU F G n) ct ch) [0, 1, 10, 11, 12, 13, 14, 15, 16, 17, 2, 3, 4, 5, 6, 7, 8, 9] rfl
      have hD := hD.sub (ws' := wB h r1 d1 r2 d2 rc cI n F n (s_copyU F G n) ct ch) [0, 1, 10, 11, 12, 13, 14, 15, 16, 17, 2, 3, 4, 5, 6, 7, 8, 9] (by decide) rfl
      have hP : va_P (dC, dI) vwCl (wB h r1 d1 r2 d2 rc cI n F n (s_copyU F G n) ct ch) H := hP
      have hD : va_D A (wB h r1 d1 r2 d2 rc cI n F n (s_copyU F G n) ct ch) := hD
      refine lv_iconst (v := 0) hx hb dX1_foresee_32 (by decide) ?_
      refine lv_istore_n (lv' := [(2, .int 0), (0, .ref h), (1, .int (nI k))]) hx hb dX1_foresee_33 rfl hl (by decide) rfl (fun ls hl => ?_)
      have L_34 : ∀ (k8 i : Nat) (E : Nat → Nat → Int32), i + k8 = k → E = s_forU n (s_copyU F G n) i → okR n E → ∀ (H : Heap) (locs : List Loc), va_P (dC, dI) vwCl (wB h r1 d1 r2 d2 rc cI n F n E ct ch) H → va_D A (wB h r1 d1 r2 d2 rc cI n F n E ct ch) → va_S A s.heap H locs → ∀ (ls : Array Slot), lv_has ls 4 [(2, .int (nI i)), (0, .ref h), (1, .int (nI k))] → W p l e (headSpec wsX1_foresee ({ frames := 6, cells := 1, slots := 6, locals := 131 } : Room)).room s m ([.ref h, .int (nI k)] : List Value).toArray below meth c H locs 0 0 (vx_MQ below (va_Qi (fun r (_ : Unit) => x_for (nI k) = 0 ∧ r = s_hi n (s_forU n (s_copyU F G n) (cl (nI k)))) (BW dC dI A (wB h r1 d1 r2 d2 rc cI n F n (s_forU n (s_copyU F G n) (cl (nI k))) ct ch)) A) (vx_X (fun (_ : Unit) => True) (fun E _ t => exE ["java/lang/IllegalArgumentException"] (x_for (nI k)) E ∧ va_P (dC, dI) vwCl (wB h r1 d1 r2 d2 rc cI n F n2 G ct ch) t.heap ∧ va_D A (wB h r1 d1 r2 d2 rc cI n F n2 G ct ch)) A) ([.ref h, .int (nI k)] : List Value).toArray s 1 6 A) (F0 m 34 ls []) := by
        intro k8
        induction k8 with
        | zero =>
          intro i E e_i hE9 hokE H locs hP hD hS ls hl
          refine lv_iload_n hx hb dX1_foresee_34 rfl (lv_at hl 0 rfl) ?_
          refine lv_iload_n hx hb dX1_foresee_35 rfl (lv_at hl 2 rfl) ?_
          refine rv_icmp_ge (tgt := 76) hx hb (a := i) (b := k) (by omega) (by omega) dX1_foresee_36 (by decide) (fun c_36 => ?_) (fun c_36 => ?_)
          · have hend : s_forU n (s_copyU F G n) k = E := by rw [hE9, show i = k by omega]
            refine lv_aload_n hx hb dX1_foresee_76 rfl (lv_at hl 1 rfl) ?_
            refine va_get (D := (dC, dI)) (ci := 1) (v := .ref r2) (C := RX1) (T := TX1) (N := 6) hx hb hts hinX1 hown hK hP 0 rfl rfl 1 (by decide) (hts (.fieldLink RX1 16 "WrestleBook" "trial" "LWrestleBook$Roster;") (by decide +kernel)) (fun _ h9 => h9) rfl dX1_foresee_77 ?_
            refine vp_callSi (W.runV (As := []) (rest := []) ⟨hx, hb, hml, hown, hts⟩ (c_X0_highest l dC dI cI r2 d2 n E hn) (cwV 0 hts gX1_foresee_X0_highest rfl rfl rfl (by decide +kernel) ⟨Nat.le_of_ble_eq_true rfl, Nat.le_of_ble_eq_true rfl⟩) ⟨PR.blind, va_recv hK hP (ci := 0) (q0 := 10) rfl rfl, fun U hU hW => ⟨rfl, PR.go (hP.sub (ws' := (wR r2 d2 cI n E)) [10, 11, 12, 13, 14, 15, 16, 17] rfl) hK hE hS hU hW⟩⟩ rfl rfl hl.1 rfl (lv_room (Nat.le_of_ble_eq_true rfl)) dX1_foresee_80 ⟨Nat.le_of_ble_eq_true rfl, Nat.le_of_ble_eq_true rfl⟩) (fun r hr0 => ?_)
            subst hr0
            refine vx_ret ?_
            refine W.widen (k := 1) (n := 6) (Nat.le_of_ble_eq_true rfl) (Nat.le_of_ble_eq_true rfl) ?_
            have hP8 : va_P (dC, dI) vwCl (wB h r1 d1 r2 d2 rc cI n F n (s_forU n (s_copyU F G n) (cl (nI k))) ct ch) H := by rw [cl_nI (show k < 2 ^ 31 by omega), hend]; exact hP
            have hD8 : va_D A (wB h r1 d1 r2 d2 rc cI n F n (s_forU n (s_copyU F G n) (cl (nI k))) ct ch) := by rw [cl_nI (show k < 2 ^ 31 by omega), hend]; exact hD
            exact W.iret (v := s_hi n E) hx hb hr (fun t ht hW => ⟨⟨_, (), rfl, ⟨(show x_for (nI k) = 0 from by exact hok), (show s_hi n E = s_hi n (s_forU n (s_copyU F G n) (cl (nI k))) from by rw [cl_nI (by omega), hend])⟩, by rw [ht]; exact hP8, hD8⟩, hS.F ht⟩) hS.2.2 dX1_foresee_83
          · exact absurd c_36 (by omega)
        | succ k8 ih_34 =>
          intro i E e_i hE9 hokE H locs hP hD hS ls hl
          refine lv_iload_n hx hb dX1_foresee_34 rfl (lv_at hl 0 rfl) ?_
          refine lv_iload_n hx hb dX1_foresee_35 rfl (lv_at hl 2 rfl) ?_
          refine rv_icmp_ge (tgt := 76) hx hb (a := i) (b := k) (by omega) (by omega) dX1_foresee_36 (by decide) (fun c_36 => ?_) (fun c_36 => ?_)
          · exact absurd c_36 (by omega)
          · refine lv_aload_n hx hb dX1_foresee_39 rfl (lv_at hl 1 rfl) ?_
            refine va_get (D := (dC, dI)) (ci := 1) (v := .ref r2) (C := RX1) (T := TX1) (N := 6) hx hb hts hinX1 hown hK hP 0 rfl rfl 1 (by decide) (hts (.fieldLink RX1 16 "WrestleBook" "trial" "LWrestleBook$Roster;") (by decide +kernel)) (fun _ h9 => h9) rfl dX1_foresee_40 ?_
            refine vp_callSi (W.runV (As := []) (rest := []) ⟨hx, hb, hml, hown, hts⟩ (c_X0_bestPair l dC dI cI r2 d2 n E hn hokE) (cwV 0 hts gX1_foresee_X0_bestPair rfl rfl rfl (by decide +kernel) ⟨Nat.le_of_ble_eq_true rfl, Nat.le_of_ble_eq_true rfl⟩) ⟨PR.blind, va_recv hK hP (ci := 0) (q0 := 10) rfl rfl, fun U hU hW => ⟨rfl, PR.go (hP.sub (ws' := (wR r2 d2 cI n E)) [10, 11, 12, 13, 14, 15, 16, 17] rfl) hK hE hS hU hW⟩⟩ rfl rfl hl.1 rfl (lv_room (Nat.le_of_ble_eq_true rfl)) dX1_foresee_43 ⟨Nat.le_of_ble_eq_true rfl, Nat.le_of_ble_eq_true rfl⟩) (fun r hr0 => ?_)
            subst hr0
            refine lv_istore_n (lv' := [(3, .int (s_next n E)), (2, .int (nI i)), (0, .ref h), (1, .int (nI k))]) hx hb dX1_foresee_46 rfl hl (by decide) rfl (fun ls hl => ?_)
            refine lv_iload_n hx hb dX1_foresee_47 rfl (lv_at hl 0 rfl) ?_
            refine lv_iconst (v := (-1)) hx hb dX1_foresee_48 (by decide) ?_
            refine lv_icmp_ne (tgt := 55) hx hb dX1_foresee_49 (by decide) (fun c_49 => ?_) (fun c_49 => ?_)
            · obtain ⟨a, b, hab, hbn, e49⟩ := (pN_next (n := n) E).resolve_left c_49
              refine lv_aload_n hx hb dX1_foresee_55 rfl (lv_at hl 2 rfl) ?_
              refine va_get (D := (dC, dI)) (ci := 1) (v := .ref r2) (C := RX1) (T := TX1) (N := 6) hx hb hts hinX1 hown hK hP 0 rfl rfl 1 (by decide) (hts (.fieldLink RX1 16 "WrestleBook" "trial" "LWrestleBook$Roster;") (by decide +kernel)) (fun _ h9 => h9) rfl dX1_foresee_56 ?_
              refine lv_iload_n hx hb dX1_foresee_59 rfl (lv_at hl 0 rfl) ?_
              refine lv_bipush (v := 12) hx hb dX1_foresee_60 (by decide) ?_
              refine lv_idiv hx hb dX1_foresee_62 (by decide) ?_
              refine rv_top (y := nI a) (by rw [e49]; exact div12 hab hbn hn) ?_
              refine lv_iload_n hx hb dX1_foresee_63 rfl (lv_at hl 0 rfl) ?_
              refine lv_bipush (v := 12) hx hb dX1_foresee_64 (by decide) ?_
              refine lv_irem hx hb dX1_foresee_66 (by decide) ?_
              refine rv_top (y := nI b) (by rw [e49]; exact rem12 hab hbn hn) ?_
              have hPc := hP.sub (ws' := (wR r2 d2 cI n E)) [10, 11, 12, 13, 14, 15, 16, 17] rfl
              have hDc := hD.sub (ws' := (wR r2 d2 cI n E)) [10, 11, 12, 13, 14, 15, 16, 17] (by decide) rfl
              have hFc := va_free (wc := (wR r2 d2 cI n E)) hD hS hA [10, 11, 12, 13, 14, 15, 16, 17] rfl
              refine va_callv (va_runV (As := [.int (nI a), .int (nI b)]) (rest := []) ⟨hx, hb, hml, hown, hts⟩ (c_X0_holdAsRated l dC dI cI r2 d2 n E H.size a (show a < n by omega) b (show b < n by omega) hn hokE) (cwV 2 hts gX1_foresee_X0_holdAsRated rfl rfl rfl (by decide +kernel) ⟨Nat.le_of_ble_eq_true rfl, Nat.le_of_ble_eq_true rfl⟩) ⟨PW.blind, va_recv hK hP (ci := 0) (q0 := 10) rfl rfl, fun U hU hW => ⟨rfl, PW.go hPc hK hDc hE hS hFc hU hW⟩⟩ rfl rfl hl.1 rfl (lv_room (Nat.le_of_ble_eq_true rfl)) dX1_foresee_67 ⟨Nat.le_of_ble_eq_true rfl, Nat.le_of_ble_eq_true rfl⟩) hS (fun q _ h9 => hFc q h9) hFc (fun u9 t9 H1 locs ht9 hvm9 hw9 hB9 hz9 hk9 hS => ?_)
              obtain ⟨hP9, hD9⟩ := hB9
              rw [ht9] at hP9
              obtain ⟨hP, hD⟩ := va_join (wr := ([(h, .inr (1, [.ref r1, .ref r2, .ref rc, .int (ct 0), .int (ct 1), .int (ct 2)])), (rc, .inl (cI, 10, .inl (ch))), (r1, .inr (0, [.ref (d1 0), .ref (d1 1), .ref (d1 2), .ref (d1 3), .ref (d1 4), .ref (d1 5), .ref (d1 6), .int (nI n)])), (d1 0, .inl (cI, 12, .inl (F 0))), (d1 1, .inl (cI, 12, .inl (F 1))), (d1 2, .inl (cI, 12, .inl (F 2))), (d1 3, .inl (cI, 12, .inl (F 3))), (d1 4, .inl (cI, 12, .inl (F 4))), (d1 5, .inl (cI, 12, .inl (F 5))), (d1 6, .inl (cI, 12, .inl (F 6)))] : va_W)) (w1 := wR r2 d2 cI n (s_har E a b)) hP hD [10, 11, 12, 13, 14, 15, 16, 17] [0, 1, 2, 3, 4, 5, 6, 7, 8, 9] rfl rfl (by decide) (by decide) hk9 hFc hP9 hD9
              generalize H1 = H at hP hS ⊢
              have hP := hP.sub (ws' := wB h r1 d1 r2 d2 rc cI n F n (s_har E a b) ct ch) [0, 1, 2, 3, 4, 5, 6, 7, 8, 9, 10, 11, 12, 13, 14, 15, 16, 17] rfl
              have hD := hD.sub (ws' := wB h r1 d1 r2 d2 rc cI n F n (s_har E a b) ct ch) [0, 1, 2, 3, 4, 5, 6, 7, 8, 9, 10, 11, 12, 13, 14, 15, 16, 17] (by decide) rfl
              have hP : va_P (dC, dI) vwCl (wB h r1 d1 r2 d2 rc cI n F n (s_har E a b) ct ch) H := hP
              have hD : va_D A (wB h r1 d1 r2 d2 rc cI n F n (s_har E a b) ct ch) := hD
              refine lv_iinc (v := nI (i + 1)) (lv' := [(2, .int (nI (i + 1))), (3, .int (s_next n E)), (0, .ref h), (1, .int (nI k))]) hx hb dX1_foresee_70 hl (k := 1) rfl (nI_add i 1) (by decide) rfl (fun ls hl => ?_)
              refine lv_goto (tgt := 34) hx hb dX1_foresee_73 (by decide) ?_
              exact ih_34 (i + 1) (s_har E a b) (by omega) (forU_go hE9 hab hbn hn e49) (okR_har (Nat.ne_of_lt hab) hokE) _ _ hP hD hS ls (lv_sub hl [0, 2, 3] rfl)
            · have hend : s_forU n (s_copyU F G n) k = E := by
                have c8 : s_next n (s_forU n (s_copyU F G n) i) = -1 := by rw [← hE9]; exact c_49
                have q := forU_stop c8 (k - i)
                rw [show i + (k - i) = k by omega] at q
                rw [q, hE9]
              refine lv_goto (tgt := 76) hx hb dX1_foresee_52 (by decide) ?_
              refine lv_aload_n hx hb dX1_foresee_76 rfl (lv_at hl 2 rfl) ?_
              refine va_get (D := (dC, dI)) (ci := 1) (v := .ref r2) (C := RX1) (T := TX1) (N := 6) hx hb hts hinX1 hown hK hP 0 rfl rfl 1 (by decide) (hts (.fieldLink RX1 16 "WrestleBook" "trial" "LWrestleBook$Roster;") (by decide +kernel)) (fun _ h9 => h9) rfl dX1_foresee_77 ?_
              refine vp_callSi (W.runV (As := []) (rest := []) ⟨hx, hb, hml, hown, hts⟩ (c_X0_highest l dC dI cI r2 d2 n E hn) (cwV 0 hts gX1_foresee_X0_highest rfl rfl rfl (by decide +kernel) ⟨Nat.le_of_ble_eq_true rfl, Nat.le_of_ble_eq_true rfl⟩) ⟨PR.blind, va_recv hK hP (ci := 0) (q0 := 10) rfl rfl, fun U hU hW => ⟨rfl, PR.go (hP.sub (ws' := (wR r2 d2 cI n E)) [10, 11, 12, 13, 14, 15, 16, 17] rfl) hK hE hS hU hW⟩⟩ rfl rfl hl.1 rfl (lv_room (Nat.le_of_ble_eq_true rfl)) dX1_foresee_80 ⟨Nat.le_of_ble_eq_true rfl, Nat.le_of_ble_eq_true rfl⟩) (fun r hr0 => ?_)
              subst hr0
              refine vx_ret ?_
              refine W.widen (k := 1) (n := 6) (Nat.le_of_ble_eq_true rfl) (Nat.le_of_ble_eq_true rfl) ?_
              have hP8 : va_P (dC, dI) vwCl (wB h r1 d1 r2 d2 rc cI n F n (s_forU n (s_copyU F G n) (cl (nI k))) ct ch) H := by rw [cl_nI (show k < 2 ^ 31 by omega), hend]; exact hP
              have hD8 : va_D A (wB h r1 d1 r2 d2 rc cI n F n (s_forU n (s_copyU F G n) (cl (nI k))) ct ch) := by rw [cl_nI (show k < 2 ^ 31 by omega), hend]; exact hD
              exact W.iret (v := s_hi n E) hx hb hr (fun t ht hW => ⟨⟨_, (), rfl, ⟨(show x_for (nI k) = 0 from by exact hok), (show s_hi n E = s_hi n (s_forU n (s_copyU F G n) (cl (nI k))) from by rw [cl_nI (by omega), hend])⟩, by rw [ht]; exact hP8, hD8⟩, hS.F ht⟩) hS.2.2 dX1_foresee_83
      exact L_34 k 0 (s_copyU F G n) (by omega) rfl (okR_ag (ag_copy n F G) hR) _ _ hP hD hS ls (lv_sub hl [0, 1, 2] rfl)
    · obtain ⟨sa, hstr⟩ := hE.2.2.2.1 (162, "no such number of bouts") (by decide +kernel)
      exact vx_throwS (names := ["java/lang/RuntimeException", "java/lang/Exception"]) hx hb hl0 hown (by decide +kernel) (by decide +kernel) (hts (.classLink RX1 27 "java/lang/IllegalArgumentException") (by decide +kernel)) (hts (.initialized "java/lang/IllegalArgumentException") (by decide +kernel)) hstr (vx_hat (B := [.castable "java/lang/IllegalArgumentException" "java/lang/IllegalArgumentException", .declares (Bundle.initS "java/lang/RuntimeException"), .declares (Bundle.initS "java/lang/Exception"), .declares (Bundle.initS Bundle.tN)]) (fun w h9 => hts w (hthIAE w h9)) tnIAE (vx_c (va_Nw.use rfl (hE.2.2.1 (.castable "java/lang/IllegalArgumentException" "java/lang/IllegalArgumentException") (by decide +kernel))) (vx_c (va_Nw.use rfl (hE.2.2.1 (.declares (Bundle.initS "java/lang/RuntimeException")) (by decide +kernel))) (vx_c (va_Nw.use rfl (hE.2.2.1 (.declares (Bundle.initS "java/lang/Exception")) (by decide +kernel))) (vx_c (va_Nw.use rfl (hE.2.2.1 (.declares (Bundle.initS Bundle.tN)) (by decide +kernel))) vx_n))))) tgIAE hE.2.2.2.2.1 hE.2.2.2.2.2 hS (hl.1.trans hml.symm) dX1_foresee_11 dX1_foresee_14 dX1_foresee_15 dX1_foresee_17 dX1_foresee_20 (fun x9 h9 => (htab x9 h9).elim) (Nat.le_of_ble_eq_true rfl) (Nat.le_of_ble_eq_true rfl) (Nat.le_of_ble_eq_true rfl) (Nat.le_of_ble_eq_true rfl) hlocks (fun t8 hal8 hz8 hk8 => ⟨(), trivial, ⟨(show exE ["java/lang/IllegalArgumentException"] (x_for vk) "java/lang/IllegalArgumentException" from by simp [exE, x_for, c_2, c_8]), fun k8 q8 hq8 => (hP k8 q8 hq8).kept (hk8 q8.1 (hP k8 q8 hq8).lt), hD⟩, ⟨hz8, fun q8 h8 _ => hk8 q8 h8⟩⟩) hS.2.2 (Nat.le_of_ble_eq_true rfl) (Nat.le_of_ble_eq_true rfl)

set_option maxHeartbeats 4000000 in
set_option maxRecDepth 100000 in
theorem c_X1_mean (l : Launch) (dC : Nat → ClassId) (dI : Nat → Nat → Nat) (cI : ClassId) (h r1 : Nat) (d1 : Nat → Nat) (r2 : Nat) (d2 : Nat → Nat) (rc : Nat) (n : Nat) (F : Nat → Nat → Int32) (n2 : Nat) (G : Nat → Nat → Int32) (ct ch : Nat → Int32) (H0 : Heap) (hn : n ≤ 12) : MetD lw_cs l yX1_mean wsX1_mean ({ frames := 1, cells := 0, slots := 0, locals := 22 } : Room) (va_Pc [.ref h] (fun U => U.heap = H0 ∧ PR dC dI cI (wB h r1 d1 r2 d2 rc cI n F n2 G ct ch) U)) (va_Qd (fun r (_ : Unit) => alike64 r (s_mean n F) = true) (fun _ t => t.heap = H0) (fun _ => False)) 0 0 (fun _ => False) := by
  refine MetD.ofW (cc := cX1_mean) (maxL := 2) (ret := (some .double)) (by decide) rfl ?_
  intro p e s m args below meth c s₁ B hml hv hd0
  obtain ⟨rfl, hH0, hP, hK, hE⟩ := hv
  subst hH0
  have hx := B.exec
  have hb := B.bytes
  have hr := B.returns
  have hts := atoms_spec (ws := wsX1_mean) B.pre
  have hown : s.vm.findClass RX1 = some m.cls := findClass_of_methodNamed B.named
  have hlocks := B.notSynchronized
  have hts := dr_words hts s.drawn
  have hS : va_S (fun _ => False) s.heap s.heap [] := va_S.rf
  have hinX1 : ∀ w ∈ wsX10, w ∈ wsX1_mean := by decide +kernel
  have hl := lv_entry ([.ref h]) (n := 2) (Nat.le_of_ble_eq_true rfl)
  rw [lg_entry_eq]
  generalize (lg_sl ([.ref h]) ++ List.replicate (2 - (lg_sl ([.ref h])).length) Slot.unset).toArray = ls at hl ⊢
  have hl : lv_has ls 2 [(0, .ref h)] := hl
  refine lv_aload_n hx hb dX1_mean_0 rfl (lv_at hl 0 rfl) ?_
  refine va_get (D := (dC, dI)) (ci := 1) (v := .ref r1) (C := RX1) (T := TX1) (N := 6) hx hb hts hinX1 hown hK hP 0 rfl rfl 0 (by decide) (hts (.fieldLink RX1 10 "WrestleBook" "roster" "LWrestleBook$Roster;") (by decide +kernel)) (fun _ h9 => h9) rfl dX1_mean_1 ?_
  refine vp_callSi (W.runV (As := []) (rest := []) ⟨hx, hb, hml, hown, hts⟩ (c_X0_size l dC dI cI r1 d1 n F) (cwV 0 hts gX1_mean_X0_size rfl rfl rfl (by decide +kernel) ⟨Nat.le_of_ble_eq_true rfl, Nat.le_of_ble_eq_true rfl⟩) ⟨PR.blind, va_recv hK hP (ci := 0) (q0 := 2) rfl rfl, fun U hU hW => ⟨rfl, PR.go (hP.sub (ws' := (wR r1 d1 cI n F)) [2, 3, 4, 5, 6, 7, 8, 9] rfl) hK hE hS hU hW⟩⟩ rfl rfl hl.1 rfl (lv_room (Nat.le_of_ble_eq_true rfl)) dX1_mean_4 ⟨Nat.le_of_ble_eq_true rfl, Nat.le_of_ble_eq_true rfl⟩) (fun r hr0 => ?_)
  subst hr0
  refine lv_istore_n (lv' := [(1, .int (nI n)), (0, .ref h)]) hx hb dX1_mean_7 rfl hl (by decide) rfl (fun ls hl => ?_)
  refine lv_iload_n hx hb dX1_mean_8 rfl (lv_at hl 0 rfl) ?_
  refine lv_if_ne (tgt := 16) hx hb dX1_mean_9 (by decide) (fun c_9 => ?_) (fun c_9 => ?_)
  · have hn0 : ¬ n = 0 := fun q => c_9 (by rw [q]; rfl)
    refine lv_aload_n hx hb dX1_mean_16 rfl (lv_at hl 1 rfl) ?_
    refine va_get (D := (dC, dI)) (ci := 1) (v := .ref r1) (C := RX1) (T := TX1) (N := 6) hx hb hts hinX1 hown hK hP 0 rfl rfl 0 (by decide) (hts (.fieldLink RX1 10 "WrestleBook" "roster" "LWrestleBook$Roster;") (by decide +kernel)) (fun _ h9 => h9) rfl dX1_mean_17 ?_
    refine vp_callSi (W.runV (As := []) (rest := []) ⟨hx, hb, hml, hown, hts⟩ (c_X0_sumOfRatings l dC dI cI r1 d1 n F hn) (cwV 0 hts gX1_mean_X0_sumOfRatings rfl rfl rfl (by decide +kernel) ⟨Nat.le_of_ble_eq_true rfl, Nat.le_of_ble_eq_true rfl⟩) ⟨PR.blind, va_recv hK hP (ci := 0) (q0 := 2) rfl rfl, fun U hU hW => ⟨rfl, PR.go (hP.sub (ws' := (wR r1 d1 cI n F)) [2, 3, 4, 5, 6, 7, 8, 9] rfl) hK hE hS hU hW⟩⟩ rfl rfl hl.1 rfl (lv_room (Nat.le_of_ble_eq_true rfl)) dX1_mean_20 ⟨Nat.le_of_ble_eq_true rfl, Nat.le_of_ble_eq_true rfl⟩) (fun r hr0 => ?_)
    subst hr0
    refine lv_i2d hx hb dX1_mean_23 ?_
    refine lv_iload_n hx hb dX1_mean_24 rfl (lv_at hl 0 rfl) ?_
    refine lv_i2d hx hb dX1_mean_25 ?_
    refine lv_ddiv_any hd0 lw_bits hx hb dX1_mean_26 (fun r dr1 hal hd1 => ?_)
    refine W.endD hd1 ?_
    exact W.dret (v := r) hx hb hr (fun t ht hW => ⟨⟨_, (), rfl, (show alike64 (r) (s_mean n F) = true from by rw [s_mean, if_neg hn0]; exact hal), ht⟩, hS.F ht⟩) hS.2.2 dX1_mean_27
  · have hn0 : n = 0 := (nI_eq (by omega) (by decide)).mp c_9
    refine lv_dconst0 hx hb dX1_mean_12 ?_
    refine lv_goto (tgt := 27) hx hb dX1_mean_13 (by decide) ?_
    refine W.endD hd0 ?_
    exact W.dret (v := FP.dconst0) hx hb hr (fun t ht hW => ⟨⟨_, (), rfl, (show alike64 (FP.dconst0) (s_mean n F) = true from by rw [s_mean, if_pos hn0]; exact alike_rfl _), ht⟩, hS.F ht⟩) hS.2.2 dX1_mean_27

set_option maxHeartbeats 4000000 in
set_option maxRecDepth 100000 in
theorem c_X1_digest (l : Launch) (dC : Nat → ClassId) (dI : Nat → Nat → Nat) (cI : ClassId) (h r1 : Nat) (d1 : Nat → Nat) (r2 : Nat) (d2 : Nat → Nat) (rc : Nat) (n : Nat) (F : Nat → Nat → Int32) (n2 : Nat) (G : Nat → Nat → Int32) (ct ch : Nat → Int32) (hn : n ≤ 12) (hR : okR n F) : Met l yX1_digest wsX1_digest ({ frames := 6, cells := 0, slots := 0, locals := 127 } : Room) (va_Pc [.ref h] (fun U => PR dC dI cI (wB h r1 d1 r2 d2 rc cI n F n2 G ct ch) U)) (vp_Sl (fun r => r = s_dig n F ct)) 0 0 (fun _ => False) := by
  refine Met.ofW (cc := cX1_digest) (maxL := 5) (ret := (some .long)) (by decide) rfl ?_
  intro p e s m args below meth c s₁ B hml hv
  obtain ⟨rfl, hP, hK, hE⟩ := hv
  have hx := B.exec
  have hb := B.bytes
  have hr := B.returns
  have hts := atoms_spec (ws := wsX1_digest) B.pre
  have hown : s.vm.findClass RX1 = some m.cls := findClass_of_methodNamed B.named
  have hlocks := B.notSynchronized
  have hS : va_S (fun _ => False) s.heap s.heap [] := va_S.rf
  have hinX1 : ∀ w ∈ wsX10, w ∈ wsX1_digest := by decide +kernel
  have hl := lv_entry ([.ref h]) (n := 5) (Nat.le_of_ble_eq_true rfl)
  rw [lg_entry_eq]
  generalize (lg_sl ([.ref h]) ++ List.replicate (5 - (lg_sl ([.ref h])).length) Slot.unset).toArray = ls at hl ⊢
  have hl : lv_has ls 5 [(0, .ref h)] := hl
  refine lv_ldc2 hx hb hown (hts (.constantLong RX1 174 1637) (by decide +kernel)) dX1_digest_0 ?_
  refine lv_lstore_n (lv' := [(1, .long 1637), (0, .ref h)]) hx hb dX1_digest_3 rfl hl (by decide) rfl (fun ls hl => ?_)
  refine lv_iconst (v := 0) hx hb dX1_digest_4 (by decide) ?_
  refine lv_istore_n (lv' := [(3, .int 0), (1, .long 1637), (0, .ref h)]) hx hb dX1_digest_5 rfl hl (by decide) rfl (fun ls hl => ?_)
  have L_6 : ∀ (k1 i1 : Nat) (e1 : Int64), i1 + k1 = 9 → e1 = s_digC n F ct i1 → ∀ (ls : Array Slot), lv_has ls 5 [(3, .int (nI i1)), (1, .long e1), (0, .ref h)] → W p l e (headSpec wsX1_digest ({ frames := 6, cells := 0, slots := 0, locals := 127 } : Room)).room s m ([.ref h] : List Value).toArray below meth c s.heap [] 0 0 (MQ below (vp_Sl (fun r => r = s_dig n F ct)) ([.ref h] : List Value).toArray s 0 0 (fun _ => False)) (F0 m 6 ls []) := by
    intro k1
    induction k1 with
    | zero =>
      intro i1 e1 e_i1 he1 ls hl
      refine lv_iload_n hx hb dX1_digest_6 rfl (lv_at hl 0 rfl) ?_
      refine lv_bipush (v := 9) hx hb dX1_digest_7 (by decide) ?_
      refine rv_icmp_ge (tgt := 31) hx hb (a := i1) (b := 9) (by omega) (by omega) dX1_digest_9 (by decide) (fun c_9 => ?_) (fun c_9 => ?_)
      · refine lv_iconst (v := 0) hx hb dX1_digest_31 (by decide) ?_
        refine lv_istore_n (lv' := [(3, .int 0), (1, .long e1), (0, .ref h)]) hx hb dX1_digest_32 rfl hl (by decide) rfl (fun ls hl => ?_)
        have L_33 : ∀ (k2 i2 : Nat) (e2 : Int64), i2 + k2 = n → e2 = s_digW n F e1 i2 → ∀ (ls : Array Slot), lv_has ls 5 [(3, .int (nI i2)), (1, .long e2), (0, .ref h)] → W p l e (headSpec wsX1_digest ({ frames := 6, cells := 0, slots := 0, locals := 127 } : Room)).room s m ([.ref h] : List Value).toArray below meth c s.heap [] 0 0 (MQ below (vp_Sl (fun r => r = s_dig n F ct)) ([.ref h] : List Value).toArray s 0 0 (fun _ => False)) (F0 m 33 ls []) := by
          intro k2
          induction k2 with
          | zero =>
            intro i2 e2 e_i2 he2 ls hl
            refine lv_iload_n hx hb dX1_digest_33 rfl (lv_at hl 0 rfl) ?_
            refine lv_aload_n hx hb dX1_digest_34 rfl (lv_at hl 2 rfl) ?_
            refine va_get (D := (dC, dI)) (ci := 1) (v := .ref r1) (C := RX1) (T := TX1) (N := 6) hx hb hts hinX1 hown hK hP 0 rfl rfl 0 (by decide) (hts (.fieldLink RX1 10 "WrestleBook" "roster" "LWrestleBook$Roster;") (by decide +kernel)) (fun _ h9 => h9) rfl dX1_digest_35 ?_
            refine vp_callSi (W.runV (As := []) (rest := [.int (nI i2)]) ⟨hx, hb, hml, hown, hts⟩ (c_X0_size l dC dI cI r1 d1 n F) (cwV 0 hts gX1_digest_X0_size rfl rfl rfl (by decide +kernel) ⟨Nat.le_of_ble_eq_true rfl, Nat.le_of_ble_eq_true rfl⟩) ⟨PR.blind, va_recv hK hP (ci := 0) (q0 := 2) rfl rfl, fun U hU hW => ⟨rfl, PR.go (hP.sub (ws' := (wR r1 d1 cI n F)) [2, 3, 4, 5, 6, 7, 8, 9] rfl) hK hE hS hU hW⟩⟩ rfl rfl hl.1 rfl (lv_room (Nat.le_of_ble_eq_true rfl)) dX1_digest_38 ⟨Nat.le_of_ble_eq_true rfl, Nat.le_of_ble_eq_true rfl⟩) (fun r hr0 => ?_)
            subst hr0
            refine rv_icmp_ge (tgt := 81) hx hb (a := i2) (b := n) (by omega) (by omega) dX1_digest_41 (by decide) (fun c_41 => ?_) (fun c_41 => ?_)
            · refine lv_lload_n hx hb dX1_digest_81 rfl (lv_at hl 1 rfl) ?_
              refine lv_ldc2 hx hb hown (hts (.constantLong RX1 176 31) (by decide +kernel)) dX1_digest_82 ?_
              refine lv_lmul hx hb dX1_digest_85 ?_
              refine lv_aload_n hx hb dX1_digest_86 rfl (lv_at hl 2 rfl) ?_
              refine vp_callSi (W.runV (As := []) (rest := [.long (e2 * 31)]) ⟨hx, hb, hml, hown, hts⟩ (c_X1_next l dC dI cI h r1 d1 r2 d2 rc n F n2 G ct ch hn hR) (cwV 0 hts gX1_digest_X1_next rfl rfl rfl (by decide +kernel) ⟨Nat.le_of_ble_eq_true rfl, Nat.le_of_ble_eq_true rfl⟩) ⟨PR.blind, va_recv hK hP (ci := 1) (q0 := 0) rfl rfl, fun U hU hW => ⟨rfl, PR.go hP hK hE hS hU hW⟩⟩ rfl rfl hl.1 rfl (lv_room (Nat.le_of_ble_eq_true rfl)) dX1_digest_87 ⟨Nat.le_of_ble_eq_true rfl, Nat.le_of_ble_eq_true rfl⟩) (fun r hr0 => ?_)
              subst hr0
              refine lv_i2l hx hb dX1_digest_90 rfl ?_
              refine lv_ladd hx hb dX1_digest_91 ?_
              exact W.lret (v := (e2 * 31) + ((s_next n F).toInt64)) hx hb hr (fun t ht hW => ⟨_, rfl, (show (e2 * 31) + ((s_next n F).toInt64) = s_dig n F ct from by rw [he2, he1, show i2 = n by omega, show i1 = 9 by omega]; rfl), ht⟩) hS.2.2 dX1_digest_92
            · exact absurd c_41 (by omega)
          | succ k2 ih_33 =>
            intro i2 e2 e_i2 he2 ls hl
            refine lv_iload_n hx hb dX1_digest_33 rfl (lv_at hl 0 rfl) ?_
            refine lv_aload_n hx hb dX1_digest_34 rfl (lv_at hl 2 rfl) ?_
            refine va_get (D := (dC, dI)) (ci := 1) (v := .ref r1) (C := RX1) (T := TX1) (N := 6) hx hb hts hinX1 hown hK hP 0 rfl rfl 0 (by decide) (hts (.fieldLink RX1 10 "WrestleBook" "roster" "LWrestleBook$Roster;") (by decide +kernel)) (fun _ h9 => h9) rfl dX1_digest_35 ?_
            refine vp_callSi (W.runV (As := []) (rest := [.int (nI i2)]) ⟨hx, hb, hml, hown, hts⟩ (c_X0_size l dC dI cI r1 d1 n F) (cwV 0 hts gX1_digest_X0_size rfl rfl rfl (by decide +kernel) ⟨Nat.le_of_ble_eq_true rfl, Nat.le_of_ble_eq_true rfl⟩) ⟨PR.blind, va_recv hK hP (ci := 0) (q0 := 2) rfl rfl, fun U hU hW => ⟨rfl, PR.go (hP.sub (ws' := (wR r1 d1 cI n F)) [2, 3, 4, 5, 6, 7, 8, 9] rfl) hK hE hS hU hW⟩⟩ rfl rfl hl.1 rfl (lv_room (Nat.le_of_ble_eq_true rfl)) dX1_digest_38 ⟨Nat.le_of_ble_eq_true rfl, Nat.le_of_ble_eq_true rfl⟩) (fun r hr0 => ?_)
            subst hr0
            refine rv_icmp_ge (tgt := 81) hx hb (a := i2) (b := n) (by omega) (by omega) dX1_digest_41 (by decide) (fun c_41 => ?_) (fun c_41 => ?_)
            · exact absurd c_41 (by omega)
            · refine lv_iconst (v := 0) hx hb dX1_digest_44 (by decide) ?_
              refine lv_istore (lv' := [(4, .int 0), (3, .int (nI i2)), (1, .long e2), (0, .ref h)]) hx hb dX1_digest_45 hl (by decide) rfl (fun ls hl => ?_)
              have L_47 : ∀ (k3 i3 : Nat) (e3 : Int64), i3 + k3 = 9 → e3 = s_digT n F i2 e2 i3 → ∀ (ls : Array Slot), lv_has ls 5 [(4, .int (nI i3)), (3, .int (nI i2)), (1, .long e3), (0, .ref h)] → W p l e (headSpec wsX1_digest ({ frames := 6, cells := 0, slots := 0, locals := 127 } : Room)).room s m ([.ref h] : List Value).toArray below meth c s.heap [] 0 0 (MQ below (vp_Sl (fun r => r = s_dig n F ct)) ([.ref h] : List Value).toArray s 0 0 (fun _ => False)) (F0 m 47 ls []) := by
                intro k3
                induction k3 with
                | zero =>
                  intro i3 e3 e_i3 he3 ls hl
                  refine lv_iload hx hb dX1_digest_47 (lv_at hl 0 rfl) ?_
                  refine lv_bipush (v := 9) hx hb dX1_digest_49 (by decide) ?_
                  refine rv_icmp_ge (tgt := 75) hx hb (a := i3) (b := 9) (by omega) (by omega) dX1_digest_51 (by decide) (fun c_51 => ?_) (fun c_51 => ?_)
                  · refine lv_iinc (v := nI (i2 + 1)) (lv' := [(3, .int (nI (i2 + 1))), (4, .int (nI i3)), (1, .long e3), (0, .ref h)]) hx hb dX1_digest_75 hl (k := 1) rfl (nI_add i2 1) (by decide) rfl (fun ls hl => ?_)
                    refine lv_goto (tgt := 33) hx hb dX1_digest_78 (by decide) ?_
                    exact ih_33 (i2 + 1) e3 (by omega) (by rw [he3, show i3 = 9 by omega, he2]; rfl) ls (lv_sub hl [0, 2, 3] rfl)
                  · exact absurd c_51 (by omega)
                | succ k3 ih_47 =>
                  intro i3 e3 e_i3 he3 ls hl
                  refine lv_iload hx hb dX1_digest_47 (lv_at hl 0 rfl) ?_
                  refine lv_bipush (v := 9) hx hb dX1_digest_49 (by decide) ?_
                  refine rv_icmp_ge (tgt := 75) hx hb (a := i3) (b := 9) (by omega) (by omega) dX1_digest_51 (by decide) (fun c_51 => ?_) (fun c_51 => ?_)
                  · exact absurd c_51 (by omega)
                  · refine lv_lload_n hx hb dX1_digest_54 rfl (lv_at hl 2 rfl) ?_
                    refine lv_ldc2 hx hb hown (hts (.constantLong RX1 176 31) (by decide +kernel)) dX1_digest_55 ?_
                    refine lv_lmul hx hb dX1_digest_58 ?_
                    refine lv_aload_n hx hb dX1_digest_59 rfl (lv_at hl 3 rfl) ?_
                    refine lv_iload_n hx hb dX1_digest_60 rfl (lv_at hl 1 rfl) ?_
                    refine lv_iload hx hb dX1_digest_61 (lv_at hl 0 rfl) ?_
                    refine vp_callSi (W.runV (As := [.int (nI i2), .int (nI i3)]) (rest := [.long (e3 * 31)]) ⟨hx, hb, hml, hown, hts⟩ (c_X1_toldK l dC dI cI h r1 d1 r2 d2 rc n F n2 G ct ch i2 (show i2 < n by omega) i3 (show i3 < 9 by omega) hn) (cwV 2 hts gX1_digest_X1_told rfl rfl rfl (by decide +kernel) ⟨Nat.le_of_ble_eq_true rfl, Nat.le_of_ble_eq_true rfl⟩) ⟨PR.blind, va_recv hK hP (ci := 1) (q0 := 0) rfl rfl, fun U hU hW => ⟨rfl, PR.go hP hK hE hS hU hW⟩⟩ rfl rfl hl.1 rfl (lv_room (Nat.le_of_ble_eq_true rfl)) dX1_digest_63 ⟨Nat.le_of_ble_eq_true rfl, Nat.le_of_ble_eq_true rfl⟩) (fun r hr0 => ?_)
                    subst hr0
                    refine lv_i2l hx hb dX1_digest_66 rfl ?_
                    refine lv_ladd hx hb dX1_digest_67 ?_
                    refine lv_lstore_n (lv' := [(1, .long ((e3 * 31) + ((s_told n F i2 (nI i3)).toInt64))), (4, .int (nI i3)), (3, .int (nI i2)), (0, .ref h)]) hx hb dX1_digest_68 rfl hl (by decide) rfl (fun ls hl => ?_)
                    refine lv_iinc (v := nI (i3 + 1)) (lv' := [(4, .int (nI (i3 + 1))), (1, .long ((e3 * 31) + ((s_told n F i2 (nI i3)).toInt64))), (3, .int (nI i2)), (0, .ref h)]) hx hb dX1_digest_69 hl (k := 1) rfl (nI_add i3 1) (by decide) rfl (fun ls hl => ?_)
                    refine lv_goto (tgt := 47) hx hb dX1_digest_72 (by decide) ?_
                    exact ih_47 (i3 + 1) ((e3 * 31) + ((s_told n F i2 (nI i3)).toInt64)) (by omega) (by rw [he3]; rfl) ls (lv_sub hl [0, 2, 1, 3] rfl)
              exact L_47 9 0 e2 (by omega) rfl ls (lv_sub hl [0, 1, 2, 3] rfl)
        exact L_33 n 0 e1 (by omega) rfl ls (lv_sub hl [0, 1, 2] rfl)
      · exact absurd c_9 (by omega)
    | succ k1 ih_6 =>
      intro i1 e1 e_i1 he1 ls hl
      refine lv_iload_n hx hb dX1_digest_6 rfl (lv_at hl 0 rfl) ?_
      refine lv_bipush (v := 9) hx hb dX1_digest_7 (by decide) ?_
      refine rv_icmp_ge (tgt := 31) hx hb (a := i1) (b := 9) (by omega) (by omega) dX1_digest_9 (by decide) (fun c_9 => ?_) (fun c_9 => ?_)
      · exact absurd c_9 (by omega)
      · refine lv_lload_n hx hb dX1_digest_12 rfl (lv_at hl 1 rfl) ?_
        refine lv_ldc2 hx hb hown (hts (.constantLong RX1 176 31) (by decide +kernel)) dX1_digest_13 ?_
        refine lv_lmul hx hb dX1_digest_16 ?_
        refine lv_aload_n hx hb dX1_digest_17 rfl (lv_at hl 2 rfl) ?_
        refine lv_iload_n hx hb dX1_digest_18 rfl (lv_at hl 0 rfl) ?_
        refine vp_callSi (W.runV (As := [.int (nI i1)]) (rest := [.long (e1 * 31)]) ⟨hx, hb, hml, hown, hts⟩ (c_X1_countK l dC dI cI h r1 d1 r2 d2 rc n F n2 G ct ch i1 (show i1 < 9 by omega) hn) (cwV 1 hts gX1_digest_X1_count rfl rfl rfl (by decide +kernel) ⟨Nat.le_of_ble_eq_true rfl, Nat.le_of_ble_eq_true rfl⟩) ⟨PR.blind, va_recv hK hP (ci := 1) (q0 := 0) rfl rfl, fun U hU hW => ⟨rfl, PR.go hP hK hE hS hU hW⟩⟩ rfl rfl hl.1 rfl (lv_room (Nat.le_of_ble_eq_true rfl)) dX1_digest_19 ⟨Nat.le_of_ble_eq_true rfl, Nat.le_of_ble_eq_true rfl⟩) (fun r hr0 => ?_)
        subst hr0
        refine lv_i2l hx hb dX1_digest_22 rfl ?_
        refine lv_ladd hx hb dX1_digest_23 ?_
        refine lv_lstore_n (lv' := [(1, .long ((e1 * 31) + ((s_cnt n F ct (nI i1)).toInt64))), (3, .int (nI i1)), (0, .ref h)]) hx hb dX1_digest_24 rfl hl (by decide) rfl (fun ls hl => ?_)
        refine lv_iinc (v := nI (i1 + 1)) (lv' := [(3, .int (nI (i1 + 1))), (1, .long ((e1 * 31) + ((s_cnt n F ct (nI i1)).toInt64))), (0, .ref h)]) hx hb dX1_digest_25 hl (k := 1) rfl (nI_add i1 1) (by decide) rfl (fun ls hl => ?_)
        refine lv_goto (tgt := 6) hx hb dX1_digest_28 (by decide) ?_
        exact ih_6 (i1 + 1) ((e1 * 31) + ((s_cnt n F ct (nI i1)).toInt64)) (by omega) (by rw [he1]; rfl) ls (lv_sub hl [0, 1, 2] rfl)
  exact L_6 9 0 1637 (by omega) rfl ls (lv_sub hl [0, 1, 2] rfl)
