/-! The Sim: next, order, end -/
theorem ng1 {x : Int32} (h : ¬ x < 0) : ¬ x = -1 := fun q => h (by rw [q]; decide)
theorem NX_lt {n : Nat} (hn : n ≤ 12) {F : Nat → Nat → Int32} {P : Nat → Nat → Prop} {x1 x2 x3 : Int32} (h : NX n F P (x1, x2, x3)) (c : x1 < 0) : x1 = -1 := by
  rcases h with ⟨h1, -⟩ | ⟨a, b, h1, h2, h3, h4, h5, h6⟩
  · exact h1
  · have e : x1 = nI a * 12 + nI b := congrArg Prod.fst h5
    exfalso
    rw [e, show (12 : Int32) = nI 12 from rfl, pk_mul, nI_add] at c
    exact absurd c (nI_pos (by omega))
theorem i32_a0 (x : Int32) : x + 0 = x := Int32.add_zero x
theorem bfF {b : Bool} (h : ¬ b = true) : b = false := by cases b with | false => rfl | true => exact absurd rfl h
theorem many_mono {F : Nat → Nat → Int32} {g : Int32} {m n : Nat} (h : m ≤ n) : s_manyU F g m ≤ s_manyU F g n := by
  rw [many_ct, many_ct]; exact fb_ct_mono _ h
theorem many_in {F : Nat → Nat → Int32} {g : Int32} {j n : Nat} (hg : F 0 j = g) (h : j < n) : s_manyU F g j < s_manyU F g n := by
  have h1 : s_manyU F g (j + 1) = s_manyU F g j + 1 := if_pos hg
  have h2 := many_mono (F := F) (g := g) (show j + 1 ≤ n from h)
  omega
theorem pu_swap (F : Nat → Nat → Int32) {k a b : Nat} (h : a ≠ b) (x y : Int32) : pu (pu F k b y) k a x = pu (pu F k a x) k b y := by
  funext i j
  simp only [pu_app]
  by_cases h1 : i = k ∧ j = a
  · rw [if_pos h1, if_neg (fun q => h (h1.2.symm.trans q.2)), if_pos h1]
  · rw [if_neg h1, if_neg h1]
theorem p_ne (p : Int32) : ¬ p = p + 1 := by
  intro h
  have h2 : p + 0 = p + 1 := by rw [Int32.add_zero]; exact h
  exact absurd ((Int32.add_right_inj p).mp h2) (by decide)
set_option maxHeartbeats 4000000 in
set_option maxRecDepth 100000 in
theorem c_X2_next (l : Launch) (dC : Nat → ClassId) (dI : Nat → Nat → Nat) (cI : ClassId) (h al : Nat) (rw : Nat → Nat) (cA : ClassId) (n : Nat) (F : Nat → Nat → Int32) (ct : Nat → Int32) (sz : Nat) (hn : n ≤ 12) (hR : okR n F) : Met l yX2_next wsX2_next ({ frames := 3, cells := 288, slots := 2592, locals := 75 } : Room) (va_Pc [.ref h] (fun U => PT dC dI cI cA (wT h al rw cA cI n F ct) sz U)) (va_Qi (fun r (_ : Unit) => r = s_next n F) (fun _ _ => True) (fun q : Nat => sz ≤ q)) 288 2592 (fun q : Nat => sz ≤ q) := by
  refine Met.ofW (cc := cX2_next) (maxL := 7) (ret := (some .int)) (by decide) rfl ?_
  intro p e s m args below meth c s₁ B hml hv
  obtain ⟨rfl, hsz, hP0, hK, hE⟩ := hv
  have hx := B.exec
  have hb := B.bytes
  have hr := B.returns
  have hts := atoms_spec (ws := wsX2_next) B.pre
  have hown : s.vm.findClass RX2 = some m.cls := findClass_of_methodNamed B.named
  have hlocks := B.notSynchronized
  subst hsz
  have hAn : ∀ q : Nat, q < s.heap.size → ¬ (fun q : Nat => s.heap.size ≤ q) q := fun q h9 => Nat.not_le.mpr h9
  have hA : ∀ q : Nat, s.heap.size ≤ q → (fun q : Nat => s.heap.size ≤ q) q := fun q h9 => h9
  have hAi : ∀ q : Nat, (fun q : Nat => s.heap.size ≤ q) q → s.heap.size ≤ q := fun q h9 => h9
  generalize (fun q : Nat => s.heap.size ≤ q) = A at hA hAi hAn hE ⊢
  have hP := hP0
  have hS : va_S A s.heap s.heap [] := va_S.rf
  have hinX2 : ∀ w ∈ wsX20, w ∈ wsX2_next := by decide +kernel
  have hl := lv_entry ([.ref h]) (n := 7) (Nat.le_of_ble_eq_true rfl)
  rw [lg_entry_eq]
  generalize (lg_sl ([.ref h]) ++ List.replicate (7 - (lg_sl ([.ref h])).length) Slot.unset).toArray = ls at hl ⊢
  have hl : lv_has ls 7 [(0, .ref h)] := hl
  obtain ⟨H, hHe⟩ : ∃ H, H = s.heap := ⟨_, rfl⟩
  have hP : va_P (dC, dI) vwCl (wT h al rw cA cI n F ct) H := by rw [hHe]; exact hP
  have hS : va_S A s.heap H [] := by rw [hHe]; exact hS
  suffices h0 : W p l e (headSpec wsX2_next ({ frames := 3, cells := 288, slots := 2592, locals := 75 } : Room)).room s m ([.ref h] : List Value).toArray below meth c H [] 0 0 (MQ below (va_Qi (fun r (_ : Unit) => r = s_next n F) (fun _ _ => True) A) ([.ref h] : List Value).toArray s 288 2592 A) (F0 m 0 ls []) from by have h9 := h0; rw [hHe] at h9; exact h9
  refine lv_iconst (v := (-1)) hx hb dX2_next_0 (by decide) ?_
  refine lv_istore_n (lv' := [(1, .int (-1)), (0, .ref h)]) hx hb dX2_next_1 rfl hl (by decide) rfl (fun ls hl => ?_)
  refine lv_iconst (v := 0) hx hb dX2_next_2 (by decide) ?_
  refine lv_istore_n (lv' := [(2, .int 0), (1, .int (-1)), (0, .ref h)]) hx hb dX2_next_3 rfl hl (by decide) rfl (fun ls hl => ?_)
  refine lv_iconst (v := 0) hx hb dX2_next_4 (by decide) ?_
  refine lv_istore_n (lv' := [(3, .int 0), (2, .int 0), (1, .int (-1)), (0, .ref h)]) hx hb dX2_next_5 rfl hl (by decide) rfl (fun ls hl => ?_)
  refine lv_aload_n hx hb dX2_next_6 rfl (lv_at hl 3 rfl) ?_
  refine va_get (D := (dC, dI)) (ci := 2) (v := .ref al) (C := RX2) (T := TX2) (N := 4) hx hb hts hinX2 hown hK hP 0 rfl rfl 3 (by decide) (hts (.fieldLink RX2 9 "WrestleBookLaw$Sim" "all" "[[I") (by decide +kernel)) (fun _ h9 => h9) rfl dX2_next_7 ?_
  refine va_alen hx hb hK hP 1 1 rfl rfl (v := nI n) rfl dX2_next_10 ?_
  refine lv_iconst (v := 1) hx hb dX2_next_11 (by decide) ?_
  refine lv_isub hx hb dX2_next_12 ?_
  refine lv_istore (lv' := [(4, .int ((nI n) - 1)), (3, .int 0), (2, .int 0), (1, .int (-1)), (0, .ref h)]) hx hb dX2_next_13 hl (by decide) rfl (fun ls hl => ?_)
  have L_15 : ∀ (ka : Nat) (x1 : Int32) (x2 : Int32) (x3 : Int32), ka ≤ n → NX n F (fun c d => ka ≤ c) (x1, x2, x3) → ∀ (H : Heap) (locs : List Loc), va_S A s.heap H locs → ∀ (ls : Array Slot), lv_has ls 7 [(4, .int (nI ka - 1)), (3, .int x3), (2, .int x2), (1, .int x1), (0, .ref h)] → W p l e (headSpec wsX2_next ({ frames := 3, cells := 288, slots := 2592, locals := 75 } : Room)).room s m ([.ref h] : List Value).toArray below meth c H locs (0 + 24 * (n - ka)) (0 + 216 * (n - ka)) (MQ below (va_Qi (fun r (_ : Unit) => r = s_next n F) (fun _ _ => True) A) ([.ref h] : List Value).toArray s 288 2592 A) (F0 m 15 ls []) := by
    intro ka
    induction ka with
    | zero =>
      intro x1 x2 x3 e_ka hx9 H locs hS ls hl
      have hP := keepS hP0 hAn hS
      have hl : lv_has ls 7 [(4, .int (-1)), (3, .int x3), (2, .int x2), (1, .int x1), (0, .ref h)] := by have h9 := hl; rw [dn_0] at h9; exact h9
      refine lv_iload hx hb dX2_next_15 (lv_at hl 0 rfl) ?_
      refine lv_if_lt (tgt := 145) hx hb dX2_next_17 (by decide) (fun c_17 => ?_) (fun c_17 => ?_)
      · refine lv_iload_n hx hb dX2_next_145 rfl (lv_at hl 3 rfl) ?_
        refine W.widen (k := 288) (n := 2592) (by omega) (by omega) ?_
        exact W.iret (v := x1) hx hb hr (fun t ht hW => ⟨⟨_, (), rfl, (show x1 = s_next n F from by exact NX_next hn hx9 (fun a b _ _ => by omega)), trivial⟩, hS.F ht⟩) hS.2.2 dX2_next_146
      · exact absurd (by decide) c_17
    | succ ka ih_15 =>
      intro x1 x2 x3 e_ka hx9 H locs hS ls hl
      have hP := keepS hP0 hAn hS
      have hl : lv_has ls 7 [(4, .int (nI ka)), (3, .int x3), (2, .int x2), (1, .int x1), (0, .ref h)] := by have h9 := hl; rw [nI_pred] at h9; exact h9
      refine lv_iload hx hb dX2_next_15 (lv_at hl 0 rfl) ?_
      refine lv_if_lt (tgt := 145) hx hb dX2_next_17 (by decide) (fun c_17 => ?_) (fun c_17 => ?_)
      · exact absurd c_17 (nI_pos (by omega))
      · refine lv_aload_n hx hb dX2_next_20 rfl (lv_at hl 4 rfl) ?_
        refine va_get (D := (dC, dI)) (ci := 2) (v := .ref al) (C := RX2) (T := TX2) (N := 4) hx hb hts hinX2 hown hK hP 0 rfl rfl 3 (by decide) (hts (.fieldLink RX2 9 "WrestleBookLaw$Sim" "all" "[[I") (by decide +kernel)) (fun _ h9 => h9) rfl dX2_next_21 ?_
        refine va_alen hx hb hK hP 1 1 rfl rfl (v := nI n) rfl dX2_next_24 ?_
        refine lv_iconst (v := 1) hx hb dX2_next_25 (by decide) ?_
        refine lv_isub hx hb dX2_next_26 ?_
        refine lv_istore (lv' := [(5, .int ((nI n) - 1)), (4, .int (nI ka)), (3, .int x3), (2, .int x2), (1, .int x1), (0, .ref h)]) hx hb dX2_next_27 hl (by decide) rfl (fun ls hl => ?_)
        have L_29 : ∀ (kb : Nat) (y1 : Int32) (y2 : Int32) (y3 : Int32), kb ≤ n → ka < kb → NX n F (fun c d => ka + 1 ≤ c ∨ (c = ka ∧ kb ≤ d)) (y1, y2, y3) → ∀ (H : Heap) (locs : List Loc), va_S A s.heap H locs → ∀ (ls : Array Slot), lv_has ls 7 [(5, .int (nI kb - 1)), (4, .int (nI ka)), (3, .int y3), (2, .int y2), (1, .int y1), (0, .ref h)] → W p l e (headSpec wsX2_next ({ frames := 3, cells := 288, slots := 2592, locals := 75 } : Room)).room s m ([.ref h] : List Value).toArray below meth c H locs (0 + 24 * (n - (ka + 1)) + 2 * (n - kb)) (0 + 216 * (n - (ka + 1)) + 18 * (n - kb)) (MQ below (va_Qi (fun r (_ : Unit) => r = s_next n F) (fun _ _ => True) A) ([.ref h] : List Value).toArray s 288 2592 A) (F0 m 29 ls []) := by
          intro kb
          induction kb with
          | zero =>
            intro y1 y2 y3 e_kb hab hy H locs hS ls hl
            exact absurd hab (by omega)
          | succ kb ih_29 =>
            intro y1 y2 y3 e_kb hab hy H locs hS ls hl
            have hP := keepS hP0 hAn hS
            have hl : lv_has ls 7 [(5, .int (nI kb)), (4, .int (nI ka)), (3, .int y3), (2, .int y2), (1, .int y1), (0, .ref h)] := by have h9 := hl; rw [nI_pred] at h9; exact h9
            refine lv_iload hx hb dX2_next_29 (lv_at hl 0 rfl) ?_
            refine lv_iload hx hb dX2_next_31 (lv_at hl 1 rfl) ?_
            refine rv_icmp_le (tgt := 139) hx hb (a := kb) (b := ka) (by omega) (by omega) dX2_next_33 (by decide) (fun c_33 => ?_) (fun c_33 => ?_)
            · refine lv_iinc (v := (nI ka) - 1) (lv' := [(4, .int ((nI ka) - 1)), (5, .int (nI kb)), (3, .int y3), (2, .int y2), (1, .int y1), (0, .ref h)]) hx hb dX2_next_139 hl (k := 1) rfl (i32_m1 _) (by decide) rfl (fun ls hl => ?_)
              refine lv_goto (tgt := 15) hx hb dX2_next_142 (by decide) ?_
              refine W.widen (k := 0 + 24 * (n - ka)) (n := 0 + 216 * (n - ka)) (by omega) (by omega) ?_
              exact ih_15 y1 y2 y3 (by omega) (hy.congr (fun c d z1 z2 => by omega)) _ _ hS ls (lv_sub hl [0, 2, 3, 4, 5] rfl)
            · refine lv_aload_n hx hb dX2_next_36 rfl (lv_at hl 5 rfl) ?_
              refine va_get (D := (dC, dI)) (ci := 2) (v := .ref al) (C := RX2) (T := TX2) (N := 4) hx hb hts hinX2 hown hK hP 0 rfl rfl 3 (by decide) (hts (.fieldLink RX2 9 "WrestleBookLaw$Sim" "all" "[[I") (by decide +kernel)) (fun _ h9 => h9) rfl dX2_next_37 ?_
              refine lv_iload hx hb dX2_next_40 (lv_at hl 1 rfl) ?_
              refine rv_aald (k := ka) hx hb hK hP 1 1 rfl rfl (show ka < n by omega) (by omega) dX2_next_42 ?_
              refine lv_iconst (v := 1) hx hb dX2_next_43 (by decide) ?_
              refine rv_iald (k := 1) hx hb hK hP (2 + ka) 0 (rl_get rfl (show ka < n by omega)) rfl (by decide) (by decide) dX2_next_44 ?_
              refine rv_top (y := F 0 ka) rfl ?_
              refine lv_aload_n hx hb dX2_next_45 rfl (lv_at hl 5 rfl) ?_
              refine va_get (D := (dC, dI)) (ci := 2) (v := .ref al) (C := RX2) (T := TX2) (N := 4) hx hb hts hinX2 hown hK hP 0 rfl rfl 3 (by decide) (hts (.fieldLink RX2 9 "WrestleBookLaw$Sim" "all" "[[I") (by decide +kernel)) (fun _ h9 => h9) rfl dX2_next_46 ?_
              refine lv_iload hx hb dX2_next_49 (lv_at hl 0 rfl) ?_
              refine rv_aald (k := kb) hx hb hK hP 1 1 rfl rfl (show kb < n by omega) (by omega) dX2_next_51 ?_
              refine lv_iconst (v := 1) hx hb dX2_next_52 (by decide) ?_
              refine rv_iald (k := 1) hx hb hK hP (2 + kb) 0 (rl_get rfl (show kb < n by omega)) rfl (by decide) (by decide) dX2_next_53 ?_
              refine rv_top (y := F 0 kb) rfl ?_
              refine lv_icmp_eq (tgt := 60) hx hb dX2_next_54 (by decide) (fun c_54 => ?_) (fun c_54 => ?_)
              · refine lv_aload_n hx hb dX2_next_60 rfl (lv_at hl 5 rfl) ?_
                refine va_get (D := (dC, dI)) (ci := 2) (v := .ref al) (C := RX2) (T := TX2) (N := 4) hx hb hts hinX2 hown hK hP 0 rfl rfl 3 (by decide) (hts (.fieldLink RX2 9 "WrestleBookLaw$Sim" "all" "[[I") (by decide +kernel)) (fun _ h9 => h9) rfl dX2_next_61 ?_
                refine lv_iload hx hb dX2_next_64 (lv_at hl 1 rfl) ?_
                refine rv_aald (k := ka) hx hb hK hP 1 1 rfl rfl (show ka < n by omega) (by omega) dX2_next_66 ?_
                refine lv_iconst (v := 4) hx hb dX2_next_67 (by decide) ?_
                refine rv_iald (k := 4) hx hb hK hP (2 + ka) 0 (rl_get rfl (show ka < n by omega)) rfl (by decide) (by decide) dX2_next_68 ?_
                refine rv_top (y := F 4 ka) rfl ?_
                refine lv_aload_n hx hb dX2_next_69 rfl (lv_at hl 5 rfl) ?_
                refine va_get (D := (dC, dI)) (ci := 2) (v := .ref al) (C := RX2) (T := TX2) (N := 4) hx hb hts hinX2 hown hK hP 0 rfl rfl 3 (by decide) (hts (.fieldLink RX2 9 "WrestleBookLaw$Sim" "all" "[[I") (by decide +kernel)) (fun _ h9 => h9) rfl dX2_next_70 ?_
                refine lv_iload hx hb dX2_next_73 (lv_at hl 0 rfl) ?_
                refine rv_aald (k := kb) hx hb hK hP 1 1 rfl rfl (show kb < n by omega) (by omega) dX2_next_75 ?_
                refine lv_iconst (v := 4) hx hb dX2_next_76 (by decide) ?_
                refine rv_iald (k := 4) hx hb hK hP (2 + kb) 0 (rl_get rfl (show kb < n by omega)) rfl (by decide) (by decide) dX2_next_77 ?_
                refine rv_top (y := F 4 kb) rfl ?_
                refine lv_iadd hx hb dX2_next_78 ?_
                refine lv_istore (lv' := [(6, .int ((F 4 ka) + (F 4 kb))), (5, .int (nI kb)), (4, .int (nI ka)), (3, .int y3), (2, .int y2), (1, .int y1), (0, .ref h)]) hx hb dX2_next_79 hl (by decide) rfl (fun ls hl => ?_)
                refine lv_iload_n hx hb dX2_next_81 rfl (lv_at hl 5 rfl) ?_
                refine lv_if_lt (tgt := 112) hx hb dX2_next_82 (by decide) (fun c_82 => ?_) (fun c_82 => ?_)
                · refine lv_bipush (v := 12) hx hb dX2_next_112 (by decide) ?_
                  refine lv_iload hx hb dX2_next_114 (lv_at hl 2 rfl) ?_
                  refine lv_imul hx hb dX2_next_116 ?_
                  refine lv_iload hx hb dX2_next_117 (lv_at hl 1 rfl) ?_
                  refine lv_iadd hx hb dX2_next_119 ?_
                  refine rv_top (y := nI ka * 12 + nI kb) (ab12 ka kb) ?_
                  refine lv_istore_n (lv' := [(1, .int (nI ka * 12 + nI kb)), (6, .int ((F 4 ka) + (F 4 kb))), (5, .int (nI kb)), (4, .int (nI ka)), (3, .int y3), (2, .int y2), (0, .ref h)]) hx hb dX2_next_120 rfl hl (by decide) rfl (fun ls hl => ?_)
                  refine lv_iload hx hb dX2_next_121 (lv_at hl 1 rfl) ?_
                  refine lv_istore_n (lv' := [(2, .int ((F 4 ka) + (F 4 kb))), (1, .int (nI ka * 12 + nI kb)), (6, .int ((F 4 ka) + (F 4 kb))), (5, .int (nI kb)), (4, .int (nI ka)), (3, .int y3), (0, .ref h)]) hx hb dX2_next_123 rfl hl (by decide) rfl (fun ls hl => ?_)
                  refine lv_aload_n hx hb dX2_next_124 rfl (lv_at hl 6 rfl) ?_
                  refine lv_iload hx hb dX2_next_125 (lv_at hl 4 rfl) ?_
                  refine lv_iload hx hb dX2_next_127 (lv_at hl 3 rfl) ?_
                  refine va_calli (va_runV (As := [.int (nI ka), .int (nI kb)]) (rest := []) ⟨hx, hb, hml, hown, hts⟩ (c_X2_off l dC dI cI h al rw cA n F ct H.size ka (show ka < n by omega) kb (show kb < n by omega) hn hR) (cwV 2 hts gX2_next_X2_off rfl rfl rfl (by decide +kernel) ⟨Nat.le_of_ble_eq_true rfl, Nat.le_of_ble_eq_true rfl⟩) ⟨PT.blind, va_recv hK hP (ci := 2) (q0 := 0) rfl rfl, fun U hU hW => ⟨rfl, PT.go hP hK hE hS hA hU hW⟩⟩ rfl rfl hl.1 rfl (lv_room (Nat.le_of_ble_eq_true rfl)) dX2_next_129 ⟨(by show _ ≤ 288; omega), (by show _ ≤ 2592; omega)⟩) hS (fun q h8 h9 => absurd h9 (Nat.not_le.mpr h8)) (fun q h9 => hA q (Nat.le_trans hS.1 h9)) (fun r u9 t9 H locs ht9 hvm9 hw9 hB9 hz9 hk9 hS => ?_)
                  have hP := P_new hP hk9
                  have hw9 : r = s_off F ka kb := hw9
                  subst hw9
                  refine lv_istore_n (lv' := [(3, .int (s_off F ka kb)), (2, .int ((F 4 ka) + (F 4 kb))), (1, .int (nI ka * 12 + nI kb)), (6, .int ((F 4 ka) + (F 4 kb))), (5, .int (nI kb)), (4, .int (nI ka)), (0, .ref h)]) hx hb dX2_next_132 rfl hl (by decide) rfl (fun ls hl => ?_)
                  refine lv_iinc (v := (nI kb) - 1) (lv' := [(5, .int ((nI kb) - 1)), (3, .int (s_off F ka kb)), (2, .int ((F 4 ka) + (F 4 kb))), (1, .int (nI ka * 12 + nI kb)), (6, .int ((F 4 ka) + (F 4 kb))), (4, .int (nI ka)), (0, .ref h)]) hx hb dX2_next_133 hl (k := 4) rfl (i32_m1 _) (by decide) rfl (fun ls hl => ?_)
                  refine lv_goto (tgt := 29) hx hb dX2_next_136 (by decide) ?_
                  refine W.widen (k := 0 + 24 * (n - (ka + 1)) + 2 * (n - kb)) (n := 0 + 216 * (n - (ka + 1)) + 18 * (n - kb)) (by omega) (by omega) ?_
                  exact ih_29 (nI ka * 12 + nI kb) ((F 4 ka) + (F 4 kb)) (s_off F ka kb) (by omega) (by omega) ((NX.des hn hy (show ka < kb by omega) (show kb < n by omega) (fun c d z => by have z : ka + 1 ≤ c ∨ (c = ka ∧ kb + 1 ≤ d) := z; omega) c_54 (Or.inl (NX_lt hn hy c_82))).congr (fun c d z1 z2 => by omega)) _ _ hS ls (lv_sub hl [0, 5, 1, 2, 3, 6] rfl)
                · refine lv_iload hx hb dX2_next_85 (lv_at hl 0 rfl) ?_
                  refine lv_iload_n hx hb dX2_next_87 rfl (lv_at hl 4 rfl) ?_
                  refine lv_icmp_gt (tgt := 133) hx hb dX2_next_88 (by decide) (fun c_88 => ?_) (fun c_88 => ?_)
                  · refine lv_iinc (v := (nI kb) - 1) (lv' := [(5, .int ((nI kb) - 1)), (6, .int ((F 4 ka) + (F 4 kb))), (4, .int (nI ka)), (3, .int y3), (2, .int y2), (1, .int y1), (0, .ref h)]) hx hb dX2_next_133 hl (k := 1) rfl (i32_m1 _) (by decide) rfl (fun ls hl => ?_)
                    refine lv_goto (tgt := 29) hx hb dX2_next_136 (by decide) ?_
                    refine W.widen (k := 0 + 24 * (n - (ka + 1)) + 2 * (n - kb)) (n := 0 + 216 * (n - (ka + 1)) + 18 * (n - kb)) (by omega) (by omega) ?_
                    exact ih_29 y1 y2 y3 (by omega) (by omega) ((NX.worse hn hy (ng1 c_82) (Or.inl c_88)).congr (fun c d z1 z2 => by omega)) _ _ hS ls (lv_sub hl [0, 2, 3, 4, 5, 6] rfl)
                  · refine lv_iload hx hb dX2_next_91 (lv_at hl 0 rfl) ?_
                    refine lv_iload_n hx hb dX2_next_93 rfl (lv_at hl 4 rfl) ?_
                    refine lv_icmp_ne (tgt := 112) hx hb dX2_next_94 (by decide) (fun c_94 => ?_) (fun c_94 => ?_)
                    · refine lv_bipush (v := 12) hx hb dX2_next_112 (by decide) ?_
                      refine lv_iload hx hb dX2_next_114 (lv_at hl 2 rfl) ?_
                      refine lv_imul hx hb dX2_next_116 ?_
                      refine lv_iload hx hb dX2_next_117 (lv_at hl 1 rfl) ?_
                      refine lv_iadd hx hb dX2_next_119 ?_
                      refine rv_top (y := nI ka * 12 + nI kb) (ab12 ka kb) ?_
                      refine lv_istore_n (lv' := [(1, .int (nI ka * 12 + nI kb)), (6, .int ((F 4 ka) + (F 4 kb))), (5, .int (nI kb)), (4, .int (nI ka)), (3, .int y3), (2, .int y2), (0, .ref h)]) hx hb dX2_next_120 rfl hl (by decide) rfl (fun ls hl => ?_)
                      refine lv_iload hx hb dX2_next_121 (lv_at hl 1 rfl) ?_
                      refine lv_istore_n (lv' := [(2, .int ((F 4 ka) + (F 4 kb))), (1, .int (nI ka * 12 + nI kb)), (6, .int ((F 4 ka) + (F 4 kb))), (5, .int (nI kb)), (4, .int (nI ka)), (3, .int y3), (0, .ref h)]) hx hb dX2_next_123 rfl hl (by decide) rfl (fun ls hl => ?_)
                      refine lv_aload_n hx hb dX2_next_124 rfl (lv_at hl 6 rfl) ?_
                      refine lv_iload hx hb dX2_next_125 (lv_at hl 4 rfl) ?_
                      refine lv_iload hx hb dX2_next_127 (lv_at hl 3 rfl) ?_
                      refine va_calli (va_runV (As := [.int (nI ka), .int (nI kb)]) (rest := []) ⟨hx, hb, hml, hown, hts⟩ (c_X2_off l dC dI cI h al rw cA n F ct H.size ka (show ka < n by omega) kb (show kb < n by omega) hn hR) (cwV 2 hts gX2_next_X2_off rfl rfl rfl (by decide +kernel) ⟨Nat.le_of_ble_eq_true rfl, Nat.le_of_ble_eq_true rfl⟩) ⟨PT.blind, va_recv hK hP (ci := 2) (q0 := 0) rfl rfl, fun U hU hW => ⟨rfl, PT.go hP hK hE hS hA hU hW⟩⟩ rfl rfl hl.1 rfl (lv_room (Nat.le_of_ble_eq_true rfl)) dX2_next_129 ⟨(by show _ ≤ 288; omega), (by show _ ≤ 2592; omega)⟩) hS (fun q h8 h9 => absurd h9 (Nat.not_le.mpr h8)) (fun q h9 => hA q (Nat.le_trans hS.1 h9)) (fun r u9 t9 H locs ht9 hvm9 hw9 hB9 hz9 hk9 hS => ?_)
                      have hP := P_new hP hk9
                      have hw9 : r = s_off F ka kb := hw9
                      subst hw9
                      refine lv_istore_n (lv' := [(3, .int (s_off F ka kb)), (2, .int ((F 4 ka) + (F 4 kb))), (1, .int (nI ka * 12 + nI kb)), (6, .int ((F 4 ka) + (F 4 kb))), (5, .int (nI kb)), (4, .int (nI ka)), (0, .ref h)]) hx hb dX2_next_132 rfl hl (by decide) rfl (fun ls hl => ?_)
                      refine lv_iinc (v := (nI kb) - 1) (lv' := [(5, .int ((nI kb) - 1)), (3, .int (s_off F ka kb)), (2, .int ((F 4 ka) + (F 4 kb))), (1, .int (nI ka * 12 + nI kb)), (6, .int ((F 4 ka) + (F 4 kb))), (4, .int (nI ka)), (0, .ref h)]) hx hb dX2_next_133 hl (k := 4) rfl (i32_m1 _) (by decide) rfl (fun ls hl => ?_)
                      refine lv_goto (tgt := 29) hx hb dX2_next_136 (by decide) ?_
                      refine W.widen (k := 0 + 24 * (n - (ka + 1)) + 2 * (n - kb)) (n := 0 + 216 * (n - (ka + 1)) + 18 * (n - kb)) (by omega) (by omega) ?_
                      exact ih_29 (nI ka * 12 + nI kb) ((F 4 ka) + (F 4 kb)) (s_off F ka kb) (by omega) (by omega) ((NX.des hn hy (show ka < kb by omega) (show kb < n by omega) (fun c d z => by have z : ka + 1 ≤ c ∨ (c = ka ∧ kb + 1 ≤ d) := z; omega) c_54 (Or.inr ⟨c_88, fun z => absurd z c_94⟩)).congr (fun c d z1 z2 => by omega)) _ _ hS ls (lv_sub hl [0, 5, 1, 2, 3, 6] rfl)
                    · refine lv_aload_n hx hb dX2_next_97 rfl (lv_at hl 6 rfl) ?_
                      refine lv_iload hx hb dX2_next_98 (lv_at hl 2 rfl) ?_
                      refine lv_iload hx hb dX2_next_100 (lv_at hl 1 rfl) ?_
                      refine va_calli (va_runV (As := [.int (nI ka), .int (nI kb)]) (rest := []) ⟨hx, hb, hml, hown, hts⟩ (c_X2_off l dC dI cI h al rw cA n F ct H.size ka (show ka < n by omega) kb (show kb < n by omega) hn hR) (cwV 2 hts gX2_next_X2_off rfl rfl rfl (by decide +kernel) ⟨Nat.le_of_ble_eq_true rfl, Nat.le_of_ble_eq_true rfl⟩) ⟨PT.blind, va_recv hK hP (ci := 2) (q0 := 0) rfl rfl, fun U hU hW => ⟨rfl, PT.go hP hK hE hS hA hU hW⟩⟩ rfl rfl hl.1 rfl (lv_room (Nat.le_of_ble_eq_true rfl)) dX2_next_102 ⟨(by show _ ≤ 288; omega), (by show _ ≤ 2592; omega)⟩) hS (fun q h8 h9 => absurd h9 (Nat.not_le.mpr h8)) (fun q h9 => hA q (Nat.le_trans hS.1 h9)) (fun r u9 t9 H locs ht9 hvm9 hw9 hB9 hz9 hk9 hS => ?_)
                      have hP := P_new hP hk9
                      have hw9 : r = s_off F ka kb := hw9
                      subst hw9
                      refine lv_iload_n hx hb dX2_next_105 rfl (lv_at hl 3 rfl) ?_
                      refine lv_icmp_le (tgt := 112) hx hb dX2_next_106 (by decide) (fun c_106 => ?_) (fun c_106 => ?_)
                      · refine lv_bipush (v := 12) hx hb dX2_next_112 (by decide) ?_
                        refine lv_iload hx hb dX2_next_114 (lv_at hl 2 rfl) ?_
                        refine lv_imul hx hb dX2_next_116 ?_
                        refine lv_iload hx hb dX2_next_117 (lv_at hl 1 rfl) ?_
                        refine lv_iadd hx hb dX2_next_119 ?_
                        refine rv_top (y := nI ka * 12 + nI kb) (ab12 ka kb) ?_
                        refine lv_istore_n (lv' := [(1, .int (nI ka * 12 + nI kb)), (6, .int ((F 4 ka) + (F 4 kb))), (5, .int (nI kb)), (4, .int (nI ka)), (3, .int y3), (2, .int y2), (0, .ref h)]) hx hb dX2_next_120 rfl hl (by decide) rfl (fun ls hl => ?_)
                        refine lv_iload hx hb dX2_next_121 (lv_at hl 1 rfl) ?_
                        refine lv_istore_n (lv' := [(2, .int ((F 4 ka) + (F 4 kb))), (1, .int (nI ka * 12 + nI kb)), (6, .int ((F 4 ka) + (F 4 kb))), (5, .int (nI kb)), (4, .int (nI ka)), (3, .int y3), (0, .ref h)]) hx hb dX2_next_123 rfl hl (by decide) rfl (fun ls hl => ?_)
                        refine lv_aload_n hx hb dX2_next_124 rfl (lv_at hl 6 rfl) ?_
                        refine lv_iload hx hb dX2_next_125 (lv_at hl 4 rfl) ?_
                        refine lv_iload hx hb dX2_next_127 (lv_at hl 3 rfl) ?_
                        refine va_calli (va_runV (As := [.int (nI ka), .int (nI kb)]) (rest := []) ⟨hx, hb, hml, hown, hts⟩ (c_X2_off l dC dI cI h al rw cA n F ct H.size ka (show ka < n by omega) kb (show kb < n by omega) hn hR) (cwV 2 hts gX2_next_X2_off rfl rfl rfl (by decide +kernel) ⟨Nat.le_of_ble_eq_true rfl, Nat.le_of_ble_eq_true rfl⟩) ⟨PT.blind, va_recv hK hP (ci := 2) (q0 := 0) rfl rfl, fun U hU hW => ⟨rfl, PT.go hP hK hE hS hA hU hW⟩⟩ rfl rfl hl.1 rfl (lv_room (Nat.le_of_ble_eq_true rfl)) dX2_next_129 ⟨(by show _ ≤ 288; omega), (by show _ ≤ 2592; omega)⟩) hS (fun q h8 h9 => absurd h9 (Nat.not_le.mpr h8)) (fun q h9 => hA q (Nat.le_trans hS.1 h9)) (fun r u9 t9 H locs ht9 hvm9 hw9 hB9 hz9 hk9 hS => ?_)
                        have hP := P_new hP hk9
                        have hw9 : r = s_off F ka kb := hw9
                        subst hw9
                        refine lv_istore_n (lv' := [(3, .int (s_off F ka kb)), (2, .int ((F 4 ka) + (F 4 kb))), (1, .int (nI ka * 12 + nI kb)), (6, .int ((F 4 ka) + (F 4 kb))), (5, .int (nI kb)), (4, .int (nI ka)), (0, .ref h)]) hx hb dX2_next_132 rfl hl (by decide) rfl (fun ls hl => ?_)
                        refine lv_iinc (v := (nI kb) - 1) (lv' := [(5, .int ((nI kb) - 1)), (3, .int (s_off F ka kb)), (2, .int ((F 4 ka) + (F 4 kb))), (1, .int (nI ka * 12 + nI kb)), (6, .int ((F 4 ka) + (F 4 kb))), (4, .int (nI ka)), (0, .ref h)]) hx hb dX2_next_133 hl (k := 4) rfl (i32_m1 _) (by decide) rfl (fun ls hl => ?_)
                        refine lv_goto (tgt := 29) hx hb dX2_next_136 (by decide) ?_
                        refine W.widen (k := 0 + 24 * (n - (ka + 1)) + 2 * (n - kb)) (n := 0 + 216 * (n - (ka + 1)) + 18 * (n - kb)) (by omega) (by omega) ?_
                        exact ih_29 (nI ka * 12 + nI kb) ((F 4 ka) + (F 4 kb)) (s_off F ka kb) (by omega) (by omega) ((NX.des hn hy (show ka < kb by omega) (show kb < n by omega) (fun c d z => by have z : ka + 1 ≤ c ∨ (c = ka ∧ kb + 1 ≤ d) := z; omega) c_54 (Or.inr ⟨c_88, fun _ => Int32.not_lt.mpr c_106⟩)).congr (fun c d z1 z2 => by omega)) _ _ hS ls (lv_sub hl [0, 5, 1, 2, 3, 6] rfl)
                      · refine lv_goto (tgt := 133) hx hb dX2_next_109 (by decide) ?_
                        refine lv_iinc (v := (nI kb) - 1) (lv' := [(5, .int ((nI kb) - 1)), (6, .int ((F 4 ka) + (F 4 kb))), (4, .int (nI ka)), (3, .int y3), (2, .int y2), (1, .int y1), (0, .ref h)]) hx hb dX2_next_133 hl (k := 1) rfl (i32_m1 _) (by decide) rfl (fun ls hl => ?_)
                        refine lv_goto (tgt := 29) hx hb dX2_next_136 (by decide) ?_
                        refine W.widen (k := 0 + 24 * (n - (ka + 1)) + 2 * (n - kb)) (n := 0 + 216 * (n - (ka + 1)) + 18 * (n - kb)) (by omega) (by omega) ?_
                        exact ih_29 y1 y2 y3 (by omega) (by omega) ((NX.worse hn hy (ng1 c_82) (Or.inr ⟨c_94, Int32.not_le.mp c_106⟩)).congr (fun c d z1 z2 => by omega)) _ _ hS ls (lv_sub hl [0, 2, 3, 4, 5, 6] rfl)
              · refine lv_goto (tgt := 133) hx hb dX2_next_57 (by decide) ?_
                refine lv_iinc (v := (nI kb) - 1) (lv' := [(5, .int ((nI kb) - 1)), (4, .int (nI ka)), (3, .int y3), (2, .int y2), (1, .int y1), (0, .ref h)]) hx hb dX2_next_133 hl (k := 0) rfl (i32_m1 _) (by decide) rfl (fun ls hl => ?_)
                refine lv_goto (tgt := 29) hx hb dX2_next_136 (by decide) ?_
                refine W.widen (k := 0 + 24 * (n - (ka + 1)) + 2 * (n - kb)) (n := 0 + 216 * (n - (ka + 1)) + 18 * (n - kb)) (by omega) (by omega) ?_
                exact ih_29 y1 y2 y3 (by omega) (by omega) ((NX.no hy c_54).congr (fun c d z1 z2 => by omega)) _ _ hS ls (lv_sub hl [0, 1, 2, 3, 4, 5] rfl)
        refine W.widen (k := 0 + 24 * (n - (ka + 1)) + 2 * (n - n)) (n := 0 + 216 * (n - (ka + 1)) + 18 * (n - n)) (by omega) (by omega) ?_
        exact L_29 n x1 x2 x3 (by omega) (by omega) (hx9.congr (fun c d z1 z2 => by omega)) _ _ hS ls (lv_sub hl [0, 1, 2, 3, 4, 5] rfl)
  refine W.widen (k := 0 + 24 * (n - n)) (n := 0 + 216 * (n - n)) (by omega) (by omega) ?_
  exact L_15 n (-1) 0 0 (by omega) (Or.inl ⟨rfl, fun a b h1 h2 h3 => absurd h3 (by omega)⟩) _ _ hS ls (lv_sub hl [0, 1, 2, 3, 4] rfl)

set_option maxHeartbeats 4000000 in
set_option maxRecDepth 100000 in
theorem c_X2_order (l : Launch) (dC : Nat → ClassId) (dI : Nat → Nat → Nat) (cI : ClassId) (h al : Nat) (rw : Nat → Nat) (cA : ClassId) (n : Nat) (F : Nat → Nat → Int32) (ct : Nat → Int32) (sz : Nat) (vg : Int32) (hn : n ≤ 12) : Met l yX2_order wsX2_order ({ frames := 0, cells := 1, slots := 12, locals := 0 } : Room) (va_Pc [.ref h, .int vg] (fun U => PT dC dI cI cA (wT h al rw cA cI n F ct) sz U)) (va_Qr (fun (f : Nat → Int32) => ORD n F vg f) (fun f a t => sz ≤ a ∧ va_P (dC, dI) vwCl [(a, .inl (cI, (s_many n F vg), .inl f))] t.heap) (fun q : Nat => sz ≤ q)) 1 12 (fun q : Nat => sz ≤ q) := by
  refine Met.ofW (cc := cX2_order) (maxL := 7) (ret := (some (.array .int))) (by decide) rfl ?_
  intro p e s m args below meth c s₁ B hml hv
  obtain ⟨rfl, hsz, hP0, hK, hE⟩ := hv
  have hx := B.exec
  have hb := B.bytes
  have hr := B.returns
  have hts := atoms_spec (ws := wsX2_order) B.pre
  have hown : s.vm.findClass RX2 = some m.cls := findClass_of_methodNamed B.named
  have hlocks := B.notSynchronized
  subst hsz
  have hAn : ∀ q : Nat, q < s.heap.size → ¬ (fun q : Nat => s.heap.size ≤ q) q := fun q h9 => Nat.not_le.mpr h9
  have hA : ∀ q : Nat, s.heap.size ≤ q → (fun q : Nat => s.heap.size ≤ q) q := fun q h9 => h9
  have hAi : ∀ q : Nat, (fun q : Nat => s.heap.size ≤ q) q → s.heap.size ≤ q := fun q h9 => h9
  generalize (fun q : Nat => s.heap.size ≤ q) = A at hA hAi hAn hE ⊢
  have hP := hP0
  have hS : va_S A s.heap s.heap [] := va_S.rf
  have hinX2 : ∀ w ∈ wsX20, w ∈ wsX2_order := by decide +kernel
  have hl := lv_entry ([.ref h, .int vg]) (n := 7) (Nat.le_of_ble_eq_true rfl)
  rw [lg_entry_eq]
  generalize (lg_sl ([.ref h, .int vg]) ++ List.replicate (7 - (lg_sl ([.ref h, .int vg])).length) Slot.unset).toArray = ls at hl ⊢
  have hl : lv_has ls 7 [(0, .ref h), (1, .int vg)] := hl
  obtain ⟨H, hHe⟩ : ∃ H, H = s.heap := ⟨_, rfl⟩
  have hP : va_P (dC, dI) vwCl (wT h al rw cA cI n F ct) H := by rw [hHe]; exact hP
  have hS : va_S A s.heap H [] := by rw [hHe]; exact hS
  suffices h0 : W p l e (headSpec wsX2_order ({ frames := 0, cells := 1, slots := 12, locals := 0 } : Room)).room s m ([.ref h, .int vg] : List Value).toArray below meth c H [] 0 0 (MQ below (va_Qr (fun (f : Nat → Int32) => ORD n F vg f) (fun f a t => s.heap.size ≤ a ∧ va_P (dC, dI) vwCl [(a, .inl (cI, (s_many n F vg), .inl f))] t.heap) A) ([.ref h, .int vg] : List Value).toArray s 1 12 A) (F0 m 0 ls []) from by have h9 := h0; rw [hHe] at h9; exact h9
  refine lv_iconst (v := 0) hx hb dX2_order_0 (by decide) ?_
  refine lv_istore_n (lv' := [(2, .int 0), (0, .ref h), (1, .int vg)]) hx hb dX2_order_1 rfl hl (by decide) rfl (fun ls hl => ?_)
  refine lv_aload_n hx hb dX2_order_2 rfl (lv_at hl 1 rfl) ?_
  refine va_get (D := (dC, dI)) (ci := 2) (v := .ref al) (C := RX2) (T := TX2) (N := 4) hx hb hts hinX2 hown hK hP 0 rfl rfl 3 (by decide) (hts (.fieldLink RX2 9 "WrestleBookLaw$Sim" "all" "[[I") (by decide +kernel)) (fun _ h9 => h9) rfl dX2_order_3 ?_
  refine lv_astore_n (lv' := [(3, .ref al), (2, .int 0), (0, .ref h), (1, .int vg)]) hx hb dX2_order_6 rfl hl (by decide) rfl (fun ls hl => ?_)
  refine lv_aload_n hx hb dX2_order_7 rfl (lv_at hl 0 rfl) ?_
  refine va_alen hx hb hK hP 1 1 rfl rfl (v := nI n) rfl dX2_order_8 ?_
  refine lv_istore (lv' := [(4, .int (nI n)), (3, .ref al), (2, .int 0), (0, .ref h), (1, .int vg)]) hx hb dX2_order_9 hl (by decide) rfl (fun ls hl => ?_)
  refine lv_iconst (v := 0) hx hb dX2_order_11 (by decide) ?_
  refine lv_istore (lv' := [(5, .int 0), (4, .int (nI n)), (3, .ref al), (2, .int 0), (0, .ref h), (1, .int vg)]) hx hb dX2_order_12 hl (by decide) rfl (fun ls hl => ?_)
  have L_14 : ∀ (k i : Nat) (a2 : Nat), i + k = n → a2 = s_manyU F vg i → ∀ (H : Heap) (locs : List Loc), va_S A s.heap H locs → ∀ (ls : Array Slot), lv_has ls 7 [(5, .int (nI i)), (4, .int (nI n)), (3, .ref al), (2, .int (nI a2)), (0, .ref h), (1, .int vg)] → W p l e (headSpec wsX2_order ({ frames := 0, cells := 1, slots := 12, locals := 0 } : Room)).room s m ([.ref h, .int vg] : List Value).toArray below meth c H locs 0 0 (MQ below (va_Qr (fun (f : Nat → Int32) => ORD n F vg f) (fun f a t => s.heap.size ≤ a ∧ va_P (dC, dI) vwCl [(a, .inl (cI, (s_many n F vg), .inl f))] t.heap) A) ([.ref h, .int vg] : List Value).toArray s 1 12 A) (F0 m 14 ls []) := by
    intro k
    induction k with
    | zero =>
      intro i a2 e_i ha2 H locs hS ls hl
      have hP := keepS hP0 hAn hS
      refine lv_iload hx hb dX2_order_14 (lv_at hl 0 rfl) ?_
      refine lv_iload hx hb dX2_order_16 (lv_at hl 1 rfl) ?_
      refine rv_icmp_ge (tgt := 49) hx hb (a := i) (b := n) (by omega) (by omega) dX2_order_18 (by decide) (fun c_18 => ?_) (fun c_18 => ?_)
      · have ham : a2 = s_many n F vg := by rw [ha2, show i = n by omega]; rfl
        have hal : a2 ≤ n := by rw [ham]; exact many_le F vg n
        refine lv_iload_n hx hb dX2_order_49 rfl (lv_at hl 3 rfl) ?_
        refine rv_newa (N' := a2) hx hb (hts (.arrayClass .int) (by decide +kernel)) (hK.sub (tys' := [(cI, .int)]) [0] rfl) vaP_nil D_nil hS hA (nI_pos (by omega)) (nI_clamp (by omega)) (by omega) (by show _ ≤ 1; omega) (by show _ ≤ 12; omega) dX2_order_50 (fun q50 H hPt hDt hS => ?_)
        have hPt : va_P (dC, dI) vwCl ([(q50, .inl (cI, a2, .inl (fun _ => 0)))]) H := hPt
        have hDt : va_D A ([(q50, .inl (cI, a2, .inl (fun _ => 0)))]) := hDt
        have hP := keepS hP0 hAn hS
        refine lv_astore_n (lv' := [(3, .ref q50), (5, .int (nI i)), (4, .int (nI n)), (2, .int (nI a2)), (0, .ref h), (1, .int vg)]) hx hb dX2_order_52 rfl hl (by decide) rfl (fun ls hl => ?_)
        refine lv_iconst (v := 0) hx hb dX2_order_53 (by decide) ?_
        refine lv_istore (lv' := [(4, .int 0), (3, .ref q50), (5, .int (nI i)), (2, .int (nI a2)), (0, .ref h), (1, .int vg)]) hx hb dX2_order_54 hl (by decide) rfl (fun ls hl => ?_)
        refine lv_iconst (v := 0) hx hb dX2_order_56 (by decide) ?_
        refine lv_istore (lv' := [(5, .int 0), (4, .int 0), (3, .ref q50), (2, .int (nI a2)), (0, .ref h), (1, .int vg)]) hx hb dX2_order_57 hl (by decide) rfl (fun ls hl => ?_)
        have L_59 : ∀ (kj j : Nat) (c9 : Nat) (f9 : Nat → Int32), j + kj = n → ORDI F vg j c9 f9 → ∀ (H : Heap) (locs : List Loc), va_P (dC, dI) vwCl ([(q50, .inl (cI, a2, .inl (f9)))]) H → va_D A ([(q50, .inl (cI, a2, .inl (f9)))]) → va_S A s.heap H locs → ∀ (ls : Array Slot), lv_has ls 7 [(5, .int (nI j)), (4, .int (nI c9)), (3, .ref q50), (2, .int (nI a2)), (0, .ref h), (1, .int vg)] → W p l e (headSpec wsX2_order ({ frames := 0, cells := 1, slots := 12, locals := 0 } : Room)).room s m ([.ref h, .int vg] : List Value).toArray below meth c H locs 1 (0 + a2) (MQ below (va_Qr (fun (f : Nat → Int32) => ORD n F vg f) (fun f a t => s.heap.size ≤ a ∧ va_P (dC, dI) vwCl [(a, .inl (cI, (s_many n F vg), .inl f))] t.heap) A) ([.ref h, .int vg] : List Value).toArray s 1 12 A) (F0 m 59 ls []) := by
          intro kj
          induction kj with
          | zero =>
            intro j c9 f9 e_j hI H locs hPt hDt hS ls hl
            have hP := keepS hP0 hAn hS
            refine lv_iload hx hb dX2_order_59 (lv_at hl 0 rfl) ?_
            refine lv_aload_n hx hb dX2_order_61 rfl (lv_at hl 4 rfl) ?_
            refine va_get (D := (dC, dI)) (ci := 2) (v := .ref al) (C := RX2) (T := TX2) (N := 4) hx hb hts hinX2 hown hK hP 0 rfl rfl 3 (by decide) (hts (.fieldLink RX2 9 "WrestleBookLaw$Sim" "all" "[[I") (by decide +kernel)) (fun _ h9 => h9) rfl dX2_order_62 ?_
            refine va_alen hx hb hK hP 1 1 rfl rfl (v := nI n) rfl dX2_order_65 ?_
            refine rv_icmp_ge (tgt := 200) hx hb (a := j) (b := n) (by omega) (by omega) dX2_order_66 (by decide) (fun c_66 => ?_) (fun c_66 => ?_)
            · refine lv_aload_n hx hb dX2_order_200 rfl (lv_at hl 2 rfl) ?_
              refine W.widen (k := 1) (n := 12) (by omega) (by omega) ?_
              have hjn : n = j := by omega
              have hI9 : ORDI F vg n c9 f9 := by rw [hjn]; exact hI
              have hPt : va_P (dC, dI) vwCl [(q50, .inl (cI, s_many n F vg, .inl f9))] H := by rw [← ham]; exact hPt
              exact W.aret (v := .ref q50) hx hb hr (Or.inr ⟨_, rfl⟩) (Or.inr ⟨_, rfl⟩) (fun t ht hW => ⟨⟨f9, q50, rfl, hI9.whole hn, ⟨hAi _ (hDt.2 0 _ rfl), by rw [ht]; exact hPt⟩⟩, hS.F ht⟩) hS.2.2 dX2_order_201
            · exact absurd c_66 (by omega)
          | succ kj ih_59 =>
            intro j c9 f9 e_j hI H locs hPt hDt hS ls hl
            have hP := keepS hP0 hAn hS
            refine lv_iload hx hb dX2_order_59 (lv_at hl 0 rfl) ?_
            refine lv_aload_n hx hb dX2_order_61 rfl (lv_at hl 4 rfl) ?_
            refine va_get (D := (dC, dI)) (ci := 2) (v := .ref al) (C := RX2) (T := TX2) (N := 4) hx hb hts hinX2 hown hK hP 0 rfl rfl 3 (by decide) (hts (.fieldLink RX2 9 "WrestleBookLaw$Sim" "all" "[[I") (by decide +kernel)) (fun _ h9 => h9) rfl dX2_order_62 ?_
            refine va_alen hx hb hK hP 1 1 rfl rfl (v := nI n) rfl dX2_order_65 ?_
            refine rv_icmp_ge (tgt := 200) hx hb (a := j) (b := n) (by omega) (by omega) dX2_order_66 (by decide) (fun c_66 => ?_) (fun c_66 => ?_)
            · exact absurd c_66 (by omega)
            · refine lv_aload_n hx hb dX2_order_69 rfl (lv_at hl 4 rfl) ?_
              refine va_get (D := (dC, dI)) (ci := 2) (v := .ref al) (C := RX2) (T := TX2) (N := 4) hx hb hts hinX2 hown hK hP 0 rfl rfl 3 (by decide) (hts (.fieldLink RX2 9 "WrestleBookLaw$Sim" "all" "[[I") (by decide +kernel)) (fun _ h9 => h9) rfl dX2_order_70 ?_
              refine lv_iload hx hb dX2_order_73 (lv_at hl 0 rfl) ?_
              refine rv_aald (k := j) hx hb hK hP 1 1 rfl rfl (show j < n by omega) (by omega) dX2_order_75 ?_
              refine lv_iconst (v := 1) hx hb dX2_order_76 (by decide) ?_
              refine rv_iald (k := 1) hx hb hK hP (2 + j) 0 (rl_get rfl (show j < n by omega)) rfl (by decide) (by decide) dX2_order_77 ?_
              refine rv_top (y := F 0 j) rfl ?_
              refine lv_iload_n hx hb dX2_order_78 rfl (lv_at hl 5 rfl) ?_
              refine lv_icmp_eq (tgt := 85) hx hb dX2_order_79 (by decide) (fun c_79 => ?_) (fun c_79 => ?_)
              · have hlt : c9 < a2 := by rw [ham, hI.1]; exact many_in c_79 (by omega)
                refine lv_iload hx hb dX2_order_85 (lv_at hl 1 rfl) ?_
                refine lv_istore (lv' := [(6, .int (nI c9)), (5, .int (nI j)), (4, .int (nI c9)), (3, .ref q50), (2, .int (nI a2)), (0, .ref h), (1, .int vg)]) hx hb dX2_order_87 hl (by decide) rfl (fun ls hl => ?_)
                have L_89 : ∀ (k8 : Nat) (f8 : Nat → Int32), k8 ≤ c9 → INS F j c9 k8 f9 f8 → ∀ (H : Heap) (locs : List Loc), va_P (dC, dI) vwCl ([(q50, .inl (cI, a2, .inl (f8)))]) H → va_D A ([(q50, .inl (cI, a2, .inl (f8)))]) → va_S A s.heap H locs → ∀ (ls : Array Slot), lv_has ls 7 [(6, .int (nI k8)), (5, .int (nI j)), (4, .int (nI c9)), (3, .ref q50), (2, .int (nI a2)), (0, .ref h), (1, .int vg)] → W p l e (headSpec wsX2_order ({ frames := 0, cells := 1, slots := 12, locals := 0 } : Room)).room s m ([.ref h, .int vg] : List Value).toArray below meth c H locs 1 (0 + a2) (MQ below (va_Qr (fun (f : Nat → Int32) => ORD n F vg f) (fun f a t => s.heap.size ≤ a ∧ va_P (dC, dI) vwCl [(a, .inl (cI, (s_many n F vg), .inl f))] t.heap) A) ([.ref h, .int vg] : List Value).toArray s 1 12 A) (F0 m 89 ls []) := by
                  intro k8
                  induction k8 with
                  | zero =>
                    intro f8 e_k8 hJ H locs hPt hDt hS ls hl
                    have hP := keepS hP0 hAn hS
                    have hl : lv_has ls 7 [(6, .int 0), (5, .int (nI j)), (4, .int (nI c9)), (3, .ref q50), (2, .int (nI a2)), (0, .ref h), (1, .int vg)] := hl
                    have hJ1 := hJ.1
                    refine lv_iload hx hb dX2_order_89 (lv_at hl 0 rfl) ?_
                    refine lv_if_le (tgt := 185) hx hb dX2_order_91 (by decide) (fun c_91 => ?_) (fun c_91 => ?_)
                    · refine lv_aload_n hx hb dX2_order_185 rfl (lv_at hl 3 rfl) ?_
                      refine lv_iload hx hb dX2_order_186 (lv_at hl 0 rfl) ?_
                      refine lv_iload hx hb dX2_order_188 (lv_at hl 1 rfl) ?_
                      refine rv_iast (k := 0) hx hb hK hPt hDt hS 0 0 rfl rfl (show 0 < a2 by omega) (by omega) dX2_order_190 (fun H locs hPt hDt hS => ?_)
                      have hPt : va_P (dC, dI) vwCl ([(q50, .inl (cI, a2, .inl (upd f8 0 (nI j))))]) H := hPt
                      have hDt : va_D A ([(q50, .inl (cI, a2, .inl (upd f8 0 (nI j))))]) := hDt
                      have hP := keepS hP0 hAn hS
                      refine lv_iinc (v := nI (c9 + 1)) (lv' := [(4, .int (nI (c9 + 1))), (6, .int 0), (5, .int (nI j)), (3, .ref q50), (2, .int (nI a2)), (0, .ref h), (1, .int vg)]) hx hb dX2_order_191 hl (k := 2) rfl (nI_add c9 1) (by decide) rfl (fun ls hl => ?_)
                      refine lv_iinc (v := nI (j + 1)) (lv' := [(5, .int (nI (j + 1))), (4, .int (nI (c9 + 1))), (6, .int 0), (3, .ref q50), (2, .int (nI a2)), (0, .ref h), (1, .int vg)]) hx hb dX2_order_194 hl (k := 2) rfl (nI_add j 1) (by decide) rfl (fun ls hl => ?_)
                      refine lv_goto (tgt := 59) hx hb dX2_order_197 (by decide) ?_
                      exact ih_59 (j + 1) (c9 + 1) (upd f8 0 (nI j)) (by omega) (ORDI.ins (by omega) c_79 hI hJ (Or.inl rfl)) _ _ hPt hDt hS ls (lv_sub hl [0, 1, 3, 4, 5, 6] rfl)
                    · exact absurd (by decide) c_91
                  | succ k8 ih_89 =>
                    intro f8 e_k8 hJ H locs hPt hDt hS ls hl
                    have hP := keepS hP0 hAn hS
                    have hJ1 := hJ.1
                    obtain ⟨w9, w91, w92, w93, w94⟩ := hI.2 k8 (by omega)
                    have hfk : f8 k8 = nI w9 := (hJ.2.1 k8 (by omega)).trans w92
                    refine lv_iload hx hb dX2_order_89 (lv_at hl 0 rfl) ?_
                    refine lv_if_le (tgt := 185) hx hb dX2_order_91 (by decide) (fun c_91 => ?_) (fun c_91 => ?_)
                    · exact absurd c_91 (nI_nle (by omega) (by omega))
                    · refine lv_aload_n hx hb dX2_order_94 rfl (lv_at hl 5 rfl) ?_
                      refine va_get (D := (dC, dI)) (ci := 2) (v := .ref al) (C := RX2) (T := TX2) (N := 4) hx hb hts hinX2 hown hK hP 0 rfl rfl 3 (by decide) (hts (.fieldLink RX2 9 "WrestleBookLaw$Sim" "all" "[[I") (by decide +kernel)) (fun _ h9 => h9) rfl dX2_order_95 ?_
                      refine lv_aload_n hx hb dX2_order_98 rfl (lv_at hl 3 rfl) ?_
                      refine lv_iload hx hb dX2_order_99 (lv_at hl 0 rfl) ?_
                      refine lv_iconst (v := 1) hx hb dX2_order_101 (by decide) ?_
                      refine lv_isub hx hb dX2_order_102 ?_
                      refine rv_top (y := nI k8) (nI_pred k8) ?_
                      refine rv_iald (k := k8) hx hb hK hPt 0 0 rfl rfl (show k8 < a2 by omega) (by omega) dX2_order_103 ?_
                      refine rv_top (y := nI w9) hfk ?_
                      refine rv_aald (k := w9) hx hb hK hP 1 1 rfl rfl (show w9 < n by omega) (by omega) dX2_order_104 ?_
                      refine lv_iconst (v := 2) hx hb dX2_order_105 (by decide) ?_
                      refine rv_iald (k := 2) hx hb hK hP (2 + w9) 0 (rl_get rfl (show w9 < n by omega)) rfl (by decide) (by decide) dX2_order_106 ?_
                      refine rv_top (y := F 2 w9) rfl ?_
                      refine lv_aload_n hx hb dX2_order_107 rfl (lv_at hl 5 rfl) ?_
                      refine va_get (D := (dC, dI)) (ci := 2) (v := .ref al) (C := RX2) (T := TX2) (N := 4) hx hb hts hinX2 hown hK hP 0 rfl rfl 3 (by decide) (hts (.fieldLink RX2 9 "WrestleBookLaw$Sim" "all" "[[I") (by decide +kernel)) (fun _ h9 => h9) rfl dX2_order_108 ?_
                      refine lv_iload hx hb dX2_order_111 (lv_at hl 1 rfl) ?_
                      refine rv_aald (k := j) hx hb hK hP 1 1 rfl rfl (show j < n by omega) (by omega) dX2_order_113 ?_
                      refine lv_iconst (v := 2) hx hb dX2_order_114 (by decide) ?_
                      refine rv_iald (k := 2) hx hb hK hP (2 + j) 0 (rl_get rfl (show j < n by omega)) rfl (by decide) (by decide) dX2_order_115 ?_
                      refine rv_top (y := F 2 j) rfl ?_
                      refine lv_icmp_lt (tgt := 169) hx hb dX2_order_116 (by decide) (fun c_116 => ?_) (fun c_116 => ?_)
                      · refine lv_aload_n hx hb dX2_order_169 rfl (lv_at hl 3 rfl) ?_
                        refine lv_iload hx hb dX2_order_170 (lv_at hl 0 rfl) ?_
                        refine lv_aload_n hx hb dX2_order_172 rfl (lv_at hl 3 rfl) ?_
                        refine lv_iload hx hb dX2_order_173 (lv_at hl 0 rfl) ?_
                        refine lv_iconst (v := 1) hx hb dX2_order_175 (by decide) ?_
                        refine lv_isub hx hb dX2_order_176 ?_
                        refine rv_top (y := nI k8) (nI_pred k8) ?_
                        refine rv_iald (k := k8) hx hb hK hPt 0 0 rfl rfl (show k8 < a2 by omega) (by omega) dX2_order_177 ?_
                        refine rv_iast (k := (k8 + 1)) hx hb hK hPt hDt hS 0 0 rfl rfl (show k8 + 1 < a2 by omega) (by omega) dX2_order_178 (fun H locs hPt hDt hS => ?_)
                        have hPt : va_P (dC, dI) vwCl ([(q50, .inl (cI, a2, .inl (upd f8 (k8 + 1) (f8 k8))))]) H := hPt
                        have hDt : va_D A ([(q50, .inl (cI, a2, .inl (upd f8 (k8 + 1) (f8 k8))))]) := hDt
                        have hP := keepS hP0 hAn hS
                        refine lv_iinc (v := nI k8) (lv' := [(6, .int (nI k8)), (5, .int (nI j)), (4, .int (nI c9)), (3, .ref q50), (2, .int (nI a2)), (0, .ref h), (1, .int vg)]) hx hb dX2_order_179 hl (k := 0) rfl (pk_m1 _) (by decide) rfl (fun ls hl => ?_)
                        refine lv_goto (tgt := 89) hx hb dX2_order_182 (by decide) ?_
                        exact ih_89 (upd f8 (k8 + 1) (f8 k8)) (by omega) (INS.step hJ w91 w92 ((ahead_hi w91).mpr (Or.inl c_116))) _ _ hPt hDt hS ls (lv_sub hl [0, 1, 2, 3, 4, 5, 6] rfl)
                      · refine lv_aload_n hx hb dX2_order_119 rfl (lv_at hl 5 rfl) ?_
                        refine va_get (D := (dC, dI)) (ci := 2) (v := .ref al) (C := RX2) (T := TX2) (N := 4) hx hb hts hinX2 hown hK hP 0 rfl rfl 3 (by decide) (hts (.fieldLink RX2 9 "WrestleBookLaw$Sim" "all" "[[I") (by decide +kernel)) (fun _ h9 => h9) rfl dX2_order_120 ?_
                        refine lv_aload_n hx hb dX2_order_123 rfl (lv_at hl 3 rfl) ?_
                        refine lv_iload hx hb dX2_order_124 (lv_at hl 0 rfl) ?_
                        refine lv_iconst (v := 1) hx hb dX2_order_126 (by decide) ?_
                        refine lv_isub hx hb dX2_order_127 ?_
                        refine rv_top (y := nI k8) (nI_pred k8) ?_
                        refine rv_iald (k := k8) hx hb hK hPt 0 0 rfl rfl (show k8 < a2 by omega) (by omega) dX2_order_128 ?_
                        refine rv_top (y := nI w9) hfk ?_
                        refine rv_aald (k := w9) hx hb hK hP 1 1 rfl rfl (show w9 < n by omega) (by omega) dX2_order_129 ?_
                        refine lv_iconst (v := 2) hx hb dX2_order_130 (by decide) ?_
                        refine rv_iald (k := 2) hx hb hK hP (2 + w9) 0 (rl_get rfl (show w9 < n by omega)) rfl (by decide) (by decide) dX2_order_131 ?_
                        refine rv_top (y := F 2 w9) rfl ?_
                        refine lv_aload_n hx hb dX2_order_132 rfl (lv_at hl 5 rfl) ?_
                        refine va_get (D := (dC, dI)) (ci := 2) (v := .ref al) (C := RX2) (T := TX2) (N := 4) hx hb hts hinX2 hown hK hP 0 rfl rfl 3 (by decide) (hts (.fieldLink RX2 9 "WrestleBookLaw$Sim" "all" "[[I") (by decide +kernel)) (fun _ h9 => h9) rfl dX2_order_133 ?_
                        refine lv_iload hx hb dX2_order_136 (lv_at hl 1 rfl) ?_
                        refine rv_aald (k := j) hx hb hK hP 1 1 rfl rfl (show j < n by omega) (by omega) dX2_order_138 ?_
                        refine lv_iconst (v := 2) hx hb dX2_order_139 (by decide) ?_
                        refine rv_iald (k := 2) hx hb hK hP (2 + j) 0 (rl_get rfl (show j < n by omega)) rfl (by decide) (by decide) dX2_order_140 ?_
                        refine rv_top (y := F 2 j) rfl ?_
                        refine lv_icmp_ne (tgt := 185) hx hb dX2_order_141 (by decide) (fun c_141 => ?_) (fun c_141 => ?_)
                        · refine lv_aload_n hx hb dX2_order_185 rfl (lv_at hl 3 rfl) ?_
                          refine lv_iload hx hb dX2_order_186 (lv_at hl 0 rfl) ?_
                          refine lv_iload hx hb dX2_order_188 (lv_at hl 1 rfl) ?_
                          refine rv_iast (k := (k8 + 1)) hx hb hK hPt hDt hS 0 0 rfl rfl (show k8 + 1 < a2 by omega) (by omega) dX2_order_190 (fun H locs hPt hDt hS => ?_)
                          have hPt : va_P (dC, dI) vwCl ([(q50, .inl (cI, a2, .inl (upd f8 (k8 + 1) (nI j))))]) H := hPt
                          have hDt : va_D A ([(q50, .inl (cI, a2, .inl (upd f8 (k8 + 1) (nI j))))]) := hDt
                          have hP := keepS hP0 hAn hS
                          refine lv_iinc (v := nI (c9 + 1)) (lv' := [(4, .int (nI (c9 + 1))), (6, .int (nI (k8 + 1))), (5, .int (nI j)), (3, .ref q50), (2, .int (nI a2)), (0, .ref h), (1, .int vg)]) hx hb dX2_order_191 hl (k := 2) rfl (nI_add c9 1) (by decide) rfl (fun ls hl => ?_)
                          refine lv_iinc (v := nI (j + 1)) (lv' := [(5, .int (nI (j + 1))), (4, .int (nI (c9 + 1))), (6, .int (nI (k8 + 1))), (3, .ref q50), (2, .int (nI a2)), (0, .ref h), (1, .int vg)]) hx hb dX2_order_194 hl (k := 2) rfl (nI_add j 1) (by decide) rfl (fun ls hl => ?_)
                          refine lv_goto (tgt := 59) hx hb dX2_order_197 (by decide) ?_
                          exact ih_59 (j + 1) (c9 + 1) (upd f8 (k8 + 1) (nI j)) (by omega) (ORDI.ins (by omega) c_79 hI hJ (Or.inr ⟨w9, Nat.succ_pos k8, w91, w92, bfF (fun z => ((ahead_hi w91).mp z).elim c_116 (fun y => c_141 y.1))⟩)) _ _ hPt hDt hS ls (lv_sub hl [0, 1, 3, 4, 5, 6] rfl)
                        · refine lv_aload_n hx hb dX2_order_144 rfl (lv_at hl 5 rfl) ?_
                          refine va_get (D := (dC, dI)) (ci := 2) (v := .ref al) (C := RX2) (T := TX2) (N := 4) hx hb hts hinX2 hown hK hP 0 rfl rfl 3 (by decide) (hts (.fieldLink RX2 9 "WrestleBookLaw$Sim" "all" "[[I") (by decide +kernel)) (fun _ h9 => h9) rfl dX2_order_145 ?_
                          refine lv_aload_n hx hb dX2_order_148 rfl (lv_at hl 3 rfl) ?_
                          refine lv_iload hx hb dX2_order_149 (lv_at hl 0 rfl) ?_
                          refine lv_iconst (v := 1) hx hb dX2_order_151 (by decide) ?_
                          refine lv_isub hx hb dX2_order_152 ?_
                          refine rv_top (y := nI k8) (nI_pred k8) ?_
                          refine rv_iald (k := k8) hx hb hK hPt 0 0 rfl rfl (show k8 < a2 by omega) (by omega) dX2_order_153 ?_
                          refine rv_top (y := nI w9) hfk ?_
                          refine rv_aald (k := w9) hx hb hK hP 1 1 rfl rfl (show w9 < n by omega) (by omega) dX2_order_154 ?_
                          refine lv_iconst (v := 0) hx hb dX2_order_155 (by decide) ?_
                          refine rv_iald (k := 0) hx hb hK hP (2 + w9) 0 (rl_get rfl (show w9 < n by omega)) rfl (by decide) (by decide) dX2_order_156 ?_
                          refine rv_top (y := F 1 w9) rfl ?_
                          refine lv_aload_n hx hb dX2_order_157 rfl (lv_at hl 5 rfl) ?_
                          refine va_get (D := (dC, dI)) (ci := 2) (v := .ref al) (C := RX2) (T := TX2) (N := 4) hx hb hts hinX2 hown hK hP 0 rfl rfl 3 (by decide) (hts (.fieldLink RX2 9 "WrestleBookLaw$Sim" "all" "[[I") (by decide +kernel)) (fun _ h9 => h9) rfl dX2_order_158 ?_
                          refine lv_iload hx hb dX2_order_161 (lv_at hl 1 rfl) ?_
                          refine rv_aald (k := j) hx hb hK hP 1 1 rfl rfl (show j < n by omega) (by omega) dX2_order_163 ?_
                          refine lv_iconst (v := 0) hx hb dX2_order_164 (by decide) ?_
                          refine rv_iald (k := 0) hx hb hK hP (2 + j) 0 (rl_get rfl (show j < n by omega)) rfl (by decide) (by decide) dX2_order_165 ?_
                          refine rv_top (y := F 1 j) rfl ?_
                          refine lv_icmp_ge (tgt := 185) hx hb dX2_order_166 (by decide) (fun c_166 => ?_) (fun c_166 => ?_)
                          · refine lv_aload_n hx hb dX2_order_185 rfl (lv_at hl 3 rfl) ?_
                            refine lv_iload hx hb dX2_order_186 (lv_at hl 0 rfl) ?_
                            refine lv_iload hx hb dX2_order_188 (lv_at hl 1 rfl) ?_
                            refine rv_iast (k := (k8 + 1)) hx hb hK hPt hDt hS 0 0 rfl rfl (show k8 + 1 < a2 by omega) (by omega) dX2_order_190 (fun H locs hPt hDt hS => ?_)
                            have hPt : va_P (dC, dI) vwCl ([(q50, .inl (cI, a2, .inl (upd f8 (k8 + 1) (nI j))))]) H := hPt
                            have hDt : va_D A ([(q50, .inl (cI, a2, .inl (upd f8 (k8 + 1) (nI j))))]) := hDt
                            have hP := keepS hP0 hAn hS
                            refine lv_iinc (v := nI (c9 + 1)) (lv' := [(4, .int (nI (c9 + 1))), (6, .int (nI (k8 + 1))), (5, .int (nI j)), (3, .ref q50), (2, .int (nI a2)), (0, .ref h), (1, .int vg)]) hx hb dX2_order_191 hl (k := 2) rfl (nI_add c9 1) (by decide) rfl (fun ls hl => ?_)
                            refine lv_iinc (v := nI (j + 1)) (lv' := [(5, .int (nI (j + 1))), (4, .int (nI (c9 + 1))), (6, .int (nI (k8 + 1))), (3, .ref q50), (2, .int (nI a2)), (0, .ref h), (1, .int vg)]) hx hb dX2_order_194 hl (k := 2) rfl (nI_add j 1) (by decide) rfl (fun ls hl => ?_)
                            refine lv_goto (tgt := 59) hx hb dX2_order_197 (by decide) ?_
                            exact ih_59 (j + 1) (c9 + 1) (upd f8 (k8 + 1) (nI j)) (by omega) (ORDI.ins (by omega) c_79 hI hJ (Or.inr ⟨w9, Nat.succ_pos k8, w91, w92, bfF (fun z => ((ahead_hi w91).mp z).elim c_116 (fun y => absurd y.2 (Int32.not_lt.mpr c_166)))⟩)) _ _ hPt hDt hS ls (lv_sub hl [0, 1, 3, 4, 5, 6] rfl)
                          · refine lv_aload_n hx hb dX2_order_169 rfl (lv_at hl 3 rfl) ?_
                            refine lv_iload hx hb dX2_order_170 (lv_at hl 0 rfl) ?_
                            refine lv_aload_n hx hb dX2_order_172 rfl (lv_at hl 3 rfl) ?_
                            refine lv_iload hx hb dX2_order_173 (lv_at hl 0 rfl) ?_
                            refine lv_iconst (v := 1) hx hb dX2_order_175 (by decide) ?_
                            refine lv_isub hx hb dX2_order_176 ?_
                            refine rv_top (y := nI k8) (nI_pred k8) ?_
                            refine rv_iald (k := k8) hx hb hK hPt 0 0 rfl rfl (show k8 < a2 by omega) (by omega) dX2_order_177 ?_
                            refine rv_iast (k := (k8 + 1)) hx hb hK hPt hDt hS 0 0 rfl rfl (show k8 + 1 < a2 by omega) (by omega) dX2_order_178 (fun H locs hPt hDt hS => ?_)
                            have hPt : va_P (dC, dI) vwCl ([(q50, .inl (cI, a2, .inl (upd f8 (k8 + 1) (f8 k8))))]) H := hPt
                            have hDt : va_D A ([(q50, .inl (cI, a2, .inl (upd f8 (k8 + 1) (f8 k8))))]) := hDt
                            have hP := keepS hP0 hAn hS
                            refine lv_iinc (v := nI k8) (lv' := [(6, .int (nI k8)), (5, .int (nI j)), (4, .int (nI c9)), (3, .ref q50), (2, .int (nI a2)), (0, .ref h), (1, .int vg)]) hx hb dX2_order_179 hl (k := 0) rfl (pk_m1 _) (by decide) rfl (fun ls hl => ?_)
                            refine lv_goto (tgt := 89) hx hb dX2_order_182 (by decide) ?_
                            exact ih_89 (upd f8 (k8 + 1) (f8 k8)) (by omega) (INS.step hJ w91 w92 ((ahead_hi w91).mpr (Or.inr ⟨c_141, Int32.not_le.mp c_166⟩))) _ _ hPt hDt hS ls (lv_sub hl [0, 1, 2, 3, 4, 5, 6] rfl)
                exact L_89 c9 f9 (by omega) INS.start _ _ hPt hDt hS ls (lv_sub hl [0, 1, 2, 3, 4, 5, 6] rfl)
              · refine lv_goto (tgt := 194) hx hb dX2_order_82 (by decide) ?_
                refine lv_iinc (v := nI (j + 1)) (lv' := [(5, .int (nI (j + 1))), (4, .int (nI c9)), (3, .ref q50), (2, .int (nI a2)), (0, .ref h), (1, .int vg)]) hx hb dX2_order_194 hl (k := 0) rfl (nI_add j 1) (by decide) rfl (fun ls hl => ?_)
                refine lv_goto (tgt := 59) hx hb dX2_order_197 (by decide) ?_
                exact ih_59 (j + 1) c9 f9 (by omega) (hI.skip c_79) _ _ hPt hDt hS ls (lv_sub hl [0, 1, 2, 3, 4, 5] rfl)
        exact L_59 n 0 0 (fun _ => 0) (by omega) (ORDI.zero F vg _) _ _ hPt hDt hS ls (lv_sub hl [0, 1, 2, 3, 4, 5] rfl)
      · exact absurd c_18 (by omega)
    | succ k ih_14 =>
      intro i a2 e_i ha2 H locs hS ls hl
      have hP := keepS hP0 hAn hS
      refine lv_iload hx hb dX2_order_14 (lv_at hl 0 rfl) ?_
      refine lv_iload hx hb dX2_order_16 (lv_at hl 1 rfl) ?_
      refine rv_icmp_ge (tgt := 49) hx hb (a := i) (b := n) (by omega) (by omega) dX2_order_18 (by decide) (fun c_18 => ?_) (fun c_18 => ?_)
      · exact absurd c_18 (by omega)
      · refine lv_aload_n hx hb dX2_order_21 rfl (lv_at hl 2 rfl) ?_
        refine lv_iload hx hb dX2_order_22 (lv_at hl 0 rfl) ?_
        refine rv_aald (k := i) hx hb hK hP 1 1 rfl rfl (show i < n by omega) (by omega) dX2_order_24 ?_
        refine lv_astore (lv' := [(6, .ref (rw i)), (5, .int (nI i)), (4, .int (nI n)), (3, .ref al), (2, .int (nI a2)), (0, .ref h), (1, .int vg)]) hx hb dX2_order_25 hl (by decide) rfl (fun ls hl => ?_)
        refine lv_iload_n hx hb dX2_order_27 rfl (lv_at hl 4 rfl) ?_
        refine lv_aload hx hb dX2_order_28 (lv_at hl 0 rfl) ?_
        refine lv_iconst (v := 1) hx hb dX2_order_30 (by decide) ?_
        refine rv_iald (k := 1) hx hb hK hP (2 + i) 0 (rl_get rfl (show i < n by omega)) rfl (by decide) (by decide) dX2_order_31 ?_
        refine rv_top (y := F 0 i) rfl ?_
        refine lv_iload_n hx hb dX2_order_32 rfl (lv_at hl 6 rfl) ?_
        refine lv_icmp_ne (tgt := 40) hx hb dX2_order_33 (by decide) (fun c_33 => ?_) (fun c_33 => ?_)
        · refine lv_iconst (v := 0) hx hb dX2_order_40 (by decide) ?_
          refine lv_iadd hx hb dX2_order_41 ?_
          refine rv_top (y := nI a2) (i32_a0 _) ?_
          refine lv_istore_n (lv' := [(2, .int (nI a2)), (6, .ref (rw i)), (5, .int (nI i)), (4, .int (nI n)), (3, .ref al), (0, .ref h), (1, .int vg)]) hx hb dX2_order_42 rfl hl (by decide) rfl (fun ls hl => ?_)
          refine lv_iinc (v := nI (i + 1)) (lv' := [(5, .int (nI (i + 1))), (2, .int (nI a2)), (6, .ref (rw i)), (4, .int (nI n)), (3, .ref al), (0, .ref h), (1, .int vg)]) hx hb dX2_order_43 hl (k := 2) rfl (nI_add i 1) (by decide) rfl (fun ls hl => ?_)
          refine lv_goto (tgt := 14) hx hb dX2_order_46 (by decide) ?_
          exact ih_14 (i + 1) a2 (by omega) (by rw [ha2]; show _ = (if F 0 i = vg then s_manyU F vg i + 1 else s_manyU F vg i); rw [if_neg c_33]) _ _ hS ls (lv_sub hl [0, 3, 4, 1, 5, 6] rfl)
        · refine lv_iconst (v := 1) hx hb dX2_order_36 (by decide) ?_
          refine lv_goto (tgt := 41) hx hb dX2_order_37 (by decide) ?_
          refine lv_iadd hx hb dX2_order_41 ?_
          refine rv_top (y := nI (a2 + 1)) (nI_1 a2) ?_
          refine lv_istore_n (lv' := [(2, .int (nI (a2 + 1))), (6, .ref (rw i)), (5, .int (nI i)), (4, .int (nI n)), (3, .ref al), (0, .ref h), (1, .int vg)]) hx hb dX2_order_42 rfl hl (by decide) rfl (fun ls hl => ?_)
          refine lv_iinc (v := nI (i + 1)) (lv' := [(5, .int (nI (i + 1))), (2, .int (nI (a2 + 1))), (6, .ref (rw i)), (4, .int (nI n)), (3, .ref al), (0, .ref h), (1, .int vg)]) hx hb dX2_order_43 hl (k := 2) rfl (nI_add i 1) (by decide) rfl (fun ls hl => ?_)
          refine lv_goto (tgt := 14) hx hb dX2_order_46 (by decide) ?_
          exact ih_14 (i + 1) (a2 + 1) (by omega) (by rw [ha2]; show _ = (if F 0 i = vg then s_manyU F vg i + 1 else s_manyU F vg i); rw [if_pos c_33]) _ _ hS ls (lv_sub hl [0, 3, 4, 1, 5, 6] rfl)
  exact L_14 n 0 0 (by omega) rfl _ _ hS ls (lv_sub hl [0, 1, 2, 3, 4, 5] rfl)

set_option maxHeartbeats 4000000 in
set_option maxRecDepth 100000 in
theorem c_X2_end (l : Launch) (dC : Nat → ClassId) (dI : Nat → Nat → Nat) (cI : ClassId) (h al : Nat) (rw : Nat → Nat) (cA : ClassId) (n : Nat) (F : Nat → Nat → Int32) (ct : Nat → Int32) (sz : Nat) (hn : n ≤ 12) (hR : okR n F) : Met l yX2_end wsX2_end ({ frames := 1, cells := 4, slots := 48, locals := 26 } : Room) (va_Pc [.ref h] (fun U => PV dC dI cI cA (wT h al rw cA cI n F ct) sz U)) (va_Qi (fun r (_ : Unit) => r = (s_endU n (s_drift n F) 2).2) (BW dC dI (va_A (wT h al rw cA cI n F ct) sz) (wT h al rw cA cI n (s_clear n (s_endU n (s_drift n F) 2).1) (upd ct 0 (ct 0 + 1)))) (va_A (wT h al rw cA cI n F ct) sz)) 4 48 (va_A (wT h al rw cA cI n F ct) sz) := by
  refine Met.ofW (cc := cX2_end) (maxL := 6) (ret := (some .int)) (by decide) rfl ?_
  intro p e s m args below meth c s₁ B hml hv
  obtain ⟨rfl, hsz, hP, hK, hD0, hE⟩ := hv
  have hx := B.exec
  have hb := B.bytes
  have hr := B.returns
  have hts := atoms_spec (ws := wsX2_end) B.pre
  have hown : s.vm.findClass RX2 = some m.cls := findClass_of_methodNamed B.named
  have hlocks := B.notSynchronized
  subst hsz
  have hD := hD0.self (sz := s.heap.size)
  generalize hAe : va_A (wT h al rw cA cI n F ct) s.heap.size = A at hD hE ⊢
  have hA : ∀ q : Nat, s.heap.size ≤ q → A q := fun q h9 => by rw [← hAe]; exact Or.inr h9
  have hS : va_S A s.heap s.heap [] := va_S.rf
  have hinX2 : ∀ w ∈ wsX20, w ∈ wsX2_end := by decide +kernel
  have hl := lv_entry ([.ref h]) (n := 6) (Nat.le_of_ble_eq_true rfl)
  rw [lg_entry_eq]
  generalize (lg_sl ([.ref h]) ++ List.replicate (6 - (lg_sl ([.ref h])).length) Slot.unset).toArray = ls at hl ⊢
  have hl : lv_has ls 6 [(0, .ref h)] := hl
  obtain ⟨H, hHe⟩ : ∃ H, H = s.heap := ⟨_, rfl⟩
  have hP : va_P (dC, dI) vwCl (wT h al rw cA cI n F ct) H := by rw [hHe]; exact hP
  have hS : va_S A s.heap H [] := by rw [hHe]; exact hS
  suffices h0 : W p l e (headSpec wsX2_end ({ frames := 1, cells := 4, slots := 48, locals := 26 } : Room)).room s m ([.ref h] : List Value).toArray below meth c H [] 0 0 (MQ below (va_Qi (fun r (_ : Unit) => r = (s_endU n (s_drift n F) 2).2) (BW dC dI A (wT h al rw cA cI n (s_clear n (s_endU n (s_drift n F) 2).1) (upd ct 0 (ct 0 + 1)))) A) ([.ref h] : List Value).toArray s 4 48 A) (F0 m 0 ls []) from by have h9 := h0; rw [hHe] at h9; exact h9
  refine lv_iconst (v := 0) hx hb dX2_end_0 (by decide) ?_
  refine lv_istore_n (lv' := [(1, .int 0), (0, .ref h)]) hx hb dX2_end_1 rfl hl (by decide) rfl (fun ls hl => ?_)
  have L_2 : ∀ (k1 i1 : Nat) (G1 : Nat → Nat → Int32), i1 + k1 = n → G1 = s_driftU F i1 → ∀ (H : Heap) (locs : List Loc), va_P (dC, dI) vwCl (wT h al rw cA cI n G1 ct) H → va_D A (wT h al rw cA cI n G1 ct) → va_S A s.heap H locs → ∀ (ls : Array Slot), lv_has ls 6 [(1, .int (nI i1)), (0, .ref h)] → W p l e (headSpec wsX2_end ({ frames := 1, cells := 4, slots := 48, locals := 26 } : Room)).room s m ([.ref h] : List Value).toArray below meth c H locs 0 0 (MQ below (va_Qi (fun r (_ : Unit) => r = (s_endU n (s_drift n F) 2).2) (BW dC dI A (wT h al rw cA cI n (s_clear n (s_endU n (s_drift n F) 2).1) (upd ct 0 (ct 0 + 1)))) A) ([.ref h] : List Value).toArray s 4 48 A) (F0 m 2 ls []) := by
    intro k1
    induction k1 with
    | zero =>
      intro i1 G1 e_i1 hG1 H locs hP hD hS ls hl
      refine lv_iload_n hx hb dX2_end_2 rfl (lv_at hl 0 rfl) ?_
      refine lv_aload_n hx hb dX2_end_3 rfl (lv_at hl 1 rfl) ?_
      refine va_get (D := (dC, dI)) (ci := 2) (v := .ref al) (C := RX2) (T := TX2) (N := 4) hx hb hts hinX2 hown hK hP 0 rfl rfl 3 (by decide) (hts (.fieldLink RX2 9 "WrestleBookLaw$Sim" "all" "[[I") (by decide +kernel)) (fun _ h9 => h9) rfl dX2_end_4 ?_
      refine va_alen hx hb hK hP 1 1 rfl rfl (v := nI n) rfl dX2_end_7 ?_
      refine rv_icmp_ge (tgt := 64) hx hb (a := i1) (b := n) (by omega) (by omega) dX2_end_8 (by decide) (fun c_8 => ?_) (fun c_8 => ?_)
      · refine lv_iconst (v := 0) hx hb dX2_end_64 (by decide) ?_
        refine lv_istore_n (lv' := [(1, .int 0), (0, .ref h)]) hx hb dX2_end_65 rfl hl (by decide) rfl (fun ls hl => ?_)
        refine lv_iconst (v := 0) hx hb dX2_end_66 (by decide) ?_
        refine lv_istore_n (lv' := [(2, .int 0), (1, .int 0), (0, .ref h)]) hx hb dX2_end_67 rfl hl (by decide) rfl (fun ls hl => ?_)
        have L_68 : ∀ (k2 i2 : Nat) (u2 : Int32) (G2 : Nat → Nat → Int32), i2 + k2 = 2 → (G2, u2) = s_endU n (s_drift n F) i2 → ∀ (H : Heap) (locs : List Loc), va_P (dC, dI) vwCl (wT h al rw cA cI n G2 ct) H → va_D A (wT h al rw cA cI n G2 ct) → va_S A s.heap H locs → ∀ (ls : Array Slot), lv_has ls 6 [(2, .int (nI i2)), (1, .int u2), (0, .ref h)] → W p l e (headSpec wsX2_end ({ frames := 1, cells := 4, slots := 48, locals := 26 } : Room)).room s m ([.ref h] : List Value).toArray below meth c H locs (0 + 2 * i2) (0 + 24 * i2) (MQ below (va_Qi (fun r (_ : Unit) => r = (s_endU n (s_drift n F) 2).2) (BW dC dI A (wT h al rw cA cI n (s_clear n (s_endU n (s_drift n F) 2).1) (upd ct 0 (ct 0 + 1)))) A) ([.ref h] : List Value).toArray s 4 48 A) (F0 m 68 ls []) := by
          intro k2
          induction k2 with
          | zero =>
            intro i2 u2 G2 e_i2 hG2 H locs hP hD hS ls hl
            refine lv_iload_n hx hb dX2_end_68 rfl (lv_at hl 0 rfl) ?_
            refine lv_iconst (v := 2) hx hb dX2_end_69 (by decide) ?_
            refine rv_icmp_ge (tgt := 169) hx hb (a := i2) (b := 2) (by omega) (by omega) dX2_end_70 (by decide) (fun c_70 => ?_) (fun c_70 => ?_)
            · refine lv_aload_n hx hb dX2_end_169 rfl (lv_at hl 2 rfl) ?_
              refine va_get (D := (dC, dI)) (ci := 2) (v := .ref al) (C := RX2) (T := TX2) (N := 4) hx hb hts hinX2 hown hK hP 0 rfl rfl 3 (by decide) (hts (.fieldLink RX2 9 "WrestleBookLaw$Sim" "all" "[[I") (by decide +kernel)) (fun _ h9 => h9) rfl dX2_end_170 ?_
              refine lv_astore_n (lv' := [(2, .ref al), (1, .int u2), (0, .ref h)]) hx hb dX2_end_173 rfl hl (by decide) rfl (fun ls hl => ?_)
              refine lv_aload_n hx hb dX2_end_174 rfl (lv_at hl 0 rfl) ?_
              refine va_alen hx hb hK hP 1 1 rfl rfl (v := nI n) rfl dX2_end_175 ?_
              refine lv_istore_n (lv' := [(3, .int (nI n)), (2, .ref al), (1, .int u2), (0, .ref h)]) hx hb dX2_end_176 rfl hl (by decide) rfl (fun ls hl => ?_)
              refine lv_iconst (v := 0) hx hb dX2_end_177 (by decide) ?_
              refine lv_istore (lv' := [(4, .int 0), (3, .int (nI n)), (2, .ref al), (1, .int u2), (0, .ref h)]) hx hb dX2_end_178 hl (by decide) rfl (fun ls hl => ?_)
              have L_180 : ∀ (k3 i3 : Nat) (G3 : Nat → Nat → Int32), i3 + k3 = n → G3 = s_clearU G2 i3 → ∀ (H : Heap) (locs : List Loc), va_P (dC, dI) vwCl (wT h al rw cA cI n G3 ct) H → va_D A (wT h al rw cA cI n G3 ct) → va_S A s.heap H locs → ∀ (ls : Array Slot), lv_has ls 6 [(4, .int (nI i3)), (3, .int (nI n)), (2, .ref al), (1, .int u2), (0, .ref h)] → W p l e (headSpec wsX2_end ({ frames := 1, cells := 4, slots := 48, locals := 26 } : Room)).room s m ([.ref h] : List Value).toArray below meth c H locs (0 + 2 * i2 + 0 * i3) (0 + 24 * i2 + 0 * i3) (MQ below (va_Qi (fun r (_ : Unit) => r = (s_endU n (s_drift n F) 2).2) (BW dC dI A (wT h al rw cA cI n (s_clear n (s_endU n (s_drift n F) 2).1) (upd ct 0 (ct 0 + 1)))) A) ([.ref h] : List Value).toArray s 4 48 A) (F0 m 180 ls []) := by
                intro k3
                induction k3 with
                | zero =>
                  intro i3 G3 e_i3 hG3 H locs hP hD hS ls hl
                  refine lv_iload hx hb dX2_end_180 (lv_at hl 0 rfl) ?_
                  refine lv_iload_n hx hb dX2_end_182 rfl (lv_at hl 1 rfl) ?_
                  refine rv_icmp_ge (tgt := 208) hx hb (a := i3) (b := n) (by omega) (by omega) dX2_end_183 (by decide) (fun c_183 => ?_) (fun c_183 => ?_)
                  · refine lv_aload_n hx hb dX2_end_208 rfl (lv_at hl 4 rfl) ?_
                    refine lv_dup hx hb dX2_end_209 rfl ?_
                    refine va_get (D := (dC, dI)) (ci := 2) (v := .int (ct 0)) (C := RX2) (T := TX2) (N := 4) hx hb hts hinX2 hown hK hP 0 rfl rfl 0 (by decide) (hts (.fieldLink RX2 45 "WrestleBookLaw$Sim" "season" "I") (by decide +kernel)) (fun _ h9 => h9) rfl dX2_end_210 ?_
                    refine lv_iconst (v := 1) hx hb dX2_end_213 (by decide) ?_
                    refine lv_iadd hx hb dX2_end_214 ?_
                    refine va_put (D := (dC, dI)) (ci := 2) (v := .int ((ct 0) + 1)) (ty := .int) (C := RX2) (T := TX2) (N := 4) hx hb hts hinX2 tyX2 tyX2_ok nmX2 hown hK hP hD hS 0 rfl rfl 0 (by decide) (hts (.fieldLink RX2 45 "WrestleBookLaw$Sim" "season" "I") (by decide +kernel)) (fun _ h9 => h9) rfl (by decide +kernel) rfl rfl (Nat.le_of_ble_eq_true rfl) dX2_end_215 (fun H locs hP hD hS => ?_)
                    have hP : va_P (dC, dI) vwCl (wT h al rw cA cI n G3 (upd ct 0 ((ct 0) + 1))) H := hP
                    have hD : va_D A (wT h al rw cA cI n G3 (upd ct 0 ((ct 0) + 1))) := hD
                    refine lv_iload_n hx hb dX2_end_218 rfl (lv_at hl 3 rfl) ?_
                    refine W.widen (k := 4) (n := 48) (by omega) (by omega) ?_
                    have hP8 : va_P (dC, dI) vwCl (wT h al rw cA cI n (s_clear n (s_endU n (s_drift n F) 2).1) (upd ct 0 (ct 0 + 1))) H := by rw [show s_clear n (s_endU n (s_drift n F) 2).1 = G3 from by rw [← show i2 = 2 by omega, ← hG2, hG3, show i3 = n by omega]; rfl]; exact hP
                    have hD8 : va_D A (wT h al rw cA cI n (s_clear n (s_endU n (s_drift n F) 2).1) (upd ct 0 (ct 0 + 1))) := by rw [show s_clear n (s_endU n (s_drift n F) 2).1 = G3 from by rw [← show i2 = 2 by omega, ← hG2, hG3, show i3 = n by omega]; rfl]; exact hD
                    exact W.iret (v := u2) hx hb hr (fun t ht hW => ⟨⟨_, (), rfl, (show u2 = (s_endU n (s_drift n F) 2).2 from by rw [← show i2 = 2 by omega, ← hG2]), by rw [ht]; exact hP8, hD8⟩, hS.F ht⟩) hS.2.2 dX2_end_219
                  · exact absurd c_183 (by omega)
                | succ k3 ih_180 =>
                  intro i3 G3 e_i3 hG3 H locs hP hD hS ls hl
                  refine lv_iload hx hb dX2_end_180 (lv_at hl 0 rfl) ?_
                  refine lv_iload_n hx hb dX2_end_182 rfl (lv_at hl 1 rfl) ?_
                  refine rv_icmp_ge (tgt := 208) hx hb (a := i3) (b := n) (by omega) (by omega) dX2_end_183 (by decide) (fun c_183 => ?_) (fun c_183 => ?_)
                  · exact absurd c_183 (by omega)
                  · refine lv_aload_n hx hb dX2_end_186 rfl (lv_at hl 2 rfl) ?_
                    refine lv_iload hx hb dX2_end_187 (lv_at hl 0 rfl) ?_
                    refine rv_aald (k := i3) hx hb hK hP 1 1 rfl rfl (show i3 < n by omega) (by omega) dX2_end_189 ?_
                    refine lv_astore (lv' := [(5, .ref (rw i3)), (4, .int (nI i3)), (3, .int (nI n)), (2, .ref al), (1, .int u2), (0, .ref h)]) hx hb dX2_end_190 hl (by decide) rfl (fun ls hl => ?_)
                    refine lv_aload hx hb dX2_end_192 (lv_at hl 0 rfl) ?_
                    refine lv_iconst (v := 2) hx hb dX2_end_194 (by decide) ?_
                    refine lv_iconst (v := 0) hx hb dX2_end_195 (by decide) ?_
                    refine rv_rst (k := 2) hx hb hK (X := [(h, .inr (2, [.int (ct 0), .int (ct 1), .int (ct 2), .ref al])), (al, .inl (cA, n, .inr (.inr (.inr (.inr (ro rw))))))]) rfl hP hD hS 0 rfl (show i3 < n by omega) (by decide) dX2_end_196 (fun H locs hP hD hS => ?_)
                    have hP : va_P (dC, dI) vwCl (wT h al rw cA cI n (pu G3 2 i3 0) ct) H := hP
                    have hD : va_D A (wT h al rw cA cI n (pu G3 2 i3 0) ct) := hD
                    refine lv_aload hx hb dX2_end_197 (lv_at hl 0 rfl) ?_
                    refine lv_iconst (v := 4) hx hb dX2_end_199 (by decide) ?_
                    refine lv_iconst (v := 0) hx hb dX2_end_200 (by decide) ?_
                    refine rv_rst (k := 4) hx hb hK (X := [(h, .inr (2, [.int (ct 0), .int (ct 1), .int (ct 2), .ref al])), (al, .inl (cA, n, .inr (.inr (.inr (.inr (ro rw))))))]) rfl hP hD hS 0 rfl (show i3 < n by omega) (by decide) dX2_end_201 (fun H locs hP hD hS => ?_)
                    have hP : va_P (dC, dI) vwCl (wT h al rw cA cI n (pu (pu G3 2 i3 0) 4 i3 0) ct) H := hP
                    have hD : va_D A (wT h al rw cA cI n (pu (pu G3 2 i3 0) 4 i3 0) ct) := hD
                    refine lv_iinc (v := nI (i3 + 1)) (lv' := [(4, .int (nI (i3 + 1))), (5, .ref (rw i3)), (3, .int (nI n)), (2, .ref al), (1, .int u2), (0, .ref h)]) hx hb dX2_end_202 hl (k := 1) rfl (nI_add i3 1) (by decide) rfl (fun ls hl => ?_)
                    refine lv_goto (tgt := 180) hx hb dX2_end_205 (by decide) ?_
                    refine W.widen (k := 0 + 2 * i2 + 0 * (i3 + 1)) (n := 0 + 24 * i2 + 0 * (i3 + 1)) (by omega) (by omega) ?_
                    exact ih_180 (i3 + 1) (pu (pu G3 2 i3 0) 4 i3 0) (by omega) (by rw [hG3]; rfl) _ _ hP hD hS ls (lv_sub hl [0, 2, 3, 4, 5] rfl)
              refine W.widen (k := 0 + 2 * i2 + 0 * 0) (n := 0 + 24 * i2 + 0 * 0) (by omega) (by omega) ?_
              exact L_180 n 0 G2 (by omega) rfl _ _ hP hD hS ls (lv_sub hl [0, 1, 2, 3, 4] rfl)
            · exact absurd c_70 (by omega)
          | succ k2 ih_68 =>
            intro i2 u2 G2 e_i2 hG2 H locs hP hD hS ls hl
            refine lv_iload_n hx hb dX2_end_68 rfl (lv_at hl 0 rfl) ?_
            refine lv_iconst (v := 2) hx hb dX2_end_69 (by decide) ?_
            refine rv_icmp_ge (tgt := 169) hx hb (a := i2) (b := 2) (by omega) (by omega) dX2_end_70 (by decide) (fun c_70 => ?_) (fun c_70 => ?_)
            · exact absurd c_70 (by omega)
            · refine lv_aload_n hx hb dX2_end_73 rfl (lv_at hl 2 rfl) ?_
              refine lv_iload_n hx hb dX2_end_74 rfl (lv_at hl 0 rfl) ?_
              have hsz9 := hS.1
              refine va_callr (va_runV (As := [.int (nI i2)]) (rest := []) ⟨hx, hb, hml, hown, hts⟩ (c_X2_order l dC dI cI h al rw cA n G2 ct H.size (nI i2) hn) (cwV 1 hts gX2_end_X2_order rfl rfl rfl (by decide +kernel) ⟨Nat.le_of_ble_eq_true rfl, Nat.le_of_ble_eq_true rfl⟩) ⟨PT.blind, va_recv hK hP (ci := 2) (q0 := 0) rfl rfl, fun U hU hW => ⟨rfl, PT.go hP hK hE hS hA hU hW⟩⟩ rfl rfl hl.1 rfl (lv_room (Nat.le_of_ble_eq_true rfl)) dX2_end_75 ⟨(by show _ ≤ 4; omega), (by show _ ≤ 48; omega)⟩) hS (fun q h8 h9 => absurd h9 (Nat.not_le.mpr h8)) (fun q h9 => hA q (Nat.le_trans hS.1 h9)) (fun f75 q75 t9 H locs ht9 hvm9 hw9 hB9 hz9 hk9 hS => ?_)
              obtain ⟨hq9, hPq⟩ := hB9
              have hDt := D_add (e := .inl (cI, (s_many n G2 (nI i2)), .inl f75)) (D_nil (A := A)) (vaP_nil (D := (dC, dI)) (cl := vwCl)) hq9 (hA _ (Nat.le_trans hsz9 hq9))
              have hP := P_new hP hk9
              have ho75 : ORD n G2 (nI i2) f75 := hw9
              rw [ht9] at hPq
              have hPt : va_P (dC, dI) vwCl ([(q75, .inl (cI, (s_many n G2 (nI i2)), .inl (f75)))]) H := hPq
              have hDt : va_D A ([(q75, .inl (cI, (s_many n G2 (nI i2)), .inl (f75)))]) := hDt
              have hq75 : s_many n G2 (nI i2) ≤ n := many_le G2 _ n
              refine lv_astore_n (lv' := [(3, .ref q75), (2, .int (nI i2)), (1, .int u2), (0, .ref h)]) hx hb dX2_end_78 rfl hl (by decide) rfl (fun ls hl => ?_)
              refine lv_aload_n hx hb dX2_end_79 rfl (lv_at hl 3 rfl) ?_
              refine lv_iload_n hx hb dX2_end_80 rfl (lv_at hl 1 rfl) ?_
              refine lv_iconst (v := 1) hx hb dX2_end_81 (by decide) ?_
              refine lv_iadd hx hb dX2_end_82 ?_
              have hsz9 := hS.1
              refine va_callr (va_runV (As := [.int ((nI i2) + 1)]) (rest := []) ⟨hx, hb, hml, hown, hts⟩ (c_X2_order l dC dI cI h al rw cA n G2 ct H.size ((nI i2) + 1) hn) (cwV 1 hts gX2_end_X2_order rfl rfl rfl (by decide +kernel) ⟨Nat.le_of_ble_eq_true rfl, Nat.le_of_ble_eq_true rfl⟩) ⟨PT.blind, va_recv hK hP (ci := 2) (q0 := 0) rfl rfl, fun U hU hW => ⟨rfl, PT.go hP hK hE hS hA hU hW⟩⟩ rfl rfl hl.1 rfl (lv_room (Nat.le_of_ble_eq_true rfl)) dX2_end_83 ⟨(by show _ ≤ 4; omega), (by show _ ≤ 48; omega)⟩) hS (fun q h8 h9 => absurd h9 (Nat.not_le.mpr h8)) (fun q h9 => hA q (Nat.le_trans hS.1 h9)) (fun f83 q83 t9 H locs ht9 hvm9 hw9 hB9 hz9 hk9 hS => ?_)
              obtain ⟨hq9, hPq⟩ := hB9
              have hDt := D_add (e := .inl (cI, (s_many n G2 ((nI i2) + 1)), .inl f83)) hDt hPt hq9 (hA _ (Nat.le_trans hsz9 hq9))
              have hP := P_new hP hk9
              have hPt := P_new hPt hk9
              have ho83 : ORD n G2 ((nI i2) + 1) f83 := hw9
              rw [ht9] at hPq
              have hPt : va_P (dC, dI) vwCl ([(q75, .inl (cI, (s_many n G2 (nI i2)), .inl (f75))), (q83, .inl (cI, (s_many n G2 ((nI i2) + 1)), .inl (f83)))]) H := va_P.app hPt hPq
              have hDt : va_D A ([(q75, .inl (cI, (s_many n G2 (nI i2)), .inl (f75))), (q83, .inl (cI, (s_many n G2 ((nI i2) + 1)), .inl (f83)))]) := hDt
              have hq83 : s_many n G2 ((nI i2) + 1) ≤ n := many_le G2 _ n
              refine lv_astore (lv' := [(4, .ref q83), (3, .ref q75), (2, .int (nI i2)), (1, .int u2), (0, .ref h)]) hx hb dX2_end_86 hl (by decide) rfl (fun ls hl => ?_)
              refine lv_aload_n hx hb dX2_end_88 rfl (lv_at hl 1 rfl) ?_
              refine va_alen hx hb hK hPt 0 0 rfl rfl (v := nI (s_many n G2 (nI i2))) rfl dX2_end_89 ?_
              refine lv_if_eq (tgt := 163) hx hb dX2_end_90 (by decide) (fun c_90 => ?_) (fun c_90 => ?_)
              · have hm0 : s_many n G2 (nI i2) = 0 := (nI_eq (b := 0) (by omega) (by decide)).mp c_90
                refine lv_iinc (v := nI (i2 + 1)) (lv' := [(2, .int (nI (i2 + 1))), (4, .ref q83), (3, .ref q75), (1, .int u2), (0, .ref h)]) hx hb dX2_end_163 hl (k := 2) rfl (nI_add i2 1) (by decide) rfl (fun ls hl => ?_)
                refine lv_goto (tgt := 68) hx hb dX2_end_166 (by decide) ?_
                refine W.widen (k := 0 + 2 * (i2 + 1)) (n := 0 + 24 * (i2 + 1)) (by omega) (by omega) ?_
                exact ih_68 (i2 + 1) u2 G2 (by omega) (by rw [s_endU_s, ← hG2]; show _ = (s_exch n G2 (nI i2), if s_exchB n G2 (nI i2) = true then u2 + 1 else u2); unfold s_exch s_exchB; rw [at_empty hn hm0]; rfl) _ _ hP hD hS ls (lv_sub hl [0, 3, 4] rfl)
              · have hm0 : 0 < s_many n G2 (nI i2) := Nat.pos_of_ne_zero (fun z => c_90 (by rw [z]; rfl))
                refine lv_aload hx hb dX2_end_93 (lv_at hl 0 rfl) ?_
                refine va_alen hx hb hK hPt 1 0 rfl rfl (v := nI (s_many n G2 ((nI i2) + 1))) rfl dX2_end_95 ?_
                refine lv_if_ne (tgt := 102) hx hb dX2_end_96 (by decide) (fun c_96 => ?_) (fun c_96 => ?_)
                · have hm1 : 0 < s_many n G2 ((nI i2) + 1) := Nat.pos_of_ne_zero (fun z => c_96 (by rw [z]; rfl))
                  obtain ⟨k75, i_k75, f_75, g_75, p_75, e75⟩ := ho75 (s_many n G2 (nI i2) - 1) (by omega)
                  rw [show s_many n G2 (nI i2) - 1 + 1 = s_many n G2 (nI i2) by omega] at e75
                  obtain ⟨k83, i_k83, f_83, g_83, p_83, e83⟩ := ho83 0 hm1
                  have e83 : s_at n G2 ((nI i2) + 1) 1 = some k83 := e83
                  have hne : k75 ≠ k83 := fun z => p_ne (nI i2) (g_75.symm.trans (by rw [z]; exact g_83))
                  refine lv_aload_n hx hb dX2_end_102 rfl (lv_at hl 1 rfl) ?_
                  refine lv_aload_n hx hb dX2_end_103 rfl (lv_at hl 1 rfl) ?_
                  refine va_alen hx hb hK hPt 0 0 rfl rfl (v := nI (s_many n G2 (nI i2))) rfl dX2_end_104 ?_
                  refine lv_iconst (v := 1) hx hb dX2_end_105 (by decide) ?_
                  refine lv_isub hx hb dX2_end_106 ?_
                  refine rv_top (y := nI (s_many n G2 (nI i2) - 1)) (pk_sub (b := 1) hm0) ?_
                  refine rv_iald (k := (s_many n G2 (nI i2) - 1)) hx hb hK hPt 0 0 rfl rfl (show s_many n G2 (nI i2) - 1 < (s_many n G2 (nI i2)) by omega) (by omega) dX2_end_107 ?_
                  refine rv_top (y := nI k75) f_75 ?_
                  refine lv_istore (lv' := [(5, .int (nI k75)), (4, .ref q83), (3, .ref q75), (2, .int (nI i2)), (1, .int u2), (0, .ref h)]) hx hb dX2_end_108 hl (by decide) rfl (fun ls hl => ?_)
                  refine lv_aload_n hx hb dX2_end_110 rfl (lv_at hl 5 rfl) ?_
                  refine va_get (D := (dC, dI)) (ci := 2) (v := .ref al) (C := RX2) (T := TX2) (N := 4) hx hb hts hinX2 hown hK hP 0 rfl rfl 3 (by decide) (hts (.fieldLink RX2 9 "WrestleBookLaw$Sim" "all" "[[I") (by decide +kernel)) (fun _ h9 => h9) rfl dX2_end_111 ?_
                  refine lv_aload hx hb dX2_end_114 (lv_at hl 1 rfl) ?_
                  refine lv_iconst (v := 0) hx hb dX2_end_116 (by decide) ?_
                  refine rv_iald (k := 0) hx hb hK hPt 1 0 rfl rfl (show 0 < (s_many n G2 ((nI i2) + 1)) by omega) (by omega) dX2_end_117 ?_
                  refine rv_top (y := nI k83) f_83 ?_
                  refine rv_aald (k := k83) hx hb hK hP 1 1 rfl rfl (show k83 < n by omega) (by omega) dX2_end_118 ?_
                  refine lv_iconst (v := 2) hx hb dX2_end_119 (by decide) ?_
                  refine rv_iald (k := 2) hx hb hK hP (2 + k83) 0 (rl_get rfl (show k83 < n by omega)) rfl (by decide) (by decide) dX2_end_120 ?_
                  refine rv_top (y := G2 2 k83) rfl ?_
                  refine lv_aload_n hx hb dX2_end_121 rfl (lv_at hl 5 rfl) ?_
                  refine va_get (D := (dC, dI)) (ci := 2) (v := .ref al) (C := RX2) (T := TX2) (N := 4) hx hb hts hinX2 hown hK hP 0 rfl rfl 3 (by decide) (hts (.fieldLink RX2 9 "WrestleBookLaw$Sim" "all" "[[I") (by decide +kernel)) (fun _ h9 => h9) rfl dX2_end_122 ?_
                  refine lv_iload hx hb dX2_end_125 (lv_at hl 0 rfl) ?_
                  refine rv_aald (k := k75) hx hb hK hP 1 1 rfl rfl (show k75 < n by omega) (by omega) dX2_end_127 ?_
                  refine lv_iconst (v := 2) hx hb dX2_end_128 (by decide) ?_
                  refine rv_iald (k := 2) hx hb hK hP (2 + k75) 0 (rl_get rfl (show k75 < n by omega)) rfl (by decide) (by decide) dX2_end_129 ?_
                  refine rv_top (y := G2 2 k75) rfl ?_
                  refine lv_icmp_gt (tgt := 136) hx hb dX2_end_130 (by decide) (fun c_130 => ?_) (fun c_130 => ?_)
                  · refine lv_aload_n hx hb dX2_end_136 rfl (lv_at hl 5 rfl) ?_
                    refine va_get (D := (dC, dI)) (ci := 2) (v := .ref al) (C := RX2) (T := TX2) (N := 4) hx hb hts hinX2 hown hK hP 0 rfl rfl 3 (by decide) (hts (.fieldLink RX2 9 "WrestleBookLaw$Sim" "all" "[[I") (by decide +kernel)) (fun _ h9 => h9) rfl dX2_end_137 ?_
                    refine lv_aload hx hb dX2_end_140 (lv_at hl 1 rfl) ?_
                    refine lv_iconst (v := 0) hx hb dX2_end_142 (by decide) ?_
                    refine rv_iald (k := 0) hx hb hK hPt 1 0 rfl rfl (show 0 < (s_many n G2 ((nI i2) + 1)) by omega) (by omega) dX2_end_143 ?_
                    refine rv_top (y := nI k83) f_83 ?_
                    refine rv_aald (k := k83) hx hb hK hP 1 1 rfl rfl (show k83 < n by omega) (by omega) dX2_end_144 ?_
                    refine lv_iconst (v := 1) hx hb dX2_end_145 (by decide) ?_
                    refine lv_iload_n hx hb dX2_end_146 rfl (lv_at hl 3 rfl) ?_
                    refine rv_rst (k := 1) hx hb hK (X := [(h, .inr (2, [.int (ct 0), .int (ct 1), .int (ct 2), .ref al])), (al, .inl (cA, n, .inr (.inr (.inr (.inr (ro rw))))))]) rfl hP hD hS 0 rfl (show k83 < n by omega) (by decide) dX2_end_147 (fun H locs hP hD hS => ?_)
                    have hP : va_P (dC, dI) vwCl (wT h al rw cA cI n (pu G2 0 k83 (nI i2)) ct) H := hP
                    have hD : va_D A (wT h al rw cA cI n (pu G2 0 k83 (nI i2)) ct) := hD
                    refine lv_aload_n hx hb dX2_end_148 rfl (lv_at hl 5 rfl) ?_
                    refine va_get (D := (dC, dI)) (ci := 2) (v := .ref al) (C := RX2) (T := TX2) (N := 4) hx hb hts hinX2 hown hK hP 0 rfl rfl 3 (by decide) (hts (.fieldLink RX2 9 "WrestleBookLaw$Sim" "all" "[[I") (by decide +kernel)) (fun _ h9 => h9) rfl dX2_end_149 ?_
                    refine lv_iload hx hb dX2_end_152 (lv_at hl 0 rfl) ?_
                    refine rv_aald (k := k75) hx hb hK hP 1 1 rfl rfl (show k75 < n by omega) (by omega) dX2_end_154 ?_
                    refine lv_iconst (v := 1) hx hb dX2_end_155 (by decide) ?_
                    refine lv_iload_n hx hb dX2_end_156 rfl (lv_at hl 3 rfl) ?_
                    refine lv_iconst (v := 1) hx hb dX2_end_157 (by decide) ?_
                    refine lv_iadd hx hb dX2_end_158 ?_
                    refine rv_rst (k := 1) hx hb hK (X := [(h, .inr (2, [.int (ct 0), .int (ct 1), .int (ct 2), .ref al])), (al, .inl (cA, n, .inr (.inr (.inr (.inr (ro rw))))))]) rfl hP hD hS 0 rfl (show k75 < n by omega) (by decide) dX2_end_159 (fun H locs hP hD hS => ?_)
                    have hP : va_P (dC, dI) vwCl (wT h al rw cA cI n (pu (pu G2 0 k83 (nI i2)) 0 k75 ((nI i2) + 1)) ct) H := hP
                    have hD : va_D A (wT h al rw cA cI n (pu (pu G2 0 k83 (nI i2)) 0 k75 ((nI i2) + 1)) ct) := hD
                    refine lv_iinc (v := u2 + 1) (lv' := [(1, .int (u2 + 1)), (5, .int (nI k75)), (4, .ref q83), (3, .ref q75), (2, .int (nI i2)), (0, .ref h)]) hx hb dX2_end_160 hl (k := 4) rfl rfl (by decide) rfl (fun ls hl => ?_)
                    refine lv_iinc (v := nI (i2 + 1)) (lv' := [(2, .int (nI (i2 + 1))), (1, .int (u2 + 1)), (5, .int (nI k75)), (4, .ref q83), (3, .ref q75), (0, .ref h)]) hx hb dX2_end_163 hl (k := 4) rfl (nI_add i2 1) (by decide) rfl (fun ls hl => ?_)
                    refine lv_goto (tgt := 68) hx hb dX2_end_166 (by decide) ?_
                    refine W.widen (k := 0 + 2 * (i2 + 1)) (n := 0 + 24 * (i2 + 1)) (by omega) (by omega) ?_
                    exact ih_68 (i2 + 1) (u2 + 1) (pu (pu G2 0 k83 (nI i2)) 0 k75 ((nI i2) + 1)) (by omega) (by rw [s_endU_s, ← hG2]; show _ = (s_exch n G2 (nI i2), if s_exchB n G2 (nI i2) = true then u2 + 1 else u2); unfold s_exch s_exchB; rw [e75, e83]; simp [c_130, pu_swap G2 hne]) _ _ hP hD hS ls (lv_sub hl [0, 1, 5] rfl)
                  · refine lv_goto (tgt := 163) hx hb dX2_end_133 (by decide) ?_
                    refine lv_iinc (v := nI (i2 + 1)) (lv' := [(2, .int (nI (i2 + 1))), (5, .int (nI k75)), (4, .ref q83), (3, .ref q75), (1, .int u2), (0, .ref h)]) hx hb dX2_end_163 hl (k := 3) rfl (nI_add i2 1) (by decide) rfl (fun ls hl => ?_)
                    refine lv_goto (tgt := 68) hx hb dX2_end_166 (by decide) ?_
                    refine W.widen (k := 0 + 2 * (i2 + 1)) (n := 0 + 24 * (i2 + 1)) (by omega) (by omega) ?_
                    exact ih_68 (i2 + 1) u2 G2 (by omega) (by rw [s_endU_s, ← hG2]; show _ = (s_exch n G2 (nI i2), if s_exchB n G2 (nI i2) = true then u2 + 1 else u2); unfold s_exch s_exchB; rw [e75, e83]; simp [c_130]) _ _ hP hD hS ls (lv_sub hl [0, 4, 5] rfl)
                · have hm1 : s_many n G2 ((nI i2) + 1) = 0 := (nI_eq (b := 0) (by omega) (by decide)).mp c_96
                  refine lv_goto (tgt := 163) hx hb dX2_end_99 (by decide) ?_
                  refine lv_iinc (v := nI (i2 + 1)) (lv' := [(2, .int (nI (i2 + 1))), (4, .ref q83), (3, .ref q75), (1, .int u2), (0, .ref h)]) hx hb dX2_end_163 hl (k := 2) rfl (nI_add i2 1) (by decide) rfl (fun ls hl => ?_)
                  refine lv_goto (tgt := 68) hx hb dX2_end_166 (by decide) ?_
                  refine W.widen (k := 0 + 2 * (i2 + 1)) (n := 0 + 24 * (i2 + 1)) (by omega) (by omega) ?_
                  exact ih_68 (i2 + 1) u2 G2 (by omega) (by rw [s_endU_s, ← hG2]; show _ = (s_exch n G2 (nI i2), if s_exchB n G2 (nI i2) = true then u2 + 1 else u2); unfold s_exch s_exchB; rw [at_empty hn hm1]; cases s_at n G2 (nI i2) (nI (s_many n G2 (nI i2))) <;> rfl) _ _ hP hD hS ls (lv_sub hl [0, 3, 4] rfl)
        refine W.widen (k := 0 + 2 * 0) (n := 0 + 24 * 0) (by omega) (by omega) ?_
        exact L_68 2 0 0 G1 (by omega) (by rw [hG1, show i1 = n by omega]; rfl) _ _ hP hD hS ls (lv_sub hl [0, 1, 2] rfl)
      · exact absurd c_8 (by omega)
    | succ k1 ih_2 =>
      intro i1 G1 e_i1 hG1 H locs hP hD hS ls hl
      refine lv_iload_n hx hb dX2_end_2 rfl (lv_at hl 0 rfl) ?_
      refine lv_aload_n hx hb dX2_end_3 rfl (lv_at hl 1 rfl) ?_
      refine va_get (D := (dC, dI)) (ci := 2) (v := .ref al) (C := RX2) (T := TX2) (N := 4) hx hb hts hinX2 hown hK hP 0 rfl rfl 3 (by decide) (hts (.fieldLink RX2 9 "WrestleBookLaw$Sim" "all" "[[I") (by decide +kernel)) (fun _ h9 => h9) rfl dX2_end_4 ?_
      refine va_alen hx hb hK hP 1 1 rfl rfl (v := nI n) rfl dX2_end_7 ?_
      refine rv_icmp_ge (tgt := 64) hx hb (a := i1) (b := n) (by omega) (by omega) dX2_end_8 (by decide) (fun c_8 => ?_) (fun c_8 => ?_)
      · exact absurd c_8 (by omega)
      · refine lv_aload_n hx hb dX2_end_11 rfl (lv_at hl 1 rfl) ?_
        refine va_get (D := (dC, dI)) (ci := 2) (v := .ref al) (C := RX2) (T := TX2) (N := 4) hx hb hts hinX2 hown hK hP 0 rfl rfl 3 (by decide) (hts (.fieldLink RX2 9 "WrestleBookLaw$Sim" "all" "[[I") (by decide +kernel)) (fun _ h9 => h9) rfl dX2_end_12 ?_
        refine lv_iload_n hx hb dX2_end_15 rfl (lv_at hl 0 rfl) ?_
        refine rv_aald (k := i1) hx hb hK hP 1 1 rfl rfl (show i1 < n by omega) (by omega) dX2_end_16 ?_
        refine lv_iconst (v := 0) hx hb dX2_end_17 (by decide) ?_
        refine rv_iald (k := 0) hx hb hK hP (2 + i1) 0 (rl_get rfl (show i1 < n by omega)) rfl (by decide) (by decide) dX2_end_18 ?_
        refine rv_top (y := G1 1 i1) rfl ?_
        refine lv_sipush (v := 1000) hx hb dX2_end_19 (by decide) ?_
        refine lv_isub hx hb dX2_end_22 ?_
        refine lv_istore_n (lv' := [(2, .int ((G1 1 i1) - 1000)), (1, .int (nI i1)), (0, .ref h)]) hx hb dX2_end_23 rfl hl (by decide) rfl (fun ls hl => ?_)
        refine lv_aload_n hx hb dX2_end_24 rfl (lv_at hl 2 rfl) ?_
        refine va_get (D := (dC, dI)) (ci := 2) (v := .ref al) (C := RX2) (T := TX2) (N := 4) hx hb hts hinX2 hown hK hP 0 rfl rfl 3 (by decide) (hts (.fieldLink RX2 9 "WrestleBookLaw$Sim" "all" "[[I") (by decide +kernel)) (fun _ h9 => h9) rfl dX2_end_25 ?_
        refine lv_iload_n hx hb dX2_end_28 rfl (lv_at hl 1 rfl) ?_
        refine rv_aald (k := i1) hx hb hK hP 1 1 rfl rfl (show i1 < n by omega) (by omega) dX2_end_29 ?_
        refine lv_iconst (v := 4) hx hb dX2_end_30 (by decide) ?_
        refine rv_iald (k := 4) hx hb hK hP (2 + i1) 0 (rl_get rfl (show i1 < n by omega)) rfl (by decide) (by decide) dX2_end_31 ?_
        refine rv_top (y := G1 4 i1) rfl ?_
        refine lv_iconst (v := 3) hx hb dX2_end_32 (by decide) ?_
        refine lv_icmp_ge (tgt := 58) hx hb dX2_end_33 (by decide) (fun c_33 => ?_) (fun c_33 => ?_)
        · refine lv_iinc (v := nI (i1 + 1)) (lv' := [(1, .int (nI (i1 + 1))), (2, .int ((G1 1 i1) - 1000)), (0, .ref h)]) hx hb dX2_end_58 hl (k := 1) rfl (nI_add i1 1) (by decide) rfl (fun ls hl => ?_)
          refine lv_goto (tgt := 2) hx hb dX2_end_61 (by decide) ?_
          exact ih_2 (i1 + 1) G1 (by omega) (by rw [hG1]; show _ = (if (3 : Int32) ≤ (s_driftU F i1) 4 i1 then s_driftU F i1 else s_set (s_driftU F i1) i1 ((s_driftU F i1) 1 i1 - ((s_driftU F i1) 1 i1 - 1000) / 8)); rw [← hG1]; rw [if_pos c_33]) _ _ hP hD hS ls (lv_sub hl [0, 2] rfl)
        · refine lv_aload_n hx hb dX2_end_36 rfl (lv_at hl 2 rfl) ?_
          refine lv_iload_n hx hb dX2_end_37 rfl (lv_at hl 1 rfl) ?_
          refine lv_iload_n hx hb dX2_end_38 rfl (lv_at hl 0 rfl) ?_
          refine lv_if_ge (tgt := 50) hx hb dX2_end_39 (by decide) (fun c_39 => ?_) (fun c_39 => ?_)
          · refine lv_iload_n hx hb dX2_end_50 rfl (lv_at hl 0 rfl) ?_
            refine lv_bipush (v := 8) hx hb dX2_end_51 (by decide) ?_
            refine lv_idiv hx hb dX2_end_53 (by decide) ?_
            refine lv_ineg hx hb dX2_end_54 ?_
            have hFc := free_all hD hS hA
            refine va_callv (va_runV (As := [.int (nI i1), .int (-(((G1 1 i1) - 1000) / 8))]) (rest := []) ⟨hx, hb, hml, hown, hts⟩ (c_X2_raise l dC dI cI h al rw cA n G1 ct H.size i1 (show i1 < n by omega) (-(((G1 1 i1) - 1000) / 8)) hn) (cwV 2 hts gX2_end_X2_raise rfl rfl rfl (by decide +kernel) ⟨Nat.le_of_ble_eq_true rfl, Nat.le_of_ble_eq_true rfl⟩) ⟨PV.blind, va_recv hK hP (ci := 2) (q0 := 0) rfl rfl, fun U hU hW => ⟨rfl, PV.go hP hK hD hE hS hFc hU hW⟩⟩ rfl rfl hl.1 rfl (lv_room (Nat.le_of_ble_eq_true rfl)) dX2_end_55 ⟨(by show _ ≤ 4; omega), (by show _ ≤ 48; omega)⟩) hS (fun q _ h9 => hFc q h9) hFc (fun u9 t9 H locs ht9 hvm9 hw9 hB9 hz9 hk9 hS => ?_)
            obtain ⟨hP, hD9⟩ := hB9
            rw [ht9] at hP
            have hD := hD9.weaken (fun _ q _ h9 => hFc q.1 h9)
            have hP : va_P (dC, dI) vwCl (wT h al rw cA cI n (s_set G1 i1 (G1 1 i1 + (-(((G1 1 i1) - 1000) / 8)))) ct) H := hP
            have hD : va_D A (wT h al rw cA cI n (s_set G1 i1 (G1 1 i1 + (-(((G1 1 i1) - 1000) / 8)))) ct) := hD
            refine lv_iinc (v := nI (i1 + 1)) (lv' := [(1, .int (nI (i1 + 1))), (2, .int ((G1 1 i1) - 1000)), (0, .ref h)]) hx hb dX2_end_58 hl (k := 1) rfl (nI_add i1 1) (by decide) rfl (fun ls hl => ?_)
            refine lv_goto (tgt := 2) hx hb dX2_end_61 (by decide) ?_
            exact ih_2 (i1 + 1) (s_set G1 i1 (G1 1 i1 + (-(((G1 1 i1) - 1000) / 8)))) (by omega) (by rw [hG1]; show _ = (if (3 : Int32) ≤ (s_driftU F i1) 4 i1 then s_driftU F i1 else s_set (s_driftU F i1) i1 ((s_driftU F i1) 1 i1 - ((s_driftU F i1) 1 i1 - 1000) / 8)); rw [← hG1]; rw [if_neg c_33, add_ng]) _ _ hP hD hS ls (lv_sub hl [0, 2] rfl)
          · have hr1 : ∃ r : Nat, 100 ≤ r ∧ r ≤ 3000 ∧ G1 1 i1 = nI r := by rw [hG1, driftU_1 F i1 i1 (Nat.le_refl _)]; exact hR i1 (by omega)
            refine lv_iload_n hx hb dX2_end_42 rfl (lv_at hl 0 rfl) ?_
            refine lv_ineg hx hb dX2_end_43 ?_
            refine lv_bipush (v := 8) hx hb dX2_end_44 (by decide) ?_
            refine lv_idiv hx hb dX2_end_46 (by decide) ?_
            refine lv_goto (tgt := 55) hx hb dX2_end_47 (by decide) ?_
            have hFc := free_all hD hS hA
            refine va_callv (va_runV (As := [.int (nI i1), .int ((-((G1 1 i1) - 1000)) / 8)]) (rest := []) ⟨hx, hb, hml, hown, hts⟩ (c_X2_raise l dC dI cI h al rw cA n G1 ct H.size i1 (show i1 < n by omega) ((-((G1 1 i1) - 1000)) / 8) hn) (cwV 2 hts gX2_end_X2_raise rfl rfl rfl (by decide +kernel) ⟨Nat.le_of_ble_eq_true rfl, Nat.le_of_ble_eq_true rfl⟩) ⟨PV.blind, va_recv hK hP (ci := 2) (q0 := 0) rfl rfl, fun U hU hW => ⟨rfl, PV.go hP hK hD hE hS hFc hU hW⟩⟩ rfl rfl hl.1 rfl (lv_room (Nat.le_of_ble_eq_true rfl)) dX2_end_55 ⟨(by show _ ≤ 4; omega), (by show _ ≤ 48; omega)⟩) hS (fun q _ h9 => hFc q h9) hFc (fun u9 t9 H locs ht9 hvm9 hw9 hB9 hz9 hk9 hS => ?_)
            obtain ⟨hP, hD9⟩ := hB9
            rw [ht9] at hP
            have hD := hD9.weaken (fun _ q _ h9 => hFc q.1 h9)
            have hP : va_P (dC, dI) vwCl (wT h al rw cA cI n (s_set G1 i1 (G1 1 i1 + ((-((G1 1 i1) - 1000)) / 8))) ct) H := hP
            have hD : va_D A (wT h al rw cA cI n (s_set G1 i1 (G1 1 i1 + ((-((G1 1 i1) - 1000)) / 8))) ct) := hD
            refine lv_iinc (v := nI (i1 + 1)) (lv' := [(1, .int (nI (i1 + 1))), (2, .int ((G1 1 i1) - 1000)), (0, .ref h)]) hx hb dX2_end_58 hl (k := 1) rfl (nI_add i1 1) (by decide) rfl (fun ls hl => ?_)
            refine lv_goto (tgt := 2) hx hb dX2_end_61 (by decide) ?_
            exact ih_2 (i1 + 1) (s_set G1 i1 (G1 1 i1 + ((-((G1 1 i1) - 1000)) / 8))) (by omega) (by rw [hG1]; show _ = (if (3 : Int32) ≤ (s_driftU F i1) 4 i1 then s_driftU F i1 else s_set (s_driftU F i1) i1 ((s_driftU F i1) 1 i1 - ((s_driftU F i1) 1 i1 - 1000) / 8)); rw [← hG1]; rw [if_neg c_33, ngd hr1, add_ng]) _ _ hP hD hS ls (lv_sub hl [0, 2] rfl)
  exact L_2 n 0 F (by omega) rfl _ _ hP hD hS ls (lv_sub hl [0, 1] rfl)
