/-! State: next, bout, end, become -/
/-- the triple of next as the class keeps it, and the one number of the reference -/
def trO (T : Int32 × Int32 × Int32) : Prop := ∃ u v : Nat, T.2.1 = nI u ∧ T.2.2 = nI v ∧ u ≤ 200000 ∧ v < 1000
theorem tr_step {n : Nat} {F : Nat → Nat → Int32} (hR : okR n F) (hB : okB n F) {a b : Nat} (ha : a < n) (hb : b < n) {T : Int32 × Int32 × Int32} (hT : trO T) :
    (1000 * (F 4 a + F 4 b) + s_off F a b < 1000 * T.2.1 + T.2.2 ↔ (F 4 a + F 4 b < T.2.1 ∨ (F 4 a + F 4 b = T.2.1 ∧ ¬ T.2.2 ≤ s_off F a b))) ∧ trO (nI a * 12 + nI b, F 4 a + F 4 b, s_off F a b) := by
  obtain ⟨u, v, e1, e2, hu, hv⟩ := hT
  obtain ⟨x, hx, ex⟩ := hB a ha
  obtain ⟨y, hy, ey⟩ := hB b hb
  obtain ⟨z, z1, z2, -, ez⟩ := s_offN hR ha hb
  rw [e1, e2, ex, ey, ez, nI_add]
  exact ⟨lexLt (by omega) (by omega) hu hv, x + y, z - 500, rfl, rfl, by omega, by omega⟩
theorem tr_pairB {n : Nat} {F : Nat → Nat → Int32} (hR : okR n F) (hB : okB n F) {a b : Nat} (ha : a < n) (hb : b < n) {T : Int32 × Int32 × Int32} (hT : trO T) : trO (pairB F a b T) := by
  unfold pairB
  by_cases h1 : F 0 a = F 0 b
  · rw [if_pos h1]
    by_cases h2 : T.1 = -1 ∨ F 4 a + F 4 b < T.2.1 ∨ (F 4 a + F 4 b = T.2.1 ∧ ¬ T.2.2 ≤ s_off F a b)
    · rw [if_pos h2]; exact (tr_step hR hB ha hb hT).2
    · rw [if_neg h2]; exact hT
  · rw [if_neg h1]; exact hT
theorem ab12 (a b : Nat) : (12 : Int32) * nI a + nI b = nI a * 12 + nI b := by rw [Int32.mul_comm]
theorem s_endU_s (n : Nat) (F : Nat → Nat → Int32) (m : Nat) : s_endU n F (m + 1) = (s_exch n (s_endU n F m).1 (nI m), if s_exchB n (s_endU n F m).1 (nI m) = true then (s_endU n F m).2 + 1 else (s_endU n F m).2) := rfl
theorem s_upE {F : Nat → Nat → Int32} {a b q : Nat} (h : q = 1) : s_up F a b (nI q) = false := by subst h; rfl
theorem s_upWT {F : Nat → Nat → Int32} {a b q : Nat} (hq : q ≤ 2) (h : q = 2) (c : ¬ (400 : Int32) ≤ s_exp F a b) : s_up F a b (nI q) = true := by
  subst h; unfold s_up; rw [if_pos (show nI 2 = 2 from rfl), if_pos (Int32.not_le.mp c)]
theorem s_upWF {F : Nat → Nat → Int32} {a b q : Nat} (hq : q ≤ 2) (h : q = 2) (c : (400 : Int32) ≤ s_exp F a b) : s_up F a b (nI q) = false := by
  subst h; unfold s_up; rw [if_pos (show nI 2 = 2 from rfl), if_neg (Int32.not_lt.mpr c)]
theorem s_upLT {F : Nat → Nat → Int32} {a b q : Nat} (hq : q ≤ 2) (h : q = 0) (c : ¬ (400 : Int32) ≤ s_exp F b a) : s_up F a b (nI q) = true := by
  subst h; unfold s_up; rw [if_neg (by decide), if_pos (show nI 0 = 0 from rfl), if_pos (Int32.not_le.mp c)]
theorem s_upLF {F : Nat → Nat → Int32} {a b q : Nat} (hq : q ≤ 2) (h : q = 0) (c : (400 : Int32) ≤ s_exp F b a) : s_up F a b (nI q) = false := by
  subst h; unfold s_up; rw [if_neg (by decide), if_pos (show nI 0 = 0 from rfl), if_neg (Int32.not_lt.mpr c)]
set_option maxHeartbeats 4000000 in
set_option maxRecDepth 100000 in
theorem c_X2_next (l : Launch) (dC : Nat → ClassId) (dI : Nat → Nat → Nat) (cI : ClassId) (h : Nat) (ad : Nat → Nat) (n : Nat) (F : Nat → Nat → Int32) (ct : Nat → Int32) (hn : n ≤ 12) (hR : okR n F) (hB : okB n F) : Met l yX2_next wsX2_next ({ frames := 3, cells := 0, slots := 0, locals := 61 } : Room) (va_Pc [.ref h] (fun U => PR dC dI cI (wS h ad cI n F ct) U)) (vp_Si (fun r => r = s_next n F)) 0 0 (fun _ => False) := by
  refine Met.ofW (cc := cX2_next) (maxL := 6) (ret := (some .int)) (by decide) rfl ?_
  intro p e s m args below meth c s₁ B hml hv
  obtain ⟨rfl, hP, hK, hE⟩ := hv
  have hx := B.exec
  have hb := B.bytes
  have hr := B.returns
  have hts := atoms_spec (ws := wsX2_next) B.pre
  have hown : s.vm.findClass RX2 = some m.cls := findClass_of_methodNamed B.named
  have hlocks := B.notSynchronized
  have hS : va_S (fun _ => False) s.heap s.heap [] := va_S.rf
  have hinX2 : ∀ w ∈ wsX20, w ∈ wsX2_next := by decide +kernel
  have hl := lv_entry ([.ref h]) (n := 6) (Nat.le_of_ble_eq_true rfl)
  rw [lg_entry_eq]
  generalize (lg_sl ([.ref h]) ++ List.replicate (6 - (lg_sl ([.ref h])).length) Slot.unset).toArray = ls at hl ⊢
  have hl : lv_has ls 6 [(0, .ref h)] := hl
  refine lv_iconst (v := (-1)) hx hb dX2_next_0 (by decide) ?_
  refine lv_istore_n (lv' := [(1, .int (-1)), (0, .ref h)]) hx hb dX2_next_1 rfl hl (by decide) rfl (fun ls hl => ?_)
  refine lv_iconst (v := 0) hx hb dX2_next_2 (by decide) ?_
  refine lv_istore_n (lv' := [(2, .int 0), (1, .int (-1)), (0, .ref h)]) hx hb dX2_next_3 rfl hl (by decide) rfl (fun ls hl => ?_)
  refine lv_iconst (v := 0) hx hb dX2_next_4 (by decide) ?_
  refine lv_istore_n (lv' := [(3, .int 0), (2, .int 0), (1, .int (-1)), (0, .ref h)]) hx hb dX2_next_5 rfl hl (by decide) rfl (fun ls hl => ?_)
  have L_6 : ∀ (ka a : Nat) (x1 : Int32) (x2 : Int32) (x3 : Int32), a + ka = n → (x1, x2, x3) = s_pairU n F a → trO (x1, x2, x3) → ∀ (ls : Array Slot), lv_has ls 6 [(3, .int (nI a)), (2, .int (1000 * x2 + x3)), (1, .int x1), (0, .ref h)] → W p l e (headSpec wsX2_next ({ frames := 3, cells := 0, slots := 0, locals := 61 } : Room)).room s m ([.ref h] : List Value).toArray below meth c s.heap [] 0 0 (MQ below (vp_Si (fun r => r = s_next n F)) ([.ref h] : List Value).toArray s 0 0 (fun _ => False)) (F0 m 6 ls []) := by
    intro ka
    induction ka with
    | zero =>
      intro a x1 x2 x3 e_a hxx hxo ls hl
      refine lv_iload_n hx hb dX2_next_6 rfl (lv_at hl 0 rfl) ?_
      refine lv_aload_n hx hb dX2_next_7 rfl (lv_at hl 3 rfl) ?_
      refine va_get (D := (dC, dI)) (ci := 2) (v := .int (nI n)) (C := RX2) (T := TX2) (N := 11) hx hb hts hinX2 hown hK hP 0 rfl rfl 1 (by decide) (hts (.fieldLink RX2 43 "WrestleBookModel$State" "wrestlers" "I") (by decide +kernel)) (fun _ h9 => h9) rfl dX2_next_8 ?_
      refine rv_icmp_ge (tgt := 112) hx hb (a := a) (b := n) (by omega) (by omega) dX2_next_11 (by decide) (fun c_11 => ?_) (fun c_11 => ?_)
      · refine lv_iload_n hx hb dX2_next_112 rfl (lv_at hl 2 rfl) ?_
        exact W.iret (v := x1) hx hb hr (fun t ht hW => ⟨_, rfl, (show x1 = s_next n F from by show x1 = (s_pairU n F n).1; rw [show (s_pairU n F n) = (x1, x2, x3) by rw [hxx, show a = n by omega]]), ht⟩) hS.2.2 dX2_next_113
      · exact absurd c_11 (by omega)
    | succ ka ih_6 =>
      intro a x1 x2 x3 e_a hxx hxo ls hl
      refine lv_iload_n hx hb dX2_next_6 rfl (lv_at hl 0 rfl) ?_
      refine lv_aload_n hx hb dX2_next_7 rfl (lv_at hl 3 rfl) ?_
      refine va_get (D := (dC, dI)) (ci := 2) (v := .int (nI n)) (C := RX2) (T := TX2) (N := 11) hx hb hts hinX2 hown hK hP 0 rfl rfl 1 (by decide) (hts (.fieldLink RX2 43 "WrestleBookModel$State" "wrestlers" "I") (by decide +kernel)) (fun _ h9 => h9) rfl dX2_next_8 ?_
      refine rv_icmp_ge (tgt := 112) hx hb (a := a) (b := n) (by omega) (by omega) dX2_next_11 (by decide) (fun c_11 => ?_) (fun c_11 => ?_)
      · exact absurd c_11 (by omega)
      · refine lv_iload_n hx hb dX2_next_14 rfl (lv_at hl 0 rfl) ?_
        refine lv_iconst (v := 1) hx hb dX2_next_15 (by decide) ?_
        refine lv_iadd hx hb dX2_next_16 ?_
        refine rv_top (y := nI (a + 1)) (nI_1 a) ?_
        refine lv_istore (lv' := [(4, .int (nI (a + 1))), (3, .int (nI a)), (2, .int (1000 * x2 + x3)), (1, .int x1), (0, .ref h)]) hx hb dX2_next_17 hl (by decide) rfl (fun ls hl => ?_)
        have L_19 : ∀ (kb b : Nat) (y1 : Int32) (y2 : Int32) (y3 : Int32), b + kb = n → a < b → (y1, y2, y3) = s_pairI F a b (x1, x2, x3) → trO (y1, y2, y3) → ∀ (ls : Array Slot), lv_has ls 6 [(4, .int (nI b)), (3, .int (nI a)), (2, .int (1000 * y2 + y3)), (1, .int y1), (0, .ref h)] → W p l e (headSpec wsX2_next ({ frames := 3, cells := 0, slots := 0, locals := 61 } : Room)).room s m ([.ref h] : List Value).toArray below meth c s.heap [] 0 0 (MQ below (vp_Si (fun r => r = s_next n F)) ([.ref h] : List Value).toArray s 0 0 (fun _ => False)) (F0 m 19 ls []) := by
          intro kb
          induction kb with
          | zero =>
            intro b y1 y2 y3 e_b hab hy hyo ls hl
            refine lv_iload hx hb dX2_next_19 (lv_at hl 0 rfl) ?_
            refine lv_aload_n hx hb dX2_next_21 rfl (lv_at hl 4 rfl) ?_
            refine va_get (D := (dC, dI)) (ci := 2) (v := .int (nI n)) (C := RX2) (T := TX2) (N := 11) hx hb hts hinX2 hown hK hP 0 rfl rfl 1 (by decide) (hts (.fieldLink RX2 43 "WrestleBookModel$State" "wrestlers" "I") (by decide +kernel)) (fun _ h9 => h9) rfl dX2_next_22 ?_
            refine rv_icmp_ge (tgt := 106) hx hb (a := b) (b := n) (by omega) (by omega) dX2_next_25 (by decide) (fun c_25 => ?_) (fun c_25 => ?_)
            · refine lv_iinc (v := nI (a + 1)) (lv' := [(3, .int (nI (a + 1))), (4, .int (nI b)), (2, .int (1000 * y2 + y3)), (1, .int y1), (0, .ref h)]) hx hb dX2_next_106 hl (k := 1) rfl (nI_add a 1) (by decide) rfl (fun ls hl => ?_)
              refine lv_goto (tgt := 6) hx hb dX2_next_109 (by decide) ?_
              exact ih_6 (a + 1) y1 y2 y3 (by omega) (by rw [hy, show b = n by omega, hxx]; rfl) hyo ls (lv_sub hl [0, 2, 3, 4] rfl)
            · exact absurd c_25 (by omega)
          | succ kb ih_19 =>
            intro b y1 y2 y3 e_b hab hy hyo ls hl
            refine lv_iload hx hb dX2_next_19 (lv_at hl 0 rfl) ?_
            refine lv_aload_n hx hb dX2_next_21 rfl (lv_at hl 4 rfl) ?_
            refine va_get (D := (dC, dI)) (ci := 2) (v := .int (nI n)) (C := RX2) (T := TX2) (N := 11) hx hb hts hinX2 hown hK hP 0 rfl rfl 1 (by decide) (hts (.fieldLink RX2 43 "WrestleBookModel$State" "wrestlers" "I") (by decide +kernel)) (fun _ h9 => h9) rfl dX2_next_22 ?_
            refine rv_icmp_ge (tgt := 106) hx hb (a := b) (b := n) (by omega) (by omega) dX2_next_25 (by decide) (fun c_25 => ?_) (fun c_25 => ?_)
            · exact absurd c_25 (by omega)
            · refine lv_aload_n hx hb dX2_next_28 rfl (lv_at hl 4 rfl) ?_
              refine va_get (D := (dC, dI)) (ci := 2) (v := .ref (ad 0)) (C := RX2) (T := TX2) (N := 11) hx hb hts hinX2 hown hK hP 0 rfl rfl 5 (by decide) (hts (.fieldLink RX2 15 "WrestleBookModel$State" "league" "[I") (by decide +kernel)) (fun _ h9 => h9) rfl dX2_next_29 ?_
              refine lv_iload_n hx hb dX2_next_32 rfl (lv_at hl 1 rfl) ?_
              refine rv_iald (k := a) hx hb hK hP 1 0 rfl rfl (show a < 12 by omega) (by decide) dX2_next_33 ?_
              refine lv_aload_n hx hb dX2_next_34 rfl (lv_at hl 4 rfl) ?_
              refine va_get (D := (dC, dI)) (ci := 2) (v := .ref (ad 0)) (C := RX2) (T := TX2) (N := 11) hx hb hts hinX2 hown hK hP 0 rfl rfl 5 (by decide) (hts (.fieldLink RX2 15 "WrestleBookModel$State" "league" "[I") (by decide +kernel)) (fun _ h9 => h9) rfl dX2_next_35 ?_
              refine lv_iload hx hb dX2_next_38 (lv_at hl 0 rfl) ?_
              refine rv_iald (k := b) hx hb hK hP 1 0 rfl rfl (show b < 12 by omega) (by decide) dX2_next_40 ?_
              refine lv_icmp_eq (tgt := 47) hx hb dX2_next_41 (by decide) (fun c_41 => ?_) (fun c_41 => ?_)
              · refine lv_sipush (v := 1000) hx hb dX2_next_47 (by decide) ?_
                refine lv_aload_n hx hb dX2_next_50 rfl (lv_at hl 4 rfl) ?_
                refine va_get (D := (dC, dI)) (ci := 2) (v := .ref (ad 4)) (C := RX2) (T := TX2) (N := 11) hx hb hts hinX2 hown hK hP 0 rfl rfl 8 (by decide) (hts (.fieldLink RX2 24 "WrestleBookModel$State" "lately" "[I") (by decide +kernel)) (fun _ h9 => h9) rfl dX2_next_51 ?_
                refine lv_iload_n hx hb dX2_next_54 rfl (lv_at hl 1 rfl) ?_
                refine rv_iald (k := a) hx hb hK hP 5 0 rfl rfl (show a < 12 by omega) (by decide) dX2_next_55 ?_
                refine lv_aload_n hx hb dX2_next_56 rfl (lv_at hl 4 rfl) ?_
                refine va_get (D := (dC, dI)) (ci := 2) (v := .ref (ad 4)) (C := RX2) (T := TX2) (N := 11) hx hb hts hinX2 hown hK hP 0 rfl rfl 8 (by decide) (hts (.fieldLink RX2 24 "WrestleBookModel$State" "lately" "[I") (by decide +kernel)) (fun _ h9 => h9) rfl dX2_next_57 ?_
                refine lv_iload hx hb dX2_next_60 (lv_at hl 0 rfl) ?_
                refine rv_iald (k := b) hx hb hK hP 5 0 rfl rfl (show b < 12 by omega) (by decide) dX2_next_62 ?_
                refine lv_iadd hx hb dX2_next_63 ?_
                refine lv_imul hx hb dX2_next_64 ?_
                refine lv_aload_n hx hb dX2_next_65 rfl (lv_at hl 4 rfl) ?_
                refine lv_iload_n hx hb dX2_next_66 rfl (lv_at hl 1 rfl) ?_
                refine lv_iload hx hb dX2_next_67 (lv_at hl 0 rfl) ?_
                refine vp_callSi (W.runV (As := [.int (nI a), .int (nI b)]) (rest := [.int (1000 * ((F 4 a) + (F 4 b)))]) ⟨hx, hb, hml, hown, hts⟩ (c_X2_off l dC dI cI h ad n F ct a (show a < n by omega) b (show b < n by omega) hn hR) (cwV 2 hts gX2_next_X2_off rfl rfl rfl (by decide +kernel) ⟨Nat.le_of_ble_eq_true rfl, Nat.le_of_ble_eq_true rfl⟩) ⟨PR.blind, va_recv hK hP (ci := 2) (q0 := 0) rfl rfl, fun U hU hW => ⟨rfl, PR.go hP hK hE hS hU hW⟩⟩ rfl rfl hl.1 rfl (lv_room (Nat.le_of_ble_eq_true rfl)) dX2_next_69 ⟨Nat.le_of_ble_eq_true rfl, Nat.le_of_ble_eq_true rfl⟩) (fun r hr0 => ?_)
                subst hr0
                refine lv_iadd hx hb dX2_next_72 ?_
                refine lv_istore (lv' := [(5, .int ((1000 * ((F 4 a) + (F 4 b))) + (s_off F a b))), (4, .int (nI b)), (3, .int (nI a)), (2, .int (1000 * y2 + y3)), (1, .int y1), (0, .ref h)]) hx hb dX2_next_73 hl (by decide) rfl (fun ls hl => ?_)
                refine lv_iload_n hx hb dX2_next_75 rfl (lv_at hl 4 rfl) ?_
                refine lv_iconst (v := (-1)) hx hb dX2_next_76 (by decide) ?_
                refine lv_icmp_eq (tgt := 89) hx hb dX2_next_77 (by decide) (fun c_77 => ?_) (fun c_77 => ?_)
                · refine lv_bipush (v := 12) hx hb dX2_next_89 (by decide) ?_
                  refine lv_iload_n hx hb dX2_next_91 rfl (lv_at hl 2 rfl) ?_
                  refine lv_imul hx hb dX2_next_92 ?_
                  refine lv_iload hx hb dX2_next_93 (lv_at hl 1 rfl) ?_
                  refine lv_iadd hx hb dX2_next_95 ?_
                  refine rv_top (y := nI a * 12 + nI b) (ab12 a b) ?_
                  refine lv_istore_n (lv' := [(1, .int (nI a * 12 + nI b)), (5, .int ((1000 * ((F 4 a) + (F 4 b))) + (s_off F a b))), (4, .int (nI b)), (3, .int (nI a)), (2, .int (1000 * y2 + y3)), (0, .ref h)]) hx hb dX2_next_96 rfl hl (by decide) rfl (fun ls hl => ?_)
                  refine lv_iload hx hb dX2_next_97 (lv_at hl 1 rfl) ?_
                  refine lv_istore_n (lv' := [(2, .int ((1000 * ((F 4 a) + (F 4 b))) + (s_off F a b))), (1, .int (nI a * 12 + nI b)), (5, .int ((1000 * ((F 4 a) + (F 4 b))) + (s_off F a b))), (4, .int (nI b)), (3, .int (nI a)), (0, .ref h)]) hx hb dX2_next_99 rfl hl (by decide) rfl (fun ls hl => ?_)
                  refine lv_iinc (v := nI (b + 1)) (lv' := [(4, .int (nI (b + 1))), (2, .int ((1000 * ((F 4 a) + (F 4 b))) + (s_off F a b))), (1, .int (nI a * 12 + nI b)), (5, .int ((1000 * ((F 4 a) + (F 4 b))) + (s_off F a b))), (3, .int (nI a)), (0, .ref h)]) hx hb dX2_next_100 hl (k := 3) rfl (nI_add b 1) (by decide) rfl (fun ls hl => ?_)
                  refine lv_goto (tgt := 19) hx hb dX2_next_103 (by decide) ?_
                  exact ih_19 (b + 1) (nI a * 12 + nI b) (F 4 a + F 4 b) (s_off F a b) (by omega) (by omega) (by rw [pairI_s hab, ← hy]; simp [pairB, c_11, (show a < n from by omega), c_25, (show b < n from by omega), c_41, c_77]) (show trO _ from by first | exact hyo | exact (tr_step hR hB (show a < n by omega) (show b < n by omega) hyo).2) ls (lv_sub hl [0, 4, 1, 2, 5] rfl)
                · refine lv_iload hx hb dX2_next_80 (lv_at hl 0 rfl) ?_
                  refine lv_iload_n hx hb dX2_next_82 rfl (lv_at hl 3 rfl) ?_
                  refine lv_icmp_lt (tgt := 89) hx hb dX2_next_83 (by decide) (fun c_83 => ?_) (fun c_83 => ?_)
                  · have hlex := (tr_step hR hB (show a < n by omega) (show b < n by omega) hyo).1.mp c_83
                    refine lv_bipush (v := 12) hx hb dX2_next_89 (by decide) ?_
                    refine lv_iload_n hx hb dX2_next_91 rfl (lv_at hl 2 rfl) ?_
                    refine lv_imul hx hb dX2_next_92 ?_
                    refine lv_iload hx hb dX2_next_93 (lv_at hl 1 rfl) ?_
                    refine lv_iadd hx hb dX2_next_95 ?_
                    refine rv_top (y := nI a * 12 + nI b) (ab12 a b) ?_
                    refine lv_istore_n (lv' := [(1, .int (nI a * 12 + nI b)), (5, .int ((1000 * ((F 4 a) + (F 4 b))) + (s_off F a b))), (4, .int (nI b)), (3, .int (nI a)), (2, .int (1000 * y2 + y3)), (0, .ref h)]) hx hb dX2_next_96 rfl hl (by decide) rfl (fun ls hl => ?_)
                    refine lv_iload hx hb dX2_next_97 (lv_at hl 1 rfl) ?_
                    refine lv_istore_n (lv' := [(2, .int ((1000 * ((F 4 a) + (F 4 b))) + (s_off F a b))), (1, .int (nI a * 12 + nI b)), (5, .int ((1000 * ((F 4 a) + (F 4 b))) + (s_off F a b))), (4, .int (nI b)), (3, .int (nI a)), (0, .ref h)]) hx hb dX2_next_99 rfl hl (by decide) rfl (fun ls hl => ?_)
                    refine lv_iinc (v := nI (b + 1)) (lv' := [(4, .int (nI (b + 1))), (2, .int ((1000 * ((F 4 a) + (F 4 b))) + (s_off F a b))), (1, .int (nI a * 12 + nI b)), (5, .int ((1000 * ((F 4 a) + (F 4 b))) + (s_off F a b))), (3, .int (nI a)), (0, .ref h)]) hx hb dX2_next_100 hl (k := 3) rfl (nI_add b 1) (by decide) rfl (fun ls hl => ?_)
                    refine lv_goto (tgt := 19) hx hb dX2_next_103 (by decide) ?_
                    exact ih_19 (b + 1) (nI a * 12 + nI b) (F 4 a + F 4 b) (s_off F a b) (by omega) (by omega) (by rw [pairI_s hab, ← hy]; unfold pairB; rw [if_pos c_41]; exact (if_pos (Or.inr hlex)).symm) (show trO _ from by first | exact hyo | exact (tr_step hR hB (show a < n by omega) (show b < n by omega) hyo).2) ls (lv_sub hl [0, 4, 1, 2, 5] rfl)
                  · have hlex := fun z => c_83 ((tr_step hR hB (show a < n by omega) (show b < n by omega) hyo).1.mpr z)
                    refine lv_goto (tgt := 100) hx hb dX2_next_86 (by decide) ?_
                    refine lv_iinc (v := nI (b + 1)) (lv' := [(4, .int (nI (b + 1))), (5, .int ((1000 * ((F 4 a) + (F 4 b))) + (s_off F a b))), (3, .int (nI a)), (2, .int (1000 * y2 + y3)), (1, .int y1), (0, .ref h)]) hx hb dX2_next_100 hl (k := 1) rfl (nI_add b 1) (by decide) rfl (fun ls hl => ?_)
                    refine lv_goto (tgt := 19) hx hb dX2_next_103 (by decide) ?_
                    exact ih_19 (b + 1) y1 y2 y3 (by omega) (by omega) (by rw [pairI_s hab, ← hy]; unfold pairB; rw [if_pos c_41]; exact (if_neg (fun z => z.elim c_77 hlex)).symm) (show trO _ from by first | exact hyo | exact (tr_step hR hB (show a < n by omega) (show b < n by omega) hyo).2) ls (lv_sub hl [0, 2, 3, 4, 5] rfl)
              · refine lv_goto (tgt := 100) hx hb dX2_next_44 (by decide) ?_
                refine lv_iinc (v := nI (b + 1)) (lv' := [(4, .int (nI (b + 1))), (3, .int (nI a)), (2, .int (1000 * y2 + y3)), (1, .int y1), (0, .ref h)]) hx hb dX2_next_100 hl (k := 0) rfl (nI_add b 1) (by decide) rfl (fun ls hl => ?_)
                refine lv_goto (tgt := 19) hx hb dX2_next_103 (by decide) ?_
                exact ih_19 (b + 1) y1 y2 y3 (by omega) (by omega) (by rw [pairI_s hab, ← hy]; simp [pairB, c_11, (show a < n from by omega), c_25, (show b < n from by omega), c_41]) (show trO _ from by first | exact hyo | exact (tr_step hR hB (show a < n by omega) (show b < n by omega) hyo).2) ls (lv_sub hl [0, 1, 2, 3, 4] rfl)
        exact L_19 (n - (a + 1)) (a + 1) x1 x2 x3 (by omega) (Nat.lt_succ_self a) ((pairI_skip (a + 1) (Nat.le_refl _)).symm) hxo ls (lv_sub hl [0, 1, 2, 3, 4] rfl)
  exact L_6 n 0 (-1) 0 0 (by omega) rfl (⟨0, 0, rfl, rfl, by omega, by omega⟩) ls (lv_sub hl [0, 1, 2, 3] rfl)

set_option maxHeartbeats 4000000 in
set_option maxRecDepth 100000 in
theorem c_X2_bout (l : Launch) (dC : Nat → ClassId) (dI : Nat → Nat → Nat) (cI : ClassId) (h : Nat) (ad : Nat → Nat) (n : Nat) (F : Nat → Nat → Int32) (ct : Nat → Int32) (sz : Nat) (a : Nat) (i_a : a < n) (b : Nat) (i_b : b < n) (q : Nat) (hq : q ≤ 2) (hn : n ≤ 12) (hR : okR n F) : Met l yX2_bout wsX2_bout ({ frames := 3, cells := 0, slots := 0, locals := 62 } : Room) (va_Pc [.ref h, .int (nI a), .int (nI b), .int (nI (500 * q))] (fun U => PW dC dI cI (wS h ad cI n F ct) sz U)) (va_Qv (fun (_ : Unit) => True) (BW dC dI (va_A (wS h ad cI n F ct) sz) (wS h ad cI n (s_mb F a b q) (s_ct ct F a b q))) (va_A (wS h ad cI n F ct) sz)) 0 0 (va_A (wS h ad cI n F ct) sz) := by
  refine Met.ofW (cc := cX2_bout) (maxL := 6) (ret := none) (by decide) rfl ?_
  intro p e s m args below meth c s₁ B hml hv
  obtain ⟨rfl, hsz, hP, hK, hD0, hE⟩ := hv
  have hx := B.exec
  have hb := B.bytes
  have hr := B.returns
  have hts := atoms_spec (ws := wsX2_bout) B.pre
  have hown : s.vm.findClass RX2 = some m.cls := findClass_of_methodNamed B.named
  have hlocks := B.notSynchronized
  subst hsz
  have hD := hD0.self (sz := s.heap.size)
  generalize hAe : va_A (wS h ad cI n F ct) s.heap.size = A at hD hE ⊢
  have hA : ∀ q : Nat, s.heap.size ≤ q → A q := fun q h9 => by rw [← hAe]; exact Or.inr h9
  have hS : va_S A s.heap s.heap [] := va_S.rf
  have hinX2 : ∀ w ∈ wsX20, w ∈ wsX2_bout := by decide +kernel
  have hl := lv_entry ([.ref h, .int (nI a), .int (nI b), .int (nI (500 * q))]) (n := 6) (Nat.le_of_ble_eq_true rfl)
  rw [lg_entry_eq]
  generalize (lg_sl ([.ref h, .int (nI a), .int (nI b), .int (nI (500 * q))]) ++ List.replicate (6 - (lg_sl ([.ref h, .int (nI a), .int (nI b), .int (nI (500 * q))])).length) Slot.unset).toArray = ls at hl ⊢
  have hl : lv_has ls 6 [(0, .ref h), (1, .int (nI a)), (2, .int (nI b)), (3, .int (nI (500 * q)))] := hl
  refine lv_aload_n hx hb dX2_bout_0 rfl (lv_at hl 0 rfl) ?_
  refine lv_iload_n hx hb dX2_bout_1 rfl (lv_at hl 1 rfl) ?_
  refine lv_iload_n hx hb dX2_bout_2 rfl (lv_at hl 2 rfl) ?_
  refine lv_iload_n hx hb dX2_bout_3 rfl (lv_at hl 3 rfl) ?_
  refine vp_callSi (W.runV (As := [.int (nI a), .int (nI b), .int (nI (500 * q))]) (rest := []) ⟨hx, hb, hml, hown, hts⟩ (c_X2_then l dC dI cI h ad n F ct a (show a < n by omega) b (show b < n by omega) (nI (500 * q)) hn hR) (cwV 3 hts gX2_bout_X2_then rfl rfl rfl (by decide +kernel) ⟨Nat.le_of_ble_eq_true rfl, Nat.le_of_ble_eq_true rfl⟩) ⟨PR.blind, va_recv hK hP (ci := 2) (q0 := 0) rfl rfl, fun U hU hW => ⟨rfl, PR.go hP hK hE hS hU hW⟩⟩ rfl rfl hl.1 rfl (lv_room (Nat.le_of_ble_eq_true rfl)) dX2_bout_4 ⟨Nat.le_of_ble_eq_true rfl, Nat.le_of_ble_eq_true rfl⟩) (fun r hr0 => ?_)
  subst hr0
  refine lv_istore (lv' := [(4, .int (s_then F a b (nI (500 * q)))), (0, .ref h), (1, .int (nI a)), (2, .int (nI b)), (3, .int (nI (500 * q)))]) hx hb dX2_bout_7 hl (by decide) rfl (fun ls hl => ?_)
  refine lv_aload_n hx hb dX2_bout_9 rfl (lv_at hl 1 rfl) ?_
  refine lv_iload_n hx hb dX2_bout_10 rfl (lv_at hl 3 rfl) ?_
  refine lv_iload_n hx hb dX2_bout_11 rfl (lv_at hl 2 rfl) ?_
  refine lv_sipush (v := 1000) hx hb dX2_bout_12 (by decide) ?_
  refine lv_iload_n hx hb dX2_bout_15 rfl (lv_at hl 4 rfl) ?_
  refine lv_isub hx hb dX2_bout_16 ?_
  refine rv_top (y := nI (500 * (2 - q))) (n500_sub hq) ?_
  refine vp_callSi (W.runV (As := [.int (nI b), .int (nI a), .int (nI (500 * (2 - q)))]) (rest := []) ⟨hx, hb, hml, hown, hts⟩ (c_X2_then l dC dI cI h ad n F ct b (show b < n by omega) a (show a < n by omega) (nI (500 * (2 - q))) hn hR) (cwV 3 hts gX2_bout_X2_then rfl rfl rfl (by decide +kernel) ⟨Nat.le_of_ble_eq_true rfl, Nat.le_of_ble_eq_true rfl⟩) ⟨PR.blind, va_recv hK hP (ci := 2) (q0 := 0) rfl rfl, fun U hU hW => ⟨rfl, PR.go hP hK hE hS hU hW⟩⟩ rfl rfl hl.1 rfl (lv_room (Nat.le_of_ble_eq_true rfl)) dX2_bout_17 ⟨Nat.le_of_ble_eq_true rfl, Nat.le_of_ble_eq_true rfl⟩) (fun r hr0 => ?_)
  subst hr0
  refine lv_istore (lv' := [(5, .int (s_then F b a (nI (500 * (2 - q))))), (4, .int (s_then F a b (nI (500 * q)))), (0, .ref h), (1, .int (nI a)), (2, .int (nI b)), (3, .int (nI (500 * q)))]) hx hb dX2_bout_20 hl (by decide) rfl (fun ls hl => ?_)
  refine lv_iload_n hx hb dX2_bout_22 rfl (lv_at hl 5 rfl) ?_
  refine lv_sipush (v := 500) hx hb dX2_bout_23 (by decide) ?_
  refine rv_icmp_eq (tgt := 71) hx hb (a := (500 * q)) (b := 500) (by omega) (by omega) dX2_bout_26 (by decide) (fun c_26 => ?_) (fun c_26 => ?_)
  · refine lv_aload_n hx hb dX2_bout_71 rfl (lv_at hl 2 rfl) ?_
    refine lv_iload_n hx hb dX2_bout_72 rfl (lv_at hl 3 rfl) ?_
    refine lv_iload hx hb dX2_bout_73 (lv_at hl 1 rfl) ?_
    have hPc := hP.sub (ws' := (wS h ad cI n F ct)) [0, 1, 2, 3, 4, 5, 6, 7] rfl
    have hDc := hD.sub (ws' := (wS h ad cI n F ct)) [0, 1, 2, 3, 4, 5, 6, 7] (by decide) rfl
    have hFc := va_free (wc := (wS h ad cI n F ct)) hD hS hA [0, 1, 2, 3, 4, 5, 6, 7] rfl
    refine va_callv (va_runV (As := [.int (nI a), .int (s_then F a b (nI (500 * q)))]) (rest := []) ⟨hx, hb, hml, hown, hts⟩ (c_X2_setRating l dC dI cI h ad n F ct s.heap.size a (show a < n by omega) (s_then F a b (nI (500 * q))) hn) (cwV 2 hts gX2_bout_X2_setRating rfl rfl rfl (by decide +kernel) ⟨Nat.le_of_ble_eq_true rfl, Nat.le_of_ble_eq_true rfl⟩) ⟨PW.blind, va_recv hK hP (ci := 2) (q0 := 0) rfl rfl, fun U hU hW => ⟨rfl, PW.go hPc hK hDc hE hS hFc hU hW⟩⟩ rfl rfl hl.1 rfl (lv_room (Nat.le_of_ble_eq_true rfl)) dX2_bout_75 ⟨Nat.le_of_ble_eq_true rfl, Nat.le_of_ble_eq_true rfl⟩) hS (fun q _ h9 => hFc q h9) hFc (fun u9 t9 H1 locs ht9 hvm9 hw9 hB9 hz9 hk9 hS => ?_)
    obtain ⟨hP9, hD9⟩ := hB9
    rw [ht9] at hP9
    obtain ⟨hP, hD⟩ := va_join (wr := []) (w1 := wS h ad cI n (s_set F a (s_then F a b (nI (500 * q)))) ct) hP hD [0, 1, 2, 3, 4, 5, 6, 7] [] rfl rfl (by decide) (by decide) hk9 hFc hP9 hD9
    generalize H1 = H at hP hS ⊢
    have hP : va_P (dC, dI) vwCl (wS h ad cI n (s_set F a (s_then F a b (nI (500 * q)))) ct) H := hP
    have hD : va_D A (wS h ad cI n (s_set F a (s_then F a b (nI (500 * q)))) ct) := hD
    refine lv_aload_n hx hb dX2_bout_78 rfl (lv_at hl 2 rfl) ?_
    refine lv_iload_n hx hb dX2_bout_79 rfl (lv_at hl 4 rfl) ?_
    refine lv_iload hx hb dX2_bout_80 (lv_at hl 0 rfl) ?_
    have hPc := hP.sub (ws' := (wS h ad cI n (s_set F a (s_then F a b (nI (500 * q)))) ct)) [0, 1, 2, 3, 4, 5, 6, 7] rfl
    have hDc := hD.sub (ws' := (wS h ad cI n (s_set F a (s_then F a b (nI (500 * q)))) ct)) [0, 1, 2, 3, 4, 5, 6, 7] (by decide) rfl
    have hFc := va_free (wc := (wS h ad cI n (s_set F a (s_then F a b (nI (500 * q)))) ct)) hD hS hA [0, 1, 2, 3, 4, 5, 6, 7] rfl
    refine va_callv (va_runV (As := [.int (nI b), .int (s_then F b a (nI (500 * (2 - q))))]) (rest := []) ⟨hx, hb, hml, hown, hts⟩ (c_X2_setRating l dC dI cI h ad n (s_set F a (s_then F a b (nI (500 * q)))) ct H.size b (show b < n by omega) (s_then F b a (nI (500 * (2 - q)))) hn) (cwV 2 hts gX2_bout_X2_setRating rfl rfl rfl (by decide +kernel) ⟨Nat.le_of_ble_eq_true rfl, Nat.le_of_ble_eq_true rfl⟩) ⟨PW.blind, va_recv hK hP (ci := 2) (q0 := 0) rfl rfl, fun U hU hW => ⟨rfl, PW.go hPc hK hDc hE hS hFc hU hW⟩⟩ rfl rfl hl.1 rfl (lv_room (Nat.le_of_ble_eq_true rfl)) dX2_bout_82 ⟨Nat.le_of_ble_eq_true rfl, Nat.le_of_ble_eq_true rfl⟩) hS (fun q _ h9 => hFc q h9) hFc (fun u9 t9 H1 locs ht9 hvm9 hw9 hB9 hz9 hk9 hS => ?_)
    obtain ⟨hP9, hD9⟩ := hB9
    rw [ht9] at hP9
    obtain ⟨hP, hD⟩ := va_join (wr := []) (w1 := wS h ad cI n (s_set (s_set F a (s_then F a b (nI (500 * q)))) b (s_then F b a (nI (500 * (2 - q))))) ct) hP hD [0, 1, 2, 3, 4, 5, 6, 7] [] rfl rfl (by decide) (by decide) hk9 hFc hP9 hD9
    generalize H1 = H at hP hS ⊢
    have hP : va_P (dC, dI) vwCl (wS h ad cI n (s_set (s_set F a (s_then F a b (nI (500 * q)))) b (s_then F b a (nI (500 * (2 - q))))) ct) H := hP
    have hD : va_D A (wS h ad cI n (s_set (s_set F a (s_then F a b (nI (500 * q)))) b (s_then F b a (nI (500 * (2 - q))))) ct) := hD
    refine lv_aload_n hx hb dX2_bout_85 rfl (lv_at hl 2 rfl) ?_
    refine lv_iload_n hx hb dX2_bout_86 rfl (lv_at hl 3 rfl) ?_
    refine lv_iload_n hx hb dX2_bout_87 rfl (lv_at hl 5 rfl) ?_
    have hPc := hP.sub (ws' := (wS h ad cI n (s_set (s_set F a (s_then F a b (nI (500 * q)))) b (s_then F b a (nI (500 * (2 - q))))) ct)) [0, 1, 2, 3, 4, 5, 6, 7] rfl
    have hDc := hD.sub (ws' := (wS h ad cI n (s_set (s_set F a (s_then F a b (nI (500 * q)))) b (s_then F b a (nI (500 * (2 - q))))) ct)) [0, 1, 2, 3, 4, 5, 6, 7] (by decide) rfl
    have hFc := va_free (wc := (wS h ad cI n (s_set (s_set F a (s_then F a b (nI (500 * q)))) b (s_then F b a (nI (500 * (2 - q))))) ct)) hD hS hA [0, 1, 2, 3, 4, 5, 6, 7] rfl
    refine va_callv (va_runV (As := [.int (nI a), .int (nI (500 * q))]) (rest := []) ⟨hx, hb, hml, hown, hts⟩ (c_X2_note l dC dI cI h ad n (s_set (s_set F a (s_then F a b (nI (500 * q)))) b (s_then F b a (nI (500 * (2 - q))))) ct H.size a (show a < n by omega) q hq hn) (cwV 2 hts gX2_bout_X2_note rfl rfl rfl (by decide +kernel) ⟨Nat.le_of_ble_eq_true rfl, Nat.le_of_ble_eq_true rfl⟩) ⟨PW.blind, va_recv hK hP (ci := 2) (q0 := 0) rfl rfl, fun U hU hW => ⟨rfl, PW.go hPc hK hDc hE hS hFc hU hW⟩⟩ rfl rfl hl.1 rfl (lv_room (Nat.le_of_ble_eq_true rfl)) dX2_bout_88 ⟨Nat.le_of_ble_eq_true rfl, Nat.le_of_ble_eq_true rfl⟩) hS (fun q _ h9 => hFc q h9) hFc (fun u9 t9 H1 locs ht9 hvm9 hw9 hB9 hz9 hk9 hS => ?_)
    obtain ⟨hP9, hD9⟩ := hB9
    rw [ht9] at hP9
    obtain ⟨hP, hD⟩ := va_join (wr := []) (w1 := wS h ad cI n (s_note (s_set (s_set F a (s_then F a b (nI (500 * q)))) b (s_then F b a (nI (500 * (2 - q))))) a q) ct) hP hD [0, 1, 2, 3, 4, 5, 6, 7] [] rfl rfl (by decide) (by decide) hk9 hFc hP9 hD9
    generalize H1 = H at hP hS ⊢
    have hP : va_P (dC, dI) vwCl (wS h ad cI n (s_note (s_set (s_set F a (s_then F a b (nI (500 * q)))) b (s_then F b a (nI (500 * (2 - q))))) a q) ct) H := hP
    have hD : va_D A (wS h ad cI n (s_note (s_set (s_set F a (s_then F a b (nI (500 * q)))) b (s_then F b a (nI (500 * (2 - q))))) a q) ct) := hD
    refine lv_aload_n hx hb dX2_bout_91 rfl (lv_at hl 2 rfl) ?_
    refine lv_iload_n hx hb dX2_bout_92 rfl (lv_at hl 4 rfl) ?_
    refine lv_sipush (v := 1000) hx hb dX2_bout_93 (by decide) ?_
    refine lv_iload_n hx hb dX2_bout_96 rfl (lv_at hl 5 rfl) ?_
    refine lv_isub hx hb dX2_bout_97 ?_
    refine rv_top (y := nI (500 * (2 - q))) (n500_sub hq) ?_
    have hPc := hP.sub (ws' := (wS h ad cI n (s_note (s_set (s_set F a (s_then F a b (nI (500 * q)))) b (s_then F b a (nI (500 * (2 - q))))) a q) ct)) [0, 1, 2, 3, 4, 5, 6, 7] rfl
    have hDc := hD.sub (ws' := (wS h ad cI n (s_note (s_set (s_set F a (s_then F a b (nI (500 * q)))) b (s_then F b a (nI (500 * (2 - q))))) a q) ct)) [0, 1, 2, 3, 4, 5, 6, 7] (by decide) rfl
    have hFc := va_free (wc := (wS h ad cI n (s_note (s_set (s_set F a (s_then F a b (nI (500 * q)))) b (s_then F b a (nI (500 * (2 - q))))) a q) ct)) hD hS hA [0, 1, 2, 3, 4, 5, 6, 7] rfl
    refine va_callv (va_runV (As := [.int (nI b), .int (nI (500 * (2 - q)))]) (rest := []) ⟨hx, hb, hml, hown, hts⟩ (c_X2_note l dC dI cI h ad n (s_note (s_set (s_set F a (s_then F a b (nI (500 * q)))) b (s_then F b a (nI (500 * (2 - q))))) a q) ct H.size b (show b < n by omega) (2 - q) (Nat.sub_le 2 q) hn) (cwV 2 hts gX2_bout_X2_note rfl rfl rfl (by decide +kernel) ⟨Nat.le_of_ble_eq_true rfl, Nat.le_of_ble_eq_true rfl⟩) ⟨PW.blind, va_recv hK hP (ci := 2) (q0 := 0) rfl rfl, fun U hU hW => ⟨rfl, PW.go hPc hK hDc hE hS hFc hU hW⟩⟩ rfl rfl hl.1 rfl (lv_room (Nat.le_of_ble_eq_true rfl)) dX2_bout_98 ⟨Nat.le_of_ble_eq_true rfl, Nat.le_of_ble_eq_true rfl⟩) hS (fun q _ h9 => hFc q h9) hFc (fun u9 t9 H1 locs ht9 hvm9 hw9 hB9 hz9 hk9 hS => ?_)
    obtain ⟨hP9, hD9⟩ := hB9
    rw [ht9] at hP9
    obtain ⟨hP, hD⟩ := va_join (wr := []) (w1 := wS h ad cI n (s_note (s_note (s_set (s_set F a (s_then F a b (nI (500 * q)))) b (s_then F b a (nI (500 * (2 - q))))) a q) b (2 - q)) ct) hP hD [0, 1, 2, 3, 4, 5, 6, 7] [] rfl rfl (by decide) (by decide) hk9 hFc hP9 hD9
    generalize H1 = H at hP hS ⊢
    have hP : va_P (dC, dI) vwCl (wS h ad cI n (s_note (s_note (s_set (s_set F a (s_then F a b (nI (500 * q)))) b (s_then F b a (nI (500 * (2 - q))))) a q) b (2 - q)) ct) H := hP
    have hD : va_D A (wS h ad cI n (s_note (s_note (s_set (s_set F a (s_then F a b (nI (500 * q)))) b (s_then F b a (nI (500 * (2 - q))))) a q) b (2 - q)) ct) := hD
    refine lv_aload_n hx hb dX2_bout_101 rfl (lv_at hl 2 rfl) ?_
    refine lv_dup hx hb dX2_bout_102 rfl ?_
    refine va_get (D := (dC, dI)) (ci := 2) (v := .int (ct 1)) (C := RX2) (T := TX2) (N := 11) hx hb hts hinX2 hown hK hP 0 rfl rfl 2 (by decide) (hts (.fieldLink RX2 46 "WrestleBookModel$State" "bouts" "I") (by decide +kernel)) (fun _ h9 => h9) rfl dX2_bout_103 ?_
    refine lv_iconst (v := 1) hx hb dX2_bout_106 (by decide) ?_
    refine lv_iadd hx hb dX2_bout_107 ?_
    refine va_put (D := (dC, dI)) (ci := 2) (v := .int ((ct 1) + 1)) (ty := .int) (C := RX2) (T := TX2) (N := 11) hx hb hts hinX2 tyX2 tyX2_ok nmX2 hown hK hP hD hS 0 rfl rfl 2 (by decide) (hts (.fieldLink RX2 46 "WrestleBookModel$State" "bouts" "I") (by decide +kernel)) (fun _ h9 => h9) rfl (by decide +kernel) rfl rfl (Nat.le_of_ble_eq_true rfl) dX2_bout_108 (fun H locs hP hD hS => ?_)
    have hP : va_P (dC, dI) vwCl (wS h ad cI n (s_note (s_note (s_set (s_set F a (s_then F a b (nI (500 * q)))) b (s_then F b a (nI (500 * (2 - q))))) a q) b (2 - q)) (upd ct 1 ((ct 1) + 1))) H := hP
    have hD : va_D A (wS h ad cI n (s_note (s_note (s_set (s_set F a (s_then F a b (nI (500 * q)))) b (s_then F b a (nI (500 * (2 - q))))) a q) b (2 - q)) (upd ct 1 ((ct 1) + 1))) := hD
    have hP8 : va_P (dC, dI) vwCl (wS h ad cI n (s_mb F a b q) (s_ct ct F a b q)) H := by unfold s_ct; rw [s_upE (by omega)]; rw [show upd ct 2 (ct 2 + bI false) = ct from upd_0 ct 2]; exact hP
    have hD8 : va_D A (wS h ad cI n (s_mb F a b q) (s_ct ct F a b q)) := by unfold s_ct; rw [s_upE (by omega)]; rw [show upd ct 2 (ct 2 + bI false) = ct from upd_0 ct 2]; exact hD
    exact W.vret hx hb hr (fun t ht hW => ⟨⟨(), rfl, trivial, by rw [ht]; exact hP8, hD8⟩, hS.F ht⟩) hS.2.2 dX2_bout_111
  · refine lv_aload_n hx hb dX2_bout_29 rfl (lv_at hl 2 rfl) ?_
    refine lv_dup hx hb dX2_bout_30 rfl ?_
    refine va_get (D := (dC, dI)) (ci := 2) (v := .int (ct 2)) (C := RX2) (T := TX2) (N := 11) hx hb hts hinX2 hown hK hP 0 rfl rfl 3 (by decide) (hts (.fieldLink RX2 49 "WrestleBookModel$State" "upsets" "I") (by decide +kernel)) (fun _ h9 => h9) rfl dX2_bout_31 ?_
    refine lv_iload_n hx hb dX2_bout_34 rfl (lv_at hl 5 rfl) ?_
    refine lv_sipush (v := 1000) hx hb dX2_bout_35 (by decide) ?_
    refine rv_icmp_ne (tgt := 50) hx hb (a := (500 * q)) (b := 1000) (by omega) (by omega) dX2_bout_38 (by decide) (fun c_38 => ?_) (fun c_38 => ?_)
    · refine lv_aload_n hx hb dX2_bout_50 rfl (lv_at hl 2 rfl) ?_
      refine lv_iload_n hx hb dX2_bout_51 rfl (lv_at hl 4 rfl) ?_
      refine lv_iload_n hx hb dX2_bout_52 rfl (lv_at hl 3 rfl) ?_
      refine vp_callSi (W.runV (As := [.int (nI b), .int (nI a)]) (rest := [.int (ct 2), .ref h]) ⟨hx, hb, hml, hown, hts⟩ (c_X2_expected l dC dI cI h ad n F ct b (show b < n by omega) a (show a < n by omega) hn hR) (cwV 2 hts gX2_bout_X2_expected rfl rfl rfl (by decide +kernel) ⟨Nat.le_of_ble_eq_true rfl, Nat.le_of_ble_eq_true rfl⟩) ⟨PR.blind, va_recv hK hP (ci := 2) (q0 := 0) rfl rfl, fun U hU hW => ⟨rfl, PR.go hP hK hE hS hU hW⟩⟩ rfl rfl hl.1 rfl (lv_room (Nat.le_of_ble_eq_true rfl)) dX2_bout_53 ⟨Nat.le_of_ble_eq_true rfl, Nat.le_of_ble_eq_true rfl⟩) (fun r hr0 => ?_)
      subst hr0
      refine lv_sipush (v := 400) hx hb dX2_bout_56 (by decide) ?_
      refine lv_icmp_ge (tgt := 66) hx hb dX2_bout_59 (by decide) (fun c_59 => ?_) (fun c_59 => ?_)
      · refine lv_iconst (v := 0) hx hb dX2_bout_66 (by decide) ?_
        refine lv_iadd hx hb dX2_bout_67 ?_
        refine rv_top (y := ct 2 + bI (s_up F a b (nI q))) (by rw [s_upLF hq (by omega) c_59]; rfl) ?_
        refine va_put (D := (dC, dI)) (ci := 2) (v := .int (ct 2 + bI (s_up F a b (nI q)))) (ty := .int) (C := RX2) (T := TX2) (N := 11) hx hb hts hinX2 tyX2 tyX2_ok nmX2 hown hK hP hD hS 0 rfl rfl 3 (by decide) (hts (.fieldLink RX2 49 "WrestleBookModel$State" "upsets" "I") (by decide +kernel)) (fun _ h9 => h9) rfl (by decide +kernel) rfl rfl (Nat.le_of_ble_eq_true rfl) dX2_bout_68 (fun H locs hP hD hS => ?_)
        have hP : va_P (dC, dI) vwCl (wS h ad cI n F (upd ct 2 (ct 2 + bI (s_up F a b (nI q))))) H := hP
        have hD : va_D A (wS h ad cI n F (upd ct 2 (ct 2 + bI (s_up F a b (nI q))))) := hD
        refine lv_aload_n hx hb dX2_bout_71 rfl (lv_at hl 2 rfl) ?_
        refine lv_iload_n hx hb dX2_bout_72 rfl (lv_at hl 3 rfl) ?_
        refine lv_iload hx hb dX2_bout_73 (lv_at hl 1 rfl) ?_
        have hPc := hP.sub (ws' := (wS h ad cI n F (upd ct 2 (ct 2 + bI (s_up F a b (nI q)))))) [0, 1, 2, 3, 4, 5, 6, 7] rfl
        have hDc := hD.sub (ws' := (wS h ad cI n F (upd ct 2 (ct 2 + bI (s_up F a b (nI q)))))) [0, 1, 2, 3, 4, 5, 6, 7] (by decide) rfl
        have hFc := va_free (wc := (wS h ad cI n F (upd ct 2 (ct 2 + bI (s_up F a b (nI q)))))) hD hS hA [0, 1, 2, 3, 4, 5, 6, 7] rfl
        refine va_callv (va_runV (As := [.int (nI a), .int (s_then F a b (nI (500 * q)))]) (rest := []) ⟨hx, hb, hml, hown, hts⟩ (c_X2_setRating l dC dI cI h ad n F (upd ct 2 (ct 2 + bI (s_up F a b (nI q)))) H.size a (show a < n by omega) (s_then F a b (nI (500 * q))) hn) (cwV 2 hts gX2_bout_X2_setRating rfl rfl rfl (by decide +kernel) ⟨Nat.le_of_ble_eq_true rfl, Nat.le_of_ble_eq_true rfl⟩) ⟨PW.blind, va_recv hK hP (ci := 2) (q0 := 0) rfl rfl, fun U hU hW => ⟨rfl, PW.go hPc hK hDc hE hS hFc hU hW⟩⟩ rfl rfl hl.1 rfl (lv_room (Nat.le_of_ble_eq_true rfl)) dX2_bout_75 ⟨Nat.le_of_ble_eq_true rfl, Nat.le_of_ble_eq_true rfl⟩) hS (fun q _ h9 => hFc q h9) hFc (fun u9 t9 H1 locs ht9 hvm9 hw9 hB9 hz9 hk9 hS => ?_)
        obtain ⟨hP9, hD9⟩ := hB9
        rw [ht9] at hP9
        obtain ⟨hP, hD⟩ := va_join (wr := []) (w1 := wS h ad cI n (s_set F a (s_then F a b (nI (500 * q)))) (upd ct 2 (ct 2 + bI (s_up F a b (nI q))))) hP hD [0, 1, 2, 3, 4, 5, 6, 7] [] rfl rfl (by decide) (by decide) hk9 hFc hP9 hD9
        generalize H1 = H at hP hS ⊢
        have hP : va_P (dC, dI) vwCl (wS h ad cI n (s_set F a (s_then F a b (nI (500 * q)))) (upd ct 2 (ct 2 + bI (s_up F a b (nI q))))) H := hP
        have hD : va_D A (wS h ad cI n (s_set F a (s_then F a b (nI (500 * q)))) (upd ct 2 (ct 2 + bI (s_up F a b (nI q))))) := hD
        refine lv_aload_n hx hb dX2_bout_78 rfl (lv_at hl 2 rfl) ?_
        refine lv_iload_n hx hb dX2_bout_79 rfl (lv_at hl 4 rfl) ?_
        refine lv_iload hx hb dX2_bout_80 (lv_at hl 0 rfl) ?_
        have hPc := hP.sub (ws' := (wS h ad cI n (s_set F a (s_then F a b (nI (500 * q)))) (upd ct 2 (ct 2 + bI (s_up F a b (nI q)))))) [0, 1, 2, 3, 4, 5, 6, 7] rfl
        have hDc := hD.sub (ws' := (wS h ad cI n (s_set F a (s_then F a b (nI (500 * q)))) (upd ct 2 (ct 2 + bI (s_up F a b (nI q)))))) [0, 1, 2, 3, 4, 5, 6, 7] (by decide) rfl
        have hFc := va_free (wc := (wS h ad cI n (s_set F a (s_then F a b (nI (500 * q)))) (upd ct 2 (ct 2 + bI (s_up F a b (nI q)))))) hD hS hA [0, 1, 2, 3, 4, 5, 6, 7] rfl
        refine va_callv (va_runV (As := [.int (nI b), .int (s_then F b a (nI (500 * (2 - q))))]) (rest := []) ⟨hx, hb, hml, hown, hts⟩ (c_X2_setRating l dC dI cI h ad n (s_set F a (s_then F a b (nI (500 * q)))) (upd ct 2 (ct 2 + bI (s_up F a b (nI q)))) H.size b (show b < n by omega) (s_then F b a (nI (500 * (2 - q)))) hn) (cwV 2 hts gX2_bout_X2_setRating rfl rfl rfl (by decide +kernel) ⟨Nat.le_of_ble_eq_true rfl, Nat.le_of_ble_eq_true rfl⟩) ⟨PW.blind, va_recv hK hP (ci := 2) (q0 := 0) rfl rfl, fun U hU hW => ⟨rfl, PW.go hPc hK hDc hE hS hFc hU hW⟩⟩ rfl rfl hl.1 rfl (lv_room (Nat.le_of_ble_eq_true rfl)) dX2_bout_82 ⟨Nat.le_of_ble_eq_true rfl, Nat.le_of_ble_eq_true rfl⟩) hS (fun q _ h9 => hFc q h9) hFc (fun u9 t9 H1 locs ht9 hvm9 hw9 hB9 hz9 hk9 hS => ?_)
        obtain ⟨hP9, hD9⟩ := hB9
        rw [ht9] at hP9
        obtain ⟨hP, hD⟩ := va_join (wr := []) (w1 := wS h ad cI n (s_set (s_set F a (s_then F a b (nI (500 * q)))) b (s_then F b a (nI (500 * (2 - q))))) (upd ct 2 (ct 2 + bI (s_up F a b (nI q))))) hP hD [0, 1, 2, 3, 4, 5, 6, 7] [] rfl rfl (by decide) (by decide) hk9 hFc hP9 hD9
        generalize H1 = H at hP hS ⊢
        have hP : va_P (dC, dI) vwCl (wS h ad cI n (s_set (s_set F a (s_then F a b (nI (500 * q)))) b (s_then F b a (nI (500 * (2 - q))))) (upd ct 2 (ct 2 + bI (s_up F a b (nI q))))) H := hP
        have hD : va_D A (wS h ad cI n (s_set (s_set F a (s_then F a b (nI (500 * q)))) b (s_then F b a (nI (500 * (2 - q))))) (upd ct 2 (ct 2 + bI (s_up F a b (nI q))))) := hD
        refine lv_aload_n hx hb dX2_bout_85 rfl (lv_at hl 2 rfl) ?_
        refine lv_iload_n hx hb dX2_bout_86 rfl (lv_at hl 3 rfl) ?_
        refine lv_iload_n hx hb dX2_bout_87 rfl (lv_at hl 5 rfl) ?_
        have hPc := hP.sub (ws' := (wS h ad cI n (s_set (s_set F a (s_then F a b (nI (500 * q)))) b (s_then F b a (nI (500 * (2 - q))))) (upd ct 2 (ct 2 + bI (s_up F a b (nI q)))))) [0, 1, 2, 3, 4, 5, 6, 7] rfl
        have hDc := hD.sub (ws' := (wS h ad cI n (s_set (s_set F a (s_then F a b (nI (500 * q)))) b (s_then F b a (nI (500 * (2 - q))))) (upd ct 2 (ct 2 + bI (s_up F a b (nI q)))))) [0, 1, 2, 3, 4, 5, 6, 7] (by decide) rfl
        have hFc := va_free (wc := (wS h ad cI n (s_set (s_set F a (s_then F a b (nI (500 * q)))) b (s_then F b a (nI (500 * (2 - q))))) (upd ct 2 (ct 2 + bI (s_up F a b (nI q)))))) hD hS hA [0, 1, 2, 3, 4, 5, 6, 7] rfl
        refine va_callv (va_runV (As := [.int (nI a), .int (nI (500 * q))]) (rest := []) ⟨hx, hb, hml, hown, hts⟩ (c_X2_note l dC dI cI h ad n (s_set (s_set F a (s_then F a b (nI (500 * q)))) b (s_then F b a (nI (500 * (2 - q))))) (upd ct 2 (ct 2 + bI (s_up F a b (nI q)))) H.size a (show a < n by omega) q hq hn) (cwV 2 hts gX2_bout_X2_note rfl rfl rfl (by decide +kernel) ⟨Nat.le_of_ble_eq_true rfl, Nat.le_of_ble_eq_true rfl⟩) ⟨PW.blind, va_recv hK hP (ci := 2) (q0 := 0) rfl rfl, fun U hU hW => ⟨rfl, PW.go hPc hK hDc hE hS hFc hU hW⟩⟩ rfl rfl hl.1 rfl (lv_room (Nat.le_of_ble_eq_true rfl)) dX2_bout_88 ⟨Nat.le_of_ble_eq_true rfl, Nat.le_of_ble_eq_true rfl⟩) hS (fun q _ h9 => hFc q h9) hFc (fun u9 t9 H1 locs ht9 hvm9 hw9 hB9 hz9 hk9 hS => ?_)
        obtain ⟨hP9, hD9⟩ := hB9
        rw [ht9] at hP9
        obtain ⟨hP, hD⟩ := va_join (wr := []) (w1 := wS h ad cI n (s_note (s_set (s_set F a (s_then F a b (nI (500 * q)))) b (s_then F b a (nI (500 * (2 - q))))) a q) (upd ct 2 (ct 2 + bI (s_up F a b (nI q))))) hP hD [0, 1, 2, 3, 4, 5, 6, 7] [] rfl rfl (by decide) (by decide) hk9 hFc hP9 hD9
        generalize H1 = H at hP hS ⊢
        have hP : va_P (dC, dI) vwCl (wS h ad cI n (s_note (s_set (s_set F a (s_then F a b (nI (500 * q)))) b (s_then F b a (nI (500 * (2 - q))))) a q) (upd ct 2 (ct 2 + bI (s_up F a b (nI q))))) H := hP
        have hD : va_D A (wS h ad cI n (s_note (s_set (s_set F a (s_then F a b (nI (500 * q)))) b (s_then F b a (nI (500 * (2 - q))))) a q) (upd ct 2 (ct 2 + bI (s_up F a b (nI q))))) := hD
        refine lv_aload_n hx hb dX2_bout_91 rfl (lv_at hl 2 rfl) ?_
        refine lv_iload_n hx hb dX2_bout_92 rfl (lv_at hl 4 rfl) ?_
        refine lv_sipush (v := 1000) hx hb dX2_bout_93 (by decide) ?_
        refine lv_iload_n hx hb dX2_bout_96 rfl (lv_at hl 5 rfl) ?_
        refine lv_isub hx hb dX2_bout_97 ?_
        refine rv_top (y := nI (500 * (2 - q))) (n500_sub hq) ?_
        have hPc := hP.sub (ws' := (wS h ad cI n (s_note (s_set (s_set F a (s_then F a b (nI (500 * q)))) b (s_then F b a (nI (500 * (2 - q))))) a q) (upd ct 2 (ct 2 + bI (s_up F a b (nI q)))))) [0, 1, 2, 3, 4, 5, 6, 7] rfl
        have hDc := hD.sub (ws' := (wS h ad cI n (s_note (s_set (s_set F a (s_then F a b (nI (500 * q)))) b (s_then F b a (nI (500 * (2 - q))))) a q) (upd ct 2 (ct 2 + bI (s_up F a b (nI q)))))) [0, 1, 2, 3, 4, 5, 6, 7] (by decide) rfl
        have hFc := va_free (wc := (wS h ad cI n (s_note (s_set (s_set F a (s_then F a b (nI (500 * q)))) b (s_then F b a (nI (500 * (2 - q))))) a q) (upd ct 2 (ct 2 + bI (s_up F a b (nI q)))))) hD hS hA [0, 1, 2, 3, 4, 5, 6, 7] rfl
        refine va_callv (va_runV (As := [.int (nI b), .int (nI (500 * (2 - q)))]) (rest := []) ⟨hx, hb, hml, hown, hts⟩ (c_X2_note l dC dI cI h ad n (s_note (s_set (s_set F a (s_then F a b (nI (500 * q)))) b (s_then F b a (nI (500 * (2 - q))))) a q) (upd ct 2 (ct 2 + bI (s_up F a b (nI q)))) H.size b (show b < n by omega) (2 - q) (Nat.sub_le 2 q) hn) (cwV 2 hts gX2_bout_X2_note rfl rfl rfl (by decide +kernel) ⟨Nat.le_of_ble_eq_true rfl, Nat.le_of_ble_eq_true rfl⟩) ⟨PW.blind, va_recv hK hP (ci := 2) (q0 := 0) rfl rfl, fun U hU hW => ⟨rfl, PW.go hPc hK hDc hE hS hFc hU hW⟩⟩ rfl rfl hl.1 rfl (lv_room (Nat.le_of_ble_eq_true rfl)) dX2_bout_98 ⟨Nat.le_of_ble_eq_true rfl, Nat.le_of_ble_eq_true rfl⟩) hS (fun q _ h9 => hFc q h9) hFc (fun u9 t9 H1 locs ht9 hvm9 hw9 hB9 hz9 hk9 hS => ?_)
        obtain ⟨hP9, hD9⟩ := hB9
        rw [ht9] at hP9
        obtain ⟨hP, hD⟩ := va_join (wr := []) (w1 := wS h ad cI n (s_note (s_note (s_set (s_set F a (s_then F a b (nI (500 * q)))) b (s_then F b a (nI (500 * (2 - q))))) a q) b (2 - q)) (upd ct 2 (ct 2 + bI (s_up F a b (nI q))))) hP hD [0, 1, 2, 3, 4, 5, 6, 7] [] rfl rfl (by decide) (by decide) hk9 hFc hP9 hD9
        generalize H1 = H at hP hS ⊢
        have hP : va_P (dC, dI) vwCl (wS h ad cI n (s_note (s_note (s_set (s_set F a (s_then F a b (nI (500 * q)))) b (s_then F b a (nI (500 * (2 - q))))) a q) b (2 - q)) (upd ct 2 (ct 2 + bI (s_up F a b (nI q))))) H := hP
        have hD : va_D A (wS h ad cI n (s_note (s_note (s_set (s_set F a (s_then F a b (nI (500 * q)))) b (s_then F b a (nI (500 * (2 - q))))) a q) b (2 - q)) (upd ct 2 (ct 2 + bI (s_up F a b (nI q))))) := hD
        refine lv_aload_n hx hb dX2_bout_101 rfl (lv_at hl 2 rfl) ?_
        refine lv_dup hx hb dX2_bout_102 rfl ?_
        refine va_get (D := (dC, dI)) (ci := 2) (v := .int ((upd ct 2 (ct 2 + bI (s_up F a b (nI q)))) 1)) (C := RX2) (T := TX2) (N := 11) hx hb hts hinX2 hown hK hP 0 rfl rfl 2 (by decide) (hts (.fieldLink RX2 46 "WrestleBookModel$State" "bouts" "I") (by decide +kernel)) (fun _ h9 => h9) rfl dX2_bout_103 ?_
        refine lv_iconst (v := 1) hx hb dX2_bout_106 (by decide) ?_
        refine lv_iadd hx hb dX2_bout_107 ?_
        refine va_put (D := (dC, dI)) (ci := 2) (v := .int (((upd ct 2 (ct 2 + bI (s_up F a b (nI q)))) 1) + 1)) (ty := .int) (C := RX2) (T := TX2) (N := 11) hx hb hts hinX2 tyX2 tyX2_ok nmX2 hown hK hP hD hS 0 rfl rfl 2 (by decide) (hts (.fieldLink RX2 46 "WrestleBookModel$State" "bouts" "I") (by decide +kernel)) (fun _ h9 => h9) rfl (by decide +kernel) rfl rfl (Nat.le_of_ble_eq_true rfl) dX2_bout_108 (fun H locs hP hD hS => ?_)
        have hP : va_P (dC, dI) vwCl (wS h ad cI n (s_note (s_note (s_set (s_set F a (s_then F a b (nI (500 * q)))) b (s_then F b a (nI (500 * (2 - q))))) a q) b (2 - q)) (upd (upd ct 2 (ct 2 + bI (s_up F a b (nI q)))) 1 (((upd ct 2 (ct 2 + bI (s_up F a b (nI q)))) 1) + 1))) H := hP
        have hD : va_D A (wS h ad cI n (s_note (s_note (s_set (s_set F a (s_then F a b (nI (500 * q)))) b (s_then F b a (nI (500 * (2 - q))))) a q) b (2 - q)) (upd (upd ct 2 (ct 2 + bI (s_up F a b (nI q)))) 1 (((upd ct 2 (ct 2 + bI (s_up F a b (nI q)))) 1) + 1))) := hD
        have hP8 : va_P (dC, dI) vwCl (wS h ad cI n (s_mb F a b q) (s_ct ct F a b q)) H := by unfold s_ct; exact hP
        have hD8 : va_D A (wS h ad cI n (s_mb F a b q) (s_ct ct F a b q)) := by unfold s_ct; exact hD
        exact W.vret hx hb hr (fun t ht hW => ⟨⟨(), rfl, trivial, by rw [ht]; exact hP8, hD8⟩, hS.F ht⟩) hS.2.2 dX2_bout_111
      · refine lv_iconst (v := 1) hx hb dX2_bout_62 (by decide) ?_
        refine lv_goto (tgt := 67) hx hb dX2_bout_63 (by decide) ?_
        refine lv_iadd hx hb dX2_bout_67 ?_
        refine rv_top (y := ct 2 + bI (s_up F a b (nI q))) (by rw [s_upLT hq (by omega) c_59]; rfl) ?_
        refine va_put (D := (dC, dI)) (ci := 2) (v := .int (ct 2 + bI (s_up F a b (nI q)))) (ty := .int) (C := RX2) (T := TX2) (N := 11) hx hb hts hinX2 tyX2 tyX2_ok nmX2 hown hK hP hD hS 0 rfl rfl 3 (by decide) (hts (.fieldLink RX2 49 "WrestleBookModel$State" "upsets" "I") (by decide +kernel)) (fun _ h9 => h9) rfl (by decide +kernel) rfl rfl (Nat.le_of_ble_eq_true rfl) dX2_bout_68 (fun H locs hP hD hS => ?_)
        have hP : va_P (dC, dI) vwCl (wS h ad cI n F (upd ct 2 (ct 2 + bI (s_up F a b (nI q))))) H := hP
        have hD : va_D A (wS h ad cI n F (upd ct 2 (ct 2 + bI (s_up F a b (nI q))))) := hD
        refine lv_aload_n hx hb dX2_bout_71 rfl (lv_at hl 2 rfl) ?_
        refine lv_iload_n hx hb dX2_bout_72 rfl (lv_at hl 3 rfl) ?_
        refine lv_iload hx hb dX2_bout_73 (lv_at hl 1 rfl) ?_
        have hPc := hP.sub (ws' := (wS h ad cI n F (upd ct 2 (ct 2 + bI (s_up F a b (nI q)))))) [0, 1, 2, 3, 4, 5, 6, 7] rfl
        have hDc := hD.sub (ws' := (wS h ad cI n F (upd ct 2 (ct 2 + bI (s_up F a b (nI q)))))) [0, 1, 2, 3, 4, 5, 6, 7] (by decide) rfl
        have hFc := va_free (wc := (wS h ad cI n F (upd ct 2 (ct 2 + bI (s_up F a b (nI q)))))) hD hS hA [0, 1, 2, 3, 4, 5, 6, 7] rfl
        refine va_callv (va_runV (As := [.int (nI a), .int (s_then F a b (nI (500 * q)))]) (rest := []) ⟨hx, hb, hml, hown, hts⟩ (c_X2_setRating l dC dI cI h ad n F (upd ct 2 (ct 2 + bI (s_up F a b (nI q)))) H.size a (show a < n by omega) (s_then F a b (nI (500 * q))) hn) (cwV 2 hts gX2_bout_X2_setRating rfl rfl rfl (by decide +kernel) ⟨Nat.le_of_ble_eq_true rfl, Nat.le_of_ble_eq_true rfl⟩) ⟨PW.blind, va_recv hK hP (ci := 2) (q0 := 0) rfl rfl, fun U hU hW => ⟨rfl, PW.go hPc hK hDc hE hS hFc hU hW⟩⟩ rfl rfl hl.1 rfl (lv_room (Nat.le_of_ble_eq_true rfl)) dX2_bout_75 ⟨Nat.le_of_ble_eq_true rfl, Nat.le_of_ble_eq_true rfl⟩) hS (fun q _ h9 => hFc q h9) hFc (fun u9 t9 H1 locs ht9 hvm9 hw9 hB9 hz9 hk9 hS => ?_)
        obtain ⟨hP9, hD9⟩ := hB9
        rw [ht9] at hP9
        obtain ⟨hP, hD⟩ := va_join (wr := []) (w1 := wS h ad cI n (s_set F a (s_then F a b (nI (500 * q)))) (upd ct 2 (ct 2 + bI (s_up F a b (nI q))))) hP hD [0, 1, 2, 3, 4, 5, 6, 7] [] rfl rfl (by decide) (by decide) hk9 hFc hP9 hD9
        generalize H1 = H at hP hS ⊢
        have hP : va_P (dC, dI) vwCl (wS h ad cI n (s_set F a (s_then F a b (nI (500 * q)))) (upd ct 2 (ct 2 + bI (s_up F a b (nI q))))) H := hP
        have hD : va_D A (wS h ad cI n (s_set F a (s_then F a b (nI (500 * q)))) (upd ct 2 (ct 2 + bI (s_up F a b (nI q))))) := hD
        refine lv_aload_n hx hb dX2_bout_78 rfl (lv_at hl 2 rfl) ?_
        refine lv_iload_n hx hb dX2_bout_79 rfl (lv_at hl 4 rfl) ?_
        refine lv_iload hx hb dX2_bout_80 (lv_at hl 0 rfl) ?_
        have hPc := hP.sub (ws' := (wS h ad cI n (s_set F a (s_then F a b (nI (500 * q)))) (upd ct 2 (ct 2 + bI (s_up F a b (nI q)))))) [0, 1, 2, 3, 4, 5, 6, 7] rfl
        have hDc := hD.sub (ws' := (wS h ad cI n (s_set F a (s_then F a b (nI (500 * q)))) (upd ct 2 (ct 2 + bI (s_up F a b (nI q)))))) [0, 1, 2, 3, 4, 5, 6, 7] (by decide) rfl
        have hFc := va_free (wc := (wS h ad cI n (s_set F a (s_then F a b (nI (500 * q)))) (upd ct 2 (ct 2 + bI (s_up F a b (nI q)))))) hD hS hA [0, 1, 2, 3, 4, 5, 6, 7] rfl
        refine va_callv (va_runV (As := [.int (nI b), .int (s_then F b a (nI (500 * (2 - q))))]) (rest := []) ⟨hx, hb, hml, hown, hts⟩ (c_X2_setRating l dC dI cI h ad n (s_set F a (s_then F a b (nI (500 * q)))) (upd ct 2 (ct 2 + bI (s_up F a b (nI q)))) H.size b (show b < n by omega) (s_then F b a (nI (500 * (2 - q)))) hn) (cwV 2 hts gX2_bout_X2_setRating rfl rfl rfl (by decide +kernel) ⟨Nat.le_of_ble_eq_true rfl, Nat.le_of_ble_eq_true rfl⟩) ⟨PW.blind, va_recv hK hP (ci := 2) (q0 := 0) rfl rfl, fun U hU hW => ⟨rfl, PW.go hPc hK hDc hE hS hFc hU hW⟩⟩ rfl rfl hl.1 rfl (lv_room (Nat.le_of_ble_eq_true rfl)) dX2_bout_82 ⟨Nat.le_of_ble_eq_true rfl, Nat.le_of_ble_eq_true rfl⟩) hS (fun q _ h9 => hFc q h9) hFc (fun u9 t9 H1 locs ht9 hvm9 hw9 hB9 hz9 hk9 hS => ?_)
        obtain ⟨hP9, hD9⟩ := hB9
        rw [ht9] at hP9
        obtain ⟨hP, hD⟩ := va_join (wr := []) (w1 := wS h ad cI n (s_set (s_set F a (s_then F a b (nI (500 * q)))) b (s_then F b a (nI (500 * (2 - q))))) (upd ct 2 (ct 2 + bI (s_up F a b (nI q))))) hP hD [0, 1, 2, 3, 4, 5, 6, 7] [] rfl rfl (by decide) (by decide) hk9 hFc hP9 hD9
        generalize H1 = H at hP hS ⊢
        have hP : va_P (dC, dI) vwCl (wS h ad cI n (s_set (s_set F a (s_then F a b (nI (500 * q)))) b (s_then F b a (nI (500 * (2 - q))))) (upd ct 2 (ct 2 + bI (s_up F a b (nI q))))) H := hP
        have hD : va_D A (wS h ad cI n (s_set (s_set F a (s_then F a b (nI (500 * q)))) b (s_then F b a (nI (500 * (2 - q))))) (upd ct 2 (ct 2 + bI (s_up F a b (nI q))))) := hD
        refine lv_aload_n hx hb dX2_bout_85 rfl (lv_at hl 2 rfl) ?_
        refine lv_iload_n hx hb dX2_bout_86 rfl (lv_at hl 3 rfl) ?_
        refine lv_iload_n hx hb dX2_bout_87 rfl (lv_at hl 5 rfl) ?_
        have hPc := hP.sub (ws' := (wS h ad cI n (s_set (s_set F a (s_then F a b (nI (500 * q)))) b (s_then F b a (nI (500 * (2 - q))))) (upd ct 2 (ct 2 + bI (s_up F a b (nI q)))))) [0, 1, 2, 3, 4, 5, 6, 7] rfl
        have hDc := hD.sub (ws' := (wS h ad cI n (s_set (s_set F a (s_then F a b (nI (500 * q)))) b (s_then F b a (nI (500 * (2 - q))))) (upd ct 2 (ct 2 + bI (s_up F a b (nI q)))))) [0, 1, 2, 3, 4, 5, 6, 7] (by decide) rfl
        have hFc := va_free (wc := (wS h ad cI n (s_set (s_set F a (s_then F a b (nI (500 * q)))) b (s_then F b a (nI (500 * (2 - q))))) (upd ct 2 (ct 2 + bI (s_up F a b (nI q)))))) hD hS hA [0, 1, 2, 3, 4, 5, 6, 7] rfl
        refine va_callv (va_runV (As := [.int (nI a), .int (nI (500 * q))]) (rest := []) ⟨hx, hb, hml, hown, hts⟩ (c_X2_note l dC dI cI h ad n (s_set (s_set F a (s_then F a b (nI (500 * q)))) b (s_then F b a (nI (500 * (2 - q))))) (upd ct 2 (ct 2 + bI (s_up F a b (nI q)))) H.size a (show a < n by omega) q hq hn) (cwV 2 hts gX2_bout_X2_note rfl rfl rfl (by decide +kernel) ⟨Nat.le_of_ble_eq_true rfl, Nat.le_of_ble_eq_true rfl⟩) ⟨PW.blind, va_recv hK hP (ci := 2) (q0 := 0) rfl rfl, fun U hU hW => ⟨rfl, PW.go hPc hK hDc hE hS hFc hU hW⟩⟩ rfl rfl hl.1 rfl (lv_room (Nat.le_of_ble_eq_true rfl)) dX2_bout_88 ⟨Nat.le_of_ble_eq_true rfl, Nat.le_of_ble_eq_true rfl⟩) hS (fun q _ h9 => hFc q h9) hFc (fun u9 t9 H1 locs ht9 hvm9 hw9 hB9 hz9 hk9 hS => ?_)
        obtain ⟨hP9, hD9⟩ := hB9
        rw [ht9] at hP9
        obtain ⟨hP, hD⟩ := va_join (wr := []) (w1 := wS h ad cI n (s_note (s_set (s_set F a (s_then F a b (nI (500 * q)))) b (s_then F b a (nI (500 * (2 - q))))) a q) (upd ct 2 (ct 2 + bI (s_up F a b (nI q))))) hP hD [0, 1, 2, 3, 4, 5, 6, 7] [] rfl rfl (by decide) (by decide) hk9 hFc hP9 hD9
        generalize H1 = H at hP hS ⊢
        have hP : va_P (dC, dI) vwCl (wS h ad cI n (s_note (s_set (s_set F a (s_then F a b (nI (500 * q)))) b (s_then F b a (nI (500 * (2 - q))))) a q) (upd ct 2 (ct 2 + bI (s_up F a b (nI q))))) H := hP
        have hD : va_D A (wS h ad cI n (s_note (s_set (s_set F a (s_then F a b (nI (500 * q)))) b (s_then F b a (nI (500 * (2 - q))))) a q) (upd ct 2 (ct 2 + bI (s_up F a b (nI q))))) := hD
        refine lv_aload_n hx hb dX2_bout_91 rfl (lv_at hl 2 rfl) ?_
        refine lv_iload_n hx hb dX2_bout_92 rfl (lv_at hl 4 rfl) ?_
        refine lv_sipush (v := 1000) hx hb dX2_bout_93 (by decide) ?_
        refine lv_iload_n hx hb dX2_bout_96 rfl (lv_at hl 5 rfl) ?_
        refine lv_isub hx hb dX2_bout_97 ?_
        refine rv_top (y := nI (500 * (2 - q))) (n500_sub hq) ?_
        have hPc := hP.sub (ws' := (wS h ad cI n (s_note (s_set (s_set F a (s_then F a b (nI (500 * q)))) b (s_then F b a (nI (500 * (2 - q))))) a q) (upd ct 2 (ct 2 + bI (s_up F a b (nI q)))))) [0, 1, 2, 3, 4, 5, 6, 7] rfl
        have hDc := hD.sub (ws' := (wS h ad cI n (s_note (s_set (s_set F a (s_then F a b (nI (500 * q)))) b (s_then F b a (nI (500 * (2 - q))))) a q) (upd ct 2 (ct 2 + bI (s_up F a b (nI q)))))) [0, 1, 2, 3, 4, 5, 6, 7] (by decide) rfl
        have hFc := va_free (wc := (wS h ad cI n (s_note (s_set (s_set F a (s_then F a b (nI (500 * q)))) b (s_then F b a (nI (500 * (2 - q))))) a q) (upd ct 2 (ct 2 + bI (s_up F a b (nI q)))))) hD hS hA [0, 1, 2, 3, 4, 5, 6, 7] rfl
        refine va_callv (va_runV (As := [.int (nI b), .int (nI (500 * (2 - q)))]) (rest := []) ⟨hx, hb, hml, hown, hts⟩ (c_X2_note l dC dI cI h ad n (s_note (s_set (s_set F a (s_then F a b (nI (500 * q)))) b (s_then F b a (nI (500 * (2 - q))))) a q) (upd ct 2 (ct 2 + bI (s_up F a b (nI q)))) H.size b (show b < n by omega) (2 - q) (Nat.sub_le 2 q) hn) (cwV 2 hts gX2_bout_X2_note rfl rfl rfl (by decide +kernel) ⟨Nat.le_of_ble_eq_true rfl, Nat.le_of_ble_eq_true rfl⟩) ⟨PW.blind, va_recv hK hP (ci := 2) (q0 := 0) rfl rfl, fun U hU hW => ⟨rfl, PW.go hPc hK hDc hE hS hFc hU hW⟩⟩ rfl rfl hl.1 rfl (lv_room (Nat.le_of_ble_eq_true rfl)) dX2_bout_98 ⟨Nat.le_of_ble_eq_true rfl, Nat.le_of_ble_eq_true rfl⟩) hS (fun q _ h9 => hFc q h9) hFc (fun u9 t9 H1 locs ht9 hvm9 hw9 hB9 hz9 hk9 hS => ?_)
        obtain ⟨hP9, hD9⟩ := hB9
        rw [ht9] at hP9
        obtain ⟨hP, hD⟩ := va_join (wr := []) (w1 := wS h ad cI n (s_note (s_note (s_set (s_set F a (s_then F a b (nI (500 * q)))) b (s_then F b a (nI (500 * (2 - q))))) a q) b (2 - q)) (upd ct 2 (ct 2 + bI (s_up F a b (nI q))))) hP hD [0, 1, 2, 3, 4, 5, 6, 7] [] rfl rfl (by decide) (by decide) hk9 hFc hP9 hD9
        generalize H1 = H at hP hS ⊢
        have hP : va_P (dC, dI) vwCl (wS h ad cI n (s_note (s_note (s_set (s_set F a (s_then F a b (nI (500 * q)))) b (s_then F b a (nI (500 * (2 - q))))) a q) b (2 - q)) (upd ct 2 (ct 2 + bI (s_up F a b (nI q))))) H := hP
        have hD : va_D A (wS h ad cI n (s_note (s_note (s_set (s_set F a (s_then F a b (nI (500 * q)))) b (s_then F b a (nI (500 * (2 - q))))) a q) b (2 - q)) (upd ct 2 (ct 2 + bI (s_up F a b (nI q))))) := hD
        refine lv_aload_n hx hb dX2_bout_101 rfl (lv_at hl 2 rfl) ?_
        refine lv_dup hx hb dX2_bout_102 rfl ?_
        refine va_get (D := (dC, dI)) (ci := 2) (v := .int ((upd ct 2 (ct 2 + bI (s_up F a b (nI q)))) 1)) (C := RX2) (T := TX2) (N := 11) hx hb hts hinX2 hown hK hP 0 rfl rfl 2 (by decide) (hts (.fieldLink RX2 46 "WrestleBookModel$State" "bouts" "I") (by decide +kernel)) (fun _ h9 => h9) rfl dX2_bout_103 ?_
        refine lv_iconst (v := 1) hx hb dX2_bout_106 (by decide) ?_
        refine lv_iadd hx hb dX2_bout_107 ?_
        refine va_put (D := (dC, dI)) (ci := 2) (v := .int (((upd ct 2 (ct 2 + bI (s_up F a b (nI q)))) 1) + 1)) (ty := .int) (C := RX2) (T := TX2) (N := 11) hx hb hts hinX2 tyX2 tyX2_ok nmX2 hown hK hP hD hS 0 rfl rfl 2 (by decide) (hts (.fieldLink RX2 46 "WrestleBookModel$State" "bouts" "I") (by decide +kernel)) (fun _ h9 => h9) rfl (by decide +kernel) rfl rfl (Nat.le_of_ble_eq_true rfl) dX2_bout_108 (fun H locs hP hD hS => ?_)
        have hP : va_P (dC, dI) vwCl (wS h ad cI n (s_note (s_note (s_set (s_set F a (s_then F a b (nI (500 * q)))) b (s_then F b a (nI (500 * (2 - q))))) a q) b (2 - q)) (upd (upd ct 2 (ct 2 + bI (s_up F a b (nI q)))) 1 (((upd ct 2 (ct 2 + bI (s_up F a b (nI q)))) 1) + 1))) H := hP
        have hD : va_D A (wS h ad cI n (s_note (s_note (s_set (s_set F a (s_then F a b (nI (500 * q)))) b (s_then F b a (nI (500 * (2 - q))))) a q) b (2 - q)) (upd (upd ct 2 (ct 2 + bI (s_up F a b (nI q)))) 1 (((upd ct 2 (ct 2 + bI (s_up F a b (nI q)))) 1) + 1))) := hD
        have hP8 : va_P (dC, dI) vwCl (wS h ad cI n (s_mb F a b q) (s_ct ct F a b q)) H := by unfold s_ct; exact hP
        have hD8 : va_D A (wS h ad cI n (s_mb F a b q) (s_ct ct F a b q)) := by unfold s_ct; exact hD
        exact W.vret hx hb hr (fun t ht hW => ⟨⟨(), rfl, trivial, by rw [ht]; exact hP8, hD8⟩, hS.F ht⟩) hS.2.2 dX2_bout_111
    · refine lv_aload_n hx hb dX2_bout_41 rfl (lv_at hl 2 rfl) ?_
      refine lv_iload_n hx hb dX2_bout_42 rfl (lv_at hl 3 rfl) ?_
      refine lv_iload_n hx hb dX2_bout_43 rfl (lv_at hl 4 rfl) ?_
      refine vp_callSi (W.runV (As := [.int (nI a), .int (nI b)]) (rest := [.int (ct 2), .ref h]) ⟨hx, hb, hml, hown, hts⟩ (c_X2_expected l dC dI cI h ad n F ct a (show a < n by omega) b (show b < n by omega) hn hR) (cwV 2 hts gX2_bout_X2_expected rfl rfl rfl (by decide +kernel) ⟨Nat.le_of_ble_eq_true rfl, Nat.le_of_ble_eq_true rfl⟩) ⟨PR.blind, va_recv hK hP (ci := 2) (q0 := 0) rfl rfl, fun U hU hW => ⟨rfl, PR.go hP hK hE hS hU hW⟩⟩ rfl rfl hl.1 rfl (lv_room (Nat.le_of_ble_eq_true rfl)) dX2_bout_44 ⟨Nat.le_of_ble_eq_true rfl, Nat.le_of_ble_eq_true rfl⟩) (fun r hr0 => ?_)
      subst hr0
      refine lv_goto (tgt := 56) hx hb dX2_bout_47 (by decide) ?_
      refine lv_sipush (v := 400) hx hb dX2_bout_56 (by decide) ?_
      refine lv_icmp_ge (tgt := 66) hx hb dX2_bout_59 (by decide) (fun c_59 => ?_) (fun c_59 => ?_)
      · refine lv_iconst (v := 0) hx hb dX2_bout_66 (by decide) ?_
        refine lv_iadd hx hb dX2_bout_67 ?_
        refine rv_top (y := ct 2 + bI (s_up F a b (nI q))) (by rw [s_upWF hq (by omega) c_59]; rfl) ?_
        refine va_put (D := (dC, dI)) (ci := 2) (v := .int (ct 2 + bI (s_up F a b (nI q)))) (ty := .int) (C := RX2) (T := TX2) (N := 11) hx hb hts hinX2 tyX2 tyX2_ok nmX2 hown hK hP hD hS 0 rfl rfl 3 (by decide) (hts (.fieldLink RX2 49 "WrestleBookModel$State" "upsets" "I") (by decide +kernel)) (fun _ h9 => h9) rfl (by decide +kernel) rfl rfl (Nat.le_of_ble_eq_true rfl) dX2_bout_68 (fun H locs hP hD hS => ?_)
        have hP : va_P (dC, dI) vwCl (wS h ad cI n F (upd ct 2 (ct 2 + bI (s_up F a b (nI q))))) H := hP
        have hD : va_D A (wS h ad cI n F (upd ct 2 (ct 2 + bI (s_up F a b (nI q))))) := hD
        refine lv_aload_n hx hb dX2_bout_71 rfl (lv_at hl 2 rfl) ?_
        refine lv_iload_n hx hb dX2_bout_72 rfl (lv_at hl 3 rfl) ?_
        refine lv_iload hx hb dX2_bout_73 (lv_at hl 1 rfl) ?_
        have hPc := hP.sub (ws' := (wS h ad cI n F (upd ct 2 (ct 2 + bI (s_up F a b (nI q)))))) [0, 1, 2, 3, 4, 5, 6, 7] rfl
        have hDc := hD.sub (ws' := (wS h ad cI n F (upd ct 2 (ct 2 + bI (s_up F a b (nI q)))))) [0, 1, 2, 3, 4, 5, 6, 7] (by decide) rfl
        have hFc := va_free (wc := (wS h ad cI n F (upd ct 2 (ct 2 + bI (s_up F a b (nI q)))))) hD hS hA [0, 1, 2, 3, 4, 5, 6, 7] rfl
        refine va_callv (va_runV (As := [.int (nI a), .int (s_then F a b (nI (500 * q)))]) (rest := []) ⟨hx, hb, hml, hown, hts⟩ (c_X2_setRating l dC dI cI h ad n F (upd ct 2 (ct 2 + bI (s_up F a b (nI q)))) H.size a (show a < n by omega) (s_then F a b (nI (500 * q))) hn) (cwV 2 hts gX2_bout_X2_setRating rfl rfl rfl (by decide +kernel) ⟨Nat.le_of_ble_eq_true rfl, Nat.le_of_ble_eq_true rfl⟩) ⟨PW.blind, va_recv hK hP (ci := 2) (q0 := 0) rfl rfl, fun U hU hW => ⟨rfl, PW.go hPc hK hDc hE hS hFc hU hW⟩⟩ rfl rfl hl.1 rfl (lv_room (Nat.le_of_ble_eq_true rfl)) dX2_bout_75 ⟨Nat.le_of_ble_eq_true rfl, Nat.le_of_ble_eq_true rfl⟩) hS (fun q _ h9 => hFc q h9) hFc (fun u9 t9 H1 locs ht9 hvm9 hw9 hB9 hz9 hk9 hS => ?_)
        obtain ⟨hP9, hD9⟩ := hB9
        rw [ht9] at hP9
        obtain ⟨hP, hD⟩ := va_join (wr := []) (w1 := wS h ad cI n (s_set F a (s_then F a b (nI (500 * q)))) (upd ct 2 (ct 2 + bI (s_up F a b (nI q))))) hP hD [0, 1, 2, 3, 4, 5, 6, 7] [] rfl rfl (by decide) (by decide) hk9 hFc hP9 hD9
        generalize H1 = H at hP hS ⊢
        have hP : va_P (dC, dI) vwCl (wS h ad cI n (s_set F a (s_then F a b (nI (500 * q)))) (upd ct 2 (ct 2 + bI (s_up F a b (nI q))))) H := hP
        have hD : va_D A (wS h ad cI n (s_set F a (s_then F a b (nI (500 * q)))) (upd ct 2 (ct 2 + bI (s_up F a b (nI q))))) := hD
        refine lv_aload_n hx hb dX2_bout_78 rfl (lv_at hl 2 rfl) ?_
        refine lv_iload_n hx hb dX2_bout_79 rfl (lv_at hl 4 rfl) ?_
        refine lv_iload hx hb dX2_bout_80 (lv_at hl 0 rfl) ?_
        have hPc := hP.sub (ws' := (wS h ad cI n (s_set F a (s_then F a b (nI (500 * q)))) (upd ct 2 (ct 2 + bI (s_up F a b (nI q)))))) [0, 1, 2, 3, 4, 5, 6, 7] rfl
        have hDc := hD.sub (ws' := (wS h ad cI n (s_set F a (s_then F a b (nI (500 * q)))) (upd ct 2 (ct 2 + bI (s_up F a b (nI q)))))) [0, 1, 2, 3, 4, 5, 6, 7] (by decide) rfl
        have hFc := va_free (wc := (wS h ad cI n (s_set F a (s_then F a b (nI (500 * q)))) (upd ct 2 (ct 2 + bI (s_up F a b (nI q)))))) hD hS hA [0, 1, 2, 3, 4, 5, 6, 7] rfl
        refine va_callv (va_runV (As := [.int (nI b), .int (s_then F b a (nI (500 * (2 - q))))]) (rest := []) ⟨hx, hb, hml, hown, hts⟩ (c_X2_setRating l dC dI cI h ad n (s_set F a (s_then F a b (nI (500 * q)))) (upd ct 2 (ct 2 + bI (s_up F a b (nI q)))) H.size b (show b < n by omega) (s_then F b a (nI (500 * (2 - q)))) hn) (cwV 2 hts gX2_bout_X2_setRating rfl rfl rfl (by decide +kernel) ⟨Nat.le_of_ble_eq_true rfl, Nat.le_of_ble_eq_true rfl⟩) ⟨PW.blind, va_recv hK hP (ci := 2) (q0 := 0) rfl rfl, fun U hU hW => ⟨rfl, PW.go hPc hK hDc hE hS hFc hU hW⟩⟩ rfl rfl hl.1 rfl (lv_room (Nat.le_of_ble_eq_true rfl)) dX2_bout_82 ⟨Nat.le_of_ble_eq_true rfl, Nat.le_of_ble_eq_true rfl⟩) hS (fun q _ h9 => hFc q h9) hFc (fun u9 t9 H1 locs ht9 hvm9 hw9 hB9 hz9 hk9 hS => ?_)
        obtain ⟨hP9, hD9⟩ := hB9
        rw [ht9] at hP9
        obtain ⟨hP, hD⟩ := va_join (wr := []) (w1 := wS h ad cI n (s_set (s_set F a (s_then F a b (nI (500 * q)))) b (s_then F b a (nI (500 * (2 - q))))) (upd ct 2 (ct 2 + bI (s_up F a b (nI q))))) hP hD [0, 1, 2, 3, 4, 5, 6, 7] [] rfl rfl (by decide) (by decide) hk9 hFc hP9 hD9
        generalize H1 = H at hP hS ⊢
        have hP : va_P (dC, dI) vwCl (wS h ad cI n (s_set (s_set F a (s_then F a b (nI (500 * q)))) b (s_then F b a (nI (500 * (2 - q))))) (upd ct 2 (ct 2 + bI (s_up F a b (nI q))))) H := hP
        have hD : va_D A (wS h ad cI n (s_set (s_set F a (s_then F a b (nI (500 * q)))) b (s_then F b a (nI (500 * (2 - q))))) (upd ct 2 (ct 2 + bI (s_up F a b (nI q))))) := hD
        refine lv_aload_n hx hb dX2_bout_85 rfl (lv_at hl 2 rfl) ?_
        refine lv_iload_n hx hb dX2_bout_86 rfl (lv_at hl 3 rfl) ?_
        refine lv_iload_n hx hb dX2_bout_87 rfl (lv_at hl 5 rfl) ?_
        have hPc := hP.sub (ws' := (wS h ad cI n (s_set (s_set F a (s_then F a b (nI (500 * q)))) b (s_then F b a (nI (500 * (2 - q))))) (upd ct 2 (ct 2 + bI (s_up F a b (nI q)))))) [0, 1, 2, 3, 4, 5, 6, 7] rfl
        have hDc := hD.sub (ws' := (wS h ad cI n (s_set (s_set F a (s_then F a b (nI (500 * q)))) b (s_then F b a (nI (500 * (2 - q))))) (upd ct 2 (ct 2 + bI (s_up F a b (nI q)))))) [0, 1, 2, 3, 4, 5, 6, 7] (by decide) rfl
        have hFc := va_free (wc := (wS h ad cI n (s_set (s_set F a (s_then F a b (nI (500 * q)))) b (s_then F b a (nI (500 * (2 - q))))) (upd ct 2 (ct 2 + bI (s_up F a b (nI q)))))) hD hS hA [0, 1, 2, 3, 4, 5, 6, 7] rfl
        refine va_callv (va_runV (As := [.int (nI a), .int (nI (500 * q))]) (rest := []) ⟨hx, hb, hml, hown, hts⟩ (c_X2_note l dC dI cI h ad n (s_set (s_set F a (s_then F a b (nI (500 * q)))) b (s_then F b a (nI (500 * (2 - q))))) (upd ct 2 (ct 2 + bI (s_up F a b (nI q)))) H.size a (show a < n by omega) q hq hn) (cwV 2 hts gX2_bout_X2_note rfl rfl rfl (by decide +kernel) ⟨Nat.le_of_ble_eq_true rfl, Nat.le_of_ble_eq_true rfl⟩) ⟨PW.blind, va_recv hK hP (ci := 2) (q0 := 0) rfl rfl, fun U hU hW => ⟨rfl, PW.go hPc hK hDc hE hS hFc hU hW⟩⟩ rfl rfl hl.1 rfl (lv_room (Nat.le_of_ble_eq_true rfl)) dX2_bout_88 ⟨Nat.le_of_ble_eq_true rfl, Nat.le_of_ble_eq_true rfl⟩) hS (fun q _ h9 => hFc q h9) hFc (fun u9 t9 H1 locs ht9 hvm9 hw9 hB9 hz9 hk9 hS => ?_)
        obtain ⟨hP9, hD9⟩ := hB9
        rw [ht9] at hP9
        obtain ⟨hP, hD⟩ := va_join (wr := []) (w1 := wS h ad cI n (s_note (s_set (s_set F a (s_then F a b (nI (500 * q)))) b (s_then F b a (nI (500 * (2 - q))))) a q) (upd ct 2 (ct 2 + bI (s_up F a b (nI q))))) hP hD [0, 1, 2, 3, 4, 5, 6, 7] [] rfl rfl (by decide) (by decide) hk9 hFc hP9 hD9
        generalize H1 = H at hP hS ⊢
        have hP : va_P (dC, dI) vwCl (wS h ad cI n (s_note (s_set (s_set F a (s_then F a b (nI (500 * q)))) b (s_then F b a (nI (500 * (2 - q))))) a q) (upd ct 2 (ct 2 + bI (s_up F a b (nI q))))) H := hP
        have hD : va_D A (wS h ad cI n (s_note (s_set (s_set F a (s_then F a b (nI (500 * q)))) b (s_then F b a (nI (500 * (2 - q))))) a q) (upd ct 2 (ct 2 + bI (s_up F a b (nI q))))) := hD
        refine lv_aload_n hx hb dX2_bout_91 rfl (lv_at hl 2 rfl) ?_
        refine lv_iload_n hx hb dX2_bout_92 rfl (lv_at hl 4 rfl) ?_
        refine lv_sipush (v := 1000) hx hb dX2_bout_93 (by decide) ?_
        refine lv_iload_n hx hb dX2_bout_96 rfl (lv_at hl 5 rfl) ?_
        refine lv_isub hx hb dX2_bout_97 ?_
        refine rv_top (y := nI (500 * (2 - q))) (n500_sub hq) ?_
        have hPc := hP.sub (ws' := (wS h ad cI n (s_note (s_set (s_set F a (s_then F a b (nI (500 * q)))) b (s_then F b a (nI (500 * (2 - q))))) a q) (upd ct 2 (ct 2 + bI (s_up F a b (nI q)))))) [0, 1, 2, 3, 4, 5, 6, 7] rfl
        have hDc := hD.sub (ws' := (wS h ad cI n (s_note (s_set (s_set F a (s_then F a b (nI (500 * q)))) b (s_then F b a (nI (500 * (2 - q))))) a q) (upd ct 2 (ct 2 + bI (s_up F a b (nI q)))))) [0, 1, 2, 3, 4, 5, 6, 7] (by decide) rfl
        have hFc := va_free (wc := (wS h ad cI n (s_note (s_set (s_set F a (s_then F a b (nI (500 * q)))) b (s_then F b a (nI (500 * (2 - q))))) a q) (upd ct 2 (ct 2 + bI (s_up F a b (nI q)))))) hD hS hA [0, 1, 2, 3, 4, 5, 6, 7] rfl
        refine va_callv (va_runV (As := [.int (nI b), .int (nI (500 * (2 - q)))]) (rest := []) ⟨hx, hb, hml, hown, hts⟩ (c_X2_note l dC dI cI h ad n (s_note (s_set (s_set F a (s_then F a b (nI (500 * q)))) b (s_then F b a (nI (500 * (2 - q))))) a q) (upd ct 2 (ct 2 + bI (s_up F a b (nI q)))) H.size b (show b < n by omega) (2 - q) (Nat.sub_le 2 q) hn) (cwV 2 hts gX2_bout_X2_note rfl rfl rfl (by decide +kernel) ⟨Nat.le_of_ble_eq_true rfl, Nat.le_of_ble_eq_true rfl⟩) ⟨PW.blind, va_recv hK hP (ci := 2) (q0 := 0) rfl rfl, fun U hU hW => ⟨rfl, PW.go hPc hK hDc hE hS hFc hU hW⟩⟩ rfl rfl hl.1 rfl (lv_room (Nat.le_of_ble_eq_true rfl)) dX2_bout_98 ⟨Nat.le_of_ble_eq_true rfl, Nat.le_of_ble_eq_true rfl⟩) hS (fun q _ h9 => hFc q h9) hFc (fun u9 t9 H1 locs ht9 hvm9 hw9 hB9 hz9 hk9 hS => ?_)
        obtain ⟨hP9, hD9⟩ := hB9
        rw [ht9] at hP9
        obtain ⟨hP, hD⟩ := va_join (wr := []) (w1 := wS h ad cI n (s_note (s_note (s_set (s_set F a (s_then F a b (nI (500 * q)))) b (s_then F b a (nI (500 * (2 - q))))) a q) b (2 - q)) (upd ct 2 (ct 2 + bI (s_up F a b (nI q))))) hP hD [0, 1, 2, 3, 4, 5, 6, 7] [] rfl rfl (by decide) (by decide) hk9 hFc hP9 hD9
        generalize H1 = H at hP hS ⊢
        have hP : va_P (dC, dI) vwCl (wS h ad cI n (s_note (s_note (s_set (s_set F a (s_then F a b (nI (500 * q)))) b (s_then F b a (nI (500 * (2 - q))))) a q) b (2 - q)) (upd ct 2 (ct 2 + bI (s_up F a b (nI q))))) H := hP
        have hD : va_D A (wS h ad cI n (s_note (s_note (s_set (s_set F a (s_then F a b (nI (500 * q)))) b (s_then F b a (nI (500 * (2 - q))))) a q) b (2 - q)) (upd ct 2 (ct 2 + bI (s_up F a b (nI q))))) := hD
        refine lv_aload_n hx hb dX2_bout_101 rfl (lv_at hl 2 rfl) ?_
        refine lv_dup hx hb dX2_bout_102 rfl ?_
        refine va_get (D := (dC, dI)) (ci := 2) (v := .int ((upd ct 2 (ct 2 + bI (s_up F a b (nI q)))) 1)) (C := RX2) (T := TX2) (N := 11) hx hb hts hinX2 hown hK hP 0 rfl rfl 2 (by decide) (hts (.fieldLink RX2 46 "WrestleBookModel$State" "bouts" "I") (by decide +kernel)) (fun _ h9 => h9) rfl dX2_bout_103 ?_
        refine lv_iconst (v := 1) hx hb dX2_bout_106 (by decide) ?_
        refine lv_iadd hx hb dX2_bout_107 ?_
        refine va_put (D := (dC, dI)) (ci := 2) (v := .int (((upd ct 2 (ct 2 + bI (s_up F a b (nI q)))) 1) + 1)) (ty := .int) (C := RX2) (T := TX2) (N := 11) hx hb hts hinX2 tyX2 tyX2_ok nmX2 hown hK hP hD hS 0 rfl rfl 2 (by decide) (hts (.fieldLink RX2 46 "WrestleBookModel$State" "bouts" "I") (by decide +kernel)) (fun _ h9 => h9) rfl (by decide +kernel) rfl rfl (Nat.le_of_ble_eq_true rfl) dX2_bout_108 (fun H locs hP hD hS => ?_)
        have hP : va_P (dC, dI) vwCl (wS h ad cI n (s_note (s_note (s_set (s_set F a (s_then F a b (nI (500 * q)))) b (s_then F b a (nI (500 * (2 - q))))) a q) b (2 - q)) (upd (upd ct 2 (ct 2 + bI (s_up F a b (nI q)))) 1 (((upd ct 2 (ct 2 + bI (s_up F a b (nI q)))) 1) + 1))) H := hP
        have hD : va_D A (wS h ad cI n (s_note (s_note (s_set (s_set F a (s_then F a b (nI (500 * q)))) b (s_then F b a (nI (500 * (2 - q))))) a q) b (2 - q)) (upd (upd ct 2 (ct 2 + bI (s_up F a b (nI q)))) 1 (((upd ct 2 (ct 2 + bI (s_up F a b (nI q)))) 1) + 1))) := hD
        have hP8 : va_P (dC, dI) vwCl (wS h ad cI n (s_mb F a b q) (s_ct ct F a b q)) H := by unfold s_ct; exact hP
        have hD8 : va_D A (wS h ad cI n (s_mb F a b q) (s_ct ct F a b q)) := by unfold s_ct; exact hD
        exact W.vret hx hb hr (fun t ht hW => ⟨⟨(), rfl, trivial, by rw [ht]; exact hP8, hD8⟩, hS.F ht⟩) hS.2.2 dX2_bout_111
      · refine lv_iconst (v := 1) hx hb dX2_bout_62 (by decide) ?_
        refine lv_goto (tgt := 67) hx hb dX2_bout_63 (by decide) ?_
        refine lv_iadd hx hb dX2_bout_67 ?_
        refine rv_top (y := ct 2 + bI (s_up F a b (nI q))) (by rw [s_upWT hq (by omega) c_59]; rfl) ?_
        refine va_put (D := (dC, dI)) (ci := 2) (v := .int (ct 2 + bI (s_up F a b (nI q)))) (ty := .int) (C := RX2) (T := TX2) (N := 11) hx hb hts hinX2 tyX2 tyX2_ok nmX2 hown hK hP hD hS 0 rfl rfl 3 (by decide) (hts (.fieldLink RX2 49 "WrestleBookModel$State" "upsets" "I") (by decide +kernel)) (fun _ h9 => h9) rfl (by decide +kernel) rfl rfl (Nat.le_of_ble_eq_true rfl) dX2_bout_68 (fun H locs hP hD hS => ?_)
        have hP : va_P (dC, dI) vwCl (wS h ad cI n F (upd ct 2 (ct 2 + bI (s_up F a b (nI q))))) H := hP
        have hD : va_D A (wS h ad cI n F (upd ct 2 (ct 2 + bI (s_up F a b (nI q))))) := hD
        refine lv_aload_n hx hb dX2_bout_71 rfl (lv_at hl 2 rfl) ?_
        refine lv_iload_n hx hb dX2_bout_72 rfl (lv_at hl 3 rfl) ?_
        refine lv_iload hx hb dX2_bout_73 (lv_at hl 1 rfl) ?_
        have hPc := hP.sub (ws' := (wS h ad cI n F (upd ct 2 (ct 2 + bI (s_up F a b (nI q)))))) [0, 1, 2, 3, 4, 5, 6, 7] rfl
        have hDc := hD.sub (ws' := (wS h ad cI n F (upd ct 2 (ct 2 + bI (s_up F a b (nI q)))))) [0, 1, 2, 3, 4, 5, 6, 7] (by decide) rfl
        have hFc := va_free (wc := (wS h ad cI n F (upd ct 2 (ct 2 + bI (s_up F a b (nI q)))))) hD hS hA [0, 1, 2, 3, 4, 5, 6, 7] rfl
        refine va_callv (va_runV (As := [.int (nI a), .int (s_then F a b (nI (500 * q)))]) (rest := []) ⟨hx, hb, hml, hown, hts⟩ (c_X2_setRating l dC dI cI h ad n F (upd ct 2 (ct 2 + bI (s_up F a b (nI q)))) H.size a (show a < n by omega) (s_then F a b (nI (500 * q))) hn) (cwV 2 hts gX2_bout_X2_setRating rfl rfl rfl (by decide +kernel) ⟨Nat.le_of_ble_eq_true rfl, Nat.le_of_ble_eq_true rfl⟩) ⟨PW.blind, va_recv hK hP (ci := 2) (q0 := 0) rfl rfl, fun U hU hW => ⟨rfl, PW.go hPc hK hDc hE hS hFc hU hW⟩⟩ rfl rfl hl.1 rfl (lv_room (Nat.le_of_ble_eq_true rfl)) dX2_bout_75 ⟨Nat.le_of_ble_eq_true rfl, Nat.le_of_ble_eq_true rfl⟩) hS (fun q _ h9 => hFc q h9) hFc (fun u9 t9 H1 locs ht9 hvm9 hw9 hB9 hz9 hk9 hS => ?_)
        obtain ⟨hP9, hD9⟩ := hB9
        rw [ht9] at hP9
        obtain ⟨hP, hD⟩ := va_join (wr := []) (w1 := wS h ad cI n (s_set F a (s_then F a b (nI (500 * q)))) (upd ct 2 (ct 2 + bI (s_up F a b (nI q))))) hP hD [0, 1, 2, 3, 4, 5, 6, 7] [] rfl rfl (by decide) (by decide) hk9 hFc hP9 hD9
        generalize H1 = H at hP hS ⊢
        have hP : va_P (dC, dI) vwCl (wS h ad cI n (s_set F a (s_then F a b (nI (500 * q)))) (upd ct 2 (ct 2 + bI (s_up F a b (nI q))))) H := hP
        have hD : va_D A (wS h ad cI n (s_set F a (s_then F a b (nI (500 * q)))) (upd ct 2 (ct 2 + bI (s_up F a b (nI q))))) := hD
        refine lv_aload_n hx hb dX2_bout_78 rfl (lv_at hl 2 rfl) ?_
        refine lv_iload_n hx hb dX2_bout_79 rfl (lv_at hl 4 rfl) ?_
        refine lv_iload hx hb dX2_bout_80 (lv_at hl 0 rfl) ?_
        have hPc := hP.sub (ws' := (wS h ad cI n (s_set F a (s_then F a b (nI (500 * q)))) (upd ct 2 (ct 2 + bI (s_up F a b (nI q)))))) [0, 1, 2, 3, 4, 5, 6, 7] rfl
        have hDc := hD.sub (ws' := (wS h ad cI n (s_set F a (s_then F a b (nI (500 * q)))) (upd ct 2 (ct 2 + bI (s_up F a b (nI q)))))) [0, 1, 2, 3, 4, 5, 6, 7] (by decide) rfl
        have hFc := va_free (wc := (wS h ad cI n (s_set F a (s_then F a b (nI (500 * q)))) (upd ct 2 (ct 2 + bI (s_up F a b (nI q)))))) hD hS hA [0, 1, 2, 3, 4, 5, 6, 7] rfl
        refine va_callv (va_runV (As := [.int (nI b), .int (s_then F b a (nI (500 * (2 - q))))]) (rest := []) ⟨hx, hb, hml, hown, hts⟩ (c_X2_setRating l dC dI cI h ad n (s_set F a (s_then F a b (nI (500 * q)))) (upd ct 2 (ct 2 + bI (s_up F a b (nI q)))) H.size b (show b < n by omega) (s_then F b a (nI (500 * (2 - q)))) hn) (cwV 2 hts gX2_bout_X2_setRating rfl rfl rfl (by decide +kernel) ⟨Nat.le_of_ble_eq_true rfl, Nat.le_of_ble_eq_true rfl⟩) ⟨PW.blind, va_recv hK hP (ci := 2) (q0 := 0) rfl rfl, fun U hU hW => ⟨rfl, PW.go hPc hK hDc hE hS hFc hU hW⟩⟩ rfl rfl hl.1 rfl (lv_room (Nat.le_of_ble_eq_true rfl)) dX2_bout_82 ⟨Nat.le_of_ble_eq_true rfl, Nat.le_of_ble_eq_true rfl⟩) hS (fun q _ h9 => hFc q h9) hFc (fun u9 t9 H1 locs ht9 hvm9 hw9 hB9 hz9 hk9 hS => ?_)
        obtain ⟨hP9, hD9⟩ := hB9
        rw [ht9] at hP9
        obtain ⟨hP, hD⟩ := va_join (wr := []) (w1 := wS h ad cI n (s_set (s_set F a (s_then F a b (nI (500 * q)))) b (s_then F b a (nI (500 * (2 - q))))) (upd ct 2 (ct 2 + bI (s_up F a b (nI q))))) hP hD [0, 1, 2, 3, 4, 5, 6, 7] [] rfl rfl (by decide) (by decide) hk9 hFc hP9 hD9
        generalize H1 = H at hP hS ⊢
        have hP : va_P (dC, dI) vwCl (wS h ad cI n (s_set (s_set F a (s_then F a b (nI (500 * q)))) b (s_then F b a (nI (500 * (2 - q))))) (upd ct 2 (ct 2 + bI (s_up F a b (nI q))))) H := hP
        have hD : va_D A (wS h ad cI n (s_set (s_set F a (s_then F a b (nI (500 * q)))) b (s_then F b a (nI (500 * (2 - q))))) (upd ct 2 (ct 2 + bI (s_up F a b (nI q))))) := hD
        refine lv_aload_n hx hb dX2_bout_85 rfl (lv_at hl 2 rfl) ?_
        refine lv_iload_n hx hb dX2_bout_86 rfl (lv_at hl 3 rfl) ?_
        refine lv_iload_n hx hb dX2_bout_87 rfl (lv_at hl 5 rfl) ?_
        have hPc := hP.sub (ws' := (wS h ad cI n (s_set (s_set F a (s_then F a b (nI (500 * q)))) b (s_then F b a (nI (500 * (2 - q))))) (upd ct 2 (ct 2 + bI (s_up F a b (nI q)))))) [0, 1, 2, 3, 4, 5, 6, 7] rfl
        have hDc := hD.sub (ws' := (wS h ad cI n (s_set (s_set F a (s_then F a b (nI (500 * q)))) b (s_then F b a (nI (500 * (2 - q))))) (upd ct 2 (ct 2 + bI (s_up F a b (nI q)))))) [0, 1, 2, 3, 4, 5, 6, 7] (by decide) rfl
        have hFc := va_free (wc := (wS h ad cI n (s_set (s_set F a (s_then F a b (nI (500 * q)))) b (s_then F b a (nI (500 * (2 - q))))) (upd ct 2 (ct 2 + bI (s_up F a b (nI q)))))) hD hS hA [0, 1, 2, 3, 4, 5, 6, 7] rfl
        refine va_callv (va_runV (As := [.int (nI a), .int (nI (500 * q))]) (rest := []) ⟨hx, hb, hml, hown, hts⟩ (c_X2_note l dC dI cI h ad n (s_set (s_set F a (s_then F a b (nI (500 * q)))) b (s_then F b a (nI (500 * (2 - q))))) (upd ct 2 (ct 2 + bI (s_up F a b (nI q)))) H.size a (show a < n by omega) q hq hn) (cwV 2 hts gX2_bout_X2_note rfl rfl rfl (by decide +kernel) ⟨Nat.le_of_ble_eq_true rfl, Nat.le_of_ble_eq_true rfl⟩) ⟨PW.blind, va_recv hK hP (ci := 2) (q0 := 0) rfl rfl, fun U hU hW => ⟨rfl, PW.go hPc hK hDc hE hS hFc hU hW⟩⟩ rfl rfl hl.1 rfl (lv_room (Nat.le_of_ble_eq_true rfl)) dX2_bout_88 ⟨Nat.le_of_ble_eq_true rfl, Nat.le_of_ble_eq_true rfl⟩) hS (fun q _ h9 => hFc q h9) hFc (fun u9 t9 H1 locs ht9 hvm9 hw9 hB9 hz9 hk9 hS => ?_)
        obtain ⟨hP9, hD9⟩ := hB9
        rw [ht9] at hP9
        obtain ⟨hP, hD⟩ := va_join (wr := []) (w1 := wS h ad cI n (s_note (s_set (s_set F a (s_then F a b (nI (500 * q)))) b (s_then F b a (nI (500 * (2 - q))))) a q) (upd ct 2 (ct 2 + bI (s_up F a b (nI q))))) hP hD [0, 1, 2, 3, 4, 5, 6, 7] [] rfl rfl (by decide) (by decide) hk9 hFc hP9 hD9
        generalize H1 = H at hP hS ⊢
        have hP : va_P (dC, dI) vwCl (wS h ad cI n (s_note (s_set (s_set F a (s_then F a b (nI (500 * q)))) b (s_then F b a (nI (500 * (2 - q))))) a q) (upd ct 2 (ct 2 + bI (s_up F a b (nI q))))) H := hP
        have hD : va_D A (wS h ad cI n (s_note (s_set (s_set F a (s_then F a b (nI (500 * q)))) b (s_then F b a (nI (500 * (2 - q))))) a q) (upd ct 2 (ct 2 + bI (s_up F a b (nI q))))) := hD
        refine lv_aload_n hx hb dX2_bout_91 rfl (lv_at hl 2 rfl) ?_
        refine lv_iload_n hx hb dX2_bout_92 rfl (lv_at hl 4 rfl) ?_
        refine lv_sipush (v := 1000) hx hb dX2_bout_93 (by decide) ?_
        refine lv_iload_n hx hb dX2_bout_96 rfl (lv_at hl 5 rfl) ?_
        refine lv_isub hx hb dX2_bout_97 ?_
        refine rv_top (y := nI (500 * (2 - q))) (n500_sub hq) ?_
        have hPc := hP.sub (ws' := (wS h ad cI n (s_note (s_set (s_set F a (s_then F a b (nI (500 * q)))) b (s_then F b a (nI (500 * (2 - q))))) a q) (upd ct 2 (ct 2 + bI (s_up F a b (nI q)))))) [0, 1, 2, 3, 4, 5, 6, 7] rfl
        have hDc := hD.sub (ws' := (wS h ad cI n (s_note (s_set (s_set F a (s_then F a b (nI (500 * q)))) b (s_then F b a (nI (500 * (2 - q))))) a q) (upd ct 2 (ct 2 + bI (s_up F a b (nI q)))))) [0, 1, 2, 3, 4, 5, 6, 7] (by decide) rfl
        have hFc := va_free (wc := (wS h ad cI n (s_note (s_set (s_set F a (s_then F a b (nI (500 * q)))) b (s_then F b a (nI (500 * (2 - q))))) a q) (upd ct 2 (ct 2 + bI (s_up F a b (nI q)))))) hD hS hA [0, 1, 2, 3, 4, 5, 6, 7] rfl
        refine va_callv (va_runV (As := [.int (nI b), .int (nI (500 * (2 - q)))]) (rest := []) ⟨hx, hb, hml, hown, hts⟩ (c_X2_note l dC dI cI h ad n (s_note (s_set (s_set F a (s_then F a b (nI (500 * q)))) b (s_then F b a (nI (500 * (2 - q))))) a q) (upd ct 2 (ct 2 + bI (s_up F a b (nI q)))) H.size b (show b < n by omega) (2 - q) (Nat.sub_le 2 q) hn) (cwV 2 hts gX2_bout_X2_note rfl rfl rfl (by decide +kernel) ⟨Nat.le_of_ble_eq_true rfl, Nat.le_of_ble_eq_true rfl⟩) ⟨PW.blind, va_recv hK hP (ci := 2) (q0 := 0) rfl rfl, fun U hU hW => ⟨rfl, PW.go hPc hK hDc hE hS hFc hU hW⟩⟩ rfl rfl hl.1 rfl (lv_room (Nat.le_of_ble_eq_true rfl)) dX2_bout_98 ⟨Nat.le_of_ble_eq_true rfl, Nat.le_of_ble_eq_true rfl⟩) hS (fun q _ h9 => hFc q h9) hFc (fun u9 t9 H1 locs ht9 hvm9 hw9 hB9 hz9 hk9 hS => ?_)
        obtain ⟨hP9, hD9⟩ := hB9
        rw [ht9] at hP9
        obtain ⟨hP, hD⟩ := va_join (wr := []) (w1 := wS h ad cI n (s_note (s_note (s_set (s_set F a (s_then F a b (nI (500 * q)))) b (s_then F b a (nI (500 * (2 - q))))) a q) b (2 - q)) (upd ct 2 (ct 2 + bI (s_up F a b (nI q))))) hP hD [0, 1, 2, 3, 4, 5, 6, 7] [] rfl rfl (by decide) (by decide) hk9 hFc hP9 hD9
        generalize H1 = H at hP hS ⊢
        have hP : va_P (dC, dI) vwCl (wS h ad cI n (s_note (s_note (s_set (s_set F a (s_then F a b (nI (500 * q)))) b (s_then F b a (nI (500 * (2 - q))))) a q) b (2 - q)) (upd ct 2 (ct 2 + bI (s_up F a b (nI q))))) H := hP
        have hD : va_D A (wS h ad cI n (s_note (s_note (s_set (s_set F a (s_then F a b (nI (500 * q)))) b (s_then F b a (nI (500 * (2 - q))))) a q) b (2 - q)) (upd ct 2 (ct 2 + bI (s_up F a b (nI q))))) := hD
        refine lv_aload_n hx hb dX2_bout_101 rfl (lv_at hl 2 rfl) ?_
        refine lv_dup hx hb dX2_bout_102 rfl ?_
        refine va_get (D := (dC, dI)) (ci := 2) (v := .int ((upd ct 2 (ct 2 + bI (s_up F a b (nI q)))) 1)) (C := RX2) (T := TX2) (N := 11) hx hb hts hinX2 hown hK hP 0 rfl rfl 2 (by decide) (hts (.fieldLink RX2 46 "WrestleBookModel$State" "bouts" "I") (by decide +kernel)) (fun _ h9 => h9) rfl dX2_bout_103 ?_
        refine lv_iconst (v := 1) hx hb dX2_bout_106 (by decide) ?_
        refine lv_iadd hx hb dX2_bout_107 ?_
        refine va_put (D := (dC, dI)) (ci := 2) (v := .int (((upd ct 2 (ct 2 + bI (s_up F a b (nI q)))) 1) + 1)) (ty := .int) (C := RX2) (T := TX2) (N := 11) hx hb hts hinX2 tyX2 tyX2_ok nmX2 hown hK hP hD hS 0 rfl rfl 2 (by decide) (hts (.fieldLink RX2 46 "WrestleBookModel$State" "bouts" "I") (by decide +kernel)) (fun _ h9 => h9) rfl (by decide +kernel) rfl rfl (Nat.le_of_ble_eq_true rfl) dX2_bout_108 (fun H locs hP hD hS => ?_)
        have hP : va_P (dC, dI) vwCl (wS h ad cI n (s_note (s_note (s_set (s_set F a (s_then F a b (nI (500 * q)))) b (s_then F b a (nI (500 * (2 - q))))) a q) b (2 - q)) (upd (upd ct 2 (ct 2 + bI (s_up F a b (nI q)))) 1 (((upd ct 2 (ct 2 + bI (s_up F a b (nI q)))) 1) + 1))) H := hP
        have hD : va_D A (wS h ad cI n (s_note (s_note (s_set (s_set F a (s_then F a b (nI (500 * q)))) b (s_then F b a (nI (500 * (2 - q))))) a q) b (2 - q)) (upd (upd ct 2 (ct 2 + bI (s_up F a b (nI q)))) 1 (((upd ct 2 (ct 2 + bI (s_up F a b (nI q)))) 1) + 1))) := hD
        have hP8 : va_P (dC, dI) vwCl (wS h ad cI n (s_mb F a b q) (s_ct ct F a b q)) H := by unfold s_ct; exact hP
        have hD8 : va_D A (wS h ad cI n (s_mb F a b q) (s_ct ct F a b q)) := by unfold s_ct; exact hD
        exact W.vret hx hb hr (fun t ht hW => ⟨⟨(), rfl, trivial, by rw [ht]; exact hP8, hD8⟩, hS.F ht⟩) hS.2.2 dX2_bout_111

set_option maxHeartbeats 4000000 in
set_option maxRecDepth 100000 in
theorem c_X2_end (l : Launch) (dC : Nat → ClassId) (dI : Nat → Nat → Nat) (cI : ClassId) (h : Nat) (ad : Nat → Nat) (n : Nat) (F : Nat → Nat → Int32) (ct : Nat → Int32) (sz : Nat) (hn : n ≤ 12) : Met l yX2_end wsX2_end ({ frames := 3, cells := 0, slots := 0, locals := 68 } : Room) (va_Pc [.ref h] (fun U => PW dC dI cI (wS h ad cI n F ct) sz U)) (va_Qi (fun r (_ : Unit) => r = (s_endU n (s_drift n F) 2).2) (BW dC dI (va_A (wS h ad cI n F ct) sz) (wS h ad cI n (s_clear n (s_endU n (s_drift n F) 2).1) (upd ct 0 (ct 0 + 1)))) (va_A (wS h ad cI n F ct) sz)) 0 0 (va_A (wS h ad cI n F ct) sz) := by
  refine Met.ofW (cc := cX2_end) (maxL := 5) (ret := (some .int)) (by decide) rfl ?_
  intro p e s m args below meth c s₁ B hml hv
  obtain ⟨rfl, hsz, hP, hK, hD0, hE⟩ := hv
  have hx := B.exec
  have hb := B.bytes
  have hr := B.returns
  have hts := atoms_spec (ws := wsX2_end) B.pre
  have hown : s.vm.findClass RX2 = some m.cls := findClass_of_methodNamed B.named
  have hlocks := B.notSynchronized
  subst hsz
  have hD := hD0.self (sz := s.heap.size)
  generalize hAe : va_A (wS h ad cI n F ct) s.heap.size = A at hD hE ⊢
  have hA : ∀ q : Nat, s.heap.size ≤ q → A q := fun q h9 => by rw [← hAe]; exact Or.inr h9
  have hS : va_S A s.heap s.heap [] := va_S.rf
  have hinX2 : ∀ w ∈ wsX20, w ∈ wsX2_end := by decide +kernel
  have hl := lv_entry ([.ref h]) (n := 5) (Nat.le_of_ble_eq_true rfl)
  rw [lg_entry_eq]
  generalize (lg_sl ([.ref h]) ++ List.replicate (5 - (lg_sl ([.ref h])).length) Slot.unset).toArray = ls at hl ⊢
  have hl : lv_has ls 5 [(0, .ref h)] := hl
  refine lv_iconst (v := 0) hx hb dX2_end_0 (by decide) ?_
  refine lv_istore_n (lv' := [(1, .int 0), (0, .ref h)]) hx hb dX2_end_1 rfl hl (by decide) rfl (fun ls hl => ?_)
  refine lv_iconst (v := 0) hx hb dX2_end_2 (by decide) ?_
  refine lv_istore_n (lv' := [(2, .int 0), (1, .int 0), (0, .ref h)]) hx hb dX2_end_3 rfl hl (by decide) rfl (fun ls hl => ?_)
  have L_4 : ∀ (k1 i1 : Nat) (G1 : Nat → Nat → Int32), i1 + k1 = n → G1 = s_driftU F i1 → ∀ (H : Heap) (locs : List Loc), va_P (dC, dI) vwCl (wS h ad cI n G1 ct) H → va_D A (wS h ad cI n G1 ct) → va_S A s.heap H locs → ∀ (ls : Array Slot), lv_has ls 5 [(2, .int (nI i1)), (1, .int 0), (0, .ref h)] → W p l e (headSpec wsX2_end ({ frames := 3, cells := 0, slots := 0, locals := 68 } : Room)).room s m ([.ref h] : List Value).toArray below meth c H locs 0 0 (MQ below (va_Qi (fun r (_ : Unit) => r = (s_endU n (s_drift n F) 2).2) (BW dC dI A (wS h ad cI n (s_clear n (s_endU n (s_drift n F) 2).1) (upd ct 0 (ct 0 + 1)))) A) ([.ref h] : List Value).toArray s 0 0 A) (F0 m 4 ls []) := by
    intro k1
    induction k1 with
    | zero =>
      intro i1 G1 e_i1 hG1 H locs hP hD hS ls hl
      refine lv_iload_n hx hb dX2_end_4 rfl (lv_at hl 0 rfl) ?_
      refine lv_aload_n hx hb dX2_end_5 rfl (lv_at hl 2 rfl) ?_
      refine va_get (D := (dC, dI)) (ci := 2) (v := .int (nI n)) (C := RX2) (T := TX2) (N := 11) hx hb hts hinX2 hown hK hP 0 rfl rfl 1 (by decide) (hts (.fieldLink RX2 43 "WrestleBookModel$State" "wrestlers" "I") (by decide +kernel)) (fun _ h9 => h9) rfl dX2_end_6 ?_
      refine rv_icmp_ge (tgt := 53) hx hb (a := i1) (b := n) (by omega) (by omega) dX2_end_9 (by decide) (fun c_9 => ?_) (fun c_9 => ?_)
      · refine lv_iconst (v := 0) hx hb dX2_end_53 (by decide) ?_
        refine lv_istore_n (lv' := [(2, .int 0), (1, .int 0), (0, .ref h)]) hx hb dX2_end_54 rfl hl (by decide) rfl (fun ls hl => ?_)
        have L_55 : ∀ (k2 i2 : Nat) (u2 : Int32) (G2 : Nat → Nat → Int32), i2 + k2 = 2 → (G2, u2) = s_endU n (s_drift n F) i2 → ∀ (H : Heap) (locs : List Loc), va_P (dC, dI) vwCl (wS h ad cI n G2 ct) H → va_D A (wS h ad cI n G2 ct) → va_S A s.heap H locs → ∀ (ls : Array Slot), lv_has ls 5 [(2, .int (nI i2)), (1, .int u2), (0, .ref h)] → W p l e (headSpec wsX2_end ({ frames := 3, cells := 0, slots := 0, locals := 68 } : Room)).room s m ([.ref h] : List Value).toArray below meth c H locs 0 0 (MQ below (va_Qi (fun r (_ : Unit) => r = (s_endU n (s_drift n F) 2).2) (BW dC dI A (wS h ad cI n (s_clear n (s_endU n (s_drift n F) 2).1) (upd ct 0 (ct 0 + 1)))) A) ([.ref h] : List Value).toArray s 0 0 A) (F0 m 55 ls []) := by
          intro k2
          induction k2 with
          | zero =>
            intro i2 u2 G2 e_i2 hG2 H locs hP hD hS ls hl
            refine lv_iload_n hx hb dX2_end_55 rfl (lv_at hl 0 rfl) ?_
            refine lv_iconst (v := 1) hx hb dX2_end_56 (by decide) ?_
            refine lv_iadd hx hb dX2_end_57 ?_
            refine rv_top (y := nI (i2 + 1)) (nI_1 i2) ?_
            refine lv_iconst (v := 3) hx hb dX2_end_58 (by decide) ?_
            refine rv_icmp_ge (tgt := 139) hx hb (a := (i2 + 1)) (b := 3) (by omega) (by omega) dX2_end_59 (by decide) (fun c_59 => ?_) (fun c_59 => ?_)
            · refine lv_iconst (v := 0) hx hb dX2_end_139 (by decide) ?_
              refine lv_istore_n (lv' := [(2, .int 0), (1, .int u2), (0, .ref h)]) hx hb dX2_end_140 rfl hl (by decide) rfl (fun ls hl => ?_)
              have L_141 : ∀ (k3 i3 : Nat) (G3 : Nat → Nat → Int32), i3 + k3 = n → G3 = s_clearU G2 i3 → ∀ (H : Heap) (locs : List Loc), va_P (dC, dI) vwCl (wS h ad cI n G3 ct) H → va_D A (wS h ad cI n G3 ct) → va_S A s.heap H locs → ∀ (ls : Array Slot), lv_has ls 5 [(2, .int (nI i3)), (1, .int u2), (0, .ref h)] → W p l e (headSpec wsX2_end ({ frames := 3, cells := 0, slots := 0, locals := 68 } : Room)).room s m ([.ref h] : List Value).toArray below meth c H locs 0 0 (MQ below (va_Qi (fun r (_ : Unit) => r = (s_endU n (s_drift n F) 2).2) (BW dC dI A (wS h ad cI n (s_clear n (s_endU n (s_drift n F) 2).1) (upd ct 0 (ct 0 + 1)))) A) ([.ref h] : List Value).toArray s 0 0 A) (F0 m 141 ls []) := by
                intro k3
                induction k3 with
                | zero =>
                  intro i3 G3 e_i3 hG3 H locs hP hD hS ls hl
                  refine lv_iload_n hx hb dX2_end_141 rfl (lv_at hl 0 rfl) ?_
                  refine lv_aload_n hx hb dX2_end_142 rfl (lv_at hl 2 rfl) ?_
                  refine va_get (D := (dC, dI)) (ci := 2) (v := .int (nI n)) (C := RX2) (T := TX2) (N := 11) hx hb hts hinX2 hown hK hP 0 rfl rfl 1 (by decide) (hts (.fieldLink RX2 43 "WrestleBookModel$State" "wrestlers" "I") (by decide +kernel)) (fun _ h9 => h9) rfl dX2_end_143 ?_
                  refine rv_icmp_ge (tgt := 169) hx hb (a := i3) (b := n) (by omega) (by omega) dX2_end_146 (by decide) (fun c_146 => ?_) (fun c_146 => ?_)
                  · refine lv_aload_n hx hb dX2_end_169 rfl (lv_at hl 2 rfl) ?_
                    refine lv_dup hx hb dX2_end_170 rfl ?_
                    refine va_get (D := (dC, dI)) (ci := 2) (v := .int (ct 0)) (C := RX2) (T := TX2) (N := 11) hx hb hts hinX2 hown hK hP 0 rfl rfl 0 (by decide) (hts (.fieldLink RX2 39 "WrestleBookModel$State" "season" "I") (by decide +kernel)) (fun _ h9 => h9) rfl dX2_end_171 ?_
                    refine lv_iconst (v := 1) hx hb dX2_end_174 (by decide) ?_
                    refine lv_iadd hx hb dX2_end_175 ?_
                    refine va_put (D := (dC, dI)) (ci := 2) (v := .int ((ct 0) + 1)) (ty := .int) (C := RX2) (T := TX2) (N := 11) hx hb hts hinX2 tyX2 tyX2_ok nmX2 hown hK hP hD hS 0 rfl rfl 0 (by decide) (hts (.fieldLink RX2 39 "WrestleBookModel$State" "season" "I") (by decide +kernel)) (fun _ h9 => h9) rfl (by decide +kernel) rfl rfl (Nat.le_of_ble_eq_true rfl) dX2_end_176 (fun H locs hP hD hS => ?_)
                    have hP : va_P (dC, dI) vwCl (wS h ad cI n G3 (upd ct 0 ((ct 0) + 1))) H := hP
                    have hD : va_D A (wS h ad cI n G3 (upd ct 0 ((ct 0) + 1))) := hD
                    refine lv_iload_n hx hb dX2_end_179 rfl (lv_at hl 1 rfl) ?_
                    have hP8 : va_P (dC, dI) vwCl (wS h ad cI n (s_clear n (s_endU n (s_drift n F) 2).1) (upd ct 0 (ct 0 + 1))) H := by rw [show s_clear n (s_endU n (s_drift n F) 2).1 = G3 from by rw [← show i2 = 2 by omega, ← hG2, hG3, show i3 = n by omega]; rfl]; exact hP
                    have hD8 : va_D A (wS h ad cI n (s_clear n (s_endU n (s_drift n F) 2).1) (upd ct 0 (ct 0 + 1))) := by rw [show s_clear n (s_endU n (s_drift n F) 2).1 = G3 from by rw [← show i2 = 2 by omega, ← hG2, hG3, show i3 = n by omega]; rfl]; exact hD
                    exact W.iret (v := u2) hx hb hr (fun t ht hW => ⟨⟨_, (), rfl, (show u2 = (s_endU n (s_drift n F) 2).2 from by rw [← show i2 = 2 by omega, ← hG2]), by rw [ht]; exact hP8, hD8⟩, hS.F ht⟩) hS.2.2 dX2_end_180
                  · exact absurd c_146 (by omega)
                | succ k3 ih_141 =>
                  intro i3 G3 e_i3 hG3 H locs hP hD hS ls hl
                  refine lv_iload_n hx hb dX2_end_141 rfl (lv_at hl 0 rfl) ?_
                  refine lv_aload_n hx hb dX2_end_142 rfl (lv_at hl 2 rfl) ?_
                  refine va_get (D := (dC, dI)) (ci := 2) (v := .int (nI n)) (C := RX2) (T := TX2) (N := 11) hx hb hts hinX2 hown hK hP 0 rfl rfl 1 (by decide) (hts (.fieldLink RX2 43 "WrestleBookModel$State" "wrestlers" "I") (by decide +kernel)) (fun _ h9 => h9) rfl dX2_end_143 ?_
                  refine rv_icmp_ge (tgt := 169) hx hb (a := i3) (b := n) (by omega) (by omega) dX2_end_146 (by decide) (fun c_146 => ?_) (fun c_146 => ?_)
                  · exact absurd c_146 (by omega)
                  · refine lv_aload_n hx hb dX2_end_149 rfl (lv_at hl 2 rfl) ?_
                    refine va_get (D := (dC, dI)) (ci := 2) (v := .ref (ad 2)) (C := RX2) (T := TX2) (N := 11) hx hb hts hinX2 hown hK hP 0 rfl rfl 6 (by decide) (hts (.fieldLink RX2 18 "WrestleBookModel$State" "points" "[I") (by decide +kernel)) (fun _ h9 => h9) rfl dX2_end_150 ?_
                    refine lv_iload_n hx hb dX2_end_153 rfl (lv_at hl 0 rfl) ?_
                    refine lv_iconst (v := 0) hx hb dX2_end_154 (by decide) ?_
                    refine rv_iast (k := i3) hx hb hK hP hD hS 3 0 rfl rfl (show i3 < 12 by omega) (by decide) dX2_end_155 (fun H locs hP hD hS => ?_)
                    have hP : va_P (dC, dI) vwCl (wS h ad cI n (pu G3 2 i3 0) ct) H := hP
                    have hD : va_D A (wS h ad cI n (pu G3 2 i3 0) ct) := hD
                    refine lv_aload_n hx hb dX2_end_156 rfl (lv_at hl 2 rfl) ?_
                    refine va_get (D := (dC, dI)) (ci := 2) (v := .ref (ad 4)) (C := RX2) (T := TX2) (N := 11) hx hb hts hinX2 hown hK hP 0 rfl rfl 8 (by decide) (hts (.fieldLink RX2 24 "WrestleBookModel$State" "lately" "[I") (by decide +kernel)) (fun _ h9 => h9) rfl dX2_end_157 ?_
                    refine lv_iload_n hx hb dX2_end_160 rfl (lv_at hl 0 rfl) ?_
                    refine lv_iconst (v := 0) hx hb dX2_end_161 (by decide) ?_
                    refine rv_iast (k := i3) hx hb hK hP hD hS 5 0 rfl rfl (show i3 < 12 by omega) (by decide) dX2_end_162 (fun H locs hP hD hS => ?_)
                    have hP : va_P (dC, dI) vwCl (wS h ad cI n (pu (pu G3 2 i3 0) 4 i3 0) ct) H := hP
                    have hD : va_D A (wS h ad cI n (pu (pu G3 2 i3 0) 4 i3 0) ct) := hD
                    refine lv_iinc (v := nI (i3 + 1)) (lv' := [(2, .int (nI (i3 + 1))), (1, .int u2), (0, .ref h)]) hx hb dX2_end_163 hl (k := 0) rfl (nI_add i3 1) (by decide) rfl (fun ls hl => ?_)
                    refine lv_goto (tgt := 141) hx hb dX2_end_166 (by decide) ?_
                    exact ih_141 (i3 + 1) (pu (pu G3 2 i3 0) 4 i3 0) (by omega) (by rw [hG3]; rfl) _ _ hP hD hS ls (lv_sub hl [0, 1, 2] rfl)
              exact L_141 n 0 G2 (by omega) rfl _ _ hP hD hS ls (lv_sub hl [0, 1, 2] rfl)
            · exact absurd c_59 (by omega)
          | succ k2 ih_55 =>
            intro i2 u2 G2 e_i2 hG2 H locs hP hD hS ls hl
            refine lv_iload_n hx hb dX2_end_55 rfl (lv_at hl 0 rfl) ?_
            refine lv_iconst (v := 1) hx hb dX2_end_56 (by decide) ?_
            refine lv_iadd hx hb dX2_end_57 ?_
            refine rv_top (y := nI (i2 + 1)) (nI_1 i2) ?_
            refine lv_iconst (v := 3) hx hb dX2_end_58 (by decide) ?_
            refine rv_icmp_ge (tgt := 139) hx hb (a := (i2 + 1)) (b := 3) (by omega) (by omega) dX2_end_59 (by decide) (fun c_59 => ?_) (fun c_59 => ?_)
            · exact absurd c_59 (by omega)
            · refine lv_aload_n hx hb dX2_end_62 rfl (lv_at hl 2 rfl) ?_
              refine lv_iload_n hx hb dX2_end_63 rfl (lv_at hl 0 rfl) ?_
              refine lv_aload_n hx hb dX2_end_64 rfl (lv_at hl 2 rfl) ?_
              refine lv_iload_n hx hb dX2_end_65 rfl (lv_at hl 0 rfl) ?_
              refine vp_callSi (W.runV (As := [.int (nI i2)]) (rest := [.int (nI i2), .ref h]) ⟨hx, hb, hml, hown, hts⟩ (c_X2_many l dC dI cI h ad n G2 ct (nI i2) hn) (cwV 1 hts gX2_end_X2_many rfl rfl rfl (by decide +kernel) ⟨Nat.le_of_ble_eq_true rfl, Nat.le_of_ble_eq_true rfl⟩) ⟨PR.blind, va_recv hK hP (ci := 2) (q0 := 0) rfl rfl, fun U hU hW => ⟨rfl, PR.go hP hK hE hS hU hW⟩⟩ rfl rfl hl.1 rfl (lv_room (Nat.le_of_ble_eq_true rfl)) dX2_end_66 ⟨Nat.le_of_ble_eq_true rfl, Nat.le_of_ble_eq_true rfl⟩) (fun r hr0 => ?_)
              subst hr0
              refine vp_callSi (W.runV (As := [.int (nI i2), .int (nI (s_many n G2 (nI i2)))]) (rest := []) ⟨hx, hb, hml, hown, hts⟩ (c_X2_at l dC dI cI h ad n G2 ct (nI i2) (nI (s_many n G2 (nI i2))) hn) (cwV 2 hts gX2_end_X2_at rfl rfl rfl (by decide +kernel) ⟨Nat.le_of_ble_eq_true rfl, Nat.le_of_ble_eq_true rfl⟩) ⟨PR.blind, va_recv hK hP (ci := 2) (q0 := 0) rfl rfl, fun U hU hW => ⟨rfl, PR.go hP hK hE hS hU hW⟩⟩ rfl rfl hl.1 rfl (lv_room (Nat.le_of_ble_eq_true rfl)) dX2_end_69 ⟨Nat.le_of_ble_eq_true rfl, Nat.le_of_ble_eq_true rfl⟩) (fun r hr0 => ?_)
              subst hr0
              obtain ⟨o69, ho_69⟩ : ∃ z9 : Option Nat, s_at n G2 (nI i2) (nI (s_many n G2 (nI i2))) = z9 := ⟨_, rfl⟩
              refine rv_top (y := oI o69) (by rw [ho_69]) ?_
              rcases o69 with _ | k69
              · refine rv_top (y := -1) rfl ?_
                refine lv_istore_n (lv' := [(3, .int (-1)), (2, .int (nI i2)), (1, .int u2), (0, .ref h)]) hx hb dX2_end_72 rfl hl (by decide) rfl (fun ls hl => ?_)
                refine lv_aload_n hx hb dX2_end_73 rfl (lv_at hl 3 rfl) ?_
                refine lv_iload_n hx hb dX2_end_74 rfl (lv_at hl 1 rfl) ?_
                refine lv_iconst (v := 1) hx hb dX2_end_75 (by decide) ?_
                refine lv_iadd hx hb dX2_end_76 ?_
                refine lv_iconst (v := 1) hx hb dX2_end_77 (by decide) ?_
                refine vp_callSi (W.runV (As := [.int ((nI i2) + 1), .int 1]) (rest := []) ⟨hx, hb, hml, hown, hts⟩ (c_X2_at l dC dI cI h ad n G2 ct ((nI i2) + 1) 1 hn) (cwV 2 hts gX2_end_X2_at rfl rfl rfl (by decide +kernel) ⟨Nat.le_of_ble_eq_true rfl, Nat.le_of_ble_eq_true rfl⟩) ⟨PR.blind, va_recv hK hP (ci := 2) (q0 := 0) rfl rfl, fun U hU hW => ⟨rfl, PR.go hP hK hE hS hU hW⟩⟩ rfl rfl hl.1 rfl (lv_room (Nat.le_of_ble_eq_true rfl)) dX2_end_78 ⟨Nat.le_of_ble_eq_true rfl, Nat.le_of_ble_eq_true rfl⟩) (fun r hr0 => ?_)
                subst hr0
                obtain ⟨o78, ho_78⟩ : ∃ z9 : Option Nat, s_at n G2 ((nI i2) + 1) 1 = z9 := ⟨_, rfl⟩
                refine rv_top (y := oI o78) (by rw [ho_78]) ?_
                rcases o78 with _ | k78
                · refine rv_top (y := -1) rfl ?_
                  refine lv_istore (lv' := [(4, .int (-1)), (3, .int (-1)), (2, .int (nI i2)), (1, .int u2), (0, .ref h)]) hx hb dX2_end_81 hl (by decide) rfl (fun ls hl => ?_)
                  refine lv_iload_n hx hb dX2_end_83 rfl (lv_at hl 1 rfl) ?_
                  refine lv_iconst (v := (-1)) hx hb dX2_end_84 (by decide) ?_
                  refine lv_icmp_eq (tgt := 133) hx hb dX2_end_85 (by decide) (fun c_85 => ?_) (fun c_85 => ?_)
                  · refine lv_iinc (v := nI (i2 + 1)) (lv' := [(2, .int (nI (i2 + 1))), (4, .int (-1)), (3, .int (-1)), (1, .int u2), (0, .ref h)]) hx hb dX2_end_133 hl (k := 2) rfl (nI_add i2 1) (by decide) rfl (fun ls hl => ?_)
                    refine lv_goto (tgt := 55) hx hb dX2_end_136 (by decide) ?_
                    exact ih_55 (i2 + 1) u2 G2 (by omega) (by rw [s_endU_s, ← hG2]; show _ = (s_exch n G2 (nI i2), if s_exchB n G2 (nI i2) = true then u2 + 1 else u2); unfold s_exch s_exchB; rw [ho_69]; rfl) _ _ hP hD hS ls (lv_sub hl [0, 3, 4] rfl)
                  · exact absurd c_85 (by decide)
                · refine rv_top (y := nI k78) rfl ?_
                  have i_k78 : k78 < n := (s_at_lt n k78 ho_78).1
                  refine lv_istore (lv' := [(4, .int (nI k78)), (3, .int (-1)), (2, .int (nI i2)), (1, .int u2), (0, .ref h)]) hx hb dX2_end_81 hl (by decide) rfl (fun ls hl => ?_)
                  refine lv_iload_n hx hb dX2_end_83 rfl (lv_at hl 1 rfl) ?_
                  refine lv_iconst (v := (-1)) hx hb dX2_end_84 (by decide) ?_
                  refine lv_icmp_eq (tgt := 133) hx hb dX2_end_85 (by decide) (fun c_85 => ?_) (fun c_85 => ?_)
                  · refine lv_iinc (v := nI (i2 + 1)) (lv' := [(2, .int (nI (i2 + 1))), (4, .int (nI k78)), (3, .int (-1)), (1, .int u2), (0, .ref h)]) hx hb dX2_end_133 hl (k := 2) rfl (nI_add i2 1) (by decide) rfl (fun ls hl => ?_)
                    refine lv_goto (tgt := 55) hx hb dX2_end_136 (by decide) ?_
                    exact ih_55 (i2 + 1) u2 G2 (by omega) (by rw [s_endU_s, ← hG2]; show _ = (s_exch n G2 (nI i2), if s_exchB n G2 (nI i2) = true then u2 + 1 else u2); unfold s_exch s_exchB; rw [ho_69]; rfl) _ _ hP hD hS ls (lv_sub hl [0, 3, 4] rfl)
                  · exact absurd c_85 (by decide)
              · refine rv_top (y := nI k69) rfl ?_
                have i_k69 : k69 < n := (s_at_lt n k69 ho_69).1
                refine lv_istore_n (lv' := [(3, .int (nI k69)), (2, .int (nI i2)), (1, .int u2), (0, .ref h)]) hx hb dX2_end_72 rfl hl (by decide) rfl (fun ls hl => ?_)
                refine lv_aload_n hx hb dX2_end_73 rfl (lv_at hl 3 rfl) ?_
                refine lv_iload_n hx hb dX2_end_74 rfl (lv_at hl 1 rfl) ?_
                refine lv_iconst (v := 1) hx hb dX2_end_75 (by decide) ?_
                refine lv_iadd hx hb dX2_end_76 ?_
                refine lv_iconst (v := 1) hx hb dX2_end_77 (by decide) ?_
                refine vp_callSi (W.runV (As := [.int ((nI i2) + 1), .int 1]) (rest := []) ⟨hx, hb, hml, hown, hts⟩ (c_X2_at l dC dI cI h ad n G2 ct ((nI i2) + 1) 1 hn) (cwV 2 hts gX2_end_X2_at rfl rfl rfl (by decide +kernel) ⟨Nat.le_of_ble_eq_true rfl, Nat.le_of_ble_eq_true rfl⟩) ⟨PR.blind, va_recv hK hP (ci := 2) (q0 := 0) rfl rfl, fun U hU hW => ⟨rfl, PR.go hP hK hE hS hU hW⟩⟩ rfl rfl hl.1 rfl (lv_room (Nat.le_of_ble_eq_true rfl)) dX2_end_78 ⟨Nat.le_of_ble_eq_true rfl, Nat.le_of_ble_eq_true rfl⟩) (fun r hr0 => ?_)
                subst hr0
                obtain ⟨o78, ho_78⟩ : ∃ z9 : Option Nat, s_at n G2 ((nI i2) + 1) 1 = z9 := ⟨_, rfl⟩
                refine rv_top (y := oI o78) (by rw [ho_78]) ?_
                rcases o78 with _ | k78
                · refine rv_top (y := -1) rfl ?_
                  refine lv_istore (lv' := [(4, .int (-1)), (3, .int (nI k69)), (2, .int (nI i2)), (1, .int u2), (0, .ref h)]) hx hb dX2_end_81 hl (by decide) rfl (fun ls hl => ?_)
                  refine lv_iload_n hx hb dX2_end_83 rfl (lv_at hl 1 rfl) ?_
                  refine lv_iconst (v := (-1)) hx hb dX2_end_84 (by decide) ?_
                  refine lv_icmp_eq (tgt := 133) hx hb dX2_end_85 (by decide) (fun c_85 => ?_) (fun c_85 => ?_)
                  · exact absurd c_85 (nI_m1 (by omega))
                  · refine lv_iload hx hb dX2_end_88 (lv_at hl 0 rfl) ?_
                    refine lv_iconst (v := (-1)) hx hb dX2_end_90 (by decide) ?_
                    refine lv_icmp_eq (tgt := 133) hx hb dX2_end_91 (by decide) (fun c_91 => ?_) (fun c_91 => ?_)
                    · refine lv_iinc (v := nI (i2 + 1)) (lv' := [(2, .int (nI (i2 + 1))), (4, .int (-1)), (3, .int (nI k69)), (1, .int u2), (0, .ref h)]) hx hb dX2_end_133 hl (k := 2) rfl (nI_add i2 1) (by decide) rfl (fun ls hl => ?_)
                      refine lv_goto (tgt := 55) hx hb dX2_end_136 (by decide) ?_
                      exact ih_55 (i2 + 1) u2 G2 (by omega) (by rw [s_endU_s, ← hG2]; show _ = (s_exch n G2 (nI i2), if s_exchB n G2 (nI i2) = true then u2 + 1 else u2); unfold s_exch s_exchB; rw [ho_69]; rw [ho_78]; rfl) _ _ hP hD hS ls (lv_sub hl [0, 3, 4] rfl)
                    · exact absurd c_91 (by decide)
                · refine rv_top (y := nI k78) rfl ?_
                  have i_k78 : k78 < n := (s_at_lt n k78 ho_78).1
                  refine lv_istore (lv' := [(4, .int (nI k78)), (3, .int (nI k69)), (2, .int (nI i2)), (1, .int u2), (0, .ref h)]) hx hb dX2_end_81 hl (by decide) rfl (fun ls hl => ?_)
                  refine lv_iload_n hx hb dX2_end_83 rfl (lv_at hl 1 rfl) ?_
                  refine lv_iconst (v := (-1)) hx hb dX2_end_84 (by decide) ?_
                  refine lv_icmp_eq (tgt := 133) hx hb dX2_end_85 (by decide) (fun c_85 => ?_) (fun c_85 => ?_)
                  · exact absurd c_85 (nI_m1 (by omega))
                  · refine lv_iload hx hb dX2_end_88 (lv_at hl 0 rfl) ?_
                    refine lv_iconst (v := (-1)) hx hb dX2_end_90 (by decide) ?_
                    refine lv_icmp_eq (tgt := 133) hx hb dX2_end_91 (by decide) (fun c_91 => ?_) (fun c_91 => ?_)
                    · exact absurd c_91 (nI_m1 (by omega))
                    · refine lv_aload_n hx hb dX2_end_94 rfl (lv_at hl 4 rfl) ?_
                      refine va_get (D := (dC, dI)) (ci := 2) (v := .ref (ad 2)) (C := RX2) (T := TX2) (N := 11) hx hb hts hinX2 hown hK hP 0 rfl rfl 6 (by decide) (hts (.fieldLink RX2 18 "WrestleBookModel$State" "points" "[I") (by decide +kernel)) (fun _ h9 => h9) rfl dX2_end_95 ?_
                      refine lv_iload hx hb dX2_end_98 (lv_at hl 0 rfl) ?_
                      refine rv_iald (k := k78) hx hb hK hP 3 0 rfl rfl (show k78 < 12 by omega) (by decide) dX2_end_100 ?_
                      refine lv_aload_n hx hb dX2_end_101 rfl (lv_at hl 4 rfl) ?_
                      refine va_get (D := (dC, dI)) (ci := 2) (v := .ref (ad 2)) (C := RX2) (T := TX2) (N := 11) hx hb hts hinX2 hown hK hP 0 rfl rfl 6 (by decide) (hts (.fieldLink RX2 18 "WrestleBookModel$State" "points" "[I") (by decide +kernel)) (fun _ h9 => h9) rfl dX2_end_102 ?_
                      refine lv_iload_n hx hb dX2_end_105 rfl (lv_at hl 1 rfl) ?_
                      refine rv_iald (k := k69) hx hb hK hP 3 0 rfl rfl (show k69 < 12 by omega) (by decide) dX2_end_106 ?_
                      refine lv_icmp_gt (tgt := 113) hx hb dX2_end_107 (by decide) (fun c_107 => ?_) (fun c_107 => ?_)
                      · refine lv_aload_n hx hb dX2_end_113 rfl (lv_at hl 4 rfl) ?_
                        refine va_get (D := (dC, dI)) (ci := 2) (v := .ref (ad 0)) (C := RX2) (T := TX2) (N := 11) hx hb hts hinX2 hown hK hP 0 rfl rfl 5 (by decide) (hts (.fieldLink RX2 15 "WrestleBookModel$State" "league" "[I") (by decide +kernel)) (fun _ h9 => h9) rfl dX2_end_114 ?_
                        refine lv_iload_n hx hb dX2_end_117 rfl (lv_at hl 1 rfl) ?_
                        refine lv_iload_n hx hb dX2_end_118 rfl (lv_at hl 2 rfl) ?_
                        refine lv_iconst (v := 1) hx hb dX2_end_119 (by decide) ?_
                        refine lv_iadd hx hb dX2_end_120 ?_
                        refine rv_iast (k := k69) hx hb hK hP hD hS 1 0 rfl rfl (show k69 < 12 by omega) (by decide) dX2_end_121 (fun H locs hP hD hS => ?_)
                        have hP : va_P (dC, dI) vwCl (wS h ad cI n (pu G2 0 k69 ((nI i2) + 1)) ct) H := hP
                        have hD : va_D A (wS h ad cI n (pu G2 0 k69 ((nI i2) + 1)) ct) := hD
                        refine lv_aload_n hx hb dX2_end_122 rfl (lv_at hl 4 rfl) ?_
                        refine va_get (D := (dC, dI)) (ci := 2) (v := .ref (ad 0)) (C := RX2) (T := TX2) (N := 11) hx hb hts hinX2 hown hK hP 0 rfl rfl 5 (by decide) (hts (.fieldLink RX2 15 "WrestleBookModel$State" "league" "[I") (by decide +kernel)) (fun _ h9 => h9) rfl dX2_end_123 ?_
                        refine lv_iload hx hb dX2_end_126 (lv_at hl 0 rfl) ?_
                        refine lv_iload_n hx hb dX2_end_128 rfl (lv_at hl 2 rfl) ?_
                        refine rv_iast (k := k78) hx hb hK hP hD hS 1 0 rfl rfl (show k78 < 12 by omega) (by decide) dX2_end_129 (fun H locs hP hD hS => ?_)
                        have hP : va_P (dC, dI) vwCl (wS h ad cI n (pu (pu G2 0 k69 ((nI i2) + 1)) 0 k78 (nI i2)) ct) H := hP
                        have hD : va_D A (wS h ad cI n (pu (pu G2 0 k69 ((nI i2) + 1)) 0 k78 (nI i2)) ct) := hD
                        refine lv_iinc (v := u2 + 1) (lv' := [(1, .int (u2 + 1)), (4, .int (nI k78)), (3, .int (nI k69)), (2, .int (nI i2)), (0, .ref h)]) hx hb dX2_end_130 hl (k := 3) rfl rfl (by decide) rfl (fun ls hl => ?_)
                        refine lv_iinc (v := nI (i2 + 1)) (lv' := [(2, .int (nI (i2 + 1))), (1, .int (u2 + 1)), (4, .int (nI k78)), (3, .int (nI k69)), (0, .ref h)]) hx hb dX2_end_133 hl (k := 3) rfl (nI_add i2 1) (by decide) rfl (fun ls hl => ?_)
                        refine lv_goto (tgt := 55) hx hb dX2_end_136 (by decide) ?_
                        exact ih_55 (i2 + 1) (u2 + 1) (pu (pu G2 0 k69 ((nI i2) + 1)) 0 k78 (nI i2)) (by omega) (by rw [s_endU_s, ← hG2]; show _ = (s_exch n G2 (nI i2), if s_exchB n G2 (nI i2) = true then u2 + 1 else u2); unfold s_exch s_exchB; rw [ho_69]; rw [ho_78]; simp [c_107]) _ _ hP hD hS ls (lv_sub hl [0, 1, 4] rfl)
                      · refine lv_goto (tgt := 133) hx hb dX2_end_110 (by decide) ?_
                        refine lv_iinc (v := nI (i2 + 1)) (lv' := [(2, .int (nI (i2 + 1))), (4, .int (nI k78)), (3, .int (nI k69)), (1, .int u2), (0, .ref h)]) hx hb dX2_end_133 hl (k := 2) rfl (nI_add i2 1) (by decide) rfl (fun ls hl => ?_)
                        refine lv_goto (tgt := 55) hx hb dX2_end_136 (by decide) ?_
                        exact ih_55 (i2 + 1) u2 G2 (by omega) (by rw [s_endU_s, ← hG2]; show _ = (s_exch n G2 (nI i2), if s_exchB n G2 (nI i2) = true then u2 + 1 else u2); unfold s_exch s_exchB; rw [ho_69]; rw [ho_78]; simp [c_107]) _ _ hP hD hS ls (lv_sub hl [0, 3, 4] rfl)
        exact L_55 2 0 0 G1 (by omega) (by rw [hG1, show i1 = n by omega]; rfl) _ _ hP hD hS ls (lv_sub hl [0, 1, 2] rfl)
      · exact absurd c_9 (by omega)
    | succ k1 ih_4 =>
      intro i1 G1 e_i1 hG1 H locs hP hD hS ls hl
      refine lv_iload_n hx hb dX2_end_4 rfl (lv_at hl 0 rfl) ?_
      refine lv_aload_n hx hb dX2_end_5 rfl (lv_at hl 2 rfl) ?_
      refine va_get (D := (dC, dI)) (ci := 2) (v := .int (nI n)) (C := RX2) (T := TX2) (N := 11) hx hb hts hinX2 hown hK hP 0 rfl rfl 1 (by decide) (hts (.fieldLink RX2 43 "WrestleBookModel$State" "wrestlers" "I") (by decide +kernel)) (fun _ h9 => h9) rfl dX2_end_6 ?_
      refine rv_icmp_ge (tgt := 53) hx hb (a := i1) (b := n) (by omega) (by omega) dX2_end_9 (by decide) (fun c_9 => ?_) (fun c_9 => ?_)
      · exact absurd c_9 (by omega)
      · refine lv_aload_n hx hb dX2_end_12 rfl (lv_at hl 2 rfl) ?_
        refine va_get (D := (dC, dI)) (ci := 2) (v := .ref (ad 4)) (C := RX2) (T := TX2) (N := 11) hx hb hts hinX2 hown hK hP 0 rfl rfl 8 (by decide) (hts (.fieldLink RX2 24 "WrestleBookModel$State" "lately" "[I") (by decide +kernel)) (fun _ h9 => h9) rfl dX2_end_13 ?_
        refine lv_iload_n hx hb dX2_end_16 rfl (lv_at hl 0 rfl) ?_
        refine rv_iald (k := i1) hx hb hK hP 5 0 rfl rfl (show i1 < 12 by omega) (by decide) dX2_end_17 ?_
        refine lv_iconst (v := 3) hx hb dX2_end_18 (by decide) ?_
        refine lv_icmp_ge (tgt := 47) hx hb dX2_end_19 (by decide) (fun c_19 => ?_) (fun c_19 => ?_)
        · refine lv_iinc (v := nI (i1 + 1)) (lv' := [(2, .int (nI (i1 + 1))), (1, .int 0), (0, .ref h)]) hx hb dX2_end_47 hl (k := 0) rfl (nI_add i1 1) (by decide) rfl (fun ls hl => ?_)
          refine lv_goto (tgt := 4) hx hb dX2_end_50 (by decide) ?_
          exact ih_4 (i1 + 1) G1 (by omega) (by rw [hG1]; show _ = (if (3 : Int32) ≤ (s_driftU F i1) 4 i1 then s_driftU F i1 else s_set (s_driftU F i1) i1 ((s_driftU F i1) 1 i1 - ((s_driftU F i1) 1 i1 - 1000) / 8)); rw [← hG1]; rw [if_pos c_19]) _ _ hP hD hS ls (lv_sub hl [0, 1, 2] rfl)
        · refine lv_aload_n hx hb dX2_end_22 rfl (lv_at hl 2 rfl) ?_
          refine lv_iload_n hx hb dX2_end_23 rfl (lv_at hl 0 rfl) ?_
          refine lv_aload_n hx hb dX2_end_24 rfl (lv_at hl 2 rfl) ?_
          refine va_get (D := (dC, dI)) (ci := 2) (v := .ref (ad 1)) (C := RX2) (T := TX2) (N := 11) hx hb hts hinX2 hown hK hP 0 rfl rfl 4 (by decide) (hts (.fieldLink RX2 9 "WrestleBookModel$State" "rating" "[I") (by decide +kernel)) (fun _ h9 => h9) rfl dX2_end_25 ?_
          refine lv_iload_n hx hb dX2_end_28 rfl (lv_at hl 0 rfl) ?_
          refine rv_iald (k := i1) hx hb hK hP 2 0 rfl rfl (show i1 < 12 by omega) (by decide) dX2_end_29 ?_
          refine lv_aload_n hx hb dX2_end_30 rfl (lv_at hl 2 rfl) ?_
          refine va_get (D := (dC, dI)) (ci := 2) (v := .ref (ad 1)) (C := RX2) (T := TX2) (N := 11) hx hb hts hinX2 hown hK hP 0 rfl rfl 4 (by decide) (hts (.fieldLink RX2 9 "WrestleBookModel$State" "rating" "[I") (by decide +kernel)) (fun _ h9 => h9) rfl dX2_end_31 ?_
          refine lv_iload_n hx hb dX2_end_34 rfl (lv_at hl 0 rfl) ?_
          refine rv_iald (k := i1) hx hb hK hP 2 0 rfl rfl (show i1 < 12 by omega) (by decide) dX2_end_35 ?_
          refine lv_sipush (v := 1000) hx hb dX2_end_36 (by decide) ?_
          refine lv_isub hx hb dX2_end_39 ?_
          refine lv_bipush (v := 8) hx hb dX2_end_40 (by decide) ?_
          refine lv_idiv hx hb dX2_end_42 (by decide) ?_
          refine lv_isub hx hb dX2_end_43 ?_
          have hPc := hP.sub (ws' := (wS h ad cI n G1 ct)) [0, 1, 2, 3, 4, 5, 6, 7] rfl
          have hDc := hD.sub (ws' := (wS h ad cI n G1 ct)) [0, 1, 2, 3, 4, 5, 6, 7] (by decide) rfl
          have hFc := va_free (wc := (wS h ad cI n G1 ct)) hD hS hA [0, 1, 2, 3, 4, 5, 6, 7] rfl
          refine va_callv (va_runV (As := [.int (nI i1), .int ((G1 1 i1) - (((G1 1 i1) - 1000) / 8))]) (rest := []) ⟨hx, hb, hml, hown, hts⟩ (c_X2_setRating l dC dI cI h ad n G1 ct H.size i1 (show i1 < n by omega) ((G1 1 i1) - (((G1 1 i1) - 1000) / 8)) hn) (cwV 2 hts gX2_end_X2_setRating rfl rfl rfl (by decide +kernel) ⟨Nat.le_of_ble_eq_true rfl, Nat.le_of_ble_eq_true rfl⟩) ⟨PW.blind, va_recv hK hP (ci := 2) (q0 := 0) rfl rfl, fun U hU hW => ⟨rfl, PW.go hPc hK hDc hE hS hFc hU hW⟩⟩ rfl rfl hl.1 rfl (lv_room (Nat.le_of_ble_eq_true rfl)) dX2_end_44 ⟨Nat.le_of_ble_eq_true rfl, Nat.le_of_ble_eq_true rfl⟩) hS (fun q _ h9 => hFc q h9) hFc (fun u9 t9 H1 locs ht9 hvm9 hw9 hB9 hz9 hk9 hS => ?_)
          obtain ⟨hP9, hD9⟩ := hB9
          rw [ht9] at hP9
          obtain ⟨hP, hD⟩ := va_join (wr := []) (w1 := wS h ad cI n (s_set G1 i1 ((G1 1 i1) - (((G1 1 i1) - 1000) / 8))) ct) hP hD [0, 1, 2, 3, 4, 5, 6, 7] [] rfl rfl (by decide) (by decide) hk9 hFc hP9 hD9
          generalize H1 = H at hP hS ⊢
          have hP : va_P (dC, dI) vwCl (wS h ad cI n (s_set G1 i1 ((G1 1 i1) - (((G1 1 i1) - 1000) / 8))) ct) H := hP
          have hD : va_D A (wS h ad cI n (s_set G1 i1 ((G1 1 i1) - (((G1 1 i1) - 1000) / 8))) ct) := hD
          refine lv_iinc (v := nI (i1 + 1)) (lv' := [(2, .int (nI (i1 + 1))), (1, .int 0), (0, .ref h)]) hx hb dX2_end_47 hl (k := 0) rfl (nI_add i1 1) (by decide) rfl (fun ls hl => ?_)
          refine lv_goto (tgt := 4) hx hb dX2_end_50 (by decide) ?_
          exact ih_4 (i1 + 1) (s_set G1 i1 ((G1 1 i1) - (((G1 1 i1) - 1000) / 8))) (by omega) (by rw [hG1]; show _ = (if (3 : Int32) ≤ (s_driftU F i1) 4 i1 then s_driftU F i1 else s_set (s_driftU F i1) i1 ((s_driftU F i1) 1 i1 - ((s_driftU F i1) 1 i1 - 1000) / 8)); rw [← hG1]; rw [if_neg c_19]) _ _ hP hD hS ls (lv_sub hl [0, 1, 2] rfl)
  exact L_4 n 0 F (by omega) rfl _ _ hP hD hS ls (lv_sub hl [0, 1, 2] rfl)
