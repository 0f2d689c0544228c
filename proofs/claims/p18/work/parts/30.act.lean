/-! The law's act -/
abbrev ACT : Type := Nat × (Nat → Nat → Int32) × (Nat → Int32) × Nat × (Nat → Nat → Int32) × (Nat → Int32) × Nat × (Nat → Nat)
abbrev wU (mb r1 : Nat) (d1 : Nat → Nat) (r2 : Nat) (d2 : Nat → Nat) (rc h : Nat) (cA cI : ClassId) (u : ACT) : va_W := wB mb r1 d1 r2 d2 rc cI u.1 u.2.1 u.2.2.2.1 u.2.2.2.2.1 u.2.2.1 u.2.2.2.2.2.1 ++ wT h u.2.2.2.2.2.2.1 u.2.2.2.2.2.2.2 cA cI u.1 u.2.1 u.2.2.1
theorem va_nop_blind {av : List Value} : FrameBlind (va_Pc av (fun _ => True)) := fun _ _ _ _ q => q
set_option maxHeartbeats 4000000 in
set_option maxRecDepth 100000 in
theorem c_L_below (l : Launch) (vx : Int32) (k : Nat) (h0 : 0 < k) (hk : k < 2 ^ 31) : Met l yL_below wsL_below ({ frames := 0, cells := 0, slots := 0, locals := 0 } : Room) (va_Pc [.int vx, .int (nI k)] (fun _ => True)) (vp_Si (fun r => r = nI (bel vx k))) 0 0 (fun _ => False) := by
  refine Met.ofW (cc := cL_below) (maxL := 2) (ret := (some .int)) (by decide) rfl ?_
  intro p e s m args below meth c s₁ B hml hv
  obtain ⟨rfl, -⟩ := hv
  have hx := B.exec
  have hb := B.bytes
  have hr := B.returns
  have hts := atoms_spec (ws := wsL_below) B.pre
  have hown : s.vm.findClass RL = some m.cls := findClass_of_methodNamed B.named
  have hlocks := B.notSynchronized
  have hS : va_S (fun _ => False) s.heap s.heap [] := va_S.rf
  have hl := lv_entry ([.int vx, .int (nI k)]) (n := 2) (Nat.le_of_ble_eq_true rfl)
  rw [lg_entry_eq]
  generalize (lg_sl ([.int vx, .int (nI k)]) ++ List.replicate (2 - (lg_sl ([.int vx, .int (nI k)])).length) Slot.unset).toArray = ls at hl ⊢
  have hl : lv_has ls 2 [(0, .int vx), (1, .int (nI k))] := hl
  refine lv_iload_n hx hb dL_below_0 rfl (lv_at hl 0 rfl) ?_
  refine lv_ldc hx hb hown (hts (.constant RL 7 2147483647) (by decide +kernel)) dL_below_1 ?_
  refine lv_iand hx hb dL_below_3 ?_
  refine lv_iload_n hx hb dL_below_4 rfl (lv_at hl 1 rfl) ?_
  refine lv_irem hx hb dL_below_5 (nI_ne0 h0 hk) ?_
  exact W.iret hx hb hr (fun t ht hW => ⟨_, rfl, bel_rem h0 hk, ht⟩) hS.2.2 dL_below_6
/-- the new array of rows, i rows copied -/
def CPY (rw : Nat → Nat) (i : Nat) (f : Nat → Option Nat) : Prop := ∀ j, j < i → f j = some (rw j)
theorem CPY.s {rw : Nat → Nat} {i : Nat} {f : Nat → Option Nat} (h : CPY rw i f) : CPY rw (i + 1) (va_up f i (some (rw i))) := by
  intro j hj
  by_cases q : j = i
  · subst q; exact va_up_self f j _
  · rw [va_up_ne f _ q]; exact h j (by omega)
theorem cpy_fin {rw : Nat → Nat} {n r9 : Nat} {f : Nat → Option Nat} (h : CPY rw n f) : ∀ i, i < n + 1 → va_up f n (some r9) i = some (if i = n then r9 else rw i) := by
  intro i hi
  by_cases q : i = n
  · rw [if_pos q, q, va_up_self]
  · rw [if_neg q, va_up_ne _ _ q]; exact h i (by omega)
theorem x_join_ok {n g : Nat} (h : n < 12) (hg : g < 3) : x_join n (nI g) = 0 := by
  unfold x_join
  rw [if_pos (lg_in hg), if_pos h]
theorem x_join_full {n g : Nat} (h : ¬ n < 12) (hg : g < 3) : x_join n (nI g) = 2 := by
  unfold x_join
  rw [if_pos (lg_in hg), if_neg h]
theorem add_lo {F : Nat → Nat → Int32} {n i k : Nat} {x : Int32} (h : i < n) : s_add F n x k i = F k i := by
  unfold s_add
  rw [pu_app, pu_app, pu_app, if_neg (by omega), if_neg (by omega), if_neg (by omega)]
theorem add_row {F : Nat → Nat → Int32} {n g : Nat} (hZ : ∀ k, 2 ≤ k → k ≤ 5 → F k n = 0) : ∀ k, k < 7 → (upd (upd (upd (upd (upd (upd (upd (fun _ => 0) 0 1000) 1 (nI g)) 2 0) 3 0) 4 0) 5 0) 6 1000) k = s_add F n (nI g) (sw k) n := by
  intro k hk
  rcases (show k = 0 ∨ k = 1 ∨ k = 2 ∨ k = 3 ∨ k = 4 ∨ k = 5 ∨ k = 6 by omega) with rfl | rfl | rfl | rfl | rfl | rfl | rfl
  · show (1000 : Int32) = s_add F n (nI g) 1 n; simp [s_add, pu_app]
  · show nI g = s_add F n (nI g) 0 n; simp [s_add, pu_app]
  · show (0 : Int32) = s_add F n (nI g) 2 n; simp [s_add, pu_app, hZ 2 (by decide) (by decide)]
  · show (0 : Int32) = s_add F n (nI g) 3 n; simp [s_add, pu_app, hZ 3 (by decide) (by decide)]
  · show (0 : Int32) = s_add F n (nI g) 4 n; simp [s_add, pu_app, hZ 4 (by decide) (by decide)]
  · show (0 : Int32) = s_add F n (nI g) 5 n; simp [s_add, pu_app, hZ 5 (by decide) (by decide)]
  · show (1000 : Int32) = s_add F n (nI g) 6 n; simp [s_add, pu_app]
section GR
variable {B : va_W} {h al q94 q131 : Nat} {rw : Nat → Nat} {cA cI : ClassId} {n : Nat} {F : Nat → Nat → Int32} {ct : Nat → Int32} {f : Nat → Option Nat} {g : Nat → Int32} {x : va_E} {y : Nat × va_E} {D : va_G} {cl : List vw_C} {H : Heap} {A : Nat → Prop} {ws : va_W}
theorem rl_len (rw : Nat → Nat) (cI : ClassId) (n : Nat) (F : Nat → Nat → Int32) : (rl rw cI n F).length = n := by simp [rl]
theorem wT_len : (wT h al rw cA cI n F ct).length = 2 + n := by
  show ([_, _] ++ rl rw cI n F).length = _
  rw [List.length_append, rl_len]; rfl
theorem gr_arr (hB : B.length = 18 := by rfl) : (B ++ wT h al rw cA cI n F ct ++ [(q94, x)])[20 + n]? = some (q94, x) := by
  rw [List.getElem?_append_right (by rw [List.length_append, wT_len]; omega), List.length_append, wT_len, hB, show 20 + n - (18 + (2 + n)) = 0 by omega]; rfl
theorem gr_row {i9 : Nat} (hi : i9 < n) (hB : B.length = 18 := by rfl) : (B ++ wT h al rw cA cI n F ct ++ ws)[20 + i9]? = some (rw i9, .inl (cI, 7, .inl (fun k => F (sw k) i9))) := by
  rw [List.getElem?_append_left (by rw [List.length_append, wT_len]; omega), List.getElem?_append_right (by omega), hB, show 20 + i9 - 18 = 2 + i9 by omega]
  exact rl_get rfl hi
theorem gr_set (hB : B.length = 18 := by rfl) : (B ++ wT h al rw cA cI n F ct ++ [(q94, x)]).set (20 + n) y = B ++ wT h al rw cA cI n F ct ++ [y] := by
  rw [List.set_append_right _ _ (by rw [List.length_append, wT_len]; omega), List.length_append, wT_len, hB, show 20 + n - (18 + (2 + n)) = 0 by omega]; rfl
theorem gr_asc {z : Nat × va_E} (hP : va_P D cl (ws ++ [y] ++ [z]) H) : va_P D cl (ws ++ [y, z]) H := by rw [List.append_assoc] at hP; exact hP
theorem gr_ascD {z : Nat × va_E} (hD : va_D A (ws ++ [y] ++ [z])) : va_D A (ws ++ [y, z]) := by rw [List.append_assoc] at hD; exact hD
theorem gz_new {z : Nat × va_E} (hB : B.length = 18 := by rfl) : (B ++ wT h al rw cA cI n F ct ++ [y, z])[21 + n]? = some z := by
  rw [List.getElem?_append_right (by rw [List.length_append, wT_len]; omega), List.length_append, wT_len, hB, show 21 + n - (18 + (2 + n)) = 1 by omega]; rfl
theorem gr_arr2 {z : Nat × va_E} (hB : B.length = 18 := by rfl) : (B ++ wT h al rw cA cI n F ct ++ [y, z])[20 + n]? = some y := by
  rw [List.getElem?_append_right (by rw [List.length_append, wT_len]; omega), List.length_append, wT_len, hB, show 20 + n - (18 + (2 + n)) = 0 by omega]; rfl
theorem gr_setN {z z' : Nat × va_E} (hB : B.length = 18 := by rfl) : (B ++ wT h al rw cA cI n F ct ++ [y, z]).set (21 + n) z' = B ++ wT h al rw cA cI n F ct ++ [y, z'] := by
  rw [List.set_append_right _ _ (by rw [List.length_append, wT_len]; omega), List.length_append, wT_len, hB, show 21 + n - (18 + (2 + n)) = 1 by omega]; rfl
theorem gr_setA {y' z : Nat × va_E} (hB : B.length = 18 := by rfl) : (B ++ wT h al rw cA cI n F ct ++ [y, z]).set (20 + n) y' = B ++ wT h al rw cA cI n F ct ++ [y', z] := by
  rw [List.set_append_right _ _ (by rw [List.length_append, wT_len]; omega), List.length_append, wT_len, hB, show 20 + n - (18 + (2 + n)) = 0 by omega]; rfl
end GR
set_option maxHeartbeats 16000000 in
set_option maxRecDepth 100000 in
theorem c_L_act (l : Launch) (hl0 : l.stackTraces = false) (dC : Nat → ClassId) (dI : Nat → Nat → Nat) (cI : ClassId) (mb r1 : Nat) (d1 : Nat → Nat) (r2 : Nat) (d2 : Nat → Nat) (rc h : Nat) (cA : ClassId) (n : Nat) (F : Nat → Nat → Int32) (ct : Nat → Int32) (n2 : Nat) (G : Nat → Nat → Int32) (ch : Nat → Int32) (al : Nat) (rw : Nat → Nat) (sz : Nat) (x : Int32) (K : Nat) (hK9 : K ≤ 900) (hI : INV n F ct K) : Met l yL_act wsL_act ({ frames := 7, cells := 8, slots := 80, locals := 132 } : Room) (va_Pc [.ref mb, .ref h, .int x] (fun U => PV dC dI cI cA (wW mb r1 d1 r2 d2 rc h cA cI n F ct n2 G ch al rw) sz U)) (va_Qi (fun r (u : ACT) => r = 1 ∧ INV u.1 u.2.1 u.2.2.1 (K + 2)) (fun u t => va_P (dC, dI) vwCl (wU mb r1 d1 r2 d2 rc h cA cI u) t.heap ∧ va_D (va_A (wW mb r1 d1 r2 d2 rc h cA cI n F ct n2 G ch al rw) sz) (wU mb r1 d1 r2 d2 rc h cA cI u)) (va_A (wW mb r1 d1 r2 d2 rc h cA cI n F ct n2 G ch al rw) sz)) 8 80 (va_A (wW mb r1 d1 r2 d2 rc h cA cI n F ct n2 G ch al rw) sz) := by
  have hn := hI.n12
  have hR := hI.okR
  refine met_ofWH (cc := cL_act) (maxL := 9) (ret := (some .boolean)) (hh := [(174, 199, 200, 29)]) (by decide) rfl ?_
  intro p e s m args below meth c s₁ B hml hv
  obtain ⟨rfl, hsz, hP, hK, hD0, hE⟩ := hv
  have hx := B.exec
  have hb := B.bytes
  have hr := B.returns
  have hts := atoms_spec (ws := wsL_act) B.pre
  have hown : s.vm.findClass RL = some m.cls := findClass_of_methodNamed B.named
  have hlocks := B.notSynchronized
  have htab := vx_table (x := yL_act) B (hts (.codeWith yL_act cL_act 9 (some .boolean) [(174, 199, 200, 29)]) List.mem_cons_self)
  subst hsz
  have hD := hD0.self (sz := s.heap.size)
  generalize hAe : va_A (wW mb r1 d1 r2 d2 rc h cA cI n F ct n2 G ch al rw) s.heap.size = A at hD hE ⊢
  have hA : ∀ q : Nat, s.heap.size ≤ q → A q := fun q h9 => by rw [← hAe]; exact Or.inr h9
  have hS : va_S A s.heap s.heap [] := va_S.rf
  have hinX2 : ∀ w ∈ wsX20, w ∈ wsL_act := by decide +kernel
  have hl := lv_entry ([.ref mb, .ref h, .int x]) (n := 9) (Nat.le_of_ble_eq_true rfl)
  rw [lg_entry_eq]
  generalize (lg_sl ([.ref mb, .ref h, .int x]) ++ List.replicate (9 - (lg_sl ([.ref mb, .ref h, .int x])).length) Slot.unset).toArray = ls at hl ⊢
  have hl : lv_has ls 9 [(0, .ref mb), (1, .ref h), (2, .int x)] := hl
  obtain ⟨H, hHe⟩ : ∃ H, H = s.heap := ⟨_, rfl⟩
  have hP : va_P (dC, dI) vwCl (([] : va_W) ++ (wB mb r1 d1 r2 d2 rc cI n F n2 G ct ch ++ wT h al rw cA cI n F ct)) H := by rw [hHe]; exact hP
  have hD : va_D A (([] : va_W) ++ (wB mb r1 d1 r2 d2 rc cI n F n2 G ct ch ++ wT h al rw cA cI n F ct)) := hD
  have hS : va_S A s.heap H [] := by rw [hHe]; exact hS
  have hPB : va_P (dC, dI) vwCl (wB mb r1 d1 r2 d2 rc cI n F n2 G ct ch) H := P_l (P_r hP)
  have hPS : va_P (dC, dI) vwCl (wT h al rw cA cI n F ct) H := P_r (P_r hP)
  suffices h0 : W p l e (headSpec wsL_act ({ frames := 7, cells := 8, slots := 80, locals := 132 } : Room)).room s m ([.ref mb, .ref h, .int x] : List Value).toArray below meth c H [] 0 0 (MQ below (va_Qi (fun r (u : ACT) => r = 1 ∧ INV u.1 u.2.1 u.2.2.1 (K + 2)) (fun u t => va_P (dC, dI) vwCl (wU mb r1 d1 r2 d2 rc h cA cI u) t.heap ∧ va_D A (wU mb r1 d1 r2 d2 rc h cA cI u)) A) ([.ref mb, .ref h, .int x] : List Value).toArray s 8 80 A) (F0 m 0 ls []) from by have h9 := h0; rw [hHe] at h9; exact h9
  refine lv_aload_n hx hb dL_act_0 rfl (lv_at hl 1 rfl) ?_
  refine va_get (D := (dC, dI)) (ci := 2) (v := .ref al) (C := RX2) (T := TX2) (N := 4) hx hb hts hinX2 hown hK hPS 0 rfl rfl 3 (by decide) (hts (.fieldLink RL 9 "WrestleBookLaw$Sim" "all" "[[I") (by decide +kernel)) (fun _ h9 => h9) rfl dL_act_1 ?_
  refine va_alen hx hb hK hPS 1 1 rfl rfl (v := nI n) rfl dL_act_4 ?_
  refine lv_istore_n (lv' := [(3, .int (nI n)), (0, .ref mb), (1, .ref h), (2, .int x)]) hx hb dL_act_5 rfl hl (by decide) rfl (fun ls hl => ?_)
  by_cases hn0 : n = 0
  · refine lv_iload_n hx hb dL_act_6 rfl (lv_at hl 0 rfl) ?_
    refine lv_if_ne (tgt := 14) hx hb dL_act_7 (by decide) (fun c_7 => absurd (show nI n = 0 by rw [hn0]; rfl) c_7) (fun _ => ?_)
    refine lv_iconst (v := 0) hx hb dL_act_10 (by decide) ?_
    refine lv_goto (tgt := 21) hx hb dL_act_11 (by decide) ?_
    refine lv_istore (lv' := [(4, .int 0), (3, .int (nI n)), (0, .ref mb), (1, .ref h), (2, .int x)]) hx hb dL_act_21 hl (by decide) rfl (fun ls hl => ?_)
    refine lv_iload_n hx hb dL_act_23 rfl (lv_at hl 1 rfl) ?_
    refine lv_if_ne (tgt := 31) hx hb dL_act_24 (by decide) (fun c_24 => absurd (show nI n = 0 by rw [hn0]; rfl) c_24) (fun _ => ?_)
    refine lv_iconst (v := 0) hx hb dL_act_27 (by decide) ?_
    refine lv_goto (tgt := 39) hx hb dL_act_28 (by decide) ?_
    refine lv_istore (lv' := [(5, .int 0), (4, .int 0), (3, .int (nI n)), (0, .ref mb), (1, .ref h), (2, .int x)]) hx hb dL_act_39 hl (by decide) rfl (fun ls hl => ?_)
    refine lv_iload_n hx hb dL_act_41 rfl (lv_at hl 5 rfl) ?_
    refine lv_bipush (v := 14) hx hb dL_act_42 (by decide) ?_
    refine vp_callSi (W.runS (As := [.int x, .int 14]) (rest := []) ⟨hx, hb, hml, hown, hts⟩ (c_L_below l x 14 (show 0 < 14 by omega) (by omega)) (va_cwS 2 hts gL_act_L_below rfl rfl rfl (by decide +kernel) ⟨Nat.le_of_ble_eq_true rfl, Nat.le_of_ble_eq_true rfl⟩) ⟨va_nop_blind, fun U hU hW => ⟨rfl, trivial⟩⟩ rfl rfl hl.1 rfl (lv_room (Nat.le_of_ble_eq_true rfl)) dL_act_44 ⟨(by show _ ≤ 8; omega), (by show _ ≤ 80; omega)⟩) (fun r hr0 => ?_)
    subst hr0
    obtain ⟨t, h_t⟩ : ∃ z : Nat, (bel x 14) = z := ⟨_, rfl⟩
    have i_t : t < 14 := by rw [← h_t]; exact bel_lt _ (by decide)
    rw [h_t]
    have J76 : W p l e (headSpec wsL_act ({ frames := 7, cells := 8, slots := 80, locals := 132 } : Room)).room s m ([.ref mb, .ref h, .int x] : List Value).toArray below meth c H [] 0 0 (MQ below (va_Qi (fun r (u : ACT) => r = 1 ∧ INV u.1 u.2.1 u.2.2.1 (K + 2)) (fun u t => va_P (dC, dI) vwCl (wU mb r1 d1 r2 d2 rc h cA cI u) t.heap ∧ va_D A (wU mb r1 d1 r2 d2 rc h cA cI u)) A) ([.ref mb, .ref h, .int x] : List Value).toArray s 8 80 A) (F0 m 76 ls []) := by
      refine lv_iload_n hx hb dL_act_76 rfl (lv_at hl 5 rfl) ?_
      refine lv_iconst (v := 5) hx hb dL_act_77 (by decide) ?_
      refine lv_ishr hx hb dL_act_78 ?_
      refine lv_iconst (v := 3) hx hb dL_act_79 (by decide) ?_
      refine vp_callSi (W.runS (As := [.int (x >>> ((5 : Int32) &&& 31)), .int 3]) (rest := []) ⟨hx, hb, hml, hown, hts⟩ (c_L_below l (x >>> ((5 : Int32) &&& 31)) 3 (show 0 < 3 by omega) (by omega)) (va_cwS 2 hts gL_act_L_below rfl rfl rfl (by decide +kernel) ⟨Nat.le_of_ble_eq_true rfl, Nat.le_of_ble_eq_true rfl⟩) ⟨va_nop_blind, fun U hU hW => ⟨rfl, trivial⟩⟩ rfl rfl hl.1 rfl (lv_room (Nat.le_of_ble_eq_true rfl)) dL_act_80 ⟨(by show _ ≤ 8; omega), (by show _ ≤ 80; omega)⟩) (fun r hr0 => ?_)
      subst hr0
      obtain ⟨g, h_g⟩ : ∃ z : Nat, (bel (x >>> ((5 : Int32) &&& 31)) 3) = z := ⟨_, rfl⟩
      rw [h_g]
      have i_g : g < 3 := by rw [← h_g]; exact bel_lt _ (by decide)
      refine lv_istore (lv' := [(6, .int (nI g)), (5, .int 0), (4, .int 0), (3, .int (nI n)), (0, .ref mb), (1, .ref h), (2, .int x)]) hx hb dL_act_83 hl (by decide) rfl (fun ls hl => ?_)
      refine lv_iload_n hx hb dL_act_85 rfl (lv_at hl 3 rfl) ?_
      refine lv_bipush (v := 12) hx hb dL_act_86 (by decide) ?_
      refine rv_icmp_ge (tgt := 174) hx hb (a := n) (b := 12) (by omega) (by omega) dL_act_88 (by decide) (fun c_88 => ?_) (fun c_88 => ?_)
      · have c12 : ¬ n < 12 := by omega
        refine lv_aload_n hx hb dL_act_174 rfl (lv_at hl 4 rfl) ?_
        refine lv_iload hx hb dL_act_175 (lv_at hl 0 rfl) ?_
        have hDB := D_l (D_r hD)
        have hFc := free_all hDB hS hA
        refine vx_calli (vx_runV (As := [.int (nI g)]) (rest := []) ⟨hx, hb, hml, hown, hts⟩ (c_X1_join l hl0 dC dI cI mb r1 d1 r2 d2 rc n F n2 G ct ch H.size (nI g) hn) (cwV 1 hts gL_act_X1_join rfl rfl rfl (by decide +kernel) ⟨Nat.le_of_ble_eq_true rfl, Nat.le_of_ble_eq_true rfl⟩) ⟨PW.blind, va_recv (hK.sub (tys' := [(cI, .int)]) [0] rfl) hPB (ci := 1) (q0 := 0) rfl rfl, fun U hU hW => ⟨rfl, PW.go hPB (hK.sub (tys' := [(cI, .int)]) [0] rfl) hDB hE hS hFc hU hW⟩⟩ rfl rfl hl.1 rfl (lv_room (Nat.le_of_ble_eq_true rfl)) dL_act_177 ⟨(by show _ ≤ 8; omega), (by show _ ≤ 80; omega)⟩) hS (fun q _ h9 => hFc q h9) hFc (fun q _ h9 => hFc q h9) (fun E9 ce9 q9 u9 t9 H locs ht9 hvm9 hw9 hB9 hz9 hk9 hS hce9 hcv9 hcl9 => ?_) (fun r u9 t9 H locs ht9 hvm9 hw9 hB9 hz9 hk9 hS => ?_)
        · obtain ⟨hc9, hP9, hD9⟩ := hB9
          rw [x_join_full c12 i_g] at hc9
          rw [ht9] at hP9
          obtain ⟨hP, hD⟩ := J_B hP hD hk9 hFc hP9 hD9
          have hP : va_P (dC, dI) vwCl (([] : va_W) ++ (wB mb r1 d1 r2 d2 rc cI n F n2 G ct ch ++ wT h al rw cA cI n F ct)) H := hP
          have hD : va_D A (([] : va_W) ++ (wB mb r1 d1 r2 d2 rc cI n F n2 G ct ch ++ wT h al rw cA cI n F ct)) := hD
          have hPB : va_P (dC, dI) vwCl (wB mb r1 d1 r2 d2 rc cI n F n2 G ct ch) H := P_l (P_r hP)
          have hPS : va_P (dC, dI) vwCl (wT h al rw cA cI n F ct) H := P_r (P_r hP)
          have hE9 : E9 = "java/lang/IllegalStateException" := by have h8 := hc9.2; simp at h8; exact h8.symm
          subst hE9
          refine vx_catch (name := "java/lang/IllegalStateException") hown [] ⟨174, 199, 200, 29⟩ [] (htab.trans rfl) (fun z hz => by simp at hz) (by decide) (by decide) (hts (.classLink RL 29 "java/lang/IllegalStateException") (by decide +kernel)) (va_Nw.use rfl (hE.2.2.1 (.castable "java/lang/IllegalStateException" "java/lang/IllegalStateException") (by decide +kernel))) hce9 hcv9 hcl9 ?_
          refine lv_astore (lv' := [(7, .ref q9), (6, .int (nI g)), (5, .int 0), (4, .int 0), (3, .int (nI n)), (0, .ref mb), (1, .ref h), (2, .int x)]) hx hb dL_act_200 hl (by decide) rfl (fun ls hl => ?_)
          refine lv_iload_n hx hb dL_act_202 rfl (lv_at hl 4 rfl) ?_
          refine lv_bipush (v := 12) hx hb dL_act_203 (by decide) ?_
          refine lv_icmp_ne (tgt := 212) hx hb dL_act_205 (by decide) (fun c_205 => ?_) (fun c_205 => ?_)
          · exact absurd (show nI n = 12 by rw [show n = 12 by omega]; rfl) c_205
          · refine lv_iconst (v := 1) hx hb dL_act_208 (by decide) ?_
            refine lv_goto (tgt := 213) hx hb dL_act_209 (by decide) ?_
            refine W.widen (k := 8) (n := 80) (by omega) (by omega) ?_
            have hP8 : va_P (dC, dI) vwCl (wU mb r1 d1 r2 d2 rc h cA cI (n, F, ct, n2, G, ch, al, rw)) H := hP
            have hD8 : va_D A (wU mb r1 d1 r2 d2 rc h cA cI (n, F, ct, n2, G, ch, al, rw)) := hD
            exact W.zret (v := 1) hx hb hr (by decide) (fun t ht hW => ⟨⟨1, (n, F, ct, n2, G, ch, al, rw), rfl, ⟨rfl, hI.mono (by omega)⟩, by rw [ht]; exact hP8, hD8⟩, hS.F ht⟩) hS.2.2 dL_act_213
        · obtain ⟨hc9, -⟩ := hw9
          rw [x_join_full c12 i_g] at hc9
          exact absurd hc9 (by decide)
      · have c12 : n < 12 := by omega
        have hZ : ∀ k, 2 ≤ k → k ≤ 5 → F k n = 0 := fun k k1 k2 => hI.2.1 n k (Nat.le_refl n) k1 k2
        refine lv_iload_n hx hb dL_act_91 rfl (lv_at hl 3 rfl) ?_
        refine lv_iconst (v := 1) hx hb dL_act_92 (by decide) ?_
        refine lv_iadd hx hb dL_act_93 ?_
        refine rv_top (y := nI (n + 1)) (nI_1 n) ?_
        refine rv_newqA (N' := n + 1) hx hb hown (hts (.classLink RL 21 "[I") (by decide +kernel)) hE.2.1 hK hP hD hS hA (nI_pos (by omega)) (nI_clamp (by omega)) (by omega) (by show _ ≤ 8; omega) (by show _ ≤ 80; omega) dL_act_94 (fun q94 H hP hD hS => ?_)
        refine lv_astore (lv' := [(7, .ref q94), (6, .int (nI g)), (5, .int 0), (4, .int 0), (3, .int (nI n)), (0, .ref mb), (1, .ref h), (2, .int x)]) hx hb dL_act_97 hl (by decide) rfl (fun ls hl => ?_)
        refine lv_iconst (v := 0) hx hb dL_act_99 (by decide) ?_
        refine lv_istore (lv' := [(8, .int 0), (7, .ref q94), (6, .int (nI g)), (5, .int 0), (4, .int 0), (3, .int (nI n)), (0, .ref mb), (1, .ref h), (2, .int x)]) hx hb dL_act_100 hl (by decide) rfl (fun ls hl => ?_)
        have hP : va_P (dC, dI) vwCl (wB mb r1 d1 r2 d2 rc cI n F n2 G ct ch ++ wT h al rw cA cI n F ct ++ [(q94, .inl (cA, n + 1, .inr (.inr (.inr (.inr (fun _ => none))))))]) H := hP
        have hD : va_D A (wB mb r1 d1 r2 d2 rc cI n F n2 G ct ch ++ wT h al rw cA cI n F ct ++ [(q94, .inl (cA, n + 1, .inr (.inr (.inr (.inr (fun _ => none))))))]) := hD
        have L_102 : ∀ (k9 i9 : Nat) (f9 : Nat → Option Nat), i9 + k9 = n → CPY rw i9 f9 → ∀ (H : Heap) (locs : List Loc), va_P (dC, dI) vwCl (wB mb r1 d1 r2 d2 rc cI n F n2 G ct ch ++ wT h al rw cA cI n F ct ++ [(q94, .inl (cA, n + 1, .inr (.inr (.inr (.inr f9)))))]) H → va_D A (wB mb r1 d1 r2 d2 rc cI n F n2 G ct ch ++ wT h al rw cA cI n F ct ++ [(q94, .inl (cA, n + 1, .inr (.inr (.inr (.inr f9)))))]) → va_S A s.heap H locs → ∀ (ls : Array Slot), lv_has ls 9 [(8, .int (nI i9)), (7, .ref q94), (6, .int (nI g)), (5, .int 0), (4, .int 0), (3, .int (nI n)), (0, .ref mb), (1, .ref h), (2, .int x)] → W p l e (headSpec wsL_act ({ frames := 7, cells := 8, slots := 80, locals := 132 } : Room)).room s m ([.ref mb, .ref h, .int x] : List Value).toArray below meth c H locs (0 + 1) (0 + (n + 1)) (MQ below (va_Qi (fun r (u : ACT) => r = 1 ∧ INV u.1 u.2.1 u.2.2.1 (K + 2)) (fun u t => va_P (dC, dI) vwCl (wU mb r1 d1 r2 d2 rc h cA cI u) t.heap ∧ va_D A (wU mb r1 d1 r2 d2 rc h cA cI u)) A) ([.ref mb, .ref h, .int x] : List Value).toArray s 8 80 A) (F0 m 102 ls []) := by
          intro k9
          induction k9 with
          | zero =>
            intro i9 f9 e9 hc9 H locs hP hD hS ls hl
            refine lv_iload hx hb dL_act_102 (lv_at hl 0 rfl) ?_
            refine lv_iload_n hx hb dL_act_104 rfl (lv_at hl 5 rfl) ?_
            refine rv_icmp_ge (tgt := 126) hx hb (a := i9) (b := n) (by omega) (by omega) dL_act_105 (by decide) (fun c_105 => ?_) (fun c_105 => ?_)
            · have hin9 : i9 = n := by omega
              have hc9 : CPY rw n f9 := by rw [← hin9]; exact hc9
              refine lv_aload hx hb dL_act_126 (lv_at hl 1 rfl) ?_
              refine lv_iload_n hx hb dL_act_128 rfl (lv_at hl 5 rfl) ?_
              refine lv_bipush (v := 7) hx hb dL_act_129 (by decide) ?_
              refine rv_newa (N' := 7) hx hb (hts (.arrayClass .int) (by decide +kernel)) (hK.sub (tys' := [(cI, .int)]) [0] rfl) hP hD hS hA (by decide) rfl (Nat.le_of_ble_eq_true rfl) (by show _ ≤ 8; omega) (by show _ ≤ 80; omega) dL_act_131 (fun q131 H hP hD hS => ?_)
              have hP := gr_asc hP
              have hD := gr_ascD hD
              refine lv_dup hx hb dL_act_133 rfl ?_
              refine lv_iconst (v := 0) hx hb dL_act_134 (by decide) ?_
              refine lv_sipush (v := 1000) hx hb dL_act_135 (by decide) ?_
              refine rv_iast (k := 0) hx hb hK hP hD hS (21 + n) 0 (gz_new (B := wB mb r1 d1 r2 d2 rc cI n F n2 G ct ch)) rfl (by decide) (by decide) dL_act_138 (fun H locs hP hD hS => ?_)
              rw [gr_setN] at hP hD
              refine lv_dup hx hb dL_act_139 rfl ?_
              refine lv_iconst (v := 1) hx hb dL_act_140 (by decide) ?_
              refine lv_iload hx hb dL_act_141 (lv_at hl 2 rfl) ?_
              refine rv_iast (k := 1) hx hb hK hP hD hS (21 + n) 0 (gz_new (B := wB mb r1 d1 r2 d2 rc cI n F n2 G ct ch)) rfl (by decide) (by decide) dL_act_143 (fun H locs hP hD hS => ?_)
              rw [gr_setN] at hP hD
              refine lv_dup hx hb dL_act_144 rfl ?_
              refine lv_iconst (v := 2) hx hb dL_act_145 (by decide) ?_
              refine lv_iconst (v := 0) hx hb dL_act_146 (by decide) ?_
              refine rv_iast (k := 2) hx hb hK hP hD hS (21 + n) 0 (gz_new (B := wB mb r1 d1 r2 d2 rc cI n F n2 G ct ch)) rfl (by decide) (by decide) dL_act_147 (fun H locs hP hD hS => ?_)
              rw [gr_setN] at hP hD
              refine lv_dup hx hb dL_act_148 rfl ?_
              refine lv_iconst (v := 3) hx hb dL_act_149 (by decide) ?_
              refine lv_iconst (v := 0) hx hb dL_act_150 (by decide) ?_
              refine rv_iast (k := 3) hx hb hK hP hD hS (21 + n) 0 (gz_new (B := wB mb r1 d1 r2 d2 rc cI n F n2 G ct ch)) rfl (by decide) (by decide) dL_act_151 (fun H locs hP hD hS => ?_)
              rw [gr_setN] at hP hD
              refine lv_dup hx hb dL_act_152 rfl ?_
              refine lv_iconst (v := 4) hx hb dL_act_153 (by decide) ?_
              refine lv_iconst (v := 0) hx hb dL_act_154 (by decide) ?_
              refine rv_iast (k := 4) hx hb hK hP hD hS (21 + n) 0 (gz_new (B := wB mb r1 d1 r2 d2 rc cI n F n2 G ct ch)) rfl (by decide) (by decide) dL_act_155 (fun H locs hP hD hS => ?_)
              rw [gr_setN] at hP hD
              refine lv_dup hx hb dL_act_156 rfl ?_
              refine lv_iconst (v := 5) hx hb dL_act_157 (by decide) ?_
              refine lv_iconst (v := 0) hx hb dL_act_158 (by decide) ?_
              refine rv_iast (k := 5) hx hb hK hP hD hS (21 + n) 0 (gz_new (B := wB mb r1 d1 r2 d2 rc cI n F n2 G ct ch)) rfl (by decide) (by decide) dL_act_159 (fun H locs hP hD hS => ?_)
              rw [gr_setN] at hP hD
              refine lv_dup hx hb dL_act_160 rfl ?_
              refine lv_bipush (v := 6) hx hb dL_act_161 (by decide) ?_
              refine lv_sipush (v := 1000) hx hb dL_act_163 (by decide) ?_
              refine rv_iast (k := 6) hx hb hK hP hD hS (21 + n) 0 (gz_new (B := wB mb r1 d1 r2 d2 rc cI n F n2 G ct ch)) rfl (by decide) (by decide) dL_act_166 (fun H locs hP hD hS => ?_)
              rw [gr_setN] at hP hD
              refine rv_aast (k := n) hx hb hE.2.1 hK hP hD hS (20 + n) (21 + n) (gr_arr2 (B := wB mb r1 d1 r2 d2 rc cI n F n2 G ct ch)) (gz_new (B := wB mb r1 d1 r2 d2 rc cI n F n2 G ct ch)) (show n < n + 1 by omega) (by omega) dL_act_167 (fun H locs hP hD hS => ?_)
              rw [gr_setA] at hP hD
              refine lv_aload_n hx hb dL_act_168 rfl (lv_at hl 7 rfl) ?_
              refine lv_aload hx hb dL_act_169 (lv_at hl 1 rfl) ?_
              refine va_put (D := (dC, dI)) (ci := 2) (v := .ref q94) (ty := .array (.array .int)) (C := RX2) (T := TX2) (N := 4) hx hb hts hinX2 tyX2 tyX2_ok nmX2 hown hK hP hD hS 18 rfl rfl 3 (by decide) (hts (.fieldLink RL 9 "WrestleBookLaw$Sim" "all" "[[I") (by decide +kernel)) (fun _ h9 => h9) rfl (by decide +kernel) rfl rfl (Nat.le_of_ble_eq_true rfl) dL_act_171 (fun H locs hP hD hS => ?_)
              obtain ⟨hP, hD⟩ := grow (B := wB mb r1 d1 r2 d2 rc cI n F n2 G ct ch) (h := h) (al := al) (a9 := q94) (r9 := q131) (rw := rw) (cA := cA) (cI := cI) (n := n) (F := F) (F' := s_add F n (nI g)) (ct := ct) (f := va_up f9 n (some q131)) (g := (upd (upd (upd (upd (upd (upd (upd (fun _ => 0) 0 1000) 1 (nI g)) 2 0) 3 0) 4 0) 5 0) 6 1000)) (e := .inl (cA, n, .inr (.inr (.inr (.inr (ro rw)))))) hP hD (cpy_fin hc9) (fun i k hi => add_lo hi) (add_row hZ)
              have hP : va_P (dC, dI) vwCl (([] : va_W) ++ (wB mb r1 d1 r2 d2 rc cI n F n2 G ct ch ++ wT h q94 (fun i => if i = n then q131 else rw i) cA cI (n + 1) (s_add F n (nI g)) ct)) H := hP
              have hD : va_D A (([] : va_W) ++ (wB mb r1 d1 r2 d2 rc cI n F n2 G ct ch ++ wT h q94 (fun i => if i = n then q131 else rw i) cA cI (n + 1) (s_add F n (nI g)) ct)) := hD
              have hPB : va_P (dC, dI) vwCl (wB mb r1 d1 r2 d2 rc cI n F n2 G ct ch) H := P_l (P_r hP)
              have hPS : va_P (dC, dI) vwCl (wT h q94 (fun i => if i = n then q131 else rw i) cA cI (n + 1) (s_add F n (nI g)) ct) H := P_r (P_r hP)
              refine lv_aload_n hx hb dL_act_174 rfl (lv_at hl 6 rfl) ?_
              refine lv_iload hx hb dL_act_175 (lv_at hl 2 rfl) ?_
              have hDB := D_l (D_r hD)
              have hFc := free_all hDB hS hA
              refine vx_calli (vx_runV (As := [.int (nI g)]) (rest := []) ⟨hx, hb, hml, hown, hts⟩ (c_X1_join l hl0 dC dI cI mb r1 d1 r2 d2 rc n F n2 G ct ch H.size (nI g) hn) (cwV 1 hts gL_act_X1_join rfl rfl rfl (by decide +kernel) ⟨Nat.le_of_ble_eq_true rfl, Nat.le_of_ble_eq_true rfl⟩) ⟨PW.blind, va_recv (hK.sub (tys' := [(cI, .int)]) [0] rfl) hPB (ci := 1) (q0 := 0) rfl rfl, fun U hU hW => ⟨rfl, PW.go hPB (hK.sub (tys' := [(cI, .int)]) [0] rfl) hDB hE hS hFc hU hW⟩⟩ rfl rfl hl.1 rfl (lv_room (Nat.le_of_ble_eq_true rfl)) dL_act_177 ⟨(by show _ ≤ 8; omega), (by show _ ≤ 80; omega)⟩) hS (fun q _ h9 => hFc q h9) hFc (fun q _ h9 => hFc q h9) (fun E9 ce9 q9 u9 t9 H locs ht9 hvm9 hw9 hB9 hz9 hk9 hS hce9 hcv9 hcl9 => ?_) (fun r u9 t9 H locs ht9 hvm9 hw9 hB9 hz9 hk9 hS => ?_)
              · obtain ⟨hc9, -⟩ := hB9
                rw [x_join_ok c12 i_g] at hc9
                exact absurd hc9.1 (by decide)
              · obtain ⟨hP9, hD9⟩ := hB9
                rw [ht9] at hP9
                obtain ⟨hP, hD⟩ := J_B hP hD hk9 hFc hP9 hD9
                have hP : va_P (dC, dI) vwCl (([] : va_W) ++ (wB mb r1 d1 r2 d2 rc cI (n + 1) (s_add F n (nI g)) n2 G ct ch ++ wT h q94 (fun i => if i = n then q131 else rw i) cA cI (n + 1) (s_add F n (nI g)) ct)) H := hP
                have hD : va_D A (([] : va_W) ++ (wB mb r1 d1 r2 d2 rc cI (n + 1) (s_add F n (nI g)) n2 G ct ch ++ wT h q94 (fun i => if i = n then q131 else rw i) cA cI (n + 1) (s_add F n (nI g)) ct)) := hD
                have hPB : va_P (dC, dI) vwCl (wB mb r1 d1 r2 d2 rc cI (n + 1) (s_add F n (nI g)) n2 G ct ch) H := P_l (P_r hP)
                have hPS : va_P (dC, dI) vwCl (wT h q94 (fun i => if i = n then q131 else rw i) cA cI (n + 1) (s_add F n (nI g)) ct) H := P_r (P_r hP)
                obtain ⟨-, hr9⟩ := hw9
                subst hr9
                refine lv_istore (lv' := [(7, .int (nI n)), (8, .int (nI i9)), (6, .int (nI g)), (5, .int 0), (4, .int 0), (3, .int (nI n)), (0, .ref mb), (1, .ref h), (2, .int x)]) hx hb dL_act_180 hl (by decide) rfl (fun ls hl => ?_)
                refine lv_iload_n hx hb dL_act_182 rfl (lv_at hl 5 rfl) ?_
                refine lv_bipush (v := 12) hx hb dL_act_183 (by decide) ?_
                refine lv_icmp_ge (tgt := 198) hx hb dL_act_185 (by decide) (fun c_185 => ?_) (fun c_185 => ?_)
                · exact absurd (show n < 12 from c12) (fun z => absurd (nI_lt z (by decide)) (Int32.not_lt.mpr c_185))
                · refine lv_iload hx hb dL_act_188 (lv_at hl 0 rfl) ?_
                  refine lv_iload_n hx hb dL_act_190 rfl (lv_at hl 5 rfl) ?_
                  refine lv_icmp_ne (tgt := 198) hx hb dL_act_191 (by decide) (fun c_191 => ?_) (fun c_191 => ?_)
                  · exact absurd rfl c_191
                  · refine lv_iconst (v := 1) hx hb dL_act_194 (by decide) ?_
                    refine lv_goto (tgt := 199) hx hb dL_act_195 (by decide) ?_
                    refine W.widen (k := 8) (n := 80) (by omega) (by omega) ?_
                    have hP8 : va_P (dC, dI) vwCl (wU mb r1 d1 r2 d2 rc h cA cI (n + 1, s_add F n (nI g), ct, n2, G, ch, q94, fun i => if i = n then q131 else rw i)) H := hP
                    have hD8 : va_D A (wU mb r1 d1 r2 d2 rc h cA cI (n + 1, s_add F n (nI g), ct, n2, G, ch, q94, fun i => if i = n then q131 else rw i)) := hD
                    exact W.zret (v := 1) hx hb hr (by decide) (fun t ht hW => ⟨⟨1, (n + 1, s_add F n (nI g), ct, n2, G, ch, q94, fun i => if i = n then q131 else rw i), rfl, ⟨rfl, (hI.add c12 i_g).mono (by omega)⟩, by rw [ht]; exact hP8, hD8⟩, hS.F ht⟩) hS.2.2 dL_act_199
            · exact absurd (show n ≤ i9 by omega) c_105
          | succ k9 ih =>
            intro i9 f9 e9 hc9 H locs hP hD hS ls hl
            refine lv_iload hx hb dL_act_102 (lv_at hl 0 rfl) ?_
            refine lv_iload_n hx hb dL_act_104 rfl (lv_at hl 5 rfl) ?_
            refine rv_icmp_ge (tgt := 126) hx hb (a := i9) (b := n) (by omega) (by omega) dL_act_105 (by decide) (fun c_105 => ?_) (fun c_105 => ?_)
            · exact absurd c_105 (by omega)
            · have hPS : va_P (dC, dI) vwCl (wT h al rw cA cI n F ct) H := P_r (P_l hP)
              refine lv_aload hx hb dL_act_108 (lv_at hl 1 rfl) ?_
              refine lv_iload hx hb dL_act_110 (lv_at hl 0 rfl) ?_
              refine lv_aload_n hx hb dL_act_112 rfl (lv_at hl 7 rfl) ?_
              refine va_get (D := (dC, dI)) (ci := 2) (v := .ref al) (C := RX2) (T := TX2) (N := 4) hx hb hts hinX2 hown hK hPS 0 rfl rfl 3 (by decide) (hts (.fieldLink RL 9 "WrestleBookLaw$Sim" "all" "[[I") (by decide +kernel)) (fun _ h9 => h9) rfl dL_act_113 ?_
              refine lv_iload hx hb dL_act_116 (lv_at hl 0 rfl) ?_
              refine rv_aald (k := i9) hx hb hK hPS 1 1 rfl rfl (show i9 < n by omega) (by omega) dL_act_118 ?_
              refine rv_aast (k := i9) hx hb hE.2.1 hK hP hD hS (20 + n) (20 + i9) (gr_arr (B := wB mb r1 d1 r2 d2 rc cI n F n2 G ct ch)) (gr_row (B := wB mb r1 d1 r2 d2 rc cI n F n2 G ct ch) (show i9 < n by omega)) (show i9 < n + 1 by omega) (by omega) dL_act_119 (fun H locs hP hD hS => ?_)
              rw [gr_set] at hP hD
              refine lv_iinc (v := nI (i9 + 1)) (lv' := [(8, .int (nI (i9 + 1))), (7, .ref q94), (6, .int (nI g)), (5, .int 0), (4, .int 0), (3, .int (nI n)), (0, .ref mb), (1, .ref h), (2, .int x)]) hx hb dL_act_120 hl (k := 0) rfl (nI_add i9 1) (by decide) rfl (fun ls hl => ?_)
              refine lv_goto (tgt := 102) hx hb dL_act_123 (by decide) ?_
              exact ih (i9 + 1) (va_up f9 i9 (some (rw i9))) (by omega) hc9.s H locs hP hD hS ls (lv_sub hl [0, 1, 2, 3, 4, 5, 6, 7, 8] rfl)
        exact L_102 n 0 (fun _ => none) (by omega) (fun j hj => absurd hj (Nat.not_lt_zero j)) H _ hP hD hS ls (lv_sub hl [0, 1, 2, 3, 4, 5, 6, 7, 8] rfl)
    rcases (show t = 0 ∨ t = 1 ∨ t = 2 ∨ t = 3 ∨ 4 ≤ t by omega) with e | e | e | e | e
    · refine lv_tableIn (tgt := 76) (off := 29) hx hb dL_act_47 (by rw [e]; decide) (by rw [e]; decide) (by rw [e]; rfl) (by decide) ?_
      exact J76
    · refine lv_tableIn (tgt := 76) (off := 29) hx hb dL_act_47 (by rw [e]; decide) (by rw [e]; decide) (by rw [e]; rfl) (by decide) ?_
      exact J76
    · refine lv_tableIn (tgt := 214) (off := 167) hx hb dL_act_47 (by rw [e]; decide) (by rw [e]; decide) (by rw [e]; rfl) (by decide) ?_
      refine lv_iload_n hx hb dL_act_214 rfl (lv_at hl 2 rfl) ?_
      refine lv_if_ne (tgt := 220) hx hb dL_act_215 (by decide) (fun c_215 => ?_) (fun c_215 => ?_)
      · exact absurd (show nI n = 0 by rw [hn0]; rfl) c_215
      · refine lv_iconst (v := 1) hx hb dL_act_218 (by decide) ?_
        refine W.widen (k := 8) (n := 80) (by omega) (by omega) ?_
        have hP8 : va_P (dC, dI) vwCl (wU mb r1 d1 r2 d2 rc h cA cI (n, F, ct, n2, G, ch, al, rw)) H := hP
        have hD8 : va_D A (wU mb r1 d1 r2 d2 rc h cA cI (n, F, ct, n2, G, ch, al, rw)) := hD
        exact W.zret (v := 1) hx hb hr (by decide) (fun t ht hW => ⟨⟨1, (n, F, ct, n2, G, ch, al, rw), rfl, ⟨rfl, hI.mono (by omega)⟩, by rw [ht]; exact hP8, hD8⟩, hS.F ht⟩) hS.2.2 dL_act_219
    · refine lv_tableIn (tgt := 302) (off := 255) hx hb dL_act_47 (by rw [e]; decide) (by rw [e]; decide) (by rw [e]; rfl) (by decide) ?_
      refine lv_iload_n hx hb dL_act_302 rfl (lv_at hl 5 rfl) ?_
      refine lv_iconst (v := 4) hx hb dL_act_303 (by decide) ?_
      refine lv_ishr hx hb dL_act_304 ?_
      refine lv_iconst (v := 3) hx hb dL_act_305 (by decide) ?_
      refine vp_callSi (W.runS (As := [.int (x >>> ((4 : Int32) &&& 31)), .int 3]) (rest := []) ⟨hx, hb, hml, hown, hts⟩ (c_L_below l (x >>> ((4 : Int32) &&& 31)) 3 (show 0 < 3 by omega) (by omega)) (va_cwS 2 hts gL_act_L_below rfl rfl rfl (by decide +kernel) ⟨Nat.le_of_ble_eq_true rfl, Nat.le_of_ble_eq_true rfl⟩) ⟨va_nop_blind, fun U hU hW => ⟨rfl, trivial⟩⟩ rfl rfl hl.1 rfl (lv_room (Nat.le_of_ble_eq_true rfl)) dL_act_306 ⟨(by show _ ≤ 8; omega), (by show _ ≤ 80; omega)⟩) (fun r hr0 => ?_)
      subst hr0
      obtain ⟨v, h_v⟩ : ∃ z : Nat, (bel (x >>> ((4 : Int32) &&& 31)) 3) = z := ⟨_, rfl⟩
      rw [h_v]
      have i_v : v < 3 := by rw [← h_v]; exact bel_lt _ (by decide)
      refine lv_if_le (tgt := 314) hx hb dL_act_309 (by decide) (fun c_309 => ?_) (fun c_309 => ?_)
      · refine lv_aload_n hx hb dL_act_314 rfl (lv_at hl 3 rfl) ?_
        have hDB := D_l (D_r hD)
        have hFc := free_all hDB hS hA
        refine va_calli (va_runV (As := []) (rest := []) ⟨hx, hb, hml, hown, hts⟩ (c_X1_end l dC dI cI mb r1 d1 r2 d2 rc n F n2 G ct ch H.size hn) (cwV 0 hts gL_act_X1_end rfl rfl rfl (by decide +kernel) ⟨Nat.le_of_ble_eq_true rfl, Nat.le_of_ble_eq_true rfl⟩) ⟨PW.blind, va_recv (hK.sub (tys' := [(cI, .int)]) [0] rfl) hPB (ci := 1) (q0 := 0) rfl rfl, fun U hU hW => ⟨rfl, PW.go hPB (hK.sub (tys' := [(cI, .int)]) [0] rfl) hDB hE hS hFc hU hW⟩⟩ rfl rfl hl.1 rfl (lv_room (Nat.le_of_ble_eq_true rfl)) dL_act_315 ⟨(by show _ ≤ 8; omega), (by show _ ≤ 80; omega)⟩) hS (fun q _ h9 => hFc q h9) hFc (fun r u9 t9 H locs ht9 hvm9 hw9 hB9 hz9 hk9 hS => ?_)
        obtain ⟨hP9, hD9⟩ := hB9
        rw [ht9] at hP9
        obtain ⟨hP, hD⟩ := J_B hP hD hk9 hFc hP9 hD9
        have hP : va_P (dC, dI) vwCl (([] : va_W) ++ (wB mb r1 d1 r2 d2 rc cI n (s_clear n (s_endU n (s_drift n F) 2).1) n2 G (upd ct 0 (ct 0 + 1)) ch ++ wT h al rw cA cI n F ct)) H := hP
        have hD : va_D A (([] : va_W) ++ (wB mb r1 d1 r2 d2 rc cI n (s_clear n (s_endU n (s_drift n F) 2).1) n2 G (upd ct 0 (ct 0 + 1)) ch ++ wT h al rw cA cI n F ct)) := hD
        have hPB : va_P (dC, dI) vwCl (wB mb r1 d1 r2 d2 rc cI n (s_clear n (s_endU n (s_drift n F) 2).1) n2 G (upd ct 0 (ct 0 + 1)) ch) H := P_l (P_r hP)
        have hPS : va_P (dC, dI) vwCl (wT h al rw cA cI n F ct) H := P_r (P_r hP)
        have hw9 : r = (s_endU n (s_drift n F) 2).2 := hw9
        subst hw9
        refine lv_aload_n hx hb dL_act_318 rfl (lv_at hl 4 rfl) ?_
        have hDS := D_r (D_r hD)
        have hFc := free_all hDS hS hA
        refine va_calli (va_runV (As := []) (rest := [.int ((s_endU n (s_drift n F) 2).2)]) ⟨hx, hb, hml, hown, hts⟩ (c_X2_end l dC dI cI h al rw cA n F ct H.size hn hR) (cwV 0 hts gL_act_X2_end rfl rfl rfl (by decide +kernel) ⟨Nat.le_of_ble_eq_true rfl, Nat.le_of_ble_eq_true rfl⟩) ⟨PV.blind, va_recv hK hPS (ci := 2) (q0 := 0) rfl rfl, fun U hU hW => ⟨rfl, PV.go hPS hK hDS hE hS hFc hU hW⟩⟩ rfl rfl hl.1 rfl (lv_room (Nat.le_of_ble_eq_true rfl)) dL_act_319 ⟨(by show _ ≤ 8; omega), (by show _ ≤ 80; omega)⟩) hS (fun q _ h9 => hFc q h9) hFc (fun r u9 t9 H locs ht9 hvm9 hw9 hB9 hz9 hk9 hS => ?_)
        obtain ⟨hP9, hD9⟩ := hB9
        rw [ht9] at hP9
        obtain ⟨hP, hD⟩ := J_S hP hD hk9 hFc hP9 hD9
        have hP : va_P (dC, dI) vwCl (([] : va_W) ++ (wB mb r1 d1 r2 d2 rc cI n (s_clear n (s_endU n (s_drift n F) 2).1) n2 G (upd ct 0 (ct 0 + 1)) ch ++ wT h al rw cA cI n (s_clear n (s_endU n (s_drift n F) 2).1) (upd ct 0 (ct 0 + 1)))) H := hP
        have hD : va_D A (([] : va_W) ++ (wB mb r1 d1 r2 d2 rc cI n (s_clear n (s_endU n (s_drift n F) 2).1) n2 G (upd ct 0 (ct 0 + 1)) ch ++ wT h al rw cA cI n (s_clear n (s_endU n (s_drift n F) 2).1) (upd ct 0 (ct 0 + 1)))) := hD
        have hPB : va_P (dC, dI) vwCl (wB mb r1 d1 r2 d2 rc cI n (s_clear n (s_endU n (s_drift n F) 2).1) n2 G (upd ct 0 (ct 0 + 1)) ch) H := P_l (P_r hP)
        have hPS : va_P (dC, dI) vwCl (wT h al rw cA cI n (s_clear n (s_endU n (s_drift n F) 2).1) (upd ct 0 (ct 0 + 1))) H := P_r (P_r hP)
        have hw9 : r = (s_endU n (s_drift n F) 2).2 := hw9
        subst hw9
        refine lv_icmp_ne (tgt := 329) hx hb dL_act_322 (by decide) (fun c_322 => ?_) (fun c_322 => ?_)
        · exact absurd rfl c_322
        · refine lv_iconst (v := 1) hx hb dL_act_325 (by decide) ?_
          refine lv_goto (tgt := 330) hx hb dL_act_326 (by decide) ?_
          refine W.widen (k := 8) (n := 80) (by omega) (by omega) ?_
          have hP8 : va_P (dC, dI) vwCl (wU mb r1 d1 r2 d2 rc h cA cI (n, s_clear n (s_endU n (s_drift n F) 2).1, upd ct 0 (ct 0 + 1), n2, G, ch, al, rw)) H := hP
          have hD8 : va_D A (wU mb r1 d1 r2 d2 rc h cA cI (n, s_clear n (s_endU n (s_drift n F) 2).1, upd ct 0 (ct 0 + 1), n2, G, ch, al, rw)) := hD
          exact W.zret (v := 1) hx hb hr (by decide) (fun t ht hW => ⟨⟨1, (n, s_clear n (s_endU n (s_drift n F) 2).1, upd ct 0 (ct 0 + 1), n2, G, ch, al, rw), rfl, ⟨rfl, hI.fin.mono (by omega)⟩, by rw [ht]; exact hP8, hD8⟩, hS.F ht⟩) hS.2.2 dL_act_330
      · refine lv_iconst (v := 1) hx hb dL_act_312 (by decide) ?_
        refine W.widen (k := 8) (n := 80) (by omega) (by omega) ?_
        have hP8 : va_P (dC, dI) vwCl (wU mb r1 d1 r2 d2 rc h cA cI (n, F, ct, n2, G, ch, al, rw)) H := hP
        have hD8 : va_D A (wU mb r1 d1 r2 d2 rc h cA cI (n, F, ct, n2, G, ch, al, rw)) := hD
        exact W.zret (v := 1) hx hb hr (by decide) (fun t ht hW => ⟨⟨1, (n, F, ct, n2, G, ch, al, rw), rfl, ⟨rfl, hI.mono (by omega)⟩, by rw [ht]; exact hP8, hD8⟩, hS.F ht⟩) hS.2.2 dL_act_313
    · refine lv_tableOut (tgt := 331) hx hb dL_act_47 (Or.inr (by rw [nI_toInt (by omega)]; omega)) (by decide) ?_
      refine lv_iload_n hx hb dL_act_331 rfl (lv_at hl 2 rfl) ?_
      refine lv_if_eq (tgt := 342) hx hb dL_act_332 (by decide) (fun c_332 => ?_) (fun c_332 => ?_)
      · refine lv_iconst (v := 1) hx hb dL_act_342 (by decide) ?_
        refine W.widen (k := 8) (n := 80) (by omega) (by omega) ?_
        have hP8 : va_P (dC, dI) vwCl (wU mb r1 d1 r2 d2 rc h cA cI (n, F, ct, n2, G, ch, al, rw)) H := hP
        have hD8 : va_D A (wU mb r1 d1 r2 d2 rc h cA cI (n, F, ct, n2, G, ch, al, rw)) := hD
        exact W.zret (v := 1) hx hb hr (by decide) (fun t ht hW => ⟨⟨1, (n, F, ct, n2, G, ch, al, rw), rfl, ⟨rfl, hI.mono (by omega)⟩, by rw [ht]; exact hP8, hD8⟩, hS.F ht⟩) hS.2.2 dL_act_343
      · exact absurd (show nI n = 0 by rw [hn0]; rfl) c_332
  · refine lv_iload_n hx hb dL_act_6 rfl (lv_at hl 0 rfl) ?_
    refine lv_if_ne (tgt := 14) hx hb dL_act_7 (by decide) (fun _ => ?_) (fun c_7 => absurd c_7 (nI_ne0 (by omega) (by omega)))
    refine lv_iload_n hx hb dL_act_14 rfl (lv_at hl 3 rfl) ?_
    refine lv_iconst (v := 4) hx hb dL_act_15 (by decide) ?_
    refine lv_ishr hx hb dL_act_16 ?_
    refine lv_iload_n hx hb dL_act_17 rfl (lv_at hl 0 rfl) ?_
    refine vp_callSi (W.runS (As := [.int (x >>> ((4 : Int32) &&& 31)), .int (nI n)]) (rest := []) ⟨hx, hb, hml, hown, hts⟩ (c_L_below l (x >>> ((4 : Int32) &&& 31)) n (show 0 < n by omega) (by omega)) (va_cwS 2 hts gL_act_L_below rfl rfl rfl (by decide +kernel) ⟨Nat.le_of_ble_eq_true rfl, Nat.le_of_ble_eq_true rfl⟩) ⟨va_nop_blind, fun U hU hW => ⟨rfl, trivial⟩⟩ rfl rfl hl.1 rfl (lv_room (Nat.le_of_ble_eq_true rfl)) dL_act_18 ⟨(by show _ ≤ 8; omega), (by show _ ≤ 80; omega)⟩) (fun r hr0 => ?_)
    subst hr0
    obtain ⟨a, h_a⟩ : ∃ z : Nat, (bel (x >>> ((4 : Int32) &&& 31)) n) = z := ⟨_, rfl⟩
    rw [h_a]
    have i_a : a < n := by rw [← h_a]; exact bel_lt _ (by omega)
    refine lv_istore (lv' := [(4, .int (nI a)), (3, .int (nI n)), (0, .ref mb), (1, .ref h), (2, .int x)]) hx hb dL_act_21 hl (by decide) rfl (fun ls hl => ?_)
    refine lv_iload_n hx hb dL_act_23 rfl (lv_at hl 1 rfl) ?_
    refine lv_if_ne (tgt := 31) hx hb dL_act_24 (by decide) (fun _ => ?_) (fun c_24 => absurd c_24 (nI_ne0 (by omega) (by omega)))
    refine lv_iload_n hx hb dL_act_31 rfl (lv_at hl 4 rfl) ?_
    refine lv_bipush (v := 6) hx hb dL_act_32 (by decide) ?_
    refine lv_ishr hx hb dL_act_34 ?_
    refine lv_iload_n hx hb dL_act_35 rfl (lv_at hl 1 rfl) ?_
    refine vp_callSi (W.runS (As := [.int (x >>> ((6 : Int32) &&& 31)), .int (nI n)]) (rest := []) ⟨hx, hb, hml, hown, hts⟩ (c_L_below l (x >>> ((6 : Int32) &&& 31)) n (show 0 < n by omega) (by omega)) (va_cwS 2 hts gL_act_L_below rfl rfl rfl (by decide +kernel) ⟨Nat.le_of_ble_eq_true rfl, Nat.le_of_ble_eq_true rfl⟩) ⟨va_nop_blind, fun U hU hW => ⟨rfl, trivial⟩⟩ rfl rfl hl.1 rfl (lv_room (Nat.le_of_ble_eq_true rfl)) dL_act_36 ⟨(by show _ ≤ 8; omega), (by show _ ≤ 80; omega)⟩) (fun r hr0 => ?_)
    subst hr0
    obtain ⟨b, h_b⟩ : ∃ z : Nat, (bel (x >>> ((6 : Int32) &&& 31)) n) = z := ⟨_, rfl⟩
    rw [h_b]
    have i_b : b < n := by rw [← h_b]; exact bel_lt _ (by omega)
    refine lv_istore (lv' := [(5, .int (nI b)), (4, .int (nI a)), (3, .int (nI n)), (0, .ref mb), (1, .ref h), (2, .int x)]) hx hb dL_act_39 hl (by decide) rfl (fun ls hl => ?_)
    refine lv_iload_n hx hb dL_act_41 rfl (lv_at hl 5 rfl) ?_
    refine lv_bipush (v := 14) hx hb dL_act_42 (by decide) ?_
    refine vp_callSi (W.runS (As := [.int x, .int 14]) (rest := []) ⟨hx, hb, hml, hown, hts⟩ (c_L_below l x 14 (show 0 < 14 by omega) (by omega)) (va_cwS 2 hts gL_act_L_below rfl rfl rfl (by decide +kernel) ⟨Nat.le_of_ble_eq_true rfl, Nat.le_of_ble_eq_true rfl⟩) ⟨va_nop_blind, fun U hU hW => ⟨rfl, trivial⟩⟩ rfl rfl hl.1 rfl (lv_room (Nat.le_of_ble_eq_true rfl)) dL_act_44 ⟨(by show _ ≤ 8; omega), (by show _ ≤ 80; omega)⟩) (fun r hr0 => ?_)
    subst hr0
    obtain ⟨t, h_t⟩ : ∃ z : Nat, (bel x 14) = z := ⟨_, rfl⟩
    have i_t : t < 14 := by rw [← h_t]; exact bel_lt _ (by decide)
    rw [h_t]
    have J76 : W p l e (headSpec wsL_act ({ frames := 7, cells := 8, slots := 80, locals := 132 } : Room)).room s m ([.ref mb, .ref h, .int x] : List Value).toArray below meth c H [] 0 0 (MQ below (va_Qi (fun r (u : ACT) => r = 1 ∧ INV u.1 u.2.1 u.2.2.1 (K + 2)) (fun u t => va_P (dC, dI) vwCl (wU mb r1 d1 r2 d2 rc h cA cI u) t.heap ∧ va_D A (wU mb r1 d1 r2 d2 rc h cA cI u)) A) ([.ref mb, .ref h, .int x] : List Value).toArray s 8 80 A) (F0 m 76 ls []) := by
      refine lv_iload_n hx hb dL_act_76 rfl (lv_at hl 5 rfl) ?_
      refine lv_iconst (v := 5) hx hb dL_act_77 (by decide) ?_
      refine lv_ishr hx hb dL_act_78 ?_
      refine lv_iconst (v := 3) hx hb dL_act_79 (by decide) ?_
      refine vp_callSi (W.runS (As := [.int (x >>> ((5 : Int32) &&& 31)), .int 3]) (rest := []) ⟨hx, hb, hml, hown, hts⟩ (c_L_below l (x >>> ((5 : Int32) &&& 31)) 3 (show 0 < 3 by omega) (by omega)) (va_cwS 2 hts gL_act_L_below rfl rfl rfl (by decide +kernel) ⟨Nat.le_of_ble_eq_true rfl, Nat.le_of_ble_eq_true rfl⟩) ⟨va_nop_blind, fun U hU hW => ⟨rfl, trivial⟩⟩ rfl rfl hl.1 rfl (lv_room (Nat.le_of_ble_eq_true rfl)) dL_act_80 ⟨(by show _ ≤ 8; omega), (by show _ ≤ 80; omega)⟩) (fun r hr0 => ?_)
      subst hr0
      obtain ⟨g, h_g⟩ : ∃ z : Nat, (bel (x >>> ((5 : Int32) &&& 31)) 3) = z := ⟨_, rfl⟩
      rw [h_g]
      have i_g : g < 3 := by rw [← h_g]; exact bel_lt _ (by decide)
      refine lv_istore (lv' := [(6, .int (nI g)), (5, .int (nI b)), (4, .int (nI a)), (3, .int (nI n)), (0, .ref mb), (1, .ref h), (2, .int x)]) hx hb dL_act_83 hl (by decide) rfl (fun ls hl => ?_)
      refine lv_iload_n hx hb dL_act_85 rfl (lv_at hl 3 rfl) ?_
      refine lv_bipush (v := 12) hx hb dL_act_86 (by decide) ?_
      refine rv_icmp_ge (tgt := 174) hx hb (a := n) (b := 12) (by omega) (by omega) dL_act_88 (by decide) (fun c_88 => ?_) (fun c_88 => ?_)
      · have c12 : ¬ n < 12 := by omega
        refine lv_aload_n hx hb dL_act_174 rfl (lv_at hl 4 rfl) ?_
        refine lv_iload hx hb dL_act_175 (lv_at hl 0 rfl) ?_
        have hDB := D_l (D_r hD)
        have hFc := free_all hDB hS hA
        refine vx_calli (vx_runV (As := [.int (nI g)]) (rest := []) ⟨hx, hb, hml, hown, hts⟩ (c_X1_join l hl0 dC dI cI mb r1 d1 r2 d2 rc n F n2 G ct ch H.size (nI g) hn) (cwV 1 hts gL_act_X1_join rfl rfl rfl (by decide +kernel) ⟨Nat.le_of_ble_eq_true rfl, Nat.le_of_ble_eq_true rfl⟩) ⟨PW.blind, va_recv (hK.sub (tys' := [(cI, .int)]) [0] rfl) hPB (ci := 1) (q0 := 0) rfl rfl, fun U hU hW => ⟨rfl, PW.go hPB (hK.sub (tys' := [(cI, .int)]) [0] rfl) hDB hE hS hFc hU hW⟩⟩ rfl rfl hl.1 rfl (lv_room (Nat.le_of_ble_eq_true rfl)) dL_act_177 ⟨(by show _ ≤ 8; omega), (by show _ ≤ 80; omega)⟩) hS (fun q _ h9 => hFc q h9) hFc (fun q _ h9 => hFc q h9) (fun E9 ce9 q9 u9 t9 H locs ht9 hvm9 hw9 hB9 hz9 hk9 hS hce9 hcv9 hcl9 => ?_) (fun r u9 t9 H locs ht9 hvm9 hw9 hB9 hz9 hk9 hS => ?_)
        · obtain ⟨hc9, hP9, hD9⟩ := hB9
          rw [x_join_full c12 i_g] at hc9
          rw [ht9] at hP9
          obtain ⟨hP, hD⟩ := J_B hP hD hk9 hFc hP9 hD9
          have hP : va_P (dC, dI) vwCl (([] : va_W) ++ (wB mb r1 d1 r2 d2 rc cI n F n2 G ct ch ++ wT h al rw cA cI n F ct)) H := hP
          have hD : va_D A (([] : va_W) ++ (wB mb r1 d1 r2 d2 rc cI n F n2 G ct ch ++ wT h al rw cA cI n F ct)) := hD
          have hPB : va_P (dC, dI) vwCl (wB mb r1 d1 r2 d2 rc cI n F n2 G ct ch) H := P_l (P_r hP)
          have hPS : va_P (dC, dI) vwCl (wT h al rw cA cI n F ct) H := P_r (P_r hP)
          have hE9 : E9 = "java/lang/IllegalStateException" := by have h8 := hc9.2; simp at h8; exact h8.symm
          subst hE9
          refine vx_catch (name := "java/lang/IllegalStateException") hown [] ⟨174, 199, 200, 29⟩ [] (htab.trans rfl) (fun z hz => by simp at hz) (by decide) (by decide) (hts (.classLink RL 29 "java/lang/IllegalStateException") (by decide +kernel)) (va_Nw.use rfl (hE.2.2.1 (.castable "java/lang/IllegalStateException" "java/lang/IllegalStateException") (by decide +kernel))) hce9 hcv9 hcl9 ?_
          refine lv_astore (lv' := [(7, .ref q9), (6, .int (nI g)), (5, .int (nI b)), (4, .int (nI a)), (3, .int (nI n)), (0, .ref mb), (1, .ref h), (2, .int x)]) hx hb dL_act_200 hl (by decide) rfl (fun ls hl => ?_)
          refine lv_iload_n hx hb dL_act_202 rfl (lv_at hl 4 rfl) ?_
          refine lv_bipush (v := 12) hx hb dL_act_203 (by decide) ?_
          refine lv_icmp_ne (tgt := 212) hx hb dL_act_205 (by decide) (fun c_205 => ?_) (fun c_205 => ?_)
          · exact absurd (show nI n = 12 by rw [show n = 12 by omega]; rfl) c_205
          · refine lv_iconst (v := 1) hx hb dL_act_208 (by decide) ?_
            refine lv_goto (tgt := 213) hx hb dL_act_209 (by decide) ?_
            refine W.widen (k := 8) (n := 80) (by omega) (by omega) ?_
            have hP8 : va_P (dC, dI) vwCl (wU mb r1 d1 r2 d2 rc h cA cI (n, F, ct, n2, G, ch, al, rw)) H := hP
            have hD8 : va_D A (wU mb r1 d1 r2 d2 rc h cA cI (n, F, ct, n2, G, ch, al, rw)) := hD
            exact W.zret (v := 1) hx hb hr (by decide) (fun t ht hW => ⟨⟨1, (n, F, ct, n2, G, ch, al, rw), rfl, ⟨rfl, hI.mono (by omega)⟩, by rw [ht]; exact hP8, hD8⟩, hS.F ht⟩) hS.2.2 dL_act_213
        · obtain ⟨hc9, -⟩ := hw9
          rw [x_join_full c12 i_g] at hc9
          exact absurd hc9 (by decide)
      · have c12 : n < 12 := by omega
        have hZ : ∀ k, 2 ≤ k → k ≤ 5 → F k n = 0 := fun k k1 k2 => hI.2.1 n k (Nat.le_refl n) k1 k2
        refine lv_iload_n hx hb dL_act_91 rfl (lv_at hl 3 rfl) ?_
        refine lv_iconst (v := 1) hx hb dL_act_92 (by decide) ?_
        refine lv_iadd hx hb dL_act_93 ?_
        refine rv_top (y := nI (n + 1)) (nI_1 n) ?_
        refine rv_newqA (N' := n + 1) hx hb hown (hts (.classLink RL 21 "[I") (by decide +kernel)) hE.2.1 hK hP hD hS hA (nI_pos (by omega)) (nI_clamp (by omega)) (by omega) (by show _ ≤ 8; omega) (by show _ ≤ 80; omega) dL_act_94 (fun q94 H hP hD hS => ?_)
        refine lv_astore (lv' := [(7, .ref q94), (6, .int (nI g)), (5, .int (nI b)), (4, .int (nI a)), (3, .int (nI n)), (0, .ref mb), (1, .ref h), (2, .int x)]) hx hb dL_act_97 hl (by decide) rfl (fun ls hl => ?_)
        refine lv_iconst (v := 0) hx hb dL_act_99 (by decide) ?_
        refine lv_istore (lv' := [(8, .int 0), (7, .ref q94), (6, .int (nI g)), (5, .int (nI b)), (4, .int (nI a)), (3, .int (nI n)), (0, .ref mb), (1, .ref h), (2, .int x)]) hx hb dL_act_100 hl (by decide) rfl (fun ls hl => ?_)
        have hP : va_P (dC, dI) vwCl (wB mb r1 d1 r2 d2 rc cI n F n2 G ct ch ++ wT h al rw cA cI n F ct ++ [(q94, .inl (cA, n + 1, .inr (.inr (.inr (.inr (fun _ => none))))))]) H := hP
        have hD : va_D A (wB mb r1 d1 r2 d2 rc cI n F n2 G ct ch ++ wT h al rw cA cI n F ct ++ [(q94, .inl (cA, n + 1, .inr (.inr (.inr (.inr (fun _ => none))))))]) := hD
        have L_102 : ∀ (k9 i9 : Nat) (f9 : Nat → Option Nat), i9 + k9 = n → CPY rw i9 f9 → ∀ (H : Heap) (locs : List Loc), va_P (dC, dI) vwCl (wB mb r1 d1 r2 d2 rc cI n F n2 G ct ch ++ wT h al rw cA cI n F ct ++ [(q94, .inl (cA, n + 1, .inr (.inr (.inr (.inr f9)))))]) H → va_D A (wB mb r1 d1 r2 d2 rc cI n F n2 G ct ch ++ wT h al rw cA cI n F ct ++ [(q94, .inl (cA, n + 1, .inr (.inr (.inr (.inr f9)))))]) → va_S A s.heap H locs → ∀ (ls : Array Slot), lv_has ls 9 [(8, .int (nI i9)), (7, .ref q94), (6, .int (nI g)), (5, .int (nI b)), (4, .int (nI a)), (3, .int (nI n)), (0, .ref mb), (1, .ref h), (2, .int x)] → W p l e (headSpec wsL_act ({ frames := 7, cells := 8, slots := 80, locals := 132 } : Room)).room s m ([.ref mb, .ref h, .int x] : List Value).toArray below meth c H locs (0 + 1) (0 + (n + 1)) (MQ below (va_Qi (fun r (u : ACT) => r = 1 ∧ INV u.1 u.2.1 u.2.2.1 (K + 2)) (fun u t => va_P (dC, dI) vwCl (wU mb r1 d1 r2 d2 rc h cA cI u) t.heap ∧ va_D A (wU mb r1 d1 r2 d2 rc h cA cI u)) A) ([.ref mb, .ref h, .int x] : List Value).toArray s 8 80 A) (F0 m 102 ls []) := by
          intro k9
          induction k9 with
          | zero =>
            intro i9 f9 e9 hc9 H locs hP hD hS ls hl
            refine lv_iload hx hb dL_act_102 (lv_at hl 0 rfl) ?_
            refine lv_iload_n hx hb dL_act_104 rfl (lv_at hl 5 rfl) ?_
            refine rv_icmp_ge (tgt := 126) hx hb (a := i9) (b := n) (by omega) (by omega) dL_act_105 (by decide) (fun c_105 => ?_) (fun c_105 => ?_)
            · have hin9 : i9 = n := by omega
              have hc9 : CPY rw n f9 := by rw [← hin9]; exact hc9
              refine lv_aload hx hb dL_act_126 (lv_at hl 1 rfl) ?_
              refine lv_iload_n hx hb dL_act_128 rfl (lv_at hl 5 rfl) ?_
              refine lv_bipush (v := 7) hx hb dL_act_129 (by decide) ?_
              refine rv_newa (N' := 7) hx hb (hts (.arrayClass .int) (by decide +kernel)) (hK.sub (tys' := [(cI, .int)]) [0] rfl) hP hD hS hA (by decide) rfl (Nat.le_of_ble_eq_true rfl) (by show _ ≤ 8; omega) (by show _ ≤ 80; omega) dL_act_131 (fun q131 H hP hD hS => ?_)
              have hP := gr_asc hP
              have hD := gr_ascD hD
              refine lv_dup hx hb dL_act_133 rfl ?_
              refine lv_iconst (v := 0) hx hb dL_act_134 (by decide) ?_
              refine lv_sipush (v := 1000) hx hb dL_act_135 (by decide) ?_
              refine rv_iast (k := 0) hx hb hK hP hD hS (21 + n) 0 (gz_new (B := wB mb r1 d1 r2 d2 rc cI n F n2 G ct ch)) rfl (by decide) (by decide) dL_act_138 (fun H locs hP hD hS => ?_)
              rw [gr_setN] at hP hD
              refine lv_dup hx hb dL_act_139 rfl ?_
              refine lv_iconst (v := 1) hx hb dL_act_140 (by decide) ?_
              refine lv_iload hx hb dL_act_141 (lv_at hl 2 rfl) ?_
              refine rv_iast (k := 1) hx hb hK hP hD hS (21 + n) 0 (gz_new (B := wB mb r1 d1 r2 d2 rc cI n F n2 G ct ch)) rfl (by decide) (by decide) dL_act_143 (fun H locs hP hD hS => ?_)
              rw [gr_setN] at hP hD
              refine lv_dup hx hb dL_act_144 rfl ?_
              refine lv_iconst (v := 2) hx hb dL_act_145 (by decide) ?_
              refine lv_iconst (v := 0) hx hb dL_act_146 (by decide) ?_
              refine rv_iast (k := 2) hx hb hK hP hD hS (21 + n) 0 (gz_new (B := wB mb r1 d1 r2 d2 rc cI n F n2 G ct ch)) rfl (by decide) (by decide) dL_act_147 (fun H locs hP hD hS => ?_)
              rw [gr_setN] at hP hD
              refine lv_dup hx hb dL_act_148 rfl ?_
              refine lv_iconst (v := 3) hx hb dL_act_149 (by decide) ?_
              refine lv_iconst (v := 0) hx hb dL_act_150 (by decide) ?_
              refine rv_iast (k := 3) hx hb hK hP hD hS (21 + n) 0 (gz_new (B := wB mb r1 d1 r2 d2 rc cI n F n2 G ct ch)) rfl (by decide) (by decide) dL_act_151 (fun H locs hP hD hS => ?_)
              rw [gr_setN] at hP hD
              refine lv_dup hx hb dL_act_152 rfl ?_
              refine lv_iconst (v := 4) hx hb dL_act_153 (by decide) ?_
              refine lv_iconst (v := 0) hx hb dL_act_154 (by decide) ?_
              refine rv_iast (k := 4) hx hb hK hP hD hS (21 + n) 0 (gz_new (B := wB mb r1 d1 r2 d2 rc cI n F n2 G ct ch)) rfl (by decide) (by decide) dL_act_155 (fun H locs hP hD hS => ?_)
              rw [gr_setN] at hP hD
              refine lv_dup hx hb dL_act_156 rfl ?_
              refine lv_iconst (v := 5) hx hb dL_act_157 (by decide) ?_
              refine lv_iconst (v := 0) hx hb dL_act_158 (by decide) ?_
              refine rv_iast (k := 5) hx hb hK hP hD hS (21 + n) 0 (gz_new (B := wB mb r1 d1 r2 d2 rc cI n F n2 G ct ch)) rfl (by decide) (by decide) dL_act_159 (fun H locs hP hD hS => ?_)
              rw [gr_setN] at hP hD
              refine lv_dup hx hb dL_act_160 rfl ?_
              refine lv_bipush (v := 6) hx hb dL_act_161 (by decide) ?_
              refine lv_sipush (v := 1000) hx hb dL_act_163 (by decide) ?_
              refine rv_iast (k := 6) hx hb hK hP hD hS (21 + n) 0 (gz_new (B := wB mb r1 d1 r2 d2 rc cI n F n2 G ct ch)) rfl (by decide) (by decide) dL_act_166 (fun H locs hP hD hS => ?_)
              rw [gr_setN] at hP hD
              refine rv_aast (k := n) hx hb hE.2.1 hK hP hD hS (20 + n) (21 + n) (gr_arr2 (B := wB mb r1 d1 r2 d2 rc cI n F n2 G ct ch)) (gz_new (B := wB mb r1 d1 r2 d2 rc cI n F n2 G ct ch)) (show n < n + 1 by omega) (by omega) dL_act_167 (fun H locs hP hD hS => ?_)
              rw [gr_setA] at hP hD
              refine lv_aload_n hx hb dL_act_168 rfl (lv_at hl 7 rfl) ?_
              refine lv_aload hx hb dL_act_169 (lv_at hl 1 rfl) ?_
              refine va_put (D := (dC, dI)) (ci := 2) (v := .ref q94) (ty := .array (.array .int)) (C := RX2) (T := TX2) (N := 4) hx hb hts hinX2 tyX2 tyX2_ok nmX2 hown hK hP hD hS 18 rfl rfl 3 (by decide) (hts (.fieldLink RL 9 "WrestleBookLaw$Sim" "all" "[[I") (by decide +kernel)) (fun _ h9 => h9) rfl (by decide +kernel) rfl rfl (Nat.le_of_ble_eq_true rfl) dL_act_171 (fun H locs hP hD hS => ?_)
              obtain ⟨hP, hD⟩ := grow (B := wB mb r1 d1 r2 d2 rc cI n F n2 G ct ch) (h := h) (al := al) (a9 := q94) (r9 := q131) (rw := rw) (cA := cA) (cI := cI) (n := n) (F := F) (F' := s_add F n (nI g)) (ct := ct) (f := va_up f9 n (some q131)) (g := (upd (upd (upd (upd (upd (upd (upd (fun _ => 0) 0 1000) 1 (nI g)) 2 0) 3 0) 4 0) 5 0) 6 1000)) (e := .inl (cA, n, .inr (.inr (.inr (.inr (ro rw)))))) hP hD (cpy_fin hc9) (fun i k hi => add_lo hi) (add_row hZ)
              have hP : va_P (dC, dI) vwCl (([] : va_W) ++ (wB mb r1 d1 r2 d2 rc cI n F n2 G ct ch ++ wT h q94 (fun i => if i = n then q131 else rw i) cA cI (n + 1) (s_add F n (nI g)) ct)) H := hP
              have hD : va_D A (([] : va_W) ++ (wB mb r1 d1 r2 d2 rc cI n F n2 G ct ch ++ wT h q94 (fun i => if i = n then q131 else rw i) cA cI (n + 1) (s_add F n (nI g)) ct)) := hD
              have hPB : va_P (dC, dI) vwCl (wB mb r1 d1 r2 d2 rc cI n F n2 G ct ch) H := P_l (P_r hP)
              have hPS : va_P (dC, dI) vwCl (wT h q94 (fun i => if i = n then q131 else rw i) cA cI (n + 1) (s_add F n (nI g)) ct) H := P_r (P_r hP)
              refine lv_aload_n hx hb dL_act_174 rfl (lv_at hl 6 rfl) ?_
              refine lv_iload hx hb dL_act_175 (lv_at hl 2 rfl) ?_
              have hDB := D_l (D_r hD)
              have hFc := free_all hDB hS hA
              refine vx_calli (vx_runV (As := [.int (nI g)]) (rest := []) ⟨hx, hb, hml, hown, hts⟩ (c_X1_join l hl0 dC dI cI mb r1 d1 r2 d2 rc n F n2 G ct ch H.size (nI g) hn) (cwV 1 hts gL_act_X1_join rfl rfl rfl (by decide +kernel) ⟨Nat.le_of_ble_eq_true rfl, Nat.le_of_ble_eq_true rfl⟩) ⟨PW.blind, va_recv (hK.sub (tys' := [(cI, .int)]) [0] rfl) hPB (ci := 1) (q0 := 0) rfl rfl, fun U hU hW => ⟨rfl, PW.go hPB (hK.sub (tys' := [(cI, .int)]) [0] rfl) hDB hE hS hFc hU hW⟩⟩ rfl rfl hl.1 rfl (lv_room (Nat.le_of_ble_eq_true rfl)) dL_act_177 ⟨(by show _ ≤ 8; omega), (by show _ ≤ 80; omega)⟩) hS (fun q _ h9 => hFc q h9) hFc (fun q _ h9 => hFc q h9) (fun E9 ce9 q9 u9 t9 H locs ht9 hvm9 hw9 hB9 hz9 hk9 hS hce9 hcv9 hcl9 => ?_) (fun r u9 t9 H locs ht9 hvm9 hw9 hB9 hz9 hk9 hS => ?_)
              · obtain ⟨hc9, -⟩ := hB9
                rw [x_join_ok c12 i_g] at hc9
                exact absurd hc9.1 (by decide)
              · obtain ⟨hP9, hD9⟩ := hB9
                rw [ht9] at hP9
                obtain ⟨hP, hD⟩ := J_B hP hD hk9 hFc hP9 hD9
                have hP : va_P (dC, dI) vwCl (([] : va_W) ++ (wB mb r1 d1 r2 d2 rc cI (n + 1) (s_add F n (nI g)) n2 G ct ch ++ wT h q94 (fun i => if i = n then q131 else rw i) cA cI (n + 1) (s_add F n (nI g)) ct)) H := hP
                have hD : va_D A (([] : va_W) ++ (wB mb r1 d1 r2 d2 rc cI (n + 1) (s_add F n (nI g)) n2 G ct ch ++ wT h q94 (fun i => if i = n then q131 else rw i) cA cI (n + 1) (s_add F n (nI g)) ct)) := hD
                have hPB : va_P (dC, dI) vwCl (wB mb r1 d1 r2 d2 rc cI (n + 1) (s_add F n (nI g)) n2 G ct ch) H := P_l (P_r hP)
                have hPS : va_P (dC, dI) vwCl (wT h q94 (fun i => if i = n then q131 else rw i) cA cI (n + 1) (s_add F n (nI g)) ct) H := P_r (P_r hP)
                obtain ⟨-, hr9⟩ := hw9
                subst hr9
                refine lv_istore (lv' := [(7, .int (nI n)), (8, .int (nI i9)), (6, .int (nI g)), (5, .int (nI b)), (4, .int (nI a)), (3, .int (nI n)), (0, .ref mb), (1, .ref h), (2, .int x)]) hx hb dL_act_180 hl (by decide) rfl (fun ls hl => ?_)
                refine lv_iload_n hx hb dL_act_182 rfl (lv_at hl 5 rfl) ?_
                refine lv_bipush (v := 12) hx hb dL_act_183 (by decide) ?_
                refine lv_icmp_ge (tgt := 198) hx hb dL_act_185 (by decide) (fun c_185 => ?_) (fun c_185 => ?_)
                · exact absurd (show n < 12 from c12) (fun z => absurd (nI_lt z (by decide)) (Int32.not_lt.mpr c_185))
                · refine lv_iload hx hb dL_act_188 (lv_at hl 0 rfl) ?_
                  refine lv_iload_n hx hb dL_act_190 rfl (lv_at hl 5 rfl) ?_
                  refine lv_icmp_ne (tgt := 198) hx hb dL_act_191 (by decide) (fun c_191 => ?_) (fun c_191 => ?_)
                  · exact absurd rfl c_191
                  · refine lv_iconst (v := 1) hx hb dL_act_194 (by decide) ?_
                    refine lv_goto (tgt := 199) hx hb dL_act_195 (by decide) ?_
                    refine W.widen (k := 8) (n := 80) (by omega) (by omega) ?_
                    have hP8 : va_P (dC, dI) vwCl (wU mb r1 d1 r2 d2 rc h cA cI (n + 1, s_add F n (nI g), ct, n2, G, ch, q94, fun i => if i = n then q131 else rw i)) H := hP
                    have hD8 : va_D A (wU mb r1 d1 r2 d2 rc h cA cI (n + 1, s_add F n (nI g), ct, n2, G, ch, q94, fun i => if i = n then q131 else rw i)) := hD
                    exact W.zret (v := 1) hx hb hr (by decide) (fun t ht hW => ⟨⟨1, (n + 1, s_add F n (nI g), ct, n2, G, ch, q94, fun i => if i = n then q131 else rw i), rfl, ⟨rfl, (hI.add c12 i_g).mono (by omega)⟩, by rw [ht]; exact hP8, hD8⟩, hS.F ht⟩) hS.2.2 dL_act_199
            · exact absurd (show n ≤ i9 by omega) c_105
          | succ k9 ih =>
            intro i9 f9 e9 hc9 H locs hP hD hS ls hl
            refine lv_iload hx hb dL_act_102 (lv_at hl 0 rfl) ?_
            refine lv_iload_n hx hb dL_act_104 rfl (lv_at hl 5 rfl) ?_
            refine rv_icmp_ge (tgt := 126) hx hb (a := i9) (b := n) (by omega) (by omega) dL_act_105 (by decide) (fun c_105 => ?_) (fun c_105 => ?_)
            · exact absurd c_105 (by omega)
            · have hPS : va_P (dC, dI) vwCl (wT h al rw cA cI n F ct) H := P_r (P_l hP)
              refine lv_aload hx hb dL_act_108 (lv_at hl 1 rfl) ?_
              refine lv_iload hx hb dL_act_110 (lv_at hl 0 rfl) ?_
              refine lv_aload_n hx hb dL_act_112 rfl (lv_at hl 7 rfl) ?_
              refine va_get (D := (dC, dI)) (ci := 2) (v := .ref al) (C := RX2) (T := TX2) (N := 4) hx hb hts hinX2 hown hK hPS 0 rfl rfl 3 (by decide) (hts (.fieldLink RL 9 "WrestleBookLaw$Sim" "all" "[[I") (by decide +kernel)) (fun _ h9 => h9) rfl dL_act_113 ?_
              refine lv_iload hx hb dL_act_116 (lv_at hl 0 rfl) ?_
              refine rv_aald (k := i9) hx hb hK hPS 1 1 rfl rfl (show i9 < n by omega) (by omega) dL_act_118 ?_
              refine rv_aast (k := i9) hx hb hE.2.1 hK hP hD hS (20 + n) (20 + i9) (gr_arr (B := wB mb r1 d1 r2 d2 rc cI n F n2 G ct ch)) (gr_row (B := wB mb r1 d1 r2 d2 rc cI n F n2 G ct ch) (show i9 < n by omega)) (show i9 < n + 1 by omega) (by omega) dL_act_119 (fun H locs hP hD hS => ?_)
              rw [gr_set] at hP hD
              refine lv_iinc (v := nI (i9 + 1)) (lv' := [(8, .int (nI (i9 + 1))), (7, .ref q94), (6, .int (nI g)), (5, .int (nI b)), (4, .int (nI a)), (3, .int (nI n)), (0, .ref mb), (1, .ref h), (2, .int x)]) hx hb dL_act_120 hl (k := 0) rfl (nI_add i9 1) (by decide) rfl (fun ls hl => ?_)
              refine lv_goto (tgt := 102) hx hb dL_act_123 (by decide) ?_
              exact ih (i9 + 1) (va_up f9 i9 (some (rw i9))) (by omega) hc9.s H locs hP hD hS ls (lv_sub hl [0, 1, 2, 3, 4, 5, 6, 7, 8] rfl)
        exact L_102 n 0 (fun _ => none) (by omega) (fun j hj => absurd hj (Nat.not_lt_zero j)) H _ hP hD hS ls (lv_sub hl [0, 1, 2, 3, 4, 5, 6, 7, 8] rfl)
    rcases (show t = 0 ∨ t = 1 ∨ t = 2 ∨ t = 3 ∨ 4 ≤ t by omega) with e | e | e | e | e
    · refine lv_tableIn (tgt := 76) (off := 29) hx hb dL_act_47 (by rw [e]; decide) (by rw [e]; decide) (by rw [e]; rfl) (by decide) ?_
      exact J76
    · refine lv_tableIn (tgt := 76) (off := 29) hx hb dL_act_47 (by rw [e]; decide) (by rw [e]; decide) (by rw [e]; rfl) (by decide) ?_
      exact J76
    · refine lv_tableIn (tgt := 214) (off := 167) hx hb dL_act_47 (by rw [e]; decide) (by rw [e]; decide) (by rw [e]; rfl) (by decide) ?_
      refine lv_iload_n hx hb dL_act_214 rfl (lv_at hl 2 rfl) ?_
      refine lv_if_ne (tgt := 220) hx hb dL_act_215 (by decide) (fun c_215 => ?_) (fun c_215 => ?_)
      · refine lv_iload_n hx hb dL_act_220 rfl (lv_at hl 5 rfl) ?_
        refine lv_bipush (v := 9) hx hb dL_act_221 (by decide) ?_
        refine lv_ishr hx hb dL_act_223 ?_
        refine lv_iconst (v := 3) hx hb dL_act_224 (by decide) ?_
        refine vp_callSi (W.runS (As := [.int (x >>> ((9 : Int32) &&& 31)), .int 3]) (rest := []) ⟨hx, hb, hml, hown, hts⟩ (c_L_below l (x >>> ((9 : Int32) &&& 31)) 3 (show 0 < 3 by omega) (by omega)) (va_cwS 2 hts gL_act_L_below rfl rfl rfl (by decide +kernel) ⟨Nat.le_of_ble_eq_true rfl, Nat.le_of_ble_eq_true rfl⟩) ⟨va_nop_blind, fun U hU hW => ⟨rfl, trivial⟩⟩ rfl rfl hl.1 rfl (lv_room (Nat.le_of_ble_eq_true rfl)) dL_act_225 ⟨(by show _ ≤ 8; omega), (by show _ ≤ 80; omega)⟩) (fun r hr0 => ?_)
        subst hr0
        obtain ⟨v, h_v⟩ : ∃ z : Nat, (bel (x >>> ((9 : Int32) &&& 31)) 3) = z := ⟨_, rfl⟩
        rw [h_v]
        have i_v : v < 3 := by rw [← h_v]; exact bel_lt _ (by decide)
        refine lv_if_ne (tgt := 246) hx hb dL_act_228 (by decide) (fun c_228 => ?_) (fun c_228 => ?_)
        · refine lv_sipush (v := 800) hx hb dL_act_246 (by decide) ?_
          refine lv_iload_n hx hb dL_act_249 rfl (lv_at hl 5 rfl) ?_
          refine lv_iconst (v := 3) hx hb dL_act_250 (by decide) ?_
          refine lv_ishr hx hb dL_act_251 ?_
          refine lv_sipush (v := 500) hx hb dL_act_252 (by decide) ?_
          refine vp_callSi (W.runS (As := [.int (x >>> ((3 : Int32) &&& 31)), .int 500]) (rest := [.int 800]) ⟨hx, hb, hml, hown, hts⟩ (c_L_below l (x >>> ((3 : Int32) &&& 31)) 500 (show 0 < 500 by omega) (by omega)) (va_cwS 2 hts gL_act_L_below rfl rfl rfl (by decide +kernel) ⟨Nat.le_of_ble_eq_true rfl, Nat.le_of_ble_eq_true rfl⟩) ⟨va_nop_blind, fun U hU hW => ⟨rfl, trivial⟩⟩ rfl rfl hl.1 rfl (lv_room (Nat.le_of_ble_eq_true rfl)) dL_act_255 ⟨(by show _ ≤ 8; omega), (by show _ ≤ 80; omega)⟩) (fun r hr0 => ?_)
          subst hr0
          obtain ⟨y, h_y⟩ : ∃ z : Nat, (bel (x >>> ((3 : Int32) &&& 31)) 500) = z := ⟨_, rfl⟩
          rw [h_y]
          have i_y : y < 500 := by rw [← h_y]; exact bel_lt _ (by decide)
          refine lv_iadd hx hb dL_act_258 ?_
          refine rv_top (y := nI (800 + y)) (nI_add 800 y) ?_
          have hr1 : 100 ≤ 800 + y := by omega
          have hr2 : 800 + y ≤ 3000 := by omega
          refine lv_istore (lv' := [(6, .int (nI (800 + y))), (5, .int (nI b)), (4, .int (nI a)), (3, .int (nI n)), (0, .ref mb), (1, .ref h), (2, .int x)]) hx hb dL_act_259 hl (by decide) rfl (fun ls hl => ?_)
          refine lv_aload_n hx hb dL_act_261 rfl (lv_at hl 5 rfl) ?_
          refine va_get (D := (dC, dI)) (ci := 2) (v := .ref al) (C := RX2) (T := TX2) (N := 4) hx hb hts hinX2 hown hK hPS 0 rfl rfl 3 (by decide) (hts (.fieldLink RL 9 "WrestleBookLaw$Sim" "all" "[[I") (by decide +kernel)) (fun _ h9 => h9) rfl dL_act_262 ?_
          refine lv_iload hx hb dL_act_265 (lv_at hl 2 rfl) ?_
          refine rv_aald (k := a) hx hb hK hPS 1 1 rfl rfl (show a < n by omega) (by omega) dL_act_267 ?_
          refine lv_iconst (v := 0) hx hb dL_act_268 (by decide) ?_
          refine rv_iald (k := 0) hx hb hK hPS (2 + a) 0 (rl_get rfl (show a < n by omega)) rfl (by decide) (by decide) dL_act_269 ?_
          refine rv_top (y := F 1 a) rfl ?_
          refine lv_istore (lv' := [(7, .int (F 1 a)), (6, .int (nI (800 + y))), (5, .int (nI b)), (4, .int (nI a)), (3, .int (nI n)), (0, .ref mb), (1, .ref h), (2, .int x)]) hx hb dL_act_270 hl (by decide) rfl (fun ls hl => ?_)
          refine lv_aload_n hx hb dL_act_272 rfl (lv_at hl 6 rfl) ?_
          refine lv_iload hx hb dL_act_273 (lv_at hl 3 rfl) ?_
          refine lv_iload hx hb dL_act_275 (lv_at hl 1 rfl) ?_
          refine lv_iload hx hb dL_act_277 (lv_at hl 0 rfl) ?_
          refine lv_isub hx hb dL_act_279 ?_
          have hDS := D_r (D_r hD)
          have hFc := free_all hDS hS hA
          refine va_callv (va_runV (As := [.int (nI a), .int ((nI (800 + y)) - (F 1 a))]) (rest := []) ⟨hx, hb, hml, hown, hts⟩ (c_X2_raise l dC dI cI h al rw cA n F ct H.size a (show a < n by omega) ((nI (800 + y)) - (F 1 a)) hn) (cwV 2 hts gL_act_X2_raise rfl rfl rfl (by decide +kernel) ⟨Nat.le_of_ble_eq_true rfl, Nat.le_of_ble_eq_true rfl⟩) ⟨PV.blind, va_recv hK hPS (ci := 2) (q0 := 0) rfl rfl, fun U hU hW => ⟨rfl, PV.go hPS hK hDS hE hS hFc hU hW⟩⟩ rfl rfl hl.1 rfl (lv_room (Nat.le_of_ble_eq_true rfl)) dL_act_280 ⟨(by show _ ≤ 8; omega), (by show _ ≤ 80; omega)⟩) hS (fun q _ h9 => hFc q h9) hFc (fun u9 t9 H locs ht9 hvm9 hw9 hB9 hz9 hk9 hS => ?_)
          obtain ⟨hP9, hD9⟩ := hB9
          rw [ht9] at hP9
          obtain ⟨hP, hD⟩ := J_S hP hD hk9 hFc hP9 hD9
          have hP : va_P (dC, dI) vwCl (([] : va_W) ++ (wB mb r1 d1 r2 d2 rc cI n F n2 G ct ch ++ wT h al rw cA cI n (s_set F a (F 1 a + ((nI (800 + y)) - (F 1 a)))) ct)) H := hP
          have hD : va_D A (([] : va_W) ++ (wB mb r1 d1 r2 d2 rc cI n F n2 G ct ch ++ wT h al rw cA cI n (s_set F a (F 1 a + ((nI (800 + y)) - (F 1 a)))) ct)) := hD
          have hPB : va_P (dC, dI) vwCl (wB mb r1 d1 r2 d2 rc cI n F n2 G ct ch) H := P_l (P_r hP)
          have hPS : va_P (dC, dI) vwCl (wT h al rw cA cI n (s_set F a (F 1 a + ((nI (800 + y)) - (F 1 a)))) ct) H := P_r (P_r hP)
          rw [i32_asc] at hP hD
          have hP : va_P (dC, dI) vwCl (([] : va_W) ++ (wB mb r1 d1 r2 d2 rc cI n F n2 G ct ch ++ wT h al rw cA cI n (s_set F a (nI (800 + y))) ct)) H := hP
          have hD : va_D A (([] : va_W) ++ (wB mb r1 d1 r2 d2 rc cI n F n2 G ct ch ++ wT h al rw cA cI n (s_set F a (nI (800 + y))) ct)) := hD
          have hPB : va_P (dC, dI) vwCl (wB mb r1 d1 r2 d2 rc cI n F n2 G ct ch) H := P_l (P_r hP)
          have hPS : va_P (dC, dI) vwCl (wT h al rw cA cI n (s_set F a (nI (800 + y))) ct) H := P_r (P_r hP)
          refine lv_aload_n hx hb dL_act_283 rfl (lv_at hl 5 rfl) ?_
          refine lv_iload hx hb dL_act_284 (lv_at hl 3 rfl) ?_
          refine lv_iload hx hb dL_act_286 (lv_at hl 1 rfl) ?_
          have hDB := D_l (D_r hD)
          have hFc := free_all hDB hS hA
          refine va_calli (va_runV (As := [.int (nI a), .int (nI (800 + y))]) (rest := []) ⟨hx, hb, hml, hown, hts⟩ (c_X1_rateK l dC dI cI mb r1 d1 r2 d2 rc n F n2 G ct ch H.size a (show a < n by omega) (800 + y) hr1 hr2 hn) (cwV 2 hts gL_act_X1_rate rfl rfl rfl (by decide +kernel) ⟨Nat.le_of_ble_eq_true rfl, Nat.le_of_ble_eq_true rfl⟩) ⟨PW.blind, va_recv (hK.sub (tys' := [(cI, .int)]) [0] rfl) hPB (ci := 1) (q0 := 0) rfl rfl, fun U hU hW => ⟨rfl, PW.go hPB (hK.sub (tys' := [(cI, .int)]) [0] rfl) hDB hE hS hFc hU hW⟩⟩ rfl rfl hl.1 rfl (lv_room (Nat.le_of_ble_eq_true rfl)) dL_act_288 ⟨(by show _ ≤ 8; omega), (by show _ ≤ 80; omega)⟩) hS (fun q _ h9 => hFc q h9) hFc (fun r u9 t9 H locs ht9 hvm9 hw9 hB9 hz9 hk9 hS => ?_)
          obtain ⟨hP9, hD9⟩ := hB9
          rw [ht9] at hP9
          obtain ⟨hP, hD⟩ := J_B hP hD hk9 hFc hP9 hD9
          have hP : va_P (dC, dI) vwCl (([] : va_W) ++ (wB mb r1 d1 r2 d2 rc cI n (s_set F a (nI (800 + y))) n2 G ct ch ++ wT h al rw cA cI n (s_set F a (nI (800 + y))) ct)) H := hP
          have hD : va_D A (([] : va_W) ++ (wB mb r1 d1 r2 d2 rc cI n (s_set F a (nI (800 + y))) n2 G ct ch ++ wT h al rw cA cI n (s_set F a (nI (800 + y))) ct)) := hD
          have hPB : va_P (dC, dI) vwCl (wB mb r1 d1 r2 d2 rc cI n (s_set F a (nI (800 + y))) n2 G ct ch) H := P_l (P_r hP)
          have hPS : va_P (dC, dI) vwCl (wT h al rw cA cI n (s_set F a (nI (800 + y))) ct) H := P_r (P_r hP)
          have hw9 : r = F 1 a := hw9
          subst hw9
          refine lv_iload hx hb dL_act_291 (lv_at hl 0 rfl) ?_
          refine lv_icmp_ne (tgt := 300) hx hb dL_act_293 (by decide) (fun c_293 => ?_) (fun c_293 => ?_)
          · exact absurd rfl c_293
          · refine lv_iconst (v := 1) hx hb dL_act_296 (by decide) ?_
            refine lv_goto (tgt := 301) hx hb dL_act_297 (by decide) ?_
            refine W.widen (k := 8) (n := 80) (by omega) (by omega) ?_
            have hP8 : va_P (dC, dI) vwCl (wU mb r1 d1 r2 d2 rc h cA cI (n, s_set F a (nI (800 + y)), ct, n2, G, ch, al, rw)) H := hP
            have hD8 : va_D A (wU mb r1 d1 r2 d2 rc h cA cI (n, s_set F a (nI (800 + y)), ct, n2, G, ch, al, rw)) := hD
            exact W.zret (v := 1) hx hb hr (by decide) (fun t ht hW => ⟨⟨1, (n, s_set F a (nI (800 + y)), ct, n2, G, ch, al, rw), rfl, ⟨rfl, (hI.set (w := a) hr1 hr2).mono (by omega)⟩, by rw [ht]; exact hP8, hD8⟩, hS.F ht⟩) hS.2.2 dL_act_301
        · refine lv_bipush (v := 100) hx hb dL_act_231 (by decide) ?_
          refine lv_iload_n hx hb dL_act_233 rfl (lv_at hl 5 rfl) ?_
          refine lv_iconst (v := 3) hx hb dL_act_234 (by decide) ?_
          refine lv_ishr hx hb dL_act_235 ?_
          refine lv_sipush (v := 2901) hx hb dL_act_236 (by decide) ?_
          refine vp_callSi (W.runS (As := [.int (x >>> ((3 : Int32) &&& 31)), .int 2901]) (rest := [.int 100]) ⟨hx, hb, hml, hown, hts⟩ (c_L_below l (x >>> ((3 : Int32) &&& 31)) 2901 (show 0 < 2901 by omega) (by omega)) (va_cwS 2 hts gL_act_L_below rfl rfl rfl (by decide +kernel) ⟨Nat.le_of_ble_eq_true rfl, Nat.le_of_ble_eq_true rfl⟩) ⟨va_nop_blind, fun U hU hW => ⟨rfl, trivial⟩⟩ rfl rfl hl.1 rfl (lv_room (Nat.le_of_ble_eq_true rfl)) dL_act_239 ⟨(by show _ ≤ 8; omega), (by show _ ≤ 80; omega)⟩) (fun r hr0 => ?_)
          subst hr0
          obtain ⟨y, h_y⟩ : ∃ z : Nat, (bel (x >>> ((3 : Int32) &&& 31)) 2901) = z := ⟨_, rfl⟩
          rw [h_y]
          have i_y : y < 2901 := by rw [← h_y]; exact bel_lt _ (by decide)
          refine lv_iadd hx hb dL_act_242 ?_
          refine rv_top (y := nI (100 + y)) (nI_add 100 y) ?_
          refine lv_goto (tgt := 259) hx hb dL_act_243 (by decide) ?_
          have hr1 : 100 ≤ 100 + y := by omega
          have hr2 : 100 + y ≤ 3000 := by omega
          refine lv_istore (lv' := [(6, .int (nI (100 + y))), (5, .int (nI b)), (4, .int (nI a)), (3, .int (nI n)), (0, .ref mb), (1, .ref h), (2, .int x)]) hx hb dL_act_259 hl (by decide) rfl (fun ls hl => ?_)
          refine lv_aload_n hx hb dL_act_261 rfl (lv_at hl 5 rfl) ?_
          refine va_get (D := (dC, dI)) (ci := 2) (v := .ref al) (C := RX2) (T := TX2) (N := 4) hx hb hts hinX2 hown hK hPS 0 rfl rfl 3 (by decide) (hts (.fieldLink RL 9 "WrestleBookLaw$Sim" "all" "[[I") (by decide +kernel)) (fun _ h9 => h9) rfl dL_act_262 ?_
          refine lv_iload hx hb dL_act_265 (lv_at hl 2 rfl) ?_
          refine rv_aald (k := a) hx hb hK hPS 1 1 rfl rfl (show a < n by omega) (by omega) dL_act_267 ?_
          refine lv_iconst (v := 0) hx hb dL_act_268 (by decide) ?_
          refine rv_iald (k := 0) hx hb hK hPS (2 + a) 0 (rl_get rfl (show a < n by omega)) rfl (by decide) (by decide) dL_act_269 ?_
          refine rv_top (y := F 1 a) rfl ?_
          refine lv_istore (lv' := [(7, .int (F 1 a)), (6, .int (nI (100 + y))), (5, .int (nI b)), (4, .int (nI a)), (3, .int (nI n)), (0, .ref mb), (1, .ref h), (2, .int x)]) hx hb dL_act_270 hl (by decide) rfl (fun ls hl => ?_)
          refine lv_aload_n hx hb dL_act_272 rfl (lv_at hl 6 rfl) ?_
          refine lv_iload hx hb dL_act_273 (lv_at hl 3 rfl) ?_
          refine lv_iload hx hb dL_act_275 (lv_at hl 1 rfl) ?_
          refine lv_iload hx hb dL_act_277 (lv_at hl 0 rfl) ?_
          refine lv_isub hx hb dL_act_279 ?_
          have hDS := D_r (D_r hD)
          have hFc := free_all hDS hS hA
          refine va_callv (va_runV (As := [.int (nI a), .int ((nI (100 + y)) - (F 1 a))]) (rest := []) ⟨hx, hb, hml, hown, hts⟩ (c_X2_raise l dC dI cI h al rw cA n F ct H.size a (show a < n by omega) ((nI (100 + y)) - (F 1 a)) hn) (cwV 2 hts gL_act_X2_raise rfl rfl rfl (by decide +kernel) ⟨Nat.le_of_ble_eq_true rfl, Nat.le_of_ble_eq_true rfl⟩) ⟨PV.blind, va_recv hK hPS (ci := 2) (q0 := 0) rfl rfl, fun U hU hW => ⟨rfl, PV.go hPS hK hDS hE hS hFc hU hW⟩⟩ rfl rfl hl.1 rfl (lv_room (Nat.le_of_ble_eq_true rfl)) dL_act_280 ⟨(by show _ ≤ 8; omega), (by show _ ≤ 80; omega)⟩) hS (fun q _ h9 => hFc q h9) hFc (fun u9 t9 H locs ht9 hvm9 hw9 hB9 hz9 hk9 hS => ?_)
          obtain ⟨hP9, hD9⟩ := hB9
          rw [ht9] at hP9
          obtain ⟨hP, hD⟩ := J_S hP hD hk9 hFc hP9 hD9
          have hP : va_P (dC, dI) vwCl (([] : va_W) ++ (wB mb r1 d1 r2 d2 rc cI n F n2 G ct ch ++ wT h al rw cA cI n (s_set F a (F 1 a + ((nI (100 + y)) - (F 1 a)))) ct)) H := hP
          have hD : va_D A (([] : va_W) ++ (wB mb r1 d1 r2 d2 rc cI n F n2 G ct ch ++ wT h al rw cA cI n (s_set F a (F 1 a + ((nI (100 + y)) - (F 1 a)))) ct)) := hD
          have hPB : va_P (dC, dI) vwCl (wB mb r1 d1 r2 d2 rc cI n F n2 G ct ch) H := P_l (P_r hP)
          have hPS : va_P (dC, dI) vwCl (wT h al rw cA cI n (s_set F a (F 1 a + ((nI (100 + y)) - (F 1 a)))) ct) H := P_r (P_r hP)
          rw [i32_asc] at hP hD
          have hP : va_P (dC, dI) vwCl (([] : va_W) ++ (wB mb r1 d1 r2 d2 rc cI n F n2 G ct ch ++ wT h al rw cA cI n (s_set F a (nI (100 + y))) ct)) H := hP
          have hD : va_D A (([] : va_W) ++ (wB mb r1 d1 r2 d2 rc cI n F n2 G ct ch ++ wT h al rw cA cI n (s_set F a (nI (100 + y))) ct)) := hD
          have hPB : va_P (dC, dI) vwCl (wB mb r1 d1 r2 d2 rc cI n F n2 G ct ch) H := P_l (P_r hP)
          have hPS : va_P (dC, dI) vwCl (wT h al rw cA cI n (s_set F a (nI (100 + y))) ct) H := P_r (P_r hP)
          refine lv_aload_n hx hb dL_act_283 rfl (lv_at hl 5 rfl) ?_
          refine lv_iload hx hb dL_act_284 (lv_at hl 3 rfl) ?_
          refine lv_iload hx hb dL_act_286 (lv_at hl 1 rfl) ?_
          have hDB := D_l (D_r hD)
          have hFc := free_all hDB hS hA
          refine va_calli (va_runV (As := [.int (nI a), .int (nI (100 + y))]) (rest := []) ⟨hx, hb, hml, hown, hts⟩ (c_X1_rateK l dC dI cI mb r1 d1 r2 d2 rc n F n2 G ct ch H.size a (show a < n by omega) (100 + y) hr1 hr2 hn) (cwV 2 hts gL_act_X1_rate rfl rfl rfl (by decide +kernel) ⟨Nat.le_of_ble_eq_true rfl, Nat.le_of_ble_eq_true rfl⟩) ⟨PW.blind, va_recv (hK.sub (tys' := [(cI, .int)]) [0] rfl) hPB (ci := 1) (q0 := 0) rfl rfl, fun U hU hW => ⟨rfl, PW.go hPB (hK.sub (tys' := [(cI, .int)]) [0] rfl) hDB hE hS hFc hU hW⟩⟩ rfl rfl hl.1 rfl (lv_room (Nat.le_of_ble_eq_true rfl)) dL_act_288 ⟨(by show _ ≤ 8; omega), (by show _ ≤ 80; omega)⟩) hS (fun q _ h9 => hFc q h9) hFc (fun r u9 t9 H locs ht9 hvm9 hw9 hB9 hz9 hk9 hS => ?_)
          obtain ⟨hP9, hD9⟩ := hB9
          rw [ht9] at hP9
          obtain ⟨hP, hD⟩ := J_B hP hD hk9 hFc hP9 hD9
          have hP : va_P (dC, dI) vwCl (([] : va_W) ++ (wB mb r1 d1 r2 d2 rc cI n (s_set F a (nI (100 + y))) n2 G ct ch ++ wT h al rw cA cI n (s_set F a (nI (100 + y))) ct)) H := hP
          have hD : va_D A (([] : va_W) ++ (wB mb r1 d1 r2 d2 rc cI n (s_set F a (nI (100 + y))) n2 G ct ch ++ wT h al rw cA cI n (s_set F a (nI (100 + y))) ct)) := hD
          have hPB : va_P (dC, dI) vwCl (wB mb r1 d1 r2 d2 rc cI n (s_set F a (nI (100 + y))) n2 G ct ch) H := P_l (P_r hP)
          have hPS : va_P (dC, dI) vwCl (wT h al rw cA cI n (s_set F a (nI (100 + y))) ct) H := P_r (P_r hP)
          have hw9 : r = F 1 a := hw9
          subst hw9
          refine lv_iload hx hb dL_act_291 (lv_at hl 0 rfl) ?_
          refine lv_icmp_ne (tgt := 300) hx hb dL_act_293 (by decide) (fun c_293 => ?_) (fun c_293 => ?_)
          · exact absurd rfl c_293
          · refine lv_iconst (v := 1) hx hb dL_act_296 (by decide) ?_
            refine lv_goto (tgt := 301) hx hb dL_act_297 (by decide) ?_
            refine W.widen (k := 8) (n := 80) (by omega) (by omega) ?_
            have hP8 : va_P (dC, dI) vwCl (wU mb r1 d1 r2 d2 rc h cA cI (n, s_set F a (nI (100 + y)), ct, n2, G, ch, al, rw)) H := hP
            have hD8 : va_D A (wU mb r1 d1 r2 d2 rc h cA cI (n, s_set F a (nI (100 + y)), ct, n2, G, ch, al, rw)) := hD
            exact W.zret (v := 1) hx hb hr (by decide) (fun t ht hW => ⟨⟨1, (n, s_set F a (nI (100 + y)), ct, n2, G, ch, al, rw), rfl, ⟨rfl, (hI.set (w := a) hr1 hr2).mono (by omega)⟩, by rw [ht]; exact hP8, hD8⟩, hS.F ht⟩) hS.2.2 dL_act_301
      · exact absurd c_215 (nI_ne0 (by omega) (by omega))
    · refine lv_tableIn (tgt := 302) (off := 255) hx hb dL_act_47 (by rw [e]; decide) (by rw [e]; decide) (by rw [e]; rfl) (by decide) ?_
      refine lv_iload_n hx hb dL_act_302 rfl (lv_at hl 5 rfl) ?_
      refine lv_iconst (v := 4) hx hb dL_act_303 (by decide) ?_
      refine lv_ishr hx hb dL_act_304 ?_
      refine lv_iconst (v := 3) hx hb dL_act_305 (by decide) ?_
      refine vp_callSi (W.runS (As := [.int (x >>> ((4 : Int32) &&& 31)), .int 3]) (rest := []) ⟨hx, hb, hml, hown, hts⟩ (c_L_below l (x >>> ((4 : Int32) &&& 31)) 3 (show 0 < 3 by omega) (by omega)) (va_cwS 2 hts gL_act_L_below rfl rfl rfl (by decide +kernel) ⟨Nat.le_of_ble_eq_true rfl, Nat.le_of_ble_eq_true rfl⟩) ⟨va_nop_blind, fun U hU hW => ⟨rfl, trivial⟩⟩ rfl rfl hl.1 rfl (lv_room (Nat.le_of_ble_eq_true rfl)) dL_act_306 ⟨(by show _ ≤ 8; omega), (by show _ ≤ 80; omega)⟩) (fun r hr0 => ?_)
      subst hr0
      obtain ⟨v, h_v⟩ : ∃ z : Nat, (bel (x >>> ((4 : Int32) &&& 31)) 3) = z := ⟨_, rfl⟩
      rw [h_v]
      have i_v : v < 3 := by rw [← h_v]; exact bel_lt _ (by decide)
      refine lv_if_le (tgt := 314) hx hb dL_act_309 (by decide) (fun c_309 => ?_) (fun c_309 => ?_)
      · refine lv_aload_n hx hb dL_act_314 rfl (lv_at hl 3 rfl) ?_
        have hDB := D_l (D_r hD)
        have hFc := free_all hDB hS hA
        refine va_calli (va_runV (As := []) (rest := []) ⟨hx, hb, hml, hown, hts⟩ (c_X1_end l dC dI cI mb r1 d1 r2 d2 rc n F n2 G ct ch H.size hn) (cwV 0 hts gL_act_X1_end rfl rfl rfl (by decide +kernel) ⟨Nat.le_of_ble_eq_true rfl, Nat.le_of_ble_eq_true rfl⟩) ⟨PW.blind, va_recv (hK.sub (tys' := [(cI, .int)]) [0] rfl) hPB (ci := 1) (q0 := 0) rfl rfl, fun U hU hW => ⟨rfl, PW.go hPB (hK.sub (tys' := [(cI, .int)]) [0] rfl) hDB hE hS hFc hU hW⟩⟩ rfl rfl hl.1 rfl (lv_room (Nat.le_of_ble_eq_true rfl)) dL_act_315 ⟨(by show _ ≤ 8; omega), (by show _ ≤ 80; omega)⟩) hS (fun q _ h9 => hFc q h9) hFc (fun r u9 t9 H locs ht9 hvm9 hw9 hB9 hz9 hk9 hS => ?_)
        obtain ⟨hP9, hD9⟩ := hB9
        rw [ht9] at hP9
        obtain ⟨hP, hD⟩ := J_B hP hD hk9 hFc hP9 hD9
        have hP : va_P (dC, dI) vwCl (([] : va_W) ++ (wB mb r1 d1 r2 d2 rc cI n (s_clear n (s_endU n (s_drift n F) 2).1) n2 G (upd ct 0 (ct 0 + 1)) ch ++ wT h al rw cA cI n F ct)) H := hP
        have hD : va_D A (([] : va_W) ++ (wB mb r1 d1 r2 d2 rc cI n (s_clear n (s_endU n (s_drift n F) 2).1) n2 G (upd ct 0 (ct 0 + 1)) ch ++ wT h al rw cA cI n F ct)) := hD
        have hPB : va_P (dC, dI) vwCl (wB mb r1 d1 r2 d2 rc cI n (s_clear n (s_endU n (s_drift n F) 2).1) n2 G (upd ct 0 (ct 0 + 1)) ch) H := P_l (P_r hP)
        have hPS : va_P (dC, dI) vwCl (wT h al rw cA cI n F ct) H := P_r (P_r hP)
        have hw9 : r = (s_endU n (s_drift n F) 2).2 := hw9
        subst hw9
        refine lv_aload_n hx hb dL_act_318 rfl (lv_at hl 4 rfl) ?_
        have hDS := D_r (D_r hD)
        have hFc := free_all hDS hS hA
        refine va_calli (va_runV (As := []) (rest := [.int ((s_endU n (s_drift n F) 2).2)]) ⟨hx, hb, hml, hown, hts⟩ (c_X2_end l dC dI cI h al rw cA n F ct H.size hn hR) (cwV 0 hts gL_act_X2_end rfl rfl rfl (by decide +kernel) ⟨Nat.le_of_ble_eq_true rfl, Nat.le_of_ble_eq_true rfl⟩) ⟨PV.blind, va_recv hK hPS (ci := 2) (q0 := 0) rfl rfl, fun U hU hW => ⟨rfl, PV.go hPS hK hDS hE hS hFc hU hW⟩⟩ rfl rfl hl.1 rfl (lv_room (Nat.le_of_ble_eq_true rfl)) dL_act_319 ⟨(by show _ ≤ 8; omega), (by show _ ≤ 80; omega)⟩) hS (fun q _ h9 => hFc q h9) hFc (fun r u9 t9 H locs ht9 hvm9 hw9 hB9 hz9 hk9 hS => ?_)
        obtain ⟨hP9, hD9⟩ := hB9
        rw [ht9] at hP9
        obtain ⟨hP, hD⟩ := J_S hP hD hk9 hFc hP9 hD9
        have hP : va_P (dC, dI) vwCl (([] : va_W) ++ (wB mb r1 d1 r2 d2 rc cI n (s_clear n (s_endU n (s_drift n F) 2).1) n2 G (upd ct 0 (ct 0 + 1)) ch ++ wT h al rw cA cI n (s_clear n (s_endU n (s_drift n F) 2).1) (upd ct 0 (ct 0 + 1)))) H := hP
        have hD : va_D A (([] : va_W) ++ (wB mb r1 d1 r2 d2 rc cI n (s_clear n (s_endU n (s_drift n F) 2).1) n2 G (upd ct 0 (ct 0 + 1)) ch ++ wT h al rw cA cI n (s_clear n (s_endU n (s_drift n F) 2).1) (upd ct 0 (ct 0 + 1)))) := hD
        have hPB : va_P (dC, dI) vwCl (wB mb r1 d1 r2 d2 rc cI n (s_clear n (s_endU n (s_drift n F) 2).1) n2 G (upd ct 0 (ct 0 + 1)) ch) H := P_l (P_r hP)
        have hPS : va_P (dC, dI) vwCl (wT h al rw cA cI n (s_clear n (s_endU n (s_drift n F) 2).1) (upd ct 0 (ct 0 + 1))) H := P_r (P_r hP)
        have hw9 : r = (s_endU n (s_drift n F) 2).2 := hw9
        subst hw9
        refine lv_icmp_ne (tgt := 329) hx hb dL_act_322 (by decide) (fun c_322 => ?_) (fun c_322 => ?_)
        · exact absurd rfl c_322
        · refine lv_iconst (v := 1) hx hb dL_act_325 (by decide) ?_
          refine lv_goto (tgt := 330) hx hb dL_act_326 (by decide) ?_
          refine W.widen (k := 8) (n := 80) (by omega) (by omega) ?_
          have hP8 : va_P (dC, dI) vwCl (wU mb r1 d1 r2 d2 rc h cA cI (n, s_clear n (s_endU n (s_drift n F) 2).1, upd ct 0 (ct 0 + 1), n2, G, ch, al, rw)) H := hP
          have hD8 : va_D A (wU mb r1 d1 r2 d2 rc h cA cI (n, s_clear n (s_endU n (s_drift n F) 2).1, upd ct 0 (ct 0 + 1), n2, G, ch, al, rw)) := hD
          exact W.zret (v := 1) hx hb hr (by decide) (fun t ht hW => ⟨⟨1, (n, s_clear n (s_endU n (s_drift n F) 2).1, upd ct 0 (ct 0 + 1), n2, G, ch, al, rw), rfl, ⟨rfl, hI.fin.mono (by omega)⟩, by rw [ht]; exact hP8, hD8⟩, hS.F ht⟩) hS.2.2 dL_act_330
      · refine lv_iconst (v := 1) hx hb dL_act_312 (by decide) ?_
        refine W.widen (k := 8) (n := 80) (by omega) (by omega) ?_
        have hP8 : va_P (dC, dI) vwCl (wU mb r1 d1 r2 d2 rc h cA cI (n, F, ct, n2, G, ch, al, rw)) H := hP
        have hD8 : va_D A (wU mb r1 d1 r2 d2 rc h cA cI (n, F, ct, n2, G, ch, al, rw)) := hD
        exact W.zret (v := 1) hx hb hr (by decide) (fun t ht hW => ⟨⟨1, (n, F, ct, n2, G, ch, al, rw), rfl, ⟨rfl, hI.mono (by omega)⟩, by rw [ht]; exact hP8, hD8⟩, hS.F ht⟩) hS.2.2 dL_act_313
    · refine lv_tableOut (tgt := 331) hx hb dL_act_47 (Or.inr (by rw [nI_toInt (by omega)]; omega)) (by decide) ?_
      refine lv_iload_n hx hb dL_act_331 rfl (lv_at hl 2 rfl) ?_
      refine lv_if_eq (tgt := 342) hx hb dL_act_332 (by decide) (fun c_332 => ?_) (fun c_332 => ?_)
      · exact absurd c_332 (nI_ne0 (by omega) (by omega))
      · refine lv_iload hx hb dL_act_335 (lv_at hl 1 rfl) ?_
        refine lv_iload hx hb dL_act_337 (lv_at hl 0 rfl) ?_
        refine rv_icmp_ne (tgt := 344) hx hb (a := a) (b := b) (by omega) (by omega) dL_act_339 (by decide) (fun c_339 => ?_) (fun c_339 => ?_)
        · refine lv_iload_n hx hb dL_act_344 rfl (lv_at hl 5 rfl) ?_
          refine lv_bipush (v := 9) hx hb dL_act_345 (by decide) ?_
          refine lv_ishr hx hb dL_act_347 ?_
          refine lv_iconst (v := 3) hx hb dL_act_348 (by decide) ?_
          refine vp_callSi (W.runS (As := [.int (x >>> ((9 : Int32) &&& 31)), .int 3]) (rest := []) ⟨hx, hb, hml, hown, hts⟩ (c_L_below l (x >>> ((9 : Int32) &&& 31)) 3 (show 0 < 3 by omega) (by omega)) (va_cwS 2 hts gL_act_L_below rfl rfl rfl (by decide +kernel) ⟨Nat.le_of_ble_eq_true rfl, Nat.le_of_ble_eq_true rfl⟩) ⟨va_nop_blind, fun U hU hW => ⟨rfl, trivial⟩⟩ rfl rfl hl.1 rfl (lv_room (Nat.le_of_ble_eq_true rfl)) dL_act_349 ⟨(by show _ ≤ 8; omega), (by show _ ≤ 80; omega)⟩) (fun r hr0 => ?_)
          subst hr0
          obtain ⟨q, h_q⟩ : ∃ z : Nat, (bel (x >>> ((9 : Int32) &&& 31)) 3) = z := ⟨_, rfl⟩
          rw [h_q]
          have i_q : q < 3 := by rw [← h_q]; exact bel_lt _ (by decide)
          have hq : q ≤ 2 := by omega
          refine lv_istore (lv' := [(6, .int (nI q)), (5, .int (nI b)), (4, .int (nI a)), (3, .int (nI n)), (0, .ref mb), (1, .ref h), (2, .int x)]) hx hb dL_act_352 hl (by decide) rfl (fun ls hl => ?_)
          refine lv_aload_n hx hb dL_act_354 rfl (lv_at hl 4 rfl) ?_
          refine lv_iload hx hb dL_act_355 (lv_at hl 2 rfl) ?_
          refine lv_iload hx hb dL_act_357 (lv_at hl 1 rfl) ?_
          refine lv_iload hx hb dL_act_359 (lv_at hl 0 rfl) ?_
          have hDB := D_l (D_r hD)
          have hFc := free_all hDB hS hA
          refine va_calli (va_runV (As := [.int (nI a), .int (nI b), .int (nI q)]) (rest := []) ⟨hx, hb, hml, hown, hts⟩ (c_X1_boutK l dC dI cI mb r1 d1 r2 d2 rc n F n2 G ct ch H.size a (show a < n by omega) b (show b < n by omega) q hq c_339 hn hR) (cwV 3 hts gL_act_X1_bout rfl rfl rfl (by decide +kernel) ⟨Nat.le_of_ble_eq_true rfl, Nat.le_of_ble_eq_true rfl⟩) ⟨PW.blind, va_recv (hK.sub (tys' := [(cI, .int)]) [0] rfl) hPB (ci := 1) (q0 := 0) rfl rfl, fun U hU hW => ⟨rfl, PW.go hPB (hK.sub (tys' := [(cI, .int)]) [0] rfl) hDB hE hS hFc hU hW⟩⟩ rfl rfl hl.1 rfl (lv_room (Nat.le_of_ble_eq_true rfl)) dL_act_361 ⟨(by show _ ≤ 8; omega), (by show _ ≤ 80; omega)⟩) hS (fun q _ h9 => hFc q h9) hFc (fun r u9 t9 H locs ht9 hvm9 hw9 hB9 hz9 hk9 hS => ?_)
          obtain ⟨hP9, hD9⟩ := hB9
          rw [ht9] at hP9
          obtain ⟨hP, hD⟩ := J_B hP hD hk9 hFc hP9 hD9
          have hP : va_P (dC, dI) vwCl (([] : va_W) ++ (wB mb r1 d1 r2 d2 rc cI n (s_hold F a b q) n2 G (s_ct ct F a b q) ch ++ wT h al rw cA cI n F ct)) H := hP
          have hD : va_D A (([] : va_W) ++ (wB mb r1 d1 r2 d2 rc cI n (s_hold F a b q) n2 G (s_ct ct F a b q) ch ++ wT h al rw cA cI n F ct)) := hD
          have hPB : va_P (dC, dI) vwCl (wB mb r1 d1 r2 d2 rc cI n (s_hold F a b q) n2 G (s_ct ct F a b q) ch) H := P_l (P_r hP)
          have hPS : va_P (dC, dI) vwCl (wT h al rw cA cI n F ct) H := P_r (P_r hP)
          have hw9 : r = s_gain F a b (nI q) := hw9
          subst hw9
          refine lv_aload_n hx hb dL_act_364 rfl (lv_at hl 5 rfl) ?_
          refine lv_iload hx hb dL_act_365 (lv_at hl 2 rfl) ?_
          refine lv_iload hx hb dL_act_367 (lv_at hl 1 rfl) ?_
          refine lv_iload hx hb dL_act_369 (lv_at hl 0 rfl) ?_
          have hDS := D_r (D_r hD)
          have hFc := free_all hDS hS hA
          refine va_calli (va_runV (As := [.int (nI a), .int (nI b), .int (nI q)]) (rest := [.int (s_gain F a b (nI q))]) ⟨hx, hb, hml, hown, hts⟩ (c_X2_bout l dC dI cI h al rw cA n F ct H.size a (show a < n by omega) b (show b < n by omega) q hq c_339 hn hR) (cwV 3 hts gL_act_X2_bout rfl rfl rfl (by decide +kernel) ⟨Nat.le_of_ble_eq_true rfl, Nat.le_of_ble_eq_true rfl⟩) ⟨PV.blind, va_recv hK hPS (ci := 2) (q0 := 0) rfl rfl, fun U hU hW => ⟨rfl, PV.go hPS hK hDS hE hS hFc hU hW⟩⟩ rfl rfl hl.1 rfl (lv_room (Nat.le_of_ble_eq_true rfl)) dL_act_371 ⟨(by show _ ≤ 8; omega), (by show _ ≤ 80; omega)⟩) hS (fun q _ h9 => hFc q h9) hFc (fun r u9 t9 H locs ht9 hvm9 hw9 hB9 hz9 hk9 hS => ?_)
          obtain ⟨hP9, hD9⟩ := hB9
          rw [ht9] at hP9
          obtain ⟨hP, hD⟩ := J_S hP hD hk9 hFc hP9 hD9
          have hP : va_P (dC, dI) vwCl (([] : va_W) ++ (wB mb r1 d1 r2 d2 rc cI n (s_hold F a b q) n2 G (s_ct ct F a b q) ch ++ wT h al rw cA cI n (s_hold F a b q) (s_ct ct F a b q))) H := hP
          have hD : va_D A (([] : va_W) ++ (wB mb r1 d1 r2 d2 rc cI n (s_hold F a b q) n2 G (s_ct ct F a b q) ch ++ wT h al rw cA cI n (s_hold F a b q) (s_ct ct F a b q))) := hD
          have hPB : va_P (dC, dI) vwCl (wB mb r1 d1 r2 d2 rc cI n (s_hold F a b q) n2 G (s_ct ct F a b q) ch) H := P_l (P_r hP)
          have hPS : va_P (dC, dI) vwCl (wT h al rw cA cI n (s_hold F a b q) (s_ct ct F a b q)) H := P_r (P_r hP)
          have hw9 : r = s_gain F a b (nI q) := hw9
          subst hw9
          refine lv_icmp_ne (tgt := 381) hx hb dL_act_374 (by decide) (fun c_374 => ?_) (fun c_374 => ?_)
          · exact absurd rfl c_374
          · refine lv_iconst (v := 1) hx hb dL_act_377 (by decide) ?_
            refine lv_goto (tgt := 382) hx hb dL_act_378 (by decide) ?_
            refine W.widen (k := 8) (n := 80) (by omega) (by omega) ?_
            have hP8 : va_P (dC, dI) vwCl (wU mb r1 d1 r2 d2 rc h cA cI (n, s_hold F a b q, s_ct ct F a b q, n2, G, ch, al, rw)) H := hP
            have hD8 : va_D A (wU mb r1 d1 r2 d2 rc h cA cI (n, s_hold F a b q, s_ct ct F a b q, n2, G, ch, al, rw)) := hD
            exact W.zret (v := 1) hx hb hr (by decide) (fun t ht hW => ⟨⟨1, (n, s_hold F a b q, s_ct ct F a b q, n2, G, ch, al, rw), rfl, ⟨rfl, hI.hold hK9 i_a i_b c_339 hq⟩, by rw [ht]; exact hP8, hD8⟩, hS.F ht⟩) hS.2.2 dL_act_382
        · refine lv_iconst (v := 1) hx hb dL_act_342 (by decide) ?_
          refine W.widen (k := 8) (n := 80) (by omega) (by omega) ?_
          have hP8 : va_P (dC, dI) vwCl (wU mb r1 d1 r2 d2 rc h cA cI (n, F, ct, n2, G, ch, al, rw)) H := hP
          have hD8 : va_D A (wU mb r1 d1 r2 d2 rc h cA cI (n, F, ct, n2, G, ch, al, rw)) := hD
          exact W.zret (v := 1) hx hb hr (by decide) (fun t ht hW => ⟨⟨1, (n, F, ct, n2, G, ch, al, rw), rfl, ⟨rfl, hI.mono (by omega)⟩, by rw [ht]; exact hP8, hD8⟩, hS.F ht⟩) hS.2.2 dL_act_343
