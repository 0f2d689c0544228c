/-! The Sim: is the book the same -/
theorem told_sw {n : Nat} {F : Nat → Nat → Int32} {w k : Nat} (h : k < 7) : s_told n F w (nI k) = F (sw k) w := by
  rcases (show k = 0 ∨ k = 1 ∨ k = 2 ∨ k = 3 ∨ k = 4 ∨ k = 5 ∨ k = 6 by omega) with rfl | rfl | rfl | rfl | rfl | rfl | rfl <;> rfl
theorem lo_99 {n : Nat} {F : Nat → Nat → Int32} (h : okR n F) : s_loU F (if n = 0 then 0 else 9999) n = s_lo n F := by
  unfold s_lo
  by_cases h0 : n = 0
  · subst h0; rfl
  · rw [if_neg h0, if_neg h0]
    refine s_loU_z n (fun i hi => ?_) (by omega)
    obtain ⟨x, x1, x2, ex⟩ := h i hi
    rw [ex]
    exact ⟨nI_le (b := 9999) (by omega) (by decide), nI_le (b := 3000) x2 (by decide)⟩
/-- the counts as the Sim lays them down, i leagues so far -/
def C9 (n : Nat) (F : Nat → Nat → Int32) (ct : Nat → Int32) (i : Nat) (g : Nat → Int32) : Prop := ∀ k, k < 9 → (k < 4 + i ∨ 7 ≤ k) → g k = s_cnt n F ct (nI k)
theorem C9_0 {n : Nat} {F : Nat → Nat → Int32} {ct : Nat → Int32} {lo : Int32} (h : lo = s_lo n F) : C9 n F ct 0 (upd (upd (upd (upd (upd (upd (upd (upd (upd (fun _ => 0) 0 (ct 0)) 1 (nI n)) 2 (ct 1)) 3 (ct 2)) 4 0) 5 0) 6 0) 7 (s_hi n F)) 8 lo) := by
  intro k hk h2
  rcases (show k = 0 ∨ k = 1 ∨ k = 2 ∨ k = 3 ∨ k = 7 ∨ k = 8 by omega) with rfl | rfl | rfl | rfl | rfl | rfl
  · rfl
  · rfl
  · rfl
  · rfl
  · rfl
  · exact h
theorem C9_s {n : Nat} {F : Nat → Nat → Int32} {ct : Nat → Int32} {i : Nat} {g : Nat → Int32} (h : C9 n F ct i g) (hi : i < 3) : C9 n F ct (i + 1) (upd g (4 + i) (nI (s_many n F (nI i)))) := by
  intro k hk h2
  by_cases q : k = 4 + i
  · subst q
    rw [pk_us]
    rcases (show i = 0 ∨ i = 1 ∨ i = 2 by omega) with rfl | rfl | rfl <;> rfl
  · rw [pk_un q]; exact h k hk (by omega)
theorem lg_in {i : Nat} (h : i < 3) : s_lg (nI i) = true := by
  rcases (show i = 0 ∨ i = 1 ∨ i = 2 by omega) with rfl | rfl | rfl <;> rfl
theorem cmp_self {x : UInt64} (h : isNaN64 x = false) : Op.cmpValue (FP.dcmp x x) .l = 0 := by rw [nan_self h]; rfl
set_option maxHeartbeats 8000000 in
set_option maxRecDepth 100000 in
theorem c_X2_isSame (l : Launch) (dC : Nat → ClassId) (dI : Nat → Nat → Nat) (cI : ClassId) (h al : Nat) (rw : Nat → Nat) (cA : ClassId) (n : Nat) (F : Nat → Nat → Int32) (ct : Nat → Int32) (mb r1 : Nat) (d1 : Nat → Nat) (r2 : Nat) (d2 : Nat → Nat) (rc n2 : Nat) (G : Nat → Nat → Int32) (ch : Nat → Int32) (sz : Nat) (hn : n ≤ 12) (hR : okR n F) (hne : n ≠ 0 → vf_n64 (FP.ddiv (FP.i2d (s_sum n F)) (FP.i2d (nI n)))) (hnn : isNaN64 (s_mean n F) = false) : Met l yX2_isSame wsX2_isSame ({ frames := 6, cells := 724, slots := 6525, locals := 127 } : Room) (va_Pc [.ref h, .ref mb] (fun U => PT dC dI cI cA (wB mb r1 d1 r2 d2 rc cI n F n2 G ct ch ++ wT h al rw cA cI n F ct) sz U)) (va_Qi (fun r (_ : Unit) => r = 1) (fun _ _ => True) (fun q : Nat => sz ≤ q)) 724 6525 (fun q : Nat => sz ≤ q) := by
  refine Met.ofW (cc := cX2_isSame) (maxL := 8) (ret := (some .boolean)) (by decide) rfl ?_
  intro p e s m args below meth c s₁ B hml hv
  obtain ⟨rfl, hsz, hP0, hK, hE⟩ := hv
  have hx := B.exec
  have hb := B.bytes
  have hr := B.returns
  have hts := atoms_spec (ws := wsX2_isSame) B.pre
  have hown : s.vm.findClass RX2 = some m.cls := findClass_of_methodNamed B.named
  have hlocks := B.notSynchronized
  subst hsz
  have hAn : ∀ q : Nat, q < s.heap.size → ¬ (fun q : Nat => s.heap.size ≤ q) q := fun q h9 => Nat.not_le.mpr h9
  have hA : ∀ q : Nat, s.heap.size ≤ q → (fun q : Nat => s.heap.size ≤ q) q := fun q h9 => h9
  generalize (fun q : Nat => s.heap.size ≤ q) = A at hA hAn hE ⊢
  have hS : va_S A s.heap s.heap [] := va_S.rf
  have hinX2 : ∀ w ∈ wsX20, w ∈ wsX2_isSame := by decide +kernel
  have hl := lv_entry ([.ref h, .ref mb]) (n := 8) (Nat.le_of_ble_eq_true rfl)
  rw [lg_entry_eq]
  generalize (lg_sl ([.ref h, .ref mb]) ++ List.replicate (8 - (lg_sl ([.ref h, .ref mb])).length) Slot.unset).toArray = ls at hl ⊢
  have hl : lv_has ls 8 [(0, .ref h), (1, .ref mb)] := hl
  obtain ⟨H, hHe⟩ : ∃ H, H = s.heap := ⟨_, rfl⟩
  have hS : va_S A s.heap H [] := by rw [hHe]; exact hS
  have hPW := keepS hP0 hAn hS
  have hPB := P_l hPW
  have hP := P_r hPW
  suffices h0 : W p l e (headSpec wsX2_isSame ({ frames := 6, cells := 724, slots := 6525, locals := 127 } : Room)).room s m ([.ref h, .ref mb] : List Value).toArray below meth c H [] 0 0 (MQ below (va_Qi (fun r (_ : Unit) => r = 1) (fun _ _ => True) A) ([.ref h, .ref mb] : List Value).toArray s 724 6525 A) (F0 m 0 ls []) from by have h9 := h0; rw [hHe] at h9; exact h9
  refine lv_iconst (v := 0) hx hb dX2_isSame_0 (by decide) ?_
  refine lv_istore_n (lv' := [(2, .int 0), (0, .ref h), (1, .ref mb)]) hx hb dX2_isSame_1 rfl hl (by decide) rfl (fun ls hl => ?_)
  refine lv_aload_n hx hb dX2_isSame_2 rfl (lv_at hl 1 rfl) ?_
  refine va_get (D := (dC, dI)) (ci := 2) (v := .ref al) (C := RX2) (T := TX2) (N := 4) hx hb hts hinX2 hown hK hP 0 rfl rfl 3 (by decide) (hts (.fieldLink RX2 9 "WrestleBookLaw$Sim" "all" "[[I") (by decide +kernel)) (fun _ h9 => h9) rfl dX2_isSame_3 ?_
  refine va_alen hx hb hK hP 1 1 rfl rfl (v := nI n) rfl dX2_isSame_6 ?_
  refine lv_if_ne (tgt := 14) hx hb dX2_isSame_7 (by decide) (fun c_7 => ?_) (fun c_7 => ?_)
  · have hn0 : ¬ n = 0 := fun q => c_7 (by rw [q]; rfl)
    refine lv_sipush (v := 9999) hx hb dX2_isSame_14 (by decide) ?_
    refine lv_istore_n (lv' := [(3, .int 9999), (2, .int 0), (0, .ref h), (1, .ref mb)]) hx hb dX2_isSame_17 rfl hl (by decide) rfl (fun ls hl => ?_)
    refine lv_iconst (v := 0) hx hb dX2_isSame_18 (by decide) ?_
    refine lv_istore (lv' := [(4, .int 0), (3, .int 9999), (2, .int 0), (0, .ref h), (1, .ref mb)]) hx hb dX2_isSame_19 hl (by decide) rfl (fun ls hl => ?_)
    have L_21 : ∀ (kw w : Nat) (x2 : Int32) (x3 : Int32), w + kw = n → x2 = s_sumU F w → x3 = s_loU F (if n = 0 then 0 else 9999) w → ∀ (H : Heap) (locs : List Loc), va_S A s.heap H locs → ∀ (ls : Array Slot), lv_has ls 8 [(4, .int (nI w)), (3, .int x3), (2, .int x2), (0, .ref h), (1, .ref mb)] → W p l e (headSpec wsX2_isSame ({ frames := 6, cells := 724, slots := 6525, locals := 127 } : Room)).room s m ([.ref h, .ref mb] : List Value).toArray below meth c H locs (0 + 36 * w) (0 + 324 * w) (MQ below (va_Qi (fun r (_ : Unit) => r = 1) (fun _ _ => True) A) ([.ref h, .ref mb] : List Value).toArray s 724 6525 A) (F0 m 21 ls []) := by
      intro kw
      induction kw with
      | zero =>
        intro w x2 x3 e_w hx2 hx3 H locs hS ls hl
        have hPW := keepS hP0 hAn hS
        have hPB := P_l hPW
        have hP := P_r hPW
        refine lv_iload hx hb dX2_isSame_21 (lv_at hl 0 rfl) ?_
        refine lv_aload_n hx hb dX2_isSame_23 rfl (lv_at hl 3 rfl) ?_
        refine va_get (D := (dC, dI)) (ci := 2) (v := .ref al) (C := RX2) (T := TX2) (N := 4) hx hb hts hinX2 hown hK hP 0 rfl rfl 3 (by decide) (hts (.fieldLink RX2 9 "WrestleBookLaw$Sim" "all" "[[I") (by decide +kernel)) (fun _ h9 => h9) rfl dX2_isSame_24 ?_
        refine va_alen hx hb hK hP 1 1 rfl rfl (v := nI n) rfl dX2_isSame_27 ?_
        refine rv_icmp_ge (tgt := 176) hx hb (a := w) (b := n) (by omega) (by omega) dX2_isSame_28 (by decide) (fun c_28 => ?_) (fun c_28 => ?_)
        · refine lv_bipush (v := 9) hx hb dX2_isSame_176 (by decide) ?_
          refine rv_newa (N' := 9) hx hb (hts (.arrayClass .int) (by decide +kernel)) (hK.sub (tys' := [(cI, .int)]) [0] rfl) vaP_nil D_nil hS hA (by decide) (rfl) (Nat.le_of_ble_eq_true rfl) (by show _ ≤ 724; omega) (by show _ ≤ 6525; omega) dX2_isSame_178 (fun q178 H hPt hDt hS => ?_)
          have hPt : va_P (dC, dI) vwCl ([(q178, .inl (cI, 9, .inl (fun _ => 0)))]) H := hPt
          have hDt : va_D A ([(q178, .inl (cI, 9, .inl (fun _ => 0)))]) := hDt
          have hPW := keepS hP0 hAn hS
          have hPB := P_l hPW
          have hP := P_r hPW
          refine lv_dup hx hb dX2_isSame_180 rfl ?_
          refine lv_iconst (v := 0) hx hb dX2_isSame_181 (by decide) ?_
          refine lv_aload_n hx hb dX2_isSame_182 rfl (lv_at hl 3 rfl) ?_
          refine va_get (D := (dC, dI)) (ci := 2) (v := .int (ct 0)) (C := RX2) (T := TX2) (N := 4) hx hb hts hinX2 hown hK hP 0 rfl rfl 0 (by decide) (hts (.fieldLink RX2 45 "WrestleBookLaw$Sim" "season" "I") (by decide +kernel)) (fun _ h9 => h9) rfl dX2_isSame_183 ?_
          refine rv_iast (k := 0) hx hb hK hPt hDt hS 0 0 rfl rfl (show 0 < 9 by omega) (by omega) dX2_isSame_186 (fun H locs hPt hDt hS => ?_)
          have hPt : va_P (dC, dI) vwCl ([(q178, .inl (cI, 9, .inl (upd (fun _ => 0) 0 (ct 0))))]) H := hPt
          have hDt : va_D A ([(q178, .inl (cI, 9, .inl (upd (fun _ => 0) 0 (ct 0))))]) := hDt
          have hPW := keepS hP0 hAn hS
          have hPB := P_l hPW
          have hP := P_r hPW
          refine lv_dup hx hb dX2_isSame_187 rfl ?_
          refine lv_iconst (v := 1) hx hb dX2_isSame_188 (by decide) ?_
          refine lv_aload_n hx hb dX2_isSame_189 rfl (lv_at hl 3 rfl) ?_
          refine va_get (D := (dC, dI)) (ci := 2) (v := .ref al) (C := RX2) (T := TX2) (N := 4) hx hb hts hinX2 hown hK hP 0 rfl rfl 3 (by decide) (hts (.fieldLink RX2 9 "WrestleBookLaw$Sim" "all" "[[I") (by decide +kernel)) (fun _ h9 => h9) rfl dX2_isSame_190 ?_
          refine va_alen hx hb hK hP 1 1 rfl rfl (v := nI n) rfl dX2_isSame_193 ?_
          refine rv_iast (k := 1) hx hb hK hPt hDt hS 0 0 rfl rfl (show 1 < 9 by omega) (by omega) dX2_isSame_194 (fun H locs hPt hDt hS => ?_)
          have hPt : va_P (dC, dI) vwCl ([(q178, .inl (cI, 9, .inl (upd (upd (fun _ => 0) 0 (ct 0)) 1 (nI n))))]) H := hPt
          have hDt : va_D A ([(q178, .inl (cI, 9, .inl (upd (upd (fun _ => 0) 0 (ct 0)) 1 (nI n))))]) := hDt
          have hPW := keepS hP0 hAn hS
          have hPB := P_l hPW
          have hP := P_r hPW
          refine lv_dup hx hb dX2_isSame_195 rfl ?_
          refine lv_iconst (v := 2) hx hb dX2_isSame_196 (by decide) ?_
          refine lv_aload_n hx hb dX2_isSame_197 rfl (lv_at hl 3 rfl) ?_
          refine va_get (D := (dC, dI)) (ci := 2) (v := .int (ct 1)) (C := RX2) (T := TX2) (N := 4) hx hb hts hinX2 hown hK hP 0 rfl rfl 1 (by decide) (hts (.fieldLink RX2 38 "WrestleBookLaw$Sim" "bouts" "I") (by decide +kernel)) (fun _ h9 => h9) rfl dX2_isSame_198 ?_
          refine rv_iast (k := 2) hx hb hK hPt hDt hS 0 0 rfl rfl (show 2 < 9 by omega) (by omega) dX2_isSame_201 (fun H locs hPt hDt hS => ?_)
          have hPt : va_P (dC, dI) vwCl ([(q178, .inl (cI, 9, .inl (upd (upd (upd (fun _ => 0) 0 (ct 0)) 1 (nI n)) 2 (ct 1))))]) H := hPt
          have hDt : va_D A ([(q178, .inl (cI, 9, .inl (upd (upd (upd (fun _ => 0) 0 (ct 0)) 1 (nI n)) 2 (ct 1))))]) := hDt
          have hPW := keepS hP0 hAn hS
          have hPB := P_l hPW
          have hP := P_r hPW
          refine lv_dup hx hb dX2_isSame_202 rfl ?_
          refine lv_iconst (v := 3) hx hb dX2_isSame_203 (by decide) ?_
          refine lv_aload_n hx hb dX2_isSame_204 rfl (lv_at hl 3 rfl) ?_
          refine va_get (D := (dC, dI)) (ci := 2) (v := .int (ct 2)) (C := RX2) (T := TX2) (N := 4) hx hb hts hinX2 hown hK hP 0 rfl rfl 2 (by decide) (hts (.fieldLink RX2 27 "WrestleBookLaw$Sim" "upsets" "I") (by decide +kernel)) (fun _ h9 => h9) rfl dX2_isSame_205 ?_
          refine rv_iast (k := 3) hx hb hK hPt hDt hS 0 0 rfl rfl (show 3 < 9 by omega) (by omega) dX2_isSame_208 (fun H locs hPt hDt hS => ?_)
          have hPt : va_P (dC, dI) vwCl ([(q178, .inl (cI, 9, .inl (upd (upd (upd (upd (fun _ => 0) 0 (ct 0)) 1 (nI n)) 2 (ct 1)) 3 (ct 2))))]) H := hPt
          have hDt : va_D A ([(q178, .inl (cI, 9, .inl (upd (upd (upd (upd (fun _ => 0) 0 (ct 0)) 1 (nI n)) 2 (ct 1)) 3 (ct 2))))]) := hDt
          have hPW := keepS hP0 hAn hS
          have hPB := P_l hPW
          have hP := P_r hPW
          refine lv_dup hx hb dX2_isSame_209 rfl ?_
          refine lv_iconst (v := 4) hx hb dX2_isSame_210 (by decide) ?_
          refine lv_iconst (v := 0) hx hb dX2_isSame_211 (by decide) ?_
          refine rv_iast (k := 4) hx hb hK hPt hDt hS 0 0 rfl rfl (show 4 < 9 by omega) (by omega) dX2_isSame_212 (fun H locs hPt hDt hS => ?_)
          have hPt : va_P (dC, dI) vwCl ([(q178, .inl (cI, 9, .inl (upd (upd (upd (upd (upd (fun _ => 0) 0 (ct 0)) 1 (nI n)) 2 (ct 1)) 3 (ct 2)) 4 0)))]) H := hPt
          have hDt : va_D A ([(q178, .inl (cI, 9, .inl (upd (upd (upd (upd (upd (fun _ => 0) 0 (ct 0)) 1 (nI n)) 2 (ct 1)) 3 (ct 2)) 4 0)))]) := hDt
          have hPW := keepS hP0 hAn hS
          have hPB := P_l hPW
          have hP := P_r hPW
          refine lv_dup hx hb dX2_isSame_213 rfl ?_
          refine lv_iconst (v := 5) hx hb dX2_isSame_214 (by decide) ?_
          refine lv_iconst (v := 0) hx hb dX2_isSame_215 (by decide) ?_
          refine rv_iast (k := 5) hx hb hK hPt hDt hS 0 0 rfl rfl (show 5 < 9 by omega) (by omega) dX2_isSame_216 (fun H locs hPt hDt hS => ?_)
          have hPt : va_P (dC, dI) vwCl ([(q178, .inl (cI, 9, .inl (upd (upd (upd (upd (upd (upd (fun _ => 0) 0 (ct 0)) 1 (nI n)) 2 (ct 1)) 3 (ct 2)) 4 0) 5 0)))]) H := hPt
          have hDt : va_D A ([(q178, .inl (cI, 9, .inl (upd (upd (upd (upd (upd (upd (fun _ => 0) 0 (ct 0)) 1 (nI n)) 2 (ct 1)) 3 (ct 2)) 4 0) 5 0)))]) := hDt
          have hPW := keepS hP0 hAn hS
          have hPB := P_l hPW
          have hP := P_r hPW
          refine lv_dup hx hb dX2_isSame_217 rfl ?_
          refine lv_bipush (v := 6) hx hb dX2_isSame_218 (by decide) ?_
          refine lv_iconst (v := 0) hx hb dX2_isSame_220 (by decide) ?_
          refine rv_iast (k := 6) hx hb hK hPt hDt hS 0 0 rfl rfl (show 6 < 9 by omega) (by omega) dX2_isSame_221 (fun H locs hPt hDt hS => ?_)
          have hPt : va_P (dC, dI) vwCl ([(q178, .inl (cI, 9, .inl (upd (upd (upd (upd (upd (upd (upd (fun _ => 0) 0 (ct 0)) 1 (nI n)) 2 (ct 1)) 3 (ct 2)) 4 0) 5 0) 6 0)))]) H := hPt
          have hDt : va_D A ([(q178, .inl (cI, 9, .inl (upd (upd (upd (upd (upd (upd (upd (fun _ => 0) 0 (ct 0)) 1 (nI n)) 2 (ct 1)) 3 (ct 2)) 4 0) 5 0) 6 0)))]) := hDt
          have hPW := keepS hP0 hAn hS
          have hPB := P_l hPW
          have hP := P_r hPW
          refine lv_dup hx hb dX2_isSame_222 rfl ?_
          refine lv_bipush (v := 7) hx hb dX2_isSame_223 (by decide) ?_
          refine lv_aload_n hx hb dX2_isSame_225 rfl (lv_at hl 3 rfl) ?_
          refine va_calli (va_runV (As := []) (rest := [.int 7, .ref q178, .ref q178]) ⟨hx, hb, hml, hown, hts⟩ (c_X2_highest l dC dI cI h al rw cA n F ct H.size hn) (cwV 0 hts gX2_isSame_X2_highest rfl rfl rfl (by decide +kernel) ⟨Nat.le_of_ble_eq_true rfl, Nat.le_of_ble_eq_true rfl⟩) ⟨PT.blind, va_recv hK hP (ci := 2) (q0 := 0) rfl rfl, fun U hU hW => ⟨rfl, PT.go hP hK hE hS hA hU hW⟩⟩ rfl rfl hl.1 rfl (lv_room (Nat.le_of_ble_eq_true rfl)) dX2_isSame_226 ⟨(by show _ ≤ 724; omega), (by show _ ≤ 6525; omega)⟩) hS (fun q h8 h9 => absurd h9 (Nat.not_le.mpr h8)) (fun q h9 => hA q (Nat.le_trans hS.1 h9)) (fun r u9 t9 H locs ht9 hvm9 hw9 hB9 hz9 hk9 hS => ?_)
          have hP := P_new hP hk9
          have hPB := P_new hPB hk9
          have hPt := P_new hPt hk9
          have hw9 : r = s_hi n F := hw9
          subst hw9
          refine rv_iast (k := 7) hx hb hK hPt hDt hS 0 0 rfl rfl (show 7 < 9 by omega) (by omega) dX2_isSame_229 (fun H locs hPt hDt hS => ?_)
          have hPt : va_P (dC, dI) vwCl ([(q178, .inl (cI, 9, .inl (upd (upd (upd (upd (upd (upd (upd (upd (fun _ => 0) 0 (ct 0)) 1 (nI n)) 2 (ct 1)) 3 (ct 2)) 4 0) 5 0) 6 0) 7 (s_hi n F))))]) H := hPt
          have hDt : va_D A ([(q178, .inl (cI, 9, .inl (upd (upd (upd (upd (upd (upd (upd (upd (fun _ => 0) 0 (ct 0)) 1 (nI n)) 2 (ct 1)) 3 (ct 2)) 4 0) 5 0) 6 0) 7 (s_hi n F))))]) := hDt
          have hPW := keepS hP0 hAn hS
          have hPB := P_l hPW
          have hP := P_r hPW
          refine lv_dup hx hb dX2_isSame_230 rfl ?_
          refine lv_bipush (v := 8) hx hb dX2_isSame_231 (by decide) ?_
          refine lv_iload_n hx hb dX2_isSame_233 rfl (lv_at hl 1 rfl) ?_
          refine rv_iast (k := 8) hx hb hK hPt hDt hS 0 0 rfl rfl (show 8 < 9 by omega) (by omega) dX2_isSame_234 (fun H locs hPt hDt hS => ?_)
          have hPt : va_P (dC, dI) vwCl ([(q178, .inl (cI, 9, .inl (upd (upd (upd (upd (upd (upd (upd (upd (upd (fun _ => 0) 0 (ct 0)) 1 (nI n)) 2 (ct 1)) 3 (ct 2)) 4 0) 5 0) 6 0) 7 (s_hi n F)) 8 x3)))]) H := hPt
          have hDt : va_D A ([(q178, .inl (cI, 9, .inl (upd (upd (upd (upd (upd (upd (upd (upd (upd (fun _ => 0) 0 (ct 0)) 1 (nI n)) 2 (ct 1)) 3 (ct 2)) 4 0) 5 0) 6 0) 7 (s_hi n F)) 8 x3)))]) := hDt
          have hPW := keepS hP0 hAn hS
          have hPB := P_l hPW
          have hP := P_r hPW
          refine lv_astore (lv' := [(4, .ref q178), (3, .int x3), (2, .int x2), (0, .ref h), (1, .ref mb)]) hx hb dX2_isSame_235 hl (by decide) rfl (fun ls hl => ?_)
          refine lv_iconst (v := 0) hx hb dX2_isSame_237 (by decide) ?_
          refine lv_istore (lv' := [(5, .int 0), (4, .ref q178), (3, .int x3), (2, .int x2), (0, .ref h), (1, .ref mb)]) hx hb dX2_isSame_238 hl (by decide) rfl (fun ls hl => ?_)
          have L_240 : ∀ (k5 i5 : Nat) (g5 : Nat → Int32), i5 + k5 = 3 → C9 n F ct i5 g5 → ∀ (H : Heap) (locs : List Loc), va_P (dC, dI) vwCl ([(q178, .inl (cI, 9, .inl (g5)))]) H → va_D A ([(q178, .inl (cI, 9, .inl (g5)))]) → va_S A s.heap H locs → ∀ (ls : Array Slot), lv_has ls 8 [(5, .int (nI i5)), (4, .ref q178), (3, .int x3), (2, .int x2), (0, .ref h), (1, .ref mb)] → W p l e (headSpec wsX2_isSame ({ frames := 6, cells := 724, slots := 6525, locals := 127 } : Room)).room s m ([.ref h, .ref mb] : List Value).toArray below meth c H locs (433 + 1 * i5) (3897 + 12 * i5) (MQ below (va_Qi (fun r (_ : Unit) => r = 1) (fun _ _ => True) A) ([.ref h, .ref mb] : List Value).toArray s 724 6525 A) (F0 m 240 ls []) := by
            intro k5
            induction k5 with
            | zero =>
              intro i5 g5 e_i5 hg5 H locs hPt hDt hS ls hl
              have hPW := keepS hP0 hAn hS
              have hPB := P_l hPW
              have hP := P_r hPW
              refine lv_iload hx hb dX2_isSame_240 (lv_at hl 0 rfl) ?_
              refine lv_iconst (v := 3) hx hb dX2_isSame_242 (by decide) ?_
              refine rv_icmp_ge (tgt := 325) hx hb (a := i5) (b := 3) (by omega) (by omega) dX2_isSame_243 (by decide) (fun c_243 => ?_) (fun c_243 => ?_)
              · have hg6 : C9 n F ct 3 g5 := by rw [show (3 : Nat) = i5 by omega]; exact hg5
                refine lv_iconst (v := 0) hx hb dX2_isSame_325 (by decide) ?_
                refine lv_istore (lv' := [(5, .int 0), (4, .ref q178), (3, .int x3), (2, .int x2), (0, .ref h), (1, .ref mb)]) hx hb dX2_isSame_326 hl (by decide) rfl (fun ls hl => ?_)
                have L_328 : ∀ (kk9 k9 : Nat), k9 + kk9 = 9 → ∀ (H : Heap) (locs : List Loc), va_P (dC, dI) vwCl ([(q178, .inl (cI, 9, .inl (g5)))]) H → va_D A ([(q178, .inl (cI, 9, .inl (g5)))]) → va_S A s.heap H locs → ∀ (ls : Array Slot), lv_has ls 8 [(5, .int (nI k9)), (4, .ref q178), (3, .int x3), (2, .int x2), (0, .ref h), (1, .ref mb)] → W p l e (headSpec wsX2_isSame ({ frames := 6, cells := 724, slots := 6525, locals := 127 } : Room)).room s m ([.ref h, .ref mb] : List Value).toArray below meth c H locs (436 + 0 * k9) (3933 + 0 * k9) (MQ below (va_Qi (fun r (_ : Unit) => r = 1) (fun _ _ => True) A) ([.ref h, .ref mb] : List Value).toArray s 724 6525 A) (F0 m 328 ls []) := by
                  intro kk9
                  induction kk9 with
                  | zero =>
                    intro k9 e_k9 H locs hPt hDt hS ls hl
                    have hPW := keepS hP0 hAn hS
                    have hPB := P_l hPW
                    have hP := P_r hPW
                    refine lv_iload hx hb dX2_isSame_328 (lv_at hl 0 rfl) ?_
                    refine lv_bipush (v := 9) hx hb dX2_isSame_330 (by decide) ?_
                    refine rv_icmp_ge (tgt := 357) hx hb (a := k9) (b := 9) (by omega) (by omega) dX2_isSame_332 (by decide) (fun c_332 => ?_) (fun c_332 => ?_)
                    · refine lv_aload_n hx hb dX2_isSame_357 rfl (lv_at hl 5 rfl) ?_
                      refine vp_callSi (W.runV (As := []) (rest := []) ⟨hx, hb, hml, hown, hts⟩ (c_X1_next l dC dI cI mb r1 d1 r2 d2 rc n F n2 G ct ch hn hR) (cwV 0 hts gX2_isSame_X1_next rfl rfl rfl (by decide +kernel) ⟨Nat.le_of_ble_eq_true rfl, Nat.le_of_ble_eq_true rfl⟩) ⟨PR.blind, va_recv (hK.sub (tys' := [(cI, .int)]) [0] rfl) hPB (ci := 1) (q0 := 0) rfl rfl, fun U hU hW => ⟨rfl, PR.go hPB (hK.sub (tys' := [(cI, .int)]) [0] rfl) hE hS hU hW⟩⟩ rfl rfl hl.1 rfl (lv_room (Nat.le_of_ble_eq_true rfl)) dX2_isSame_358 ⟨(by show _ ≤ 724; omega), (by show _ ≤ 6525; omega)⟩) (fun r hr0 => ?_)
                      subst hr0
                      refine lv_aload_n hx hb dX2_isSame_361 rfl (lv_at hl 4 rfl) ?_
                      refine va_calli (va_runV (As := []) (rest := [.int (s_next n F)]) ⟨hx, hb, hml, hown, hts⟩ (c_X2_next l dC dI cI h al rw cA n F ct H.size hn hR) (cwV 0 hts gX2_isSame_X2_next rfl rfl rfl (by decide +kernel) ⟨Nat.le_of_ble_eq_true rfl, Nat.le_of_ble_eq_true rfl⟩) ⟨PT.blind, va_recv hK hP (ci := 2) (q0 := 0) rfl rfl, fun U hU hW => ⟨rfl, PT.go hP hK hE hS hA hU hW⟩⟩ rfl rfl hl.1 rfl (lv_room (Nat.le_of_ble_eq_true rfl)) dX2_isSame_362 ⟨(by show _ ≤ 724; omega), (by show _ ≤ 6525; omega)⟩) hS (fun q h8 h9 => absurd h9 (Nat.not_le.mpr h8)) (fun q h9 => hA q (Nat.le_trans hS.1 h9)) (fun r u9 t9 H locs ht9 hvm9 hw9 hB9 hz9 hk9 hS => ?_)
                      have hP := P_new hP hk9
                      have hPB := P_new hPB hk9
                      have hPt := P_new hPt hk9
                      have hw9 : r = s_next n F := hw9
                      subst hw9
                      refine lv_icmp_ne (tgt := 401) hx hb dX2_isSame_365 (by decide) (fun c_365 => ?_) (fun c_365 => ?_)
                      · exact absurd rfl c_365
                      · refine lv_aload_n hx hb dX2_isSame_368 rfl (lv_at hl 5 rfl) ?_
                        refine vp_callSd (W.runV (As := []) (rest := []) ⟨hx, hb, hml, hown, hts⟩ (c_X1_meanK l dC dI cI mb r1 d1 r2 d2 rc n F n2 G ct ch hn hne) (cwV 0 hts gX2_isSame_X1_mean rfl rfl rfl (by decide +kernel) ⟨Nat.le_of_ble_eq_true rfl, Nat.le_of_ble_eq_true rfl⟩) ⟨PR.blind, va_recv (hK.sub (tys' := [(cI, .int)]) [0] rfl) hPB (ci := 1) (q0 := 0) rfl rfl, fun U hU hW => ⟨rfl, PR.go hPB (hK.sub (tys' := [(cI, .int)]) [0] rfl) hE hS hU hW⟩⟩ rfl rfl hl.1 rfl (lv_room (Nat.le_of_ble_eq_true rfl)) dX2_isSame_369 ⟨(by show _ ≤ 724; omega), (by show _ ≤ 6525; omega)⟩) (fun r hr0 => ?_)
                        subst hr0
                        refine lv_aload_n hx hb dX2_isSame_372 rfl (lv_at hl 4 rfl) ?_
                        refine va_get (D := (dC, dI)) (ci := 2) (v := .ref al) (C := RX2) (T := TX2) (N := 4) hx hb hts hinX2 hown hK hP 0 rfl rfl 3 (by decide) (hts (.fieldLink RX2 9 "WrestleBookLaw$Sim" "all" "[[I") (by decide +kernel)) (fun _ h9 => h9) rfl dX2_isSame_373 ?_
                        refine va_alen hx hb hK hP 1 1 rfl rfl (v := nI n) rfl dX2_isSame_376 ?_
                        refine lv_if_ne (tgt := 384) hx hb dX2_isSame_377 (by decide) (fun c_377 => ?_) (fun c_377 => ?_)
                        · have hn1 : ¬ n = 0 := fun q => c_377 (by rw [q]; rfl)
                          refine lv_iload_n hx hb dX2_isSame_384 rfl (lv_at hl 3 rfl) ?_
                          refine lv_i2d hx hb dX2_isSame_385 ?_
                          refine lv_aload_n hx hb dX2_isSame_386 rfl (lv_at hl 4 rfl) ?_
                          refine va_get (D := (dC, dI)) (ci := 2) (v := .ref al) (C := RX2) (T := TX2) (N := 4) hx hb hts hinX2 hown hK hP 0 rfl rfl 3 (by decide) (hts (.fieldLink RX2 9 "WrestleBookLaw$Sim" "all" "[[I") (by decide +kernel)) (fun _ h9 => h9) rfl dX2_isSame_387 ?_
                          refine va_alen hx hb hK hP 1 1 rfl rfl (v := nI n) rfl dX2_isSame_390 ?_
                          refine lv_i2d hx hb dX2_isSame_391 ?_
                          refine lv_ddiv hx hb dX2_isSame_392 (by rw [hx2, show w = n by omega]; exact hne hn1) ?_
                          refine lv_dcmp hx hb dX2_isSame_393 ?_
                          refine lv_if_ne (tgt := 401) hx hb dX2_isSame_394 (by decide) (fun c_394 => ?_) (fun c_394 => ?_)
                          · exact absurd (show Op.cmpValue (FP.dcmp (s_mean n F) (FP.ddiv (FP.i2d x2) (FP.i2d (nI n)))) .l = 0 from by rw [show FP.ddiv (FP.i2d x2) (FP.i2d (nI n)) = s_mean n F from by unfold s_mean; rw [if_neg hn1, hx2, show w = n by omega]; rfl]; exact cmp_self hnn) c_394
                          · refine lv_iconst (v := 1) hx hb dX2_isSame_397 (by decide) ?_
                            refine lv_goto (tgt := 402) hx hb dX2_isSame_398 (by decide) ?_
                            refine W.widen (k := 724) (n := 6525) (by omega) (by omega) ?_
                            exact W.zret (v := 1) hx hb hr (by decide) (fun t ht hW => ⟨⟨_, (), rfl, (show 1 = 1 from by rfl), trivial⟩, hS.F ht⟩) hS.2.2 dX2_isSame_402
                        · have hn1 : n = 0 := (nI_eq (b := 0) (by omega) (by decide)).mp c_377
                          refine lv_dconst0 hx hb dX2_isSame_380 ?_
                          refine lv_goto (tgt := 393) hx hb dX2_isSame_381 (by decide) ?_
                          refine lv_dcmp hx hb dX2_isSame_393 ?_
                          refine lv_if_ne (tgt := 401) hx hb dX2_isSame_394 (by decide) (fun c_394 => ?_) (fun c_394 => ?_)
                          · exact absurd (show Op.cmpValue (FP.dcmp (s_mean n F) FP.dconst0) .l = 0 from by rw [show FP.dconst0 = s_mean n F from by unfold s_mean; rw [if_pos hn1]]; exact cmp_self hnn) c_394
                          · refine lv_iconst (v := 1) hx hb dX2_isSame_397 (by decide) ?_
                            refine lv_goto (tgt := 402) hx hb dX2_isSame_398 (by decide) ?_
                            refine W.widen (k := 724) (n := 6525) (by omega) (by omega) ?_
                            exact W.zret (v := 1) hx hb hr (by decide) (fun t ht hW => ⟨⟨_, (), rfl, (show 1 = 1 from by rfl), trivial⟩, hS.F ht⟩) hS.2.2 dX2_isSame_402
                    · exact absurd c_332 (by omega)
                  | succ kk9 ih_328 =>
                    intro k9 e_k9 H locs hPt hDt hS ls hl
                    have hPW := keepS hP0 hAn hS
                    have hPB := P_l hPW
                    have hP := P_r hPW
                    refine lv_iload hx hb dX2_isSame_328 (lv_at hl 0 rfl) ?_
                    refine lv_bipush (v := 9) hx hb dX2_isSame_330 (by decide) ?_
                    refine rv_icmp_ge (tgt := 357) hx hb (a := k9) (b := 9) (by omega) (by omega) dX2_isSame_332 (by decide) (fun c_332 => ?_) (fun c_332 => ?_)
                    · exact absurd c_332 (by omega)
                    · refine lv_aload_n hx hb dX2_isSame_335 rfl (lv_at hl 5 rfl) ?_
                      refine lv_iload hx hb dX2_isSame_336 (lv_at hl 0 rfl) ?_
                      refine vp_callSi (W.runV (As := [.int (nI k9)]) (rest := []) ⟨hx, hb, hml, hown, hts⟩ (c_X1_countK l dC dI cI mb r1 d1 r2 d2 rc n F n2 G ct ch k9 (show k9 < 9 by omega) hn) (cwV 1 hts gX2_isSame_X1_count rfl rfl rfl (by decide +kernel) ⟨Nat.le_of_ble_eq_true rfl, Nat.le_of_ble_eq_true rfl⟩) ⟨PR.blind, va_recv (hK.sub (tys' := [(cI, .int)]) [0] rfl) hPB (ci := 1) (q0 := 0) rfl rfl, fun U hU hW => ⟨rfl, PR.go hPB (hK.sub (tys' := [(cI, .int)]) [0] rfl) hE hS hU hW⟩⟩ rfl rfl hl.1 rfl (lv_room (Nat.le_of_ble_eq_true rfl)) dX2_isSame_338 ⟨(by show _ ≤ 724; omega), (by show _ ≤ 6525; omega)⟩) (fun r hr0 => ?_)
                      subst hr0
                      refine lv_aload hx hb dX2_isSame_341 (lv_at hl 1 rfl) ?_
                      refine lv_iload hx hb dX2_isSame_343 (lv_at hl 0 rfl) ?_
                      refine rv_iald (k := k9) hx hb hK hPt 0 0 rfl rfl (show k9 < 9 by omega) (by omega) dX2_isSame_345 ?_
                      refine lv_icmp_eq (tgt := 351) hx hb dX2_isSame_346 (by decide) (fun c_346 => ?_) (fun c_346 => ?_)
                      · refine lv_iinc (v := nI (k9 + 1)) (lv' := [(5, .int (nI (k9 + 1))), (4, .ref q178), (3, .int x3), (2, .int x2), (0, .ref h), (1, .ref mb)]) hx hb dX2_isSame_351 hl (k := 0) rfl (nI_add k9 1) (by decide) rfl (fun ls hl => ?_)
                        refine lv_goto (tgt := 328) hx hb dX2_isSame_354 (by decide) ?_
                        refine W.widen (k := 436 + 0 * (k9 + 1)) (n := 3933 + 0 * (k9 + 1)) (by omega) (by omega) ?_
                        exact ih_328 (k9 + 1) (by omega) _ _ hPt hDt hS ls (lv_sub hl [0, 1, 2, 3, 4, 5] rfl)
                      · exact absurd (hg6 k9 (by omega) (by omega)).symm c_346
                refine W.widen (k := 436 + 0 * 0) (n := 3933 + 0 * 0) (by omega) (by omega) ?_
                exact L_328 9 0 (by omega) _ _ hPt hDt hS ls (lv_sub hl [0, 1, 2, 3, 4, 5] rfl)
              · exact absurd c_243 (by omega)
            | succ k5 ih_240 =>
              intro i5 g5 e_i5 hg5 H locs hPt hDt hS ls hl
              have hPW := keepS hP0 hAn hS
              have hPB := P_l hPW
              have hP := P_r hPW
              refine lv_iload hx hb dX2_isSame_240 (lv_at hl 0 rfl) ?_
              refine lv_iconst (v := 3) hx hb dX2_isSame_242 (by decide) ?_
              refine rv_icmp_ge (tgt := 325) hx hb (a := i5) (b := 3) (by omega) (by omega) dX2_isSame_243 (by decide) (fun c_243 => ?_) (fun c_243 => ?_)
              · exact absurd c_243 (by omega)
              · refine lv_aload_n hx hb dX2_isSame_246 rfl (lv_at hl 4 rfl) ?_
                refine lv_iload hx hb dX2_isSame_247 (lv_at hl 0 rfl) ?_
                have hsz9 := hS.1
                refine va_callr (va_runV (As := [.int (nI i5)]) (rest := []) ⟨hx, hb, hml, hown, hts⟩ (c_X2_order l dC dI cI h al rw cA n F ct H.size (nI i5) hn) (cwV 1 hts gX2_isSame_X2_order rfl rfl rfl (by decide +kernel) ⟨Nat.le_of_ble_eq_true rfl, Nat.le_of_ble_eq_true rfl⟩) ⟨PT.blind, va_recv hK hP (ci := 2) (q0 := 0) rfl rfl, fun U hU hW => ⟨rfl, PT.go hP hK hE hS hA hU hW⟩⟩ rfl rfl hl.1 rfl (lv_room (Nat.le_of_ble_eq_true rfl)) dX2_isSame_249 ⟨(by show _ ≤ 724; omega), (by show _ ≤ 6525; omega)⟩) hS (fun q h8 h9 => absurd h9 (Nat.not_le.mpr h8)) (fun q h9 => hA q (Nat.le_trans hS.1 h9)) (fun f249 q249 t9 H locs ht9 hvm9 hw9 hB9 hz9 hk9 hS => ?_)
                obtain ⟨hq9, hPq⟩ := hB9
                have hDt := D_add (e := .inl (cI, (s_many n F (nI i5)), .inl f249)) hDt hPt hq9 (hA _ (Nat.le_trans hsz9 hq9))
                have hP := P_new hP hk9
                have hPB := P_new hPB hk9
                have hPt := P_new hPt hk9
                have ho249 : ORD n F (nI i5) f249 := hw9
                rw [ht9] at hPq
                have hPt : va_P (dC, dI) vwCl ([(q178, .inl (cI, 9, .inl (g5))), (q249, .inl (cI, (s_many n F (nI i5)), .inl (f249)))]) H := va_P.app hPt hPq
                have hDt : va_D A ([(q178, .inl (cI, 9, .inl (g5))), (q249, .inl (cI, (s_many n F (nI i5)), .inl (f249)))]) := hDt
                have hq249 : s_many n F (nI i5) ≤ n := many_le F _ n
                refine lv_astore (lv' := [(6, .ref q249), (5, .int (nI i5)), (4, .ref q178), (3, .int x3), (2, .int x2), (0, .ref h), (1, .ref mb)]) hx hb dX2_isSame_252 hl (by decide) rfl (fun ls hl => ?_)
                refine lv_aload hx hb dX2_isSame_254 (lv_at hl 2 rfl) ?_
                refine lv_iconst (v := 4) hx hb dX2_isSame_256 (by decide) ?_
                refine lv_iload hx hb dX2_isSame_257 (lv_at hl 1 rfl) ?_
                refine lv_iadd hx hb dX2_isSame_259 ?_
                refine rv_top (y := nI (4 + i5)) (nI_add 4 i5) ?_
                refine lv_aload hx hb dX2_isSame_260 (lv_at hl 0 rfl) ?_
                refine va_alen hx hb hK hPt 1 0 rfl rfl (v := nI (s_many n F (nI i5))) rfl dX2_isSame_262 ?_
                refine rv_iast (k := (4 + i5)) hx hb hK hPt hDt hS 0 0 rfl rfl (show 4 + i5 < 9 by omega) (by omega) dX2_isSame_263 (fun H locs hPt hDt hS => ?_)
                have hPt : va_P (dC, dI) vwCl ([(q178, .inl (cI, 9, .inl (upd g5 (4 + i5) (nI (s_many n F (nI i5)))))), (q249, .inl (cI, (s_many n F (nI i5)), .inl (f249)))]) H := hPt
                have hDt : va_D A ([(q178, .inl (cI, 9, .inl (upd g5 (4 + i5) (nI (s_many n F (nI i5)))))), (q249, .inl (cI, (s_many n F (nI i5)), .inl (f249)))]) := hDt
                have hPW := keepS hP0 hAn hS
                have hPB := P_l hPW
                have hP := P_r hPW
                refine lv_iconst (v := 0) hx hb dX2_isSame_264 (by decide) ?_
                refine lv_istore (lv' := [(7, .int 0), (6, .ref q249), (5, .int (nI i5)), (4, .ref q178), (3, .int x3), (2, .int x2), (0, .ref h), (1, .ref mb)]) hx hb dX2_isSame_265 hl (by decide) rfl (fun ls hl => ?_)
                have L_267 : ∀ (kk7 k7 : Nat), k7 + kk7 = (s_many n F (nI i5)) → ∀ (H : Heap) (locs : List Loc), va_P (dC, dI) vwCl ([(q178, .inl (cI, 9, .inl (upd g5 (4 + i5) (nI (s_many n F (nI i5)))))), (q249, .inl (cI, (s_many n F (nI i5)), .inl (f249)))]) H → va_D A ([(q178, .inl (cI, 9, .inl (upd g5 (4 + i5) (nI (s_many n F (nI i5)))))), (q249, .inl (cI, (s_many n F (nI i5)), .inl (f249)))]) → va_S A s.heap H locs → ∀ (ls : Array Slot), lv_has ls 8 [(7, .int (nI k7)), (6, .ref q249), (5, .int (nI i5)), (4, .ref q178), (3, .int x3), (2, .int x2), (0, .ref h), (1, .ref mb)] → W p l e (headSpec wsX2_isSame ({ frames := 6, cells := 724, slots := 6525, locals := 127 } : Room)).room s m ([.ref h, .ref mb] : List Value).toArray below meth c H locs (433 + 1 * i5 + 1 + 0 * k7) (3897 + 12 * i5 + 12 + 0 * k7) (MQ below (va_Qi (fun r (_ : Unit) => r = 1) (fun _ _ => True) A) ([.ref h, .ref mb] : List Value).toArray s 724 6525 A) (F0 m 267 ls []) := by
                  intro kk7
                  induction kk7 with
                  | zero =>
                    intro k7 e_k7 H locs hPt hDt hS ls hl
                    have hPW := keepS hP0 hAn hS
                    have hPB := P_l hPW
                    have hP := P_r hPW
                    refine lv_iload hx hb dX2_isSame_267 (lv_at hl 0 rfl) ?_
                    refine lv_aload hx hb dX2_isSame_269 (lv_at hl 1 rfl) ?_
                    refine va_alen hx hb hK hPt 1 0 rfl rfl (v := nI (s_many n F (nI i5))) rfl dX2_isSame_271 ?_
                    refine rv_icmp_ge (tgt := 319) hx hb (a := k7) (b := (s_many n F (nI i5))) (by omega) (by omega) dX2_isSame_272 (by decide) (fun c_272 => ?_) (fun c_272 => ?_)
                    · refine lv_iinc (v := nI (i5 + 1)) (lv' := [(5, .int (nI (i5 + 1))), (7, .int (nI k7)), (6, .ref q249), (4, .ref q178), (3, .int x3), (2, .int x2), (0, .ref h), (1, .ref mb)]) hx hb dX2_isSame_319 hl (k := 2) rfl (nI_add i5 1) (by decide) rfl (fun ls hl => ?_)
                      refine lv_goto (tgt := 240) hx hb dX2_isSame_322 (by decide) ?_
                      refine W.widen (k := 433 + 1 * (i5 + 1)) (n := 3897 + 12 * (i5 + 1)) (by omega) (by omega) ?_
                      have hPt := hPt.sub (ws' := [(q178, .inl (cI, 9, .inl (upd g5 (4 + i5) (nI (s_many n F (nI i5))))))]) [0] rfl
                      have hDt := hDt.sub (ws' := [(q178, .inl (cI, 9, .inl (upd g5 (4 + i5) (nI (s_many n F (nI i5))))))]) [0] (by decide) rfl
                      exact ih_240 (i5 + 1) (upd g5 (4 + i5) (nI (s_many n F (nI i5)))) (by omega) (C9_s hg5 (by omega)) _ _ hPt hDt hS ls (lv_sub hl [0, 3, 4, 5, 6, 7] rfl)
                    · exact absurd c_272 (by omega)
                  | succ kk7 ih_267 =>
                    intro k7 e_k7 H locs hPt hDt hS ls hl
                    have hPW := keepS hP0 hAn hS
                    have hPB := P_l hPW
                    have hP := P_r hPW
                    refine lv_iload hx hb dX2_isSame_267 (lv_at hl 0 rfl) ?_
                    refine lv_aload hx hb dX2_isSame_269 (lv_at hl 1 rfl) ?_
                    refine va_alen hx hb hK hPt 1 0 rfl rfl (v := nI (s_many n F (nI i5))) rfl dX2_isSame_271 ?_
                    refine rv_icmp_ge (tgt := 319) hx hb (a := k7) (b := (s_many n F (nI i5))) (by omega) (by omega) dX2_isSame_272 (by decide) (fun c_272 => ?_) (fun c_272 => ?_)
                    · exact absurd c_272 (by omega)
                    · obtain ⟨w7, i_w7, f_7, g_7, p_7, t_7⟩ := ho249 k7 (by omega)
                      refine lv_aload_n hx hb dX2_isSame_275 rfl (lv_at hl 7 rfl) ?_
                      refine lv_iload hx hb dX2_isSame_276 (lv_at hl 2 rfl) ?_
                      refine lv_iload hx hb dX2_isSame_278 (lv_at hl 0 rfl) ?_
                      refine lv_iconst (v := 1) hx hb dX2_isSame_280 (by decide) ?_
                      refine lv_iadd hx hb dX2_isSame_281 ?_
                      refine rv_top (y := nI (k7 + 1)) (nI_1 k7) ?_
                      refine vp_callSi (W.runV (As := [.int (nI i5), .int (nI (k7 + 1))]) (rest := []) ⟨hx, hb, hml, hown, hts⟩ (c_X1_atK l dC dI cI mb r1 d1 r2 d2 rc n F n2 G ct ch (nI i5) (nI (k7 + 1)) w7 t_7 (lg_in (show i5 < 3 by omega)) hn) (cwV 2 hts gX2_isSame_X1_at rfl rfl rfl (by decide +kernel) ⟨Nat.le_of_ble_eq_true rfl, Nat.le_of_ble_eq_true rfl⟩) ⟨PR.blind, va_recv (hK.sub (tys' := [(cI, .int)]) [0] rfl) hPB (ci := 1) (q0 := 0) rfl rfl, fun U hU hW => ⟨rfl, PR.go hPB (hK.sub (tys' := [(cI, .int)]) [0] rfl) hE hS hU hW⟩⟩ rfl rfl hl.1 rfl (lv_room (Nat.le_of_ble_eq_true rfl)) dX2_isSame_282 ⟨(by show _ ≤ 724; omega), (by show _ ≤ 6525; omega)⟩) (fun r hr0 => ?_)
                      subst hr0
                      refine lv_aload hx hb dX2_isSame_285 (lv_at hl 1 rfl) ?_
                      refine lv_iload hx hb dX2_isSame_287 (lv_at hl 0 rfl) ?_
                      refine rv_iald (k := k7) hx hb hK hPt 1 0 rfl rfl (show k7 < (s_many n F (nI i5)) by omega) (by omega) dX2_isSame_289 ?_
                      refine rv_top (y := nI w7) f_7 ?_
                      refine lv_icmp_ne (tgt := 311) hx hb dX2_isSame_290 (by decide) (fun c_290 => ?_) (fun c_290 => ?_)
                      · exact absurd rfl c_290
                      · refine lv_aload_n hx hb dX2_isSame_293 rfl (lv_at hl 7 rfl) ?_
                        refine lv_aload hx hb dX2_isSame_294 (lv_at hl 1 rfl) ?_
                        refine lv_iload hx hb dX2_isSame_296 (lv_at hl 0 rfl) ?_
                        refine rv_iald (k := k7) hx hb hK hPt 1 0 rfl rfl (show k7 < (s_many n F (nI i5)) by omega) (by omega) dX2_isSame_298 ?_
                        refine rv_top (y := nI w7) f_7 ?_
                        refine lv_bipush (v := 7) hx hb dX2_isSame_299 (by decide) ?_
                        refine vp_callSi (W.runV (As := [.int (nI w7), .int 7]) (rest := []) ⟨hx, hb, hml, hown, hts⟩ (c_X1_toldK l dC dI cI mb r1 d1 r2 d2 rc n F n2 G ct ch w7 (show w7 < n by omega) 7 (show 7 < 9 by omega) hn) (cwV 2 hts gX2_isSame_X1_told rfl rfl rfl (by decide +kernel) ⟨Nat.le_of_ble_eq_true rfl, Nat.le_of_ble_eq_true rfl⟩) ⟨PR.blind, va_recv (hK.sub (tys' := [(cI, .int)]) [0] rfl) hPB (ci := 1) (q0 := 0) rfl rfl, fun U hU hW => ⟨rfl, PR.go hPB (hK.sub (tys' := [(cI, .int)]) [0] rfl) hE hS hU hW⟩⟩ rfl rfl hl.1 rfl (lv_room (Nat.le_of_ble_eq_true rfl)) dX2_isSame_301 ⟨(by show _ ≤ 724; omega), (by show _ ≤ 6525; omega)⟩) (fun r hr0 => ?_)
                        subst hr0
                        refine lv_iload hx hb dX2_isSame_304 (lv_at hl 0 rfl) ?_
                        refine lv_iconst (v := 1) hx hb dX2_isSame_306 (by decide) ?_
                        refine lv_iadd hx hb dX2_isSame_307 ?_
                        refine rv_top (y := nI (k7 + 1)) (nI_1 k7) ?_
                        refine lv_icmp_eq (tgt := 313) hx hb dX2_isSame_308 (by decide) (fun c_308 => ?_) (fun c_308 => ?_)
                        · refine lv_iinc (v := nI (k7 + 1)) (lv' := [(7, .int (nI (k7 + 1))), (6, .ref q249), (5, .int (nI i5)), (4, .ref q178), (3, .int x3), (2, .int x2), (0, .ref h), (1, .ref mb)]) hx hb dX2_isSame_313 hl (k := 0) rfl (nI_add k7 1) (by decide) rfl (fun ls hl => ?_)
                          refine lv_goto (tgt := 267) hx hb dX2_isSame_316 (by decide) ?_
                          refine W.widen (k := 433 + 1 * i5 + 1 + 0 * (k7 + 1)) (n := 3897 + 12 * i5 + 12 + 0 * (k7 + 1)) (by omega) (by omega) ?_
                          exact ih_267 (k7 + 1) (by omega) _ _ hPt hDt hS ls (lv_sub hl [0, 1, 2, 3, 4, 5, 6, 7] rfl)
                        · exact absurd (show s_told n F w7 (nI 7) = nI (k7 + 1) from by rw [← p_7]; rfl) c_308
                refine W.widen (k := 433 + 1 * i5 + 1 + 0 * 0) (n := 3897 + 12 * i5 + 12 + 0 * 0) (by omega) (by omega) ?_
                exact L_267 (s_many n F (nI i5)) 0 (by omega) _ _ hPt hDt hS ls (lv_sub hl [0, 1, 2, 3, 4, 5, 6, 7] rfl)
          refine W.widen (k := 433 + 1 * 0) (n := 3897 + 12 * 0) (by omega) (by omega) ?_
          exact L_240 3 0 (upd (upd (upd (upd (upd (upd (upd (upd (upd (fun _ => 0) 0 (ct 0)) 1 (nI n)) 2 (ct 1)) 3 (ct 2)) 4 0) 5 0) 6 0) 7 (s_hi n F)) 8 x3) (by omega) (C9_0 (by rw [hx3, show w = n by omega]; exact lo_99 hR)) _ _ hPt hDt hS ls (lv_sub hl [0, 1, 2, 3, 4, 5] rfl)
        · exact absurd c_28 (by omega)
      | succ kw ih_21 =>
        intro w x2 x3 e_w hx2 hx3 H locs hS ls hl
        have hPW := keepS hP0 hAn hS
        have hPB := P_l hPW
        have hP := P_r hPW
        refine lv_iload hx hb dX2_isSame_21 (lv_at hl 0 rfl) ?_
        refine lv_aload_n hx hb dX2_isSame_23 rfl (lv_at hl 3 rfl) ?_
        refine va_get (D := (dC, dI)) (ci := 2) (v := .ref al) (C := RX2) (T := TX2) (N := 4) hx hb hts hinX2 hown hK hP 0 rfl rfl 3 (by decide) (hts (.fieldLink RX2 9 "WrestleBookLaw$Sim" "all" "[[I") (by decide +kernel)) (fun _ h9 => h9) rfl dX2_isSame_24 ?_
        refine va_alen hx hb hK hP 1 1 rfl rfl (v := nI n) rfl dX2_isSame_27 ?_
        refine rv_icmp_ge (tgt := 176) hx hb (a := w) (b := n) (by omega) (by omega) dX2_isSame_28 (by decide) (fun c_28 => ?_) (fun c_28 => ?_)
        · exact absurd c_28 (by omega)
        · refine lv_iconst (v := 0) hx hb dX2_isSame_31 (by decide) ?_
          refine lv_istore (lv' := [(5, .int 0), (4, .int (nI w)), (3, .int x3), (2, .int x2), (0, .ref h), (1, .ref mb)]) hx hb dX2_isSame_32 hl (by decide) rfl (fun ls hl => ?_)
          have L_34 : ∀ (kk1 k1 : Nat), k1 + kk1 = 7 → ∀ (H : Heap) (locs : List Loc), va_S A s.heap H locs → ∀ (ls : Array Slot), lv_has ls 8 [(5, .int (nI k1)), (4, .int (nI w)), (3, .int x3), (2, .int x2), (0, .ref h), (1, .ref mb)] → W p l e (headSpec wsX2_isSame ({ frames := 6, cells := 724, slots := 6525, locals := 127 } : Room)).room s m ([.ref h, .ref mb] : List Value).toArray below meth c H locs (0 + 36 * w + 0 * k1) (0 + 324 * w + 0 * k1) (MQ below (va_Qi (fun r (_ : Unit) => r = 1) (fun _ _ => True) A) ([.ref h, .ref mb] : List Value).toArray s 724 6525 A) (F0 m 34 ls []) := by
            intro kk1
            induction kk1 with
            | zero =>
              intro k1 e_k1 H locs hS ls hl
              have hPW := keepS hP0 hAn hS
              have hPB := P_l hPW
              have hP := P_r hPW
              refine lv_iload hx hb dX2_isSame_34 (lv_at hl 0 rfl) ?_
              refine lv_bipush (v := 7) hx hb dX2_isSame_36 (by decide) ?_
              refine rv_icmp_ge (tgt := 70) hx hb (a := k1) (b := 7) (by omega) (by omega) dX2_isSame_38 (by decide) (fun c_38 => ?_) (fun c_38 => ?_)
              · refine lv_aload_n hx hb dX2_isSame_70 rfl (lv_at hl 5 rfl) ?_
                refine lv_iload hx hb dX2_isSame_71 (lv_at hl 1 rfl) ?_
                refine lv_bipush (v := 8) hx hb dX2_isSame_73 (by decide) ?_
                refine vp_callSi (W.runV (As := [.int (nI w), .int 8]) (rest := []) ⟨hx, hb, hml, hown, hts⟩ (c_X1_toldK l dC dI cI mb r1 d1 r2 d2 rc n F n2 G ct ch w (show w < n by omega) 8 (show 8 < 9 by omega) hn) (cwV 2 hts gX2_isSame_X1_told rfl rfl rfl (by decide +kernel) ⟨Nat.le_of_ble_eq_true rfl, Nat.le_of_ble_eq_true rfl⟩) ⟨PR.blind, va_recv (hK.sub (tys' := [(cI, .int)]) [0] rfl) hPB (ci := 1) (q0 := 0) rfl rfl, fun U hU hW => ⟨rfl, PR.go hPB (hK.sub (tys' := [(cI, .int)]) [0] rfl) hE hS hU hW⟩⟩ rfl rfl hl.1 rfl (lv_room (Nat.le_of_ble_eq_true rfl)) dX2_isSame_75 ⟨(by show _ ≤ 724; omega), (by show _ ≤ 6525; omega)⟩) (fun r hr0 => ?_)
                subst hr0
                refine lv_aload_n hx hb dX2_isSame_78 rfl (lv_at hl 4 rfl) ?_
                refine lv_iload hx hb dX2_isSame_79 (lv_at hl 1 rfl) ?_
                refine va_calli (va_runV (As := [.int (nI w)]) (rest := [.int (s_told n F w (nI 8))]) ⟨hx, hb, hml, hown, hts⟩ (c_X2_weight l dC dI cI h al rw cA n F ct H.size w (show w < n by omega) hn) (cwV 1 hts gX2_isSame_X2_weight rfl rfl rfl (by decide +kernel) ⟨Nat.le_of_ble_eq_true rfl, Nat.le_of_ble_eq_true rfl⟩) ⟨PT.blind, va_recv hK hP (ci := 2) (q0 := 0) rfl rfl, fun U hU hW => ⟨rfl, PT.go hP hK hE hS hA hU hW⟩⟩ rfl rfl hl.1 rfl (lv_room (Nat.le_of_ble_eq_true rfl)) dX2_isSame_81 ⟨(by show _ ≤ 724; omega), (by show _ ≤ 6525; omega)⟩) hS (fun q h8 h9 => absurd h9 (Nat.not_le.mpr h8)) (fun q h9 => hA q (Nat.le_trans hS.1 h9)) (fun r u9 t9 H locs ht9 hvm9 hw9 hB9 hz9 hk9 hS => ?_)
                have hP := P_new hP hk9
                have hPB := P_new hPB hk9
                have hw9 : r = s_wt F w := hw9
                subst hw9
                refine lv_icmp_ne (tgt := 102) hx hb dX2_isSame_84 (by decide) (fun c_84 => ?_) (fun c_84 => ?_)
                · exact absurd rfl c_84
                · refine lv_aload_n hx hb dX2_isSame_87 rfl (lv_at hl 5 rfl) ?_
                  refine lv_iload hx hb dX2_isSame_88 (lv_at hl 1 rfl) ?_
                  refine vp_callSi (W.runV (As := [.int (nI w)]) (rest := []) ⟨hx, hb, hml, hown, hts⟩ (c_X1_matchK l dC dI cI mb r1 d1 r2 d2 rc n F n2 G ct ch w (show w < n by omega) hn hR) (cwV 1 hts gX2_isSame_X1_match rfl rfl rfl (by decide +kernel) ⟨Nat.le_of_ble_eq_true rfl, Nat.le_of_ble_eq_true rfl⟩) ⟨PR.blind, va_recv (hK.sub (tys' := [(cI, .int)]) [0] rfl) hPB (ci := 1) (q0 := 0) rfl rfl, fun U hU hW => ⟨rfl, PR.go hPB (hK.sub (tys' := [(cI, .int)]) [0] rfl) hE hS hU hW⟩⟩ rfl rfl hl.1 rfl (lv_room (Nat.le_of_ble_eq_true rfl)) dX2_isSame_90 ⟨(by show _ ≤ 724; omega), (by show _ ≤ 6525; omega)⟩) (fun r hr0 => ?_)
                  subst hr0
                  refine lv_aload_n hx hb dX2_isSame_93 rfl (lv_at hl 4 rfl) ?_
                  refine lv_iload hx hb dX2_isSame_94 (lv_at hl 1 rfl) ?_
                  refine va_calli (va_runV (As := [.int (nI w)]) (rest := [.int (oI (s_match n F w))]) ⟨hx, hb, hml, hown, hts⟩ (c_X2_match l dC dI cI h al rw cA n F ct H.size w (show w < n by omega) hn hR) (cwV 1 hts gX2_isSame_X2_match rfl rfl rfl (by decide +kernel) ⟨Nat.le_of_ble_eq_true rfl, Nat.le_of_ble_eq_true rfl⟩) ⟨PT.blind, va_recv hK hP (ci := 2) (q0 := 0) rfl rfl, fun U hU hW => ⟨rfl, PT.go hP hK hE hS hA hU hW⟩⟩ rfl rfl hl.1 rfl (lv_room (Nat.le_of_ble_eq_true rfl)) dX2_isSame_96 ⟨(by show _ ≤ 724; omega), (by show _ ≤ 6525; omega)⟩) hS (fun q h8 h9 => absurd h9 (Nat.not_le.mpr h8)) (fun q h9 => hA q (Nat.le_trans hS.1 h9)) (fun r u9 t9 H locs ht9 hvm9 hw9 hB9 hz9 hk9 hS => ?_)
                  have hP := P_new hP hk9
                  have hPB := P_new hPB hk9
                  have hw9 : r = oI (s_match n F w) := hw9
                  subst hw9
                  refine lv_icmp_eq (tgt := 104) hx hb dX2_isSame_99 (by decide) (fun c_99 => ?_) (fun c_99 => ?_)
                  · refine lv_iconst (v := 0) hx hb dX2_isSame_104 (by decide) ?_
                    refine lv_istore (lv' := [(5, .int 0), (4, .int (nI w)), (3, .int x3), (2, .int x2), (0, .ref h), (1, .ref mb)]) hx hb dX2_isSame_105 hl (by decide) rfl (fun ls hl => ?_)
                    have L_107 : ∀ (ko o : Nat), o + ko = n → ∀ (H : Heap) (locs : List Loc), va_S A s.heap H locs → ∀ (ls : Array Slot), lv_has ls 8 [(5, .int (nI o)), (4, .int (nI w)), (3, .int x3), (2, .int x2), (0, .ref h), (1, .ref mb)] → W p l e (headSpec wsX2_isSame ({ frames := 6, cells := 724, slots := 6525, locals := 127 } : Room)).room s m ([.ref h, .ref mb] : List Value).toArray below meth c H locs (0 + 36 * w + 24 + 1 * o) (0 + 324 * w + 216 + 9 * o) (MQ below (va_Qi (fun r (_ : Unit) => r = 1) (fun _ _ => True) A) ([.ref h, .ref mb] : List Value).toArray s 724 6525 A) (F0 m 107 ls []) := by
                      intro ko
                      induction ko with
                      | zero =>
                        intro o e_o H locs hS ls hl
                        have hPW := keepS hP0 hAn hS
                        have hPB := P_l hPW
                        have hP := P_r hPW
                        refine lv_iload hx hb dX2_isSame_107 (lv_at hl 0 rfl) ?_
                        refine lv_aload_n hx hb dX2_isSame_109 rfl (lv_at hl 4 rfl) ?_
                        refine va_get (D := (dC, dI)) (ci := 2) (v := .ref al) (C := RX2) (T := TX2) (N := 4) hx hb hts hinX2 hown hK hP 0 rfl rfl 3 (by decide) (hts (.fieldLink RX2 9 "WrestleBookLaw$Sim" "all" "[[I") (by decide +kernel)) (fun _ h9 => h9) rfl dX2_isSame_110 ?_
                        refine va_alen hx hb hK hP 1 1 rfl rfl (v := nI n) rfl dX2_isSame_113 ?_
                        refine rv_icmp_ge (tgt := 144) hx hb (a := o) (b := n) (by omega) (by omega) dX2_isSame_114 (by decide) (fun c_114 => ?_) (fun c_114 => ?_)
                        · refine lv_iload_n hx hb dX2_isSame_144 rfl (lv_at hl 3 rfl) ?_
                          refine lv_aload_n hx hb dX2_isSame_145 rfl (lv_at hl 4 rfl) ?_
                          refine va_get (D := (dC, dI)) (ci := 2) (v := .ref al) (C := RX2) (T := TX2) (N := 4) hx hb hts hinX2 hown hK hP 0 rfl rfl 3 (by decide) (hts (.fieldLink RX2 9 "WrestleBookLaw$Sim" "all" "[[I") (by decide +kernel)) (fun _ h9 => h9) rfl dX2_isSame_146 ?_
                          refine lv_iload hx hb dX2_isSame_149 (lv_at hl 1 rfl) ?_
                          refine rv_aald (k := w) hx hb hK hP 1 1 rfl rfl (show w < n by omega) (by omega) dX2_isSame_151 ?_
                          refine lv_iconst (v := 0) hx hb dX2_isSame_152 (by decide) ?_
                          refine rv_iald (k := 0) hx hb hK hP (2 + w) 0 (rl_get rfl (show w < n by omega)) rfl (by decide) (by decide) dX2_isSame_153 ?_
                          refine rv_top (y := F 1 w) rfl ?_
                          refine lv_iadd hx hb dX2_isSame_154 ?_
                          refine lv_istore_n (lv' := [(2, .int (x2 + (F 1 w))), (5, .int (nI o)), (4, .int (nI w)), (3, .int x3), (0, .ref h), (1, .ref mb)]) hx hb dX2_isSame_155 rfl hl (by decide) rfl (fun ls hl => ?_)
                          refine lv_iload_n hx hb dX2_isSame_156 rfl (lv_at hl 3 rfl) ?_
                          refine lv_aload_n hx hb dX2_isSame_157 rfl (lv_at hl 4 rfl) ?_
                          refine va_get (D := (dC, dI)) (ci := 2) (v := .ref al) (C := RX2) (T := TX2) (N := 4) hx hb hts hinX2 hown hK hP 0 rfl rfl 3 (by decide) (hts (.fieldLink RX2 9 "WrestleBookLaw$Sim" "all" "[[I") (by decide +kernel)) (fun _ h9 => h9) rfl dX2_isSame_158 ?_
                          refine lv_iload hx hb dX2_isSame_161 (lv_at hl 2 rfl) ?_
                          refine rv_aald (k := w) hx hb hK hP 1 1 rfl rfl (show w < n by omega) (by omega) dX2_isSame_163 ?_
                          refine lv_iconst (v := 0) hx hb dX2_isSame_164 (by decide) ?_
                          refine rv_iald (k := 0) hx hb hK hP (2 + w) 0 (rl_get rfl (show w < n by omega)) rfl (by decide) (by decide) dX2_isSame_165 ?_
                          refine rv_top (y := F 1 w) rfl ?_
                          refine va_mmin hx hb (hml.trans hl.1.symm) hown (hts (.methodLink RX2 72 Lib.Math.min.name) (by decide +kernel)) (hts (.static Lib.Math.min.name) (by decide +kernel)) (hts (.initialized "java/lang/Math") (by decide +kernel)) (hts (.code Lib.Math.min.name Lib.Math.min.code 2 (some .int)) (by decide +kernel)) (Nat.le_of_ble_eq_true rfl) (Nat.le_of_ble_eq_true rfl) (by show _ ≤ 724; omega) (by show _ ≤ 6525; omega) dX2_isSame_166 ?_
                          refine lv_istore_n (lv' := [(3, .int (if (F 1 w) < x3 then (F 1 w) else x3)), (2, .int (x2 + (F 1 w))), (5, .int (nI o)), (4, .int (nI w)), (0, .ref h), (1, .ref mb)]) hx hb dX2_isSame_169 rfl hl (by decide) rfl (fun ls hl => ?_)
                          refine lv_iinc (v := nI (w + 1)) (lv' := [(4, .int (nI (w + 1))), (3, .int (if (F 1 w) < x3 then (F 1 w) else x3)), (2, .int (x2 + (F 1 w))), (5, .int (nI o)), (0, .ref h), (1, .ref mb)]) hx hb dX2_isSame_170 hl (k := 3) rfl (nI_add w 1) (by decide) rfl (fun ls hl => ?_)
                          refine lv_goto (tgt := 21) hx hb dX2_isSame_173 (by decide) ?_
                          refine W.widen (k := 0 + 36 * (w + 1)) (n := 0 + 324 * (w + 1)) (by omega) (by omega) ?_
                          exact ih_21 (w + 1) (x2 + (F 1 w)) (if (F 1 w) < x3 then (F 1 w) else x3) (by omega) (by rw [hx2]; rfl) (by rw [hx3]; rfl) _ _ hS ls (lv_sub hl [0, 1, 2, 4, 5] rfl)
                        · exact absurd c_114 (by omega)
                      | succ ko ih_107 =>
                        intro o e_o H locs hS ls hl
                        have hPW := keepS hP0 hAn hS
                        have hPB := P_l hPW
                        have hP := P_r hPW
                        refine lv_iload hx hb dX2_isSame_107 (lv_at hl 0 rfl) ?_
                        refine lv_aload_n hx hb dX2_isSame_109 rfl (lv_at hl 4 rfl) ?_
                        refine va_get (D := (dC, dI)) (ci := 2) (v := .ref al) (C := RX2) (T := TX2) (N := 4) hx hb hts hinX2 hown hK hP 0 rfl rfl 3 (by decide) (hts (.fieldLink RX2 9 "WrestleBookLaw$Sim" "all" "[[I") (by decide +kernel)) (fun _ h9 => h9) rfl dX2_isSame_110 ?_
                        refine va_alen hx hb hK hP 1 1 rfl rfl (v := nI n) rfl dX2_isSame_113 ?_
                        refine rv_icmp_ge (tgt := 144) hx hb (a := o) (b := n) (by omega) (by omega) dX2_isSame_114 (by decide) (fun c_114 => ?_) (fun c_114 => ?_)
                        · exact absurd c_114 (by omega)
                        · refine lv_aload_n hx hb dX2_isSame_117 rfl (lv_at hl 5 rfl) ?_
                          refine lv_iload hx hb dX2_isSame_118 (lv_at hl 1 rfl) ?_
                          refine lv_iload hx hb dX2_isSame_120 (lv_at hl 0 rfl) ?_
                          refine vp_callSi (W.runV (As := [.int (nI w), .int (nI o)]) (rest := []) ⟨hx, hb, hml, hown, hts⟩ (c_X1_expectedK l dC dI cI mb r1 d1 r2 d2 rc n F n2 G ct ch w (show w < n by omega) o (show o < n by omega) hn hR) (cwV 2 hts gX2_isSame_X1_expected rfl rfl rfl (by decide +kernel) ⟨Nat.le_of_ble_eq_true rfl, Nat.le_of_ble_eq_true rfl⟩) ⟨PR.blind, va_recv (hK.sub (tys' := [(cI, .int)]) [0] rfl) hPB (ci := 1) (q0 := 0) rfl rfl, fun U hU hW => ⟨rfl, PR.go hPB (hK.sub (tys' := [(cI, .int)]) [0] rfl) hE hS hU hW⟩⟩ rfl rfl hl.1 rfl (lv_room (Nat.le_of_ble_eq_true rfl)) dX2_isSame_122 ⟨(by show _ ≤ 724; omega), (by show _ ≤ 6525; omega)⟩) (fun r hr0 => ?_)
                          subst hr0
                          refine lv_aload_n hx hb dX2_isSame_125 rfl (lv_at hl 4 rfl) ?_
                          refine lv_iload hx hb dX2_isSame_126 (lv_at hl 1 rfl) ?_
                          refine lv_iload hx hb dX2_isSame_128 (lv_at hl 0 rfl) ?_
                          refine va_calli (va_runV (As := [.int (nI w), .int (nI o)]) (rest := [.int (s_exp F w o)]) ⟨hx, hb, hml, hown, hts⟩ (c_X2_expected l dC dI cI h al rw cA n F ct H.size w (show w < n by omega) o (show o < n by omega) hn hR) (cwV 2 hts gX2_isSame_X2_expected rfl rfl rfl (by decide +kernel) ⟨Nat.le_of_ble_eq_true rfl, Nat.le_of_ble_eq_true rfl⟩) ⟨PT.blind, va_recv hK hP (ci := 2) (q0 := 0) rfl rfl, fun U hU hW => ⟨rfl, PT.go hP hK hE hS hA hU hW⟩⟩ rfl rfl hl.1 rfl (lv_room (Nat.le_of_ble_eq_true rfl)) dX2_isSame_130 ⟨(by show _ ≤ 724; omega), (by show _ ≤ 6525; omega)⟩) hS (fun q h8 h9 => absurd h9 (Nat.not_le.mpr h8)) (fun q h9 => hA q (Nat.le_trans hS.1 h9)) (fun r u9 t9 H locs ht9 hvm9 hw9 hB9 hz9 hk9 hS => ?_)
                          have hP := P_new hP hk9
                          have hPB := P_new hPB hk9
                          have hw9 : r = s_exp F w o := hw9
                          subst hw9
                          refine lv_icmp_eq (tgt := 138) hx hb dX2_isSame_133 (by decide) (fun c_133 => ?_) (fun c_133 => ?_)
                          · refine lv_iinc (v := nI (o + 1)) (lv' := [(5, .int (nI (o + 1))), (4, .int (nI w)), (3, .int x3), (2, .int x2), (0, .ref h), (1, .ref mb)]) hx hb dX2_isSame_138 hl (k := 0) rfl (nI_add o 1) (by decide) rfl (fun ls hl => ?_)
                            refine lv_goto (tgt := 107) hx hb dX2_isSame_141 (by decide) ?_
                            refine W.widen (k := 0 + 36 * w + 24 + 1 * (o + 1)) (n := 0 + 324 * w + 216 + 9 * (o + 1)) (by omega) (by omega) ?_
                            exact ih_107 (o + 1) (by omega) _ _ hS ls (lv_sub hl [0, 1, 2, 3, 4, 5] rfl)
                          · exact absurd rfl c_133
                    refine W.widen (k := 0 + 36 * w + 24 + 1 * 0) (n := 0 + 324 * w + 216 + 9 * 0) (by omega) (by omega) ?_
                    exact L_107 n 0 (by omega) _ _ hS ls (lv_sub hl [0, 1, 2, 3, 4, 5] rfl)
                  · exact absurd rfl c_99
              · exact absurd c_38 (by omega)
            | succ kk1 ih_34 =>
              intro k1 e_k1 H locs hS ls hl
              have hPW := keepS hP0 hAn hS
              have hPB := P_l hPW
              have hP := P_r hPW
              refine lv_iload hx hb dX2_isSame_34 (lv_at hl 0 rfl) ?_
              refine lv_bipush (v := 7) hx hb dX2_isSame_36 (by decide) ?_
              refine rv_icmp_ge (tgt := 70) hx hb (a := k1) (b := 7) (by omega) (by omega) dX2_isSame_38 (by decide) (fun c_38 => ?_) (fun c_38 => ?_)
              · exact absurd c_38 (by omega)
              · refine lv_aload_n hx hb dX2_isSame_41 rfl (lv_at hl 5 rfl) ?_
                refine lv_iload hx hb dX2_isSame_42 (lv_at hl 1 rfl) ?_
                refine lv_iload hx hb dX2_isSame_44 (lv_at hl 0 rfl) ?_
                refine vp_callSi (W.runV (As := [.int (nI w), .int (nI k1)]) (rest := []) ⟨hx, hb, hml, hown, hts⟩ (c_X1_toldK l dC dI cI mb r1 d1 r2 d2 rc n F n2 G ct ch w (show w < n by omega) k1 (show k1 < 9 by omega) hn) (cwV 2 hts gX2_isSame_X1_told rfl rfl rfl (by decide +kernel) ⟨Nat.le_of_ble_eq_true rfl, Nat.le_of_ble_eq_true rfl⟩) ⟨PR.blind, va_recv (hK.sub (tys' := [(cI, .int)]) [0] rfl) hPB (ci := 1) (q0 := 0) rfl rfl, fun U hU hW => ⟨rfl, PR.go hPB (hK.sub (tys' := [(cI, .int)]) [0] rfl) hE hS hU hW⟩⟩ rfl rfl hl.1 rfl (lv_room (Nat.le_of_ble_eq_true rfl)) dX2_isSame_46 ⟨(by show _ ≤ 724; omega), (by show _ ≤ 6525; omega)⟩) (fun r hr0 => ?_)
                subst hr0
                refine lv_aload_n hx hb dX2_isSame_49 rfl (lv_at hl 4 rfl) ?_
                refine va_get (D := (dC, dI)) (ci := 2) (v := .ref al) (C := RX2) (T := TX2) (N := 4) hx hb hts hinX2 hown hK hP 0 rfl rfl 3 (by decide) (hts (.fieldLink RX2 9 "WrestleBookLaw$Sim" "all" "[[I") (by decide +kernel)) (fun _ h9 => h9) rfl dX2_isSame_50 ?_
                refine lv_iload hx hb dX2_isSame_53 (lv_at hl 1 rfl) ?_
                refine rv_aald (k := w) hx hb hK hP 1 1 rfl rfl (show w < n by omega) (by omega) dX2_isSame_55 ?_
                refine lv_iload hx hb dX2_isSame_56 (lv_at hl 0 rfl) ?_
                refine rv_iald (k := k1) hx hb hK hP (2 + w) 0 (rl_get rfl (show w < n by omega)) rfl (show k1 < 7 by omega) (by decide) dX2_isSame_58 ?_
                refine rv_top (y := F (sw k1) w) rfl ?_
                refine lv_icmp_eq (tgt := 64) hx hb dX2_isSame_59 (by decide) (fun c_59 => ?_) (fun c_59 => ?_)
                · refine lv_iinc (v := nI (k1 + 1)) (lv' := [(5, .int (nI (k1 + 1))), (4, .int (nI w)), (3, .int x3), (2, .int x2), (0, .ref h), (1, .ref mb)]) hx hb dX2_isSame_64 hl (k := 0) rfl (nI_add k1 1) (by decide) rfl (fun ls hl => ?_)
                  refine lv_goto (tgt := 34) hx hb dX2_isSame_67 (by decide) ?_
                  refine W.widen (k := 0 + 36 * w + 0 * (k1 + 1)) (n := 0 + 324 * w + 0 * (k1 + 1)) (by omega) (by omega) ?_
                  exact ih_34 (k1 + 1) (by omega) _ _ hS ls (lv_sub hl [0, 1, 2, 3, 4, 5] rfl)
                · exact absurd (told_sw (show k1 < 7 by omega)) c_59
          refine W.widen (k := 0 + 36 * w + 0 * 0) (n := 0 + 324 * w + 0 * 0) (by omega) (by omega) ?_
          exact L_34 7 0 (by omega) _ _ hS ls (lv_sub hl [0, 1, 2, 3, 4, 5] rfl)
    refine W.widen (k := 0 + 36 * 0) (n := 0 + 324 * 0) (by omega) (by omega) ?_
    exact L_21 n 0 0 9999 (by omega) rfl (by rw [s_loU, fo_0]; simp [hn0]) _ _ hS ls (lv_sub hl [0, 1, 2, 3, 4] rfl)
  · have hn0 : n = 0 := (nI_eq (b := 0) (by omega) (by decide)).mp c_7
    refine lv_iconst (v := 0) hx hb dX2_isSame_10 (by decide) ?_
    refine lv_goto (tgt := 17) hx hb dX2_isSame_11 (by decide) ?_
    refine lv_istore_n (lv' := [(3, .int 0), (2, .int 0), (0, .ref h), (1, .ref mb)]) hx hb dX2_isSame_17 rfl hl (by decide) rfl (fun ls hl => ?_)
    refine lv_iconst (v := 0) hx hb dX2_isSame_18 (by decide) ?_
    refine lv_istore (lv' := [(4, .int 0), (3, .int 0), (2, .int 0), (0, .ref h), (1, .ref mb)]) hx hb dX2_isSame_19 hl (by decide) rfl (fun ls hl => ?_)
    have L_21 : ∀ (kw w : Nat) (x2 : Int32) (x3 : Int32), w + kw = n → x2 = s_sumU F w → x3 = s_loU F (if n = 0 then 0 else 9999) w → ∀ (H : Heap) (locs : List Loc), va_S A s.heap H locs → ∀ (ls : Array Slot), lv_has ls 8 [(4, .int (nI w)), (3, .int x3), (2, .int x2), (0, .ref h), (1, .ref mb)] → W p l e (headSpec wsX2_isSame ({ frames := 6, cells := 724, slots := 6525, locals := 127 } : Room)).room s m ([.ref h, .ref mb] : List Value).toArray below meth c H locs (0 + 36 * w) (0 + 324 * w) (MQ below (va_Qi (fun r (_ : Unit) => r = 1) (fun _ _ => True) A) ([.ref h, .ref mb] : List Value).toArray s 724 6525 A) (F0 m 21 ls []) := by
      intro kw
      induction kw with
      | zero =>
        intro w x2 x3 e_w hx2 hx3 H locs hS ls hl
        have hPW := keepS hP0 hAn hS
        have hPB := P_l hPW
        have hP := P_r hPW
        refine lv_iload hx hb dX2_isSame_21 (lv_at hl 0 rfl) ?_
        refine lv_aload_n hx hb dX2_isSame_23 rfl (lv_at hl 3 rfl) ?_
        refine va_get (D := (dC, dI)) (ci := 2) (v := .ref al) (C := RX2) (T := TX2) (N := 4) hx hb hts hinX2 hown hK hP 0 rfl rfl 3 (by decide) (hts (.fieldLink RX2 9 "WrestleBookLaw$Sim" "all" "[[I") (by decide +kernel)) (fun _ h9 => h9) rfl dX2_isSame_24 ?_
        refine va_alen hx hb hK hP 1 1 rfl rfl (v := nI n) rfl dX2_isSame_27 ?_
        refine rv_icmp_ge (tgt := 176) hx hb (a := w) (b := n) (by omega) (by omega) dX2_isSame_28 (by decide) (fun c_28 => ?_) (fun c_28 => ?_)
        · refine lv_bipush (v := 9) hx hb dX2_isSame_176 (by decide) ?_
          refine rv_newa (N' := 9) hx hb (hts (.arrayClass .int) (by decide +kernel)) (hK.sub (tys' := [(cI, .int)]) [0] rfl) vaP_nil D_nil hS hA (by decide) (rfl) (Nat.le_of_ble_eq_true rfl) (by show _ ≤ 724; omega) (by show _ ≤ 6525; omega) dX2_isSame_178 (fun q178 H hPt hDt hS => ?_)
          have hPt : va_P (dC, dI) vwCl ([(q178, .inl (cI, 9, .inl (fun _ => 0)))]) H := hPt
          have hDt : va_D A ([(q178, .inl (cI, 9, .inl (fun _ => 0)))]) := hDt
          have hPW := keepS hP0 hAn hS
          have hPB := P_l hPW
          have hP := P_r hPW
          refine lv_dup hx hb dX2_isSame_180 rfl ?_
          refine lv_iconst (v := 0) hx hb dX2_isSame_181 (by decide) ?_
          refine lv_aload_n hx hb dX2_isSame_182 rfl (lv_at hl 3 rfl) ?_
          refine va_get (D := (dC, dI)) (ci := 2) (v := .int (ct 0)) (C := RX2) (T := TX2) (N := 4) hx hb hts hinX2 hown hK hP 0 rfl rfl 0 (by decide) (hts (.fieldLink RX2 45 "WrestleBookLaw$Sim" "season" "I") (by decide +kernel)) (fun _ h9 => h9) rfl dX2_isSame_183 ?_
          refine rv_iast (k := 0) hx hb hK hPt hDt hS 0 0 rfl rfl (show 0 < 9 by omega) (by omega) dX2_isSame_186 (fun H locs hPt hDt hS => ?_)
          have hPt : va_P (dC, dI) vwCl ([(q178, .inl (cI, 9, .inl (upd (fun _ => 0) 0 (ct 0))))]) H := hPt
          have hDt : va_D A ([(q178, .inl (cI, 9, .inl (upd (fun _ => 0) 0 (ct 0))))]) := hDt
          have hPW := keepS hP0 hAn hS
          have hPB := P_l hPW
          have hP := P_r hPW
          refine lv_dup hx hb dX2_isSame_187 rfl ?_
          refine lv_iconst (v := 1) hx hb dX2_isSame_188 (by decide) ?_
          refine lv_aload_n hx hb dX2_isSame_189 rfl (lv_at hl 3 rfl) ?_
          refine va_get (D := (dC, dI)) (ci := 2) (v := .ref al) (C := RX2) (T := TX2) (N := 4) hx hb hts hinX2 hown hK hP 0 rfl rfl 3 (by decide) (hts (.fieldLink RX2 9 "WrestleBookLaw$Sim" "all" "[[I") (by decide +kernel)) (fun _ h9 => h9) rfl dX2_isSame_190 ?_
          refine va_alen hx hb hK hP 1 1 rfl rfl (v := nI n) rfl dX2_isSame_193 ?_
          refine rv_iast (k := 1) hx hb hK hPt hDt hS 0 0 rfl rfl (show 1 < 9 by omega) (by omega) dX2_isSame_194 (fun H locs hPt hDt hS => ?_)
          have hPt : va_P (dC, dI) vwCl ([(q178, .inl (cI, 9, .inl (upd (upd (fun _ => 0) 0 (ct 0)) 1 (nI n))))]) H := hPt
          have hDt : va_D A ([(q178, .inl (cI, 9, .inl (upd (upd (fun _ => 0) 0 (ct 0)) 1 (nI n))))]) := hDt
          have hPW := keepS hP0 hAn hS
          have hPB := P_l hPW
          have hP := P_r hPW
          refine lv_dup hx hb dX2_isSame_195 rfl ?_
          refine lv_iconst (v := 2) hx hb dX2_isSame_196 (by decide) ?_
          refine lv_aload_n hx hb dX2_isSame_197 rfl (lv_at hl 3 rfl) ?_
          refine va_get (D := (dC, dI)) (ci := 2) (v := .int (ct 1)) (C := RX2) (T := TX2) (N := 4) hx hb hts hinX2 hown hK hP 0 rfl rfl 1 (by decide) (hts (.fieldLink RX2 38 "WrestleBookLaw$Sim" "bouts" "I") (by decide +kernel)) (fun _ h9 => h9) rfl dX2_isSame_198 ?_
          refine rv_iast (k := 2) hx hb hK hPt hDt hS 0 0 rfl rfl (show 2 < 9 by omega) (by omega) dX2_isSame_201 (fun H locs hPt hDt hS => ?_)
          have hPt : va_P (dC, dI) vwCl ([(q178, .inl (cI, 9, .inl (upd (upd (upd (fun _ => 0) 0 (ct 0)) 1 (nI n)) 2 (ct 1))))]) H := hPt
          have hDt : va_D A ([(q178, .inl (cI, 9, .inl (upd (upd (upd (fun _ => 0) 0 (ct 0)) 1 (nI n)) 2 (ct 1))))]) := hDt
          have hPW := keepS hP0 hAn hS
          have hPB := P_l hPW
          have hP := P_r hPW
          refine lv_dup hx hb dX2_isSame_202 rfl ?_
          refine lv_iconst (v := 3) hx hb dX2_isSame_203 (by decide) ?_
          refine lv_aload_n hx hb dX2_isSame_204 rfl (lv_at hl 3 rfl) ?_
          refine va_get (D := (dC, dI)) (ci := 2) (v := .int (ct 2)) (C := RX2) (T := TX2) (N := 4) hx hb hts hinX2 hown hK hP 0 rfl rfl 2 (by decide) (hts (.fieldLink RX2 27 "WrestleBookLaw$Sim" "upsets" "I") (by decide +kernel)) (fun _ h9 => h9) rfl dX2_isSame_205 ?_
          refine rv_iast (k := 3) hx hb hK hPt hDt hS 0 0 rfl rfl (show 3 < 9 by omega) (by omega) dX2_isSame_208 (fun H locs hPt hDt hS => ?_)
          have hPt : va_P (dC, dI) vwCl ([(q178, .inl (cI, 9, .inl (upd (upd (upd (upd (fun _ => 0) 0 (ct 0)) 1 (nI n)) 2 (ct 1)) 3 (ct 2))))]) H := hPt
          have hDt : va_D A ([(q178, .inl (cI, 9, .inl (upd (upd (upd (upd (fun _ => 0) 0 (ct 0)) 1 (nI n)) 2 (ct 1)) 3 (ct 2))))]) := hDt
          have hPW := keepS hP0 hAn hS
          have hPB := P_l hPW
          have hP := P_r hPW
          refine lv_dup hx hb dX2_isSame_209 rfl ?_
          refine lv_iconst (v := 4) hx hb dX2_isSame_210 (by decide) ?_
          refine lv_iconst (v := 0) hx hb dX2_isSame_211 (by decide) ?_
          refine rv_iast (k := 4) hx hb hK hPt hDt hS 0 0 rfl rfl (show 4 < 9 by omega) (by omega) dX2_isSame_212 (fun H locs hPt hDt hS => ?_)
          have hPt : va_P (dC, dI) vwCl ([(q178, .inl (cI, 9, .inl (upd (upd (upd (upd (upd (fun _ => 0) 0 (ct 0)) 1 (nI n)) 2 (ct 1)) 3 (ct 2)) 4 0)))]) H := hPt
          have hDt : va_D A ([(q178, .inl (cI, 9, .inl (upd (upd (upd (upd (upd (fun _ => 0) 0 (ct 0)) 1 (nI n)) 2 (ct 1)) 3 (ct 2)) 4 0)))]) := hDt
          have hPW := keepS hP0 hAn hS
          have hPB := P_l hPW
          have hP := P_r hPW
          refine lv_dup hx hb dX2_isSame_213 rfl ?_
          refine lv_iconst (v := 5) hx hb dX2_isSame_214 (by decide) ?_
          refine lv_iconst (v := 0) hx hb dX2_isSame_215 (by decide) ?_
          refine rv_iast (k := 5) hx hb hK hPt hDt hS 0 0 rfl rfl (show 5 < 9 by omega) (by omega) dX2_isSame_216 (fun H locs hPt hDt hS => ?_)
          have hPt : va_P (dC, dI) vwCl ([(q178, .inl (cI, 9, .inl (upd (upd (upd (upd (upd (upd (fun _ => 0) 0 (ct 0)) 1 (nI n)) 2 (ct 1)) 3 (ct 2)) 4 0) 5 0)))]) H := hPt
          have hDt : va_D A ([(q178, .inl (cI, 9, .inl (upd (upd (upd (upd (upd (upd (fun _ => 0) 0 (ct 0)) 1 (nI n)) 2 (ct 1)) 3 (ct 2)) 4 0) 5 0)))]) := hDt
          have hPW := keepS hP0 hAn hS
          have hPB := P_l hPW
          have hP := P_r hPW
          refine lv_dup hx hb dX2_isSame_217 rfl ?_
          refine lv_bipush (v := 6) hx hb dX2_isSame_218 (by decide) ?_
          refine lv_iconst (v := 0) hx hb dX2_isSame_220 (by decide) ?_
          refine rv_iast (k := 6) hx hb hK hPt hDt hS 0 0 rfl rfl (show 6 < 9 by omega) (by omega) dX2_isSame_221 (fun H locs hPt hDt hS => ?_)
          have hPt : va_P (dC, dI) vwCl ([(q178, .inl (cI, 9, .inl (upd (upd (upd (upd (upd (upd (upd (fun _ => 0) 0 (ct 0)) 1 (nI n)) 2 (ct 1)) 3 (ct 2)) 4 0) 5 0) 6 0)))]) H := hPt
          have hDt : va_D A ([(q178, .inl (cI, 9, .inl (upd (upd (upd (upd (upd (upd (upd (fun _ => 0) 0 (ct 0)) 1 (nI n)) 2 (ct 1)) 3 (ct 2)) 4 0) 5 0) 6 0)))]) := hDt
          have hPW := keepS hP0 hAn hS
          have hPB := P_l hPW
          have hP := P_r hPW
          refine lv_dup hx hb dX2_isSame_222 rfl ?_
          refine lv_bipush (v := 7) hx hb dX2_isSame_223 (by decide) ?_
          refine lv_aload_n hx hb dX2_isSame_225 rfl (lv_at hl 3 rfl) ?_
          refine va_calli (va_runV (As := []) (rest := [.int 7, .ref q178, .ref q178]) ⟨hx, hb, hml, hown, hts⟩ (c_X2_highest l dC dI cI h al rw cA n F ct H.size hn) (cwV 0 hts gX2_isSame_X2_highest rfl rfl rfl (by decide +kernel) ⟨Nat.le_of_ble_eq_true rfl, Nat.le_of_ble_eq_true rfl⟩) ⟨PT.blind, va_recv hK hP (ci := 2) (q0 := 0) rfl rfl, fun U hU hW => ⟨rfl, PT.go hP hK hE hS hA hU hW⟩⟩ rfl rfl hl.1 rfl (lv_room (Nat.le_of_ble_eq_true rfl)) dX2_isSame_226 ⟨(by show _ ≤ 724; omega), (by show _ ≤ 6525; omega)⟩) hS (fun q h8 h9 => absurd h9 (Nat.not_le.mpr h8)) (fun q h9 => hA q (Nat.le_trans hS.1 h9)) (fun r u9 t9 H locs ht9 hvm9 hw9 hB9 hz9 hk9 hS => ?_)
          have hP := P_new hP hk9
          have hPB := P_new hPB hk9
          have hPt := P_new hPt hk9
          have hw9 : r = s_hi n F := hw9
          subst hw9
          refine rv_iast (k := 7) hx hb hK hPt hDt hS 0 0 rfl rfl (show 7 < 9 by omega) (by omega) dX2_isSame_229 (fun H locs hPt hDt hS => ?_)
          have hPt : va_P (dC, dI) vwCl ([(q178, .inl (cI, 9, .inl (upd (upd (upd (upd (upd (upd (upd (upd (fun _ => 0) 0 (ct 0)) 1 (nI n)) 2 (ct 1)) 3 (ct 2)) 4 0) 5 0) 6 0) 7 (s_hi n F))))]) H := hPt
          have hDt : va_D A ([(q178, .inl (cI, 9, .inl (upd (upd (upd (upd (upd (upd (upd (upd (fun _ => 0) 0 (ct 0)) 1 (nI n)) 2 (ct 1)) 3 (ct 2)) 4 0) 5 0) 6 0) 7 (s_hi n F))))]) := hDt
          have hPW := keepS hP0 hAn hS
          have hPB := P_l hPW
          have hP := P_r hPW
          refine lv_dup hx hb dX2_isSame_230 rfl ?_
          refine lv_bipush (v := 8) hx hb dX2_isSame_231 (by decide) ?_
          refine lv_iload_n hx hb dX2_isSame_233 rfl (lv_at hl 1 rfl) ?_
          refine rv_iast (k := 8) hx hb hK hPt hDt hS 0 0 rfl rfl (show 8 < 9 by omega) (by omega) dX2_isSame_234 (fun H locs hPt hDt hS => ?_)
          have hPt : va_P (dC, dI) vwCl ([(q178, .inl (cI, 9, .inl (upd (upd (upd (upd (upd (upd (upd (upd (upd (fun _ => 0) 0 (ct 0)) 1 (nI n)) 2 (ct 1)) 3 (ct 2)) 4 0) 5 0) 6 0) 7 (s_hi n F)) 8 x3)))]) H := hPt
          have hDt : va_D A ([(q178, .inl (cI, 9, .inl (upd (upd (upd (upd (upd (upd (upd (upd (upd (fun _ => 0) 0 (ct 0)) 1 (nI n)) 2 (ct 1)) 3 (ct 2)) 4 0) 5 0) 6 0) 7 (s_hi n F)) 8 x3)))]) := hDt
          have hPW := keepS hP0 hAn hS
          have hPB := P_l hPW
          have hP := P_r hPW
          refine lv_astore (lv' := [(4, .ref q178), (3, .int x3), (2, .int x2), (0, .ref h), (1, .ref mb)]) hx hb dX2_isSame_235 hl (by decide) rfl (fun ls hl => ?_)
          refine lv_iconst (v := 0) hx hb dX2_isSame_237 (by decide) ?_
          refine lv_istore (lv' := [(5, .int 0), (4, .ref q178), (3, .int x3), (2, .int x2), (0, .ref h), (1, .ref mb)]) hx hb dX2_isSame_238 hl (by decide) rfl (fun ls hl => ?_)
          have L_240 : ∀ (k5 i5 : Nat) (g5 : Nat → Int32), i5 + k5 = 3 → C9 n F ct i5 g5 → ∀ (H : Heap) (locs : List Loc), va_P (dC, dI) vwCl ([(q178, .inl (cI, 9, .inl (g5)))]) H → va_D A ([(q178, .inl (cI, 9, .inl (g5)))]) → va_S A s.heap H locs → ∀ (ls : Array Slot), lv_has ls 8 [(5, .int (nI i5)), (4, .ref q178), (3, .int x3), (2, .int x2), (0, .ref h), (1, .ref mb)] → W p l e (headSpec wsX2_isSame ({ frames := 6, cells := 724, slots := 6525, locals := 127 } : Room)).room s m ([.ref h, .ref mb] : List Value).toArray below meth c H locs (433 + 1 * i5) (3897 + 12 * i5) (MQ below (va_Qi (fun r (_ : Unit) => r = 1) (fun _ _ => True) A) ([.ref h, .ref mb] : List Value).toArray s 724 6525 A) (F0 m 240 ls []) := by
            intro k5
            induction k5 with
            | zero =>
              intro i5 g5 e_i5 hg5 H locs hPt hDt hS ls hl
              have hPW := keepS hP0 hAn hS
              have hPB := P_l hPW
              have hP := P_r hPW
              refine lv_iload hx hb dX2_isSame_240 (lv_at hl 0 rfl) ?_
              refine lv_iconst (v := 3) hx hb dX2_isSame_242 (by decide) ?_
              refine rv_icmp_ge (tgt := 325) hx hb (a := i5) (b := 3) (by omega) (by omega) dX2_isSame_243 (by decide) (fun c_243 => ?_) (fun c_243 => ?_)
              · have hg6 : C9 n F ct 3 g5 := by rw [show (3 : Nat) = i5 by omega]; exact hg5
                refine lv_iconst (v := 0) hx hb dX2_isSame_325 (by decide) ?_
                refine lv_istore (lv' := [(5, .int 0), (4, .ref q178), (3, .int x3), (2, .int x2), (0, .ref h), (1, .ref mb)]) hx hb dX2_isSame_326 hl (by decide) rfl (fun ls hl => ?_)
                have L_328 : ∀ (kk9 k9 : Nat), k9 + kk9 = 9 → ∀ (H : Heap) (locs : List Loc), va_P (dC, dI) vwCl ([(q178, .inl (cI, 9, .inl (g5)))]) H → va_D A ([(q178, .inl (cI, 9, .inl (g5)))]) → va_S A s.heap H locs → ∀ (ls : Array Slot), lv_has ls 8 [(5, .int (nI k9)), (4, .ref q178), (3, .int x3), (2, .int x2), (0, .ref h), (1, .ref mb)] → W p l e (headSpec wsX2_isSame ({ frames := 6, cells := 724, slots := 6525, locals := 127 } : Room)).room s m ([.ref h, .ref mb] : List Value).toArray below meth c H locs (436 + 0 * k9) (3933 + 0 * k9) (MQ below (va_Qi (fun r (_ : Unit) => r = 1) (fun _ _ => True) A) ([.ref h, .ref mb] : List Value).toArray s 724 6525 A) (F0 m 328 ls []) := by
                  intro kk9
                  induction kk9 with
                  | zero =>
                    intro k9 e_k9 H locs hPt hDt hS ls hl
                    have hPW := keepS hP0 hAn hS
                    have hPB := P_l hPW
                    have hP := P_r hPW
                    refine lv_iload hx hb dX2_isSame_328 (lv_at hl 0 rfl) ?_
                    refine lv_bipush (v := 9) hx hb dX2_isSame_330 (by decide) ?_
                    refine rv_icmp_ge (tgt := 357) hx hb (a := k9) (b := 9) (by omega) (by omega) dX2_isSame_332 (by decide) (fun c_332 => ?_) (fun c_332 => ?_)
                    · refine lv_aload_n hx hb dX2_isSame_357 rfl (lv_at hl 5 rfl) ?_
                      refine vp_callSi (W.runV (As := []) (rest := []) ⟨hx, hb, hml, hown, hts⟩ (c_X1_next l dC dI cI mb r1 d1 r2 d2 rc n F n2 G ct ch hn hR) (cwV 0 hts gX2_isSame_X1_next rfl rfl rfl (by decide +kernel) ⟨Nat.le_of_ble_eq_true rfl, Nat.le_of_ble_eq_true rfl⟩) ⟨PR.blind, va_recv (hK.sub (tys' := [(cI, .int)]) [0] rfl) hPB (ci := 1) (q0 := 0) rfl rfl, fun U hU hW => ⟨rfl, PR.go hPB (hK.sub (tys' := [(cI, .int)]) [0] rfl) hE hS hU hW⟩⟩ rfl rfl hl.1 rfl (lv_room (Nat.le_of_ble_eq_true rfl)) dX2_isSame_358 ⟨(by show _ ≤ 724; omega), (by show _ ≤ 6525; omega)⟩) (fun r hr0 => ?_)
                      subst hr0
                      refine lv_aload_n hx hb dX2_isSame_361 rfl (lv_at hl 4 rfl) ?_
                      refine va_calli (va_runV (As := []) (rest := [.int (s_next n F)]) ⟨hx, hb, hml, hown, hts⟩ (c_X2_next l dC dI cI h al rw cA n F ct H.size hn hR) (cwV 0 hts gX2_isSame_X2_next rfl rfl rfl (by decide +kernel) ⟨Nat.le_of_ble_eq_true rfl, Nat.le_of_ble_eq_true rfl⟩) ⟨PT.blind, va_recv hK hP (ci := 2) (q0 := 0) rfl rfl, fun U hU hW => ⟨rfl, PT.go hP hK hE hS hA hU hW⟩⟩ rfl rfl hl.1 rfl (lv_room (Nat.le_of_ble_eq_true rfl)) dX2_isSame_362 ⟨(by show _ ≤ 724; omega), (by show _ ≤ 6525; omega)⟩) hS (fun q h8 h9 => absurd h9 (Nat.not_le.mpr h8)) (fun q h9 => hA q (Nat.le_trans hS.1 h9)) (fun r u9 t9 H locs ht9 hvm9 hw9 hB9 hz9 hk9 hS => ?_)
                      have hP := P_new hP hk9
                      have hPB := P_new hPB hk9
                      have hPt := P_new hPt hk9
                      have hw9 : r = s_next n F := hw9
                      subst hw9
                      refine lv_icmp_ne (tgt := 401) hx hb dX2_isSame_365 (by decide) (fun c_365 => ?_) (fun c_365 => ?_)
                      · exact absurd rfl c_365
                      · refine lv_aload_n hx hb dX2_isSame_368 rfl (lv_at hl 5 rfl) ?_
                        refine vp_callSd (W.runV (As := []) (rest := []) ⟨hx, hb, hml, hown, hts⟩ (c_X1_meanK l dC dI cI mb r1 d1 r2 d2 rc n F n2 G ct ch hn hne) (cwV 0 hts gX2_isSame_X1_mean rfl rfl rfl (by decide +kernel) ⟨Nat.le_of_ble_eq_true rfl, Nat.le_of_ble_eq_true rfl⟩) ⟨PR.blind, va_recv (hK.sub (tys' := [(cI, .int)]) [0] rfl) hPB (ci := 1) (q0 := 0) rfl rfl, fun U hU hW => ⟨rfl, PR.go hPB (hK.sub (tys' := [(cI, .int)]) [0] rfl) hE hS hU hW⟩⟩ rfl rfl hl.1 rfl (lv_room (Nat.le_of_ble_eq_true rfl)) dX2_isSame_369 ⟨(by show _ ≤ 724; omega), (by show _ ≤ 6525; omega)⟩) (fun r hr0 => ?_)
                        subst hr0
                        refine lv_aload_n hx hb dX2_isSame_372 rfl (lv_at hl 4 rfl) ?_
                        refine va_get (D := (dC, dI)) (ci := 2) (v := .ref al) (C := RX2) (T := TX2) (N := 4) hx hb hts hinX2 hown hK hP 0 rfl rfl 3 (by decide) (hts (.fieldLink RX2 9 "WrestleBookLaw$Sim" "all" "[[I") (by decide +kernel)) (fun _ h9 => h9) rfl dX2_isSame_373 ?_
                        refine va_alen hx hb hK hP 1 1 rfl rfl (v := nI n) rfl dX2_isSame_376 ?_
                        refine lv_if_ne (tgt := 384) hx hb dX2_isSame_377 (by decide) (fun c_377 => ?_) (fun c_377 => ?_)
                        · have hn1 : ¬ n = 0 := fun q => c_377 (by rw [q]; rfl)
                          refine lv_iload_n hx hb dX2_isSame_384 rfl (lv_at hl 3 rfl) ?_
                          refine lv_i2d hx hb dX2_isSame_385 ?_
                          refine lv_aload_n hx hb dX2_isSame_386 rfl (lv_at hl 4 rfl) ?_
                          refine va_get (D := (dC, dI)) (ci := 2) (v := .ref al) (C := RX2) (T := TX2) (N := 4) hx hb hts hinX2 hown hK hP 0 rfl rfl 3 (by decide) (hts (.fieldLink RX2 9 "WrestleBookLaw$Sim" "all" "[[I") (by decide +kernel)) (fun _ h9 => h9) rfl dX2_isSame_387 ?_
                          refine va_alen hx hb hK hP 1 1 rfl rfl (v := nI n) rfl dX2_isSame_390 ?_
                          refine lv_i2d hx hb dX2_isSame_391 ?_
                          refine lv_ddiv hx hb dX2_isSame_392 (by rw [hx2, show w = n by omega]; exact hne hn1) ?_
                          refine lv_dcmp hx hb dX2_isSame_393 ?_
                          refine lv_if_ne (tgt := 401) hx hb dX2_isSame_394 (by decide) (fun c_394 => ?_) (fun c_394 => ?_)
                          · exact absurd (show Op.cmpValue (FP.dcmp (s_mean n F) (FP.ddiv (FP.i2d x2) (FP.i2d (nI n)))) .l = 0 from by rw [show FP.ddiv (FP.i2d x2) (FP.i2d (nI n)) = s_mean n F from by unfold s_mean; rw [if_neg hn1, hx2, show w = n by omega]; rfl]; exact cmp_self hnn) c_394
                          · refine lv_iconst (v := 1) hx hb dX2_isSame_397 (by decide) ?_
                            refine lv_goto (tgt := 402) hx hb dX2_isSame_398 (by decide) ?_
                            refine W.widen (k := 724) (n := 6525) (by omega) (by omega) ?_
                            exact W.zret (v := 1) hx hb hr (by decide) (fun t ht hW => ⟨⟨_, (), rfl, (show 1 = 1 from by rfl), trivial⟩, hS.F ht⟩) hS.2.2 dX2_isSame_402
                        · have hn1 : n = 0 := (nI_eq (b := 0) (by omega) (by decide)).mp c_377
                          refine lv_dconst0 hx hb dX2_isSame_380 ?_
                          refine lv_goto (tgt := 393) hx hb dX2_isSame_381 (by decide) ?_
                          refine lv_dcmp hx hb dX2_isSame_393 ?_
                          refine lv_if_ne (tgt := 401) hx hb dX2_isSame_394 (by decide) (fun c_394 => ?_) (fun c_394 => ?_)
                          · exact absurd (show Op.cmpValue (FP.dcmp (s_mean n F) FP.dconst0) .l = 0 from by rw [show FP.dconst0 = s_mean n F from by unfold s_mean; rw [if_pos hn1]]; exact cmp_self hnn) c_394
                          · refine lv_iconst (v := 1) hx hb dX2_isSame_397 (by decide) ?_
                            refine lv_goto (tgt := 402) hx hb dX2_isSame_398 (by decide) ?_
                            refine W.widen (k := 724) (n := 6525) (by omega) (by omega) ?_
                            exact W.zret (v := 1) hx hb hr (by decide) (fun t ht hW => ⟨⟨_, (), rfl, (show 1 = 1 from by rfl), trivial⟩, hS.F ht⟩) hS.2.2 dX2_isSame_402
                    · exact absurd c_332 (by omega)
                  | succ kk9 ih_328 =>
                    intro k9 e_k9 H locs hPt hDt hS ls hl
                    have hPW := keepS hP0 hAn hS
                    have hPB := P_l hPW
                    have hP := P_r hPW
                    refine lv_iload hx hb dX2_isSame_328 (lv_at hl 0 rfl) ?_
                    refine lv_bipush (v := 9) hx hb dX2_isSame_330 (by decide) ?_
                    refine rv_icmp_ge (tgt := 357) hx hb (a := k9) (b := 9) (by omega) (by omega) dX2_isSame_332 (by decide) (fun c_332 => ?_) (fun c_332 => ?_)
                    · exact absurd c_332 (by omega)
                    · refine lv_aload_n hx hb dX2_isSame_335 rfl (lv_at hl 5 rfl) ?_
                      refine lv_iload hx hb dX2_isSame_336 (lv_at hl 0 rfl) ?_
                      refine vp_callSi (W.runV (As := [.int (nI k9)]) (rest := []) ⟨hx, hb, hml, hown, hts⟩ (c_X1_countK l dC dI cI mb r1 d1 r2 d2 rc n F n2 G ct ch k9 (show k9 < 9 by omega) hn) (cwV 1 hts gX2_isSame_X1_count rfl rfl rfl (by decide +kernel) ⟨Nat.le_of_ble_eq_true rfl, Nat.le_of_ble_eq_true rfl⟩) ⟨PR.blind, va_recv (hK.sub (tys' := [(cI, .int)]) [0] rfl) hPB (ci := 1) (q0 := 0) rfl rfl, fun U hU hW => ⟨rfl, PR.go hPB (hK.sub (tys' := [(cI, .int)]) [0] rfl) hE hS hU hW⟩⟩ rfl rfl hl.1 rfl (lv_room (Nat.le_of_ble_eq_true rfl)) dX2_isSame_338 ⟨(by show _ ≤ 724; omega), (by show _ ≤ 6525; omega)⟩) (fun r hr0 => ?_)
                      subst hr0
                      refine lv_aload hx hb dX2_isSame_341 (lv_at hl 1 rfl) ?_
                      refine lv_iload hx hb dX2_isSame_343 (lv_at hl 0 rfl) ?_
                      refine rv_iald (k := k9) hx hb hK hPt 0 0 rfl rfl (show k9 < 9 by omega) (by omega) dX2_isSame_345 ?_
                      refine lv_icmp_eq (tgt := 351) hx hb dX2_isSame_346 (by decide) (fun c_346 => ?_) (fun c_346 => ?_)
                      · refine lv_iinc (v := nI (k9 + 1)) (lv' := [(5, .int (nI (k9 + 1))), (4, .ref q178), (3, .int x3), (2, .int x2), (0, .ref h), (1, .ref mb)]) hx hb dX2_isSame_351 hl (k := 0) rfl (nI_add k9 1) (by decide) rfl (fun ls hl => ?_)
                        refine lv_goto (tgt := 328) hx hb dX2_isSame_354 (by decide) ?_
                        refine W.widen (k := 436 + 0 * (k9 + 1)) (n := 3933 + 0 * (k9 + 1)) (by omega) (by omega) ?_
                        exact ih_328 (k9 + 1) (by omega) _ _ hPt hDt hS ls (lv_sub hl [0, 1, 2, 3, 4, 5] rfl)
                      · exact absurd (hg6 k9 (by omega) (by omega)).symm c_346
                refine W.widen (k := 436 + 0 * 0) (n := 3933 + 0 * 0) (by omega) (by omega) ?_
                exact L_328 9 0 (by omega) _ _ hPt hDt hS ls (lv_sub hl [0, 1, 2, 3, 4, 5] rfl)
              · exact absurd c_243 (by omega)
            | succ k5 ih_240 =>
              intro i5 g5 e_i5 hg5 H locs hPt hDt hS ls hl
              have hPW := keepS hP0 hAn hS
              have hPB := P_l hPW
              have hP := P_r hPW
              refine lv_iload hx hb dX2_isSame_240 (lv_at hl 0 rfl) ?_
              refine lv_iconst (v := 3) hx hb dX2_isSame_242 (by decide) ?_
              refine rv_icmp_ge (tgt := 325) hx hb (a := i5) (b := 3) (by omega) (by omega) dX2_isSame_243 (by decide) (fun c_243 => ?_) (fun c_243 => ?_)
              · exact absurd c_243 (by omega)
              · refine lv_aload_n hx hb dX2_isSame_246 rfl (lv_at hl 4 rfl) ?_
                refine lv_iload hx hb dX2_isSame_247 (lv_at hl 0 rfl) ?_
                have hsz9 := hS.1
                refine va_callr (va_runV (As := [.int (nI i5)]) (rest := []) ⟨hx, hb, hml, hown, hts⟩ (c_X2_order l dC dI cI h al rw cA n F ct H.size (nI i5) hn) (cwV 1 hts gX2_isSame_X2_order rfl rfl rfl (by decide +kernel) ⟨Nat.le_of_ble_eq_true rfl, Nat.le_of_ble_eq_true rfl⟩) ⟨PT.blind, va_recv hK hP (ci := 2) (q0 := 0) rfl rfl, fun U hU hW => ⟨rfl, PT.go hP hK hE hS hA hU hW⟩⟩ rfl rfl hl.1 rfl (lv_room (Nat.le_of_ble_eq_true rfl)) dX2_isSame_249 ⟨(by show _ ≤ 724; omega), (by show _ ≤ 6525; omega)⟩) hS (fun q h8 h9 => absurd h9 (Nat.not_le.mpr h8)) (fun q h9 => hA q (Nat.le_trans hS.1 h9)) (fun f249 q249 t9 H locs ht9 hvm9 hw9 hB9 hz9 hk9 hS => ?_)
                obtain ⟨hq9, hPq⟩ := hB9
                have hDt := D_add (e := .inl (cI, (s_many n F (nI i5)), .inl f249)) hDt hPt hq9 (hA _ (Nat.le_trans hsz9 hq9))
                have hP := P_new hP hk9
                have hPB := P_new hPB hk9
                have hPt := P_new hPt hk9
                have ho249 : ORD n F (nI i5) f249 := hw9
                rw [ht9] at hPq
                have hPt : va_P (dC, dI) vwCl ([(q178, .inl (cI, 9, .inl (g5))), (q249, .inl (cI, (s_many n F (nI i5)), .inl (f249)))]) H := va_P.app hPt hPq
                have hDt : va_D A ([(q178, .inl (cI, 9, .inl (g5))), (q249, .inl (cI, (s_many n F (nI i5)), .inl (f249)))]) := hDt
                have hq249 : s_many n F (nI i5) ≤ n := many_le F _ n
                refine lv_astore (lv' := [(6, .ref q249), (5, .int (nI i5)), (4, .ref q178), (3, .int x3), (2, .int x2), (0, .ref h), (1, .ref mb)]) hx hb dX2_isSame_252 hl (by decide) rfl (fun ls hl => ?_)
                refine lv_aload hx hb dX2_isSame_254 (lv_at hl 2 rfl) ?_
                refine lv_iconst (v := 4) hx hb dX2_isSame_256 (by decide) ?_
                refine lv_iload hx hb dX2_isSame_257 (lv_at hl 1 rfl) ?_
                refine lv_iadd hx hb dX2_isSame_259 ?_
                refine rv_top (y := nI (4 + i5)) (nI_add 4 i5) ?_
                refine lv_aload hx hb dX2_isSame_260 (lv_at hl 0 rfl) ?_
                refine va_alen hx hb hK hPt 1 0 rfl rfl (v := nI (s_many n F (nI i5))) rfl dX2_isSame_262 ?_
                refine rv_iast (k := (4 + i5)) hx hb hK hPt hDt hS 0 0 rfl rfl (show 4 + i5 < 9 by omega) (by omega) dX2_isSame_263 (fun H locs hPt hDt hS => ?_)
                have hPt : va_P (dC, dI) vwCl ([(q178, .inl (cI, 9, .inl (upd g5 (4 + i5) (nI (s_many n F (nI i5)))))), (q249, .inl (cI, (s_many n F (nI i5)), .inl (f249)))]) H := hPt
                have hDt : va_D A ([(q178, .inl (cI, 9, .inl (upd g5 (4 + i5) (nI (s_many n F (nI i5)))))), (q249, .inl (cI, (s_many n F (nI i5)), .inl (f249)))]) := hDt
                have hPW := keepS hP0 hAn hS
                have hPB := P_l hPW
                have hP := P_r hPW
                refine lv_iconst (v := 0) hx hb dX2_isSame_264 (by decide) ?_
                refine lv_istore (lv' := [(7, .int 0), (6, .ref q249), (5, .int (nI i5)), (4, .ref q178), (3, .int x3), (2, .int x2), (0, .ref h), (1, .ref mb)]) hx hb dX2_isSame_265 hl (by decide) rfl (fun ls hl => ?_)
                have L_267 : ∀ (kk7 k7 : Nat), k7 + kk7 = (s_many n F (nI i5)) → ∀ (H : Heap) (locs : List Loc), va_P (dC, dI) vwCl ([(q178, .inl (cI, 9, .inl (upd g5 (4 + i5) (nI (s_many n F (nI i5)))))), (q249, .inl (cI, (s_many n F (nI i5)), .inl (f249)))]) H → va_D A ([(q178, .inl (cI, 9, .inl (upd g5 (4 + i5) (nI (s_many n F (nI i5)))))), (q249, .inl (cI, (s_many n F (nI i5)), .inl (f249)))]) → va_S A s.heap H locs → ∀ (ls : Array Slot), lv_has ls 8 [(7, .int (nI k7)), (6, .ref q249), (5, .int (nI i5)), (4, .ref q178), (3, .int x3), (2, .int x2), (0, .ref h), (1, .ref mb)] → W p l e (headSpec wsX2_isSame ({ frames := 6, cells := 724, slots := 6525, locals := 127 } : Room)).room s m ([.ref h, .ref mb] : List Value).toArray below meth c H locs (433 + 1 * i5 + 1 + 0 * k7) (3897 + 12 * i5 + 12 + 0 * k7) (MQ below (va_Qi (fun r (_ : Unit) => r = 1) (fun _ _ => True) A) ([.ref h, .ref mb] : List Value).toArray s 724 6525 A) (F0 m 267 ls []) := by
                  intro kk7
                  induction kk7 with
                  | zero =>
                    intro k7 e_k7 H locs hPt hDt hS ls hl
                    have hPW := keepS hP0 hAn hS
                    have hPB := P_l hPW
                    have hP := P_r hPW
                    refine lv_iload hx hb dX2_isSame_267 (lv_at hl 0 rfl) ?_
                    refine lv_aload hx hb dX2_isSame_269 (lv_at hl 1 rfl) ?_
                    refine va_alen hx hb hK hPt 1 0 rfl rfl (v := nI (s_many n F (nI i5))) rfl dX2_isSame_271 ?_
                    refine rv_icmp_ge (tgt := 319) hx hb (a := k7) (b := (s_many n F (nI i5))) (by omega) (by omega) dX2_isSame_272 (by decide) (fun c_272 => ?_) (fun c_272 => ?_)
                    · refine lv_iinc (v := nI (i5 + 1)) (lv' := [(5, .int (nI (i5 + 1))), (7, .int (nI k7)), (6, .ref q249), (4, .ref q178), (3, .int x3), (2, .int x2), (0, .ref h), (1, .ref mb)]) hx hb dX2_isSame_319 hl (k := 2) rfl (nI_add i5 1) (by decide) rfl (fun ls hl => ?_)
                      refine lv_goto (tgt := 240) hx hb dX2_isSame_322 (by decide) ?_
                      refine W.widen (k := 433 + 1 * (i5 + 1)) (n := 3897 + 12 * (i5 + 1)) (by omega) (by omega) ?_
                      have hPt := hPt.sub (ws' := [(q178, .inl (cI, 9, .inl (upd g5 (4 + i5) (nI (s_many n F (nI i5))))))]) [0] rfl
                      have hDt := hDt.sub (ws' := [(q178, .inl (cI, 9, .inl (upd g5 (4 + i5) (nI (s_many n F (nI i5))))))]) [0] (by decide) rfl
                      exact ih_240 (i5 + 1) (upd g5 (4 + i5) (nI (s_many n F (nI i5)))) (by omega) (C9_s hg5 (by omega)) _ _ hPt hDt hS ls (lv_sub hl [0, 3, 4, 5, 6, 7] rfl)
                    · exact absurd c_272 (by omega)
                  | succ kk7 ih_267 =>
                    intro k7 e_k7 H locs hPt hDt hS ls hl
                    have hPW := keepS hP0 hAn hS
                    have hPB := P_l hPW
                    have hP := P_r hPW
                    refine lv_iload hx hb dX2_isSame_267 (lv_at hl 0 rfl) ?_
                    refine lv_aload hx hb dX2_isSame_269 (lv_at hl 1 rfl) ?_
                    refine va_alen hx hb hK hPt 1 0 rfl rfl (v := nI (s_many n F (nI i5))) rfl dX2_isSame_271 ?_
                    refine rv_icmp_ge (tgt := 319) hx hb (a := k7) (b := (s_many n F (nI i5))) (by omega) (by omega) dX2_isSame_272 (by decide) (fun c_272 => ?_) (fun c_272 => ?_)
                    · exact absurd c_272 (by omega)
                    · obtain ⟨w7, i_w7, f_7, g_7, p_7, t_7⟩ := ho249 k7 (by omega)
                      refine lv_aload_n hx hb dX2_isSame_275 rfl (lv_at hl 7 rfl) ?_
                      refine lv_iload hx hb dX2_isSame_276 (lv_at hl 2 rfl) ?_
                      refine lv_iload hx hb dX2_isSame_278 (lv_at hl 0 rfl) ?_
                      refine lv_iconst (v := 1) hx hb dX2_isSame_280 (by decide) ?_
                      refine lv_iadd hx hb dX2_isSame_281 ?_
                      refine rv_top (y := nI (k7 + 1)) (nI_1 k7) ?_
                      refine vp_callSi (W.runV (As := [.int (nI i5), .int (nI (k7 + 1))]) (rest := []) ⟨hx, hb, hml, hown, hts⟩ (c_X1_atK l dC dI cI mb r1 d1 r2 d2 rc n F n2 G ct ch (nI i5) (nI (k7 + 1)) w7 t_7 (lg_in (show i5 < 3 by omega)) hn) (cwV 2 hts gX2_isSame_X1_at rfl rfl rfl (by decide +kernel) ⟨Nat.le_of_ble_eq_true rfl, Nat.le_of_ble_eq_true rfl⟩) ⟨PR.blind, va_recv (hK.sub (tys' := [(cI, .int)]) [0] rfl) hPB (ci := 1) (q0 := 0) rfl rfl, fun U hU hW => ⟨rfl, PR.go hPB (hK.sub (tys' := [(cI, .int)]) [0] rfl) hE hS hU hW⟩⟩ rfl rfl hl.1 rfl (lv_room (Nat.le_of_ble_eq_true rfl)) dX2_isSame_282 ⟨(by show _ ≤ 724; omega), (by show _ ≤ 6525; omega)⟩) (fun r hr0 => ?_)
                      subst hr0
                      refine lv_aload hx hb dX2_isSame_285 (lv_at hl 1 rfl) ?_
                      refine lv_iload hx hb dX2_isSame_287 (lv_at hl 0 rfl) ?_
                      refine rv_iald (k := k7) hx hb hK hPt 1 0 rfl rfl (show k7 < (s_many n F (nI i5)) by omega) (by omega) dX2_isSame_289 ?_
                      refine rv_top (y := nI w7) f_7 ?_
                      refine lv_icmp_ne (tgt := 311) hx hb dX2_isSame_290 (by decide) (fun c_290 => ?_) (fun c_290 => ?_)
                      · exact absurd rfl c_290
                      · refine lv_aload_n hx hb dX2_isSame_293 rfl (lv_at hl 7 rfl) ?_
                        refine lv_aload hx hb dX2_isSame_294 (lv_at hl 1 rfl) ?_
                        refine lv_iload hx hb dX2_isSame_296 (lv_at hl 0 rfl) ?_
                        refine rv_iald (k := k7) hx hb hK hPt 1 0 rfl rfl (show k7 < (s_many n F (nI i5)) by omega) (by omega) dX2_isSame_298 ?_
                        refine rv_top (y := nI w7) f_7 ?_
                        refine lv_bipush (v := 7) hx hb dX2_isSame_299 (by decide) ?_
                        refine vp_callSi (W.runV (As := [.int (nI w7), .int 7]) (rest := []) ⟨hx, hb, hml, hown, hts⟩ (c_X1_toldK l dC dI cI mb r1 d1 r2 d2 rc n F n2 G ct ch w7 (show w7 < n by omega) 7 (show 7 < 9 by omega) hn) (cwV 2 hts gX2_isSame_X1_told rfl rfl rfl (by decide +kernel) ⟨Nat.le_of_ble_eq_true rfl, Nat.le_of_ble_eq_true rfl⟩) ⟨PR.blind, va_recv (hK.sub (tys' := [(cI, .int)]) [0] rfl) hPB (ci := 1) (q0 := 0) rfl rfl, fun U hU hW => ⟨rfl, PR.go hPB (hK.sub (tys' := [(cI, .int)]) [0] rfl) hE hS hU hW⟩⟩ rfl rfl hl.1 rfl (lv_room (Nat.le_of_ble_eq_true rfl)) dX2_isSame_301 ⟨(by show _ ≤ 724; omega), (by show _ ≤ 6525; omega)⟩) (fun r hr0 => ?_)
                        subst hr0
                        refine lv_iload hx hb dX2_isSame_304 (lv_at hl 0 rfl) ?_
                        refine lv_iconst (v := 1) hx hb dX2_isSame_306 (by decide) ?_
                        refine lv_iadd hx hb dX2_isSame_307 ?_
                        refine rv_top (y := nI (k7 + 1)) (nI_1 k7) ?_
                        refine lv_icmp_eq (tgt := 313) hx hb dX2_isSame_308 (by decide) (fun c_308 => ?_) (fun c_308 => ?_)
                        · refine lv_iinc (v := nI (k7 + 1)) (lv' := [(7, .int (nI (k7 + 1))), (6, .ref q249), (5, .int (nI i5)), (4, .ref q178), (3, .int x3), (2, .int x2), (0, .ref h), (1, .ref mb)]) hx hb dX2_isSame_313 hl (k := 0) rfl (nI_add k7 1) (by decide) rfl (fun ls hl => ?_)
                          refine lv_goto (tgt := 267) hx hb dX2_isSame_316 (by decide) ?_
                          refine W.widen (k := 433 + 1 * i5 + 1 + 0 * (k7 + 1)) (n := 3897 + 12 * i5 + 12 + 0 * (k7 + 1)) (by omega) (by omega) ?_
                          exact ih_267 (k7 + 1) (by omega) _ _ hPt hDt hS ls (lv_sub hl [0, 1, 2, 3, 4, 5, 6, 7] rfl)
                        · exact absurd (show s_told n F w7 (nI 7) = nI (k7 + 1) from by rw [← p_7]; rfl) c_308
                refine W.widen (k := 433 + 1 * i5 + 1 + 0 * 0) (n := 3897 + 12 * i5 + 12 + 0 * 0) (by omega) (by omega) ?_
                exact L_267 (s_many n F (nI i5)) 0 (by omega) _ _ hPt hDt hS ls (lv_sub hl [0, 1, 2, 3, 4, 5, 6, 7] rfl)
          refine W.widen (k := 433 + 1 * 0) (n := 3897 + 12 * 0) (by omega) (by omega) ?_
          exact L_240 3 0 (upd (upd (upd (upd (upd (upd (upd (upd (upd (fun _ => 0) 0 (ct 0)) 1 (nI n)) 2 (ct 1)) 3 (ct 2)) 4 0) 5 0) 6 0) 7 (s_hi n F)) 8 x3) (by omega) (C9_0 (by rw [hx3, show w = n by omega]; exact lo_99 hR)) _ _ hPt hDt hS ls (lv_sub hl [0, 1, 2, 3, 4, 5] rfl)
        · exact absurd c_28 (by omega)
      | succ kw ih_21 =>
        intro w x2 x3 e_w hx2 hx3 H locs hS ls hl
        have hPW := keepS hP0 hAn hS
        have hPB := P_l hPW
        have hP := P_r hPW
        refine lv_iload hx hb dX2_isSame_21 (lv_at hl 0 rfl) ?_
        refine lv_aload_n hx hb dX2_isSame_23 rfl (lv_at hl 3 rfl) ?_
        refine va_get (D := (dC, dI)) (ci := 2) (v := .ref al) (C := RX2) (T := TX2) (N := 4) hx hb hts hinX2 hown hK hP 0 rfl rfl 3 (by decide) (hts (.fieldLink RX2 9 "WrestleBookLaw$Sim" "all" "[[I") (by decide +kernel)) (fun _ h9 => h9) rfl dX2_isSame_24 ?_
        refine va_alen hx hb hK hP 1 1 rfl rfl (v := nI n) rfl dX2_isSame_27 ?_
        refine rv_icmp_ge (tgt := 176) hx hb (a := w) (b := n) (by omega) (by omega) dX2_isSame_28 (by decide) (fun c_28 => ?_) (fun c_28 => ?_)
        · exact absurd c_28 (by omega)
        · refine lv_iconst (v := 0) hx hb dX2_isSame_31 (by decide) ?_
          refine lv_istore (lv' := [(5, .int 0), (4, .int (nI w)), (3, .int x3), (2, .int x2), (0, .ref h), (1, .ref mb)]) hx hb dX2_isSame_32 hl (by decide) rfl (fun ls hl => ?_)
          have L_34 : ∀ (kk1 k1 : Nat), k1 + kk1 = 7 → ∀ (H : Heap) (locs : List Loc), va_S A s.heap H locs → ∀ (ls : Array Slot), lv_has ls 8 [(5, .int (nI k1)), (4, .int (nI w)), (3, .int x3), (2, .int x2), (0, .ref h), (1, .ref mb)] → W p l e (headSpec wsX2_isSame ({ frames := 6, cells := 724, slots := 6525, locals := 127 } : Room)).room s m ([.ref h, .ref mb] : List Value).toArray below meth c H locs (0 + 36 * w + 0 * k1) (0 + 324 * w + 0 * k1) (MQ below (va_Qi (fun r (_ : Unit) => r = 1) (fun _ _ => True) A) ([.ref h, .ref mb] : List Value).toArray s 724 6525 A) (F0 m 34 ls []) := by
            intro kk1
            induction kk1 with
            | zero =>
              intro k1 e_k1 H locs hS ls hl
              have hPW := keepS hP0 hAn hS
              have hPB := P_l hPW
              have hP := P_r hPW
              refine lv_iload hx hb dX2_isSame_34 (lv_at hl 0 rfl) ?_
              refine lv_bipush (v := 7) hx hb dX2_isSame_36 (by decide) ?_
              refine rv_icmp_ge (tgt := 70) hx hb (a := k1) (b := 7) (by omega) (by omega) dX2_isSame_38 (by decide) (fun c_38 => ?_) (fun c_38 => ?_)
              · refine lv_aload_n hx hb dX2_isSame_70 rfl (lv_at hl 5 rfl) ?_
                refine lv_iload hx hb dX2_isSame_71 (lv_at hl 1 rfl) ?_
                refine lv_bipush (v := 8) hx hb dX2_isSame_73 (by decide) ?_
                refine vp_callSi (W.runV (As := [.int (nI w), .int 8]) (rest := []) ⟨hx, hb, hml, hown, hts⟩ (c_X1_toldK l dC dI cI mb r1 d1 r2 d2 rc n F n2 G ct ch w (show w < n by omega) 8 (show 8 < 9 by omega) hn) (cwV 2 hts gX2_isSame_X1_told rfl rfl rfl (by decide +kernel) ⟨Nat.le_of_ble_eq_true rfl, Nat.le_of_ble_eq_true rfl⟩) ⟨PR.blind, va_recv (hK.sub (tys' := [(cI, .int)]) [0] rfl) hPB (ci := 1) (q0 := 0) rfl rfl, fun U hU hW => ⟨rfl, PR.go hPB (hK.sub (tys' := [(cI, .int)]) [0] rfl) hE hS hU hW⟩⟩ rfl rfl hl.1 rfl (lv_room (Nat.le_of_ble_eq_true rfl)) dX2_isSame_75 ⟨(by show _ ≤ 724; omega), (by show _ ≤ 6525; omega)⟩) (fun r hr0 => ?_)
                subst hr0
                refine lv_aload_n hx hb dX2_isSame_78 rfl (lv_at hl 4 rfl) ?_
                refine lv_iload hx hb dX2_isSame_79 (lv_at hl 1 rfl) ?_
                refine va_calli (va_runV (As := [.int (nI w)]) (rest := [.int (s_told n F w (nI 8))]) ⟨hx, hb, hml, hown, hts⟩ (c_X2_weight l dC dI cI h al rw cA n F ct H.size w (show w < n by omega) hn) (cwV 1 hts gX2_isSame_X2_weight rfl rfl rfl (by decide +kernel) ⟨Nat.le_of_ble_eq_true rfl, Nat.le_of_ble_eq_true rfl⟩) ⟨PT.blind, va_recv hK hP (ci := 2) (q0 := 0) rfl rfl, fun U hU hW => ⟨rfl, PT.go hP hK hE hS hA hU hW⟩⟩ rfl rfl hl.1 rfl (lv_room (Nat.le_of_ble_eq_true rfl)) dX2_isSame_81 ⟨(by show _ ≤ 724; omega), (by show _ ≤ 6525; omega)⟩) hS (fun q h8 h9 => absurd h9 (Nat.not_le.mpr h8)) (fun q h9 => hA q (Nat.le_trans hS.1 h9)) (fun r u9 t9 H locs ht9 hvm9 hw9 hB9 hz9 hk9 hS => ?_)
                have hP := P_new hP hk9
                have hPB := P_new hPB hk9
                have hw9 : r = s_wt F w := hw9
                subst hw9
                refine lv_icmp_ne (tgt := 102) hx hb dX2_isSame_84 (by decide) (fun c_84 => ?_) (fun c_84 => ?_)
                · exact absurd rfl c_84
                · refine lv_aload_n hx hb dX2_isSame_87 rfl (lv_at hl 5 rfl) ?_
                  refine lv_iload hx hb dX2_isSame_88 (lv_at hl 1 rfl) ?_
                  refine vp_callSi (W.runV (As := [.int (nI w)]) (rest := []) ⟨hx, hb, hml, hown, hts⟩ (c_X1_matchK l dC dI cI mb r1 d1 r2 d2 rc n F n2 G ct ch w (show w < n by omega) hn hR) (cwV 1 hts gX2_isSame_X1_match rfl rfl rfl (by decide +kernel) ⟨Nat.le_of_ble_eq_true rfl, Nat.le_of_ble_eq_true rfl⟩) ⟨PR.blind, va_recv (hK.sub (tys' := [(cI, .int)]) [0] rfl) hPB (ci := 1) (q0 := 0) rfl rfl, fun U hU hW => ⟨rfl, PR.go hPB (hK.sub (tys' := [(cI, .int)]) [0] rfl) hE hS hU hW⟩⟩ rfl rfl hl.1 rfl (lv_room (Nat.le_of_ble_eq_true rfl)) dX2_isSame_90 ⟨(by show _ ≤ 724; omega), (by show _ ≤ 6525; omega)⟩) (fun r hr0 => ?_)
                  subst hr0
                  refine lv_aload_n hx hb dX2_isSame_93 rfl (lv_at hl 4 rfl) ?_
                  refine lv_iload hx hb dX2_isSame_94 (lv_at hl 1 rfl) ?_
                  refine va_calli (va_runV (As := [.int (nI w)]) (rest := [.int (oI (s_match n F w))]) ⟨hx, hb, hml, hown, hts⟩ (c_X2_match l dC dI cI h al rw cA n F ct H.size w (show w < n by omega) hn hR) (cwV 1 hts gX2_isSame_X2_match rfl rfl rfl (by decide +kernel) ⟨Nat.le_of_ble_eq_true rfl, Nat.le_of_ble_eq_true rfl⟩) ⟨PT.blind, va_recv hK hP (ci := 2) (q0 := 0) rfl rfl, fun U hU hW => ⟨rfl, PT.go hP hK hE hS hA hU hW⟩⟩ rfl rfl hl.1 rfl (lv_room (Nat.le_of_ble_eq_true rfl)) dX2_isSame_96 ⟨(by show _ ≤ 724; omega), (by show _ ≤ 6525; omega)⟩) hS (fun q h8 h9 => absurd h9 (Nat.not_le.mpr h8)) (fun q h9 => hA q (Nat.le_trans hS.1 h9)) (fun r u9 t9 H locs ht9 hvm9 hw9 hB9 hz9 hk9 hS => ?_)
                  have hP := P_new hP hk9
                  have hPB := P_new hPB hk9
                  have hw9 : r = oI (s_match n F w) := hw9
                  subst hw9
                  refine lv_icmp_eq (tgt := 104) hx hb dX2_isSame_99 (by decide) (fun c_99 => ?_) (fun c_99 => ?_)
                  · refine lv_iconst (v := 0) hx hb dX2_isSame_104 (by decide) ?_
                    refine lv_istore (lv' := [(5, .int 0), (4, .int (nI w)), (3, .int x3), (2, .int x2), (0, .ref h), (1, .ref mb)]) hx hb dX2_isSame_105 hl (by decide) rfl (fun ls hl => ?_)
                    have L_107 : ∀ (ko o : Nat), o + ko = n → ∀ (H : Heap) (locs : List Loc), va_S A s.heap H locs → ∀ (ls : Array Slot), lv_has ls 8 [(5, .int (nI o)), (4, .int (nI w)), (3, .int x3), (2, .int x2), (0, .ref h), (1, .ref mb)] → W p l e (headSpec wsX2_isSame ({ frames := 6, cells := 724, slots := 6525, locals := 127 } : Room)).room s m ([.ref h, .ref mb] : List Value).toArray below meth c H locs (0 + 36 * w + 24 + 1 * o) (0 + 324 * w + 216 + 9 * o) (MQ below (va_Qi (fun r (_ : Unit) => r = 1) (fun _ _ => True) A) ([.ref h, .ref mb] : List Value).toArray s 724 6525 A) (F0 m 107 ls []) := by
                      intro ko
                      induction ko with
                      | zero =>
                        intro o e_o H locs hS ls hl
                        have hPW := keepS hP0 hAn hS
                        have hPB := P_l hPW
                        have hP := P_r hPW
                        refine lv_iload hx hb dX2_isSame_107 (lv_at hl 0 rfl) ?_
                        refine lv_aload_n hx hb dX2_isSame_109 rfl (lv_at hl 4 rfl) ?_
                        refine va_get (D := (dC, dI)) (ci := 2) (v := .ref al) (C := RX2) (T := TX2) (N := 4) hx hb hts hinX2 hown hK hP 0 rfl rfl 3 (by decide) (hts (.fieldLink RX2 9 "WrestleBookLaw$Sim" "all" "[[I") (by decide +kernel)) (fun _ h9 => h9) rfl dX2_isSame_110 ?_
                        refine va_alen hx hb hK hP 1 1 rfl rfl (v := nI n) rfl dX2_isSame_113 ?_
                        refine rv_icmp_ge (tgt := 144) hx hb (a := o) (b := n) (by omega) (by omega) dX2_isSame_114 (by decide) (fun c_114 => ?_) (fun c_114 => ?_)
                        · refine lv_iload_n hx hb dX2_isSame_144 rfl (lv_at hl 3 rfl) ?_
                          refine lv_aload_n hx hb dX2_isSame_145 rfl (lv_at hl 4 rfl) ?_
                          refine va_get (D := (dC, dI)) (ci := 2) (v := .ref al) (C := RX2) (T := TX2) (N := 4) hx hb hts hinX2 hown hK hP 0 rfl rfl 3 (by decide) (hts (.fieldLink RX2 9 "WrestleBookLaw$Sim" "all" "[[I") (by decide +kernel)) (fun _ h9 => h9) rfl dX2_isSame_146 ?_
                          refine lv_iload hx hb dX2_isSame_149 (lv_at hl 1 rfl) ?_
                          refine rv_aald (k := w) hx hb hK hP 1 1 rfl rfl (show w < n by omega) (by omega) dX2_isSame_151 ?_
                          refine lv_iconst (v := 0) hx hb dX2_isSame_152 (by decide) ?_
                          refine rv_iald (k := 0) hx hb hK hP (2 + w) 0 (rl_get rfl (show w < n by omega)) rfl (by decide) (by decide) dX2_isSame_153 ?_
                          refine rv_top (y := F 1 w) rfl ?_
                          refine lv_iadd hx hb dX2_isSame_154 ?_
                          refine lv_istore_n (lv' := [(2, .int (x2 + (F 1 w))), (5, .int (nI o)), (4, .int (nI w)), (3, .int x3), (0, .ref h), (1, .ref mb)]) hx hb dX2_isSame_155 rfl hl (by decide) rfl (fun ls hl => ?_)
                          refine lv_iload_n hx hb dX2_isSame_156 rfl (lv_at hl 3 rfl) ?_
                          refine lv_aload_n hx hb dX2_isSame_157 rfl (lv_at hl 4 rfl) ?_
                          refine va_get (D := (dC, dI)) (ci := 2) (v := .ref al) (C := RX2) (T := TX2) (N := 4) hx hb hts hinX2 hown hK hP 0 rfl rfl 3 (by decide) (hts (.fieldLink RX2 9 "WrestleBookLaw$Sim" "all" "[[I") (by decide +kernel)) (fun _ h9 => h9) rfl dX2_isSame_158 ?_
                          refine lv_iload hx hb dX2_isSame_161 (lv_at hl 2 rfl) ?_
                          refine rv_aald (k := w) hx hb hK hP 1 1 rfl rfl (show w < n by omega) (by omega) dX2_isSame_163 ?_
                          refine lv_iconst (v := 0) hx hb dX2_isSame_164 (by decide) ?_
                          refine rv_iald (k := 0) hx hb hK hP (2 + w) 0 (rl_get rfl (show w < n by omega)) rfl (by decide) (by decide) dX2_isSame_165 ?_
                          refine rv_top (y := F 1 w) rfl ?_
                          refine va_mmin hx hb (hml.trans hl.1.symm) hown (hts (.methodLink RX2 72 Lib.Math.min.name) (by decide +kernel)) (hts (.static Lib.Math.min.name) (by decide +kernel)) (hts (.initialized "java/lang/Math") (by decide +kernel)) (hts (.code Lib.Math.min.name Lib.Math.min.code 2 (some .int)) (by decide +kernel)) (Nat.le_of_ble_eq_true rfl) (Nat.le_of_ble_eq_true rfl) (by show _ ≤ 724; omega) (by show _ ≤ 6525; omega) dX2_isSame_166 ?_
                          refine lv_istore_n (lv' := [(3, .int (if (F 1 w) < x3 then (F 1 w) else x3)), (2, .int (x2 + (F 1 w))), (5, .int (nI o)), (4, .int (nI w)), (0, .ref h), (1, .ref mb)]) hx hb dX2_isSame_169 rfl hl (by decide) rfl (fun ls hl => ?_)
                          refine lv_iinc (v := nI (w + 1)) (lv' := [(4, .int (nI (w + 1))), (3, .int (if (F 1 w) < x3 then (F 1 w) else x3)), (2, .int (x2 + (F 1 w))), (5, .int (nI o)), (0, .ref h), (1, .ref mb)]) hx hb dX2_isSame_170 hl (k := 3) rfl (nI_add w 1) (by decide) rfl (fun ls hl => ?_)
                          refine lv_goto (tgt := 21) hx hb dX2_isSame_173 (by decide) ?_
                          refine W.widen (k := 0 + 36 * (w + 1)) (n := 0 + 324 * (w + 1)) (by omega) (by omega) ?_
                          exact ih_21 (w + 1) (x2 + (F 1 w)) (if (F 1 w) < x3 then (F 1 w) else x3) (by omega) (by rw [hx2]; rfl) (by rw [hx3]; rfl) _ _ hS ls (lv_sub hl [0, 1, 2, 4, 5] rfl)
                        · exact absurd c_114 (by omega)
                      | succ ko ih_107 =>
                        intro o e_o H locs hS ls hl
                        have hPW := keepS hP0 hAn hS
                        have hPB := P_l hPW
                        have hP := P_r hPW
                        refine lv_iload hx hb dX2_isSame_107 (lv_at hl 0 rfl) ?_
                        refine lv_aload_n hx hb dX2_isSame_109 rfl (lv_at hl 4 rfl) ?_
                        refine va_get (D := (dC, dI)) (ci := 2) (v := .ref al) (C := RX2) (T := TX2) (N := 4) hx hb hts hinX2 hown hK hP 0 rfl rfl 3 (by decide) (hts (.fieldLink RX2 9 "WrestleBookLaw$Sim" "all" "[[I") (by decide +kernel)) (fun _ h9 => h9) rfl dX2_isSame_110 ?_
                        refine va_alen hx hb hK hP 1 1 rfl rfl (v := nI n) rfl dX2_isSame_113 ?_
                        refine rv_icmp_ge (tgt := 144) hx hb (a := o) (b := n) (by omega) (by omega) dX2_isSame_114 (by decide) (fun c_114 => ?_) (fun c_114 => ?_)
                        · exact absurd c_114 (by omega)
                        · refine lv_aload_n hx hb dX2_isSame_117 rfl (lv_at hl 5 rfl) ?_
                          refine lv_iload hx hb dX2_isSame_118 (lv_at hl 1 rfl) ?_
                          refine lv_iload hx hb dX2_isSame_120 (lv_at hl 0 rfl) ?_
                          refine vp_callSi (W.runV (As := [.int (nI w), .int (nI o)]) (rest := []) ⟨hx, hb, hml, hown, hts⟩ (c_X1_expectedK l dC dI cI mb r1 d1 r2 d2 rc n F n2 G ct ch w (show w < n by omega) o (show o < n by omega) hn hR) (cwV 2 hts gX2_isSame_X1_expected rfl rfl rfl (by decide +kernel) ⟨Nat.le_of_ble_eq_true rfl, Nat.le_of_ble_eq_true rfl⟩) ⟨PR.blind, va_recv (hK.sub (tys' := [(cI, .int)]) [0] rfl) hPB (ci := 1) (q0 := 0) rfl rfl, fun U hU hW => ⟨rfl, PR.go hPB (hK.sub (tys' := [(cI, .int)]) [0] rfl) hE hS hU hW⟩⟩ rfl rfl hl.1 rfl (lv_room (Nat.le_of_ble_eq_true rfl)) dX2_isSame_122 ⟨(by show _ ≤ 724; omega), (by show _ ≤ 6525; omega)⟩) (fun r hr0 => ?_)
                          subst hr0
                          refine lv_aload_n hx hb dX2_isSame_125 rfl (lv_at hl 4 rfl) ?_
                          refine lv_iload hx hb dX2_isSame_126 (lv_at hl 1 rfl) ?_
                          refine lv_iload hx hb dX2_isSame_128 (lv_at hl 0 rfl) ?_
                          refine va_calli (va_runV (As := [.int (nI w), .int (nI o)]) (rest := [.int (s_exp F w o)]) ⟨hx, hb, hml, hown, hts⟩ (c_X2_expected l dC dI cI h al rw cA n F ct H.size w (show w < n by omega) o (show o < n by omega) hn hR) (cwV 2 hts gX2_isSame_X2_expected rfl rfl rfl (by decide +kernel) ⟨Nat.le_of_ble_eq_true rfl, Nat.le_of_ble_eq_true rfl⟩) ⟨PT.blind, va_recv hK hP (ci := 2) (q0 := 0) rfl rfl, fun U hU hW => ⟨rfl, PT.go hP hK hE hS hA hU hW⟩⟩ rfl rfl hl.1 rfl (lv_room (Nat.le_of_ble_eq_true rfl)) dX2_isSame_130 ⟨(by show _ ≤ 724; omega), (by show _ ≤ 6525; omega)⟩) hS (fun q h8 h9 => absurd h9 (Nat.not_le.mpr h8)) (fun q h9 => hA q (Nat.le_trans hS.1 h9)) (fun r u9 t9 H locs ht9 hvm9 hw9 hB9 hz9 hk9 hS => ?_)
                          have hP := P_new hP hk9
                          have hPB := P_new hPB hk9
                          have hw9 : r = s_exp F w o := hw9
                          subst hw9
                          refine lv_icmp_eq (tgt := 138) hx hb dX2_isSame_133 (by decide) (fun c_133 => ?_) (fun c_133 => ?_)
                          · refine lv_iinc (v := nI (o + 1)) (lv' := [(5, .int (nI (o + 1))), (4, .int (nI w)), (3, .int x3), (2, .int x2), (0, .ref h), (1, .ref mb)]) hx hb dX2_isSame_138 hl (k := 0) rfl (nI_add o 1) (by decide) rfl (fun ls hl => ?_)
                            refine lv_goto (tgt := 107) hx hb dX2_isSame_141 (by decide) ?_
                            refine W.widen (k := 0 + 36 * w + 24 + 1 * (o + 1)) (n := 0 + 324 * w + 216 + 9 * (o + 1)) (by omega) (by omega) ?_
                            exact ih_107 (o + 1) (by omega) _ _ hS ls (lv_sub hl [0, 1, 2, 3, 4, 5] rfl)
                          · exact absurd rfl c_133
                    refine W.widen (k := 0 + 36 * w + 24 + 1 * 0) (n := 0 + 324 * w + 216 + 9 * 0) (by omega) (by omega) ?_
                    exact L_107 n 0 (by omega) _ _ hS ls (lv_sub hl [0, 1, 2, 3, 4, 5] rfl)
                  · exact absurd rfl c_99
              · exact absurd c_38 (by omega)
            | succ kk1 ih_34 =>
              intro k1 e_k1 H locs hS ls hl
              have hPW := keepS hP0 hAn hS
              have hPB := P_l hPW
              have hP := P_r hPW
              refine lv_iload hx hb dX2_isSame_34 (lv_at hl 0 rfl) ?_
              refine lv_bipush (v := 7) hx hb dX2_isSame_36 (by decide) ?_
              refine rv_icmp_ge (tgt := 70) hx hb (a := k1) (b := 7) (by omega) (by omega) dX2_isSame_38 (by decide) (fun c_38 => ?_) (fun c_38 => ?_)
              · exact absurd c_38 (by omega)
              · refine lv_aload_n hx hb dX2_isSame_41 rfl (lv_at hl 5 rfl) ?_
                refine lv_iload hx hb dX2_isSame_42 (lv_at hl 1 rfl) ?_
                refine lv_iload hx hb dX2_isSame_44 (lv_at hl 0 rfl) ?_
                refine vp_callSi (W.runV (As := [.int (nI w), .int (nI k1)]) (rest := []) ⟨hx, hb, hml, hown, hts⟩ (c_X1_toldK l dC dI cI mb r1 d1 r2 d2 rc n F n2 G ct ch w (show w < n by omega) k1 (show k1 < 9 by omega) hn) (cwV 2 hts gX2_isSame_X1_told rfl rfl rfl (by decide +kernel) ⟨Nat.le_of_ble_eq_true rfl, Nat.le_of_ble_eq_true rfl⟩) ⟨PR.blind, va_recv (hK.sub (tys' := [(cI, .int)]) [0] rfl) hPB (ci := 1) (q0 := 0) rfl rfl, fun U hU hW => ⟨rfl, PR.go hPB (hK.sub (tys' := [(cI, .int)]) [0] rfl) hE hS hU hW⟩⟩ rfl rfl hl.1 rfl (lv_room (Nat.le_of_ble_eq_true rfl)) dX2_isSame_46 ⟨(by show _ ≤ 724; omega), (by show _ ≤ 6525; omega)⟩) (fun r hr0 => ?_)
                subst hr0
                refine lv_aload_n hx hb dX2_isSame_49 rfl (lv_at hl 4 rfl) ?_
                refine va_get (D := (dC, dI)) (ci := 2) (v := .ref al) (C := RX2) (T := TX2) (N := 4) hx hb hts hinX2 hown hK hP 0 rfl rfl 3 (by decide) (hts (.fieldLink RX2 9 "WrestleBookLaw$Sim" "all" "[[I") (by decide +kernel)) (fun _ h9 => h9) rfl dX2_isSame_50 ?_
                refine lv_iload hx hb dX2_isSame_53 (lv_at hl 1 rfl) ?_
                refine rv_aald (k := w) hx hb hK hP 1 1 rfl rfl (show w < n by omega) (by omega) dX2_isSame_55 ?_
                refine lv_iload hx hb dX2_isSame_56 (lv_at hl 0 rfl) ?_
                refine rv_iald (k := k1) hx hb hK hP (2 + w) 0 (rl_get rfl (show w < n by omega)) rfl (show k1 < 7 by omega) (by decide) dX2_isSame_58 ?_
                refine rv_top (y := F (sw k1) w) rfl ?_
                refine lv_icmp_eq (tgt := 64) hx hb dX2_isSame_59 (by decide) (fun c_59 => ?_) (fun c_59 => ?_)
                · refine lv_iinc (v := nI (k1 + 1)) (lv' := [(5, .int (nI (k1 + 1))), (4, .int (nI w)), (3, .int x3), (2, .int x2), (0, .ref h), (1, .ref mb)]) hx hb dX2_isSame_64 hl (k := 0) rfl (nI_add k1 1) (by decide) rfl (fun ls hl => ?_)
                  refine lv_goto (tgt := 34) hx hb dX2_isSame_67 (by decide) ?_
                  refine W.widen (k := 0 + 36 * w + 0 * (k1 + 1)) (n := 0 + 324 * w + 0 * (k1 + 1)) (by omega) (by omega) ?_
                  exact ih_34 (k1 + 1) (by omega) _ _ hS ls (lv_sub hl [0, 1, 2, 3, 4, 5] rfl)
                · exact absurd (told_sw (show k1 < 7 by omega)) c_59
          refine W.widen (k := 0 + 36 * w + 0 * 0) (n := 0 + 324 * w + 0 * 0) (by omega) (by omega) ?_
          exact L_34 7 0 (by omega) _ _ hS ls (lv_sub hl [0, 1, 2, 3, 4, 5] rfl)
    refine W.widen (k := 0 + 36 * 0) (n := 0 + 324 * 0) (by omega) (by omega) ?_
    exact L_21 n 0 0 0 (by omega) rfl (by rw [s_loU, fo_0]; simp [hn0]) _ _ hS ls (lv_sub hl [0, 1, 2, 3, 4] rfl)
