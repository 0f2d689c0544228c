/-! The law: the cases without a helper -/
theorem En.drawn {A : Nat → Prop} {s : State} {d : Drawn} (h : En A s s.heap) : En A (s.setDrawn d) (s.setDrawn d).heap := by
  obtain ⟨⟨t1, a1, a2⟩, ⟨t2, b1, b2⟩, h3, h4, h5, h6⟩ := h
  have hvm : s.vm.Alike (s.setDrawn d).vm := Vm.Alike.refl s.vm
  exact ⟨⟨t1, va_Z.moved hvm a1, va_T.moved hvm a2⟩, ⟨t2, va_Z.moved hvm b1, va_T.moved hvm b2⟩,
    fun w hw => va_Nw.same (eW_on w hw) (rfl : s.vm = (s.setDrawn d).vm) (h3 w hw), fun q hq => (h4 q hq).elim fun a' ha => ⟨a', vk_R.same (rfl : (s.setDrawn d).vm = s.vm) ha⟩, vx_Zq.moved hvm h5, vx_Zq.moved hvm h6⟩
set_option maxHeartbeats 4000000 in
set_option maxRecDepth 100000 in
theorem law_end {p : Program} {l : Launch} {e : Env} {s : State} {m : MethodId} {below : List Frame} {meth : Method} {c : Code} {b L : Nat} {xs : Nat → Int32} {dC : Nat → ClassId} {dI : Nat → Nat → Nat} {A : Nat → Prop} {h r1 : Nat} {d1 : Nat → Nat} {r2 : Nat} {d2 : Nat → Nat} {rc ao hm q1 : Nat} {e1 : Nat → Nat} {q2 : Nat} {e2 : Nat → Nat} {cI cL : ClassId} {Q : State → Prop} (C : LC p l s m meth c b L xs dC dI A cI cL) {j : Nat} (hj : 5 * j + 5 ≤ L) {n : Nat} {F : Nat → Nat → Int32} {n2 : Nat} {G : Nat → Nat → Int32} {ct ch : Nat → Int32} {O : Nat → Int64} {th : Int32} {n3 : Nat} {G3 : Nat → Nat → Int32} {c3 : Nat → Int32} {H : Heap} {locs : List Loc} (I : LI s dC dI A h r1 d1 r2 d2 rc ao hm q1 e1 q2 e2 cI cL j n F n2 G ct ch O th n3 G3 c3 H locs) {ls : Array Slot} (hl : lv_has ls 9 [(0, .ref b), (1, .ref h), (2, .ref hm), (3, .ref ao), (4, .int (nI (5 * j)))]) (K : KK p l e s m below meth c b dC dI A h r1 d1 r2 d2 rc ao hm q1 e1 q2 e2 cI cL Q j) : W p l e room_1 s m #[Value.ref b] below meth c H locs (40 + 8 * j) (500 + 40 * j) Q (F0 m 316 ls []) := by
  obtain ⟨hx, hb, hr, hml, hown, hts, hX, hbl, hlocks, hl0, hK, hE, hn1, hn2, hbA, hA, hL⟩ := C
  obtain ⟨hP, hD, hS, hn, hR, hK0⟩ := I
  have hKi := hK.sub (tys' := [(cI, .int)]) [0] rfl
  refine lv_aload_n hx hb dL_law_316 rfl (lv_at hl 1 rfl) ?_
  have hPc := hP.sub (ws' := wB h r1 d1 r2 d2 rc cI n F n2 G ct ch) [0, 1, 2, 3, 4, 5, 6, 7, 8, 9, 10, 11, 12, 13, 14, 15, 16, 17] rfl
  have hDc := hD.sub (ws' := wB h r1 d1 r2 d2 rc cI n F n2 G ct ch) [0, 1, 2, 3, 4, 5, 6, 7, 8, 9, 10, 11, 12, 13, 14, 15, 16, 17] (by decide) rfl
  have hFc := va_free (wc := wB h r1 d1 r2 d2 rc cI n F n2 G ct ch) hD hS hA [0, 1, 2, 3, 4, 5, 6, 7, 8, 9, 10, 11, 12, 13, 14, 15, 16, 17] rfl
  refine va_calli (va_runV (As := []) (rest := []) ⟨hx, hb, hml, hown, hts⟩ (c_X1_end l dC dI cI h r1 d1 r2 d2 rc n F n2 G ct ch H.size hn) (cwV 0 hts gL_law_X1_end rfl rfl rfl (by decide +kernel) ⟨Nat.le_of_ble_eq_true rfl, Nat.le_of_ble_eq_true rfl⟩) ⟨PW.blind, va_recv hKi hPc (ci := 1) (q0 := 0) rfl rfl, fun U hU hW => ⟨rfl, PW.go hPc hKi hDc hE hS hFc hU hW⟩⟩ rfl rfl hl.1 rfl (lv_room (Nat.le_of_ble_eq_true rfl)) dL_law_317 ⟨(show 40 + 8 * j + 0 ≤ 601024 by omega), (show 500 + 40 * j + 0 ≤ 7293034 by omega)⟩) hS (fun q _ h9 => hFc q h9) hFc (fun r9 u9 t9 H1 locs ht9 hvm9 hw9 hB9 hz9 hk9 hS => ?_)
  have hw9 : r9 = (s_endU n (s_drift n F) 2).2 := hw9
  subst hw9
  obtain ⟨hP9, hD9⟩ := hB9
  rw [ht9] at hP9
  obtain ⟨hP, hD⟩ := va_join (wr := (ao, .inl (cL, 1, .inr (.inl O))) :: wM hm q1 e1 q2 e2 cI th n F ct n3 G3 c3) (w1 := wB h r1 d1 r2 d2 rc cI n (s_clear n (s_endU n (s_drift n F) 2).1) n2 G (upd ct 0 (ct 0 + 1)) ch) hP hD [0, 1, 2, 3, 4, 5, 6, 7, 8, 9, 10, 11, 12, 13, 14, 15, 16, 17] [18, 19, 20, 21, 22, 23, 24, 25, 26, 27, 28, 29, 30, 31, 32, 33, 34, 35] rfl rfl (by decide) (by decide) hk9 hFc hP9 hD9
  have hP := hP.sub (ws' := ((wB h r1 d1 r2 d2 rc cI n (s_clear n (s_endU n (s_drift n F) 2).1) n2 G (upd ct 0 (ct 0 + 1)) ch) ++ [(ao, .inl (cL, 1, .inr (.inl O)))]) ++ wM hm q1 e1 q2 e2 cI th n F ct n3 G3 c3) [18, 19, 20, 21, 22, 23, 24, 25, 26, 27, 28, 29, 30, 31, 32, 33, 34, 35, 0, 1, 2, 3, 4, 5, 6, 7, 8, 9, 10, 11, 12, 13, 14, 15, 16, 17] rfl
  have hD := hD.sub (ws' := ((wB h r1 d1 r2 d2 rc cI n (s_clear n (s_endU n (s_drift n F) 2).1) n2 G (upd ct 0 (ct 0 + 1)) ch) ++ [(ao, .inl (cL, 1, .inr (.inl O)))]) ++ wM hm q1 e1 q2 e2 cI th n F ct n3 G3 c3) [18, 19, 20, 21, 22, 23, 24, 25, 26, 27, 28, 29, 30, 31, 32, 33, 34, 35, 0, 1, 2, 3, 4, 5, 6, 7, 8, 9, 10, 11, 12, 13, 14, 15, 16, 17] (by decide) rfl
  refine lv_aload_n hx hb dL_law_320 rfl (lv_at hl 2 rfl) ?_
  have hPc := hP.sub (ws' := wM hm q1 e1 q2 e2 cI th n F ct n3 G3 c3) [19, 20, 21, 22, 23, 24, 25, 26, 27, 28, 29, 30, 31, 32, 33, 34, 35] rfl
  have hDc := hD.sub (ws' := wM hm q1 e1 q2 e2 cI th n F ct n3 G3 c3) [19, 20, 21, 22, 23, 24, 25, 26, 27, 28, 29, 30, 31, 32, 33, 34, 35] (by decide) rfl
  have hFc := va_free (wc := wM hm q1 e1 q2 e2 cI th n F ct n3 G3 c3) hD hS hA [19, 20, 21, 22, 23, 24, 25, 26, 27, 28, 29, 30, 31, 32, 33, 34, 35] rfl
  refine va_calli (va_runV (As := []) (rest := [.int ((s_endU n (s_drift n F) 2).2)]) ⟨hx, hb, hml, hown, hts⟩ (c_X3_end l dC dI cI hm q1 e1 q2 e2 th n F ct n3 G3 c3 H1.size hn) (cwV 0 hts gL_law_X3_end rfl rfl rfl (by decide +kernel) ⟨Nat.le_of_ble_eq_true rfl, Nat.le_of_ble_eq_true rfl⟩) ⟨PW.blind, va_recv hKi hPc (ci := 3) (q0 := 0) rfl rfl, fun U hU hW => ⟨rfl, PW.go hPc hKi hDc hE hS hFc hU hW⟩⟩ rfl rfl hl.1 rfl (lv_room (Nat.le_of_ble_eq_true rfl)) dL_law_321 ⟨(show 40 + 8 * j + 0 ≤ 601024 by omega), (show 500 + 40 * j + 0 ≤ 7293034 by omega)⟩) hS (fun q _ h9 => hFc q h9) hFc (fun r8 u9 t9 H2 locs ht9 hvm9 hw9 hB9 hz9 hk9 hS => ?_)
  have hw9 : r8 = (s_endU n (s_drift n F) 2).2 := hw9
  subst hw9
  obtain ⟨hP9, hD9⟩ := hB9
  rw [ht9] at hP9
  obtain ⟨hP, hD⟩ := va_join (wr := ((wB h r1 d1 r2 d2 rc cI n (s_clear n (s_endU n (s_drift n F) 2).1) n2 G (upd ct 0 (ct 0 + 1)) ch) ++ [(ao, .inl (cL, 1, .inr (.inl O)))])) (w1 := wM hm q1 e1 q2 e2 cI 0 n (s_clear n (s_endU n (s_drift n F) 2).1) (upd ct 0 (ct 0 + 1)) n3 G3 c3) hP hD [19, 20, 21, 22, 23, 24, 25, 26, 27, 28, 29, 30, 31, 32, 33, 34, 35] [0, 1, 2, 3, 4, 5, 6, 7, 8, 9, 10, 11, 12, 13, 14, 15, 16, 17, 18] rfl rfl (by decide) (by decide) hk9 hFc hP9 hD9
  refine lv_icmp_eq (tgt := 941) hx hb dL_law_324 (by decide) (fun _ => ?_) (fun q => absurd rfl q)
  refine W.widen (k := 40 + 8 * (j + 1)) (n := 500 + 40 * (j + 1)) (by omega) (by omega) ?_
  exact K _ _ _ _ _ _ _ _ _ _ _ _ _ ls ⟨hP, hD, hS, hn, okR_end hR, (okK_end hK0).mono (Nat.le_succ j)⟩ hl

set_option maxHeartbeats 4000000 in
set_option maxRecDepth 100000 in
theorem law_next {p : Program} {l : Launch} {e : Env} {s : State} {m : MethodId} {below : List Frame} {meth : Method} {c : Code} {b L : Nat} {xs : Nat → Int32} {dC : Nat → ClassId} {dI : Nat → Nat → Nat} {A : Nat → Prop} {h r1 : Nat} {d1 : Nat → Nat} {r2 : Nat} {d2 : Nat → Nat} {rc ao hm q1 : Nat} {e1 : Nat → Nat} {q2 : Nat} {e2 : Nat → Nat} {cI cL : ClassId} {Q : State → Prop} (C : LC p l s m meth c b L xs dC dI A cI cL) {j : Nat} (hj : 5 * j + 5 ≤ L) {n : Nat} {F : Nat → Nat → Int32} {n2 : Nat} {G : Nat → Nat → Int32} {ct ch : Nat → Int32} {O : Nat → Int64} {th : Int32} {n3 : Nat} {G3 : Nat → Nat → Int32} {c3 : Nat → Int32} {H : Heap} {locs : List Loc} (I : LI s dC dI A h r1 d1 r2 d2 rc ao hm q1 e1 q2 e2 cI cL j n F n2 G ct ch O th n3 G3 c3 H locs) {ls : Array Slot} (hl : lv_has ls 9 [(0, .ref b), (1, .ref h), (2, .ref hm), (3, .ref ao), (4, .int (nI (5 * j)))]) (K : KK p l e s m below meth c b dC dI A h r1 d1 r2 d2 rc ao hm q1 e1 q2 e2 cI cL Q j) : W p l e room_1 s m #[Value.ref b] below meth c H locs (40 + 8 * j) (500 + 40 * j) Q (F0 m 817 ls []) := by
  obtain ⟨hx, hb, hr, hml, hown, hts, hX, hbl, hlocks, hl0, hK, hE, hn1, hn2, hbA, hA, hL⟩ := C
  obtain ⟨hP, hD, hS, hn, hR, hK0⟩ := I
  have hKi := hK.sub (tys' := [(cI, .int)]) [0] rfl
  have hB0 : okB n F := (hK0.sub hn).B (show j ≤ 100000 by omega)
  refine lv_aload_n hx hb dL_law_817 rfl (lv_at hl 1 rfl) ?_
  have hPc := hP.sub (ws' := wB h r1 d1 r2 d2 rc cI n F n2 G ct ch) [0, 1, 2, 3, 4, 5, 6, 7, 8, 9, 10, 11, 12, 13, 14, 15, 16, 17] rfl
  refine vp_callSi (W.runV (As := []) (rest := []) ⟨hx, hb, hml, hown, hts⟩ (c_X1_next l dC dI cI h r1 d1 r2 d2 rc n F n2 G ct ch hn hR) (cwV 0 hts gL_law_X1_next rfl rfl rfl (by decide +kernel) ⟨Nat.le_of_ble_eq_true rfl, Nat.le_of_ble_eq_true rfl⟩) ⟨PR.blind, va_recv hKi hPc (ci := 1) (q0 := 0) rfl rfl, fun U hU hW => ⟨rfl, PR.go hPc hKi hE hS hU hW⟩⟩ rfl rfl hl.1 rfl (lv_room (Nat.le_of_ble_eq_true rfl)) dL_law_818 ⟨(show 40 + 8 * j + 0 ≤ 601024 by omega), (show 500 + 40 * j + 0 ≤ 7293034 by omega)⟩) (fun r7 hr7 => ?_)
  subst hr7
  refine lv_aload_n hx hb dL_law_821 rfl (lv_at hl 2 rfl) ?_
  have hPc := hP.sub (ws' := wM hm q1 e1 q2 e2 cI th n F ct n3 G3 c3) [19, 20, 21, 22, 23, 24, 25, 26, 27, 28, 29, 30, 31, 32, 33, 34, 35] rfl
  have hDc := hD.sub (ws' := wM hm q1 e1 q2 e2 cI th n F ct n3 G3 c3) [19, 20, 21, 22, 23, 24, 25, 26, 27, 28, 29, 30, 31, 32, 33, 34, 35] (by decide) rfl
  have hFc := va_free (wc := wM hm q1 e1 q2 e2 cI th n F ct n3 G3 c3) hD hS hA [19, 20, 21, 22, 23, 24, 25, 26, 27, 28, 29, 30, 31, 32, 33, 34, 35] rfl
  refine va_calli (va_runV (As := []) (rest := [.int (s_next n F)]) ⟨hx, hb, hml, hown, hts⟩ (c_X3_next l dC dI cI hm q1 e1 q2 e2 th n F ct n3 G3 c3 H.size hn hR hB0) (cwV 0 hts gL_law_X3_next rfl rfl rfl (by decide +kernel) ⟨Nat.le_of_ble_eq_true rfl, Nat.le_of_ble_eq_true rfl⟩) ⟨PW.blind, va_recv hKi hPc (ci := 3) (q0 := 0) rfl rfl, fun U hU hW => ⟨rfl, PW.go hPc hKi hDc hE hS hFc hU hW⟩⟩ rfl rfl hl.1 rfl (lv_room (Nat.le_of_ble_eq_true rfl)) dL_law_822 ⟨(show 40 + 8 * j + 0 ≤ 601024 by omega), (show 500 + 40 * j + 0 ≤ 7293034 by omega)⟩) hS (fun q _ h9 => hFc q h9) hFc (fun r8 u9 t9 H2 locs ht9 hvm9 hw9 hB9 hz9 hk9 hS => ?_)
  have hw9 : r8 = s_next n F := hw9
  subst hw9
  obtain ⟨hP9, hD9⟩ := hB9
  rw [ht9] at hP9
  obtain ⟨hP, hD⟩ := va_join (wr := ((wB h r1 d1 r2 d2 rc cI n F n2 G ct ch) ++ [(ao, .inl (cL, 1, .inr (.inl O)))])) (w1 := wM hm q1 e1 q2 e2 cI 0 n F ct n3 G3 c3) hP hD [19, 20, 21, 22, 23, 24, 25, 26, 27, 28, 29, 30, 31, 32, 33, 34, 35] [0, 1, 2, 3, 4, 5, 6, 7, 8, 9, 10, 11, 12, 13, 14, 15, 16, 17, 18] rfl rfl (by decide) (by decide) hk9 hFc hP9 hD9
  refine lv_icmp_eq (tgt := 941) hx hb dL_law_825 (by decide) (fun _ => ?_) (fun q => absurd rfl q)
  refine W.widen (k := 40 + 8 * (j + 1)) (n := 500 + 40 * (j + 1)) (by omega) (by omega) ?_
  exact K _ _ _ _ _ _ _ _ _ _ _ _ _ ls ⟨hP, hD, hS, hn, hR, hK0.mono (Nat.le_succ j)⟩ hl

set_option maxHeartbeats 4000000 in
set_option maxRecDepth 100000 in
theorem law_digest {p : Program} {l : Launch} {e : Env} {s : State} {m : MethodId} {below : List Frame} {meth : Method} {c : Code} {b L : Nat} {xs : Nat → Int32} {dC : Nat → ClassId} {dI : Nat → Nat → Nat} {A : Nat → Prop} {h r1 : Nat} {d1 : Nat → Nat} {r2 : Nat} {d2 : Nat → Nat} {rc ao hm q1 : Nat} {e1 : Nat → Nat} {q2 : Nat} {e2 : Nat → Nat} {cI cL : ClassId} {Q : State → Prop} (C : LC p l s m meth c b L xs dC dI A cI cL) {j : Nat} (hj : 5 * j + 5 ≤ L) {n : Nat} {F : Nat → Nat → Int32} {n2 : Nat} {G : Nat → Nat → Int32} {ct ch : Nat → Int32} {O : Nat → Int64} {th : Int32} {n3 : Nat} {G3 : Nat → Nat → Int32} {c3 : Nat → Int32} {H : Heap} {locs : List Loc} (I : LI s dC dI A h r1 d1 r2 d2 rc ao hm q1 e1 q2 e2 cI cL j n F n2 G ct ch O th n3 G3 c3 H locs) {ls : Array Slot} (hl : lv_has ls 9 [(0, .ref b), (1, .ref h), (2, .ref hm), (3, .ref ao), (4, .int (nI (5 * j)))]) (K : KK p l e s m below meth c b dC dI A h r1 d1 r2 d2 rc ao hm q1 e1 q2 e2 cI cL Q j) : W p l e room_1 s m #[Value.ref b] below meth c H locs (40 + 8 * j) (500 + 40 * j) Q (F0 m 927 ls []) := by
  obtain ⟨hx, hb, hr, hml, hown, hts, hX, hbl, hlocks, hl0, hK, hE, hn1, hn2, hbA, hA, hL⟩ := C
  obtain ⟨hP, hD, hS, hn, hR, hK0⟩ := I
  have hKi := hK.sub (tys' := [(cI, .int)]) [0] rfl
  have hB0 : okB n F := (hK0.sub hn).B (show j ≤ 100000 by omega)
  refine lv_aload_n hx hb dL_law_927 rfl (lv_at hl 1 rfl) ?_
  have hPc := hP.sub (ws' := wB h r1 d1 r2 d2 rc cI n F n2 G ct ch) [0, 1, 2, 3, 4, 5, 6, 7, 8, 9, 10, 11, 12, 13, 14, 15, 16, 17] rfl
  refine vp_callSl (W.runV (As := []) (rest := []) ⟨hx, hb, hml, hown, hts⟩ (c_X1_digest l dC dI cI h r1 d1 r2 d2 rc n F n2 G ct ch hn hR) (cwV 0 hts gL_law_X1_digest rfl rfl rfl (by decide +kernel) ⟨Nat.le_of_ble_eq_true rfl, Nat.le_of_ble_eq_true rfl⟩) ⟨PR.blind, va_recv hKi hPc (ci := 1) (q0 := 0) rfl rfl, fun U hU hW => ⟨rfl, PR.go hPc hKi hE hS hU hW⟩⟩ rfl rfl hl.1 rfl (lv_room (Nat.le_of_ble_eq_true rfl)) dL_law_928 ⟨(show 40 + 8 * j + 0 ≤ 601024 by omega), (show 500 + 40 * j + 0 ≤ 7293034 by omega)⟩) (fun r7 hr7 => ?_)
  subst hr7
  refine lv_aload_n hx hb dL_law_931 rfl (lv_at hl 2 rfl) ?_
  have hPc := hP.sub (ws' := wM hm q1 e1 q2 e2 cI th n F ct n3 G3 c3) [19, 20, 21, 22, 23, 24, 25, 26, 27, 28, 29, 30, 31, 32, 33, 34, 35] rfl
  have hDc := hD.sub (ws' := wM hm q1 e1 q2 e2 cI th n F ct n3 G3 c3) [19, 20, 21, 22, 23, 24, 25, 26, 27, 28, 29, 30, 31, 32, 33, 34, 35] (by decide) rfl
  have hFc := va_free (wc := wM hm q1 e1 q2 e2 cI th n F ct n3 G3 c3) hD hS hA [19, 20, 21, 22, 23, 24, 25, 26, 27, 28, 29, 30, 31, 32, 33, 34, 35] rfl
  refine va_calll (va_runV (As := []) (rest := [.long (s_dig n F ct)]) ⟨hx, hb, hml, hown, hts⟩ (c_X3_digest l dC dI cI hm q1 e1 q2 e2 th n F ct n3 G3 c3 H.size hn hR hB0) (cwV 0 hts gL_law_X3_digest rfl rfl rfl (by decide +kernel) ⟨Nat.le_of_ble_eq_true rfl, Nat.le_of_ble_eq_true rfl⟩) ⟨PW.blind, va_recv hKi hPc (ci := 3) (q0 := 0) rfl rfl, fun U hU hW => ⟨rfl, PW.go hPc hKi hDc hE hS hFc hU hW⟩⟩ rfl rfl hl.1 rfl (lv_room (Nat.le_of_ble_eq_true rfl)) dL_law_932 ⟨(show 40 + 8 * j + 0 ≤ 601024 by omega), (show 500 + 40 * j + 0 ≤ 7293034 by omega)⟩) hS (fun q _ h9 => hFc q h9) hFc (fun r8 u9 t9 H2 locs ht9 hvm9 hw9 hB9 hz9 hk9 hS => ?_)
  have hw9 : r8 = s_dig n F ct := hw9
  subst hw9
  obtain ⟨hP9, hD9⟩ := hB9
  rw [ht9] at hP9
  obtain ⟨hP, hD⟩ := va_join (wr := ((wB h r1 d1 r2 d2 rc cI n F n2 G ct ch) ++ [(ao, .inl (cL, 1, .inr (.inl O)))])) (w1 := wM hm q1 e1 q2 e2 cI 0 n F ct n3 G3 c3) hP hD [19, 20, 21, 22, 23, 24, 25, 26, 27, 28, 29, 30, 31, 32, 33, 34, 35] [0, 1, 2, 3, 4, 5, 6, 7, 8, 9, 10, 11, 12, 13, 14, 15, 16, 17, 18] rfl rfl (by decide) (by decide) hk9 hFc hP9 hD9
  refine rv_lcmp0 hx hb rfl dL_law_935 ?_
  refine lv_if_eq (tgt := 941) hx hb dL_law_936 (by decide) (fun _ => ?_) (fun q => absurd rfl q)
  refine W.widen (k := 40 + 8 * (j + 1)) (n := 500 + 40 * (j + 1)) (by omega) (by omega) ?_
  exact K _ _ _ _ _ _ _ _ _ _ _ _ _ ls ⟨hP, hD, hS, hn, hR, hK0.mono (Nat.le_succ j)⟩ hl

set_option maxHeartbeats 4000000 in
set_option maxRecDepth 100000 in
theorem law_mean {p : Program} {l : Launch} {e : Env} {s : State} {m : MethodId} {below : List Frame} {meth : Method} {c : Code} {b L : Nat} {xs : Nat → Int32} {dC : Nat → ClassId} {dI : Nat → Nat → Nat} {A : Nat → Prop} {h r1 : Nat} {d1 : Nat → Nat} {r2 : Nat} {d2 : Nat → Nat} {rc ao hm q1 : Nat} {e1 : Nat → Nat} {q2 : Nat} {e2 : Nat → Nat} {cI cL : ClassId} {Q : State → Prop} (C : LC p l s m meth c b L xs dC dI A cI cL) {j : Nat} (hj : 5 * j + 5 ≤ L) {n : Nat} {F : Nat → Nat → Int32} {n2 : Nat} {G : Nat → Nat → Int32} {ct ch : Nat → Int32} {O : Nat → Int64} {th : Int32} {n3 : Nat} {G3 : Nat → Nat → Int32} {c3 : Nat → Int32} {H : Heap} {locs : List Loc} (I : LI s dC dI A h r1 d1 r2 d2 rc ao hm q1 e1 q2 e2 cI cL j n F n2 G ct ch O th n3 G3 c3 H locs) {ls : Array Slot} (hl : lv_has ls 9 [(0, .ref b), (1, .ref h), (2, .ref hm), (3, .ref ao), (4, .int (nI (5 * j)))]) {d0 : Drawn} (hd0 : s.drawn.sameBut d0 lw_cs) (K : ∀ dd : Drawn, s.drawn.sameBut dd lw_cs → KK p l e (s.setDrawn dd) m below meth c b dC dI A h r1 d1 r2 d2 rc ao hm q1 e1 q2 e2 cI cL Q j) : W p l e room_1 (s.setDrawn d0) m #[Value.ref b] below meth c H locs (40 + 8 * j) (500 + 40 * j) Q (F0 m 886 ls []) := by
  obtain ⟨hx, hb, hr, hml, hown, hts, hX, hbl, hlocks, hl0, hK, hE, hn1, hn2, hbA, hA, hL⟩ := C
  obtain ⟨hP, hD, hS, hn, hR, hK0⟩ := I
  have hKi := hK.sub (tys' := [(cI, .int)]) [0] rfl
  refine lv_aload_n hx hb dL_law_886 rfl (lv_at hl 1 rfl) ?_
  have hPc := hP.sub (ws' := wB h r1 d1 r2 d2 rc cI n F n2 G ct ch) [0, 1, 2, 3, 4, 5, 6, 7, 8, 9, 10, 11, 12, 13, 14, 15, 16, 17] rfl
  refine va_calldD hd0 (va_runV_D (As := []) (rest := []) ⟨hx, hb, hml, hown, dr_words hts d0⟩ (c_X1_mean l dC dI cI h r1 d1 r2 d2 rc n F n2 G ct ch H hn) (cwV 0 (dr_words hts d0) gL_law_X1_mean rfl rfl rfl (by decide +kernel) ⟨Nat.le_of_ble_eq_true rfl, Nat.le_of_ble_eq_true rfl⟩) ⟨PRX.blind, va_recv hKi hPc (ci := 1) (q0 := 0) rfl rfl, fun U hU hW => ⟨rfl, hU, PR.go (s := s.setDrawn d0) hPc hKi (En.drawn hE) hS hU hW⟩⟩ rfl rfl hl.1 rfl (lv_room (Nat.le_of_ble_eq_true rfl)) dL_law_887 ⟨(show 40 + 8 * j + 0 ≤ 601024 by omega), (show 500 + 40 * j + 0 ≤ 7293034 by omega)⟩) hS (fun q _ h9 => h9.elim) (fun q h9 => h9.elim) (fun r9 u9 t9 H1 locs ht9 hvm9 hw9 hB9 hz9 hk9 hS9 dd1 hd1 => ?_)
  have e9 : H1 = H := ht9.symm.trans hB9
  subst e9
  have hS := hS9
  refine lv_dstore (lv' := [(5, .double r9), (0, .ref b), (1, .ref h), (2, .ref hm), (3, .ref ao), (4, .int (nI (5 * j)))]) hx hb dL_law_890 hl (by decide) rfl (fun ls hl => ?_)
  have hl : lv_has ls 9 [(0, .ref b), (1, .ref h), (2, .ref hm), (3, .ref ao), (4, .int (nI (5 * j))), (5, .double r9)] := lv_sub hl [1, 2, 3, 4, 5, 0] rfl
  refine lv_aload_n hx hb dL_law_892 rfl (lv_at hl 2 rfl) ?_
  have hPc := hP.sub (ws' := wM hm q1 e1 q2 e2 cI th n F ct n3 G3 c3) [19, 20, 21, 22, 23, 24, 25, 26, 27, 28, 29, 30, 31, 32, 33, 34, 35] rfl
  have hDc := hD.sub (ws' := wM hm q1 e1 q2 e2 cI th n F ct n3 G3 c3) [19, 20, 21, 22, 23, 24, 25, 26, 27, 28, 29, 30, 31, 32, 33, 34, 35] (by decide) rfl
  have hFc := va_free (wc := wM hm q1 e1 q2 e2 cI th n F ct n3 G3 c3) hD hS hA [19, 20, 21, 22, 23, 24, 25, 26, 27, 28, 29, 30, 31, 32, 33, 34, 35] rfl
  refine va_calldD hd1 (va_runV_D (As := []) (rest := []) ⟨hx, hb, hml, hown, dr_words hts dd1⟩ (c_X3_mean l dC dI cI hm q1 e1 q2 e2 th n F ct n3 G3 c3 H1.size hn) (cwV 0 (dr_words hts dd1) gL_law_X3_mean rfl rfl rfl (by decide +kernel) ⟨Nat.le_of_ble_eq_true rfl, Nat.le_of_ble_eq_true rfl⟩) ⟨PW.blind, va_recv hKi hPc (ci := 3) (q0 := 0) rfl rfl, fun U hU hW => ⟨rfl, PW.go (s := s.setDrawn dd1) hPc hKi hDc (En.drawn hE) hS hFc hU hW⟩⟩ rfl rfl hl.1 rfl (lv_room (Nat.le_of_ble_eq_true rfl)) dL_law_893 ⟨(show 40 + 8 * j + 0 ≤ 601024 by omega), (show 500 + 40 * j + 0 ≤ 7293034 by omega)⟩) hS (fun q _ h9 => hFc q h9) hFc (fun r8 u9 t9 H2 locs ht9 hvm9 hw8 hB9 hz9 hk9 hS d2x hd2 => ?_)
  obtain ⟨hP9, hD9⟩ := hB9
  rw [ht9] at hP9
  obtain ⟨hP, hD⟩ := va_join (wr := (wB h r1 d1 r2 d2 rc cI n F n2 G ct ch ++ [(ao, .inl (cL, 1, .inr (.inl O)))])) (w1 := wM hm q1 e1 q2 e2 cI 0 n F ct n3 G3 c3) hP hD [19, 20, 21, 22, 23, 24, 25, 26, 27, 28, 29, 30, 31, 32, 33, 34, 35] [0, 1, 2, 3, 4, 5, 6, 7, 8, 9, 10, 11, 12, 13, 14, 15, 16, 17, 18] rfl rfl (by decide) (by decide) hk9 hFc hP9 hD9
  refine lv_dstore (lv' := [(7, .double r8), (0, .ref b), (1, .ref h), (2, .ref hm), (3, .ref ao), (4, .int (nI (5 * j))), (5, .double r9)]) hx hb dL_law_896 hl (by decide) rfl (fun ls hl => ?_)
  have hl : lv_has ls 9 [(0, .ref b), (1, .ref h), (2, .ref hm), (3, .ref ao), (4, .int (nI (5 * j))), (5, .double r9), (7, .double r8)] := lv_sub hl [1, 2, 3, 4, 5, 6, 0] rfl
  have hgo : W p l e room_1 (s.setDrawn d2x) m #[Value.ref b] below meth c H2 locs (40 + 8 * j + 0 + 0) (500 + 40 * j + 0 + 0) Q (F0 m 941 ls []) := by
    refine W.widen (k := 40 + 8 * (j + 1)) (n := 500 + 40 * (j + 1)) (by omega) (by omega) ?_
    exact K d2x hd2 _ _ _ _ _ _ _ _ _ _ _ _ _ ls ⟨hP, hD, hS, hn, hR, hK0.mono (Nat.le_succ j)⟩ (lv_sub hl [0, 1, 2, 3, 4] rfl)
  have hgo2 : W p l e room_1 (s.setDrawn d2x) m #[Value.ref b] below meth c H2 locs (40 + 8 * j + 0 + 0) (500 + 40 * j + 0 + 0) Q (F0 m 924 ls []) := lv_goto (tgt := 941) hx hb dL_law_924 (by decide) hgo
  refine lv_dload hx hb dL_law_898 (lv_at hl 5 rfl) ?_
  refine lv_dload hx hb dL_law_900 (lv_at hl 6 rfl) ?_
  refine lv_dcmp hx hb dL_law_902 ?_
  refine lv_if_eq (tgt := 924) hx hb dL_law_903 (by decide) (fun _ => hgo2) (fun hc => ?_)
  obtain ⟨m1, m2⟩ := mean_cmp hw9 hw8 hc
  refine lv_dload hx hb dL_law_906 (lv_at hl 5 rfl) ?_
  refine lv_dload hx hb dL_law_908 (lv_at hl 5 rfl) ?_
  refine lv_dcmp hx hb dL_law_910 ?_
  refine lv_if_eq (tgt := 922) hx hb dL_law_911 (by decide) (fun hc => absurd hc m1) (fun _ => ?_)
  refine lv_dload hx hb dL_law_914 (lv_at hl 6 rfl) ?_
  refine lv_dload hx hb dL_law_916 (lv_at hl 6 rfl) ?_
  refine lv_dcmp hx hb dL_law_918 ?_
  exact lv_if_ne (tgt := 924) hx hb dL_law_919 (by decide) (fun _ => hgo2) (fun hc => absurd hc m2)
