/-! THE CLAIM OUT OF ONE WALK OF THE LAW'S BODY. Your part is whole_start (and what it stands on); all else here is the same for every law, but numbers. -/
def R_law : String := "WrestleBookLaw"
def lw_P (b : Addr) (xs : List Int32) (args : Array Value) (s : State) : Prop := args = #[.ref b] ∧ s.IntsAt b xs ∧ xs.length ≤ 2560 ∧ (Jvm.Cond.and given_1 narrow_1).before args s = true
/-- what a walk over the start with the record d0 says of its end, said of the start itself -/
theorem lw_closed {s t : State} {o : Outcome} {d0 : Drawn} {L : List Loc} {k n : Nat} (hd0 : s.drawn.sameBut d0 lw_cs) (hv : ∃ v, o = .returned v) (hW : (s.setDrawn d0).WarmedH t.vm) (hs : (s.setDrawn d0).sameButNew ({ t with vm := s.vm } : State) L k n) : State.butDraws s t lw_cs (fun t1 => Framed s o t1 L k n) := by
  have h2 : t.drawn = d0 := congrArg State.drawn hs.1
  refine ⟨⟨hv, hW, State.sameButNew.setDrawn hs s.drawn⟩, ?_, by decide⟩
  rw [h2]
  exact hd0
def lw_Q (_ : Array Value) (s : State) (o : Outcome) (t : State) : Prop := o = .returned (some (.int 1)) ∧ State.butDraws s t lw_cs (fun t1 => Framed s o t1 [] 601024 7293034)
def lw_Z (below : List Frame) (a : Array Value) (s : State) : State → Prop := fun t => ∃ o, t.status = .running ∧ Ended t below o ∧ lw_Q a s o t
/-- the law's own end, with 1 on the stack, nothing written that was there before, its room as the claim has it; d0: the record of draws at this point (at the entry s.drawn: begin with 'refine W.base ?_' and 'have hd0 := Drawn.sameBut.refl s.drawn lw_cs') -/
theorem lw_ret {p : Program} {l : Launch} {e : Env} {s : State} {m : MethodId} {below : List Frame} {meth : Method} {c : Code} {b : Nat} {d0 : Drawn} (hd0 : s.drawn.sameBut d0 lw_cs) (hx : p.tables.exec = Jvm.exec) (hb : c.code = code) (hr : meth.sig.returnType = ret) (hlocks : meth.locks = false) {pc : Nat} {H : Heap} {ls : Array Slot} (hdg : decode code pc = .ok (.ireturn, 1)) : W p l e room_1 (s.setDrawn d0) m #[Value.ref b] below meth c H [] 601024 7293034 (lw_Z below #[Value.ref b] s) (F0 m pc ls [.int 1]) := by
  intro T hT X
  obtain ⟨fs, hret, hrun, hended, hW, hframe⟩ := X.leave (v := some (.int 1)) (hlocks := hlocks) (fun h => by rw [hr] at h; cases h)
  have hmeth' : T.vm.method? m = some meth := X.method'
  refine ⟨T.setFrames fs, ?_, .returned (some (.int 1)), hrun, hended, rfl, lw_closed hd0 ⟨_, rfl⟩ hW hframe⟩
  jvm_step X.here [X.here.top, hx, hb, hdg, hmeth', hr, ret, narrow_b1]
  (try refine ⟨rfl, ?_⟩); (try refine ⟨rfl, ?_⟩)
  first | (intro acts; rw [hret _ acts rfl rfl rfl]) | rw [hret _ _ rfl rfl rfl]
  exact Steps.refl _
/-- what holds at the law's entry: the machine, the code, the tables' words (any of lw_tbl by 'hts w (by decide +kernel)'), the script of L ints xs at the cell b, what the Statement gives of the start (any of its parts by flat_of_before) -/
def lw_At (p : Program) (s : State) (m : MethodId) (meth : Method) (c : Code) (b L : Nat) (xs : Nat → Int32) : Prop :=
  p.tables.exec = Jvm.exec ∧ c.code = code ∧ meth.sig.returnType = ret ∧ c.maxLocals = 9 ∧ s.vm.findClass R_law = some m.cls ∧ (∀ w ∈ lw_tbl, w.before #[Value.ref b] s = true) ∧ va_X b L xs s s.heap ∧ b < s.heap.size ∧ meth.locks = false ∧ (Jvm.Cond.and given_1 narrow_1).before #[Value.ref b] s = true
theorem LC.drawn {p : Program} {l : Launch} {s : State} {m : MethodId} {meth : Method} {c : Code} {b L : Nat} {xs : Nat → Int32} {dC : Nat → ClassId} {dI : Nat → Nat → Nat} {A : Nat → Prop} {cI cL : ClassId} (C : LC p l s m meth c b L xs dC dI A cI cL) (d : Drawn) : LC p l (s.setDrawn d) m meth c b L xs dC dI A cI cL := by
  obtain ⟨hx, hb, hr, hml, hown, hts, hX, hbl, hlocks, hl0, hK, hE, hn1, hn2, hbA, hA, hL⟩ := C
  exact ⟨hx, hb, hr, hml, hown, dr_words hts d, hX, hbl, hlocks, hl0, hK, En.drawn hE, hn1, hn2, hbA, hA, hL⟩
theorem gt_out {j L : Nat} (hj : 5 * j ≤ L) (hL : L ≤ 2560) (h : ¬ (Int32.ofNat L - 5 < nI (5 * j))) : 5 * j + 5 ≤ L := by
  have h2 : nI (5 * j) ≤ nI L - nI 5 := Int32.not_lt.mp h
  have h3 := Int32.le_iff_toInt_le.mp h2
  rw [nI_toInt (by omega), pk_sub_toInt (by omega) (by decide)] at h3
  omega
theorem sw15 (x : Int32) : x.toInt < 0 ∨ 14 < x.toInt ∨ x.toInt = 0 ∨ x.toInt = 1 ∨ x.toInt = 2 ∨ x.toInt = 3 ∨ x.toInt = 4 ∨ x.toInt = 5 ∨ x.toInt = 6 ∨ x.toInt = 7 ∨ x.toInt = 8 ∨ x.toInt = 9 ∨ x.toInt = 10 ∨ x.toInt = 11 ∨ x.toInt = 12 ∨ x.toInt = 13 ∨ x.toInt = 14 := by omega
set_option maxHeartbeats 4000000 in
set_option maxRecDepth 100000 in
/-- THE LAW'S LOOP: both systems in one state, whatever was drawn so far -/
theorem law_loop {p : Program} {l : Launch} {e : Env} {s : State} {m : MethodId} {below : List Frame} {meth : Method} {c : Code} {b L : Nat} {xs : Nat → Int32} {dC : Nat → ClassId} {dI : Nat → Nat → Nat} {h r1 : Nat} {d1 : Nat → Nat} {r2 : Nat} {d2 : Nat → Nat} {rc ao hm q1 : Nat} {e1 : Nat → Nat} {q2 : Nat} {e2 : Nat → Nat} {cI cL : ClassId} (C : LC p l s m meth c b L xs dC dI (fun q : Nat => s.heap.size ≤ q) cI cL) : ∀ (k j : Nat), 5 * j ≤ L → L < 5 * (j + k) → ∀ (n : Nat) (F : Nat → Nat → Int32) (n2 : Nat) (G : Nat → Nat → Int32) (ct ch : Nat → Int32) (O : Nat → Int64) (th : Int32) (n3 : Nat) (G3 : Nat → Nat → Int32) (c3 : Nat → Int32) (H : Heap) (locs : List Loc) (ls : Array Slot) (dd : Drawn), s.drawn.sameBut dd lw_cs → LI s dC dI (fun q : Nat => s.heap.size ≤ q) h r1 d1 r2 d2 rc ao hm q1 e1 q2 e2 cI cL j n F n2 G ct ch O th n3 G3 c3 H locs → lv_has ls 9 [(0, .ref b), (1, .ref h), (2, .ref hm), (3, .ref ao), (4, .int (nI (5 * j)))] → W p l e room_1 (s.setDrawn dd) m #[Value.ref b] below meth c H locs (40 + 8 * j) (500 + 40 * j) (lw_Z below #[Value.ref b] s) (F0 m 23 ls []) := by
  have C0 := C
  obtain ⟨hx, hb, hr, hml, hown, hts, hX, hbl, hlocks, hl0, hK, hE, hn1, hn2, hbA, hA, hL⟩ := C0
  intro k
  induction k with
  | zero =>
    intro j h1 h2
    omega
  | succ k ih =>
    intro j hj hjk n F n2 G ct ch O th n3 G3 c3 H locs ls dd hdd I hl
    have hS := I.2.2.1
    refine lv_iload hx hb dL_law_23 (lv_at hl 4 rfl) ?_
    refine lv_aload_n hx hb dL_law_25 rfl (lv_at hl 0 rfl) ?_
    refine va_slen hx hb hX hbl hbA hS dL_law_26 ?_
    refine lv_iconst (v := 5) hx hb dL_law_27 (by decide) ?_
    refine lv_isub hx hb dL_law_28 ?_
    refine lv_icmp_gt (tgt := 947) hx hb dL_law_29 (by decide) (fun _ => ?_) (fun hc => ?_)
    · refine lv_iconst (v := 1) hx hb dL_law_947 (by decide) ?_
      refine va_forget (fun q hq => hS.2.2 q hq) ?_
      refine W.widen (k := 601024) (n := 7293034) (by omega) (by omega) ?_
      exact lw_ret hdd hx hb hr hlocks dL_law_948
    · have hj5 : 5 * j + 5 ≤ L := gt_out hj hL hc
      have K : ∀ d : Drawn, s.drawn.sameBut d lw_cs → KK p l e (s.setDrawn d) m below meth c b dC dI (fun q : Nat => s.heap.size ≤ q) h r1 d1 r2 d2 rc ao hm q1 e1 q2 e2 cI cL (lw_Z below #[Value.ref b] s) j := by
        intro d hd n' F' n2' G' ct' ch' O' th' n3' G3' c3' H locs ls I hl
        refine lv_iinc (v := nI (5 * (j + 1))) (lv' := [(4, .int (nI (5 * (j + 1)))), (0, .ref b), (1, .ref h), (2, .ref hm), (3, .ref ao)]) hx hb dL_law_941 hl (k := 4) rfl (nI_add (5 * j) 5) (by decide) rfl (fun ls hl => ?_)
        refine lv_goto (tgt := 23) hx hb dL_law_944 (by decide) ?_
        exact ih (j + 1) (by omega) (by omega) _ _ _ _ _ _ _ _ _ _ _ _ _ ls d hd I (lv_sub hl [1, 2, 3, 4, 0] rfl)
      have C1 := LC.drawn C dd
      refine lv_aload_n hx hb dL_law_32 rfl (lv_at hl 0 rfl) ?_
      refine lv_iload hx hb dL_law_33 (lv_at hl 4 rfl) ?_
      have hX1 := C1.2.2.2.2.2.2.1
      refine va_sld hx hb hX1 hbl hbA hS (vp_in_nI (show 5 * j < L by omega) (show L < 2 ^ 31 by omega)) dL_law_35 ?_
      refine lv_bipush (v := 15) hx hb dL_law_36 (by decide) ?_
      refine lv_iand hx hb dL_law_38 ?_
      generalize (xs (nI (5 * j)).toNatClampNeg &&& 15) = t
      have hskip : W p l e room_1 (s.setDrawn dd) m #[Value.ref b] below meth c H locs (40 + 8 * j) (500 + 40 * j) (lw_Z below #[Value.ref b] s) (F0 m 941 ls []) := by
        refine W.widen (k := 40 + 8 * (j + 1)) (n := 500 + 40 * (j + 1)) (by omega) (by omega) ?_
        exact K dd hdd _ _ _ _ _ _ _ _ _ _ _ H locs ls ⟨I.1, I.2.1, I.2.2.1, I.2.2.2.1, I.2.2.2.2.1, I.2.2.2.2.2.mono (Nat.le_succ j)⟩ hl
      rcases sw15 t with q | q | q | q | q | q | q | q | q | q | q | q | q | q | q | q | q
      · exact lv_tableOut (tgt := 941) hx hb dL_law_39 (Or.inl q) (by decide) hskip
      · exact lv_tableOut (tgt := 941) hx hb dL_law_39 (Or.inr q) (by decide) hskip
      · exact lv_tableIn (tgt := 112) (off := 73) hx hb dL_law_39 (by omega) (by omega) (by rw [q]; rfl) (by decide) (law_join C1 hj5 I hl (K dd hdd))
      · exact lv_tableIn (tgt := 168) (off := 129) hx hb dL_law_39 (by omega) (by omega) (by rw [q]; rfl) (by decide) (law_rate C1 hj5 I hl (K dd hdd))
      · exact lv_tableIn (tgt := 236) (off := 197) hx hb dL_law_39 (by omega) (by omega) (by rw [q]; rfl) (by decide) (law_bout C1 hj5 I hl (K dd hdd))
      · exact lv_tableIn (tgt := 316) (off := 277) hx hb dL_law_39 (by omega) (by omega) (by rw [q]; rfl) (by decide) (law_end C1 hj5 I hl (K dd hdd))
      · exact lv_tableIn (tgt := 329) (off := 290) hx hb dL_law_39 (by omega) (by omega) (by rw [q]; rfl) (by decide) (law_expected C1 hj5 I hl (K dd hdd))
      · exact lv_tableIn (tgt := 397) (off := 358) hx hb dL_law_39 (by omega) (by omega) (by rw [q]; rfl) (by decide) (law_told C1 hj5 I hl (K dd hdd))
      · exact lv_tableIn (tgt := 465) (off := 426) hx hb dL_law_39 (by omega) (by omega) (by rw [q]; rfl) (by decide) (law_at C1 hj5 I hl (K dd hdd))
      · exact lv_tableIn (tgt := 533) (off := 494) hx hb dL_law_39 (by omega) (by omega) (by rw [q]; rfl) (by decide) (law_count C1 hj5 I hl (K dd hdd))
      · exact lv_tableIn (tgt := 589) (off := 550) hx hb dL_law_39 (by omega) (by omega) (by rw [q]; rfl) (by decide) (law_would C1 hj5 I hl (K dd hdd))
      · exact lv_tableIn (tgt := 681) (off := 642) hx hb dL_law_39 (by omega) (by omega) (by rw [q]; rfl) (by decide) (law_chance C1 hj5 I hl (K dd hdd))
      · exact lv_tableIn (tgt := 761) (off := 722) hx hb dL_law_39 (by omega) (by omega) (by rw [q]; rfl) (by decide) (law_match C1 hj5 I hl (K dd hdd))
      · exact lv_tableIn (tgt := 817) (off := 778) hx hb dL_law_39 (by omega) (by omega) (by rw [q]; rfl) (by decide) (law_next C1 hj5 I hl (K dd hdd))
      · exact lv_tableIn (tgt := 830) (off := 791) hx hb dL_law_39 (by omega) (by omega) (by rw [q]; rfl) (by decide) (law_foresee C1 hj5 I hl (K dd hdd))
      · exact lv_tableIn (tgt := 886) (off := 847) hx hb dL_law_39 (by omega) (by omega) (by rw [q]; rfl) (by decide) (law_mean C hj5 I hl hdd K)
      · exact lv_tableIn (tgt := 927) (off := 888) hx hb dL_law_39 (by omega) (by omega) (by rw [q]; rfl) (by decide) (law_digest C1 hj5 I hl (K dd hdd))
