/-! The pictures of the two systems' cells, the environment of statics and words, and a few rows of ours. -/
/-- state: F k i, k the array (0 league, 1 rating, 2 points, 3 bouts, 4 bouts of the season, 5 row of wins, 6 best), i the wrestler -/
def pu (F : Nat → Nat → Int32) (k i : Nat) (x : Int32) : Nat → Nat → Int32 := fun a => cond (Nat.beq a k) (upd (F a) i x) (F a)
theorem pu_app (F : Nat → Nat → Int32) (k i : Nat) (x : Int32) (a j : Nat) : pu F k i x a j = if a = k ∧ j = i then x else F a j := by
  unfold pu
  by_cases h : a = k
  · subst h
    rw [show Nat.beq a a = true from Nat.beq_refl a]
    by_cases h2 : j = i
    · subst h2
      rw [if_pos ⟨rfl, rfl⟩]
      show upd (F a) j x j = x
      exact pk_us
    · rw [if_neg (fun q => h2 q.2)]
      show upd (F a) i x j = F a j
      exact pk_un h2
  · rw [if_neg (fun q => h q.1)]
    rw [show Nat.beq a k = false from Bool.eq_false_iff.mpr (fun q => h (Nat.eq_of_beq_eq_true q))]
    rfl
/-- the table of the expected -/
def tb : Nat → Int32 := fun j => match j with | 0 => 500 | 1 => 640 | 2 => 760 | 3 => 849 | 4 => 909 | 5 => 947 | 6 => 969 | 7 => 983 | _ => 990
/-- a Roster: object h, arrays ad 0 .. ad 6 of twelve places, n of them used -/
abbrev wR (h : Nat) (ad : Nat → Nat) (cI : ClassId) (n : Nat) (F : Nat → Nat → Int32) : va_W := [(h, .inr (0, [.ref (ad 0), .ref (ad 1), .ref (ad 2), .ref (ad 3), .ref (ad 4), .ref (ad 5), .ref (ad 6), .int (nI n)])), (ad 0, .inl (cI, 12, .inl (F 0))), (ad 1, .inl (cI, 12, .inl (F 1))), (ad 2, .inl (cI, 12, .inl (F 2))), (ad 3, .inl (cI, 12, .inl (F 3))), (ad 4, .inl (cI, 12, .inl (F 4))), (ad 5, .inl (cI, 12, .inl (F 5))), (ad 6, .inl (cI, 12, .inl (F 6)))]
/-- a Sim's rows have league and rating the other way round -/
def sw : Nat → Nat := fun k => match k with | 0 => 1 | 1 => 0 | k => k
/-- a Sim's rows: row i at rw i, seven numbers -/
abbrev rl (rw : Nat → Nat) (cI : ClassId) (n : Nat) (F : Nat → Nat → Int32) : va_W := (List.range n).map (fun i => (rw i, .inl (cI, 7, .inl (fun k => F (sw k) i))))
def ro (rw : Nat → Nat) : Nat → Option Nat := fun i => some (rw i)
/-- a Sim: object h, its array of rows al, the rows; c 0 season, c 1 bouts, c 2 upsets -/
abbrev wT (h al : Nat) (rw : Nat → Nat) (cA cI : ClassId) (n : Nat) (F : Nat → Nat → Int32) (c : Nat → Int32) : va_W := [(h, .inr (2, [.int (c 0), .int (c 1), .int (c 2), .ref al])), (al, .inl (cA, n, .inr (.inr (.inr (.inr (ro rw))))))] ++ rl rw cI n F
/-- words that the tables alone decide but that aren't good ones: links between nest mates, casts -/
def eW : List Cond := [
  .methodLinkNest RX1 9 yX0_init "WrestleBook",
  .methodLinkNest RL 48 yX2_init "WrestleBookLaw",
  .castable "java/lang/IllegalArgumentException" "java/lang/IllegalArgumentException",
  .castable "java/lang/IllegalStateException" "java/lang/IllegalStateException",
  .castable "java/lang/IndexOutOfBoundsException" "java/lang/IndexOutOfBoundsException",
  .declares (Bundle.initS "java/lang/RuntimeException"), .declares (Bundle.initS "java/lang/Exception"), .declares (Bundle.initS Bundle.tN)]
def eStr : List (Nat × String) := [(29, "no such league"), (40, "the book is full"), (51, "no such rating"), (123, "nothing such is told"), (129, "no such place"), (144, "nothing such is counted"), (146, "neither of a nor of b"), (162, "no such number of bouts"), (190, "no such wrestler"), (192, "both are the same"), (194, "no such result")]
theorem eW_on : ∀ w ∈ eW, w.onTables = true := by decide +kernel
theorem nwD {x : MethodName} {s U : State} (hW : s.WarmedH U.vm) (hZ : va_Nw (.declares x) s) : va_Nw (.declares x) U := va_tabs rfl (rfl : (s.setVm U.vm).vm = U.vm) (by rw [Cond.declares_setVm hW.alike]; exact hZ)
theorem eW_warm {s U : State} (hW : s.WarmedH U.vm) : ∀ w ∈ eW, va_Nw w s → va_Nw w U := by
  intro w hw h
  simp only [eW, List.mem_cons, List.not_mem_nil, or_false] at hw
  rcases hw with rfl | rfl | rfl | rfl | rfl | rfl | rfl | rfl
  all_goals first | exact va_Nw.warmF hW h | exact va_Nw.warmM hW h | exact va_Nw.warmC hW h | exact nwD hW h
/-- what every method may read beside its own cells: the two tables, the words of eW, the texts, Throwable's statics -/
def En (A : Nat → Prop) (U : State) (H : Heap) : Prop :=
  (∃ t, va_Z "WrestleBook$Roster" "EXPECTED" "[I" (.ref t) A U H ∧ va_T .int t 9 (fun j => .int (tb j)) A U H) ∧
  (Cond.arrayOver (.array .int)).before #[] U = true ∧
  (∀ w ∈ eW, va_Nw w U) ∧ (∀ q ∈ eStr, ∃ a, vk_R RX1 q.1 q.2 a U) ∧
  vx_Zq Bundle.tN "UNASSIGNED_STACK" Bundle.steD A U H ∧ vx_Zq Bundle.tN "SUPPRESSED_SENTINEL" Bundle.listD A U H
/-- the environment at a call -/
theorem En.go {A B : Nat → Prop} {s U : State} {H : Heap} {locs : List Loc} (h : En A s s.heap) (hS : va_S A s.heap H locs) (hBA : ∀ q, B q → A q) (hU : U.heap = H) (hW : s.WarmedH U.vm) : En B U U.heap := by
  obtain ⟨⟨t1, a1, a2⟩, b1, h3, h4, h5, h6⟩ := h
  have hvm : s.vm.Alike U.vm := hW.alike
  rw [hU]
  exact ⟨⟨t1, va_Z.moved hvm ((a1.kept hS.2.1).narrow hBA), va_T.moved hvm ((a2.kept hS.2.1).narrow hBA)⟩, over_moved hvm b1,
    fun w hw => eW_warm hW w hw (h3 w hw), fun q hq => (h4 q hq).elim fun a ha => ⟨a, ha.warm hW⟩, vx_Zq.moved hvm ((h5.kept hS.2.1).narrow hBA), vx_Zq.moved hvm ((h6.kept hS.2.1).narrow hBA)⟩
theorem En.blind {A : Nat → Prop} {U : State} {g : JFrame} {mk : MethodId} {a : Array Value} (h : En A U U.heap) : En A (U.calling g mk a) (U.calling g mk a).heap := by
  obtain ⟨⟨t1, a1, a2⟩, b1, h3, h4, h5, h6⟩ := h
  have hvm : U.vm.Alike (U.calling g mk a).vm := Vm.Alike.refl U.vm
  exact ⟨⟨t1, va_Z.moved hvm a1, va_T.moved hvm a2⟩, over_moved hvm b1,
    fun w hw => va_Nw.same (eW_on w hw) (rfl : U.vm = (U.calling g mk a).vm) (h3 w hw), fun q hq => (h4 q hq).elim fun a' ha => ⟨a', vk_R.same (rfl : (U.calling g mk a).vm = U.vm) ha⟩, vx_Zq.moved hvm h5, vx_Zq.moved hvm h6⟩
/-- a reader's start: the cells ws, int arrays of class cI, the environment -/
def PR (dC : Nat → ClassId) (dI : Nat → Nat → Nat) (cI : ClassId) (ws : va_W) (U : State) : Prop := va_P (dC, dI) vwCl ws U.heap ∧ va_K (dC, dI) vwCl [(cI, .int)] U ∧ En (fun _ => False) U U.heap
theorem PR.blind {dC : Nat → ClassId} {dI : Nat → Nat → Nat} {cI : ClassId} {ws : va_W} {av : List Value} : FrameBlind (va_Pc av (fun U => PR dC dI cI ws U)) := fun a U g mk q => ⟨q.1, q.2.1, va_K.moved (u := U) (U := U.calling g mk a) (Vm.Alike.refl U.vm) q.2.2.1, En.blind q.2.2.2⟩
theorem PR.go {dC : Nat → ClassId} {dI : Nat → Nat → Nat} {cI : ClassId} {ws : va_W} {A : Nat → Prop} {s U : State} {H : Heap} {locs : List Loc} (hP : va_P (dC, dI) vwCl ws H) (hK : va_K (dC, dI) vwCl [(cI, .int)] s) (hE : En A s s.heap) (hS : va_S A s.heap H locs) (hU : U.heap = H) (hW : s.WarmedH U.vm) : PR dC dI cI ws U :=
  ⟨by rw [hU]; exact hP, va_K.moved hW.alike hK, En.go hE hS (fun _ h => h.elim) hU hW⟩
/-- a writer's start -/
def PW (dC : Nat → ClassId) (dI : Nat → Nat → Nat) (cI : ClassId) (ws : va_W) (sz : Nat) (U : State) : Prop := U.heap.size = sz ∧ va_P (dC, dI) vwCl ws U.heap ∧ va_K (dC, dI) vwCl [(cI, .int)] U ∧ va_D (fun _ => True) ws ∧ En (va_A ws sz) U U.heap
theorem PW.blind {dC : Nat → ClassId} {dI : Nat → Nat → Nat} {cI : ClassId} {ws : va_W} {sz : Nat} {av : List Value} : FrameBlind (va_Pc av (fun U => PW dC dI cI ws sz U)) := fun a U g mk q => ⟨q.1, q.2.1, q.2.2.1, va_K.moved (u := U) (U := U.calling g mk a) (Vm.Alike.refl U.vm) q.2.2.2.1, q.2.2.2.2.1, En.blind q.2.2.2.2.2⟩
theorem PW.go {dC : Nat → ClassId} {dI : Nat → Nat → Nat} {cI : ClassId} {ws : va_W} {A : Nat → Prop} {s U : State} {H : Heap} {locs : List Loc} (hP : va_P (dC, dI) vwCl ws H) (hK : va_K (dC, dI) vwCl [(cI, .int)] s) (hD : va_D A ws) (hE : En A s s.heap) (hS : va_S A s.heap H locs) (hF : ∀ q, va_A ws H.size q → A q) (hU : U.heap = H) (hW : s.WarmedH U.vm) : PW dC dI cI ws H.size U :=
  ⟨by rw [hU], by rw [hU]; exact hP, va_K.moved hW.alike hK, hD.weaken (fun _ _ _ _ => trivial), En.go hE hS hF hU hW⟩
/-- a writer's world at its end -/
def BW (dC : Nat → ClassId) (dI : Nat → Nat → Nat) (A : Nat → Prop) (ws : va_W) : Unit → State → Prop := fun _ t => va_P (dC, dI) vwCl ws t.heap ∧ va_D A ws
section OURS
theorem rv_newa {p : Program} {l : Launch} {e : Env} {R : Room} {s : State} {m : MethodId} {args : Array Value} {below : List Frame} {meth : Method} {c : Code} {H : Heap} {locs : List Loc} {cells slots : Nat} {Q : State → Prop} {cc : ByteArray} {pc : Nat} {ls : Array Slot} {rest : List Value} {A : Nat → Prop} {H0 : Heap} {D : va_G} {cl : List vw_C} {ws : va_W} {cI : ClassId} (hexec : p.tables.exec = Jvm.exec) (hb : c.code = cc) (harr : (Cond.arrayClass .int).before args s = true) (hK : va_K D cl [(cI, .int)] s) (hP : va_P D cl ws H) (hD : va_D A ws) (hS : va_S A H0 H locs) (hA : ∀ q, H0.size ≤ q → A q)
    {n : Int32} {N' : Nat} (hn : ¬ n < 0) (hN : n.toNatClampNeg = N') (hbytes : N' * 4 ≤ 536870912) (hcells : cells + 1 ≤ R.cells) (hslots : slots + N' ≤ R.slots) (hdg : decode cc pc = .ok (.newarray .int, 2))
    (kk : ∀ (q : Nat) (H1 : Heap), va_P D cl (ws ++ [(q, .inl (cI, N', .inl (fun _ => 0)))]) H1 → va_D A (ws ++ [(q, .inl (cI, N', .inl (fun _ => 0)))]) → va_S A H0 H1 locs →
      W p l e R s m args below meth c H1 locs (cells + 1) (slots + N') Q (F0 m (pc + 2) ls (.ref q :: rest))) : W p l e R s m args below meth c H locs cells slots Q (F0 m pc ls (.int n :: rest)) := by
  refine va_newa (atype := .int) (ty := .int) (a0 := (N', .inl (fun _ => 0))) hexec hb harr rfl hK hP hD hS hA (fun cA => rfl) hn hN hbytes hcells hslots hdg (fun q cA H1 hK1 hP1 hD1 hS1 => ?_)
  have e1 : s.vm.findClass "[I" = some cI := (hK.2 0 (cI, .int) rfl).2
  have e2 : s.vm.findClass "[I" = some cA := (hK1.2 1 (cA, .int) rfl).2
  have e3 : cA = cI := Option.some.inj (e2.symm.trans e1)
  subst e3
  exact kk q H1 hP1 hD1 hS1
variable {p : Program} {l : Launch} {e : Env} {R : Room} {s : State} {m : MethodId} {args : Array Value} {below : List Frame} {meth : Method} {c : Code} {H : Heap} {locs : List Loc} {cells slots : Nat} {Q : State → Prop}
variable {cc : ByteArray} {pc : Nat} {ls : Array Slot} {rest : List Value} {A : Nat → Prop} {H0 : Heap} {D : va_G} {cl : List vw_C} {tys : List (ClassId × FieldType)} {ws : va_W} {a : Nat}
/-- a place of an int array, by a Nat -/
theorem rv_iald (hexec : p.tables.exec = Jvm.exec) (hb : c.code = cc) (hK : va_K D cl tys s) (hP : va_P D cl ws H) (q0 t0 : Nat) {cA : ClassId} {n k : Nat} {f : Nat → Int32} (ha : ws[q0]? = some (a, .inl (cA, n, .inl f))) (ht : tys[t0]? = some (cA, .int)) (hk : k < n) (hn : n < 2 ^ 31) (hdg : decode cc pc = .ok (.iaload, 1))
    (kk : W p l e R s m args below meth c H locs cells slots Q (F0 m (pc + 1) ls (.int (f k) :: rest))) : W p l e R s m args below meth c H locs cells slots Q (F0 m pc ls (.int (nI k) :: .ref a :: rest)) :=
  va_iald hexec hb hK hP q0 t0 ha ht (vp_in_nI hk hn) hdg (by rw [nI_clamp (Nat.lt_trans hk hn)]; exact kk)
theorem rv_iast (hexec : p.tables.exec = Jvm.exec) (hb : c.code = cc) (hK : va_K D cl tys s) (hP : va_P D cl ws H) (hD : va_D A ws) (hS : va_S A H0 H locs) (q0 t0 : Nat) {cA : ClassId} {n k : Nat} {f : Nat → Int32} (ha : ws[q0]? = some (a, .inl (cA, n, .inl f))) (ht : tys[t0]? = some (cA, .int)) {x : Int32} (hk : k < n) (hn : n < 2 ^ 31) (hdg : decode cc pc = .ok (.iastore, 1))
    (kk : ∀ (H1 : Heap) (locs1 : List Loc), va_P D cl (ws.set q0 (a, .inl (cA, n, .inl (upd f k x)))) H1 → va_D A (ws.set q0 (a, .inl (cA, n, .inl (upd f k x)))) → va_S A H0 H1 locs1 → W p l e R s m args below meth c H1 locs1 cells slots Q (F0 m (pc + 1) ls rest)) : W p l e R s m args below meth c H locs cells slots Q (F0 m pc ls (.int x :: .int (nI k) :: .ref a :: rest)) :=
  va_iast hexec hb hK hP hD hS q0 t0 ha ht (vp_in_nI hk hn) hdg (by rw [nI_clamp (Nat.lt_trans hk hn)]; exact kk)
/-- the same number under another name, on top -/
theorem rv_top {x y : Int32} (h : x = y) (k : W p l e R s m args below meth c H locs cells slots Q (F0 m pc ls (.int y :: rest))) : W p l e R s m args below meth c H locs cells slots Q (F0 m pc ls (.int x :: rest)) := h ▸ k
end OURS
theorem n12 : (12 : Nat) < 2 ^ 31 := by decide
theorem n9 : (9 : Nat) < 2 ^ 31 := by decide
/-- a fold from 0 on -/
def fo {α : Type} (f : Nat → α → α) (a : α) : Nat → α | 0 => a | n + 1 => f n (fo f a n)
theorem fo_0 {α : Type} (f : Nat → α → α) (a : α) : fo f a 0 = a := rfl
theorem fo_s {α : Type} (f : Nat → α → α) (a : α) (n : Nat) : fo f a (n + 1) = f n (fo f a n) := rfl
/-- a truth value as the machine has it -/
def bI (b : Bool) : Int32 := cond b 1 0
theorem bI_t : bI true = 1 := rfl
theorem bI_f : bI false = 0 := rfl
theorem bI_nar (b : Bool) : narrow .boolean (.int (bI b)) = .int (bI b) := by cases b <;> rfl
/-- a number or none (-1) -/
def oI (o : Option Nat) : Int32 := match o with | none => -1 | some k => nI k
theorem oI_n : oI none = -1 := rfl
theorem oI_s (k : Nat) : oI (some k) = nI k := rfl
theorem nI_m1 {k : Nat} (h : k < 2 ^ 31) : ¬ nI k = -1 := by
  intro q
  have h2 := congrArg Int32.toInt q
  rw [nI_toInt h] at h2
  have : (-1 : Int32).toInt = -1 := by decide
  omega
section OURS2
variable {p : Program} {l : Launch} {e : Env} {R : Room} {s : State} {m : MethodId} {args : Array Value} {below : List Frame} {meth : Method} {c : Code} {H : Heap} {locs : List Loc} {cells slots : Nat} {Q : State → Prop}
variable {cc : ByteArray} {pc : Nat} {ls : Array Slot} {rest : List Value} {A : Nat → Prop}
theorem rv_ti (hexec : p.tables.exec = Jvm.exec) (hb : c.code = cc) {t k : Nat} (hT : va_T .int t 9 (fun j => .int (tb j)) A s s.heap) (hS : va_S A s.heap H locs) (hk : k < 9) (h9 : (9 : Nat) < 2 ^ 31) (hdg : decode cc pc = .ok (.iaload, 1))
    (kk : W p l e R s m args below meth c H locs cells slots Q (F0 m (pc + 1) ls (.int (tb k) :: rest))) : W p l e R s m args below meth c H locs cells slots Q (F0 m pc ls (.int (nI k) :: .ref t :: rest)) :=
  va_ti hexec hb hT hS (vp_in_nI hk h9) (v := .int (tb k)) (by rw [nI_clamp (Nat.lt_trans hk h9)]) hdg kk
theorem rv_icmp_ge (hexec : p.tables.exec = Jvm.exec) (hb : c.code = cc) {a b : Nat} (ha : a < 2 ^ 31) (hb2 : b < 2 ^ 31) {off : Int} {tgt : Nat} (hdg : decode cc pc = .ok (.if_icmp .ge off, 3)) (ht : (pc : Int) + off = (tgt : Int))
    (kt : b ≤ a → W p l e R s m args below meth c H locs cells slots Q (F0 m tgt ls rest)) (kf : ¬ b ≤ a → W p l e R s m args below meth c H locs cells slots Q (F0 m (pc + 3) ls rest)) : W p l e R s m args below meth c H locs cells slots Q (F0 m pc ls (.int (nI b) :: .int (nI a) :: rest)) :=
  lv_icmp_ge hexec hb hdg ht (fun q => kt ((nI_leI hb2 ha).mp q)) (fun q => kf (fun z => q ((nI_leI hb2 ha).mpr z)))
theorem rv_icmp_gt (hexec : p.tables.exec = Jvm.exec) (hb : c.code = cc) {a b : Nat} (ha : a < 2 ^ 31) (hb2 : b < 2 ^ 31) {off : Int} {tgt : Nat} (hdg : decode cc pc = .ok (.if_icmp .gt off, 3)) (ht : (pc : Int) + off = (tgt : Int))
    (kt : b < a → W p l e R s m args below meth c H locs cells slots Q (F0 m tgt ls rest)) (kf : ¬ b < a → W p l e R s m args below meth c H locs cells slots Q (F0 m (pc + 3) ls rest)) : W p l e R s m args below meth c H locs cells slots Q (F0 m pc ls (.int (nI b) :: .int (nI a) :: rest)) :=
  lv_icmp_gt hexec hb hdg ht (fun q => kt ((nI_ltI hb2 ha).mp q)) (fun q => kf (fun z => q ((nI_ltI hb2 ha).mpr z)))
theorem rv_icmp_lt (hexec : p.tables.exec = Jvm.exec) (hb : c.code = cc) {a b : Nat} (ha : a < 2 ^ 31) (hb2 : b < 2 ^ 31) {off : Int} {tgt : Nat} (hdg : decode cc pc = .ok (.if_icmp .lt off, 3)) (ht : (pc : Int) + off = (tgt : Int))
    (kt : a < b → W p l e R s m args below meth c H locs cells slots Q (F0 m tgt ls rest)) (kf : ¬ a < b → W p l e R s m args below meth c H locs cells slots Q (F0 m (pc + 3) ls rest)) : W p l e R s m args below meth c H locs cells slots Q (F0 m pc ls (.int (nI b) :: .int (nI a) :: rest)) :=
  lv_icmp_lt hexec hb hdg ht (fun q => kt ((nI_ltI ha hb2).mp q)) (fun q => kf (fun z => q ((nI_ltI ha hb2).mpr z)))
theorem rv_icmp_le (hexec : p.tables.exec = Jvm.exec) (hb : c.code = cc) {a b : Nat} (ha : a < 2 ^ 31) (hb2 : b < 2 ^ 31) {off : Int} {tgt : Nat} (hdg : decode cc pc = .ok (.if_icmp .le off, 3)) (ht : (pc : Int) + off = (tgt : Int))
    (kt : a ≤ b → W p l e R s m args below meth c H locs cells slots Q (F0 m tgt ls rest)) (kf : ¬ a ≤ b → W p l e R s m args below meth c H locs cells slots Q (F0 m (pc + 3) ls rest)) : W p l e R s m args below meth c H locs cells slots Q (F0 m pc ls (.int (nI b) :: .int (nI a) :: rest)) :=
  lv_icmp_le hexec hb hdg ht (fun q => kt ((nI_leI ha hb2).mp q)) (fun q => kf (fun z => q ((nI_leI ha hb2).mpr z)))
theorem rv_icmp_eq (hexec : p.tables.exec = Jvm.exec) (hb : c.code = cc) {a b : Nat} (ha : a < 2 ^ 31) (hb2 : b < 2 ^ 31) {off : Int} {tgt : Nat} (hdg : decode cc pc = .ok (.if_icmp .eq off, 3)) (ht : (pc : Int) + off = (tgt : Int))
    (kt : a = b → W p l e R s m args below meth c H locs cells slots Q (F0 m tgt ls rest)) (kf : ¬ a = b → W p l e R s m args below meth c H locs cells slots Q (F0 m (pc + 3) ls rest)) : W p l e R s m args below meth c H locs cells slots Q (F0 m pc ls (.int (nI b) :: .int (nI a) :: rest)) :=
  lv_icmp_eq hexec hb hdg ht (fun q => kt ((nI_eq ha hb2).mp q)) (fun q => kf (fun z => q ((nI_eq ha hb2).mpr z)))
theorem rv_icmp_ne (hexec : p.tables.exec = Jvm.exec) (hb : c.code = cc) {a b : Nat} (ha : a < 2 ^ 31) (hb2 : b < 2 ^ 31) {off : Int} {tgt : Nat} (hdg : decode cc pc = .ok (.if_icmp .ne off, 3)) (ht : (pc : Int) + off = (tgt : Int))
    (kt : ¬ a = b → W p l e R s m args below meth c H locs cells slots Q (F0 m tgt ls rest)) (kf : a = b → W p l e R s m args below meth c H locs cells slots Q (F0 m (pc + 3) ls rest)) : W p l e R s m args below meth c H locs cells slots Q (F0 m pc ls (.int (nI b) :: .int (nI a) :: rest)) :=
  lv_icmp_ne hexec hb hdg ht (fun q => kt (fun z => q ((nI_eq ha hb2).mpr z))) (fun q => kf ((nI_eq ha hb2).mp q))
theorem rv_ifb_eq (hexec : p.tables.exec = Jvm.exec) (hb : c.code = cc) {b : Bool} {off : Int} {tgt : Nat} (hdg : decode cc pc = .ok (.ifCond .eq off, 3)) (ht : (pc : Int) + off = (tgt : Int))
    (kt : b = false → W p l e R s m args below meth c H locs cells slots Q (F0 m tgt ls rest)) (kf : b = true → W p l e R s m args below meth c H locs cells slots Q (F0 m (pc + 3) ls rest)) : W p l e R s m args below meth c H locs cells slots Q (F0 m pc ls (.int (bI b) :: rest)) :=
  lv_if_eq hexec hb hdg ht (fun q => kt (by cases b with | false => rfl | true => exact absurd q (by decide))) (fun q => kf (by cases b with | true => rfl | false => exact absurd rfl q))
theorem rv_ifb_ne (hexec : p.tables.exec = Jvm.exec) (hb : c.code = cc) {b : Bool} {off : Int} {tgt : Nat} (hdg : decode cc pc = .ok (.ifCond .ne off, 3)) (ht : (pc : Int) + off = (tgt : Int))
    (kt : b = true → W p l e R s m args below meth c H locs cells slots Q (F0 m tgt ls rest)) (kf : b = false → W p l e R s m args below meth c H locs cells slots Q (F0 m (pc + 3) ls rest)) : W p l e R s m args below meth c H locs cells slots Q (F0 m pc ls (.int (bI b) :: rest)) :=
  lv_if_ne hexec hb hdg ht (fun q => kt (by cases b with | true => rfl | false => exact absurd rfl q)) (fun q => kf (by cases b with | false => rfl | true => exact absurd q (by decide)))
end OURS2
