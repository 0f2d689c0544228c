section
-- ===== PART A: goes FIRST, ahead of the names: the tables' words, and 'selects' of the private methods out of them =====
/-- a private method of a class that the tables say can be made, by its rows of tables_1 -/
def lw_okq (q : MethodName × Nat) : Prop := (q.1.cls ≠ "java/lang/invoke/MethodHandle" ∧ q.1.cls ≠ "java/lang/invoke/VarHandle") ∧ Cond.instantiable q.1.cls q.2 ∈ tables_1 ∧ Cond.privateMethod q.1 ∈ tables_1 ∧ Cond.instanceMethod q.1 ∈ tables_1
theorem lw_p0 : lw_okq (⟨"WrestleBook", "checkWrestler", "(I)V"⟩, 6) := ⟨⟨by decide +kernel, by decide +kernel⟩, List.mem_of_getElem? (i := 13) (by decide +kernel), List.mem_of_getElem? (i := 76) (by decide +kernel), List.mem_of_getElem? (i := 77) (by decide +kernel)⟩
theorem lw_p1 : lw_okq (⟨"java/lang/Throwable", "fillInStackTrace", "(I)Ljava/lang/Throwable;"⟩, 6) := ⟨⟨by decide +kernel, by decide +kernel⟩, List.mem_of_getElem? (i := 122) (by decide +kernel), List.mem_of_getElem? (i := 120) (by decide +kernel), List.mem_of_getElem? (i := 121) (by decide +kernel)⟩
theorem lw_p2 : lw_okq (⟨"WrestleBook$Roster", "enter", "(III)V"⟩, 8) := ⟨⟨by decide +kernel, by decide +kernel⟩, List.mem_of_getElem? (i := 21) (by decide +kernel), List.mem_of_getElem? (i := 206) (by decide +kernel), List.mem_of_getElem? (i := 207) (by decide +kernel)⟩
theorem lw_p3 : lw_okq (⟨"WrestleBook$Roster", "isAhead", "(II)Z"⟩, 8) := ⟨⟨by decide +kernel, by decide +kernel⟩, List.mem_of_getElem? (i := 21) (by decide +kernel), List.mem_of_getElem? (i := 238) (by decide +kernel), List.mem_of_getElem? (i := 239) (by decide +kernel)⟩
theorem lw_p4 : lw_okq (⟨"WrestleBook$Roster", "unevenness", "(II)I"⟩, 8) := ⟨⟨by decide +kernel, by decide +kernel⟩, List.mem_of_getElem? (i := 21) (by decide +kernel), List.mem_of_getElem? (i := 328) (by decide +kernel), List.mem_of_getElem? (i := 329) (by decide +kernel)⟩
theorem lw_p5 : lw_okq (⟨"WrestleBookLaw$Sim", "note", "(II)V"⟩, 4) := ⟨⟨by decide +kernel, by decide +kernel⟩, List.mem_of_getElem? (i := 396) (by decide +kernel), List.mem_of_getElem? (i := 394) (by decide +kernel), List.mem_of_getElem? (i := 395) (by decide +kernel)⟩
def lw_privs_1 : List (MethodName × Nat) := [(⟨"WrestleBook", "checkWrestler", "(I)V"⟩, 6), (⟨"java/lang/Throwable", "fillInStackTrace", "(I)Ljava/lang/Throwable;"⟩, 6), (⟨"WrestleBook$Roster", "enter", "(III)V"⟩, 8), (⟨"WrestleBook$Roster", "isAhead", "(II)Z"⟩, 8), (⟨"WrestleBook$Roster", "unevenness", "(II)I"⟩, 8), (⟨"WrestleBookLaw$Sim", "note", "(II)V"⟩, 4)]
theorem lw_r1 : ∀ q ∈ lw_privs_1, lw_okq q := List.forall_mem_cons.mpr ⟨lw_p0, List.forall_mem_cons.mpr ⟨lw_p1, List.forall_mem_cons.mpr ⟨lw_p2, List.forall_mem_cons.mpr ⟨lw_p3, List.forall_mem_cons.mpr ⟨lw_p4, List.forall_mem_cons.mpr ⟨lw_p5, fun _ h => absurd h List.not_mem_nil⟩⟩⟩⟩⟩⟩
def lw_privs : List (MethodName × Nat) := lw_privs_1
def lw_tbl : List Cond := k2_sels lw_privs ++ tables_1
theorem lw_privs_ok : ∀ q ∈ lw_privs, lw_okq q := lw_r1
/-- the streams that the claim lets the run draw from -/
abbrev lw_cs : List Choice := [Jvm.Choice.named "NaN.bits", Jvm.Choice.named "NaN.copy"]
theorem lw_bits : nanBits ∈ lw_cs := by first | decide | exact List.mem_cons_self | simp [lw_cs, nanBits]
/-! ===== BEGIN words of one list among another's, by their places ===== -/
theorem goodIn_r {big : List Cond} (ws : List Cond) (ps : List Nat) (hp : ws = ps.filterMap (fun i => big[i]?)) (h : ws.all goodWord = true) : GoodIn big ws := by
  intro w hw
  have h1 := List.all_eq_true.mp h w hw
  rw [hp] at hw
  obtain ⟨i, -, hi⟩ := List.mem_filterMap.mp hw
  have hm : w ∈ big := by first | exact List.mem_of_getElem? hi | exact List.getElem?_mem hi
  exact ⟨hm, good_of_word h1⟩
theorem goodIn_app {big a b : List Cond} (ha : GoodIn big a) (hb : GoodIn big b) : GoodIn big (a ++ b) := fun w h => (List.mem_append.mp h).elim (ha w) (hb w)
theorem goodIn_ca {big a b : List Cond} {c : Cond} (ha : GoodIn big (c :: a)) (hb : GoodIn big b) : GoodIn big (c :: (a ++ b)) := fun w h => (List.mem_cons.mp h).elim (fun e => ha w (List.mem_cons.mpr (Or.inl e))) (fun h => (List.mem_append.mp h).elim (fun h => ha w (List.mem_cons.mpr (Or.inr h))) (hb w))
theorem goodIn_sub {big ws : List Cond} (hm : ∀ w ∈ ws, w ∈ big) (h : ws.all goodWord = true) : GoodIn big ws := fun w hw => ⟨hm w hw, good_of_word (List.all_eq_true.mp h w hw)⟩
/-! ===== END ===== -/

/-! ===== BEGIN exceptions that leave a method, and their catching by the caller (launches without stack traces) ===== -/
section VXA
/-! The laws vx_back, vx_callV, vx_callS, vx_callSW, vx_throw0, vx_throwS follow proofs of the library, with one case more: JvmDerived/Free/Laws.lean (Back.of_free), Shelf42/LK1.lean (callV, callS), Shelf/KitTraced.lean (throwNew0V, throwNewS). -/
/-- where a method has thrown q: the class by its name, the cell, what was written, the world -/
def vx_T (XC : String → State → State → Prop) (st : State) (q : Addr) (t : State) (mc ms : Nat) (free : Addr → Prop) : Prop :=
  ∃ (E : String) (ce : Cell) (L : List Loc), XC E st t ∧ t.heap[q]? = some ce ∧ ce.vm = .none ∧ st.vm.findClass E = some ce.cls ∧ st.WarmedH t.vm ∧ st.sameButNew ({ t with vm := st.vm } : State) L mc ms ∧ ∀ z ∈ L, free z.base
def vx_Q (Qc : Array Value → State → Outcome → State → Prop) (XC : String → State → State → Prop) (mc ms : Nat) (free : Addr → Prop) : Array Value → State → Outcome → State → Prop := fun a st o t =>
  (Qc a st o t ∧ ∃ L, FrameEnd st o t L mc ms ∧ ∀ q ∈ L, free q.base) ∨ ∃ q, o = .threw q ∧ vx_T XC st q t mc ms free
/-- a callee that returns or throws -/
def vx_Met (l : Launch) (y : MethodName) (ws : List Cond) (rm : Room) (Pc : Array Value → State → Prop) (Qc : Array Value → State → Outcome → State → Prop) (XC : String → State → State → Prop) (mc ms : Nat) (free : Addr → Prop) : Prop :=
  MetFree l y (headSpec ws rm) Pc (fun _ _ _ _ _ => True) (vx_Q Qc XC mc ms free)
def vx_Post (XC : String → State → State → Prop) (mc ms : Nat) (free : Addr → Prop) : Pt → Array Value → Addr → Pt → Prop := fun A a q B =>
  ∃ (g : JFrame) (mk : MethodId) (t : State) (L : List Loc) (E : String) (ce : Cell), B.U.heap = t.heap ∧ B.U.vm = t.vm ∧ XC E (A.U.calling g mk a) t ∧ t.heap[q]? = some ce ∧ ce.vm = .none ∧ A.U.vm.findClass E = some ce.cls ∧ B.locs = A.locs ++ L ∧ (∀ z ∈ L, free z.base) ∧ B.cells = A.cells + mc ∧ B.slots = A.slots + ms
def vx_Back (l : Launch) (R : Room) (p : Program) (e : Env) (below : List Frame) (s : State) (sargs : Array Value) (y : MethodName) (len W9 : Nat)
    (Pre : Pt → Array Value → Prop) (Post : Pt → Array Value → Option Value → Pt → Prop) (PostX : Pt → Array Value → Addr → Pt → Prop) : Prop :=
  ∀ (m : MethodId) (meth : Method) (c : Code) (A : Pt) (g : JFrame) (ig : Instr) (mk : MethodId) (a : Array Value),
    Stand p l e R s m sargs below meth c A.U A.locs A.cells A.slots → g.method = m → g.locals.size = c.maxLocals → decode c.code g.pc = .ok (ig, len) →
    2 * g.monitorRoom + (g.stack.map fun v => v.category).sum ≤ W9 → A.U.methodNamed? y = some mk → Pre A a →
    (∃ (v : Option Value) (B : Pt), Stand p l e R s m sargs below meth c B.U B.locs B.cells B.slots ∧ Post A a v B ∧
      Steps p.tables e below (doInvoke e (A.U.setTop g) [] mk a).1 (B.U.setTop { g with pc := g.pc + len, stack := v.toList ++ g.stack })) ∨
    (∃ (q : Addr) (B : Pt), Stand p l e R s m sargs below meth c B.U B.locs B.cells B.slots ∧ PostX A a q B ∧
      Steps p.tables e below (doInvoke e (A.U.setTop g) [] mk a).1 ((B.U.setTop g).pushFrame (.throwing q)))
section Payer
variable {l : Launch} {R : Room} {p : Program} {e : Env} {below : List Frame} {s : State} {sargs : Array Value} {y : MethodName} {len W9 : Nat}
theorem vx_back {ws : List Cond} {rm : Room} {Pc : Array Value → State → Prop} {Qc : Array Value → State → Outcome → State → Prop} {XC : String → State → State → Prop} {mc ms : Nat} {free : Addr → Prop} {bytes : ByteArray} {maxL : Nat} {ret : Option FieldType}
    (hM : vx_Met l y ws rm Pc Qc XC mc ms free) (hblind : FrameBlind Pc) (hrc : rm.cells = mc) (hrs : rm.slots = ms)
    (hframes : rm.frames + 1 ≤ R.frames) (hlocals : W9 + (maxL + 11) + rm.locals ≤ R.locals)
    (hws : ∀ w ∈ ws, ∀ a' U, s.WarmedH U.vm → w.before a' U = true) (hcode : Cond.code y bytes maxL ret ∈ ws) (hinit : ∀ a' U, s.WarmedH U.vm → (Cond.initialized y.cls).before a' U = true) :
    vx_Back l R p e below s sargs y len W9 (PreOf R mc ms Pc) (PostOf Qc mc ms free) (vx_Post XC mc ms free) := by
  intro m meth c A g ig mk a X hg hsize hdg hW hn hp
  have h1 : (headSpec ws rm).pre.before a A.U = true := atoms_intro fun w hw => hws w hw _ _ X.warmed
  have h2 : (Cond.code y bytes maxL ret).before a A.U = true := hws _ hcode _ _ X.warmed
  have h3 : (Cond.initialized y.cls).before a A.U = true := hinit _ _ X.warmed
  have h4 : A.cells + (headSpec ws rm).room.cells ≤ R.cells := by rw [show (headSpec ws rm).room.cells = mc from hrc]; exact hp.1
  have h5 : A.slots + (headSpec ws rm).room.slots ≤ R.slots := by rw [show (headSpec ws rm).room.slots = ms from hrs]; exact hp.2.1
  have hPc : Pc a (A.U.calling g mk a) := hblind _ _ _ _ hp.2.2
  obtain ⟨U, Ls, c0, s0⟩ := A
  dsimp only [Pt.U, Pt.locs, Pt.cells, Pt.slots] at h1 h2 h3 h4 h5 X hn hPc ⊢
  obtain ⟨methY, cY, hmY, hcY, -, hlY, -, -, -, -⟩ := Cond.code_spec hn h2
  obtain ⟨kY, hkY, -⟩ := className_of_methodNamed hn
  have hinitY : kY.init = .initialized := Cond.initialized_spec (findClass_of_methodNamed hn) hkY h3
  have h : At U g.method c below := by rw [hg]; exact X.here
  have hlocals9 : W9 + (maxL + 11) + (headSpec ws rm).room.locals ≤ R.locals := hlocals
  have happ : (headSpec ws rm).appliesLoose y e.platform (U.calling g mk a) = true :=
    Spec.appliesLoose_calling (g := g) h hdg hn hkY hinitY
      (X.room_calling (g := g) (R' := (headSpec ws rm).room) hsize hmY hcY hframes (by rw [hlY]; omega) h4 h5) h1
  obtain ⟨mid, hmid⟩ := h.above
  have hfr : (U.setTop g).frames = (.java g :: mid) ++ below := by rw [State.frames_setTop' g h.top, hmid]; rfl
  obtain ⟨o, s₂, hsteps, -, hend, hq⟩ := Steps.callFree hM p X.admits X.cas X.clock (acts := []) hfr happ hPc trivial
  have hq' : vx_Q Qc XC mc ms free a (U.calling g mk a) o s₂ := hq
  rw [State.frames_setTop' g h.top] at hend
  obtain ⟨g₀, hg0⟩ := Option.isSome_iff_exists.mp h.top
  obtain ⟨r, hr⟩ := State.topJava?_eq_some.mp hg0
  have hr' : (({ U with heap := s₂.heap, slotsUsed := s₂.slotsUsed } : State).setVm s₂.vm).frames = .java g₀ :: r := hr
  rcases hq' with ⟨hqc, L, hfe, hL⟩ | ⟨q, rfl, E, ce, L, hx, hce, hcv, hcl, hW₂, hsm, hL⟩
  · obtain ⟨⟨v, rfl⟩, hW₂, e2, q2, q3, q4, q5, q6⟩ := id hfe
    have e3 : s₂ = ({ (U.calling g mk a).setFrames s₂.frames with heap := s₂.heap, slotsUsed := s₂.slotsUsed } : State).setVm s₂.vm := by
      have : s₂ = ({ s₂ with vm := (U.calling g mk a).vm } : State).setVm s₂.vm := rfl
      rw [e2] at this
      exact this
    obtain ⟨c₂, i₂, len₂, hc₂, hd₂, hf₂⟩ := hend
    have hW' : U.WarmedH s₂.vm := hW₂
    have hcc : c₂ = c := by
      have h1 : s₂.code? g.method = U.code? g.method := by
        rw [State.code?_eq, State.code?_eq, hW'.alike.method?]
      exact Option.some.inj (hc₂.symm.trans (h1.trans h.code))
    subst hcc
    have hlen : len₂ = len := by rw [hdg] at hd₂; cases hd₂; rfl
    subst hlen
    have hs₂ : s₂ = (({ U with heap := s₂.heap, slotsUsed := s₂.slotsUsed } : State).setVm s₂.vm).setTop { g with pc := g.pc + len₂, stack := v.toList ++ g.stack } := by
      refine e3.trans ?_
      rw [hf₂, State.calling_eq h.top, State.setFrames_setFrames, State.setTop_of_frames _ hr', hr]
      rfl
    have hsame : U.sameButNew ({ U with heap := s₂.heap, slotsUsed := s₂.slotsUsed } : State) L mc ms := by
      refine ⟨?_, q2, q3, q4, q5, q6⟩
      obtain ⟨t, ht, -⟩ := State.frames_cons hr
      show ({ U with heap := s₂.heap, slotsUsed := s₂.slotsUsed } : State) = { U.setFrames U.frames with heap := s₂.heap, slotsUsed := s₂.slotsUsed }
      rw [State.setFrames_self ht]
    subst hg
    refine Or.inl ⟨v, ⟨(({ U with heap := s₂.heap, slotsUsed := s₂.slotsUsed } : State).setVm s₂.vm), Ls ++ L, c0 + mc, s0 + ms⟩,
      ⟨X.admits, X.cas, X.clock, X.frames, X.room, X.hears, X.method, X.code, (X.here.setHeapUsed s₂.heap s₂.slotsUsed).setVm hW'.alike, X.tail, State.WarmedH.trans X.warmed hW', X.limits, X.bytes, X.same.trans (hsame.setVm s.vm)⟩,
      ⟨g, mk, s₂, L, rfl, rfl, hqc, rfl, hL, rfl, rfl⟩, ?_⟩
    show Steps p.tables e below _ ((({ U with heap := s₂.heap, slotsUsed := s₂.slotsUsed } : State).setVm s₂.vm).setTop { g with pc := g.pc + len₂, stack := v.toList ++ g.stack })
    rw [← hs₂]
    exact hsteps
  · obtain ⟨e2, q2, q3, q4, q5, q6⟩ := id hsm
    have e3 : s₂ = ({ (U.calling g mk a).setFrames s₂.frames with heap := s₂.heap, slotsUsed := s₂.slotsUsed } : State).setVm s₂.vm := by
      have : s₂ = ({ s₂ with vm := (U.calling g mk a).vm } : State).setVm s₂.vm := rfl
      rw [e2] at this
      exact this
    have hf₂ : s₂.frames = .throwing q :: .java g :: U.frames.tail := hend
    have hW' : U.WarmedH s₂.vm := hW₂
    have hs₂ : s₂ = ((({ U with heap := s₂.heap, slotsUsed := s₂.slotsUsed } : State).setVm s₂.vm).setTop g).pushFrame (.throwing q) := by
      refine e3.trans ?_
      rw [hf₂, State.calling_eq h.top, State.setFrames_setFrames, State.pushFrame, State.frames_setTop _ hr', State.setTop_of_frames _ hr', State.setFrames_setFrames, hr]
      rfl
    have hsame : U.sameButNew ({ U with heap := s₂.heap, slotsUsed := s₂.slotsUsed } : State) L mc ms := by
      refine ⟨?_, q2, q3, q4, q5, q6⟩
      obtain ⟨t, ht, -⟩ := State.frames_cons hr
      show ({ U with heap := s₂.heap, slotsUsed := s₂.slotsUsed } : State) = { U.setFrames U.frames with heap := s₂.heap, slotsUsed := s₂.slotsUsed }
      rw [State.setFrames_self ht]
    subst hg
    refine Or.inr ⟨q, ⟨(({ U with heap := s₂.heap, slotsUsed := s₂.slotsUsed } : State).setVm s₂.vm), Ls ++ L, c0 + mc, s0 + ms⟩,
      ⟨X.admits, X.cas, X.clock, X.frames, X.room, X.hears, X.method, X.code, (X.here.setHeapUsed s₂.heap s₂.slotsUsed).setVm hW'.alike, X.tail, State.WarmedH.trans X.warmed hW', X.limits, X.bytes, X.same.trans (hsame.setVm s.vm)⟩,
      ⟨g, mk, s₂, L, E, ce, rfl, rfl, hx, hce, hcv, hcl, rfl, hL, rfl, rfl⟩, ?_⟩
    show Steps p.tables e below _ (((({ U with heap := s₂.heap, slotsUsed := s₂.slotsUsed } : State).setVm s₂.vm).setTop g).pushFrame (.throwing q))
    rw [← hs₂]
    exact hsteps
end Payer
section Calls
variable {p : Program} {l : Launch} {e : Env} {R : Room} {s : State} {m : MethodId} {args : Array Value} {below : List Frame} {meth : Method} {c : Code} {T : State} {locs : List Loc} {cells slots : Nat}
theorem vx_callV (X : Stand p l e R s m args below meth c T locs cells slots) (hexec : p.tables.exec = Jvm.exec) {own C : String} {index : Nat} {y : MethodName} {bytes : ByteArray} {maxL : Nat} {ret : Option FieldType}
    (hown : s.vm.findClass own = some m.cls) (hlink : (Cond.methodLink own index y).before args s = true) (hinst : (Cond.instanceMethod y).before args s = true) (hsel : (Cond.selects C y y).before args s = true)
    (hcode : (Cond.code y bytes maxL ret).before args s = true) (hy : y.cls ≠ "java/lang/invoke/MethodHandle" ∧ y.cls ≠ "java/lang/invoke/VarHandle")
    {W9 : Nat} {Pre : Pt → Array Value → Prop} {Post : Pt → Array Value → Option Value → Pt → Prop} {PostX : Pt → Array Value → Addr → Pt → Prop} (hK : vx_Back l R p e below s args y 3 W9 Pre Post PostX)
    {b : Addr} {cellB : Cell} (hcell : T.heap[b]? = some cellB) (hobj : cellB.vm.isStatics = false) (hcls : s.vm.findClass C = some cellB.cls)
    {g : JFrame} (hg : g.method = m) (hsize : g.locals.size = c.maxLocals) {argsL rest : List Value} (hlen : ∀ sig, parseMethodDescriptor y.desc = some sig → argsL.length = sig.parameters.length)
    (hstack : g.stack = argsL.reverse ++ .ref b :: rest) (hW : 2 * g.monitorRoom + (rest.map fun v => v.category).sum ≤ W9) (hdg : decode c.code g.pc = .ok (.invokevirtual index, 3))
    (hpre : ∀ vm₁, s.WarmedH vm₁ → Pre ⟨T.setVm vm₁, locs, cells, slots⟩ (Value.ref b :: argsL).toArray) :
    (∃ (v : Option Value) (vm₁ : Vm) (B : Pt), s.WarmedH vm₁ ∧ Stand p l e R s m args below meth c B.U B.locs B.cells B.slots ∧ Post ⟨T.setVm vm₁, locs, cells, slots⟩ (Value.ref b :: argsL).toArray v B ∧
      ∀ target, Steps p.tables e below (B.U.setTop { g with pc := g.pc + 3, stack := v.toList ++ rest }) target → Steps p.tables e below (T.setTop g) target) ∨
    (∃ (q : Addr) (vm₁ : Vm) (B : Pt), s.WarmedH vm₁ ∧ Stand p l e R s m args below meth c B.U B.locs B.cells B.slots ∧ PostX ⟨T.setVm vm₁, locs, cells, slots⟩ (Value.ref b :: argsL).toArray q B ∧
      Steps p.tables e below (T.setTop g) ((B.U.setTop { g with stack := rest }).pushFrame (.throwing q))) := by
  obtain ⟨mk, methM, hnamed, hmethM, hstM, habM⟩ := Cond.instanceMethod_spec hinst
  obtain ⟨methM', cM, hmethM', -, -, -, -, -, -, hsigM⟩ := Cond.code_spec hnamed hcode
  cases hmethM.symm.trans hmethM'
  obtain ⟨c2, r2, m2, q1, q2, q3, q4, kP, hkP, hkPi⟩ := Cond.selects_spec hsel
  cases hcls.symm.trans q1
  cases (State.methodFound?_of_named hnamed hy).symm.trans q2
  cases hnamed.symm.trans q3
  have hselP : selectMethod e.platform s.vm cellB.cls mk = .method mk := by rw [Launch.admits_selectMethod X.admits]; exact q4
  obtain ⟨vm₁, X₁, hstep₁⟩ := X.invokevirtual hexec hown hlink hnamed hmethM hstM hkP hkPi hy (a := b) (cell := cellB) hcell
    (fun z h => by rw [h] at hobj; cases hobj) hselP hmethM habM hkP hkPi (g := g) hg (argsL := argsL) (rest := rest) (hlen _ hsigM) hstack hdg
  rcases hK m meth c ⟨T.setVm vm₁, locs, cells, slots⟩ { g with stack := rest } (.invokevirtual index) mk (Value.ref b :: argsL).toArray X₁ hg hsize hdg hW (X₁.named hnamed) (hpre vm₁ X₁.warmed) with ⟨v, B, X', hpost, hsteps⟩ | ⟨q, B, X', hpost, hsteps⟩
  · exact Or.inl ⟨v, vm₁, B, X₁.warmed, X', hpost, fun target h => hstep₁ _ fun acts => by rw [doInvoke_state]; exact hsteps.trans h⟩
  · exact Or.inr ⟨q, vm₁, B, X₁.warmed, X', hpost, hstep₁ _ fun acts => by rw [doInvoke_state]; exact hsteps⟩
theorem vx_callS (X : Stand p l e R s m args below meth c T locs cells slots) (hexec : p.tables.exec = Jvm.exec) {own : String} {index : Nat} {y : MethodName} {bytes : ByteArray} {maxL : Nat} {ret : Option FieldType}
    (hown : s.vm.findClass own = some m.cls) (hlink : (Cond.methodLink own index y).before args s = true) (hstat : (Cond.static y).before args s = true) (hinit : (Cond.initialized y.cls).before args s = true)
    (hcode : (Cond.code y bytes maxL ret).before args s = true) (hy : y.cls ≠ "java/lang/invoke/MethodHandle" ∧ y.cls ≠ "java/lang/invoke/VarHandle")
    {W9 : Nat} {Pre : Pt → Array Value → Prop} {Post : Pt → Array Value → Option Value → Pt → Prop} {PostX : Pt → Array Value → Addr → Pt → Prop} (hK : vx_Back l R p e below s args y 3 W9 Pre Post PostX)
    {g : JFrame} (hg : g.method = m) (hsize : g.locals.size = c.maxLocals) {argsL rest : List Value} (hlen : ∀ sig, parseMethodDescriptor y.desc = some sig → argsL.length = sig.parameters.length)
    (hstack : g.stack = argsL.reverse ++ rest) (hW : 2 * g.monitorRoom + (rest.map fun v => v.category).sum ≤ W9) (hdg : decode c.code g.pc = .ok (.invokestatic index, 3))
    (hpre : ∀ vm₁, s.WarmedH vm₁ → Pre ⟨T.setVm vm₁, locs, cells, slots⟩ argsL.toArray) :
    (∃ (v : Option Value) (vm₁ : Vm) (B : Pt), s.WarmedH vm₁ ∧ Stand p l e R s m args below meth c B.U B.locs B.cells B.slots ∧ Post ⟨T.setVm vm₁, locs, cells, slots⟩ argsL.toArray v B ∧
      ∀ target, Steps p.tables e below (B.U.setTop { g with pc := g.pc + 3, stack := v.toList ++ rest }) target → Steps p.tables e below (T.setTop g) target) ∨
    (∃ (q : Addr) (vm₁ : Vm) (B : Pt), s.WarmedH vm₁ ∧ Stand p l e R s m args below meth c B.U B.locs B.cells B.slots ∧ PostX ⟨T.setVm vm₁, locs, cells, slots⟩ argsL.toArray q B ∧
      Steps p.tables e below (T.setTop g) ((B.U.setTop { g with stack := rest }).pushFrame (.throwing q))) := by
  obtain ⟨mk, hnamed⟩ := Cond.code_named hcode
  obtain ⟨methM, cM, hmethM, -, -, -, -, -, -, hsigM⟩ := Cond.code_spec hnamed hcode
  have hstatic : methM.isStatic = true := Cond.static_spec hnamed hmethM hstat
  obtain ⟨kP, hkP, -⟩ := className_of_methodNamed hnamed
  have hinitP : kP.init = .initialized := Cond.initialized_spec (findClass_of_methodNamed hnamed) hkP hinit
  obtain ⟨vm₁, X₁, hstep₁⟩ := X.invokestatic hexec hown hlink hnamed hmethM hstatic hkP hinitP hy (g := g) hg (argsL := argsL) (rest := rest) (hlen _ hsigM) hstack hdg
  rcases hK m meth c ⟨T.setVm vm₁, locs, cells, slots⟩ { g with stack := rest } (.invokestatic index) mk argsL.toArray X₁ hg hsize hdg hW (X₁.named hnamed) (hpre vm₁ X₁.warmed) with ⟨v, B, X', hpost, hsteps⟩ | ⟨q, B, X', hpost, hsteps⟩
  · exact Or.inl ⟨v, vm₁, B, X₁.warmed, X', hpost, fun target h => hstep₁ _ fun acts => by rw [doInvoke_state]; exact hsteps.trans h⟩
  · exact Or.inr ⟨q, vm₁, B, X₁.warmed, X', hpost, hstep₁ _ fun acts => by rw [doInvoke_state]; exact hsteps⟩
end Calls
theorem vx_cls {s : State} {T : State} {vm₁ : Vm} {E : String} {k : ClassId} (hW : s.WarmedH vm₁) (h : (T.setVm vm₁).vm.findClass E = some k) : s.vm.findClass E = some k := by
  have h1 : vm₁.findClass E = some k := h
  rw [hW.alike.findClass] at h1
  exact h1
/-- the method's frame g, with q thrown over it -/
def vx_W (p : Program) (l : Launch) (e : Env) (R : Room) (s : State) (m : MethodId) (args : Array Value) (below : List Frame) (meth : Method) (c : Code) (H : Heap) (locs : List Loc) (cells slots : Nat) (Q : State → Prop) (g : JFrame) (q : Addr) : Prop :=
  ∀ T : State, T.heap = H → Stand p l e R s m args below meth c T locs cells slots → ∃ t, Steps p.tables e below ((T.setTop g).pushFrame (.throwing q)) t ∧ Q t
def vx_Run (p : Program) (l : Launch) (e : Env) (R : Room) (s : State) (m : MethodId) (args : Array Value) (below : List Frame) (meth : Method) (c : Code) (H : Heap) (locs : List Loc) (cells slots mc ms : Nat) (g : JFrame) (rest : List Value) (Qa : State → Outcome → State → Prop) (XC : String → State → State → Prop) (free : Addr → Prop) : Prop :=
  ∀ T : State, T.heap = H → Stand p l e R s m args below meth c T locs cells slots →
    (∃ (v : Option Value) (st₀ t T' : State) (L : List Loc), st₀.heap = H ∧ Stand p l e R s m args below meth c T' (locs ++ L) (cells + mc) (slots + ms) ∧ (∀ q ∈ L, free q.base) ∧ T'.heap = t.heap ∧ T'.vm = t.vm ∧ Qa st₀ (.returned v) t ∧
      Goes p e below T g T' { g with pc := g.pc + 3, stack := v.toList ++ rest }) ∨
    (∃ (q : Addr) (st₀ t T' : State) (L : List Loc) (E : String) (ce : Cell), st₀.heap = H ∧ Stand p l e R s m args below meth c T' (locs ++ L) (cells + mc) (slots + ms) ∧ (∀ z ∈ L, free z.base) ∧ T'.heap = t.heap ∧ T'.vm = t.vm ∧ XC E st₀ t ∧ t.heap[q]? = some ce ∧ ce.vm = .none ∧ s.vm.findClass E = some ce.cls ∧
      Steps p.tables e below (T.setTop g) ((T'.setTop { g with stack := rest }).pushFrame (.throwing q)))
def vx_X {S : Type} (px : S → Prop) (B : String → S → State → Prop) (A : Nat → Prop) : String → State → State → Prop := fun E st t => ∃ u : S, px u ∧ B E u t ∧ va_F A st t
section Runs
variable {p : Program} {l : Launch} {e : Env} {R : Room} {s : State} {m : MethodId} {args : Array Value} {below : List Frame} {meth : Method} {c : Code} {H : Heap} {locs : List Loc} {cells slots : Nat}
variable {y : MethodName} {bytes cc : ByteArray} {maxL nL mc ms n index : Nat} {ret : Option FieldType} {ws : List Cond} {rm : Room} {Pc : Array Value → State → Prop} {Qc : Array Value → State → Outcome → State → Prop} {XC : String → State → State → Prop} {free : Addr → Prop} {Ts : List Cond} {own C : String} {b : Addr} {As rest : List Value} {g : JFrame}
theorem vx_callBack (cb : CallB R s args own index y bytes maxL ret ws rm mc ms n) (hM : vx_Met l y ws rm Pc Qc XC mc ms free) (hbl : FrameBlind Pc) : vx_Back l R p e below s args y 3 8 (PreOf R mc ms Pc) (PostOf Qc mc ms free) (vx_Post XC mc ms free) := by
  obtain ⟨hrc, hrs, hfr, hlo, hws, hcw, -, hini, -⟩ := cb
  exact vx_back (bytes := bytes) (maxL := maxL) (ret := ret) hM hbl hrc hrs hfr hlo hws hcw (fun a' U hW => word_at hW (Or.inl (by first | rfl | simp [Cond.onTables, Cond.keeps, Cond.steady])) hini)
theorem vx_runV (S : CallFix p m c cc nL s args Ts own) (hM : vx_Met l y ws rm Pc Qc XC mc ms free) (cw : CallW R s args own C index y bytes maxL ret ws rm mc ms n) (hp : PreV s H C b Pc As)
    (hg : g.method = m) (hn : As.length = n) (hsize : g.locals.size = nL) (hstack : g.stack = As.reverse ++ .ref b :: rest) (hW : 2 * g.monitorRoom + (rest.map fun v => v.category).sum ≤ 8) (hdg : decode cc g.pc = .ok (.invokevirtual index, 3)) (hf : cells + mc ≤ R.cells ∧ slots + ms ≤ R.slots) :
    vx_Run p l e R s m args below meth c H locs cells slots mc ms g rest (Qc (Value.ref b :: As).toArray) XC free := by
  have hK : vx_Back l R p e below s args y 3 8 (PreOf R mc ms Pc) (PostOf Qc mc ms free) (vx_Post XC mc ms free) := vx_callBack cw.1 hM hp.1
  obtain ⟨⟨-, -, -, -, -, -, hcode, -, hy, hlen, hl⟩, hin, hse⟩ := cw
  obtain ⟨hx, hb, hml, ho, -⟩ := S
  obtain ⟨-, ⟨cellB, hcB, hoB, hclB⟩, hPc⟩ := hp
  intro T hT X
  rcases vx_callV X hx (C := C) (bytes := bytes) (maxL := maxL) (ret := ret) ho hl hin hse hcode hy hK (by rw [hT]; exact hcB) hoB hclB hg (hsize.trans hml.symm) (argsL := As) (rest := rest) (fun sig h => hn.trans (hlen sig h)) hstack hW (by rw [hb]; exact hdg)
    (fun vm₁ hW₁ => ⟨hf.1, hf.2, hPc (T.setVm vm₁) hT hW₁⟩) with ⟨v, vm₁, ⟨U', l2, c2, s2⟩, hW₁, X', ⟨g', mk, t, L, e1, e2, hq, h1, hL, h2, h3⟩, st⟩ | ⟨q, vm₁, ⟨U', l2, c2, s2⟩, hW₁, X', ⟨g', mk, t, L, E, ce, e1, e2, hq, hce, hcv, hcl, h1, hL, h2, h3⟩, st⟩
  · dsimp only [Pt.U, Pt.locs, Pt.cells, Pt.slots] at X' e1 e2 h1 h2 h3 st
    subst h1; subst h2; subst h3
    exact Or.inl ⟨v, (T.setVm vm₁).calling g' mk (Value.ref b :: As).toArray, t, U', L, hT, X', hL, e1, e2, hq, st⟩
  · dsimp only [Pt.U, Pt.locs, Pt.cells, Pt.slots] at X' e1 e2 h1 h2 h3 st hcl
    subst h1; subst h2; subst h3
    exact Or.inr ⟨q, (T.setVm vm₁).calling g' mk (Value.ref b :: As).toArray, t, U', L, E, ce, hT, X', hL, e1, e2, hq, hce, hcv, vx_cls hW₁ hcl, st⟩
theorem vx_runS (S : CallFix p m c cc nL s args Ts own) (hM : vx_Met l y ws rm Pc Qc XC mc ms free) (cw : CallB R s args own index y bytes maxL ret ws rm mc ms n ∧ (Cond.static y).before args s = true) (hp : PreS s H Pc As)
    (hg : g.method = m) (hn : As.length = n) (hsize : g.locals.size = nL) (hstack : g.stack = As.reverse ++ rest) (hW : 2 * g.monitorRoom + (rest.map fun v => v.category).sum ≤ 8) (hdg : decode cc g.pc = .ok (.invokestatic index, 3)) (hf : cells + mc ≤ R.cells ∧ slots + ms ≤ R.slots) :
    vx_Run p l e R s m args below meth c H locs cells slots mc ms g rest (Qc As.toArray) XC free := by
  have hK : vx_Back l R p e below s args y 3 8 (PreOf R mc ms Pc) (PostOf Qc mc ms free) (vx_Post XC mc ms free) := vx_callBack cw.1 hM hp.1
  obtain ⟨⟨-, -, -, -, -, -, hcode, hini, hy, hlen, hl⟩, hstt⟩ := cw
  obtain ⟨hx, hb, hml, ho, -⟩ := S
  intro T hT X
  rcases vx_callS X hx (bytes := bytes) (maxL := maxL) (ret := ret) ho hl hstt hini hcode hy hK hg (hsize.trans hml.symm) (argsL := As) (rest := rest) (fun sig h => hn.trans (hlen sig h)) hstack hW (by rw [hb]; exact hdg)
    (fun vm₁ hW₁ => ⟨hf.1, hf.2, hp.2 (T.setVm vm₁) hT hW₁⟩) with ⟨v, vm₁, ⟨U', l2, c2, s2⟩, hW₁, X', ⟨g', mk, t, L, e1, e2, hq, h1, hL, h2, h3⟩, st⟩ | ⟨q, vm₁, ⟨U', l2, c2, s2⟩, hW₁, X', ⟨g', mk, t, L, E, ce, e1, e2, hq, hce, hcv, hcl, h1, hL, h2, h3⟩, st⟩
  · dsimp only [Pt.U, Pt.locs, Pt.cells, Pt.slots] at X' e1 e2 h1 h2 h3 st
    subst h1; subst h2; subst h3
    exact Or.inl ⟨v, (T.setVm vm₁).calling g' mk As.toArray, t, U', L, hT, X', hL, e1, e2, hq, st⟩
  · dsimp only [Pt.U, Pt.locs, Pt.cells, Pt.slots] at X' e1 e2 h1 h2 h3 st hcl
    subst h1; subst h2; subst h3
    exact Or.inr ⟨q, (T.setVm vm₁).calling g' mk As.toArray, t, U', L, E, ce, hT, X', hL, e1, e2, hq, hce, hcv, vx_cls hW₁ hcl, st⟩
end Runs
section Rows
variable {p : Program} {l : Launch} {e : Env} {R : Room} {s : State} {m : MethodId} {args : Array Value} {below : List Frame} {meth : Method} {c : Code} {H : Heap} {locs : List Loc} {cells slots : Nat} {Q : State → Prop}
variable {mc ms : Nat} {free : Addr → Prop} {A0 A1 : Nat → Prop} {H0 : Heap} {a : Array Value} {pc : Nat} {ls : Array Slot} {st0 rest : List Value}
theorem vx_keep {st₀ t T' : State} {L : List Loc} (h0 : st₀.heap = H) (e1 : T'.heap = t.heap) (hS : va_S A0 H0 H locs) (hA : ∀ q, q < H.size → A1 q → A0 q) (hf : ∀ q, free q → A0 q) (hL : ∀ q ∈ L, free q.base) (hF : va_F A1 st₀ t) :
    H.size ≤ T'.heap.size ∧ (∀ q : Nat, q < H.size → ¬ A1 q → T'.heap[q]? = H[q]?) ∧ va_S A0 H0 T'.heap (locs ++ L) := by
  obtain ⟨hz, hk⟩ := hF
  rw [h0] at hz hk
  exact ⟨by rw [e1]; exact hz, fun q h1 h2 => by rw [e1]; exact hk q h1 h2,
    ⟨Nat.le_trans hS.1 (by rw [e1]; exact hz), fun q h1 h2 => by rw [e1, hk q (Nat.lt_of_lt_of_le h1 hS.1) (fun z => h2 (hA q (Nat.lt_of_lt_of_le h1 hS.1) z))]; exact hS.2.1 q h1 h2, fun q hq => by
      rcases List.mem_append.mp hq with h | h
      · exact hS.2.2 q h
      · exact hf _ (hL q h)⟩⟩
theorem vx_calli {S SX : Type} {post : Int32 → S → Prop} {px : SX → Prop} {B : S → State → Prop} {BX : String → SX → State → Prop} {AX : Nat → Prop} (hr : vx_Run p l e R s m args below meth c H locs cells slots mc ms (F0 m pc ls st0) rest (va_Qi post B A1 a) (vx_X px BX AX) free) (hS : va_S A0 H0 H locs) (hA : ∀ q, q < H.size → A1 q → A0 q) (hf : ∀ q, free q → A0 q) (hAX : ∀ q, q < H.size → AX q → A0 q)
    (kx : ∀ (E : String) (ce : Cell) (q9 : Addr) (u : SX) (t : State) (H1 : Heap) (locs1 : List Loc), t.heap = H1 → s.vm.Alike t.vm → px u → BX E u t → H.size ≤ H1.size → (∀ q : Nat, q < H.size → ¬ AX q → H1[q]? = H[q]?) → va_S A0 H0 H1 locs1 → H1[q9]? = some ce → ce.vm = .none → s.vm.findClass E = some ce.cls → vx_W p l e R s m args below meth c H1 locs1 (cells + mc) (slots + ms) Q (F0 m pc ls rest) q9)
    (kk : ∀ (r : Int32) (u : S) (t : State) (H1 : Heap) (locs1 : List Loc), t.heap = H1 → s.vm.Alike t.vm → post r u → B u t → H.size ≤ H1.size → (∀ q : Nat, q < H.size → ¬ A1 q → H1[q]? = H[q]?) → va_S A0 H0 H1 locs1 → W p l e R s m args below meth c H1 locs1 (cells + mc) (slots + ms) Q (F0 m (pc + 3) ls (.int r :: rest))) : W p l e R s m args below meth c H locs cells slots Q (F0 m pc ls st0) := by
  intro T hT X
  rcases hr T hT X with ⟨v, st₀, t, T', L, h0, X', hL, e1, e2, ⟨⟨r, u, hv, hp, hb⟩, hF⟩, st⟩ | ⟨q, st₀, t, T', L, E, ce, h0, X', hL, e1, e2, ⟨u, hp, hb, hF⟩, hce, hcv, hcl, st⟩
  · cases hv
    obtain ⟨k1, k2, k3⟩ := vx_keep h0 e1 hS hA hf hL hF
    obtain ⟨t2, a1, b1⟩ := kk r u t T'.heap (locs ++ L) e1.symm (by rw [← e2]; exact X'.warmed.alike) hp hb k1 k2 k3 T' rfl X'
    exact ⟨t2, st t2 a1, b1⟩
  · obtain ⟨k1, k2, k3⟩ := vx_keep h0 e1 hS hAX hf hL hF
    obtain ⟨t2, a1, b1⟩ := kx E ce q u t T'.heap (locs ++ L) e1.symm (by rw [← e2]; exact X'.warmed.alike) hp hb k1 k2 k3 (by rw [e1]; exact hce) hcv hcl T' rfl X'
    exact ⟨t2, st.trans a1, b1⟩
theorem vx_calll {S SX : Type} {post : Int64 → S → Prop} {px : SX → Prop} {B : S → State → Prop} {BX : String → SX → State → Prop} {AX : Nat → Prop} (hr : vx_Run p l e R s m args below meth c H locs cells slots mc ms (F0 m pc ls st0) rest (va_Ql post B A1 a) (vx_X px BX AX) free) (hS : va_S A0 H0 H locs) (hA : ∀ q, q < H.size → A1 q → A0 q) (hf : ∀ q, free q → A0 q) (hAX : ∀ q, q < H.size → AX q → A0 q)
    (kx : ∀ (E : String) (ce : Cell) (q9 : Addr) (u : SX) (t : State) (H1 : Heap) (locs1 : List Loc), t.heap = H1 → s.vm.Alike t.vm → px u → BX E u t → H.size ≤ H1.size → (∀ q : Nat, q < H.size → ¬ AX q → H1[q]? = H[q]?) → va_S A0 H0 H1 locs1 → H1[q9]? = some ce → ce.vm = .none → s.vm.findClass E = some ce.cls → vx_W p l e R s m args below meth c H1 locs1 (cells + mc) (slots + ms) Q (F0 m pc ls rest) q9)
    (kk : ∀ (r : Int64) (u : S) (t : State) (H1 : Heap) (locs1 : List Loc), t.heap = H1 → s.vm.Alike t.vm → post r u → B u t → H.size ≤ H1.size → (∀ q : Nat, q < H.size → ¬ A1 q → H1[q]? = H[q]?) → va_S A0 H0 H1 locs1 → W p l e R s m args below meth c H1 locs1 (cells + mc) (slots + ms) Q (F0 m (pc + 3) ls (.long r :: rest))) : W p l e R s m args below meth c H locs cells slots Q (F0 m pc ls st0) := by
  intro T hT X
  rcases hr T hT X with ⟨v, st₀, t, T', L, h0, X', hL, e1, e2, ⟨⟨r, u, hv, hp, hb⟩, hF⟩, st⟩ | ⟨q, st₀, t, T', L, E, ce, h0, X', hL, e1, e2, ⟨u, hp, hb, hF⟩, hce, hcv, hcl, st⟩
  · cases hv
    obtain ⟨k1, k2, k3⟩ := vx_keep h0 e1 hS hA hf hL hF
    obtain ⟨t2, a1, b1⟩ := kk r u t T'.heap (locs ++ L) e1.symm (by rw [← e2]; exact X'.warmed.alike) hp hb k1 k2 k3 T' rfl X'
    exact ⟨t2, st t2 a1, b1⟩
  · obtain ⟨k1, k2, k3⟩ := vx_keep h0 e1 hS hAX hf hL hF
    obtain ⟨t2, a1, b1⟩ := kx E ce q u t T'.heap (locs ++ L) e1.symm (by rw [← e2]; exact X'.warmed.alike) hp hb k1 k2 k3 (by rw [e1]; exact hce) hcv hcl T' rfl X'
    exact ⟨t2, st.trans a1, b1⟩
theorem vx_callf {S SX : Type} {post : UInt32 → S → Prop} {px : SX → Prop} {B : S → State → Prop} {BX : String → SX → State → Prop} {AX : Nat → Prop} (hr : vx_Run p l e R s m args below meth c H locs cells slots mc ms (F0 m pc ls st0) rest (va_Qf post B A1 a) (vx_X px BX AX) free) (hS : va_S A0 H0 H locs) (hA : ∀ q, q < H.size → A1 q → A0 q) (hf : ∀ q, free q → A0 q) (hAX : ∀ q, q < H.size → AX q → A0 q)
    (kx : ∀ (E : String) (ce : Cell) (q9 : Addr) (u : SX) (t : State) (H1 : Heap) (locs1 : List Loc), t.heap = H1 → s.vm.Alike t.vm → px u → BX E u t → H.size ≤ H1.size → (∀ q : Nat, q < H.size → ¬ AX q → H1[q]? = H[q]?) → va_S A0 H0 H1 locs1 → H1[q9]? = some ce → ce.vm = .none → s.vm.findClass E = some ce.cls → vx_W p l e R s m args below meth c H1 locs1 (cells + mc) (slots + ms) Q (F0 m pc ls rest) q9)
    (kk : ∀ (r : UInt32) (u : S) (t : State) (H1 : Heap) (locs1 : List Loc), t.heap = H1 → s.vm.Alike t.vm → post r u → B u t → H.size ≤ H1.size → (∀ q : Nat, q < H.size → ¬ A1 q → H1[q]? = H[q]?) → va_S A0 H0 H1 locs1 → W p l e R s m args below meth c H1 locs1 (cells + mc) (slots + ms) Q (F0 m (pc + 3) ls (.float r :: rest))) : W p l e R s m args below meth c H locs cells slots Q (F0 m pc ls st0) := by
  intro T hT X
  rcases hr T hT X with ⟨v, st₀, t, T', L, h0, X', hL, e1, e2, ⟨⟨r, u, hv, hp, hb⟩, hF⟩, st⟩ | ⟨q, st₀, t, T', L, E, ce, h0, X', hL, e1, e2, ⟨u, hp, hb, hF⟩, hce, hcv, hcl, st⟩
  · cases hv
    obtain ⟨k1, k2, k3⟩ := vx_keep h0 e1 hS hA hf hL hF
    obtain ⟨t2, a1, b1⟩ := kk r u t T'.heap (locs ++ L) e1.symm (by rw [← e2]; exact X'.warmed.alike) hp hb k1 k2 k3 T' rfl X'
    exact ⟨t2, st t2 a1, b1⟩
  · obtain ⟨k1, k2, k3⟩ := vx_keep h0 e1 hS hAX hf hL hF
    obtain ⟨t2, a1, b1⟩ := kx E ce q u t T'.heap (locs ++ L) e1.symm (by rw [← e2]; exact X'.warmed.alike) hp hb k1 k2 k3 (by rw [e1]; exact hce) hcv hcl T' rfl X'
    exact ⟨t2, st.trans a1, b1⟩
theorem vx_calld {S SX : Type} {post : UInt64 → S → Prop} {px : SX → Prop} {B : S → State → Prop} {BX : String → SX → State → Prop} {AX : Nat → Prop} (hr : vx_Run p l e R s m args below meth c H locs cells slots mc ms (F0 m pc ls st0) rest (va_Qd post B A1 a) (vx_X px BX AX) free) (hS : va_S A0 H0 H locs) (hA : ∀ q, q < H.size → A1 q → A0 q) (hf : ∀ q, free q → A0 q) (hAX : ∀ q, q < H.size → AX q → A0 q)
    (kx : ∀ (E : String) (ce : Cell) (q9 : Addr) (u : SX) (t : State) (H1 : Heap) (locs1 : List Loc), t.heap = H1 → s.vm.Alike t.vm → px u → BX E u t → H.size ≤ H1.size → (∀ q : Nat, q < H.size → ¬ AX q → H1[q]? = H[q]?) → va_S A0 H0 H1 locs1 → H1[q9]? = some ce → ce.vm = .none → s.vm.findClass E = some ce.cls → vx_W p l e R s m args below meth c H1 locs1 (cells + mc) (slots + ms) Q (F0 m pc ls rest) q9)
    (kk : ∀ (r : UInt64) (u : S) (t : State) (H1 : Heap) (locs1 : List Loc), t.heap = H1 → s.vm.Alike t.vm → post r u → B u t → H.size ≤ H1.size → (∀ q : Nat, q < H.size → ¬ A1 q → H1[q]? = H[q]?) → va_S A0 H0 H1 locs1 → W p l e R s m args below meth c H1 locs1 (cells + mc) (slots + ms) Q (F0 m (pc + 3) ls (.double r :: rest))) : W p l e R s m args below meth c H locs cells slots Q (F0 m pc ls st0) := by
  intro T hT X
  rcases hr T hT X with ⟨v, st₀, t, T', L, h0, X', hL, e1, e2, ⟨⟨r, u, hv, hp, hb⟩, hF⟩, st⟩ | ⟨q, st₀, t, T', L, E, ce, h0, X', hL, e1, e2, ⟨u, hp, hb, hF⟩, hce, hcv, hcl, st⟩
  · cases hv
    obtain ⟨k1, k2, k3⟩ := vx_keep h0 e1 hS hA hf hL hF
    obtain ⟨t2, a1, b1⟩ := kk r u t T'.heap (locs ++ L) e1.symm (by rw [← e2]; exact X'.warmed.alike) hp hb k1 k2 k3 T' rfl X'
    exact ⟨t2, st t2 a1, b1⟩
  · obtain ⟨k1, k2, k3⟩ := vx_keep h0 e1 hS hAX hf hL hF
    obtain ⟨t2, a1, b1⟩ := kx E ce q u t T'.heap (locs ++ L) e1.symm (by rw [← e2]; exact X'.warmed.alike) hp hb k1 k2 k3 (by rw [e1]; exact hce) hcv hcl T' rfl X'
    exact ⟨t2, st.trans a1, b1⟩
theorem vx_callv {S SX : Type} {post : S → Prop} {px : SX → Prop} {B : S → State → Prop} {BX : String → SX → State → Prop} {AX : Nat → Prop} (hr : vx_Run p l e R s m args below meth c H locs cells slots mc ms (F0 m pc ls st0) rest (va_Qv post B A1 a) (vx_X px BX AX) free) (hS : va_S A0 H0 H locs) (hA : ∀ q, q < H.size → A1 q → A0 q) (hf : ∀ q, free q → A0 q) (hAX : ∀ q, q < H.size → AX q → A0 q)
    (kx : ∀ (E : String) (ce : Cell) (q9 : Addr) (u : SX) (t : State) (H1 : Heap) (locs1 : List Loc), t.heap = H1 → s.vm.Alike t.vm → px u → BX E u t → H.size ≤ H1.size → (∀ q : Nat, q < H.size → ¬ AX q → H1[q]? = H[q]?) → va_S A0 H0 H1 locs1 → H1[q9]? = some ce → ce.vm = .none → s.vm.findClass E = some ce.cls → vx_W p l e R s m args below meth c H1 locs1 (cells + mc) (slots + ms) Q (F0 m pc ls rest) q9)
    (kk : ∀ (u : S) (t : State) (H1 : Heap) (locs1 : List Loc), t.heap = H1 → s.vm.Alike t.vm → post u → B u t → H.size ≤ H1.size → (∀ q : Nat, q < H.size → ¬ A1 q → H1[q]? = H[q]?) → va_S A0 H0 H1 locs1 → W p l e R s m args below meth c H1 locs1 (cells + mc) (slots + ms) Q (F0 m (pc + 3) ls (rest))) : W p l e R s m args below meth c H locs cells slots Q (F0 m pc ls st0) := by
  intro T hT X
  rcases hr T hT X with ⟨v, st₀, t, T', L, h0, X', hL, e1, e2, ⟨⟨u, hv, hp, hb⟩, hF⟩, st⟩ | ⟨q, st₀, t, T', L, E, ce, h0, X', hL, e1, e2, ⟨u, hp, hb, hF⟩, hce, hcv, hcl, st⟩
  · cases hv
    obtain ⟨k1, k2, k3⟩ := vx_keep h0 e1 hS hA hf hL hF
    obtain ⟨t2, a1, b1⟩ := kk u t T'.heap (locs ++ L) e1.symm (by rw [← e2]; exact X'.warmed.alike) hp hb k1 k2 k3 T' rfl X'
    exact ⟨t2, st t2 a1, b1⟩
  · obtain ⟨k1, k2, k3⟩ := vx_keep h0 e1 hS hAX hf hL hF
    obtain ⟨t2, a1, b1⟩ := kx E ce q u t T'.heap (locs ++ L) e1.symm (by rw [← e2]; exact X'.warmed.alike) hp hb k1 k2 k3 (by rw [e1]; exact hce) hcv hcl T' rfl X'
    exact ⟨t2, st.trans a1, b1⟩
/-- caught by the row x of this method's table; the rows ahead don't take it -/
theorem vx_catch {own name : String} {E : String} {ce : Cell} {q : Addr} (hown : s.vm.findClass own = some m.cls) (pre : List ExceptionTableEntry) (x : ExceptionTableEntry) (suf : List ExceptionTableEntry) (hsplit : c.exceptionTable.toList = pre ++ x :: suf)
    (hpass : ∀ z ∈ pre, covers z pc = false ∨ (z.catchType ≠ 0 ∧ ∃ nm : String, (Cond.classLink own z.catchType nm).before args s = true ∧ va_Nc E nm s)) (hx : covers x pc = true) (h0 : x.catchType ≠ 0)
    (hlink : (Cond.classLink own x.catchType name).before args s = true) (hcast : (Cond.castable E name).before args s = true) (hcell : H[q]? = some ce) (hv : ce.vm = .none) (hcl : s.vm.findClass E = some ce.cls)
    (kk : W p l e R s m args below meth c H locs cells slots Q (F0 m x.handlerPc ls [.ref q])) : vx_W p l e R s m args below meth c H locs cells slots Q (F0 m pc ls rest) q := by
  intro T hT X
  have hpl : e.platform.magicAccessors = ({} : Platform).magicAccessors := by rw [X.admits.platform]
  obtain ⟨c3, c4, hc3, hc4, hasg⟩ := Cond.castable_spec hcast
  cases Option.some.inj (hc3.symm.trans hcl)
  obtain ⟨c5, hc5, hcl5⟩ := Cond.classLink_spec hown hlink e.platform hpl
  cases Option.some.inj (hc4.symm.trans hc5)
  obtain ⟨vm', X', st⟩ := X.thenCaughtThrough q (g := F0 m pc ls rest) rfl (Steps.refl _) (by rw [hT]; exact hcell) (by rw [hv]; rfl) (by obtain ⟨k9, h9, -⟩ := Vm.findClass_spec hcl; exact ⟨k9, h9⟩) pre x suf hsplit
    (fun z hz => by
      rcases hpass z hz with h | ⟨hz0, nm, hl1, hn1⟩
      · exact Or.inl h
      · obtain ⟨c6, hc6, hcl6⟩ := Cond.classLink_spec hown hl1 e.platform hpl
        obtain ⟨a8, b8, h1, h2, h3⟩ := hn1
        cases Option.some.inj (h1.symm.trans hcl)
        cases Option.some.inj (h2.symm.trans hc6)
        exact Or.inr ⟨hz0, _, hcl6, h3⟩) hx (Or.inr ⟨h0, c4, hcl5, hasg⟩)
  obtain ⟨t, a1, b1⟩ := kk (T.setVm vm') hT X'
  exact ⟨t, st.trans a1, b1⟩
end Rows
section Ends
variable {p : Program} {l : Launch} {e : Env} {R : Room} {s : State} {m : MethodId} {args : Array Value} {below : List Frame} {meth : Method} {c : Code} {H : Heap} {locs : List Loc} {cells slots : Nat} {Q : State → Prop}
variable {mc ms : Nat} {free : Addr → Prop} {A0 A1 : Nat → Prop} {H0 : Heap} {a : Array Value} {ls : Array Slot} {st0 rest : List Value}
variable {Qc : Array Value → State → Outcome → State → Prop} {XC : String → State → State → Prop}
/-- what a body that may throw owes at its end -/
def vx_MQ (below : List Frame) (Qc : Array Value → State → Outcome → State → Prop) (XC : String → State → State → Prop) (a : Array Value) (s : State) (mc ms : Nat) (free : Addr → Prop) : State → Prop := fun t =>
  ∃ o, t.status = .running ∧ Ended t below o ∧ vx_Q Qc XC mc ms free a s o t
theorem vx_ret {g : JFrame} {mc ms : Nat} (k : W p l e R s m args below meth c H locs cells slots (MQ below Qc args s mc ms free) g) : W p l e R s m args below meth c H locs cells slots (vx_MQ below Qc XC args s mc ms free) g := by
  intro T hT X
  obtain ⟨t, a1, o, b1, b2, b3, b4⟩ := k T hT X
  exact ⟨t, a1, o, b1, b2, Or.inl ⟨b3, b4⟩⟩
/-- not caught here: it goes on to the caller -/
theorem vx_widen {g : JFrame} {q : Addr} {k n : Nat} (h1 : cells ≤ k) (h2 : slots ≤ n) (kk : vx_W p l e R s m args below meth c H locs k n Q g q) : vx_W p l e R s m args below meth c H locs cells slots Q g q := fun T hT X => kk T hT (stand_widen X h1 h2)
theorem vx_out {pc : Nat} {E : String} {ce : Cell} {q : Addr} {mc ms : Nat} (hout : ∀ x ∈ c.exceptionTable.toList, covers x pc = false) (hlocks : meth.locks = false) (hcell : H[q]? = some ce) (hv : ce.vm = .none) (hcl : s.vm.findClass E = some ce.cls)
    (hx : ∀ t : State, t.heap = H → s.vm.Alike t.vm → XC E s t) (hf : ∀ z ∈ locs, free z.base) (hc : cells ≤ mc) (hs : slots ≤ ms) :
    vx_W p l e R s m args below meth c H locs cells slots (vx_MQ below Qc XC args s mc ms free) (F0 m pc ls rest) q := by
  intro T hT X
  obtain ⟨st1, hrun, hend, hW, hsm⟩ := X.leaveThrown q (g := F0 m pc ls rest) rfl rfl rfl hout hlocks
  have hcell9 : (T.setFrames (.throwing q :: below)).heap[q]? = some ce := by
    show T.heap[q]? = some ce
    rw [hT]; exact hcell
  exact ⟨_, st1, .threw q, hrun, hend, Or.inr ⟨q, rfl, E, ce, locs, hx _ hT hW.alike, hcell9, hv, hcl, hW, hsm.mono hc hs, hf⟩⟩
theorem vx_frame {U : State} {k n : Nat} (h : s.sameButNew ({ U with vm := s.vm } : State) locs k n) : s.heap.size ≤ U.heap.size ∧ ∀ q : Nat, q < s.heap.size → (∀ z ∈ locs, z.base ≠ q) → U.heap[q]? = s.heap[q]? := by
  obtain ⟨-, h2, -, -, -, h6⟩ := h
  refine ⟨h2, fun q hq hz => ?_⟩
  obtain ⟨c9, e1, e2, e3, e4⟩ := h6 q _ (Array.getElem?_eq_getElem hq)
  have hs : c9.slots = (s.heap[q]).slots := Array.ext_getElem? fun i => e4 i fun hm => hz _ hm rfl
  have h9 : c9 = s.heap[q] := by
    rw [hs] at e2
    exact e2
  have e5 : U.heap[q]? = some c9 := e1
  rw [e5, h9, Array.getElem?_eq_getElem hq]
/-- the words of a throw but the four that speak of the heap -/
def vx_no (w : Cond) : Bool := decide (w ≠ .isRef (.static Bundle.tN "UNASSIGNED_STACK" Bundle.steD)) && decide (w ≠ .isRef (.static Bundle.tN "SUPPRESSED_SENTINEL" Bundle.listD)) && decide (w ≠ .laysStatic Bundle.tN "UNASSIGNED_STACK" Bundle.steD) && decide (w ≠ .laysStatic Bundle.tN "SUPPRESSED_SENTINEL" Bundle.listD)
def vx_at0 (own : String) (ic : Nat) (X : String) (names : List String) : List Cond := (Bundle.ownAtoms0 own ic X names).filter vx_no
def vx_atS (own : String) (ic : Nat) (X : String) (names : List String) : List Cond := (Bundle.ownAtoms own ic X names).filter vx_no
/-- a word that the tables alone decide, or a good one -/
def vx_ot (w : Cond) : Bool := w.onTables || goodWord w
theorem vx_ot_at {args a' : Array Value} {s U : State} {w : Cond} (hW : s.WarmedH U.vm) (hvm : s.vm = U.vm) (hg : vx_ot w = true) (h : w.before args s = true) : w.before a' U = true := by
  simp only [vx_ot, Bool.or_eq_true] at hg
  rcases hg with hg | hg
  · exact va_tabs hg hvm h
  · exact word_at hW (good_of_word hg) h
/-- a list's words: the good ones out of the method's own list, the others by premises of their own -/
theorem vx_hat {args : Array Value} {s : State} {L B : List Cond} (h1 : ∀ w ∈ L.filter goodWord, w.before args s = true) (h2 : ∀ w ∈ L.filter (fun w => !goodWord w), w ∈ B) (h3 : ∀ w ∈ B, w.before args s = true) : ∀ w ∈ L, w.before args s = true := by
  intro w hw
  by_cases g : goodWord w = true
  · exact h1 w (List.mem_filter.mpr ⟨hw, g⟩)
  · refine h3 w (h2 w (List.mem_filter.mpr ⟨hw, ?_⟩))
    show (!goodWord w) = true
    cases hgw : goodWord w
    · rfl
    · exact absurd hgw g
theorem vx_c {args : Array Value} {s : State} {w : Cond} {B : List Cond} (h : w.before args s = true) (t : ∀ w ∈ B, w.before args s = true) : ∀ w' ∈ w :: B, w'.before args s = true := fun w' h' => (List.mem_cons.mp h').elim (fun e => by rw [e]; exact h) (t w')
theorem vx_n {args : Array Value} {s : State} : ∀ w ∈ ([] : List Cond), w.before args s = true := fun _ h => nomatch h
theorem vx_own {args : Array Value} {s : State} {L : List Cond} (h1 : ∀ w ∈ L.filter vx_no, w.before args s = true)
    (hU : (Cond.isRef (.static Bundle.tN "UNASSIGNED_STACK" Bundle.steD)).before args s = true) (hN : (Cond.isRef (.static Bundle.tN "SUPPRESSED_SENTINEL" Bundle.listD)).before args s = true)
    (lU : (Cond.laysStatic Bundle.tN "UNASSIGNED_STACK" Bundle.steD).before args s = true) (lN : (Cond.laysStatic Bundle.tN "SUPPRESSED_SENTINEL" Bundle.listD).before args s = true) : ∀ w ∈ L, w.before args s = true := by
  intro w hw
  by_cases e1 : w = .isRef (.static Bundle.tN "UNASSIGNED_STACK" Bundle.steD)
  · rw [e1]; exact hU
  · by_cases e2 : w = .isRef (.static Bundle.tN "SUPPRESSED_SENTINEL" Bundle.listD)
    · rw [e2]; exact hN
    · by_cases e3 : w = .laysStatic Bundle.tN "UNASSIGNED_STACK" Bundle.steD
      · rw [e3]; exact lU
      · by_cases e4 : w = .laysStatic Bundle.tN "SUPPRESSED_SENTINEL" Bundle.listD
        · rw [e4]; exact lN
        · exact h1 w (List.mem_filter.mpr ⟨hw, by unfold vx_no; rw [decide_eq_true e1, decide_eq_true e2, decide_eq_true e3, decide_eq_true e4]; rfl⟩)
/-- where a static field lies, its class's statics cell in H -/
def vx_L (C n d : String) (A : Nat → Prop) (U : State) (H : Heap) : Prop := ∃ (c : ClassId) (k : Class) (i : Nat) (f : Field) (a : Nat) (cell : Cell), U.vm.findClass C = some c ∧ U.fieldFound? C n d = some (c, k, i, f) ∧ f.isStatic = true ∧ k.statics = some a ∧ H[a]? = some cell ∧ cell.vm.isStatics = true ∧ cell.cls = c ∧ f.slot < cell.slots.size ∧ k.staticTypes[f.slot]? = some f.type ∧ ¬ A a
theorem vx_L.moved {C n d : String} {A : Nat → Prop} {u U : State} {H : Heap} (hvm : u.vm.Alike U.vm) (h : vx_L C n d A u H) : vx_L C n d A U H := by
  obtain ⟨c, k, i, f, a, cell, h1, h2, h3, h4, h5, h6, h7, h8, h9, h10⟩ := h
  obtain ⟨k', hi', he⟩ := State.fieldFound?_setVm hvm h2
  exact ⟨c, k', i, f, a, cell, by rw [hvm.findClass]; exact h1, hi', h3, by rw [he]; exact h4, h5, h6, h7, h8, by rw [he]; exact h9, h10⟩
theorem vx_L.kept {C n d : String} {A : Nat → Prop} {U : State} {H H1 : Heap} (h : vx_L C n d A U H) (hq : ∀ a : Nat, a < H.size → ¬ A a → H1[a]? = H[a]?) : vx_L C n d A U H1 := by
  obtain ⟨c, k, i, f, a, cell, h1, h2, h3, h4, h5, h6, h7, h8, h9, h10⟩ := h
  exact ⟨c, k, i, f, a, cell, h1, h2, h3, h4, by rw [hq a (Array.getElem?_eq_some_iff.mp h5).1 h10]; exact h5, h6, h7, h8, h9, h10⟩
theorem vx_L.narrow {C n d : String} {A B : Nat → Prop} {U : State} {H : Heap} (h : vx_L C n d A U H) (hAB : ∀ q, B q → A q) : vx_L C n d B U H := by
  obtain ⟨c, k, i, f, a, cell, h1, h2, h3, h4, h5, h6, h7, h8, h9, h10⟩ := h
  exact ⟨c, k, i, f, a, cell, h1, h2, h3, h4, h5, h6, h7, h8, h9, fun z => h10 (hAB _ z)⟩
theorem vx_L.word {C n d : String} {A : Nat → Prop} {s : State} {args : Array Value} (h : vx_L C n d A s s.heap) : (Cond.laysStatic C n d).before args s = true := by
  obtain ⟨c, k, i, f, a, cell, h1, h2, h3, h4, h5, h6, h7, h8, h9, -⟩ := h
  show (Cond.laysStatic C n d).holds args s none s [] = true
  exact Cond.laysStatic_of h1 h2 h3 h4 h5 h6 h7 h8 h9
/-- .. and what it holds: null or some reference -/
def vx_Zq (C n d : String) (A : Nat → Prop) (U : State) (H : Heap) : Prop := va_Zq C n d A U H ∧ vx_L C n d A U H
theorem vx_Zq.moved {C n d : String} {A : Nat → Prop} {u U : State} {H : Heap} (hvm : u.vm.Alike U.vm) (h : vx_Zq C n d A u H) : vx_Zq C n d A U H := ⟨va_Zq.moved hvm h.1, vx_L.moved hvm h.2⟩
theorem vx_Zq.kept {C n d : String} {A : Nat → Prop} {U : State} {H H1 : Heap} (h : vx_Zq C n d A U H) (hq : ∀ a : Nat, a < H.size → ¬ A a → H1[a]? = H[a]?) : vx_Zq C n d A U H1 := ⟨va_Zq.kept h.1 hq, vx_L.kept h.2 hq⟩
theorem vx_Zq.narrow {C n d : String} {A B : Nat → Prop} {U : State} {H : Heap} (h : vx_Zq C n d A U H) (hAB : ∀ q, B q → A q) : vx_Zq C n d B U H := ⟨va_Zq.narrow h.1 hAB, vx_L.narrow h.2 hAB⟩
theorem vx_Zqof {args : Array Value} {s : State} {C n d : String} {A : Nat → Prop} (hl : (Cond.laysStatic C n d).before args s = true) (hini : (Cond.initialized C).before args s = true) (h : (Cond.isRef (.static C n d)).before args s = true) (hA : ∀ a : Nat, a < s.heap.size → ¬ A a) : vx_Zq C n d A s s.heap := by
  refine ⟨va_Zqof hl hini h hA, ?_⟩
  obtain ⟨c, k, i, f, a, cell, h1, h2, h3, h4, h5, h6, h7, h8, h9⟩ := Cond.laysStatic_spec hl
  exact ⟨c, k, i, f, a, cell, h1, h2, h3, h4, h5, h6, h7, h8, h9, hA a (Array.getElem?_eq_some_iff.mp h5).1⟩
theorem vx_isRef {C n d : String} {v : Value} {A : Nat → Prop} {s : State} {args : Array Value} (h : va_Z C n d v A s s.heap) (hv : v.isRef = true) : (Cond.isRef (.static C n d)).before args s = true := by
  obtain ⟨cf, kf, fi, f, a, cell, h1, h2, h3, h4, h5, h6, h7, -⟩ := h
  have he : (Term.static C n d).eval args s none [] s = some v := by
    simp [Term.eval, State.fieldNamed?, h1, h2, h4, h5, h6, h7]
  simp only [Cond.before, Cond.holds, Cond.value, he]
  cases v <;> simp_all [Value.isRef]
theorem vx_isRefq {C n d : String} {A : Nat → Prop} {s : State} {args : Array Value} (h : va_Zq C n d A s s.heap) : (Cond.isRef (.static C n d)).before args s = true := by
  rcases h with h | ⟨t, h⟩
  · exact vx_isRef h rfl
  · exact vx_isRef h rfl
/-- the same frame, seen from here: as if the method were called anew in this heap -/
theorem vx_rebase {T : State} (X : Stand p l e R s m args below meth c T locs cells slots) {R' : Room} (hf : R'.frames ≤ R.frames) (hl : R'.locals ≤ R.locals) (hc : cells + R'.cells ≤ R.cells) (hs : slots + R'.slots ≤ R.slots) :
    Stand p l e R' ((T.setVm s.vm).setFrames (.invoking m args :: below)) m args below meth c T [] 0 0 := by
  have htop : (T.setVm s.vm).topJava?.isSome := X.here.top
  have hF : ((T.setVm s.vm).setFrames (.invoking m args :: below)).frames = .invoking m args :: below := State.frames_setFrames _ (State.cur_lt_of_top htop)
  obtain ⟨g₀, hg0⟩ := Option.isSome_iff_exists.mp htop
  obtain ⟨r, hr⟩ := State.topJava?_eq_some.mp hg0
  have hl9 : e.platform.stackLimits (T.setVm s.vm).me = e.platform.stackLimits s.me := X.limits
  have hb9 : (T.setVm s.vm).me.stackBytes = s.me.stackBytes := X.bytes
  refine ⟨X.admits, X.cas, X.clock, hF, ?_, X.hears, X.method, X.code, X.here, X.tail, X.warmed, ?_, ?_, ?_⟩
  · have h := X.room
    have hU : ((T.setVm s.vm).setFrames (.invoking m args :: below)).localsInUse = s.localsInUse := by
      rw [State.localsInUse_invoking hF (meth := meth) (c := c) X.method X.code, State.localsInUse_invoking X.frames X.method X.code]
    simp only [State.hasRoom, Bool.and_eq_true, decide_eq_true_eq] at h ⊢
    obtain ⟨⟨⟨⟨h1, h2, h3, h4, h5, h6⟩, h7⟩, h8⟩, h9⟩ := h
    rw [X.frames, List.length_cons] at h2 h3
    have q1 := X.heapSize
    have q2 := X.used
    simp only [hF, hU, List.length_cons, State.stackLimits_setFrames, State.stackBytes_setFrames, hl9, hb9]
    refine ⟨⟨⟨⟨by omega, by omega, by omega, by omega, by omega, h6⟩, ?_⟩, ?_⟩, X.book⟩
    · show T.heap.size + R'.cells ≤ e.platform.maxCells
      omega
    · show T.slotsUsed + R'.slots ≤ e.platform.maxSlots
      omega
  · rw [State.stackLimits_setFrames]; rfl
  · rw [State.stackBytes_setFrames]; rfl
  · refine ⟨?_, Nat.le_refl _, Nat.le_refl _, ?_, ?_, fun a c9 h9 => ⟨c9, h9, rfl, rfl, fun _ _ => rfl⟩⟩
    · obtain ⟨t, ht, -⟩ := State.frames_cons hr
      show T.setVm s.vm = { ((T.setVm s.vm).setFrames (.invoking m args :: below)).setFrames (T.setVm s.vm).frames with heap := T.heap, slotsUsed := T.slotsUsed }
      rw [State.setFrames_setFrames, State.setFrames_self ht]
      rfl
    · show T.slotsUsed = T.slotsUsed + ((T.heap.toList.drop T.heap.size).map (·.slots.size)).sum
      rw [List.drop_eq_nil_of_le (Nat.le_of_eq Array.length_toList)]
      rfl
    · show ((T.heap.toList.drop T.heap.size).map (·.slots.size)).sum ≤ 0
      rw [List.drop_eq_nil_of_le (Nat.le_of_eq Array.length_toList)]
      exact Nat.le_refl _
/-- 'throw new E()': new; dup; invokespecial; athrow -/
theorem vx_throw0 {cc : ByteArray} {pc : Nat} (hexec : p.tables.exec = Jvm.exec) (hb : c.code = cc) (hl : l.stackTraces = false) {own cls : String} {names : List String} {ik ic mc ms : Nat} {A : Nat → Prop}
    (hown : s.vm.findClass own = some m.cls) (hcls : Bundle.fit cls = true) (hnames : ∀ n ∈ names, Bundle.fit n = true)
    (hk : (Cond.classLink own ik cls).before args s = true) (hini : (Cond.initialized cls).before args s = true) (hat : ∀ w ∈ vx_at0 own ic cls names, w.before args s = true)
    (hgood : ∀ w ∈ Cond.classLink own ik cls :: Cond.initialized cls :: vx_at0 own ic cls names, vx_ot w = true)
    (hU : vx_Zq Bundle.tN "UNASSIGNED_STACK" Bundle.steD A s s.heap) (hN : vx_Zq Bundle.tN "SUPPRESSED_SENTINEL" Bundle.listD A s s.heap) (hS : va_S A s.heap H locs) (hsize : ls.size = c.maxLocals)
    (d0 : decode cc pc = .ok (.new ik, 3)) (d3 : decode cc (pc + 3) = .ok (.dup, 1)) (d4 : decode cc (pc + 4) = .ok (.invokespecial ic, 3)) (d7 : decode cc (pc + 7) = .ok (.athrow, 1))
    (hout : ∀ x ∈ c.exceptionTable.toList, covers x (pc + 7) = false)
    (hRframes : names.length + 3 < R.frames) (hRlocals : (rest.map fun v => v.category).sum + (13 * (names.length + 1) + 42) ≤ R.locals) (hRcells : cells + 1 ≤ R.cells) (hRslots : slots + 6 ≤ R.slots) (hlocks : meth.locks = false)
    (hx : ∀ t : State, s.vm.Alike t.vm → H.size ≤ t.heap.size → (∀ q : Nat, q < H.size → t.heap[q]? = H[q]?) → XC cls s t)
    (hf : ∀ z ∈ locs, free z.base) (hc : cells + 1 ≤ mc) (hs : slots + 6 ≤ ms) :
    W p l e R s m args below meth c H locs cells slots (vx_MQ below Qc XC args s mc ms free) (F0 m pc ls rest) := by
  intro T hT X
  have htr : e.platform.stackTraces = false := (show e.platform.stackTraces = l.stackTraces by rw [X.admits.platform]).trans hl
  have Y := vx_rebase X (R' := { frames := R.frames, locals := R.locals, cells := 1, slots := 6 }) (Nat.le_refl _) (Nat.le_refl _) hRcells hRslots
  obtain ⟨s', hA⟩ : ∃ z, z = (T.setVm s.vm).setFrames (.invoking m args :: below) := ⟨_, rfl⟩
  rw [← hA] at Y
  have hvm : s'.vm = s.vm := by rw [hA]; rfl
  have hhp : s'.heap = H := by rw [hA]; exact hT
  have hW0 : s.WarmedH s'.vm := by rw [hvm]; exact State.WarmedH.refl s
  have hat' : ∀ w ∈ vx_at0 own ic cls names, w.before args s' = true := fun w hw => vx_ot_at hW0 hvm.symm (hgood w (List.mem_cons_of_mem _ (List.mem_cons_of_mem _ hw))) (hat w hw)
  have hk' : (Cond.classLink own ik cls).before args s' = true := vx_ot_at hW0 hvm.symm (hgood _ List.mem_cons_self) hk
  have hini' : (Cond.initialized cls).before args s' = true := vx_ot_at hW0 hvm.symm (hgood _ (List.mem_cons_of_mem _ List.mem_cons_self)) hini
  have hU' : vx_Zq Bundle.tN "UNASSIGNED_STACK" Bundle.steD A s' s'.heap := by rw [hhp]; exact vx_Zq.moved hW0.alike (hU.kept hS.2.1)
  have hN' : vx_Zq Bundle.tN "SUPPRESSED_SENTINEL" Bundle.listD A s' s'.heap := by rw [hhp]; exact vx_Zq.moved hW0.alike (hN.kept hS.2.1)
  have h : ∀ w ∈ Bundle.ownAtoms0 own ic cls names, w.before args s' = true := vx_own hat' (vx_isRefq hU'.1) (vx_isRefq hN'.1) hU'.2.word hN'.2.word
  have hown' : s'.vm.findClass own = some m.cls := by rw [hvm]; exact hown
  have hins : (Cond.instantiable cls 6).before args s' = true := h _ (by simp [Bundle.ownAtoms0])
  obtain ⟨vm₁, cX, kX, hfX, hkX, -, -, X₁, st1⟩ := Y.newCold hexec (own := own) (C := cls) (index := ik) (n := 6) hown' hk' hins hini'
    (g := F0 m pc ls rest) rfl (by rw [hb]; exact d0) (Nat.le_refl _) (Nat.le_refl _)
  generalize hT1 : (T.setVm vm₁).pushCell { cls := cX, slots := kX.instanceTypes.map defaultValue, vm := .none } = T1 at X₁ st1
  have hcat : (Value.ref T.heap.size).category = 1 := rfl
  have hcellA : T1.heap[T.heap.size]? = some (freshCell cX kX) := by rw [← hT1]; exact State.heap_pushCell_size _ _
  have d3' : decode c.code (pc + 3) = .ok (.dup, 1) := by rw [hb]; exact d3
  obtain ⟨U, hsteps, hrun, hend, hW, hsame, ce, hce, hO⟩ := X₁.ctorThrow0 hexec htr (own := own) (cls := cls) (names := names) (ic := ic) hown' hcls hnames h (fun x hx => nomatch hx) hfX hkX hcellA (by rw [hhp, hT]; exact Nat.le_refl _)
    (g := { method := m, pc := pc + 4, locals := ls, stack := .ref T.heap.size :: .ref T.heap.size :: rest, locked := none }) rfl hsize rfl rfl (rest := rest) rfl
    (by rw [hb]; exact d4) (by rw [hb]; exact d7) hout hRframes (by simp only [List.map_cons, List.sum_cons, hcat]; omega) hlocks
  obtain ⟨f1, f2⟩ := vx_frame hsame
  rw [hhp] at f1 f2
  have hWs : s.WarmedH U.vm := State.WarmedH.trans hW0 hW
  have hcl : s.vm.findClass cls = some ce.cls := by
    have h9 := hO.cls
    rw [hvm] at h9
    exact h9
  have hall : s.sameButNew ({ U with vm := s.vm } : State) locs mc ms := by
    subst hA
    obtain ⟨e1, e2⟩ := hsame
    rw [State.setFrames_setFrames] at e1
    have h2 : (T.setVm s.vm).sameButNew ({ U with vm := s.vm } : State) [] (0 + 1) (0 + 6) := ⟨e1, e2⟩
    have h3 := X.same.trans h2
    rw [List.append_nil] at h3
    exact h3.mono hc hs
  refine ⟨U, ?_, .threw T.heap.size, hrun, hend, Or.inr ⟨T.heap.size, rfl, cls, ce, locs, hx U hWs.alike f1 (fun q hq => f2 q hq (fun z hz => nomatch hz)), hce, hO.vm, hcl, hWs, hall, hf⟩⟩
  refine st1 _ ?_
  show Steps p.tables e below (T1.setTop { method := m, pc := pc + 3, locals := ls, stack := .ref T.heap.size :: rest, locked := none }) _
  jvm_step X₁.here [X₁.here.top, hexec, d3', Value.category]
  exact hsteps
/-- 'throw new E("text")': new; dup; ldc; invokespecial; athrow -/
theorem vx_throwS {cc : ByteArray} {pc : Nat} (hexec : p.tables.exec = Jvm.exec) (hb : c.code = cc) (hl : l.stackTraces = false) {own cls text : String} {names : List String} {ik is ic mc ms sa : Nat} {A : Nat → Prop}
    (hown : s.vm.findClass own = some m.cls) (hcls : Bundle.fit cls = true) (hnames : ∀ n ∈ names, Bundle.fit n = true)
    (hk : (Cond.classLink own ik cls).before args s = true) (hini : (Cond.initialized cls).before args s = true) (hstr : vk_R own is text sa s) (hat : ∀ w ∈ vx_atS own ic cls names, w.before args s = true)
    (hgood : ∀ w ∈ Cond.classLink own ik cls :: Cond.initialized cls :: vx_atS own ic cls names, vx_ot w = true)
    (hU : vx_Zq Bundle.tN "UNASSIGNED_STACK" Bundle.steD A s s.heap) (hN : vx_Zq Bundle.tN "SUPPRESSED_SENTINEL" Bundle.listD A s s.heap) (hS : va_S A s.heap H locs) (hsize : ls.size = c.maxLocals)
    (d0 : decode cc pc = .ok (.new ik, 3)) (d3 : decode cc (pc + 3) = .ok (.dup, 1)) (d4 : decode cc (pc + 4) = .ok (.ldc is, 2)) (d6 : decode cc (pc + 6) = .ok (.invokespecial ic, 3)) (d9 : decode cc (pc + 9) = .ok (.athrow, 1))
    (hout : ∀ x ∈ c.exceptionTable.toList, covers x (pc + 9) = false)
    (hRframes : names.length + 3 < R.frames) (hRlocals : (rest.map fun v => v.category).sum + (13 * (names.length + 1) + 43) ≤ R.locals) (hRcells : cells + 1 ≤ R.cells) (hRslots : slots + 6 ≤ R.slots) (hlocks : meth.locks = false)
    (hx : ∀ t : State, s.vm.Alike t.vm → H.size ≤ t.heap.size → (∀ q : Nat, q < H.size → t.heap[q]? = H[q]?) → XC cls s t)
    (hf : ∀ z ∈ locs, free z.base) (hc : cells + 1 ≤ mc) (hs : slots + 6 ≤ ms) :
    W p l e R s m args below meth c H locs cells slots (vx_MQ below Qc XC args s mc ms free) (F0 m pc ls rest) := by
  intro T hT X
  have htr : e.platform.stackTraces = false := (show e.platform.stackTraces = l.stackTraces by rw [X.admits.platform]).trans hl
  have Y := vx_rebase X (R' := { frames := R.frames, locals := R.locals, cells := 1, slots := 6 }) (Nat.le_refl _) (Nat.le_refl _) hRcells hRslots
  obtain ⟨s', hA⟩ : ∃ z, z = (T.setVm s.vm).setFrames (.invoking m args :: below) := ⟨_, rfl⟩
  rw [← hA] at Y
  have hvm : s'.vm = s.vm := by rw [hA]; rfl
  have hhp : s'.heap = H := by rw [hA]; exact hT
  have hW0 : s.WarmedH s'.vm := by rw [hvm]; exact State.WarmedH.refl s
  have hat' : ∀ w ∈ vx_atS own ic cls names, w.before args s' = true := fun w hw => vx_ot_at hW0 hvm.symm (hgood w (List.mem_cons_of_mem _ (List.mem_cons_of_mem _ hw))) (hat w hw)
  have hk' : (Cond.classLink own ik cls).before args s' = true := vx_ot_at hW0 hvm.symm (hgood _ List.mem_cons_self) hk
  have hini' : (Cond.initialized cls).before args s' = true := vx_ot_at hW0 hvm.symm (hgood _ (List.mem_cons_of_mem _ List.mem_cons_self)) hini
  have hU' : vx_Zq Bundle.tN "UNASSIGNED_STACK" Bundle.steD A s' s'.heap := by rw [hhp]; exact vx_Zq.moved hW0.alike (hU.kept hS.2.1)
  have hN' : vx_Zq Bundle.tN "SUPPRESSED_SENTINEL" Bundle.listD A s' s'.heap := by rw [hhp]; exact vx_Zq.moved hW0.alike (hN.kept hS.2.1)
  have h : ∀ w ∈ Bundle.ownAtoms own ic cls names, w.before args s' = true := vx_own hat' (vx_isRefq hU'.1) (vx_isRefq hN'.1) hU'.2.word hN'.2.word
  have hown' : s'.vm.findClass own = some m.cls := by rw [hvm]; exact hown
  have hins : (Cond.instantiable cls 6).before args s' = true := h _ (by simp [Bundle.ownAtoms])
  obtain ⟨vm₁, cX, kX, hfX, hkX, -, -, X₁, st1⟩ := Y.newCold hexec (own := own) (C := cls) (index := ik) (n := 6) hown' hk' hins hini'
    (g := F0 m pc ls rest) rfl (by rw [hb]; exact d0) (Nat.le_refl _) (Nat.le_refl _)
  generalize hT1 : (T.setVm vm₁).pushCell { cls := cX, slots := kX.instanceTypes.map defaultValue, vm := .none } = T1 at X₁ st1
  have hcat : (Value.ref T.heap.size).category = 1 := rfl
  have hcellA : T1.heap[T.heap.size]? = some (freshCell cX kX) := by rw [← hT1]; exact State.heap_pushCell_size _ _
  have d3' : decode c.code (pc + 3) = .ok (.dup, 1) := by rw [hb]; exact d3
  have d4' : decode c.code (pc + 4) = .ok (.ldc is, 2) := by rw [hb]; exact d4
  have hstr' : vk_R own is text sa s' := vk_R.warm hW0 hstr
  obtain ⟨U, hsteps, hrun, hend, hW, hsame, ce, hce, hO⟩ := X₁.ctorThrowS hexec htr (own := own) (cls := cls) (names := names) (ic := ic) hown' hcls hnames h (fun x hx => nomatch hx) hfX hkX hcellA (by rw [hhp, hT]; exact Nat.le_refl _) (msg := .ref sa) rfl
    (g := { method := m, pc := pc + 6, locals := ls, stack := .ref sa :: .ref T.heap.size :: .ref T.heap.size :: rest, locked := none }) rfl hsize rfl rfl (rest := rest) rfl
    (by rw [hb]; exact d6) (by rw [hb]; exact d9) hout hRframes (by simp only [List.map_cons, List.sum_cons, hcat]; omega) hlocks
  obtain ⟨f1, f2⟩ := vx_frame hsame
  rw [hhp] at f1 f2
  have hWs : s.WarmedH U.vm := State.WarmedH.trans hW0 hW
  have hcl : s.vm.findClass cls = some ce.cls := by
    have h9 := hO.cls
    rw [hvm] at h9
    exact h9
  have hall : s.sameButNew ({ U with vm := s.vm } : State) locs mc ms := by
    subst hA
    obtain ⟨e1, e2⟩ := hsame
    rw [State.setFrames_setFrames] at e1
    have h2 : (T.setVm s.vm).sameButNew ({ U with vm := s.vm } : State) [] (0 + 1) (0 + 6) := ⟨e1, e2⟩
    have h3 := X.same.trans h2
    rw [List.append_nil] at h3
    exact h3.mono hc hs
  refine ⟨U, ?_, .threw T.heap.size, hrun, hend, Or.inr ⟨T.heap.size, rfl, cls, ce, locs, hx U hWs.alike f1 (fun q hq => f2 q hq (fun z hz => nomatch hz)), hce, hO.vm, hcl, hWs, hall, hf⟩⟩
  refine st1 _ ?_
  show Steps p.tables e below (T1.setTop { method := m, pc := pc + 3, locals := ls, stack := .ref T.heap.size :: rest, locked := none }) _
  jvm_step X₁.here [X₁.here.top, hexec, d3', Value.category]
  exact X₁.ldcString hexec (own := own) (text := text) (index := is) (a := sa) hown' hstr'.1 hstr'.2
    (g := { method := m, pc := pc + 4, locals := ls, stack := .ref T.heap.size :: .ref T.heap.size :: rest, locked := none }) rfl d4' _ hsteps
/-- 'throw new E("text")', the text by a wide index -/
theorem vx_throwSW {cc : ByteArray} {pc : Nat} (hexec : p.tables.exec = Jvm.exec) (hb : c.code = cc) (hl : l.stackTraces = false) {own cls text : String} {names : List String} {ik is ic mc ms sa : Nat} {A : Nat → Prop}
    (hown : s.vm.findClass own = some m.cls) (hcls : Bundle.fit cls = true) (hnames : ∀ n ∈ names, Bundle.fit n = true)
    (hk : (Cond.classLink own ik cls).before args s = true) (hini : (Cond.initialized cls).before args s = true) (hstr : vk_R own is text sa s) (hat : ∀ w ∈ vx_atS own ic cls names, w.before args s = true)
    (hgood : ∀ w ∈ Cond.classLink own ik cls :: Cond.initialized cls :: vx_atS own ic cls names, vx_ot w = true)
    (hU : vx_Zq Bundle.tN "UNASSIGNED_STACK" Bundle.steD A s s.heap) (hN : vx_Zq Bundle.tN "SUPPRESSED_SENTINEL" Bundle.listD A s s.heap) (hS : va_S A s.heap H locs) (hsize : ls.size = c.maxLocals)
    (d0 : decode cc pc = .ok (.new ik, 3)) (d3 : decode cc (pc + 3) = .ok (.dup, 1)) (d4 : decode cc (pc + 4) = .ok (.ldc_w is, 3)) (d7 : decode cc (pc + 7) = .ok (.invokespecial ic, 3)) (d10 : decode cc (pc + 10) = .ok (.athrow, 1))
    (hout : ∀ x ∈ c.exceptionTable.toList, covers x (pc + 10) = false)
    (hRframes : names.length + 3 < R.frames) (hRlocals : (rest.map fun v => v.category).sum + (13 * (names.length + 1) + 43) ≤ R.locals) (hRcells : cells + 1 ≤ R.cells) (hRslots : slots + 6 ≤ R.slots) (hlocks : meth.locks = false)
    (hx : ∀ t : State, s.vm.Alike t.vm → H.size ≤ t.heap.size → (∀ q : Nat, q < H.size → t.heap[q]? = H[q]?) → XC cls s t)
    (hf : ∀ z ∈ locs, free z.base) (hc : cells + 1 ≤ mc) (hs : slots + 6 ≤ ms) :
    W p l e R s m args below meth c H locs cells slots (vx_MQ below Qc XC args s mc ms free) (F0 m pc ls rest) := by
  intro T hT X
  have htr : e.platform.stackTraces = false := (show e.platform.stackTraces = l.stackTraces by rw [X.admits.platform]).trans hl
  have Y := vx_rebase X (R' := { frames := R.frames, locals := R.locals, cells := 1, slots := 6 }) (Nat.le_refl _) (Nat.le_refl _) hRcells hRslots
  obtain ⟨s', hA⟩ : ∃ z, z = (T.setVm s.vm).setFrames (.invoking m args :: below) := ⟨_, rfl⟩
  rw [← hA] at Y
  have hvm : s'.vm = s.vm := by rw [hA]; rfl
  have hhp : s'.heap = H := by rw [hA]; exact hT
  have hW0 : s.WarmedH s'.vm := by rw [hvm]; exact State.WarmedH.refl s
  have hat' : ∀ w ∈ vx_atS own ic cls names, w.before args s' = true := fun w hw => vx_ot_at hW0 hvm.symm (hgood w (List.mem_cons_of_mem _ (List.mem_cons_of_mem _ hw))) (hat w hw)
  have hk' : (Cond.classLink own ik cls).before args s' = true := vx_ot_at hW0 hvm.symm (hgood _ List.mem_cons_self) hk
  have hini' : (Cond.initialized cls).before args s' = true := vx_ot_at hW0 hvm.symm (hgood _ (List.mem_cons_of_mem _ List.mem_cons_self)) hini
  have hU' : vx_Zq Bundle.tN "UNASSIGNED_STACK" Bundle.steD A s' s'.heap := by rw [hhp]; exact vx_Zq.moved hW0.alike (hU.kept hS.2.1)
  have hN' : vx_Zq Bundle.tN "SUPPRESSED_SENTINEL" Bundle.listD A s' s'.heap := by rw [hhp]; exact vx_Zq.moved hW0.alike (hN.kept hS.2.1)
  have h : ∀ w ∈ Bundle.ownAtoms own ic cls names, w.before args s' = true := vx_own hat' (vx_isRefq hU'.1) (vx_isRefq hN'.1) hU'.2.word hN'.2.word
  have hown' : s'.vm.findClass own = some m.cls := by rw [hvm]; exact hown
  have hins : (Cond.instantiable cls 6).before args s' = true := h _ (by simp [Bundle.ownAtoms])
  obtain ⟨vm₁, cX, kX, hfX, hkX, -, -, X₁, st1⟩ := Y.newCold hexec (own := own) (C := cls) (index := ik) (n := 6) hown' hk' hins hini'
    (g := F0 m pc ls rest) rfl (by rw [hb]; exact d0) (Nat.le_refl _) (Nat.le_refl _)
  generalize hT1 : (T.setVm vm₁).pushCell { cls := cX, slots := kX.instanceTypes.map defaultValue, vm := .none } = T1 at X₁ st1
  have hcat : (Value.ref T.heap.size).category = 1 := rfl
  have hcellA : T1.heap[T.heap.size]? = some (freshCell cX kX) := by rw [← hT1]; exact State.heap_pushCell_size _ _
  have d3' : decode c.code (pc + 3) = .ok (.dup, 1) := by rw [hb]; exact d3
  have d4' : decode c.code (pc + 4) = .ok (.ldc_w is, 3) := by rw [hb]; exact d4
  have hstr' : vk_R own is text sa s' := vk_R.warm hW0 hstr
  obtain ⟨U, hsteps, hrun, hend, hW, hsame, ce, hce, hO⟩ := X₁.ctorThrowS hexec htr (own := own) (cls := cls) (names := names) (ic := ic) hown' hcls hnames h (fun x hx => nomatch hx) hfX hkX hcellA (by rw [hhp, hT]; exact Nat.le_refl _) (msg := .ref sa) rfl
    (g := { method := m, pc := pc + 7, locals := ls, stack := .ref sa :: .ref T.heap.size :: .ref T.heap.size :: rest, locked := none }) rfl hsize rfl rfl (rest := rest) rfl
    (by rw [hb]; exact d7) (by rw [hb]; exact d10) hout hRframes (by simp only [List.map_cons, List.sum_cons, hcat]; omega) hlocks
  obtain ⟨f1, f2⟩ := vx_frame hsame
  rw [hhp] at f1 f2
  have hWs : s.WarmedH U.vm := State.WarmedH.trans hW0 hW
  have hcl : s.vm.findClass cls = some ce.cls := by
    have h9 := hO.cls
    rw [hvm] at h9
    exact h9
  have hall : s.sameButNew ({ U with vm := s.vm } : State) locs mc ms := by
    subst hA
    obtain ⟨e1, e2⟩ := hsame
    rw [State.setFrames_setFrames] at e1
    have h2 : (T.setVm s.vm).sameButNew ({ U with vm := s.vm } : State) [] (0 + 1) (0 + 6) := ⟨e1, e2⟩
    have h3 := X.same.trans h2
    rw [List.append_nil] at h3
    exact h3.mono hc hs
  refine ⟨U, ?_, .threw T.heap.size, hrun, hend, Or.inr ⟨T.heap.size, rfl, cls, ce, locs, hx U hWs.alike f1 (fun q hq => f2 q hq (fun z hz => nomatch hz)), hce, hO.vm, hcl, hWs, hall, hf⟩⟩
  refine st1 _ ?_
  show Steps p.tables e below (T1.setTop { method := m, pc := pc + 3, locals := ls, stack := .ref T.heap.size :: rest, locked := none }) _
  jvm_step X₁.here [X₁.here.top, hexec, d3', Value.category]
  exact X₁.ldcStringW hexec (own := own) (text := text) (index := is) (a := sa) hown' hstr'.1 hstr'.2
    (g := { method := m, pc := pc + 4, locals := ls, stack := .ref T.heap.size :: .ref T.heap.size :: rest, locked := none }) rfl d4' _ hsteps
end Ends
section Bodies
variable {l : Launch}
theorem vx_ofW {y : MethodName} {ws ws' : List Cond} {rm : Room} {Pc : Array Value → State → Prop} {Qc : Array Value → State → Outcome → State → Prop} {XC : String → State → State → Prop} {mc ms : Nat} {free : Addr → Prop} {cc : ByteArray} {maxL : Nat} {ret : Option FieldType}
    (hy : plainName y.cls = true) (hw : ws = Cond.code y cc maxL ret :: ws')
    (body : ∀ p e s m args below meth c s₁, BodyLoose p l y (headSpec ws rm) cc maxL ret e s m args below meth c s₁ → c.maxLocals = maxL → (∀ x ∈ c.exceptionTable.toList, False) → Pc args s →
      W p l e (headSpec ws rm).room s m args below meth c s.heap [] 0 0 (vx_MQ below Qc XC args s mc ms free) (entryFrame m args maxL)) : vx_Met l y ws rm Pc Qc XC mc ms free := by
  refine MetFree.of_bodyS (code := cc) (maxLocals := maxL) (ret := ret) hy ?_ ?_
  · intro args s m h hn
    obtain ⟨meth, c, h1, h2, h3, h4, h5, h6, -, -⟩ := Cond.code_spec hn (atoms_spec (ws := ws) h _ (by rw [hw]; exact List.mem_cons_self))
    exact ⟨meth, c, h1, h2, h3, h4, h5, h6⟩
  · intro p e s m args below meth c s₁ B hml hP _
    have hh0 : s₁.heap = s.heap := by rw [B.state]; rfl
    have ht : ∀ x ∈ c.exceptionTable.toList, False := by
      obtain ⟨meth9, c9, h1, h2, -, -, -, -, h7, -⟩ := Cond.code_spec B.named (atoms_spec (ws := ws) B.pre _ (by rw [hw]; exact List.mem_cons_self))
      cases Option.some.inj (h1.symm.trans B.method)
      cases Option.some.inj (h2.symm.trans (Stand.of_body B).code)
      intro x hx
      rw [Array.isEmpty_iff.mp h7] at hx
      cases hx
    obtain ⟨t, a1, o, b1, b2, b3⟩ := body p e s m args below meth c s₁ B hml ht hP s₁ hh0 (Stand.of_body B)
    exact ⟨t, o, a1, b1, b2, b3⟩
/-- the table of a body with handlers -/
theorem vx_table {p : Program} {x y : MethodName} {S : Spec} {cc bytes : ByteArray} {maxL maxL' : Nat} {ret ret' : Option FieldType} {e : Env} {s s₁ : State} {m : MethodId} {args : Array Value} {below : List Frame} {meth : Method} {c : Code} {hh : List (Nat × Nat × Nat × Nat)}
    (B : BodyLoose p l y S cc maxL ret e s m args below meth c s₁) (h : (Cond.codeWith y bytes maxL' ret' hh).before args s = true) : c.exceptionTable.toList = tableOf hh := by
  obtain ⟨m9, meth9, c9, hn9, h1, h2, -, -, h6, -⟩ := Cond.codeWith_spec h
  cases Option.some.inj (hn9.symm.trans B.named)
  cases Option.some.inj (h1.symm.trans B.method)
  cases Option.some.inj (h2.symm.trans (Stand.of_body B).code)
  rw [← h6, table_eq]
end Bodies
end VXA
/-! ===== END ===== -/
/-! ===== BEGIN a static call of a method with an exception table ===== -/
section VXS
variable {p : Program} {l : Launch} {e : Env} {R : Room} {s : State} {m : MethodId} {args : Array Value} {below : List Frame} {meth : Method} {c : Code} {T : State} {H : Heap} {locs : List Loc} {cells slots : Nat}
abbrev vx_CSW (R : Room) (s : State) (args : Array Value) (own : String) (index : Nat) (y : MethodName) (bytes : ByteArray) (maxL : Nat) (ret : Option FieldType) (hh : List (Nat × Nat × Nat × Nat)) (ws : List Cond) (rm : Room) (mc ms n : Nat) : Prop :=
  (rm.cells = mc ∧ rm.slots = ms ∧ rm.frames + 1 ≤ R.frames ∧ 8 + (maxL + 11) + rm.locals ≤ R.locals ∧ (∀ w ∈ ws, ∀ (a' : Array Value) (U : State), s.WarmedH U.vm → w.before a' U = true) ∧ Cond.codeWith y bytes maxL ret hh ∈ ws) ∧
  (Cond.codeWith y bytes maxL ret hh).before args s = true ∧ (Cond.initialized y.cls).before args s = true ∧ (y.cls ≠ "java/lang/invoke/MethodHandle" ∧ y.cls ≠ "java/lang/invoke/VarHandle") ∧
  (∀ sig, parseMethodDescriptor y.desc = some sig → n = sig.parameters.length) ∧ (Cond.methodLink own index y).before args s = true ∧ (Cond.static y).before args s = true
theorem vx_cwSW {own : String} {index maxL mc ms : Nat} {y : MethodName} {bytes : ByteArray} {ret : Option FieldType} {hh : List (Nat × Nat × Nat × Nat)} {Ts ws ws' : List Cond} {rm : Room} (n : Nat) (ht : ∀ w ∈ Ts, w.before args s = true) (hT : GoodIn Ts (va_wsS own index y ws)) (hw : ws = Cond.codeWith y bytes maxL ret hh :: ws') (hrc : rm.cells = mc) (hrs : rm.slots = ms)
    (hd : y.cls ≠ "java/lang/invoke/MethodHandle" ∧ y.cls ≠ "java/lang/invoke/VarHandle" ∧ (parseMethodDescriptor y.desc).map (fun d => d.parameters.length) = some n) (hR : rm.frames + 1 ≤ R.frames ∧ 8 + (maxL + 11) + rm.locals ≤ R.locals) :
    vx_CSW R s args own index y bytes maxL ret hh ws rm mc ms n := by
  have ok : ∀ w ∈ va_wsS own index y ws, w.before args s = true := fun w h => ht w (hT w h).1
  have hG : GoodIn Ts ws := fun w h => hT w (by unfold va_wsS; exact List.mem_append_right _ h)
  have hc : Cond.codeWith y bytes maxL ret hh ∈ ws := by rw [hw]; exact List.mem_cons_self
  refine ⟨⟨hrc, hrs, hR.1, hR.2, pay_in ht hG, hc⟩, ht _ (hG _ hc).1, ok _ (by simp [va_wsS]), ⟨hd.1, hd.2.1⟩, fun sig h => ?_, ok _ (by simp [va_wsS]), ok _ (by simp [va_wsS])⟩
  have h2 := hd.2.2
  rw [h] at h2
  exact (Option.some.inj h2).symm
theorem vx_callSW (X : Stand p l e R s m args below meth c T locs cells slots) (hexec : p.tables.exec = Jvm.exec) {own : String} {index : Nat} {y : MethodName} {bytes : ByteArray} {maxL : Nat} {ret : Option FieldType} {hh : List (Nat × Nat × Nat × Nat)}
    (hown : s.vm.findClass own = some m.cls) (hlink : (Cond.methodLink own index y).before args s = true) (hstat : (Cond.static y).before args s = true) (hinit : (Cond.initialized y.cls).before args s = true)
    (hcode : (Cond.codeWith y bytes maxL ret hh).before args s = true) (hy : y.cls ≠ "java/lang/invoke/MethodHandle" ∧ y.cls ≠ "java/lang/invoke/VarHandle")
    {W9 : Nat} {Pre : Pt → Array Value → Prop} {Post : Pt → Array Value → Option Value → Pt → Prop} (hK : Back l R p e below s args y 3 W9 Pre Post)
    {g : JFrame} (hg : g.method = m) (hsize : g.locals.size = c.maxLocals) {argsL rest : List Value} (hlen : ∀ sig, parseMethodDescriptor y.desc = some sig → argsL.length = sig.parameters.length)
    (hstack : g.stack = argsL.reverse ++ rest) (hW : 2 * g.monitorRoom + (rest.map fun v => v.category).sum ≤ W9) (hdg : decode c.code g.pc = .ok (.invokestatic index, 3))
    (hpre : ∀ vm₁, s.WarmedH vm₁ → Pre ⟨T.setVm vm₁, locs, cells, slots⟩ argsL.toArray) :
    ∃ (v : Option Value) (vm₁ : Vm) (B : Pt), s.WarmedH vm₁ ∧ Stand p l e R s m args below meth c B.U B.locs B.cells B.slots ∧ Post ⟨T.setVm vm₁, locs, cells, slots⟩ argsL.toArray v B ∧
      ∀ target, Steps p.tables e below (B.U.setTop { g with pc := g.pc + 3, stack := v.toList ++ rest }) target → Steps p.tables e below (T.setTop g) target := by
  obtain ⟨mk, methM, cM, hnamed, hmethM, -, -, -, -, -, -, hsigM⟩ := Cond.codeWith_spec hcode
  have hstatic : methM.isStatic = true := Cond.static_spec hnamed hmethM hstat
  obtain ⟨kP, hkP, -⟩ := className_of_methodNamed hnamed
  have hinitP : kP.init = .initialized := Cond.initialized_spec (findClass_of_methodNamed hnamed) hkP hinit
  obtain ⟨vm₁, X₁, hstep₁⟩ := X.invokestatic hexec hown hlink hnamed hmethM hstatic hkP hinitP hy (g := g) hg (argsL := argsL) (rest := rest) (hlen _ hsigM) hstack hdg
  obtain ⟨v, B, X', hpost, hsteps⟩ := hK m meth c ⟨T.setVm vm₁, locs, cells, slots⟩ { g with stack := rest } (.invokestatic index) mk argsL.toArray X₁ hg hsize hdg hW (X₁.named hnamed) (hpre vm₁ X₁.warmed)
  exact ⟨v, vm₁, B, X₁.warmed, X', hpost, fun target h => hstep₁ _ fun acts => by rw [doInvoke_state]; exact hsteps.trans h⟩
theorem vx_runSW {y : MethodName} {bytes cc : ByteArray} {maxL nL mc ms n index : Nat} {ret : Option FieldType} {hh : List (Nat × Nat × Nat × Nat)} {ws : List Cond} {rm : Room} {Pc : Array Value → State → Prop} {Qc : Array Value → State → Outcome → State → Prop} {free : Addr → Prop} {Ts : List Cond} {own : String} {As rest : List Value} {g : JFrame}
    (S : CallFix p m c cc nL s args Ts own) (hM : Met l y ws rm Pc Qc mc ms free) (cw : vx_CSW R s args own index y bytes maxL ret hh ws rm mc ms n) (hp : PreS s H Pc As)
    (hg : g.method = m) (hn : As.length = n) (hsize : g.locals.size = nL) (hstack : g.stack = As.reverse ++ rest) (hW : 2 * g.monitorRoom + (rest.map fun v => v.category).sum ≤ 8) (hdg : decode cc g.pc = .ok (.invokestatic index, 3)) (hf : cells + mc ≤ R.cells ∧ slots + ms ≤ R.slots) :
    va_Run p l e R s m args below meth c H locs cells slots mc ms g rest (Qc As.toArray) (free) := by
  obtain ⟨⟨hrc, hrs, hfr, hlo, hws, hcw⟩, hcode, hini, hy, hlen, hl, hstt⟩ := cw
  have hK : Back l R p e below s args y 3 8 (PreOf R mc ms Pc) (PostOf Qc mc ms free) := va_backW (hh := hh) (bytes := bytes) (maxL := maxL) (ret := ret) hM hp.1 hrc hrs hfr hlo hws hcw (fun a' U hW => word_at hW (Or.inl (by first | rfl | simp [Cond.onTables, Cond.keeps, Cond.steady])) hini)
  obtain ⟨hx, hb, hml, ho, -⟩ := S
  intro T hT X
  obtain ⟨v, vm₁, ⟨U', l2, c2, s2⟩, hW₁, X', ⟨g', mk, t, L, e1, e2, hq, h1, hL, h2, h3⟩, st⟩ := vx_callSW X hx (hh := hh) (bytes := bytes) (maxL := maxL) (ret := ret) ho hl hstt hini hcode hy hK hg (hsize.trans hml.symm) (argsL := As) (rest := rest) (fun sig h => hn.trans (hlen sig h)) hstack hW (by rw [hb]; exact hdg)
    (fun vm₁ hW₁ => ⟨hf.1, hf.2, hp.2 (T.setVm vm₁) hT hW₁⟩)
  dsimp only [Pt.U, Pt.locs, Pt.cells, Pt.slots] at X' e1 e2 h1 h2 h3 st
  subst h1; subst h2; subst h3
  exact ⟨v, (T.setVm vm₁).calling g' mk As.toArray, t, U', L, hT, X', hL, e1, e2, hq, st⟩
/-- not caught here, past rows that name other classes: it goes on to the caller -/
theorem vx_outP {p : Program} {l : Launch} {e : Env} {R : Room} {s : State} {m : MethodId} {args : Array Value} {below : List Frame} {meth : Method} {c : Code} {H : Heap} {locs : List Loc} {cells slots : Nat} {free : Addr → Prop} {ls : Array Slot} {rest : List Value} {Qc : Array Value → State → Outcome → State → Prop} {XC : String → State → State → Prop}
    {pc : Nat} {own E : String} {ce : Cell} {q : Addr} {mc ms : Nat} (hown : s.vm.findClass own = some m.cls) (hlocks : meth.locks = false)
    (hpass : ∀ z ∈ c.exceptionTable.toList, covers z pc = false ∨ (z.catchType ≠ 0 ∧ ∃ nm : String, (Cond.classLink own z.catchType nm).before args s = true ∧ va_Nc E nm s)) (hcell : H[q]? = some ce) (hv : ce.vm = .none) (hcl : s.vm.findClass E = some ce.cls)
    (hx : ∀ t : State, t.heap = H → s.vm.Alike t.vm → XC E s t) (hf : ∀ z ∈ locs, free z.base) (hc : cells ≤ mc) (hs : slots ≤ ms) :
    vx_W p l e R s m args below meth c H locs cells slots (vx_MQ below Qc XC args s mc ms free) (F0 m pc ls rest) q := by
  intro T hT X
  have hpl : e.platform.magicAccessors = ({} : Platform).magicAccessors := by rw [X.admits.platform]
  obtain ⟨vm', hW', X', st⟩ := X.outThrough hlocks q (g := F0 m pc ls rest) rfl rfl rfl (cell := ce) (by rw [hT]; exact hcell) (by rw [hv]; rfl)
    (by obtain ⟨k9, h9, -⟩ := Vm.findClass_spec hcl; exact ⟨k9, h9⟩) (fun z hz => by
      rcases hpass z hz with h | ⟨hz0, nm, hl1, hn1⟩
      · exact Or.inl h
      · obtain ⟨c6, hc6, hcl6⟩ := Cond.classLink_spec hown hl1 e.platform hpl
        obtain ⟨a8, b8, h1, h2, h3⟩ := hn1
        cases Option.some.inj (h1.symm.trans hcl)
        cases Option.some.inj (h2.symm.trans hc6)
        exact Or.inr ⟨hz0, _, hcl6, h3⟩)
  obtain ⟨g₀, hfr⟩ := X'.frames_eq
  have hcell9 : ((T.setVm vm').setFrames (.throwing q :: below)).heap[q]? = some ce := by
    show T.heap[q]? = some ce
    rw [hT]; exact hcell
  have hend : Ended ((T.setVm vm').setFrames (.throwing q :: below)) below (.threw q) := State.frames_setFrames _ (State.cur_lt_of_frames hfr)
  refine ⟨(T.setVm vm').setFrames (.throwing q :: below), ?_, .threw q, X'.here.running, hend, Or.inr ⟨q, rfl, E, ce, locs, hx _ hT (X'.ends _).1.alike, hcell9, hv, hcl, (X'.ends _).1, (X'.ends _).2.mono hc hs, hf⟩⟩
  rw [X.pushThrowing_eq]
  exact st
/-- a thing of a world lies in the heap -/
theorem vx_lt {D : va_G} {cl : List vw_C} {ws : va_W} {H1 : Heap} (h : va_P D cl ws H1) {k : Nat} {q : Nat × va_E} (hk : ws[k]? = some q) : q.1 < H1.size := (h k q hk).lt
end VXS
/-! ===== END ===== -/
/-! ===== BEGIN methods with a table of their own: called by a name, returning or throwing ===== -/
section VXH
/-! vx_backW, vx_callVX, vx_callSX, vx_callVW, vx_runVW, vx_runVX, vx_runSX, vx_ofWH follow the same proofs as their sisters above (Free/Laws.lean, Shelf42/LK1.lean); vx_outP calls Shelf42/NT130.lean (outThrough). -/
section
variable {l : Launch} {R : Room} {p : Program} {e : Env} {below : List Frame} {s : State} {sargs : Array Value} {y : MethodName} {len W9 : Nat}
theorem vx_backW {ws : List Cond} {rm : Room} {Pc : Array Value → State → Prop} {Qc : Array Value → State → Outcome → State → Prop} {XC : String → State → State → Prop} {mc ms : Nat} {free : Addr → Prop} {bytes : ByteArray} {maxL : Nat} {ret : Option FieldType} {hh : List (Nat × Nat × Nat × Nat)}
    (hM : vx_Met l y ws rm Pc Qc XC mc ms free) (hblind : FrameBlind Pc) (hrc : rm.cells = mc) (hrs : rm.slots = ms)
    (hframes : rm.frames + 1 ≤ R.frames) (hlocals : W9 + (maxL + 11) + rm.locals ≤ R.locals)
    (hws : ∀ w ∈ ws, ∀ a' U, s.WarmedH U.vm → w.before a' U = true) (hcode : Cond.codeWith y bytes maxL ret hh ∈ ws) (hinit : ∀ a' U, s.WarmedH U.vm → (Cond.initialized y.cls).before a' U = true) :
    vx_Back l R p e below s sargs y len W9 (PreOf R mc ms Pc) (PostOf Qc mc ms free) (vx_Post XC mc ms free) := by
  intro m meth c A g ig mk a X hg hsize hdg hW hn hp
  have h1 : (headSpec ws rm).pre.before a A.U = true := atoms_intro fun w hw => hws w hw _ _ X.warmed
  have h2 : (Cond.codeWith y bytes maxL ret hh).before a A.U = true := hws _ hcode _ _ X.warmed
  have h3 : (Cond.initialized y.cls).before a A.U = true := hinit _ _ X.warmed
  have h4 : A.cells + (headSpec ws rm).room.cells ≤ R.cells := by rw [show (headSpec ws rm).room.cells = mc from hrc]; exact hp.1
  have h5 : A.slots + (headSpec ws rm).room.slots ≤ R.slots := by rw [show (headSpec ws rm).room.slots = ms from hrs]; exact hp.2.1
  have hPc : Pc a (A.U.calling g mk a) := hblind _ _ _ _ hp.2.2
  obtain ⟨U, Ls, c0, s0⟩ := A
  dsimp only [Pt.U, Pt.locs, Pt.cells, Pt.slots] at h1 h2 h3 h4 h5 X hn hPc ⊢
  obtain ⟨m9, methY, cY, hn9, hmY, hcY, -, hlY, -⟩ := Cond.codeWith_spec h2
  cases Option.some.inj (hn9.symm.trans hn)
  obtain ⟨kY, hkY, -⟩ := className_of_methodNamed hn
  have hinitY : kY.init = .initialized := Cond.initialized_spec (findClass_of_methodNamed hn) hkY h3
  have h : At U g.method c below := by rw [hg]; exact X.here
  have hlocals9 : W9 + (maxL + 11) + (headSpec ws rm).room.locals ≤ R.locals := hlocals
  have happ : (headSpec ws rm).appliesLoose y e.platform (U.calling g mk a) = true :=
    Spec.appliesLoose_calling (g := g) h hdg hn hkY hinitY
      (X.room_calling (g := g) (R' := (headSpec ws rm).room) hsize hmY hcY hframes (by rw [hlY]; omega) h4 h5) h1
  obtain ⟨mid, hmid⟩ := h.above
  have hfr : (U.setTop g).frames = (.java g :: mid) ++ below := by rw [State.frames_setTop' g h.top, hmid]; rfl
  obtain ⟨o, s₂, hsteps, -, hend, hq⟩ := Steps.callFree hM p X.admits X.cas X.clock (acts := []) hfr happ hPc trivial
  have hq' : vx_Q Qc XC mc ms free a (U.calling g mk a) o s₂ := hq
  rw [State.frames_setTop' g h.top] at hend
  obtain ⟨g₀, hg0⟩ := Option.isSome_iff_exists.mp h.top
  obtain ⟨r, hr⟩ := State.topJava?_eq_some.mp hg0
  have hr' : (({ U with heap := s₂.heap, slotsUsed := s₂.slotsUsed } : State).setVm s₂.vm).frames = .java g₀ :: r := hr
  rcases hq' with ⟨hqc, L, hfe, hL⟩ | ⟨q, rfl, E, ce, L, hx, hce, hcv, hcl, hW₂, hsm, hL⟩
  · obtain ⟨⟨v, rfl⟩, hW₂, e2, q2, q3, q4, q5, q6⟩ := id hfe
    have e3 : s₂ = ({ (U.calling g mk a).setFrames s₂.frames with heap := s₂.heap, slotsUsed := s₂.slotsUsed } : State).setVm s₂.vm := by
      have : s₂ = ({ s₂ with vm := (U.calling g mk a).vm } : State).setVm s₂.vm := rfl
      rw [e2] at this
      exact this
    obtain ⟨c₂, i₂, len₂, hc₂, hd₂, hf₂⟩ := hend
    have hW' : U.WarmedH s₂.vm := hW₂
    have hcc : c₂ = c := by
      have h1 : s₂.code? g.method = U.code? g.method := by
        rw [State.code?_eq, State.code?_eq, hW'.alike.method?]
      exact Option.some.inj (hc₂.symm.trans (h1.trans h.code))
    subst hcc
    have hlen : len₂ = len := by rw [hdg] at hd₂; cases hd₂; rfl
    subst hlen
    have hs₂ : s₂ = (({ U with heap := s₂.heap, slotsUsed := s₂.slotsUsed } : State).setVm s₂.vm).setTop { g with pc := g.pc + len₂, stack := v.toList ++ g.stack } := by
      refine e3.trans ?_
      rw [hf₂, State.calling_eq h.top, State.setFrames_setFrames, State.setTop_of_frames _ hr', hr]
      rfl
    have hsame : U.sameButNew ({ U with heap := s₂.heap, slotsUsed := s₂.slotsUsed } : State) L mc ms := by
      refine ⟨?_, q2, q3, q4, q5, q6⟩
      obtain ⟨t, ht, -⟩ := State.frames_cons hr
      show ({ U with heap := s₂.heap, slotsUsed := s₂.slotsUsed } : State) = { U.setFrames U.frames with heap := s₂.heap, slotsUsed := s₂.slotsUsed }
      rw [State.setFrames_self ht]
    subst hg
    refine Or.inl ⟨v, ⟨(({ U with heap := s₂.heap, slotsUsed := s₂.slotsUsed } : State).setVm s₂.vm), Ls ++ L, c0 + mc, s0 + ms⟩,
      ⟨X.admits, X.cas, X.clock, X.frames, X.room, X.hears, X.method, X.code, (X.here.setHeapUsed s₂.heap s₂.slotsUsed).setVm hW'.alike, X.tail, State.WarmedH.trans X.warmed hW', X.limits, X.bytes, X.same.trans (hsame.setVm s.vm)⟩,
      ⟨g, mk, s₂, L, rfl, rfl, hqc, rfl, hL, rfl, rfl⟩, ?_⟩
    show Steps p.tables e below _ ((({ U with heap := s₂.heap, slotsUsed := s₂.slotsUsed } : State).setVm s₂.vm).setTop { g with pc := g.pc + len₂, stack := v.toList ++ g.stack })
    rw [← hs₂]
    exact hsteps
  · obtain ⟨e2, q2, q3, q4, q5, q6⟩ := id hsm
    have e3 : s₂ = ({ (U.calling g mk a).setFrames s₂.frames with heap := s₂.heap, slotsUsed := s₂.slotsUsed } : State).setVm s₂.vm := by
      have : s₂ = ({ s₂ with vm := (U.calling g mk a).vm } : State).setVm s₂.vm := rfl
      rw [e2] at this
      exact this
    have hf₂ : s₂.frames = .throwing q :: .java g :: U.frames.tail := hend
    have hW' : U.WarmedH s₂.vm := hW₂
    have hs₂ : s₂ = ((({ U with heap := s₂.heap, slotsUsed := s₂.slotsUsed } : State).setVm s₂.vm).setTop g).pushFrame (.throwing q) := by
      refine e3.trans ?_
      rw [hf₂, State.calling_eq h.top, State.setFrames_setFrames, State.pushFrame, State.frames_setTop _ hr', State.setTop_of_frames _ hr', State.setFrames_setFrames, hr]
      rfl
    have hsame : U.sameButNew ({ U with heap := s₂.heap, slotsUsed := s₂.slotsUsed } : State) L mc ms := by
      refine ⟨?_, q2, q3, q4, q5, q6⟩
      obtain ⟨t, ht, -⟩ := State.frames_cons hr
      show ({ U with heap := s₂.heap, slotsUsed := s₂.slotsUsed } : State) = { U.setFrames U.frames with heap := s₂.heap, slotsUsed := s₂.slotsUsed }
      rw [State.setFrames_self ht]
    subst hg
    refine Or.inr ⟨q, ⟨(({ U with heap := s₂.heap, slotsUsed := s₂.slotsUsed } : State).setVm s₂.vm), Ls ++ L, c0 + mc, s0 + ms⟩,
      ⟨X.admits, X.cas, X.clock, X.frames, X.room, X.hears, X.method, X.code, (X.here.setHeapUsed s₂.heap s₂.slotsUsed).setVm hW'.alike, X.tail, State.WarmedH.trans X.warmed hW', X.limits, X.bytes, X.same.trans (hsame.setVm s.vm)⟩,
      ⟨g, mk, s₂, L, E, ce, rfl, rfl, hx, hce, hcv, hcl, rfl, hL, rfl, rfl⟩, ?_⟩
    show Steps p.tables e below _ (((({ U with heap := s₂.heap, slotsUsed := s₂.slotsUsed } : State).setVm s₂.vm).setTop g).pushFrame (.throwing q))
    rw [← hs₂]
    exact hsteps
end
variable {p : Program} {l : Launch} {e : Env} {R : Room} {s : State} {m : MethodId} {args : Array Value} {below : List Frame} {meth : Method} {c : Code} {T : State} {H : Heap} {locs : List Loc} {cells slots : Nat}
theorem vx_callVX (X : Stand p l e R s m args below meth c T locs cells slots) (hexec : p.tables.exec = Jvm.exec) {own C : String} {index : Nat} {y : MethodName} {bytes : ByteArray} {maxL : Nat} {ret : Option FieldType} {hh : List (Nat × Nat × Nat × Nat)}
    (hown : s.vm.findClass own = some m.cls) (hlink : (Cond.methodLink own index y).before args s = true) (hinst : (Cond.instanceMethod y).before args s = true) (hsel : (Cond.selects C y y).before args s = true)
    (hcode : (Cond.codeWith y bytes maxL ret hh).before args s = true) (hy : y.cls ≠ "java/lang/invoke/MethodHandle" ∧ y.cls ≠ "java/lang/invoke/VarHandle")
    {W9 : Nat} {Pre : Pt → Array Value → Prop} {Post : Pt → Array Value → Option Value → Pt → Prop} {PostX : Pt → Array Value → Addr → Pt → Prop} (hK : vx_Back l R p e below s args y 3 W9 Pre Post PostX)
    {b : Addr} {cellB : Cell} (hcell : T.heap[b]? = some cellB) (hobj : cellB.vm.isStatics = false) (hcls : s.vm.findClass C = some cellB.cls)
    {g : JFrame} (hg : g.method = m) (hsize : g.locals.size = c.maxLocals) {argsL rest : List Value} (hlen : ∀ sig, parseMethodDescriptor y.desc = some sig → argsL.length = sig.parameters.length)
    (hstack : g.stack = argsL.reverse ++ .ref b :: rest) (hW : 2 * g.monitorRoom + (rest.map fun v => v.category).sum ≤ W9) (hdg : decode c.code g.pc = .ok (.invokevirtual index, 3))
    (hpre : ∀ vm₁, s.WarmedH vm₁ → Pre ⟨T.setVm vm₁, locs, cells, slots⟩ (Value.ref b :: argsL).toArray) :
    (∃ (v : Option Value) (vm₁ : Vm) (B : Pt), s.WarmedH vm₁ ∧ Stand p l e R s m args below meth c B.U B.locs B.cells B.slots ∧ Post ⟨T.setVm vm₁, locs, cells, slots⟩ (Value.ref b :: argsL).toArray v B ∧
      ∀ target, Steps p.tables e below (B.U.setTop { g with pc := g.pc + 3, stack := v.toList ++ rest }) target → Steps p.tables e below (T.setTop g) target) ∨
    (∃ (q : Addr) (vm₁ : Vm) (B : Pt), s.WarmedH vm₁ ∧ Stand p l e R s m args below meth c B.U B.locs B.cells B.slots ∧ PostX ⟨T.setVm vm₁, locs, cells, slots⟩ (Value.ref b :: argsL).toArray q B ∧
      Steps p.tables e below (T.setTop g) ((B.U.setTop { g with stack := rest }).pushFrame (.throwing q))) := by
  obtain ⟨mk, methM, hnamed, hmethM, hstM, habM⟩ := Cond.instanceMethod_spec hinst
  obtain ⟨m8, methM', cM, hn8, hmethM', -, -, -, -, -, -, hsigM⟩ := Cond.codeWith_spec hcode
  cases Option.some.inj (hn8.symm.trans hnamed)
  cases hmethM.symm.trans hmethM'
  obtain ⟨c2, r2, m2, q1, q2, q3, q4, kP, hkP, hkPi⟩ := Cond.selects_spec hsel
  cases hcls.symm.trans q1
  cases (State.methodFound?_of_named hnamed hy).symm.trans q2
  cases hnamed.symm.trans q3
  have hselP : selectMethod e.platform s.vm cellB.cls mk = .method mk := by rw [Launch.admits_selectMethod X.admits]; exact q4
  obtain ⟨vm₁, X₁, hstep₁⟩ := X.invokevirtual hexec hown hlink hnamed hmethM hstM hkP hkPi hy (a := b) (cell := cellB) hcell
    (fun z h => by rw [h] at hobj; cases hobj) hselP hmethM habM hkP hkPi (g := g) hg (argsL := argsL) (rest := rest) (hlen _ hsigM) hstack hdg
  rcases hK m meth c ⟨T.setVm vm₁, locs, cells, slots⟩ { g with stack := rest } (.invokevirtual index) mk (Value.ref b :: argsL).toArray X₁ hg hsize hdg hW (X₁.named hnamed) (hpre vm₁ X₁.warmed) with ⟨v, B, X', hpost, hsteps⟩ | ⟨q, B, X', hpost, hsteps⟩
  · exact Or.inl ⟨v, vm₁, B, X₁.warmed, X', hpost, fun target h => hstep₁ _ fun acts => by rw [doInvoke_state]; exact hsteps.trans h⟩
  · exact Or.inr ⟨q, vm₁, B, X₁.warmed, X', hpost, hstep₁ _ fun acts => by rw [doInvoke_state]; exact hsteps⟩
theorem vx_callSX (X : Stand p l e R s m args below meth c T locs cells slots) (hexec : p.tables.exec = Jvm.exec) {own : String} {index : Nat} {y : MethodName} {bytes : ByteArray} {maxL : Nat} {ret : Option FieldType} {hh : List (Nat × Nat × Nat × Nat)}
    (hown : s.vm.findClass own = some m.cls) (hlink : (Cond.methodLink own index y).before args s = true) (hstat : (Cond.static y).before args s = true) (hinit : (Cond.initialized y.cls).before args s = true)
    (hcode : (Cond.codeWith y bytes maxL ret hh).before args s = true) (hy : y.cls ≠ "java/lang/invoke/MethodHandle" ∧ y.cls ≠ "java/lang/invoke/VarHandle")
    {W9 : Nat} {Pre : Pt → Array Value → Prop} {Post : Pt → Array Value → Option Value → Pt → Prop} {PostX : Pt → Array Value → Addr → Pt → Prop} (hK : vx_Back l R p e below s args y 3 W9 Pre Post PostX)
    {g : JFrame} (hg : g.method = m) (hsize : g.locals.size = c.maxLocals) {argsL rest : List Value} (hlen : ∀ sig, parseMethodDescriptor y.desc = some sig → argsL.length = sig.parameters.length)
    (hstack : g.stack = argsL.reverse ++ rest) (hW : 2 * g.monitorRoom + (rest.map fun v => v.category).sum ≤ W9) (hdg : decode c.code g.pc = .ok (.invokestatic index, 3))
    (hpre : ∀ vm₁, s.WarmedH vm₁ → Pre ⟨T.setVm vm₁, locs, cells, slots⟩ argsL.toArray) :
    (∃ (v : Option Value) (vm₁ : Vm) (B : Pt), s.WarmedH vm₁ ∧ Stand p l e R s m args below meth c B.U B.locs B.cells B.slots ∧ Post ⟨T.setVm vm₁, locs, cells, slots⟩ argsL.toArray v B ∧
      ∀ target, Steps p.tables e below (B.U.setTop { g with pc := g.pc + 3, stack := v.toList ++ rest }) target → Steps p.tables e below (T.setTop g) target) ∨
    (∃ (q : Addr) (vm₁ : Vm) (B : Pt), s.WarmedH vm₁ ∧ Stand p l e R s m args below meth c B.U B.locs B.cells B.slots ∧ PostX ⟨T.setVm vm₁, locs, cells, slots⟩ argsL.toArray q B ∧
      Steps p.tables e below (T.setTop g) ((B.U.setTop { g with stack := rest }).pushFrame (.throwing q))) := by
  obtain ⟨mk, methM, cM, hnamed, hmethM, -, -, -, -, -, -, hsigM⟩ := Cond.codeWith_spec hcode
  have hstatic : methM.isStatic = true := Cond.static_spec hnamed hmethM hstat
  obtain ⟨kP, hkP, -⟩ := className_of_methodNamed hnamed
  have hinitP : kP.init = .initialized := Cond.initialized_spec (findClass_of_methodNamed hnamed) hkP hinit
  obtain ⟨vm₁, X₁, hstep₁⟩ := X.invokestatic hexec hown hlink hnamed hmethM hstatic hkP hinitP hy (g := g) hg (argsL := argsL) (rest := rest) (hlen _ hsigM) hstack hdg
  rcases hK m meth c ⟨T.setVm vm₁, locs, cells, slots⟩ { g with stack := rest } (.invokestatic index) mk argsL.toArray X₁ hg hsize hdg hW (X₁.named hnamed) (hpre vm₁ X₁.warmed) with ⟨v, B, X', hpost, hsteps⟩ | ⟨q, B, X', hpost, hsteps⟩
  · exact Or.inl ⟨v, vm₁, B, X₁.warmed, X', hpost, fun target h => hstep₁ _ fun acts => by rw [doInvoke_state]; exact hsteps.trans h⟩
  · exact Or.inr ⟨q, vm₁, B, X₁.warmed, X', hpost, hstep₁ _ fun acts => by rw [doInvoke_state]; exact hsteps⟩
theorem vx_callVW (X : Stand p l e R s m args below meth c T locs cells slots) (hexec : p.tables.exec = Jvm.exec) {own C : String} {index : Nat} {y : MethodName} {bytes : ByteArray} {maxL : Nat} {ret : Option FieldType} {hh : List (Nat × Nat × Nat × Nat)}
    (hown : s.vm.findClass own = some m.cls) (hlink : (Cond.methodLink own index y).before args s = true) (hinst : (Cond.instanceMethod y).before args s = true) (hsel : (Cond.selects C y y).before args s = true)
    (hcode : (Cond.codeWith y bytes maxL ret hh).before args s = true) (hy : y.cls ≠ "java/lang/invoke/MethodHandle" ∧ y.cls ≠ "java/lang/invoke/VarHandle")
    {W9 : Nat} {Pre : Pt → Array Value → Prop} {Post : Pt → Array Value → Option Value → Pt → Prop} (hK : Back l R p e below s args y 3 W9 Pre Post)
    {b : Addr} {cellB : Cell} (hcell : T.heap[b]? = some cellB) (hobj : cellB.vm.isStatics = false) (hcls : s.vm.findClass C = some cellB.cls)
    {g : JFrame} (hg : g.method = m) (hsize : g.locals.size = c.maxLocals) {argsL rest : List Value} (hlen : ∀ sig, parseMethodDescriptor y.desc = some sig → argsL.length = sig.parameters.length)
    (hstack : g.stack = argsL.reverse ++ .ref b :: rest) (hW : 2 * g.monitorRoom + (rest.map fun v => v.category).sum ≤ W9) (hdg : decode c.code g.pc = .ok (.invokevirtual index, 3))
    (hpre : ∀ vm₁, s.WarmedH vm₁ → Pre ⟨T.setVm vm₁, locs, cells, slots⟩ (Value.ref b :: argsL).toArray) :
    ∃ (v : Option Value) (vm₁ : Vm) (B : Pt), s.WarmedH vm₁ ∧ Stand p l e R s m args below meth c B.U B.locs B.cells B.slots ∧ Post ⟨T.setVm vm₁, locs, cells, slots⟩ (Value.ref b :: argsL).toArray v B ∧
      ∀ target, Steps p.tables e below (B.U.setTop { g with pc := g.pc + 3, stack := v.toList ++ rest }) target → Steps p.tables e below (T.setTop g) target := by
  obtain ⟨mk, methM, hnamed, hmethM, hstM, habM⟩ := Cond.instanceMethod_spec hinst
  obtain ⟨m8, methM', cM, hn8, hmethM', -, -, -, -, -, -, hsigM⟩ := Cond.codeWith_spec hcode
  cases Option.some.inj (hn8.symm.trans hnamed)
  cases hmethM.symm.trans hmethM'
  obtain ⟨c2, r2, m2, q1, q2, q3, q4, kP, hkP, hkPi⟩ := Cond.selects_spec hsel
  cases hcls.symm.trans q1
  cases (State.methodFound?_of_named hnamed hy).symm.trans q2
  cases hnamed.symm.trans q3
  have hselP : selectMethod e.platform s.vm cellB.cls mk = .method mk := by rw [Launch.admits_selectMethod X.admits]; exact q4
  obtain ⟨vm₁, X₁, hstep₁⟩ := X.invokevirtual hexec hown hlink hnamed hmethM hstM hkP hkPi hy (a := b) (cell := cellB) hcell
    (fun z h => by rw [h] at hobj; cases hobj) hselP hmethM habM hkP hkPi (g := g) hg (argsL := argsL) (rest := rest) (hlen _ hsigM) hstack hdg
  obtain ⟨v, B, X', hpost, hsteps⟩ := hK m meth c ⟨T.setVm vm₁, locs, cells, slots⟩ { g with stack := rest } (.invokevirtual index) mk (Value.ref b :: argsL).toArray X₁ hg hsize hdg hW (X₁.named hnamed) (hpre vm₁ X₁.warmed)
  exact ⟨v, vm₁, B, X₁.warmed, X', hpost, fun target h => hstep₁ _ fun acts => by rw [doInvoke_state]; exact hsteps.trans h⟩
abbrev vx_CVW (R : Room) (s : State) (args : Array Value) (own C : String) (index : Nat) (y : MethodName) (bytes : ByteArray) (maxL : Nat) (ret : Option FieldType) (hh : List (Nat × Nat × Nat × Nat)) (ws : List Cond) (rm : Room) (mc ms n : Nat) : Prop :=
  (rm.cells = mc ∧ rm.slots = ms ∧ rm.frames + 1 ≤ R.frames ∧ 8 + (maxL + 11) + rm.locals ≤ R.locals ∧ (∀ w ∈ ws, ∀ (a' : Array Value) (U : State), s.WarmedH U.vm → w.before a' U = true) ∧ Cond.codeWith y bytes maxL ret hh ∈ ws) ∧
  (Cond.codeWith y bytes maxL ret hh).before args s = true ∧ (Cond.initialized y.cls).before args s = true ∧ (y.cls ≠ "java/lang/invoke/MethodHandle" ∧ y.cls ≠ "java/lang/invoke/VarHandle") ∧
  (∀ sig, parseMethodDescriptor y.desc = some sig → n = sig.parameters.length) ∧ (Cond.methodLink own index y).before args s = true ∧ (Cond.instanceMethod y).before args s = true ∧ (Cond.selects C y y).before args s = true
theorem vx_cwVW {own C : String} {index maxL mc ms : Nat} {y : MethodName} {bytes : ByteArray} {ret : Option FieldType} {hh : List (Nat × Nat × Nat × Nat)} {Ts ws ws' : List Cond} {rm : Room} (n : Nat) (ht : ∀ w ∈ Ts, w.before args s = true) (hT : GoodIn Ts (wsV own index C y ws)) (hw : ws = Cond.codeWith y bytes maxL ret hh :: ws') (hrc : rm.cells = mc) (hrs : rm.slots = ms)
    (hd : y.cls = C ∧ y.cls ≠ "java/lang/invoke/MethodHandle" ∧ y.cls ≠ "java/lang/invoke/VarHandle" ∧ (parseMethodDescriptor y.desc).map (fun d => d.parameters.length) = some n) (hR : rm.frames + 1 ≤ R.frames ∧ 8 + (maxL + 11) + rm.locals ≤ R.locals) :
    vx_CVW R s args own C index y bytes maxL ret hh ws rm mc ms n := by
  obtain ⟨hC, hd⟩ := hd
  subst hC
  have ok : ∀ w ∈ wsV own index y.cls y ws, w.before args s = true := fun w h => ht w (hT w h).1
  have hG : GoodIn Ts ws := fun w h => hT w (by unfold wsV; exact List.mem_append_right _ h)
  have hc : Cond.codeWith y bytes maxL ret hh ∈ ws := by rw [hw]; exact List.mem_cons_self
  refine ⟨⟨hrc, hrs, hR.1, hR.2, pay_in ht hG, hc⟩, ht _ (hG _ hc).1, ok _ (by simp [wsV]), ⟨hd.1, hd.2.1⟩, fun sig h => ?_, ok _ (by simp [wsV]), ok _ (by simp [wsV]), ok _ (by simp [wsV])⟩
  have h2 := hd.2.2
  rw [h] at h2
  exact (Option.some.inj h2).symm
theorem vx_runVW {y : MethodName} {bytes cc : ByteArray} {maxL nL mc ms n index : Nat} {ret : Option FieldType} {hh : List (Nat × Nat × Nat × Nat)} {ws : List Cond} {rm : Room} {Pc : Array Value → State → Prop} {Qc : Array Value → State → Outcome → State → Prop} {free : Addr → Prop} {Ts : List Cond} {own C : String} {b : Addr} {As rest : List Value} {g : JFrame}
    (S : CallFix p m c cc nL s args Ts own) (hM : Met l y ws rm Pc Qc mc ms free) (cw : vx_CVW R s args own C index y bytes maxL ret hh ws rm mc ms n) (hp : PreV s H C b Pc As)
    (hg : g.method = m) (hn : As.length = n) (hsize : g.locals.size = nL) (hstack : g.stack = As.reverse ++ .ref b :: rest) (hW : 2 * g.monitorRoom + (rest.map fun v => v.category).sum ≤ 8) (hdg : decode cc g.pc = .ok (.invokevirtual index, 3)) (hf : cells + mc ≤ R.cells ∧ slots + ms ≤ R.slots) :
    va_Run p l e R s m args below meth c H locs cells slots mc ms g rest (Qc (Value.ref b :: As).toArray) free := by
  obtain ⟨⟨hrc, hrs, hfr, hlo, hws, hcw⟩, hcode, hini, hy, hlen, hl, hin, hse⟩ := cw
  have hK : Back l R p e below s args y 3 8 (PreOf R mc ms Pc) (PostOf Qc mc ms free) := va_backW (hh := hh) (bytes := bytes) (maxL := maxL) (ret := ret) hM hp.1 hrc hrs hfr hlo hws hcw (fun a' U hW => word_at hW (Or.inl (by first | rfl | simp [Cond.onTables, Cond.keeps, Cond.steady])) hini)
  obtain ⟨hx, hb, hml, ho, -⟩ := S
  obtain ⟨-, ⟨cellB, hcB, hoB, hclB⟩, hPc⟩ := hp
  intro T hT X
  obtain ⟨v, vm₁, ⟨U', l2, c2, s2⟩, hW₁, X', ⟨g', mk, t, L, e1, e2, hq, h1, hL, h2, h3⟩, st⟩ := vx_callVW X hx (C := C) (hh := hh) (bytes := bytes) (maxL := maxL) (ret := ret) ho hl hin hse hcode hy hK (by rw [hT]; exact hcB) hoB hclB hg (hsize.trans hml.symm) (argsL := As) (rest := rest) (fun sig h => hn.trans (hlen sig h)) hstack hW (by rw [hb]; exact hdg)
    (fun vm₁ hW₁ => ⟨hf.1, hf.2, hPc (T.setVm vm₁) hT hW₁⟩)
  dsimp only [Pt.U, Pt.locs, Pt.cells, Pt.slots] at X' e1 e2 h1 h2 h3 st
  subst h1; subst h2; subst h3
  exact ⟨v, (T.setVm vm₁).calling g' mk (Value.ref b :: As).toArray, t, U', L, hT, X', hL, e1, e2, hq, st⟩
section
variable {y : MethodName} {bytes cc : ByteArray} {maxL nL mc ms n index : Nat} {ret : Option FieldType} {ws : List Cond} {rm : Room} {Pc : Array Value → State → Prop} {Qc : Array Value → State → Outcome → State → Prop} {XC : String → State → State → Prop} {free : Addr → Prop} {Ts : List Cond} {own C : String} {b : Addr} {As rest : List Value} {g : JFrame}
theorem vx_runVX {hh : List (Nat × Nat × Nat × Nat)} (S : CallFix p m c cc nL s args Ts own) (hM : vx_Met l y ws rm Pc Qc XC mc ms free) (cw : vx_CVW R s args own C index y bytes maxL ret hh ws rm mc ms n) (hp : PreV s H C b Pc As)
    (hg : g.method = m) (hn : As.length = n) (hsize : g.locals.size = nL) (hstack : g.stack = As.reverse ++ .ref b :: rest) (hW : 2 * g.monitorRoom + (rest.map fun v => v.category).sum ≤ 8) (hdg : decode cc g.pc = .ok (.invokevirtual index, 3)) (hf : cells + mc ≤ R.cells ∧ slots + ms ≤ R.slots) :
    vx_Run p l e R s m args below meth c H locs cells slots mc ms g rest (Qc (Value.ref b :: As).toArray) XC free := by
  obtain ⟨⟨hrc, hrs, hfr, hlo, hws, hcw⟩, hcode, hini, hy, hlen, hl, hin, hse⟩ := cw
  have hK : vx_Back l R p e below s args y 3 8 (PreOf R mc ms Pc) (PostOf Qc mc ms free) (vx_Post XC mc ms free) := vx_backW (hh := hh) (bytes := bytes) (maxL := maxL) (ret := ret) hM hp.1 hrc hrs hfr hlo hws hcw (fun a' U hW => word_at hW (Or.inl (by first | rfl | simp [Cond.onTables, Cond.keeps, Cond.steady])) hini)
  obtain ⟨hx, hb, hml, ho, -⟩ := S
  obtain ⟨-, ⟨cellB, hcB, hoB, hclB⟩, hPc⟩ := hp
  intro T hT X
  rcases vx_callVX X hx (C := C) (hh := hh) (bytes := bytes) (maxL := maxL) (ret := ret) ho hl hin hse hcode hy hK (by rw [hT]; exact hcB) hoB hclB hg (hsize.trans hml.symm) (argsL := As) (rest := rest) (fun sig h => hn.trans (hlen sig h)) hstack hW (by rw [hb]; exact hdg)
    (fun vm₁ hW₁ => ⟨hf.1, hf.2, hPc (T.setVm vm₁) hT hW₁⟩) with ⟨v, vm₁, ⟨U', l2, c2, s2⟩, hW₁, X', ⟨g', mk, t, L, e1, e2, hq, h1, hL, h2, h3⟩, st⟩ | ⟨q, vm₁, ⟨U', l2, c2, s2⟩, hW₁, X', ⟨g', mk, t, L, E, ce, e1, e2, hq, hce, hcv, hcl, h1, hL, h2, h3⟩, st⟩
  · dsimp only [Pt.U, Pt.locs, Pt.cells, Pt.slots] at X' e1 e2 h1 h2 h3 st
    subst h1; subst h2; subst h3
    exact Or.inl ⟨v, (T.setVm vm₁).calling g' mk (Value.ref b :: As).toArray, t, U', L, hT, X', hL, e1, e2, hq, st⟩
  · dsimp only [Pt.U, Pt.locs, Pt.cells, Pt.slots] at X' e1 e2 h1 h2 h3 st hcl
    subst h1; subst h2; subst h3
    exact Or.inr ⟨q, (T.setVm vm₁).calling g' mk (Value.ref b :: As).toArray, t, U', L, E, ce, hT, X', hL, e1, e2, hq, hce, hcv, vx_cls hW₁ hcl, st⟩
theorem vx_runSX {hh : List (Nat × Nat × Nat × Nat)} (S : CallFix p m c cc nL s args Ts own) (hM : vx_Met l y ws rm Pc Qc XC mc ms free) (cw : vx_CSW R s args own index y bytes maxL ret hh ws rm mc ms n) (hp : PreS s H Pc As)
    (hg : g.method = m) (hn : As.length = n) (hsize : g.locals.size = nL) (hstack : g.stack = As.reverse ++ rest) (hW : 2 * g.monitorRoom + (rest.map fun v => v.category).sum ≤ 8) (hdg : decode cc g.pc = .ok (.invokestatic index, 3)) (hf : cells + mc ≤ R.cells ∧ slots + ms ≤ R.slots) :
    vx_Run p l e R s m args below meth c H locs cells slots mc ms g rest (Qc As.toArray) XC free := by
  obtain ⟨⟨hrc, hrs, hfr, hlo, hws, hcw⟩, hcode, hini, hy, hlen, hl, hstt⟩ := cw
  have hK : vx_Back l R p e below s args y 3 8 (PreOf R mc ms Pc) (PostOf Qc mc ms free) (vx_Post XC mc ms free) := vx_backW (hh := hh) (bytes := bytes) (maxL := maxL) (ret := ret) hM hp.1 hrc hrs hfr hlo hws hcw (fun a' U hW => word_at hW (Or.inl (by first | rfl | simp [Cond.onTables, Cond.keeps, Cond.steady])) hini)
  obtain ⟨hx, hb, hml, ho, -⟩ := S
  intro T hT X
  rcases vx_callSX X hx (hh := hh) (bytes := bytes) (maxL := maxL) (ret := ret) ho hl hstt hini hcode hy hK hg (hsize.trans hml.symm) (argsL := As) (rest := rest) (fun sig h => hn.trans (hlen sig h)) hstack hW (by rw [hb]; exact hdg)
    (fun vm₁ hW₁ => ⟨hf.1, hf.2, hp.2 (T.setVm vm₁) hT hW₁⟩) with ⟨v, vm₁, ⟨U', l2, c2, s2⟩, hW₁, X', ⟨g', mk, t, L, e1, e2, hq, h1, hL, h2, h3⟩, st⟩ | ⟨q, vm₁, ⟨U', l2, c2, s2⟩, hW₁, X', ⟨g', mk, t, L, E, ce, e1, e2, hq, hce, hcv, hcl, h1, hL, h2, h3⟩, st⟩
  · dsimp only [Pt.U, Pt.locs, Pt.cells, Pt.slots] at X' e1 e2 h1 h2 h3 st
    subst h1; subst h2; subst h3
    exact Or.inl ⟨v, (T.setVm vm₁).calling g' mk As.toArray, t, U', L, hT, X', hL, e1, e2, hq, st⟩
  · dsimp only [Pt.U, Pt.locs, Pt.cells, Pt.slots] at X' e1 e2 h1 h2 h3 st hcl
    subst h1; subst h2; subst h3
    exact Or.inr ⟨q, (T.setVm vm₁).calling g' mk As.toArray, t, U', L, E, ce, hT, X', hL, e1, e2, hq, hce, hcv, vx_cls hW₁ hcl, st⟩
end
end VXH
theorem vx_ofWH {l : Launch} {y : MethodName} {ws ws' : List Cond} {rm : Room} {Pc : Array Value → State → Prop} {Qc : Array Value → State → Outcome → State → Prop} {XC : String → State → State → Prop} {mc ms : Nat} {free : Addr → Prop} {cc : ByteArray} {maxL : Nat} {ret : Option FieldType} {hh : List (Nat × Nat × Nat × Nat)}
    (hy : plainName y.cls = true) (hw : ws = Cond.codeWith y cc maxL ret hh :: ws')
    (body : ∀ p e s m args below meth c s₁, BodyLoose p l y (headSpec ws rm) cc maxL ret e s m args below meth c s₁ → c.maxLocals = maxL → Pc args s →
      W p l e (headSpec ws rm).room s m args below meth c s.heap [] 0 0 (vx_MQ below Qc XC args s mc ms free) (entryFrame m args maxL)) : vx_Met l y ws rm Pc Qc XC mc ms free := by
  refine MetFree.of_bodyS (code := cc) (maxLocals := maxL) (ret := ret) hy ?_ ?_
  · intro args s m h hn
    obtain ⟨m9, meth, c, hn9, h1, h2, h3, h4, -, h5, h6, -⟩ := Cond.codeWith_spec (atoms_spec (ws := ws) h _ (by rw [hw]; exact List.mem_cons_self))
    cases hn.symm.trans hn9
    exact ⟨meth, c, h1, h2, h3, h4, h5, h6⟩
  · intro p e s m args below meth c s₁ B hml hP _
    have hh0 : s₁.heap = s.heap := by rw [B.state]; rfl
    obtain ⟨t, a1, o, b1, b2, b3⟩ := body p e s m args below meth c s₁ B hml hP s₁ hh0 (Stand.of_body B)
    exact ⟨t, o, a1, b1, b2, b3⟩
/-! ===== END ===== -/
end
section
/-! ===== BEGIN printed: names, fields, word lists, decode rows ===== -/
def RX0 : String := "WrestleBook$Roster"
def TX0 : u_T := fun k => match k with
  | 0 => ("WrestleBook$Roster", "leagues", "[I", true)
  | 1 => ("WrestleBook$Roster", "ratings", "[I", true)
  | 2 => ("WrestleBook$Roster", "points", "[I", true)
  | 3 => ("WrestleBook$Roster", "bouts", "[I", true)
  | 4 => ("WrestleBook$Roster", "seasonBouts", "[I", true)
  | 5 => ("WrestleBook$Roster", "winRows", "[I", true)
  | 6 => ("WrestleBook$Roster", "bests", "[I", true)
  | _ => ("WrestleBook$Roster", "size", "I", false)
def tyX0 : Nat → FieldType := fun k => match k with
  | 0 => .array .int
  | 1 => .array .int
  | 2 => .array .int
  | 3 => .array .int
  | 4 => .array .int
  | 5 => .array .int
  | 6 => .array .int
  | _ => .int
abbrev wsX00 : List Cond := u_ws RX0 TX0 8
theorem nmX0 : ∀ a, a < 8 → ∀ b, b < 8 → a ≠ b → (TX0 a).2.1 ≠ (TX0 b).2.1 := by decide +kernel
theorem tyX0_ok : ∀ k, k < 8 → parseFieldDescriptor (TX0 k).2.2.1 = some (tyX0 k) := by decide +kernel
abbrev cX0_init : ByteArray := prog_2_method_1_code
def yX0_init : MethodName := ⟨RX0, "<init>", "()V"⟩
abbrev cX0_size : ByteArray := prog_2_method_2_code
def yX0_size : MethodName := ⟨RX0, "size", "()I"⟩
abbrev cX0_isFull : ByteArray := prog_2_method_3_code
def yX0_isFull : MethodName := ⟨RX0, "isFull", "()Z"⟩
abbrev cX0_has : ByteArray := prog_2_method_4_code
def yX0_has : MethodName := ⟨RX0, "has", "(I)Z"⟩
abbrev cX0_rating : ByteArray := prog_2_method_5_code
def yX0_rating : MethodName := ⟨RX0, "rating", "(I)I"⟩
abbrev cX0_league : ByteArray := prog_2_method_6_code
def yX0_league : MethodName := ⟨RX0, "league", "(I)I"⟩
abbrev cX0_points : ByteArray := prog_2_method_7_code
def yX0_points : MethodName := ⟨RX0, "points", "(I)I"⟩
abbrev cX0_bouts : ByteArray := prog_2_method_8_code
def yX0_bouts : MethodName := ⟨RX0, "bouts", "(I)I"⟩
abbrev cX0_seasonBouts : ByteArray := prog_2_method_9_code
def yX0_seasonBouts : MethodName := ⟨RX0, "seasonBouts", "(I)I"⟩
abbrev cX0_winRow : ByteArray := prog_2_method_10_code
def yX0_winRow : MethodName := ⟨RX0, "winRow", "(I)I"⟩
abbrev cX0_best : ByteArray := prog_2_method_11_code
def yX0_best : MethodName := ⟨RX0, "best", "(I)I"⟩
abbrev cX0_add : ByteArray := prog_2_method_12_code
def yX0_add : MethodName := ⟨RX0, "add", "(I)I"⟩
abbrev cX0_setRating : ByteArray := prog_2_method_13_code
def yX0_setRating : MethodName := ⟨RX0, "setRating", "(II)V"⟩
abbrev cX0_copyFrom : ByteArray := prog_2_method_14_code
def yX0_copyFrom : MethodName := ⟨RX0, "copyFrom", "(LWrestleBook$Roster;)V"⟩
abbrev cX0_expectation : ByteArray := prog_2_method_15_code
def yX0_expectation : MethodName := ⟨RX0, "expectation", "(II)I"⟩
abbrev cX0_expectedOfHigher : ByteArray := prog_2_method_16_code
def yX0_expectedOfHigher : MethodName := ⟨RX0, "expectedOfHigher", "(I)I"⟩
abbrev cX0_weight : ByteArray := prog_2_method_17_code
def yX0_weight : MethodName := ⟨RX0, "weight", "(I)I"⟩
abbrev cX0_gain : ByteArray := prog_2_method_18_code
def yX0_gain : MethodName := ⟨RX0, "gain", "(III)I"⟩
abbrev cX0_isUpset : ByteArray := prog_2_method_19_code
def yX0_isUpset : MethodName := ⟨RX0, "isUpset", "(III)Z"⟩
abbrev cX0_hold : ByteArray := prog_2_method_20_code
def yX0_hold : MethodName := ⟨RX0, "hold", "(III)I"⟩
abbrev cX0_holdAsRated : ByteArray := prog_2_method_21_code
def yX0_holdAsRated : MethodName := ⟨RX0, "holdAsRated", "(II)V"⟩
abbrev cX0_enter : ByteArray := prog_2_method_22_code
def yX0_enter : MethodName := ⟨RX0, "enter", "(III)V"⟩
abbrev cX0_drift : ByteArray := prog_2_method_23_code
def yX0_drift : MethodName := ⟨RX0, "drift", "()V"⟩
abbrev cX0_exchange : ByteArray := prog_2_method_24_code
def yX0_exchange : MethodName := ⟨RX0, "exchange", "(I)Z"⟩
abbrev cX0_clearSeason : ByteArray := prog_2_method_25_code
def yX0_clearSeason : MethodName := ⟨RX0, "clearSeason", "()V"⟩
abbrev cX0_sizeOf : ByteArray := prog_2_method_26_code
def yX0_sizeOf : MethodName := ⟨RX0, "sizeOf", "(I)I"⟩
abbrev cX0_place : ByteArray := prog_2_method_27_code
def yX0_place : MethodName := ⟨RX0, "place", "(I)I"⟩
abbrev cX0_isAhead : ByteArray := prog_2_method_28_code
def yX0_isAhead : MethodName := ⟨RX0, "isAhead", "(II)Z"⟩
abbrev cX0_standingAt : ByteArray := prog_2_method_29_code
def yX0_standingAt : MethodName := ⟨RX0, "standingAt", "(II)I"⟩
abbrev cX0_highest : ByteArray := prog_2_method_30_code
def yX0_highest : MethodName := ⟨RX0, "highest", "()I"⟩
abbrev cX0_lowest : ByteArray := prog_2_method_31_code
def yX0_lowest : MethodName := ⟨RX0, "lowest", "()I"⟩
abbrev cX0_sumOfRatings : ByteArray := prog_2_method_32_code
def yX0_sumOfRatings : MethodName := ⟨RX0, "sumOfRatings", "()I"⟩
abbrev cX0_unevenness : ByteArray := prog_2_method_33_code
def yX0_unevenness : MethodName := ⟨RX0, "unevenness", "(II)I"⟩
abbrev cX0_evenest : ByteArray := prog_2_method_34_code
def yX0_evenest : MethodName := ⟨RX0, "evenest", "(I)I"⟩
abbrev cX0_bestPair : ByteArray := prog_2_method_35_code
def yX0_bestPair : MethodName := ⟨RX0, "bestPair", "()I"⟩
def RX1 : String := "WrestleBook"
def TX1 : u_T := fun k => match k with
  | 0 => ("WrestleBook", "roster", "LWrestleBook$Roster;", true)
  | 1 => ("WrestleBook", "trial", "LWrestleBook$Roster;", true)
  | 2 => ("WrestleBook", "chances", "[I", true)
  | 3 => ("WrestleBook", "season", "I", false)
  | 4 => ("WrestleBook", "boutsHeld", "I", false)
  | _ => ("WrestleBook", "upsets", "I", false)
def tyX1 : Nat → FieldType := fun k => match k with
  | 0 => .object "WrestleBook$Roster"
  | 1 => .object "WrestleBook$Roster"
  | 2 => .array .int
  | 3 => .int
  | 4 => .int
  | _ => .int
abbrev wsX10 : List Cond := u_ws RX1 TX1 6
theorem nmX1 : ∀ a, a < 6 → ∀ b, b < 6 → a ≠ b → (TX1 a).2.1 ≠ (TX1 b).2.1 := by decide +kernel
theorem tyX1_ok : ∀ k, k < 6 → parseFieldDescriptor (TX1 k).2.2.1 = some (tyX1 k) := by decide +kernel
abbrev cX1_init : ByteArray := prog_1_method_1_code
def yX1_init : MethodName := ⟨RX1, "<init>", "()V"⟩
abbrev cX1_join : ByteArray := prog_1_method_2_code
def yX1_join : MethodName := ⟨RX1, "join", "(I)I"⟩
abbrev cX1_rate : ByteArray := prog_1_method_3_code
def yX1_rate : MethodName := ⟨RX1, "rate", "(II)I"⟩
abbrev cX1_bout : ByteArray := prog_1_method_4_code
def yX1_bout : MethodName := ⟨RX1, "bout", "(III)I"⟩
abbrev cX1_end : ByteArray := prog_1_method_5_code
def yX1_end : MethodName := ⟨RX1, "end", "()I"⟩
abbrev cX1_expected : ByteArray := prog_1_method_6_code
def yX1_expected : MethodName := ⟨RX1, "expected", "(II)I"⟩
abbrev cX1_told : ByteArray := prog_1_method_7_code
def yX1_told : MethodName := ⟨RX1, "told", "(II)I"⟩
abbrev cX1_at : ByteArray := prog_1_method_8_code
def yX1_at : MethodName := ⟨RX1, "at", "(II)I"⟩
abbrev cX1_count : ByteArray := prog_1_method_9_code
def yX1_count : MethodName := ⟨RX1, "count", "(I)I"⟩
abbrev cX1_would : ByteArray := prog_1_method_10_code
def yX1_would : MethodName := ⟨RX1, "would", "(IIII)I"⟩
abbrev cX1_match : ByteArray := prog_1_method_12_code
def yX1_match : MethodName := ⟨RX1, "match", "(I)I"⟩
abbrev cX1_next : ByteArray := prog_1_method_13_code
def yX1_next : MethodName := ⟨RX1, "next", "()I"⟩
abbrev cX1_foresee : ByteArray := prog_1_method_14_code
def yX1_foresee : MethodName := ⟨RX1, "foresee", "(I)I"⟩
abbrev cX1_mean : ByteArray := prog_1_method_15_code
def yX1_mean : MethodName := ⟨RX1, "mean", "()D"⟩
abbrev cX1_digest : ByteArray := prog_1_method_16_code
def yX1_digest : MethodName := ⟨RX1, "digest", "()J"⟩
abbrev cX1_checkWrestler : ByteArray := prog_1_method_17_code
def yX1_checkWrestler : MethodName := ⟨RX1, "checkWrestler", "(I)V"⟩
abbrev cX1_checkDifferent : ByteArray := prog_1_method_18_code
def yX1_checkDifferent : MethodName := ⟨RX1, "checkDifferent", "(II)V"⟩
abbrev cX1_checkResult : ByteArray := prog_1_method_19_code
def yX1_checkResult : MethodName := ⟨RX1, "checkResult", "(I)V"⟩
abbrev cX1_isLeague : ByteArray := prog_1_method_20_code
def yX1_isLeague : MethodName := ⟨RX1, "isLeague", "(I)Z"⟩
def RX2 : String := "WrestleBookLaw$Sim"
def TX2 : u_T := fun k => match k with
  | 0 => ("WrestleBookLaw$Sim", "season", "I", false)
  | 1 => ("WrestleBookLaw$Sim", "bouts", "I", false)
  | 2 => ("WrestleBookLaw$Sim", "upsets", "I", false)
  | _ => ("WrestleBookLaw$Sim", "all", "[[I", false)
def tyX2 : Nat → FieldType := fun k => match k with
  | 0 => .int
  | 1 => .int
  | 2 => .int
  | _ => .array (.array .int)
abbrev wsX20 : List Cond := u_ws RX2 TX2 4
theorem nmX2 : ∀ a, a < 4 → ∀ b, b < 4 → a ≠ b → (TX2 a).2.1 ≠ (TX2 b).2.1 := by decide +kernel
theorem tyX2_ok : ∀ k, k < 4 → parseFieldDescriptor (TX2 k).2.2.1 = some (tyX2 k) := by decide +kernel
abbrev cX2_init : ByteArray := prog_4_method_1_code
def yX2_init : MethodName := ⟨RX2, "<init>", "()V"⟩
abbrev cX2_expected : ByteArray := prog_4_method_2_code
def yX2_expected : MethodName := ⟨RX2, "expected", "(II)I"⟩
abbrev cX2_weight : ByteArray := prog_4_method_3_code
def yX2_weight : MethodName := ⟨RX2, "weight", "(I)I"⟩
abbrev cX2_change : ByteArray := prog_4_method_4_code
def yX2_change : MethodName := ⟨RX2, "change", "(III)I"⟩
abbrev cX2_raise : ByteArray := prog_4_method_5_code
def yX2_raise : MethodName := ⟨RX2, "raise", "(II)V"⟩
abbrev cX2_note : ByteArray := prog_4_method_6_code
def yX2_note : MethodName := ⟨RX2, "note", "(II)V"⟩
abbrev cX2_bout : ByteArray := prog_4_method_7_code
def yX2_bout : MethodName := ⟨RX2, "bout", "(III)I"⟩
abbrev cX2_order : ByteArray := prog_4_method_8_code
def yX2_order : MethodName := ⟨RX2, "order", "(I)[I"⟩
abbrev cX2_end : ByteArray := prog_4_method_9_code
def yX2_end : MethodName := ⟨RX2, "end", "()I"⟩
abbrev cX2_off : ByteArray := prog_4_method_10_code
def yX2_off : MethodName := ⟨RX2, "off", "(II)I"⟩
abbrev cX2_match : ByteArray := prog_4_method_11_code
def yX2_match : MethodName := ⟨RX2, "match", "(I)I"⟩
abbrev cX2_next : ByteArray := prog_4_method_12_code
def yX2_next : MethodName := ⟨RX2, "next", "()I"⟩
abbrev cX2_highest : ByteArray := prog_4_method_15_code
def yX2_highest : MethodName := ⟨RX2, "highest", "()I"⟩
abbrev cX2_isSame : ByteArray := prog_4_method_16_code
def yX2_isSame : MethodName := ⟨RX2, "isSame", "(LWrestleBook;)Z"⟩
def RX3 : String := "WrestleBookModel$State"
def TX3 : u_T := fun k => match k with
  | _ => ("", "", "", false)
def tyX3 : Nat → FieldType := fun k => match k with
  | _ => .int
abbrev wsX30 : List Cond := u_ws RX3 TX3 0
theorem nmX3 : ∀ a, a < 0 → ∀ b, b < 0 → a ≠ b → (TX3 a).2.1 ≠ (TX3 b).2.1 := by decide +kernel
theorem tyX3_ok : ∀ k, k < 0 → parseFieldDescriptor (TX3 k).2.2.1 = some (tyX3 k) := by decide +kernel
def RX4 : String := "WrestleBookModel"
def TX4 : u_T := fun k => match k with
  | _ => ("", "", "", false)
def tyX4 : Nat → FieldType := fun k => match k with
  | _ => .int
abbrev wsX40 : List Cond := u_ws RX4 TX4 0
theorem nmX4 : ∀ a, a < 0 → ∀ b, b < 0 → a ≠ b → (TX4 a).2.1 ≠ (TX4 b).2.1 := by decide +kernel
theorem tyX4_ok : ∀ k, k < 0 → parseFieldDescriptor (TX4 k).2.2.1 = some (tyX4 k) := by decide +kernel
def RJxe99ae : String := "java/lang/Double"
def TJxe99ae : u_T := fun k => match k with
  | _ => ("", "", "", false)
def tyJxe99ae : Nat → FieldType := fun k => match k with
  | _ => .int
abbrev wsJxe99ae0 : List Cond := u_ws RJxe99ae TJxe99ae 0
theorem nmJxe99ae : ∀ a, a < 0 → ∀ b, b < 0 → a ≠ b → (TJxe99ae a).2.1 ≠ (TJxe99ae b).2.1 := by decide +kernel
theorem tyJxe99ae_ok : ∀ k, k < 0 → parseFieldDescriptor (TJxe99ae k).2.2.1 = some (tyJxe99ae k) := by decide +kernel
def RJ9 : String := "java/lang/Math"
def TJ9 : u_T := fun k => match k with
  | _ => ("", "", "", false)
def tyJ9 : Nat → FieldType := fun k => match k with
  | _ => .int
abbrev wsJ90 : List Cond := u_ws RJ9 TJ9 0
theorem nmJ9 : ∀ a, a < 0 → ∀ b, b < 0 → a ≠ b → (TJ9 a).2.1 ≠ (TJ9 b).2.1 := by decide +kernel
theorem tyJ9_ok : ∀ k, k < 0 → parseFieldDescriptor (TJ9 k).2.2.1 = some (tyJ9 k) := by decide +kernel
abbrev cJ9_abs_0f7a4 : ByteArray := prog_12_method_59_code
def yJ9_abs_0f7a4 : MethodName := ⟨RJ9, "abs", "(I)I"⟩
abbrev cJ9_abs_294c1 : ByteArray := prog_12_method_64_code
def yJ9_abs_294c1 : MethodName := ⟨RJ9, "abs", "(D)D"⟩
abbrev cJ9_max_7cf53 : ByteArray := prog_12_method_65_code
def yJ9_max_7cf53 : MethodName := ⟨RJ9, "max", "(II)I"⟩
abbrev cJ9_min_7cf53 : ByteArray := prog_12_method_69_code
def yJ9_min_7cf53 : MethodName := ⟨RJ9, "min", "(II)I"⟩
def RJ0 : String := "java/lang/String"
def TJ0 : u_T := fun k => match k with
  | _ => ("", "", "", false)
def tyJ0 : Nat → FieldType := fun k => match k with
  | _ => .int
abbrev wsJ00 : List Cond := u_ws RJ0 TJ0 0
theorem nmJ0 : ∀ a, a < 0 → ∀ b, b < 0 → a ≠ b → (TJ0 a).2.1 ≠ (TJ0 b).2.1 := by decide +kernel
theorem tyJ0_ok : ∀ k, k < 0 → parseFieldDescriptor (TJ0 k).2.2.1 = some (tyJ0 k) := by decide +kernel
def RL : String := "WrestleBookLaw"
abbrev cL_below : ByteArray := method_2_code
def yL_below : MethodName := ⟨RL, "below", "(II)I"⟩
abbrev cL_cell : ByteArray := method_3_code
def yL_cell : MethodName := ⟨RL, "cell", "([II)I"⟩
abbrev cL_act : ByteArray := method_4_code
def yL_act : MethodName := ⟨RL, "act", "(LWrestleBook;LWrestleBookLaw$Sim;I)Z"⟩
abbrev cL_build : ByteArray := method_5_code
def yL_build : MethodName := ⟨RL, "build", "(LWrestleBook;[I)LWrestleBookLaw$Sim;"⟩
abbrev cL_law : ByteArray := code
def yL_law : MethodName := ⟨RL, "law", "([I)Z"⟩
def wsX0_init : List Cond := .code yX0_init cX0_init 1 none :: ([.methodLink RX0 3 objectInit, .instanceMethod objectInit, .code objectInit ⟨#[0xb1]⟩ 1 none, .arrayClass .int, .fieldLink RX0 9 "WrestleBook$Roster" "leagues" "[I", .fieldLink RX0 15 "WrestleBook$Roster" "ratings" "[I", .fieldLink RX0 18 "WrestleBook$Roster" "points" "[I", .fieldLink RX0 21 "WrestleBook$Roster" "bouts" "[I", .fieldLink RX0 24 "WrestleBook$Roster" "seasonBouts" "[I", .fieldLink RX0 27 "WrestleBook$Roster" "winRows" "[I", .fieldLink RX0 30 "WrestleBook$Roster" "bests" "[I"] ++ wsX00)
def wsX0_size : List Cond := .code yX0_size cX0_size 1 (some .int) :: ([.fieldLink RX0 33 "WrestleBook$Roster" "size" "I"] ++ wsX00)
def wsX0_isFull : List Cond := .code yX0_isFull cX0_isFull 1 (some .boolean) :: ([.fieldLink RX0 33 "WrestleBook$Roster" "size" "I"] ++ wsX00)
def wsX0_has : List Cond := .code yX0_has cX0_has 2 (some .boolean) :: ([.fieldLink RX0 33 "WrestleBook$Roster" "size" "I"] ++ wsX00)
def wsX0_rating : List Cond := .code yX0_rating cX0_rating 2 (some .int) :: ([.fieldLink RX0 15 "WrestleBook$Roster" "ratings" "[I"] ++ wsX00)
def wsX0_league : List Cond := .code yX0_league cX0_league 2 (some .int) :: ([.fieldLink RX0 9 "WrestleBook$Roster" "leagues" "[I"] ++ wsX00)
def wsX0_points : List Cond := .code yX0_points cX0_points 2 (some .int) :: ([.fieldLink RX0 18 "WrestleBook$Roster" "points" "[I"] ++ wsX00)
def wsX0_bouts : List Cond := .code yX0_bouts cX0_bouts 2 (some .int) :: ([.fieldLink RX0 21 "WrestleBook$Roster" "bouts" "[I"] ++ wsX00)
def wsX0_seasonBouts : List Cond := .code yX0_seasonBouts cX0_seasonBouts 2 (some .int) :: ([.fieldLink RX0 24 "WrestleBook$Roster" "seasonBouts" "[I"] ++ wsX00)
def wsX0_winRow : List Cond := .code yX0_winRow cX0_winRow 2 (some .int) :: ([.fieldLink RX0 27 "WrestleBook$Roster" "winRows" "[I"] ++ wsX00)
def wsX0_best : List Cond := .code yX0_best cX0_best 2 (some .int) :: ([.fieldLink RX0 30 "WrestleBook$Roster" "bests" "[I"] ++ wsX00)
def wsX0_add : List Cond := .code yX0_add cX0_add 3 (some .int) :: ([.fieldLink RX0 33 "WrestleBook$Roster" "size" "I", .fieldLink RX0 9 "WrestleBook$Roster" "leagues" "[I", .fieldLink RX0 15 "WrestleBook$Roster" "ratings" "[I", .fieldLink RX0 30 "WrestleBook$Roster" "bests" "[I"] ++ wsX00)
def wsX0_setRating : List Cond := .code yX0_setRating cX0_setRating 3 none :: ([.fieldLink RX0 15 "WrestleBook$Roster" "ratings" "[I", .fieldLink RX0 30 "WrestleBook$Roster" "bests" "[I", .methodLink RX0 37 Lib.Math.max.name, .static Lib.Math.max.name, .initialized "java/lang/Math", .code Lib.Math.max.name Lib.Math.max.code 2 (some .int)] ++ wsX00)
def wsX0_copyFrom : List Cond := .code yX0_copyFrom cX0_copyFrom 3 none :: ([.fieldLink RX0 33 "WrestleBook$Roster" "size" "I", .fieldLink RX0 9 "WrestleBook$Roster" "leagues" "[I", .fieldLink RX0 15 "WrestleBook$Roster" "ratings" "[I", .fieldLink RX0 18 "WrestleBook$Roster" "points" "[I", .fieldLink RX0 21 "WrestleBook$Roster" "bouts" "[I", .fieldLink RX0 24 "WrestleBook$Roster" "seasonBouts" "[I", .fieldLink RX0 27 "WrestleBook$Roster" "winRows" "[I", .fieldLink RX0 30 "WrestleBook$Roster" "bests" "[I"] ++ wsX00)
def wsX0_expectedOfHigher : List Cond := .code yX0_expectedOfHigher cX0_expectedOfHigher 4 (some .int) :: ([.methodLink RX0 47 Lib.Math.min.name, .static Lib.Math.min.name, .initialized "java/lang/Math", .code Lib.Math.min.name Lib.Math.min.code 2 (some .int), .fieldLink RX0 50 "WrestleBook$Roster" "EXPECTED" "[I"])
def wsX0_expectation : List Cond := .code yX0_expectation cX0_expectation 3 (some .int) :: ([.fieldLink RX0 15 "WrestleBook$Roster" "ratings" "[I", .methodLink RX0 43 yX0_expectedOfHigher, .static yX0_expectedOfHigher, .initialized RX0, .code yX0_expectedOfHigher cX0_expectedOfHigher 4 (some .int), .methodLink RX0 47 Lib.Math.min.name, .static Lib.Math.min.name, .initialized "java/lang/Math", .code Lib.Math.min.name Lib.Math.min.code 2 (some .int), .fieldLink RX0 50 "WrestleBook$Roster" "EXPECTED" "[I"] ++ wsX00)
def wsX0_weight : List Cond := .code yX0_weight cX0_weight 2 (some .int) :: ([.fieldLink RX0 21 "WrestleBook$Roster" "bouts" "[I", .fieldLink RX0 15 "WrestleBook$Roster" "ratings" "[I"] ++ wsX00)
def wsX0_gain : List Cond := .code yX0_gain cX0_gain 7 (some .int) :: ([.fieldLink RX0 15 "WrestleBook$Roster" "ratings" "[I", .methodLink RX0 47 Lib.Math.min.name, .static Lib.Math.min.name, .initialized "java/lang/Math", .code Lib.Math.min.name Lib.Math.min.code 2 (some .int), .methodLink RX0 37 Lib.Math.max.name, .static Lib.Math.max.name, .code Lib.Math.max.name Lib.Math.max.code 2 (some .int), .methodLink RX0 53 yX0_weight, .instanceMethod yX0_weight, .selects RX0 yX0_weight yX0_weight, .initialized RX0, .code yX0_weight cX0_weight 2 (some .int), .fieldLink RX0 21 "WrestleBook$Roster" "bouts" "[I", .methodLink RX0 56 yX0_expectation, .instanceMethod yX0_expectation, .selects RX0 yX0_expectation yX0_expectation, .code yX0_expectation cX0_expectation 3 (some .int), .methodLink RX0 43 yX0_expectedOfHigher, .static yX0_expectedOfHigher, .code yX0_expectedOfHigher cX0_expectedOfHigher 4 (some .int), .fieldLink RX0 50 "WrestleBook$Roster" "EXPECTED" "[I"] ++ wsX00)
def wsX0_isUpset : List Cond := .code yX0_isUpset cX0_isUpset 4 (some .boolean) :: ([.methodLink RX0 56 yX0_expectation, .instanceMethod yX0_expectation, .selects RX0 yX0_expectation yX0_expectation, .initialized RX0, .code yX0_expectation cX0_expectation 3 (some .int), .fieldLink RX0 15 "WrestleBook$Roster" "ratings" "[I", .methodLink RX0 43 yX0_expectedOfHigher, .static yX0_expectedOfHigher, .code yX0_expectedOfHigher cX0_expectedOfHigher 4 (some .int), .methodLink RX0 47 Lib.Math.min.name, .static Lib.Math.min.name, .initialized "java/lang/Math", .code Lib.Math.min.name Lib.Math.min.code 2 (some .int), .fieldLink RX0 50 "WrestleBook$Roster" "EXPECTED" "[I"] ++ wsX00)
def wsX0_enter : List Cond := .code yX0_enter cX0_enter 4 none :: ([.fieldLink RX0 15 "WrestleBook$Roster" "ratings" "[I", .fieldLink RX0 18 "WrestleBook$Roster" "points" "[I", .fieldLink RX0 21 "WrestleBook$Roster" "bouts" "[I", .fieldLink RX0 24 "WrestleBook$Roster" "seasonBouts" "[I", .fieldLink RX0 27 "WrestleBook$Roster" "winRows" "[I", .methodLink RX0 70 yX0_setRating, .instanceMethod yX0_setRating, .selects RX0 yX0_setRating yX0_setRating, .initialized RX0, .code yX0_setRating cX0_setRating 3 none, .fieldLink RX0 30 "WrestleBook$Roster" "bests" "[I", .methodLink RX0 37 Lib.Math.max.name, .static Lib.Math.max.name, .initialized "java/lang/Math", .code Lib.Math.max.name Lib.Math.max.code 2 (some .int)] ++ wsX00)
def wsX0_hold_r1 : List Cond := [Cond.methodLink RX0 59 yX0_gain, Cond.instanceMethod yX0_gain, Cond.selects RX0 yX0_gain yX0_gain, Cond.initialized RX0, Cond.code yX0_gain cX0_gain 7 (some .int), Cond.fieldLink RX0 15 "WrestleBook$Roster" "ratings" "[I", Cond.methodLink RX0 47 Lib.Math.min.name, Cond.static Lib.Math.min.name, Cond.initialized "java/lang/Math", Cond.code Lib.Math.min.name Lib.Math.min.code 2 (some .int), Cond.methodLink RX0 37 Lib.Math.max.name, Cond.static Lib.Math.max.name, Cond.code Lib.Math.max.name Lib.Math.max.code 2 (some .int), Cond.methodLink RX0 53 yX0_weight, Cond.instanceMethod yX0_weight, Cond.selects RX0 yX0_weight yX0_weight, Cond.code yX0_weight cX0_weight 2 (some .int), Cond.fieldLink RX0 21 "WrestleBook$Roster" "bouts" "[I", Cond.methodLink RX0 56 yX0_expectation, Cond.instanceMethod yX0_expectation, Cond.selects RX0 yX0_expectation yX0_expectation, Cond.code yX0_expectation cX0_expectation 3 (some .int), Cond.methodLink RX0 43 yX0_expectedOfHigher, Cond.static yX0_expectedOfHigher]
def wsX0_hold_r2 : List Cond := [Cond.code yX0_expectedOfHigher cX0_expectedOfHigher 4 (some .int), Cond.fieldLink RX0 50 "WrestleBook$Roster" "EXPECTED" "[I", Cond.methodLink RX0 63 yX0_enter, Cond.instanceMethod yX0_enter, Cond.selects RX0 yX0_enter yX0_enter, Cond.code yX0_enter cX0_enter 4 none, Cond.fieldLink RX0 18 "WrestleBook$Roster" "points" "[I", Cond.fieldLink RX0 24 "WrestleBook$Roster" "seasonBouts" "[I", Cond.fieldLink RX0 27 "WrestleBook$Roster" "winRows" "[I", Cond.methodLink RX0 70 yX0_setRating, Cond.instanceMethod yX0_setRating, Cond.selects RX0 yX0_setRating yX0_setRating, Cond.code yX0_setRating cX0_setRating 3 none, Cond.fieldLink RX0 30 "WrestleBook$Roster" "bests" "[I"]
def wsX0_hold : List Cond := .code yX0_hold cX0_hold 6 (some .int) :: ((wsX0_hold_r1 ++ wsX0_hold_r2) ++ wsX00)
def wsX0_holdAsRated_r1 : List Cond := [Cond.fieldLink RX0 15 "WrestleBook$Roster" "ratings" "[I", Cond.methodLink RX0 67 yX0_hold, Cond.instanceMethod yX0_hold, Cond.selects RX0 yX0_hold yX0_hold, Cond.initialized RX0, Cond.code yX0_hold cX0_hold 6 (some .int), Cond.methodLink RX0 59 yX0_gain, Cond.instanceMethod yX0_gain, Cond.selects RX0 yX0_gain yX0_gain, Cond.code yX0_gain cX0_gain 7 (some .int), Cond.methodLink RX0 47 Lib.Math.min.name, Cond.static Lib.Math.min.name, Cond.initialized "java/lang/Math", Cond.code Lib.Math.min.name Lib.Math.min.code 2 (some .int), Cond.methodLink RX0 37 Lib.Math.max.name, Cond.static Lib.Math.max.name, Cond.code Lib.Math.max.name Lib.Math.max.code 2 (some .int), Cond.methodLink RX0 53 yX0_weight, Cond.instanceMethod yX0_weight, Cond.selects RX0 yX0_weight yX0_weight, Cond.code yX0_weight cX0_weight 2 (some .int), Cond.fieldLink RX0 21 "WrestleBook$Roster" "bouts" "[I", Cond.methodLink RX0 56 yX0_expectation, Cond.instanceMethod yX0_expectation]
def wsX0_holdAsRated_r2 : List Cond := [Cond.selects RX0 yX0_expectation yX0_expectation, Cond.code yX0_expectation cX0_expectation 3 (some .int), Cond.methodLink RX0 43 yX0_expectedOfHigher, Cond.static yX0_expectedOfHigher, Cond.code yX0_expectedOfHigher cX0_expectedOfHigher 4 (some .int), Cond.fieldLink RX0 50 "WrestleBook$Roster" "EXPECTED" "[I", Cond.methodLink RX0 63 yX0_enter, Cond.instanceMethod yX0_enter, Cond.selects RX0 yX0_enter yX0_enter, Cond.code yX0_enter cX0_enter 4 none, Cond.fieldLink RX0 18 "WrestleBook$Roster" "points" "[I", Cond.fieldLink RX0 24 "WrestleBook$Roster" "seasonBouts" "[I", Cond.fieldLink RX0 27 "WrestleBook$Roster" "winRows" "[I", Cond.methodLink RX0 70 yX0_setRating, Cond.instanceMethod yX0_setRating, Cond.selects RX0 yX0_setRating yX0_setRating, Cond.code yX0_setRating cX0_setRating 3 none, Cond.fieldLink RX0 30 "WrestleBook$Roster" "bests" "[I"]
def wsX0_holdAsRated : List Cond := .code yX0_holdAsRated cX0_holdAsRated 3 none :: ((wsX0_holdAsRated_r1 ++ wsX0_holdAsRated_r2) ++ wsX00)
def wsX0_drift : List Cond := .code yX0_drift cX0_drift 2 none :: ([.fieldLink RX0 33 "WrestleBook$Roster" "size" "I", .fieldLink RX0 24 "WrestleBook$Roster" "seasonBouts" "[I", .fieldLink RX0 15 "WrestleBook$Roster" "ratings" "[I", .methodLink RX0 70 yX0_setRating, .instanceMethod yX0_setRating, .selects RX0 yX0_setRating yX0_setRating, .initialized RX0, .code yX0_setRating cX0_setRating 3 none, .fieldLink RX0 30 "WrestleBook$Roster" "bests" "[I", .methodLink RX0 37 Lib.Math.max.name, .static Lib.Math.max.name, .initialized "java/lang/Math", .code Lib.Math.max.name Lib.Math.max.code 2 (some .int)] ++ wsX00)
def wsX0_sizeOf : List Cond := .code yX0_sizeOf cX0_sizeOf 4 (some .int) :: ([.fieldLink RX0 33 "WrestleBook$Roster" "size" "I", .fieldLink RX0 9 "WrestleBook$Roster" "leagues" "[I"] ++ wsX00)
def wsX0_isAhead : List Cond := .code yX0_isAhead cX0_isAhead 3 (some .boolean) :: ([.fieldLink RX0 18 "WrestleBook$Roster" "points" "[I", .fieldLink RX0 15 "WrestleBook$Roster" "ratings" "[I"] ++ wsX00)
def wsX0_place : List Cond := .code yX0_place cX0_place 4 (some .int) :: ([.fieldLink RX0 33 "WrestleBook$Roster" "size" "I", .fieldLink RX0 9 "WrestleBook$Roster" "leagues" "[I", .methodLink RX0 80 yX0_isAhead, .instanceMethod yX0_isAhead, .selects RX0 yX0_isAhead yX0_isAhead, .initialized RX0, .code yX0_isAhead cX0_isAhead 3 (some .boolean), .fieldLink RX0 18 "WrestleBook$Roster" "points" "[I", .fieldLink RX0 15 "WrestleBook$Roster" "ratings" "[I"] ++ wsX00)
def wsX0_standingAt : List Cond := .code yX0_standingAt cX0_standingAt 4 (some .int) :: ([.fieldLink RX0 33 "WrestleBook$Roster" "size" "I", .fieldLink RX0 9 "WrestleBook$Roster" "leagues" "[I", .methodLink RX0 84 yX0_place, .instanceMethod yX0_place, .selects RX0 yX0_place yX0_place, .initialized RX0, .code yX0_place cX0_place 4 (some .int), .methodLink RX0 80 yX0_isAhead, .instanceMethod yX0_isAhead, .selects RX0 yX0_isAhead yX0_isAhead, .code yX0_isAhead cX0_isAhead 3 (some .boolean), .fieldLink RX0 18 "WrestleBook$Roster" "points" "[I", .fieldLink RX0 15 "WrestleBook$Roster" "ratings" "[I"] ++ wsX00)
def wsX0_exchange : List Cond := .code yX0_exchange cX0_exchange 4 (some .boolean) :: ([.fieldLink RX0 18 "WrestleBook$Roster" "points" "[I", .fieldLink RX0 9 "WrestleBook$Roster" "leagues" "[I", .methodLink RX0 74 yX0_sizeOf, .instanceMethod yX0_sizeOf, .selects RX0 yX0_sizeOf yX0_sizeOf, .initialized RX0, .code yX0_sizeOf cX0_sizeOf 4 (some .int), .fieldLink RX0 33 "WrestleBook$Roster" "size" "I", .methodLink RX0 77 yX0_standingAt, .instanceMethod yX0_standingAt, .selects RX0 yX0_standingAt yX0_standingAt, .code yX0_standingAt cX0_standingAt 4 (some .int), .methodLink RX0 84 yX0_place, .instanceMethod yX0_place, .selects RX0 yX0_place yX0_place, .code yX0_place cX0_place 4 (some .int), .methodLink RX0 80 yX0_isAhead, .instanceMethod yX0_isAhead, .selects RX0 yX0_isAhead yX0_isAhead, .code yX0_isAhead cX0_isAhead 3 (some .boolean), .fieldLink RX0 15 "WrestleBook$Roster" "ratings" "[I"] ++ wsX00)
def wsX0_clearSeason : List Cond := .code yX0_clearSeason cX0_clearSeason 2 none :: ([.fieldLink RX0 33 "WrestleBook$Roster" "size" "I", .fieldLink RX0 18 "WrestleBook$Roster" "points" "[I", .fieldLink RX0 24 "WrestleBook$Roster" "seasonBouts" "[I"] ++ wsX00)
def wsX0_highest : List Cond := .code yX0_highest cX0_highest 3 (some .int) :: ([.fieldLink RX0 33 "WrestleBook$Roster" "size" "I", .fieldLink RX0 15 "WrestleBook$Roster" "ratings" "[I", .methodLink RX0 37 Lib.Math.max.name, .static Lib.Math.max.name, .initialized "java/lang/Math", .code Lib.Math.max.name Lib.Math.max.code 2 (some .int)] ++ wsX00)
def wsX0_lowest : List Cond := .code yX0_lowest cX0_lowest 3 (some .int) :: ([.fieldLink RX0 33 "WrestleBook$Roster" "size" "I", .fieldLink RX0 15 "WrestleBook$Roster" "ratings" "[I", .methodLink RX0 47 Lib.Math.min.name, .static Lib.Math.min.name, .initialized "java/lang/Math", .code Lib.Math.min.name Lib.Math.min.code 2 (some .int)] ++ wsX00)
def wsX0_sumOfRatings : List Cond := .code yX0_sumOfRatings cX0_sumOfRatings 3 (some .int) :: ([.fieldLink RX0 33 "WrestleBook$Roster" "size" "I", .fieldLink RX0 15 "WrestleBook$Roster" "ratings" "[I"] ++ wsX00)
def wsX0_unevenness : List Cond := .code yX0_unevenness cX0_unevenness 3 (some .int) :: ([.methodLink RX0 87 Lib.Math.abs.name, .static Lib.Math.abs.name, .initialized "java/lang/Math", .code Lib.Math.abs.name Lib.Math.abs.code 1 (some .int), .methodLink RX0 56 yX0_expectation, .instanceMethod yX0_expectation, .selects RX0 yX0_expectation yX0_expectation, .initialized RX0, .code yX0_expectation cX0_expectation 3 (some .int), .fieldLink RX0 15 "WrestleBook$Roster" "ratings" "[I", .methodLink RX0 43 yX0_expectedOfHigher, .static yX0_expectedOfHigher, .code yX0_expectedOfHigher cX0_expectedOfHigher 4 (some .int), .methodLink RX0 47 Lib.Math.min.name, .static Lib.Math.min.name, .code Lib.Math.min.name Lib.Math.min.code 2 (some .int), .fieldLink RX0 50 "WrestleBook$Roster" "EXPECTED" "[I"] ++ wsX00)
def wsX0_evenest : List Cond := .code yX0_evenest cX0_evenest 4 (some .int) :: ([.fieldLink RX0 33 "WrestleBook$Roster" "size" "I", .fieldLink RX0 9 "WrestleBook$Roster" "leagues" "[I", .methodLink RX0 90 yX0_unevenness, .instanceMethod yX0_unevenness, .selects RX0 yX0_unevenness yX0_unevenness, .initialized RX0, .code yX0_unevenness cX0_unevenness 3 (some .int), .methodLink RX0 87 Lib.Math.abs.name, .static Lib.Math.abs.name, .initialized "java/lang/Math", .code Lib.Math.abs.name Lib.Math.abs.code 1 (some .int), .methodLink RX0 56 yX0_expectation, .instanceMethod yX0_expectation, .selects RX0 yX0_expectation yX0_expectation, .code yX0_expectation cX0_expectation 3 (some .int), .fieldLink RX0 15 "WrestleBook$Roster" "ratings" "[I", .methodLink RX0 43 yX0_expectedOfHigher, .static yX0_expectedOfHigher, .code yX0_expectedOfHigher cX0_expectedOfHigher 4 (some .int), .methodLink RX0 47 Lib.Math.min.name, .static Lib.Math.min.name, .code Lib.Math.min.name Lib.Math.min.code 2 (some .int), .fieldLink RX0 50 "WrestleBook$Roster" "EXPECTED" "[I"] ++ wsX00)
def wsX0_bestPair : List Cond := .code yX0_bestPair cX0_bestPair 8 (some .int) :: ([.fieldLink RX0 33 "WrestleBook$Roster" "size" "I", .fieldLink RX0 9 "WrestleBook$Roster" "leagues" "[I", .fieldLink RX0 24 "WrestleBook$Roster" "seasonBouts" "[I", .methodLink RX0 90 yX0_unevenness, .instanceMethod yX0_unevenness, .selects RX0 yX0_unevenness yX0_unevenness, .initialized RX0, .code yX0_unevenness cX0_unevenness 3 (some .int), .methodLink RX0 87 Lib.Math.abs.name, .static Lib.Math.abs.name, .initialized "java/lang/Math", .code Lib.Math.abs.name Lib.Math.abs.code 1 (some .int), .methodLink RX0 56 yX0_expectation, .instanceMethod yX0_expectation, .selects RX0 yX0_expectation yX0_expectation, .code yX0_expectation cX0_expectation 3 (some .int), .fieldLink RX0 15 "WrestleBook$Roster" "ratings" "[I", .methodLink RX0 43 yX0_expectedOfHigher, .static yX0_expectedOfHigher, .code yX0_expectedOfHigher cX0_expectedOfHigher 4 (some .int), .methodLink RX0 47 Lib.Math.min.name, .static Lib.Math.min.name, .code Lib.Math.min.name Lib.Math.min.code 2 (some .int), .fieldLink RX0 50 "WrestleBook$Roster" "EXPECTED" "[I"] ++ wsX00)
def wsX1_init : List Cond := .code yX1_init cX1_init 1 none :: ([.methodLink RX1 1 objectInit, .instanceMethod objectInit, .code objectInit ⟨#[0xb1]⟩ 1 none, .classLink RX1 7 RX0, .instantiable RX0 8, .initialized RX0, .fieldLink RX1 10 "WrestleBook" "roster" "LWrestleBook$Roster;", .fieldLink RX1 16 "WrestleBook" "trial" "LWrestleBook$Roster;", .arrayClass .int, .fieldLink RX1 19 "WrestleBook" "chances" "[I", .instanceMethod yX0_init, .code yX0_init cX0_init 1 none, .methodLink RX0 3 objectInit, .fieldLink RX0 9 "WrestleBook$Roster" "leagues" "[I", .fieldLink RX0 15 "WrestleBook$Roster" "ratings" "[I", .fieldLink RX0 18 "WrestleBook$Roster" "points" "[I", .fieldLink RX0 21 "WrestleBook$Roster" "bouts" "[I", .fieldLink RX0 24 "WrestleBook$Roster" "seasonBouts" "[I", .fieldLink RX0 27 "WrestleBook$Roster" "winRows" "[I", .fieldLink RX0 30 "WrestleBook$Roster" "bests" "[I"] ++ wsX00 ++ wsX10)
def wsX1_isLeague : List Cond := .code yX1_isLeague cX1_isLeague 1 (some .boolean) :: ([])
def wsX1_join : List Cond := .code yX1_join cX1_join 2 (some .int) :: ([.classLink RX1 27 "java/lang/IllegalArgumentException", .initialized "java/lang/IllegalArgumentException", .classLink RX1 38 "java/lang/IllegalStateException", .initialized "java/lang/IllegalStateException", .fieldLink RX1 10 "WrestleBook" "roster" "LWrestleBook$Roster;", .methodLink RX1 23 yX1_isLeague, .static yX1_isLeague, .initialized RX1, .code yX1_isLeague cX1_isLeague 1 (some .boolean), .methodLink RX1 34 yX0_isFull, .instanceMethod yX0_isFull, .selects RX0 yX0_isFull yX0_isFull, .initialized RX0, .code yX0_isFull cX0_isFull 1 (some .boolean), .fieldLink RX0 33 "WrestleBook$Roster" "size" "I", .methodLink RX1 43 yX0_add, .instanceMethod yX0_add, .selects RX0 yX0_add yX0_add, .code yX0_add cX0_add 3 (some .int), .fieldLink RX0 9 "WrestleBook$Roster" "leagues" "[I", .fieldLink RX0 15 "WrestleBook$Roster" "ratings" "[I", .fieldLink RX0 30 "WrestleBook$Roster" "bests" "[I"] ++ wsX10 ++ wsX00 ++ (vx_atS RX1 31 "java/lang/IllegalArgumentException" ["java/lang/RuntimeException", "java/lang/Exception"]).filter goodWord ++ (vx_atS RX1 42 "java/lang/IllegalStateException" ["java/lang/RuntimeException", "java/lang/Exception"]).filter goodWord)
def wsX1_checkWrestler : List Cond := .code yX1_checkWrestler cX1_checkWrestler 2 none :: ([.classLink RX1 121 "java/lang/IndexOutOfBoundsException", .initialized "java/lang/IndexOutOfBoundsException", .fieldLink RX1 10 "WrestleBook" "roster" "LWrestleBook$Roster;", .methodLink RX1 187 yX0_has, .instanceMethod yX0_has, .selects RX0 yX0_has yX0_has, .initialized RX0, .code yX0_has cX0_has 2 (some .boolean), .fieldLink RX0 33 "WrestleBook$Roster" "size" "I"] ++ wsX10 ++ wsX00 ++ (vx_atS RX1 125 "java/lang/IndexOutOfBoundsException" ["java/lang/RuntimeException", "java/lang/Exception"]).filter goodWord)
def wsX1_rate_r1 : List Cond := [Cond.classLink RX1 27 "java/lang/IllegalArgumentException", Cond.initialized "java/lang/IllegalArgumentException", Cond.fieldLink RX1 10 "WrestleBook" "roster" "LWrestleBook$Roster;", Cond.methodLink RX1 47 yX1_checkWrestler, Cond.instanceMethod yX1_checkWrestler, Cond.selects RX1 yX1_checkWrestler yX1_checkWrestler, Cond.initialized RX1, Cond.code yX1_checkWrestler cX1_checkWrestler 2 none, Cond.classLink RX1 121 "java/lang/IndexOutOfBoundsException", Cond.initialized "java/lang/IndexOutOfBoundsException", Cond.methodLink RX1 187 yX0_has, Cond.instanceMethod yX0_has, Cond.selects RX0 yX0_has yX0_has, Cond.initialized RX0, Cond.code yX0_has cX0_has 2 (some .boolean), Cond.fieldLink RX0 33 "WrestleBook$Roster" "size" "I", Cond.methodLink RX1 53 yX0_rating, Cond.instanceMethod yX0_rating, Cond.selects RX0 yX0_rating yX0_rating, Cond.code yX0_rating cX0_rating 2 (some .int), Cond.fieldLink RX0 15 "WrestleBook$Roster" "ratings" "[I", Cond.methodLink RX1 56 yX0_setRating, Cond.instanceMethod yX0_setRating, Cond.selects RX0 yX0_setRating yX0_setRating]
def wsX1_rate_r2 : List Cond := [Cond.code yX0_setRating cX0_setRating 3 none, Cond.fieldLink RX0 30 "WrestleBook$Roster" "bests" "[I", Cond.methodLink RX0 37 Lib.Math.max.name, Cond.static Lib.Math.max.name, Cond.initialized "java/lang/Math", Cond.code Lib.Math.max.name Lib.Math.max.code 2 (some .int)]
def wsX1_rate : List Cond := .code yX1_rate cX1_rate 4 (some .int) :: ((wsX1_rate_r1 ++ wsX1_rate_r2) ++ wsX10 ++ wsX00 ++ (vx_atS RX1 31 "java/lang/IllegalArgumentException" ["java/lang/RuntimeException", "java/lang/Exception"]).filter goodWord ++ (vx_atS RX1 125 "java/lang/IndexOutOfBoundsException" ["java/lang/RuntimeException", "java/lang/Exception"]).filter goodWord)
def wsX1_checkDifferent : List Cond := .code yX1_checkDifferent cX1_checkDifferent 2 none :: ([.classLink RX1 27 "java/lang/IllegalArgumentException", .initialized "java/lang/IllegalArgumentException"] ++ (vx_atS RX1 31 "java/lang/IllegalArgumentException" ["java/lang/RuntimeException", "java/lang/Exception"]).filter goodWord)
def wsX1_checkResult : List Cond := .code yX1_checkResult cX1_checkResult 1 none :: ([.classLink RX1 27 "java/lang/IllegalArgumentException", .initialized "java/lang/IllegalArgumentException"] ++ (vx_atS RX1 31 "java/lang/IllegalArgumentException" ["java/lang/RuntimeException", "java/lang/Exception"]).filter goodWord)
def wsX1_bout_r1 : List Cond := [Cond.fieldLink RX1 10 "WrestleBook" "roster" "LWrestleBook$Roster;", Cond.fieldLink RX1 70 "WrestleBook" "upsets" "I", Cond.fieldLink RX1 74 "WrestleBook" "boutsHeld" "I", Cond.methodLink RX1 47 yX1_checkWrestler, Cond.instanceMethod yX1_checkWrestler, Cond.selects RX1 yX1_checkWrestler yX1_checkWrestler, Cond.initialized RX1, Cond.code yX1_checkWrestler cX1_checkWrestler 2 none, Cond.classLink RX1 121 "java/lang/IndexOutOfBoundsException", Cond.initialized "java/lang/IndexOutOfBoundsException", Cond.methodLink RX1 187 yX0_has, Cond.instanceMethod yX0_has, Cond.selects RX0 yX0_has yX0_has, Cond.initialized RX0, Cond.code yX0_has cX0_has 2 (some .boolean), Cond.fieldLink RX0 33 "WrestleBook$Roster" "size" "I", Cond.methodLink RX1 60 yX1_checkDifferent, Cond.static yX1_checkDifferent, Cond.code yX1_checkDifferent cX1_checkDifferent 2 none, Cond.classLink RX1 27 "java/lang/IllegalArgumentException", Cond.initialized "java/lang/IllegalArgumentException", Cond.methodLink RX1 63 yX1_checkResult, Cond.static yX1_checkResult, Cond.code yX1_checkResult cX1_checkResult 1 none]
def wsX1_bout_r2 : List Cond := [Cond.methodLink RX1 66 yX0_isUpset, Cond.instanceMethod yX0_isUpset, Cond.selects RX0 yX0_isUpset yX0_isUpset, Cond.code yX0_isUpset cX0_isUpset 4 (some .boolean), Cond.methodLink RX0 56 yX0_expectation, Cond.instanceMethod yX0_expectation, Cond.selects RX0 yX0_expectation yX0_expectation, Cond.code yX0_expectation cX0_expectation 3 (some .int), Cond.fieldLink RX0 15 "WrestleBook$Roster" "ratings" "[I", Cond.methodLink RX0 43 yX0_expectedOfHigher, Cond.static yX0_expectedOfHigher, Cond.code yX0_expectedOfHigher cX0_expectedOfHigher 4 (some .int), Cond.methodLink RX0 47 Lib.Math.min.name, Cond.static Lib.Math.min.name, Cond.initialized "java/lang/Math", Cond.code Lib.Math.min.name Lib.Math.min.code 2 (some .int), Cond.fieldLink RX0 50 "WrestleBook$Roster" "EXPECTED" "[I", Cond.methodLink RX1 77 yX0_hold, Cond.instanceMethod yX0_hold, Cond.selects RX0 yX0_hold yX0_hold, Cond.code yX0_hold cX0_hold 6 (some .int), Cond.methodLink RX0 59 yX0_gain, Cond.instanceMethod yX0_gain, Cond.selects RX0 yX0_gain yX0_gain]
def wsX1_bout_r3 : List Cond := [Cond.code yX0_gain cX0_gain 7 (some .int), Cond.methodLink RX0 37 Lib.Math.max.name, Cond.static Lib.Math.max.name, Cond.code Lib.Math.max.name Lib.Math.max.code 2 (some .int), Cond.methodLink RX0 53 yX0_weight, Cond.instanceMethod yX0_weight, Cond.selects RX0 yX0_weight yX0_weight, Cond.code yX0_weight cX0_weight 2 (some .int), Cond.fieldLink RX0 21 "WrestleBook$Roster" "bouts" "[I", Cond.methodLink RX0 63 yX0_enter, Cond.instanceMethod yX0_enter, Cond.selects RX0 yX0_enter yX0_enter, Cond.code yX0_enter cX0_enter 4 none, Cond.fieldLink RX0 18 "WrestleBook$Roster" "points" "[I", Cond.fieldLink RX0 24 "WrestleBook$Roster" "seasonBouts" "[I", Cond.fieldLink RX0 27 "WrestleBook$Roster" "winRows" "[I", Cond.methodLink RX0 70 yX0_setRating, Cond.instanceMethod yX0_setRating, Cond.selects RX0 yX0_setRating yX0_setRating, Cond.code yX0_setRating cX0_setRating 3 none, Cond.fieldLink RX0 30 "WrestleBook$Roster" "bests" "[I"]
def wsX1_bout : List Cond := .code yX1_bout cX1_bout 4 (some .int) :: ((wsX1_bout_r1 ++ (wsX1_bout_r2 ++ wsX1_bout_r3)) ++ wsX10 ++ wsX00 ++ (vx_atS RX1 125 "java/lang/IndexOutOfBoundsException" ["java/lang/RuntimeException", "java/lang/Exception"]).filter goodWord ++ (vx_atS RX1 31 "java/lang/IllegalArgumentException" ["java/lang/RuntimeException", "java/lang/Exception"]).filter goodWord)
def wsX1_end_r1 : List Cond := [Cond.fieldLink RX1 10 "WrestleBook" "roster" "LWrestleBook$Roster;", Cond.fieldLink RX1 90 "WrestleBook" "season" "I", Cond.methodLink RX1 81 yX0_drift, Cond.instanceMethod yX0_drift, Cond.selects RX0 yX0_drift yX0_drift, Cond.initialized RX0, Cond.code yX0_drift cX0_drift 2 none, Cond.fieldLink RX0 33 "WrestleBook$Roster" "size" "I", Cond.fieldLink RX0 24 "WrestleBook$Roster" "seasonBouts" "[I", Cond.fieldLink RX0 15 "WrestleBook$Roster" "ratings" "[I", Cond.methodLink RX0 70 yX0_setRating, Cond.instanceMethod yX0_setRating, Cond.selects RX0 yX0_setRating yX0_setRating, Cond.code yX0_setRating cX0_setRating 3 none, Cond.fieldLink RX0 30 "WrestleBook$Roster" "bests" "[I", Cond.methodLink RX0 37 Lib.Math.max.name, Cond.static Lib.Math.max.name, Cond.initialized "java/lang/Math", Cond.code Lib.Math.max.name Lib.Math.max.code 2 (some .int), Cond.methodLink RX1 84 yX0_exchange, Cond.instanceMethod yX0_exchange, Cond.selects RX0 yX0_exchange yX0_exchange, Cond.code yX0_exchange cX0_exchange 4 (some .boolean), Cond.fieldLink RX0 18 "WrestleBook$Roster" "points" "[I"]
def wsX1_end_r2 : List Cond := [Cond.fieldLink RX0 9 "WrestleBook$Roster" "leagues" "[I", Cond.methodLink RX0 74 yX0_sizeOf, Cond.instanceMethod yX0_sizeOf, Cond.selects RX0 yX0_sizeOf yX0_sizeOf, Cond.code yX0_sizeOf cX0_sizeOf 4 (some .int), Cond.methodLink RX0 77 yX0_standingAt, Cond.instanceMethod yX0_standingAt, Cond.selects RX0 yX0_standingAt yX0_standingAt, Cond.code yX0_standingAt cX0_standingAt 4 (some .int), Cond.methodLink RX0 84 yX0_place, Cond.instanceMethod yX0_place, Cond.selects RX0 yX0_place yX0_place, Cond.code yX0_place cX0_place 4 (some .int), Cond.methodLink RX0 80 yX0_isAhead, Cond.instanceMethod yX0_isAhead, Cond.selects RX0 yX0_isAhead yX0_isAhead, Cond.code yX0_isAhead cX0_isAhead 3 (some .boolean), Cond.methodLink RX1 87 yX0_clearSeason, Cond.instanceMethod yX0_clearSeason, Cond.selects RX0 yX0_clearSeason yX0_clearSeason, Cond.code yX0_clearSeason cX0_clearSeason 2 none]
def wsX1_end : List Cond := .code yX1_end cX1_end 3 (some .int) :: ((wsX1_end_r1 ++ wsX1_end_r2) ++ wsX10 ++ wsX00)
def wsX1_expected_r1 : List Cond := [Cond.fieldLink RX1 10 "WrestleBook" "roster" "LWrestleBook$Roster;", Cond.methodLink RX1 47 yX1_checkWrestler, Cond.instanceMethod yX1_checkWrestler, Cond.selects RX1 yX1_checkWrestler yX1_checkWrestler, Cond.initialized RX1, Cond.code yX1_checkWrestler cX1_checkWrestler 2 none, Cond.classLink RX1 121 "java/lang/IndexOutOfBoundsException", Cond.initialized "java/lang/IndexOutOfBoundsException", Cond.methodLink RX1 187 yX0_has, Cond.instanceMethod yX0_has, Cond.selects RX0 yX0_has yX0_has, Cond.initialized RX0, Cond.code yX0_has cX0_has 2 (some .boolean), Cond.fieldLink RX0 33 "WrestleBook$Roster" "size" "I", Cond.methodLink RX1 93 yX0_expectation, Cond.instanceMethod yX0_expectation, Cond.selects RX0 yX0_expectation yX0_expectation, Cond.code yX0_expectation cX0_expectation 3 (some .int), Cond.fieldLink RX0 15 "WrestleBook$Roster" "ratings" "[I", Cond.methodLink RX0 43 yX0_expectedOfHigher, Cond.static yX0_expectedOfHigher, Cond.code yX0_expectedOfHigher cX0_expectedOfHigher 4 (some .int), Cond.methodLink RX0 47 Lib.Math.min.name, Cond.static Lib.Math.min.name]
def wsX1_expected_r2 : List Cond := [Cond.initialized "java/lang/Math", Cond.code Lib.Math.min.name Lib.Math.min.code 2 (some .int), Cond.fieldLink RX0 50 "WrestleBook$Roster" "EXPECTED" "[I"]
def wsX1_expected : List Cond := .code yX1_expected cX1_expected 3 (some .int) :: ((wsX1_expected_r1 ++ wsX1_expected_r2) ++ wsX10 ++ wsX00 ++ (vx_atS RX1 125 "java/lang/IndexOutOfBoundsException" ["java/lang/RuntimeException", "java/lang/Exception"]).filter goodWord)
def wsX1_told_r1 : List Cond := [Cond.classLink RX1 121 "java/lang/IndexOutOfBoundsException", Cond.initialized "java/lang/IndexOutOfBoundsException", Cond.fieldLink RX1 10 "WrestleBook" "roster" "LWrestleBook$Roster;", Cond.methodLink RX1 47 yX1_checkWrestler, Cond.instanceMethod yX1_checkWrestler, Cond.selects RX1 yX1_checkWrestler yX1_checkWrestler, Cond.initialized RX1, Cond.code yX1_checkWrestler cX1_checkWrestler 2 none, Cond.methodLink RX1 187 yX0_has, Cond.instanceMethod yX0_has, Cond.selects RX0 yX0_has yX0_has, Cond.initialized RX0, Cond.code yX0_has cX0_has 2 (some .boolean), Cond.fieldLink RX0 33 "WrestleBook$Roster" "size" "I", Cond.methodLink RX1 53 yX0_rating, Cond.instanceMethod yX0_rating, Cond.selects RX0 yX0_rating yX0_rating, Cond.code yX0_rating cX0_rating 2 (some .int), Cond.fieldLink RX0 15 "WrestleBook$Roster" "ratings" "[I", Cond.methodLink RX1 97 yX0_league, Cond.instanceMethod yX0_league, Cond.selects RX0 yX0_league yX0_league, Cond.code yX0_league cX0_league 2 (some .int), Cond.fieldLink RX0 9 "WrestleBook$Roster" "leagues" "[I"]
def wsX1_told_r2 : List Cond := [Cond.methodLink RX1 100 yX0_points, Cond.instanceMethod yX0_points, Cond.selects RX0 yX0_points yX0_points, Cond.code yX0_points cX0_points 2 (some .int), Cond.fieldLink RX0 18 "WrestleBook$Roster" "points" "[I", Cond.methodLink RX1 103 yX0_bouts, Cond.instanceMethod yX0_bouts, Cond.selects RX0 yX0_bouts yX0_bouts, Cond.code yX0_bouts cX0_bouts 2 (some .int), Cond.fieldLink RX0 21 "WrestleBook$Roster" "bouts" "[I", Cond.methodLink RX1 106 yX0_seasonBouts, Cond.instanceMethod yX0_seasonBouts, Cond.selects RX0 yX0_seasonBouts yX0_seasonBouts, Cond.code yX0_seasonBouts cX0_seasonBouts 2 (some .int), Cond.fieldLink RX0 24 "WrestleBook$Roster" "seasonBouts" "[I", Cond.methodLink RX1 109 yX0_winRow, Cond.instanceMethod yX0_winRow, Cond.selects RX0 yX0_winRow yX0_winRow, Cond.code yX0_winRow cX0_winRow 2 (some .int), Cond.fieldLink RX0 27 "WrestleBook$Roster" "winRows" "[I", Cond.methodLink RX1 112 yX0_best, Cond.instanceMethod yX0_best, Cond.selects RX0 yX0_best yX0_best, Cond.code yX0_best cX0_best 2 (some .int)]
def wsX1_told_r3 : List Cond := [Cond.fieldLink RX0 30 "WrestleBook$Roster" "bests" "[I", Cond.methodLink RX1 115 yX0_place, Cond.instanceMethod yX0_place, Cond.selects RX0 yX0_place yX0_place, Cond.code yX0_place cX0_place 4 (some .int), Cond.methodLink RX0 80 yX0_isAhead, Cond.instanceMethod yX0_isAhead, Cond.selects RX0 yX0_isAhead yX0_isAhead, Cond.code yX0_isAhead cX0_isAhead 3 (some .boolean), Cond.methodLink RX1 118 yX0_weight, Cond.instanceMethod yX0_weight, Cond.selects RX0 yX0_weight yX0_weight, Cond.code yX0_weight cX0_weight 2 (some .int)]
def wsX1_told : List Cond := .code yX1_told cX1_told 3 (some .int) :: ((wsX1_told_r1 ++ (wsX1_told_r2 ++ wsX1_told_r3)) ++ wsX10 ++ wsX00 ++ (vx_atS RX1 125 "java/lang/IndexOutOfBoundsException" ["java/lang/RuntimeException", "java/lang/Exception"]).filter goodWord)
def wsX1_at : List Cond := .code yX1_at cX1_at 4 (some .int) :: ([.classLink RX1 121 "java/lang/IndexOutOfBoundsException", .initialized "java/lang/IndexOutOfBoundsException", .fieldLink RX1 10 "WrestleBook" "roster" "LWrestleBook$Roster;", .methodLink RX1 23 yX1_isLeague, .static yX1_isLeague, .initialized RX1, .code yX1_isLeague cX1_isLeague 1 (some .boolean), .methodLink RX1 126 yX0_standingAt, .instanceMethod yX0_standingAt, .selects RX0 yX0_standingAt yX0_standingAt, .initialized RX0, .code yX0_standingAt cX0_standingAt 4 (some .int), .fieldLink RX0 33 "WrestleBook$Roster" "size" "I", .fieldLink RX0 9 "WrestleBook$Roster" "leagues" "[I", .methodLink RX0 84 yX0_place, .instanceMethod yX0_place, .selects RX0 yX0_place yX0_place, .code yX0_place cX0_place 4 (some .int), .methodLink RX0 80 yX0_isAhead, .instanceMethod yX0_isAhead, .selects RX0 yX0_isAhead yX0_isAhead, .code yX0_isAhead cX0_isAhead 3 (some .boolean), .fieldLink RX0 18 "WrestleBook$Roster" "points" "[I", .fieldLink RX0 15 "WrestleBook$Roster" "ratings" "[I"] ++ wsX10 ++ wsX00 ++ (vx_atS RX1 125 "java/lang/IndexOutOfBoundsException" ["java/lang/RuntimeException", "java/lang/Exception"]).filter goodWord)
def wsX1_count_r1 : List Cond := [Cond.classLink RX1 121 "java/lang/IndexOutOfBoundsException", Cond.initialized "java/lang/IndexOutOfBoundsException", Cond.fieldLink RX1 90 "WrestleBook" "season" "I", Cond.fieldLink RX1 10 "WrestleBook" "roster" "LWrestleBook$Roster;", Cond.fieldLink RX1 74 "WrestleBook" "boutsHeld" "I", Cond.fieldLink RX1 70 "WrestleBook" "upsets" "I", Cond.methodLink RX1 131 yX0_size, Cond.instanceMethod yX0_size, Cond.selects RX0 yX0_size yX0_size, Cond.initialized RX0, Cond.code yX0_size cX0_size 1 (some .int), Cond.fieldLink RX0 33 "WrestleBook$Roster" "size" "I", Cond.methodLink RX1 135 yX0_sizeOf, Cond.instanceMethod yX0_sizeOf, Cond.selects RX0 yX0_sizeOf yX0_sizeOf, Cond.code yX0_sizeOf cX0_sizeOf 4 (some .int), Cond.fieldLink RX0 9 "WrestleBook$Roster" "leagues" "[I", Cond.methodLink RX1 138 yX0_highest, Cond.instanceMethod yX0_highest, Cond.selects RX0 yX0_highest yX0_highest, Cond.code yX0_highest cX0_highest 3 (some .int), Cond.fieldLink RX0 15 "WrestleBook$Roster" "ratings" "[I", Cond.methodLink RX0 37 Lib.Math.max.name, Cond.static Lib.Math.max.name]
def wsX1_count_r2 : List Cond := [Cond.initialized "java/lang/Math", Cond.code Lib.Math.max.name Lib.Math.max.code 2 (some .int), Cond.methodLink RX1 141 yX0_lowest, Cond.instanceMethod yX0_lowest, Cond.selects RX0 yX0_lowest yX0_lowest, Cond.code yX0_lowest cX0_lowest 3 (some .int), Cond.methodLink RX0 47 Lib.Math.min.name, Cond.static Lib.Math.min.name, Cond.code Lib.Math.min.name Lib.Math.min.code 2 (some .int)]
def wsX1_count : List Cond := .code yX1_count cX1_count 2 (some .int) :: ((wsX1_count_r1 ++ wsX1_count_r2) ++ wsX10 ++ wsX00 ++ (vx_atS RX1 125 "java/lang/IndexOutOfBoundsException" ["java/lang/RuntimeException", "java/lang/Exception"]).filter goodWord)
def wsX1_would_r1 : List Cond := [Cond.classLink RX1 121 "java/lang/IndexOutOfBoundsException", Cond.initialized "java/lang/IndexOutOfBoundsException", Cond.fieldLink RX1 10 "WrestleBook" "roster" "LWrestleBook$Roster;", Cond.methodLink RX1 47 yX1_checkWrestler, Cond.instanceMethod yX1_checkWrestler, Cond.selects RX1 yX1_checkWrestler yX1_checkWrestler, Cond.initialized RX1, Cond.code yX1_checkWrestler cX1_checkWrestler 2 none, Cond.methodLink RX1 187 yX0_has, Cond.instanceMethod yX0_has, Cond.selects RX0 yX0_has yX0_has, Cond.initialized RX0, Cond.code yX0_has cX0_has 2 (some .boolean), Cond.fieldLink RX0 33 "WrestleBook$Roster" "size" "I", Cond.methodLink RX1 60 yX1_checkDifferent, Cond.static yX1_checkDifferent, Cond.code yX1_checkDifferent cX1_checkDifferent 2 none, Cond.classLink RX1 27 "java/lang/IllegalArgumentException", Cond.initialized "java/lang/IllegalArgumentException", Cond.methodLink RX1 63 yX1_checkResult, Cond.static yX1_checkResult, Cond.code yX1_checkResult cX1_checkResult 1 none, Cond.methodLink RX1 148 yX0_gain, Cond.instanceMethod yX0_gain]
def wsX1_would_r2 : List Cond := [Cond.selects RX0 yX0_gain yX0_gain, Cond.code yX0_gain cX0_gain 7 (some .int), Cond.fieldLink RX0 15 "WrestleBook$Roster" "ratings" "[I", Cond.methodLink RX0 47 Lib.Math.min.name, Cond.static Lib.Math.min.name, Cond.initialized "java/lang/Math", Cond.code Lib.Math.min.name Lib.Math.min.code 2 (some .int), Cond.methodLink RX0 37 Lib.Math.max.name, Cond.static Lib.Math.max.name, Cond.code Lib.Math.max.name Lib.Math.max.code 2 (some .int), Cond.methodLink RX0 53 yX0_weight, Cond.instanceMethod yX0_weight, Cond.selects RX0 yX0_weight yX0_weight, Cond.code yX0_weight cX0_weight 2 (some .int), Cond.fieldLink RX0 21 "WrestleBook$Roster" "bouts" "[I", Cond.methodLink RX0 56 yX0_expectation, Cond.instanceMethod yX0_expectation, Cond.selects RX0 yX0_expectation yX0_expectation, Cond.code yX0_expectation cX0_expectation 3 (some .int), Cond.methodLink RX0 43 yX0_expectedOfHigher, Cond.static yX0_expectedOfHigher, Cond.code yX0_expectedOfHigher cX0_expectedOfHigher 4 (some .int), Cond.fieldLink RX0 50 "WrestleBook$Roster" "EXPECTED" "[I"]
def wsX1_would : List Cond := .code yX1_would cX1_would 5 (some .int) :: ((wsX1_would_r1 ++ wsX1_would_r2) ++ wsX10 ++ wsX00 ++ (vx_atS RX1 125 "java/lang/IndexOutOfBoundsException" ["java/lang/RuntimeException", "java/lang/Exception"]).filter goodWord ++ (vx_atS RX1 31 "java/lang/IllegalArgumentException" ["java/lang/RuntimeException", "java/lang/Exception"]).filter goodWord)
def wsX1_match_r1 : List Cond := [Cond.fieldLink RX1 10 "WrestleBook" "roster" "LWrestleBook$Roster;", Cond.methodLink RX1 47 yX1_checkWrestler, Cond.instanceMethod yX1_checkWrestler, Cond.selects RX1 yX1_checkWrestler yX1_checkWrestler, Cond.initialized RX1, Cond.code yX1_checkWrestler cX1_checkWrestler 2 none, Cond.classLink RX1 121 "java/lang/IndexOutOfBoundsException", Cond.initialized "java/lang/IndexOutOfBoundsException", Cond.methodLink RX1 187 yX0_has, Cond.instanceMethod yX0_has, Cond.selects RX0 yX0_has yX0_has, Cond.initialized RX0, Cond.code yX0_has cX0_has 2 (some .boolean), Cond.fieldLink RX0 33 "WrestleBook$Roster" "size" "I", Cond.methodLink RX1 156 yX0_evenest, Cond.instanceMethod yX0_evenest, Cond.selects RX0 yX0_evenest yX0_evenest, Cond.code yX0_evenest cX0_evenest 4 (some .int), Cond.fieldLink RX0 9 "WrestleBook$Roster" "leagues" "[I", Cond.methodLink RX0 90 yX0_unevenness, Cond.instanceMethod yX0_unevenness, Cond.selects RX0 yX0_unevenness yX0_unevenness, Cond.code yX0_unevenness cX0_unevenness 3 (some .int), Cond.methodLink RX0 87 Lib.Math.abs.name]
def wsX1_match_r2 : List Cond := [Cond.static Lib.Math.abs.name, Cond.initialized "java/lang/Math", Cond.code Lib.Math.abs.name Lib.Math.abs.code 1 (some .int), Cond.methodLink RX0 56 yX0_expectation, Cond.instanceMethod yX0_expectation, Cond.selects RX0 yX0_expectation yX0_expectation, Cond.code yX0_expectation cX0_expectation 3 (some .int), Cond.fieldLink RX0 15 "WrestleBook$Roster" "ratings" "[I", Cond.methodLink RX0 43 yX0_expectedOfHigher, Cond.static yX0_expectedOfHigher, Cond.code yX0_expectedOfHigher cX0_expectedOfHigher 4 (some .int), Cond.methodLink RX0 47 Lib.Math.min.name, Cond.static Lib.Math.min.name, Cond.code Lib.Math.min.name Lib.Math.min.code 2 (some .int), Cond.fieldLink RX0 50 "WrestleBook$Roster" "EXPECTED" "[I"]
def wsX1_match : List Cond := .code yX1_match cX1_match 2 (some .int) :: ((wsX1_match_r1 ++ wsX1_match_r2) ++ wsX10 ++ wsX00 ++ (vx_atS RX1 125 "java/lang/IndexOutOfBoundsException" ["java/lang/RuntimeException", "java/lang/Exception"]).filter goodWord)
def wsX1_next_r1 : List Cond := [Cond.fieldLink RX1 10 "WrestleBook" "roster" "LWrestleBook$Roster;", Cond.methodLink RX1 159 yX0_bestPair, Cond.instanceMethod yX0_bestPair, Cond.selects RX0 yX0_bestPair yX0_bestPair, Cond.initialized RX0, Cond.code yX0_bestPair cX0_bestPair 8 (some .int), Cond.fieldLink RX0 33 "WrestleBook$Roster" "size" "I", Cond.fieldLink RX0 9 "WrestleBook$Roster" "leagues" "[I", Cond.fieldLink RX0 24 "WrestleBook$Roster" "seasonBouts" "[I", Cond.methodLink RX0 90 yX0_unevenness, Cond.instanceMethod yX0_unevenness, Cond.selects RX0 yX0_unevenness yX0_unevenness, Cond.code yX0_unevenness cX0_unevenness 3 (some .int), Cond.methodLink RX0 87 Lib.Math.abs.name, Cond.static Lib.Math.abs.name, Cond.initialized "java/lang/Math", Cond.code Lib.Math.abs.name Lib.Math.abs.code 1 (some .int), Cond.methodLink RX0 56 yX0_expectation, Cond.instanceMethod yX0_expectation, Cond.selects RX0 yX0_expectation yX0_expectation, Cond.code yX0_expectation cX0_expectation 3 (some .int), Cond.fieldLink RX0 15 "WrestleBook$Roster" "ratings" "[I", Cond.methodLink RX0 43 yX0_expectedOfHigher, Cond.static yX0_expectedOfHigher]
def wsX1_next_r2 : List Cond := [Cond.code yX0_expectedOfHigher cX0_expectedOfHigher 4 (some .int), Cond.methodLink RX0 47 Lib.Math.min.name, Cond.static Lib.Math.min.name, Cond.code Lib.Math.min.name Lib.Math.min.code 2 (some .int), Cond.fieldLink RX0 50 "WrestleBook$Roster" "EXPECTED" "[I"]
def wsX1_next : List Cond := .code yX1_next cX1_next 1 (some .int) :: ((wsX1_next_r1 ++ wsX1_next_r2) ++ wsX10 ++ wsX00)
def wsX1_foresee_r1 : List Cond := [Cond.classLink RX1 27 "java/lang/IllegalArgumentException", Cond.initialized "java/lang/IllegalArgumentException", Cond.fieldLink RX1 16 "WrestleBook" "trial" "LWrestleBook$Roster;", Cond.fieldLink RX1 10 "WrestleBook" "roster" "LWrestleBook$Roster;", Cond.methodLink RX1 164 yX0_copyFrom, Cond.instanceMethod yX0_copyFrom, Cond.selects RX0 yX0_copyFrom yX0_copyFrom, Cond.initialized RX0, Cond.code yX0_copyFrom cX0_copyFrom 3 none, Cond.fieldLink RX0 33 "WrestleBook$Roster" "size" "I", Cond.fieldLink RX0 9 "WrestleBook$Roster" "leagues" "[I", Cond.fieldLink RX0 15 "WrestleBook$Roster" "ratings" "[I", Cond.fieldLink RX0 18 "WrestleBook$Roster" "points" "[I", Cond.fieldLink RX0 21 "WrestleBook$Roster" "bouts" "[I", Cond.fieldLink RX0 24 "WrestleBook$Roster" "seasonBouts" "[I", Cond.fieldLink RX0 27 "WrestleBook$Roster" "winRows" "[I", Cond.fieldLink RX0 30 "WrestleBook$Roster" "bests" "[I", Cond.methodLink RX1 159 yX0_bestPair, Cond.instanceMethod yX0_bestPair, Cond.selects RX0 yX0_bestPair yX0_bestPair, Cond.code yX0_bestPair cX0_bestPair 8 (some .int), Cond.methodLink RX0 90 yX0_unevenness, Cond.instanceMethod yX0_unevenness, Cond.selects RX0 yX0_unevenness yX0_unevenness]
def wsX1_foresee_r2 : List Cond := [Cond.code yX0_unevenness cX0_unevenness 3 (some .int), Cond.methodLink RX0 87 Lib.Math.abs.name, Cond.static Lib.Math.abs.name, Cond.initialized "java/lang/Math", Cond.code Lib.Math.abs.name Lib.Math.abs.code 1 (some .int), Cond.methodLink RX0 56 yX0_expectation, Cond.instanceMethod yX0_expectation, Cond.selects RX0 yX0_expectation yX0_expectation, Cond.code yX0_expectation cX0_expectation 3 (some .int), Cond.methodLink RX0 43 yX0_expectedOfHigher, Cond.static yX0_expectedOfHigher, Cond.code yX0_expectedOfHigher cX0_expectedOfHigher 4 (some .int), Cond.methodLink RX0 47 Lib.Math.min.name, Cond.static Lib.Math.min.name, Cond.code Lib.Math.min.name Lib.Math.min.code 2 (some .int), Cond.fieldLink RX0 50 "WrestleBook$Roster" "EXPECTED" "[I", Cond.methodLink RX1 168 yX0_holdAsRated, Cond.instanceMethod yX0_holdAsRated, Cond.selects RX0 yX0_holdAsRated yX0_holdAsRated, Cond.code yX0_holdAsRated cX0_holdAsRated 3 none, Cond.methodLink RX0 67 yX0_hold, Cond.instanceMethod yX0_hold, Cond.selects RX0 yX0_hold yX0_hold, Cond.code yX0_hold cX0_hold 6 (some .int)]
def wsX1_foresee_r3 : List Cond := [Cond.methodLink RX0 59 yX0_gain, Cond.instanceMethod yX0_gain, Cond.selects RX0 yX0_gain yX0_gain, Cond.code yX0_gain cX0_gain 7 (some .int), Cond.methodLink RX0 37 Lib.Math.max.name, Cond.static Lib.Math.max.name, Cond.code Lib.Math.max.name Lib.Math.max.code 2 (some .int), Cond.methodLink RX0 53 yX0_weight, Cond.instanceMethod yX0_weight, Cond.selects RX0 yX0_weight yX0_weight, Cond.code yX0_weight cX0_weight 2 (some .int), Cond.methodLink RX0 63 yX0_enter, Cond.instanceMethod yX0_enter, Cond.selects RX0 yX0_enter yX0_enter, Cond.code yX0_enter cX0_enter 4 none, Cond.methodLink RX0 70 yX0_setRating, Cond.instanceMethod yX0_setRating, Cond.selects RX0 yX0_setRating yX0_setRating, Cond.code yX0_setRating cX0_setRating 3 none, Cond.methodLink RX1 138 yX0_highest, Cond.instanceMethod yX0_highest, Cond.selects RX0 yX0_highest yX0_highest, Cond.code yX0_highest cX0_highest 3 (some .int)]
def wsX1_foresee : List Cond := .code yX1_foresee cX1_foresee 4 (some .int) :: ((wsX1_foresee_r1 ++ (wsX1_foresee_r2 ++ wsX1_foresee_r3)) ++ wsX10 ++ wsX00 ++ (vx_atS RX1 31 "java/lang/IllegalArgumentException" ["java/lang/RuntimeException", "java/lang/Exception"]).filter goodWord)
def wsX1_mean : List Cond := .code yX1_mean cX1_mean 2 (some .double) :: ([.fieldLink RX1 10 "WrestleBook" "roster" "LWrestleBook$Roster;", .methodLink RX1 131 yX0_size, .instanceMethod yX0_size, .selects RX0 yX0_size yX0_size, .initialized RX0, .code yX0_size cX0_size 1 (some .int), .fieldLink RX0 33 "WrestleBook$Roster" "size" "I", .methodLink RX1 171 yX0_sumOfRatings, .instanceMethod yX0_sumOfRatings, .selects RX0 yX0_sumOfRatings yX0_sumOfRatings, .code yX0_sumOfRatings cX0_sumOfRatings 3 (some .int), .fieldLink RX0 15 "WrestleBook$Roster" "ratings" "[I"] ++ wsX10 ++ wsX00)
def wsX1_digest_r1 : List Cond := [Cond.constantLong RX1 174 (1637), Cond.constantLong RX1 176 (31), Cond.fieldLink RX1 10 "WrestleBook" "roster" "LWrestleBook$Roster;", Cond.methodLink RX1 178 yX1_count, Cond.instanceMethod yX1_count, Cond.selects RX1 yX1_count yX1_count, Cond.initialized RX1, Cond.code yX1_count cX1_count 2 (some .int), Cond.classLink RX1 121 "java/lang/IndexOutOfBoundsException", Cond.initialized "java/lang/IndexOutOfBoundsException", Cond.fieldLink RX1 90 "WrestleBook" "season" "I", Cond.fieldLink RX1 74 "WrestleBook" "boutsHeld" "I", Cond.fieldLink RX1 70 "WrestleBook" "upsets" "I", Cond.methodLink RX1 131 yX0_size, Cond.instanceMethod yX0_size, Cond.selects RX0 yX0_size yX0_size, Cond.initialized RX0, Cond.code yX0_size cX0_size 1 (some .int), Cond.fieldLink RX0 33 "WrestleBook$Roster" "size" "I", Cond.methodLink RX1 135 yX0_sizeOf, Cond.instanceMethod yX0_sizeOf, Cond.selects RX0 yX0_sizeOf yX0_sizeOf, Cond.code yX0_sizeOf cX0_sizeOf 4 (some .int), Cond.fieldLink RX0 9 "WrestleBook$Roster" "leagues" "[I"]
def wsX1_digest_r2 : List Cond := [Cond.methodLink RX1 138 yX0_highest, Cond.instanceMethod yX0_highest, Cond.selects RX0 yX0_highest yX0_highest, Cond.code yX0_highest cX0_highest 3 (some .int), Cond.fieldLink RX0 15 "WrestleBook$Roster" "ratings" "[I", Cond.methodLink RX0 37 Lib.Math.max.name, Cond.static Lib.Math.max.name, Cond.initialized "java/lang/Math", Cond.code Lib.Math.max.name Lib.Math.max.code 2 (some .int), Cond.methodLink RX1 141 yX0_lowest, Cond.instanceMethod yX0_lowest, Cond.selects RX0 yX0_lowest yX0_lowest, Cond.code yX0_lowest cX0_lowest 3 (some .int), Cond.methodLink RX0 47 Lib.Math.min.name, Cond.static Lib.Math.min.name, Cond.code Lib.Math.min.name Lib.Math.min.code 2 (some .int), Cond.methodLink RX1 181 yX1_told, Cond.instanceMethod yX1_told, Cond.selects RX1 yX1_told yX1_told, Cond.code yX1_told cX1_told 3 (some .int), Cond.methodLink RX1 47 yX1_checkWrestler, Cond.instanceMethod yX1_checkWrestler, Cond.selects RX1 yX1_checkWrestler yX1_checkWrestler, Cond.code yX1_checkWrestler cX1_checkWrestler 2 none]
def wsX1_digest_r3 : List Cond := [Cond.methodLink RX1 187 yX0_has, Cond.instanceMethod yX0_has, Cond.selects RX0 yX0_has yX0_has, Cond.code yX0_has cX0_has 2 (some .boolean), Cond.methodLink RX1 53 yX0_rating, Cond.instanceMethod yX0_rating, Cond.selects RX0 yX0_rating yX0_rating, Cond.code yX0_rating cX0_rating 2 (some .int), Cond.methodLink RX1 97 yX0_league, Cond.instanceMethod yX0_league, Cond.selects RX0 yX0_league yX0_league, Cond.code yX0_league cX0_league 2 (some .int), Cond.methodLink RX1 100 yX0_points, Cond.instanceMethod yX0_points, Cond.selects RX0 yX0_points yX0_points, Cond.code yX0_points cX0_points 2 (some .int), Cond.fieldLink RX0 18 "WrestleBook$Roster" "points" "[I", Cond.methodLink RX1 103 yX0_bouts, Cond.instanceMethod yX0_bouts, Cond.selects RX0 yX0_bouts yX0_bouts, Cond.code yX0_bouts cX0_bouts 2 (some .int), Cond.fieldLink RX0 21 "WrestleBook$Roster" "bouts" "[I", Cond.methodLink RX1 106 yX0_seasonBouts, Cond.instanceMethod yX0_seasonBouts]
def wsX1_digest_r4 : List Cond := [Cond.selects RX0 yX0_seasonBouts yX0_seasonBouts, Cond.code yX0_seasonBouts cX0_seasonBouts 2 (some .int), Cond.fieldLink RX0 24 "WrestleBook$Roster" "seasonBouts" "[I", Cond.methodLink RX1 109 yX0_winRow, Cond.instanceMethod yX0_winRow, Cond.selects RX0 yX0_winRow yX0_winRow, Cond.code yX0_winRow cX0_winRow 2 (some .int), Cond.fieldLink RX0 27 "WrestleBook$Roster" "winRows" "[I", Cond.methodLink RX1 112 yX0_best, Cond.instanceMethod yX0_best, Cond.selects RX0 yX0_best yX0_best, Cond.code yX0_best cX0_best 2 (some .int), Cond.fieldLink RX0 30 "WrestleBook$Roster" "bests" "[I", Cond.methodLink RX1 115 yX0_place, Cond.instanceMethod yX0_place, Cond.selects RX0 yX0_place yX0_place, Cond.code yX0_place cX0_place 4 (some .int), Cond.methodLink RX0 80 yX0_isAhead, Cond.instanceMethod yX0_isAhead, Cond.selects RX0 yX0_isAhead yX0_isAhead, Cond.code yX0_isAhead cX0_isAhead 3 (some .boolean), Cond.methodLink RX1 118 yX0_weight, Cond.instanceMethod yX0_weight, Cond.selects RX0 yX0_weight yX0_weight]
def wsX1_digest_r5 : List Cond := [Cond.code yX0_weight cX0_weight 2 (some .int), Cond.methodLink RX1 184 yX1_next, Cond.instanceMethod yX1_next, Cond.selects RX1 yX1_next yX1_next, Cond.code yX1_next cX1_next 1 (some .int), Cond.methodLink RX1 159 yX0_bestPair, Cond.instanceMethod yX0_bestPair, Cond.selects RX0 yX0_bestPair yX0_bestPair, Cond.code yX0_bestPair cX0_bestPair 8 (some .int), Cond.methodLink RX0 90 yX0_unevenness, Cond.instanceMethod yX0_unevenness, Cond.selects RX0 yX0_unevenness yX0_unevenness, Cond.code yX0_unevenness cX0_unevenness 3 (some .int), Cond.methodLink RX0 87 Lib.Math.abs.name, Cond.static Lib.Math.abs.name, Cond.code Lib.Math.abs.name Lib.Math.abs.code 1 (some .int), Cond.methodLink RX0 56 yX0_expectation, Cond.instanceMethod yX0_expectation, Cond.selects RX0 yX0_expectation yX0_expectation, Cond.code yX0_expectation cX0_expectation 3 (some .int), Cond.methodLink RX0 43 yX0_expectedOfHigher, Cond.static yX0_expectedOfHigher, Cond.code yX0_expectedOfHigher cX0_expectedOfHigher 4 (some .int), Cond.fieldLink RX0 50 "WrestleBook$Roster" "EXPECTED" "[I"]
def wsX1_digest : List Cond := .code yX1_digest cX1_digest 5 (some .long) :: ((wsX1_digest_r1 ++ (wsX1_digest_r2 ++ (wsX1_digest_r3 ++ (wsX1_digest_r4 ++ wsX1_digest_r5)))) ++ wsX10 ++ wsX00 ++ (vx_atS RX1 125 "java/lang/IndexOutOfBoundsException" ["java/lang/RuntimeException", "java/lang/Exception"]).filter goodWord)
def wsX2_init : List Cond := .code yX2_init cX2_init 1 none :: ([.methodLink RX2 1 objectInit, .instanceMethod objectInit, .code objectInit ⟨#[0xb1]⟩ 1 none, .classLink RX2 7 "[I", .fieldLink RX2 9 "WrestleBookLaw$Sim" "all" "[[I"] ++ wsX20)
def wsX2_expected : List Cond := .code yX2_expected cX2_expected 7 (some .int) :: ([.fieldLink RX2 9 "WrestleBookLaw$Sim" "all" "[[I", .arrayClass .int, .methodLink RX2 15 yX2_expected, .instanceMethod yX2_expected, .selects RX2 yX2_expected yX2_expected, .initialized RX2] ++ wsX20)
def wsX2_weight : List Cond := .code yX2_weight cX2_weight 2 (some .int) :: ([.fieldLink RX2 9 "WrestleBookLaw$Sim" "all" "[[I"] ++ wsX20)
def wsX2_change : List Cond := .code yX2_change cX2_change 6 (some .int) :: ([.fieldLink RX2 9 "WrestleBookLaw$Sim" "all" "[[I", .methodLink RX2 19 yX2_weight, .instanceMethod yX2_weight, .selects RX2 yX2_weight yX2_weight, .initialized RX2, .code yX2_weight cX2_weight 2 (some .int), .methodLink RX2 15 yX2_expected, .instanceMethod yX2_expected, .selects RX2 yX2_expected yX2_expected, .code yX2_expected cX2_expected 7 (some .int), .arrayClass .int] ++ wsX20)
def wsX2_raise : List Cond := .code yX2_raise cX2_raise 3 none :: ([.fieldLink RX2 9 "WrestleBookLaw$Sim" "all" "[[I"] ++ wsX20)
def wsX2_note : List Cond := .code yX2_note cX2_note 3 none :: ([.fieldLink RX2 9 "WrestleBookLaw$Sim" "all" "[[I"] ++ wsX20)
def wsX2_bout_r1 : List Cond := [Cond.fieldLink RX2 27 "WrestleBookLaw$Sim" "upsets" "I", Cond.fieldLink RX2 38 "WrestleBookLaw$Sim" "bouts" "I", Cond.methodLink RX2 23 yX2_change, Cond.instanceMethod yX2_change, Cond.selects RX2 yX2_change yX2_change, Cond.initialized RX2, Cond.code yX2_change cX2_change 6 (some .int), Cond.fieldLink RX2 9 "WrestleBookLaw$Sim" "all" "[[I", Cond.methodLink RX2 19 yX2_weight, Cond.instanceMethod yX2_weight, Cond.selects RX2 yX2_weight yX2_weight, Cond.code yX2_weight cX2_weight 2 (some .int), Cond.methodLink RX2 15 yX2_expected, Cond.instanceMethod yX2_expected, Cond.selects RX2 yX2_expected yX2_expected, Cond.code yX2_expected cX2_expected 7 (some .int), Cond.arrayClass .int, Cond.methodLink RX2 31 yX2_raise, Cond.instanceMethod yX2_raise, Cond.selects RX2 yX2_raise yX2_raise, Cond.code yX2_raise cX2_raise 3 none, Cond.methodLink RX2 35 yX2_note, Cond.instanceMethod yX2_note, Cond.selects RX2 yX2_note yX2_note]
def wsX2_bout_r2 : List Cond := [Cond.code yX2_note cX2_note 3 none]
def wsX2_bout : List Cond := .code yX2_bout cX2_bout 6 (some .int) :: ((wsX2_bout_r1 ++ wsX2_bout_r2) ++ wsX20)
def wsX2_order : List Cond := .code yX2_order cX2_order 7 (some (.array .int)) :: ([.fieldLink RX2 9 "WrestleBookLaw$Sim" "all" "[[I", .arrayClass .int] ++ wsX20)
def wsX2_end : List Cond := .code yX2_end cX2_end 6 (some .int) :: ([.fieldLink RX2 9 "WrestleBookLaw$Sim" "all" "[[I", .fieldLink RX2 45 "WrestleBookLaw$Sim" "season" "I", .methodLink RX2 31 yX2_raise, .instanceMethod yX2_raise, .selects RX2 yX2_raise yX2_raise, .initialized RX2, .code yX2_raise cX2_raise 3 none, .methodLink RX2 41 yX2_order, .instanceMethod yX2_order, .selects RX2 yX2_order yX2_order, .code yX2_order cX2_order 7 (some (.array .int)), .arrayClass .int] ++ wsX20)
def wsX2_off : List Cond := .code yX2_off cX2_off 4 (some .int) :: ([.methodLink RX2 15 yX2_expected, .instanceMethod yX2_expected, .selects RX2 yX2_expected yX2_expected, .initialized RX2, .code yX2_expected cX2_expected 7 (some .int), .fieldLink RX2 9 "WrestleBookLaw$Sim" "all" "[[I", .arrayClass .int] ++ wsX20)
def wsX2_match : List Cond := .code yX2_match cX2_match 4 (some .int) :: ([.fieldLink RX2 9 "WrestleBookLaw$Sim" "all" "[[I", .methodLink RX2 48 yX2_off, .instanceMethod yX2_off, .selects RX2 yX2_off yX2_off, .initialized RX2, .code yX2_off cX2_off 4 (some .int), .methodLink RX2 15 yX2_expected, .instanceMethod yX2_expected, .selects RX2 yX2_expected yX2_expected, .code yX2_expected cX2_expected 7 (some .int), .arrayClass .int] ++ wsX20)
def wsX2_next : List Cond := .code yX2_next cX2_next 7 (some .int) :: ([.fieldLink RX2 9 "WrestleBookLaw$Sim" "all" "[[I", .methodLink RX2 48 yX2_off, .instanceMethod yX2_off, .selects RX2 yX2_off yX2_off, .initialized RX2, .code yX2_off cX2_off 4 (some .int), .methodLink RX2 15 yX2_expected, .instanceMethod yX2_expected, .selects RX2 yX2_expected yX2_expected, .code yX2_expected cX2_expected 7 (some .int), .arrayClass .int] ++ wsX20)
def wsX2_highest : List Cond := .code yX2_highest cX2_highest 6 (some .int) :: ([.fieldLink RX2 9 "WrestleBookLaw$Sim" "all" "[[I", .methodLink RX2 57 Lib.Math.max.name, .static Lib.Math.max.name, .initialized "java/lang/Math", .code Lib.Math.max.name Lib.Math.max.code 2 (some .int)] ++ wsX20)
def wsX2_isSame_r1 : List Cond := [Cond.fieldLink RX2 9 "WrestleBookLaw$Sim" "all" "[[I", Cond.methodLink RX2 72 Lib.Math.min.name, Cond.static Lib.Math.min.name, Cond.initialized "java/lang/Math", Cond.code Lib.Math.min.name Lib.Math.min.code 2 (some .int), Cond.arrayClass .int, Cond.fieldLink RX2 45 "WrestleBookLaw$Sim" "season" "I", Cond.fieldLink RX2 38 "WrestleBookLaw$Sim" "bouts" "I", Cond.fieldLink RX2 27 "WrestleBookLaw$Sim" "upsets" "I", Cond.methodLink RX2 62 yX1_told, Cond.instanceMethod yX1_told, Cond.selects RX1 yX1_told yX1_told, Cond.initialized RX1, Cond.code yX1_told cX1_told 3 (some .int), Cond.classLink RX1 121 "java/lang/IndexOutOfBoundsException", Cond.initialized "java/lang/IndexOutOfBoundsException", Cond.fieldLink RX1 10 "WrestleBook" "roster" "LWrestleBook$Roster;", Cond.methodLink RX1 47 yX1_checkWrestler, Cond.instanceMethod yX1_checkWrestler, Cond.selects RX1 yX1_checkWrestler yX1_checkWrestler, Cond.code yX1_checkWrestler cX1_checkWrestler 2 none, Cond.methodLink RX1 187 yX0_has, Cond.instanceMethod yX0_has, Cond.selects RX0 yX0_has yX0_has]
def wsX2_isSame_r2 : List Cond := [Cond.initialized RX0, Cond.code yX0_has cX0_has 2 (some .boolean), Cond.fieldLink RX0 33 "WrestleBook$Roster" "size" "I", Cond.methodLink RX1 53 yX0_rating, Cond.instanceMethod yX0_rating, Cond.selects RX0 yX0_rating yX0_rating, Cond.code yX0_rating cX0_rating 2 (some .int), Cond.fieldLink RX0 15 "WrestleBook$Roster" "ratings" "[I", Cond.methodLink RX1 97 yX0_league, Cond.instanceMethod yX0_league, Cond.selects RX0 yX0_league yX0_league, Cond.code yX0_league cX0_league 2 (some .int), Cond.fieldLink RX0 9 "WrestleBook$Roster" "leagues" "[I", Cond.methodLink RX1 100 yX0_points, Cond.instanceMethod yX0_points, Cond.selects RX0 yX0_points yX0_points, Cond.code yX0_points cX0_points 2 (some .int), Cond.fieldLink RX0 18 "WrestleBook$Roster" "points" "[I", Cond.methodLink RX1 103 yX0_bouts, Cond.instanceMethod yX0_bouts, Cond.selects RX0 yX0_bouts yX0_bouts, Cond.code yX0_bouts cX0_bouts 2 (some .int), Cond.fieldLink RX0 21 "WrestleBook$Roster" "bouts" "[I", Cond.methodLink RX1 106 yX0_seasonBouts]
def wsX2_isSame_r3 : List Cond := [Cond.instanceMethod yX0_seasonBouts, Cond.selects RX0 yX0_seasonBouts yX0_seasonBouts, Cond.code yX0_seasonBouts cX0_seasonBouts 2 (some .int), Cond.fieldLink RX0 24 "WrestleBook$Roster" "seasonBouts" "[I", Cond.methodLink RX1 109 yX0_winRow, Cond.instanceMethod yX0_winRow, Cond.selects RX0 yX0_winRow yX0_winRow, Cond.code yX0_winRow cX0_winRow 2 (some .int), Cond.fieldLink RX0 27 "WrestleBook$Roster" "winRows" "[I", Cond.methodLink RX1 112 yX0_best, Cond.instanceMethod yX0_best, Cond.selects RX0 yX0_best yX0_best, Cond.code yX0_best cX0_best 2 (some .int), Cond.fieldLink RX0 30 "WrestleBook$Roster" "bests" "[I", Cond.methodLink RX1 115 yX0_place, Cond.instanceMethod yX0_place, Cond.selects RX0 yX0_place yX0_place, Cond.code yX0_place cX0_place 4 (some .int), Cond.methodLink RX0 80 yX0_isAhead, Cond.instanceMethod yX0_isAhead, Cond.selects RX0 yX0_isAhead yX0_isAhead, Cond.code yX0_isAhead cX0_isAhead 3 (some .boolean), Cond.methodLink RX1 118 yX0_weight, Cond.instanceMethod yX0_weight]
def wsX2_isSame_r4 : List Cond := [Cond.selects RX0 yX0_weight yX0_weight, Cond.code yX0_weight cX0_weight 2 (some .int), Cond.methodLink RX2 19 yX2_weight, Cond.instanceMethod yX2_weight, Cond.selects RX2 yX2_weight yX2_weight, Cond.initialized RX2, Cond.code yX2_weight cX2_weight 2 (some .int), Cond.methodLink RX2 67 yX1_match, Cond.instanceMethod yX1_match, Cond.selects RX1 yX1_match yX1_match, Cond.code yX1_match cX1_match 2 (some .int), Cond.methodLink RX1 156 yX0_evenest, Cond.instanceMethod yX0_evenest, Cond.selects RX0 yX0_evenest yX0_evenest, Cond.code yX0_evenest cX0_evenest 4 (some .int), Cond.methodLink RX0 90 yX0_unevenness, Cond.instanceMethod yX0_unevenness, Cond.selects RX0 yX0_unevenness yX0_unevenness, Cond.code yX0_unevenness cX0_unevenness 3 (some .int), Cond.methodLink RX0 87 Lib.Math.abs.name, Cond.static Lib.Math.abs.name, Cond.code Lib.Math.abs.name Lib.Math.abs.code 1 (some .int), Cond.methodLink RX0 56 yX0_expectation, Cond.instanceMethod yX0_expectation]
def wsX2_isSame_r5 : List Cond := [Cond.selects RX0 yX0_expectation yX0_expectation, Cond.code yX0_expectation cX0_expectation 3 (some .int), Cond.methodLink RX0 43 yX0_expectedOfHigher, Cond.static yX0_expectedOfHigher, Cond.code yX0_expectedOfHigher cX0_expectedOfHigher 4 (some .int), Cond.methodLink RX0 47 Lib.Math.min.name, Cond.fieldLink RX0 50 "WrestleBook$Roster" "EXPECTED" "[I", Cond.methodLink RX2 70 yX2_match, Cond.instanceMethod yX2_match, Cond.selects RX2 yX2_match yX2_match, Cond.code yX2_match cX2_match 4 (some .int), Cond.methodLink RX2 48 yX2_off, Cond.instanceMethod yX2_off, Cond.selects RX2 yX2_off yX2_off, Cond.code yX2_off cX2_off 4 (some .int), Cond.methodLink RX2 15 yX2_expected, Cond.instanceMethod yX2_expected, Cond.selects RX2 yX2_expected yX2_expected, Cond.code yX2_expected cX2_expected 7 (some .int), Cond.methodLink RX2 71 yX1_expected, Cond.instanceMethod yX1_expected, Cond.selects RX1 yX1_expected yX1_expected, Cond.code yX1_expected cX1_expected 3 (some .int), Cond.methodLink RX1 93 yX0_expectation]
def wsX2_isSame_r6 : List Cond := [Cond.methodLink RX2 75 yX2_highest, Cond.instanceMethod yX2_highest, Cond.selects RX2 yX2_highest yX2_highest, Cond.code yX2_highest cX2_highest 6 (some .int), Cond.methodLink RX2 57 Lib.Math.max.name, Cond.static Lib.Math.max.name, Cond.code Lib.Math.max.name Lib.Math.max.code 2 (some .int), Cond.methodLink RX2 41 yX2_order, Cond.instanceMethod yX2_order, Cond.selects RX2 yX2_order yX2_order, Cond.code yX2_order cX2_order 7 (some (.array .int)), Cond.methodLink RX2 79 yX1_at, Cond.instanceMethod yX1_at, Cond.selects RX1 yX1_at yX1_at, Cond.code yX1_at cX1_at 4 (some .int), Cond.methodLink RX1 23 yX1_isLeague, Cond.static yX1_isLeague, Cond.code yX1_isLeague cX1_isLeague 1 (some .boolean), Cond.methodLink RX1 126 yX0_standingAt, Cond.instanceMethod yX0_standingAt, Cond.selects RX0 yX0_standingAt yX0_standingAt, Cond.code yX0_standingAt cX0_standingAt 4 (some .int), Cond.methodLink RX0 84 yX0_place, Cond.methodLink RX2 82 yX1_count]
def wsX2_isSame_r7 : List Cond := [Cond.instanceMethod yX1_count, Cond.selects RX1 yX1_count yX1_count, Cond.code yX1_count cX1_count 2 (some .int), Cond.fieldLink RX1 90 "WrestleBook" "season" "I", Cond.fieldLink RX1 74 "WrestleBook" "boutsHeld" "I", Cond.fieldLink RX1 70 "WrestleBook" "upsets" "I", Cond.methodLink RX1 131 yX0_size, Cond.instanceMethod yX0_size, Cond.selects RX0 yX0_size yX0_size, Cond.code yX0_size cX0_size 1 (some .int), Cond.methodLink RX1 135 yX0_sizeOf, Cond.instanceMethod yX0_sizeOf, Cond.selects RX0 yX0_sizeOf yX0_sizeOf, Cond.code yX0_sizeOf cX0_sizeOf 4 (some .int), Cond.methodLink RX1 138 yX0_highest, Cond.instanceMethod yX0_highest, Cond.selects RX0 yX0_highest yX0_highest, Cond.code yX0_highest cX0_highest 3 (some .int), Cond.methodLink RX0 37 Lib.Math.max.name, Cond.methodLink RX1 141 yX0_lowest, Cond.instanceMethod yX0_lowest, Cond.selects RX0 yX0_lowest yX0_lowest, Cond.code yX0_lowest cX0_lowest 3 (some .int), Cond.methodLink RX2 85 yX1_next]
def wsX2_isSame_r8 : List Cond := [Cond.instanceMethod yX1_next, Cond.selects RX1 yX1_next yX1_next, Cond.code yX1_next cX1_next 1 (some .int), Cond.methodLink RX1 159 yX0_bestPair, Cond.instanceMethod yX0_bestPair, Cond.selects RX0 yX0_bestPair yX0_bestPair, Cond.code yX0_bestPair cX0_bestPair 8 (some .int), Cond.methodLink RX2 88 yX2_next, Cond.instanceMethod yX2_next, Cond.selects RX2 yX2_next yX2_next, Cond.code yX2_next cX2_next 7 (some .int), Cond.methodLink RX2 89 yX1_mean, Cond.instanceMethod yX1_mean, Cond.selects RX1 yX1_mean yX1_mean, Cond.code yX1_mean cX1_mean 2 (some .double), Cond.methodLink RX1 171 yX0_sumOfRatings, Cond.instanceMethod yX0_sumOfRatings, Cond.selects RX0 yX0_sumOfRatings yX0_sumOfRatings, Cond.code yX0_sumOfRatings cX0_sumOfRatings 3 (some .int)]
def wsX2_isSame : List Cond := .code yX2_isSame cX2_isSame 8 (some .boolean) :: ((wsX2_isSame_r1 ++ (wsX2_isSame_r2 ++ (wsX2_isSame_r3 ++ (wsX2_isSame_r4 ++ (wsX2_isSame_r5 ++ (wsX2_isSame_r6 ++ (wsX2_isSame_r7 ++ wsX2_isSame_r8))))))) ++ wsX20 ++ wsX10 ++ wsX00 ++ (vx_atS RX1 125 "java/lang/IndexOutOfBoundsException" ["java/lang/RuntimeException", "java/lang/Exception"]).filter goodWord)
def wsJ9_abs_0f7a4 : List Cond := .code yJ9_abs_0f7a4 cJ9_abs_0f7a4 1 (some .int) :: ([])
def wsJ9_abs_294c1 : List Cond := .code yJ9_abs_294c1 cJ9_abs_294c1 2 (some .double) :: ([.methodLink RJ9 79 ⟨"java/lang/Double", "doubleToRawLongBits", "(D)J"⟩, .native ⟨"java/lang/Double", "doubleToRawLongBits", "(D)J"⟩, .static ⟨"java/lang/Double", "doubleToRawLongBits", "(D)J"⟩, .initialized "java/lang/Double", .constantLong RJ9 135 (9223372036854775807), .methodLink RJ9 166 ⟨"java/lang/Double", "longBitsToDouble", "(J)D"⟩, .native ⟨"java/lang/Double", "longBitsToDouble", "(J)D"⟩, .static ⟨"java/lang/Double", "longBitsToDouble", "(J)D"⟩])
def wsJ9_max_7cf53 : List Cond := .code yJ9_max_7cf53 cJ9_max_7cf53 2 (some .int) :: ([])
def wsJ9_min_7cf53 : List Cond := .code yJ9_min_7cf53 cJ9_min_7cf53 2 (some .int) :: ([])
def wsL_below : List Cond := .code yL_below cL_below 2 (some .int) :: ([.constant RL 7 (2147483647)])
def wsL_cell : List Cond := .code yL_cell cL_cell 2 (some .int) :: ([.constant RL 8 (790386105)])
def wsL_act_r1 : List Cond := [Cond.classLink RL 29 "java/lang/IllegalStateException", Cond.fieldLink RL 9 "WrestleBookLaw$Sim" "all" "[[I", Cond.classLink RL 21 "[I", Cond.arrayClass .int, Cond.methodLink RL 15 yL_below, Cond.static yL_below, Cond.initialized RL, Cond.code yL_below cL_below 2 (some .int), Cond.constant RL 7 (2147483647), Cond.methodLink RL 23 yX1_join, Cond.instanceMethod yX1_join, Cond.selects RX1 yX1_join yX1_join, Cond.initialized RX1, Cond.code yX1_join cX1_join 2 (some .int), Cond.classLink RX1 27 "java/lang/IllegalArgumentException", Cond.initialized "java/lang/IllegalArgumentException", Cond.classLink RX1 38 "java/lang/IllegalStateException", Cond.initialized "java/lang/IllegalStateException", Cond.fieldLink RX1 10 "WrestleBook" "roster" "LWrestleBook$Roster;", Cond.methodLink RX1 23 yX1_isLeague, Cond.static yX1_isLeague, Cond.code yX1_isLeague cX1_isLeague 1 (some .boolean), Cond.methodLink RX1 34 yX0_isFull, Cond.instanceMethod yX0_isFull]
def wsL_act_r2 : List Cond := [Cond.selects RX0 yX0_isFull yX0_isFull, Cond.initialized RX0, Cond.code yX0_isFull cX0_isFull 1 (some .boolean), Cond.fieldLink RX0 33 "WrestleBook$Roster" "size" "I", Cond.methodLink RX1 43 yX0_add, Cond.instanceMethod yX0_add, Cond.selects RX0 yX0_add yX0_add, Cond.code yX0_add cX0_add 3 (some .int), Cond.fieldLink RX0 9 "WrestleBook$Roster" "leagues" "[I", Cond.fieldLink RX0 15 "WrestleBook$Roster" "ratings" "[I", Cond.fieldLink RX0 30 "WrestleBook$Roster" "bests" "[I", Cond.methodLink RL 31 yX2_raise, Cond.instanceMethod yX2_raise, Cond.selects RX2 yX2_raise yX2_raise, Cond.initialized RX2, Cond.code yX2_raise cX2_raise 3 none, Cond.fieldLink RX2 9 "WrestleBookLaw$Sim" "all" "[[I", Cond.methodLink RL 35 yX1_rate, Cond.instanceMethod yX1_rate, Cond.selects RX1 yX1_rate yX1_rate, Cond.code yX1_rate cX1_rate 4 (some .int), Cond.methodLink RX1 47 yX1_checkWrestler, Cond.instanceMethod yX1_checkWrestler, Cond.selects RX1 yX1_checkWrestler yX1_checkWrestler]
def wsL_act_r3 : List Cond := [Cond.code yX1_checkWrestler cX1_checkWrestler 2 none, Cond.classLink RX1 121 "java/lang/IndexOutOfBoundsException", Cond.initialized "java/lang/IndexOutOfBoundsException", Cond.methodLink RX1 187 yX0_has, Cond.instanceMethod yX0_has, Cond.selects RX0 yX0_has yX0_has, Cond.code yX0_has cX0_has 2 (some .boolean), Cond.methodLink RX1 53 yX0_rating, Cond.instanceMethod yX0_rating, Cond.selects RX0 yX0_rating yX0_rating, Cond.code yX0_rating cX0_rating 2 (some .int), Cond.methodLink RX1 56 yX0_setRating, Cond.instanceMethod yX0_setRating, Cond.selects RX0 yX0_setRating yX0_setRating, Cond.code yX0_setRating cX0_setRating 3 none, Cond.methodLink RX0 37 Lib.Math.max.name, Cond.static Lib.Math.max.name, Cond.initialized "java/lang/Math", Cond.code Lib.Math.max.name Lib.Math.max.code 2 (some .int), Cond.methodLink RL 38 yX1_end, Cond.instanceMethod yX1_end, Cond.selects RX1 yX1_end yX1_end, Cond.code yX1_end cX1_end 3 (some .int), Cond.fieldLink RX1 90 "WrestleBook" "season" "I"]
def wsL_act_r4 : List Cond := [Cond.methodLink RX1 81 yX0_drift, Cond.instanceMethod yX0_drift, Cond.selects RX0 yX0_drift yX0_drift, Cond.code yX0_drift cX0_drift 2 none, Cond.fieldLink RX0 24 "WrestleBook$Roster" "seasonBouts" "[I", Cond.methodLink RX0 70 yX0_setRating, Cond.methodLink RX1 84 yX0_exchange, Cond.instanceMethod yX0_exchange, Cond.selects RX0 yX0_exchange yX0_exchange, Cond.code yX0_exchange cX0_exchange 4 (some .boolean), Cond.fieldLink RX0 18 "WrestleBook$Roster" "points" "[I", Cond.methodLink RX0 74 yX0_sizeOf, Cond.instanceMethod yX0_sizeOf, Cond.selects RX0 yX0_sizeOf yX0_sizeOf, Cond.code yX0_sizeOf cX0_sizeOf 4 (some .int), Cond.methodLink RX0 77 yX0_standingAt, Cond.instanceMethod yX0_standingAt, Cond.selects RX0 yX0_standingAt yX0_standingAt, Cond.code yX0_standingAt cX0_standingAt 4 (some .int), Cond.methodLink RX0 84 yX0_place, Cond.instanceMethod yX0_place, Cond.selects RX0 yX0_place yX0_place, Cond.code yX0_place cX0_place 4 (some .int), Cond.methodLink RX0 80 yX0_isAhead]
def wsL_act_r5 : List Cond := [Cond.instanceMethod yX0_isAhead, Cond.selects RX0 yX0_isAhead yX0_isAhead, Cond.code yX0_isAhead cX0_isAhead 3 (some .boolean), Cond.methodLink RX1 87 yX0_clearSeason, Cond.instanceMethod yX0_clearSeason, Cond.selects RX0 yX0_clearSeason yX0_clearSeason, Cond.code yX0_clearSeason cX0_clearSeason 2 none, Cond.methodLink RL 42 yX2_end, Cond.instanceMethod yX2_end, Cond.selects RX2 yX2_end yX2_end, Cond.code yX2_end cX2_end 6 (some .int), Cond.fieldLink RX2 45 "WrestleBookLaw$Sim" "season" "I", Cond.methodLink RX2 31 yX2_raise, Cond.methodLink RX2 41 yX2_order, Cond.instanceMethod yX2_order, Cond.selects RX2 yX2_order yX2_order, Cond.code yX2_order cX2_order 7 (some (.array .int)), Cond.methodLink RL 43 yX1_bout, Cond.instanceMethod yX1_bout, Cond.selects RX1 yX1_bout yX1_bout, Cond.code yX1_bout cX1_bout 4 (some .int), Cond.fieldLink RX1 70 "WrestleBook" "upsets" "I", Cond.fieldLink RX1 74 "WrestleBook" "boutsHeld" "I", Cond.methodLink RX1 60 yX1_checkDifferent]
def wsL_act_r6 : List Cond := [Cond.static yX1_checkDifferent, Cond.code yX1_checkDifferent cX1_checkDifferent 2 none, Cond.methodLink RX1 63 yX1_checkResult, Cond.static yX1_checkResult, Cond.code yX1_checkResult cX1_checkResult 1 none, Cond.methodLink RX1 66 yX0_isUpset, Cond.instanceMethod yX0_isUpset, Cond.selects RX0 yX0_isUpset yX0_isUpset, Cond.code yX0_isUpset cX0_isUpset 4 (some .boolean), Cond.methodLink RX0 56 yX0_expectation, Cond.instanceMethod yX0_expectation, Cond.selects RX0 yX0_expectation yX0_expectation, Cond.code yX0_expectation cX0_expectation 3 (some .int), Cond.methodLink RX0 43 yX0_expectedOfHigher, Cond.static yX0_expectedOfHigher, Cond.code yX0_expectedOfHigher cX0_expectedOfHigher 4 (some .int), Cond.methodLink RX0 47 Lib.Math.min.name, Cond.static Lib.Math.min.name, Cond.code Lib.Math.min.name Lib.Math.min.code 2 (some .int), Cond.fieldLink RX0 50 "WrestleBook$Roster" "EXPECTED" "[I", Cond.methodLink RX1 77 yX0_hold, Cond.instanceMethod yX0_hold, Cond.selects RX0 yX0_hold yX0_hold, Cond.code yX0_hold cX0_hold 6 (some .int)]
def wsL_act_r7 : List Cond := [Cond.methodLink RX0 59 yX0_gain, Cond.instanceMethod yX0_gain, Cond.selects RX0 yX0_gain yX0_gain, Cond.code yX0_gain cX0_gain 7 (some .int), Cond.methodLink RX0 53 yX0_weight, Cond.instanceMethod yX0_weight, Cond.selects RX0 yX0_weight yX0_weight, Cond.code yX0_weight cX0_weight 2 (some .int), Cond.fieldLink RX0 21 "WrestleBook$Roster" "bouts" "[I", Cond.methodLink RX0 63 yX0_enter, Cond.instanceMethod yX0_enter, Cond.selects RX0 yX0_enter yX0_enter, Cond.code yX0_enter cX0_enter 4 none, Cond.fieldLink RX0 27 "WrestleBook$Roster" "winRows" "[I", Cond.methodLink RL 47 yX2_bout, Cond.instanceMethod yX2_bout, Cond.selects RX2 yX2_bout yX2_bout, Cond.code yX2_bout cX2_bout 6 (some .int), Cond.fieldLink RX2 27 "WrestleBookLaw$Sim" "upsets" "I", Cond.fieldLink RX2 38 "WrestleBookLaw$Sim" "bouts" "I", Cond.methodLink RX2 23 yX2_change, Cond.instanceMethod yX2_change, Cond.selects RX2 yX2_change yX2_change, Cond.code yX2_change cX2_change 6 (some .int)]
def wsL_act_r8 : List Cond := [Cond.methodLink RX2 19 yX2_weight, Cond.instanceMethod yX2_weight, Cond.selects RX2 yX2_weight yX2_weight, Cond.code yX2_weight cX2_weight 2 (some .int), Cond.methodLink RX2 15 yX2_expected, Cond.instanceMethod yX2_expected, Cond.selects RX2 yX2_expected yX2_expected, Cond.code yX2_expected cX2_expected 7 (some .int), Cond.methodLink RX2 35 yX2_note, Cond.instanceMethod yX2_note, Cond.selects RX2 yX2_note yX2_note, Cond.code yX2_note cX2_note 3 none]
def wsL_act : List Cond := .codeWith yL_act cL_act 9 (some .boolean) [(174, 199, 200, 29)] :: ((wsL_act_r1 ++ (wsL_act_r2 ++ (wsL_act_r3 ++ (wsL_act_r4 ++ (wsL_act_r5 ++ (wsL_act_r6 ++ (wsL_act_r7 ++ wsL_act_r8))))))) ++ wsX20 ++ wsX10 ++ wsX00 ++ (vx_atS RX1 31 "java/lang/IllegalArgumentException" ["java/lang/RuntimeException", "java/lang/Exception"]).filter goodWord ++ (vx_atS RX1 42 "java/lang/IllegalStateException" ["java/lang/RuntimeException", "java/lang/Exception"]).filter goodWord ++ (vx_atS RX1 125 "java/lang/IndexOutOfBoundsException" ["java/lang/RuntimeException", "java/lang/Exception"]).filter goodWord)
def wsL_build_r1 : List Cond := [Cond.classLink RL 10 RX2, Cond.instantiable RX2 4, Cond.initialized RX2, Cond.constant RL 53 (100000), Cond.instanceMethod yX2_init, Cond.code yX2_init cX2_init 1 none, Cond.methodLink RX2 1 objectInit, Cond.instanceMethod objectInit, Cond.code objectInit ⟨#[0xb1]⟩ 1 none, Cond.classLink RX2 7 "[I", Cond.fieldLink RX2 9 "WrestleBookLaw$Sim" "all" "[[I", Cond.methodLink RL 49 yL_cell, Cond.static yL_cell, Cond.initialized RL, Cond.code yL_cell cL_cell 2 (some .int), Cond.constant RL 8 (790386105), Cond.methodLink RL 15 yL_below, Cond.static yL_below, Cond.code yL_below cL_below 2 (some .int), Cond.constant RL 7 (2147483647), Cond.methodLink RL 54 yL_act, Cond.static yL_act, Cond.codeWith yL_act cL_act 9 (some .boolean) [(174, 199, 200, 29)], Cond.classLink RL 29 "java/lang/IllegalStateException"]
def wsL_build_r2 : List Cond := [Cond.fieldLink RL 9 "WrestleBookLaw$Sim" "all" "[[I", Cond.classLink RL 21 "[I", Cond.arrayClass .int, Cond.methodLink RL 23 yX1_join, Cond.instanceMethod yX1_join, Cond.selects RX1 yX1_join yX1_join, Cond.initialized RX1, Cond.code yX1_join cX1_join 2 (some .int), Cond.classLink RX1 27 "java/lang/IllegalArgumentException", Cond.initialized "java/lang/IllegalArgumentException", Cond.classLink RX1 38 "java/lang/IllegalStateException", Cond.initialized "java/lang/IllegalStateException", Cond.fieldLink RX1 10 "WrestleBook" "roster" "LWrestleBook$Roster;", Cond.methodLink RX1 23 yX1_isLeague, Cond.static yX1_isLeague, Cond.code yX1_isLeague cX1_isLeague 1 (some .boolean), Cond.methodLink RX1 34 yX0_isFull, Cond.instanceMethod yX0_isFull, Cond.selects RX0 yX0_isFull yX0_isFull, Cond.initialized RX0, Cond.code yX0_isFull cX0_isFull 1 (some .boolean), Cond.fieldLink RX0 33 "WrestleBook$Roster" "size" "I", Cond.methodLink RX1 43 yX0_add, Cond.instanceMethod yX0_add]
def wsL_build_r3 : List Cond := [Cond.selects RX0 yX0_add yX0_add, Cond.code yX0_add cX0_add 3 (some .int), Cond.fieldLink RX0 9 "WrestleBook$Roster" "leagues" "[I", Cond.fieldLink RX0 15 "WrestleBook$Roster" "ratings" "[I", Cond.fieldLink RX0 30 "WrestleBook$Roster" "bests" "[I", Cond.methodLink RL 31 yX2_raise, Cond.instanceMethod yX2_raise, Cond.selects RX2 yX2_raise yX2_raise, Cond.code yX2_raise cX2_raise 3 none, Cond.methodLink RL 35 yX1_rate, Cond.instanceMethod yX1_rate, Cond.selects RX1 yX1_rate yX1_rate, Cond.code yX1_rate cX1_rate 4 (some .int), Cond.methodLink RX1 47 yX1_checkWrestler, Cond.instanceMethod yX1_checkWrestler, Cond.selects RX1 yX1_checkWrestler yX1_checkWrestler, Cond.code yX1_checkWrestler cX1_checkWrestler 2 none, Cond.classLink RX1 121 "java/lang/IndexOutOfBoundsException", Cond.initialized "java/lang/IndexOutOfBoundsException", Cond.methodLink RX1 187 yX0_has, Cond.instanceMethod yX0_has, Cond.selects RX0 yX0_has yX0_has, Cond.code yX0_has cX0_has 2 (some .boolean), Cond.methodLink RX1 53 yX0_rating]
def wsL_build_r4 : List Cond := [Cond.instanceMethod yX0_rating, Cond.selects RX0 yX0_rating yX0_rating, Cond.code yX0_rating cX0_rating 2 (some .int), Cond.methodLink RX1 56 yX0_setRating, Cond.instanceMethod yX0_setRating, Cond.selects RX0 yX0_setRating yX0_setRating, Cond.code yX0_setRating cX0_setRating 3 none, Cond.methodLink RX0 37 Lib.Math.max.name, Cond.static Lib.Math.max.name, Cond.initialized "java/lang/Math", Cond.code Lib.Math.max.name Lib.Math.max.code 2 (some .int), Cond.methodLink RL 38 yX1_end, Cond.instanceMethod yX1_end, Cond.selects RX1 yX1_end yX1_end, Cond.code yX1_end cX1_end 3 (some .int), Cond.fieldLink RX1 90 "WrestleBook" "season" "I", Cond.methodLink RX1 81 yX0_drift, Cond.instanceMethod yX0_drift, Cond.selects RX0 yX0_drift yX0_drift, Cond.code yX0_drift cX0_drift 2 none, Cond.fieldLink RX0 24 "WrestleBook$Roster" "seasonBouts" "[I", Cond.methodLink RX0 70 yX0_setRating, Cond.methodLink RX1 84 yX0_exchange, Cond.instanceMethod yX0_exchange]
def wsL_build_r5 : List Cond := [Cond.selects RX0 yX0_exchange yX0_exchange, Cond.code yX0_exchange cX0_exchange 4 (some .boolean), Cond.fieldLink RX0 18 "WrestleBook$Roster" "points" "[I", Cond.methodLink RX0 74 yX0_sizeOf, Cond.instanceMethod yX0_sizeOf, Cond.selects RX0 yX0_sizeOf yX0_sizeOf, Cond.code yX0_sizeOf cX0_sizeOf 4 (some .int), Cond.methodLink RX0 77 yX0_standingAt, Cond.instanceMethod yX0_standingAt, Cond.selects RX0 yX0_standingAt yX0_standingAt, Cond.code yX0_standingAt cX0_standingAt 4 (some .int), Cond.methodLink RX0 84 yX0_place, Cond.instanceMethod yX0_place, Cond.selects RX0 yX0_place yX0_place, Cond.code yX0_place cX0_place 4 (some .int), Cond.methodLink RX0 80 yX0_isAhead, Cond.instanceMethod yX0_isAhead, Cond.selects RX0 yX0_isAhead yX0_isAhead, Cond.code yX0_isAhead cX0_isAhead 3 (some .boolean), Cond.methodLink RX1 87 yX0_clearSeason, Cond.instanceMethod yX0_clearSeason, Cond.selects RX0 yX0_clearSeason yX0_clearSeason, Cond.code yX0_clearSeason cX0_clearSeason 2 none, Cond.methodLink RL 42 yX2_end]
def wsL_build_r6 : List Cond := [Cond.instanceMethod yX2_end, Cond.selects RX2 yX2_end yX2_end, Cond.code yX2_end cX2_end 6 (some .int), Cond.fieldLink RX2 45 "WrestleBookLaw$Sim" "season" "I", Cond.methodLink RX2 31 yX2_raise, Cond.methodLink RX2 41 yX2_order, Cond.instanceMethod yX2_order, Cond.selects RX2 yX2_order yX2_order, Cond.code yX2_order cX2_order 7 (some (.array .int)), Cond.methodLink RL 43 yX1_bout, Cond.instanceMethod yX1_bout, Cond.selects RX1 yX1_bout yX1_bout, Cond.code yX1_bout cX1_bout 4 (some .int), Cond.fieldLink RX1 70 "WrestleBook" "upsets" "I", Cond.fieldLink RX1 74 "WrestleBook" "boutsHeld" "I", Cond.methodLink RX1 60 yX1_checkDifferent, Cond.static yX1_checkDifferent, Cond.code yX1_checkDifferent cX1_checkDifferent 2 none, Cond.methodLink RX1 63 yX1_checkResult, Cond.static yX1_checkResult, Cond.code yX1_checkResult cX1_checkResult 1 none, Cond.methodLink RX1 66 yX0_isUpset, Cond.instanceMethod yX0_isUpset, Cond.selects RX0 yX0_isUpset yX0_isUpset]
def wsL_build_r7 : List Cond := [Cond.code yX0_isUpset cX0_isUpset 4 (some .boolean), Cond.methodLink RX0 56 yX0_expectation, Cond.instanceMethod yX0_expectation, Cond.selects RX0 yX0_expectation yX0_expectation, Cond.code yX0_expectation cX0_expectation 3 (some .int), Cond.methodLink RX0 43 yX0_expectedOfHigher, Cond.static yX0_expectedOfHigher, Cond.code yX0_expectedOfHigher cX0_expectedOfHigher 4 (some .int), Cond.methodLink RX0 47 Lib.Math.min.name, Cond.static Lib.Math.min.name, Cond.code Lib.Math.min.name Lib.Math.min.code 2 (some .int), Cond.fieldLink RX0 50 "WrestleBook$Roster" "EXPECTED" "[I", Cond.methodLink RX1 77 yX0_hold, Cond.instanceMethod yX0_hold, Cond.selects RX0 yX0_hold yX0_hold, Cond.code yX0_hold cX0_hold 6 (some .int), Cond.methodLink RX0 59 yX0_gain, Cond.instanceMethod yX0_gain, Cond.selects RX0 yX0_gain yX0_gain, Cond.code yX0_gain cX0_gain 7 (some .int), Cond.methodLink RX0 53 yX0_weight, Cond.instanceMethod yX0_weight, Cond.selects RX0 yX0_weight yX0_weight, Cond.code yX0_weight cX0_weight 2 (some .int)]
def wsL_build_r8 : List Cond := [Cond.fieldLink RX0 21 "WrestleBook$Roster" "bouts" "[I", Cond.methodLink RX0 63 yX0_enter, Cond.instanceMethod yX0_enter, Cond.selects RX0 yX0_enter yX0_enter, Cond.code yX0_enter cX0_enter 4 none, Cond.fieldLink RX0 27 "WrestleBook$Roster" "winRows" "[I", Cond.methodLink RL 47 yX2_bout, Cond.instanceMethod yX2_bout, Cond.selects RX2 yX2_bout yX2_bout, Cond.code yX2_bout cX2_bout 6 (some .int), Cond.fieldLink RX2 27 "WrestleBookLaw$Sim" "upsets" "I", Cond.fieldLink RX2 38 "WrestleBookLaw$Sim" "bouts" "I", Cond.methodLink RX2 23 yX2_change, Cond.instanceMethod yX2_change, Cond.selects RX2 yX2_change yX2_change, Cond.code yX2_change cX2_change 6 (some .int), Cond.methodLink RX2 19 yX2_weight, Cond.instanceMethod yX2_weight, Cond.selects RX2 yX2_weight yX2_weight, Cond.code yX2_weight cX2_weight 2 (some .int), Cond.methodLink RX2 15 yX2_expected, Cond.instanceMethod yX2_expected, Cond.selects RX2 yX2_expected yX2_expected, Cond.code yX2_expected cX2_expected 7 (some .int)]
def wsL_build_r9 : List Cond := [Cond.methodLink RX2 35 yX2_note, Cond.instanceMethod yX2_note, Cond.selects RX2 yX2_note yX2_note, Cond.code yX2_note cX2_note 3 none]
def wsL_build : List Cond := .code yL_build cL_build 5 (some (.object "WrestleBookLaw$Sim")) :: ((wsL_build_r1 ++ (wsL_build_r2 ++ (wsL_build_r3 ++ (wsL_build_r4 ++ (wsL_build_r5 ++ (wsL_build_r6 ++ (wsL_build_r7 ++ (wsL_build_r8 ++ wsL_build_r9)))))))) ++ wsX20 ++ wsX10 ++ wsX00 ++ (vx_atS RX1 31 "java/lang/IllegalArgumentException" ["java/lang/RuntimeException", "java/lang/Exception"]).filter goodWord ++ (vx_atS RX1 42 "java/lang/IllegalStateException" ["java/lang/RuntimeException", "java/lang/Exception"]).filter goodWord ++ (vx_atS RX1 125 "java/lang/IndexOutOfBoundsException" ["java/lang/RuntimeException", "java/lang/Exception"]).filter goodWord)
def wsL_law0_r1 : List Cond := [Cond.classLink RL 24 RX1, Cond.instantiable RX1 6, Cond.initialized RX1, Cond.arrayClass .int, Cond.methodLink RL 73 Lib.Math.max.name, Cond.static Lib.Math.max.name, Cond.initialized "java/lang/Math", Cond.code Lib.Math.max.name Lib.Math.max.code 2 (some .int), Cond.methodLink RL 78 Lib.Math.min.name, Cond.static Lib.Math.min.name, Cond.code Lib.Math.min.name Lib.Math.min.code 2 (some .int), Cond.constantDouble RL 98 (4562254508917369340), Cond.methodLink RL 110 Lib.Math.abs.name, Cond.static Lib.Math.abs.name, Cond.code Lib.Math.abs.name Lib.Math.abs.code 1 (some .int), Cond.methodLink RL 58 yX1_init, Cond.instanceMethod yX1_init, Cond.code yX1_init cX1_init 1 none, Cond.methodLink RX1 1 objectInit, Cond.instanceMethod objectInit, Cond.code objectInit ⟨#[0xb1]⟩ 1 none, Cond.classLink RX1 7 RX0, Cond.instantiable RX0 8, Cond.initialized RX0]
def wsL_law0_r2 : List Cond := [Cond.fieldLink RX1 10 "WrestleBook" "roster" "LWrestleBook$Roster;", Cond.fieldLink RX1 16 "WrestleBook" "trial" "LWrestleBook$Roster;", Cond.fieldLink RX1 19 "WrestleBook" "chances" "[I", Cond.instanceMethod yX0_init, Cond.code yX0_init cX0_init 1 none, Cond.methodLink RX0 3 objectInit, Cond.fieldLink RX0 9 "WrestleBook$Roster" "leagues" "[I", Cond.fieldLink RX0 15 "WrestleBook$Roster" "ratings" "[I", Cond.fieldLink RX0 18 "WrestleBook$Roster" "points" "[I", Cond.fieldLink RX0 21 "WrestleBook$Roster" "bouts" "[I", Cond.fieldLink RX0 24 "WrestleBook$Roster" "seasonBouts" "[I", Cond.fieldLink RX0 27 "WrestleBook$Roster" "winRows" "[I", Cond.fieldLink RX0 30 "WrestleBook$Roster" "bests" "[I", Cond.methodLink RL 59 yL_build, Cond.static yL_build, Cond.initialized RL, Cond.code yL_build cL_build 5 (some (.object "WrestleBookLaw$Sim")), Cond.classLink RL 10 RX2, Cond.instantiable RX2 4, Cond.initialized RX2, Cond.constant RL 53 (100000), Cond.instanceMethod yX2_init, Cond.code yX2_init cX2_init 1 none, Cond.methodLink RX2 1 objectInit]
def wsL_law0_r3 : List Cond := [Cond.classLink RX2 7 "[I", Cond.fieldLink RX2 9 "WrestleBookLaw$Sim" "all" "[[I", Cond.methodLink RL 49 yL_cell, Cond.static yL_cell, Cond.code yL_cell cL_cell 2 (some .int), Cond.constant RL 8 (790386105), Cond.methodLink RL 15 yL_below, Cond.static yL_below, Cond.code yL_below cL_below 2 (some .int), Cond.constant RL 7 (2147483647), Cond.methodLink RL 54 yL_act, Cond.static yL_act, Cond.codeWith yL_act cL_act 9 (some .boolean) [(174, 199, 200, 29)], Cond.classLink RL 29 "java/lang/IllegalStateException", Cond.fieldLink RL 9 "WrestleBookLaw$Sim" "all" "[[I", Cond.classLink RL 21 "[I", Cond.methodLink RL 23 yX1_join, Cond.instanceMethod yX1_join, Cond.selects RX1 yX1_join yX1_join, Cond.code yX1_join cX1_join 2 (some .int), Cond.classLink RX1 27 "java/lang/IllegalArgumentException", Cond.initialized "java/lang/IllegalArgumentException", Cond.classLink RX1 38 "java/lang/IllegalStateException", Cond.initialized "java/lang/IllegalStateException"]
def wsL_law0_r4 : List Cond := [Cond.methodLink RX1 23 yX1_isLeague, Cond.static yX1_isLeague, Cond.code yX1_isLeague cX1_isLeague 1 (some .boolean), Cond.methodLink RX1 34 yX0_isFull, Cond.instanceMethod yX0_isFull, Cond.selects RX0 yX0_isFull yX0_isFull, Cond.code yX0_isFull cX0_isFull 1 (some .boolean), Cond.fieldLink RX0 33 "WrestleBook$Roster" "size" "I", Cond.methodLink RX1 43 yX0_add, Cond.instanceMethod yX0_add, Cond.selects RX0 yX0_add yX0_add, Cond.code yX0_add cX0_add 3 (some .int), Cond.methodLink RL 31 yX2_raise, Cond.instanceMethod yX2_raise, Cond.selects RX2 yX2_raise yX2_raise, Cond.code yX2_raise cX2_raise 3 none, Cond.methodLink RL 35 yX1_rate, Cond.instanceMethod yX1_rate, Cond.selects RX1 yX1_rate yX1_rate, Cond.code yX1_rate cX1_rate 4 (some .int), Cond.methodLink RX1 47 yX1_checkWrestler, Cond.instanceMethod yX1_checkWrestler, Cond.selects RX1 yX1_checkWrestler yX1_checkWrestler, Cond.code yX1_checkWrestler cX1_checkWrestler 2 none]
def wsL_law0_r5 : List Cond := [Cond.classLink RX1 121 "java/lang/IndexOutOfBoundsException", Cond.initialized "java/lang/IndexOutOfBoundsException", Cond.methodLink RX1 187 yX0_has, Cond.instanceMethod yX0_has, Cond.selects RX0 yX0_has yX0_has, Cond.code yX0_has cX0_has 2 (some .boolean), Cond.methodLink RX1 53 yX0_rating, Cond.instanceMethod yX0_rating, Cond.selects RX0 yX0_rating yX0_rating, Cond.code yX0_rating cX0_rating 2 (some .int), Cond.methodLink RX1 56 yX0_setRating, Cond.instanceMethod yX0_setRating, Cond.selects RX0 yX0_setRating yX0_setRating, Cond.code yX0_setRating cX0_setRating 3 none, Cond.methodLink RX0 37 Lib.Math.max.name, Cond.methodLink RL 38 yX1_end, Cond.instanceMethod yX1_end, Cond.selects RX1 yX1_end yX1_end, Cond.code yX1_end cX1_end 3 (some .int), Cond.fieldLink RX1 90 "WrestleBook" "season" "I", Cond.methodLink RX1 81 yX0_drift, Cond.instanceMethod yX0_drift, Cond.selects RX0 yX0_drift yX0_drift, Cond.code yX0_drift cX0_drift 2 none]
def wsL_law0_r6 : List Cond := [Cond.methodLink RX0 70 yX0_setRating, Cond.methodLink RX1 84 yX0_exchange, Cond.instanceMethod yX0_exchange, Cond.selects RX0 yX0_exchange yX0_exchange, Cond.code yX0_exchange cX0_exchange 4 (some .boolean), Cond.methodLink RX0 74 yX0_sizeOf, Cond.instanceMethod yX0_sizeOf, Cond.selects RX0 yX0_sizeOf yX0_sizeOf, Cond.code yX0_sizeOf cX0_sizeOf 4 (some .int), Cond.methodLink RX0 77 yX0_standingAt, Cond.instanceMethod yX0_standingAt, Cond.selects RX0 yX0_standingAt yX0_standingAt, Cond.code yX0_standingAt cX0_standingAt 4 (some .int), Cond.methodLink RX0 84 yX0_place, Cond.instanceMethod yX0_place, Cond.selects RX0 yX0_place yX0_place, Cond.code yX0_place cX0_place 4 (some .int), Cond.methodLink RX0 80 yX0_isAhead, Cond.instanceMethod yX0_isAhead, Cond.selects RX0 yX0_isAhead yX0_isAhead, Cond.code yX0_isAhead cX0_isAhead 3 (some .boolean), Cond.methodLink RX1 87 yX0_clearSeason, Cond.instanceMethod yX0_clearSeason, Cond.selects RX0 yX0_clearSeason yX0_clearSeason]
def wsL_law0_r7 : List Cond := [Cond.code yX0_clearSeason cX0_clearSeason 2 none, Cond.methodLink RL 42 yX2_end, Cond.instanceMethod yX2_end, Cond.selects RX2 yX2_end yX2_end, Cond.code yX2_end cX2_end 6 (some .int), Cond.fieldLink RX2 45 "WrestleBookLaw$Sim" "season" "I", Cond.methodLink RX2 31 yX2_raise, Cond.methodLink RX2 41 yX2_order, Cond.instanceMethod yX2_order, Cond.selects RX2 yX2_order yX2_order, Cond.code yX2_order cX2_order 7 (some (.array .int)), Cond.methodLink RL 43 yX1_bout, Cond.instanceMethod yX1_bout, Cond.selects RX1 yX1_bout yX1_bout, Cond.code yX1_bout cX1_bout 4 (some .int), Cond.fieldLink RX1 70 "WrestleBook" "upsets" "I", Cond.fieldLink RX1 74 "WrestleBook" "boutsHeld" "I", Cond.methodLink RX1 60 yX1_checkDifferent, Cond.static yX1_checkDifferent, Cond.code yX1_checkDifferent cX1_checkDifferent 2 none, Cond.methodLink RX1 63 yX1_checkResult, Cond.static yX1_checkResult, Cond.code yX1_checkResult cX1_checkResult 1 none, Cond.methodLink RX1 66 yX0_isUpset]
def wsL_law0_r8 : List Cond := [Cond.instanceMethod yX0_isUpset, Cond.selects RX0 yX0_isUpset yX0_isUpset, Cond.code yX0_isUpset cX0_isUpset 4 (some .boolean), Cond.methodLink RX0 56 yX0_expectation, Cond.instanceMethod yX0_expectation, Cond.selects RX0 yX0_expectation yX0_expectation, Cond.code yX0_expectation cX0_expectation 3 (some .int), Cond.methodLink RX0 43 yX0_expectedOfHigher, Cond.static yX0_expectedOfHigher, Cond.code yX0_expectedOfHigher cX0_expectedOfHigher 4 (some .int), Cond.methodLink RX0 47 Lib.Math.min.name, Cond.fieldLink RX0 50 "WrestleBook$Roster" "EXPECTED" "[I", Cond.methodLink RX1 77 yX0_hold, Cond.instanceMethod yX0_hold, Cond.selects RX0 yX0_hold yX0_hold, Cond.code yX0_hold cX0_hold 6 (some .int), Cond.methodLink RX0 59 yX0_gain, Cond.instanceMethod yX0_gain, Cond.selects RX0 yX0_gain yX0_gain, Cond.code yX0_gain cX0_gain 7 (some .int), Cond.methodLink RX0 53 yX0_weight, Cond.instanceMethod yX0_weight, Cond.selects RX0 yX0_weight yX0_weight, Cond.code yX0_weight cX0_weight 2 (some .int)]
def wsL_law0_r9 : List Cond := [Cond.methodLink RX0 63 yX0_enter, Cond.instanceMethod yX0_enter, Cond.selects RX0 yX0_enter yX0_enter, Cond.code yX0_enter cX0_enter 4 none, Cond.methodLink RL 47 yX2_bout, Cond.instanceMethod yX2_bout, Cond.selects RX2 yX2_bout yX2_bout, Cond.code yX2_bout cX2_bout 6 (some .int), Cond.fieldLink RX2 27 "WrestleBookLaw$Sim" "upsets" "I", Cond.fieldLink RX2 38 "WrestleBookLaw$Sim" "bouts" "I", Cond.methodLink RX2 23 yX2_change, Cond.instanceMethod yX2_change, Cond.selects RX2 yX2_change yX2_change, Cond.code yX2_change cX2_change 6 (some .int), Cond.methodLink RX2 19 yX2_weight, Cond.instanceMethod yX2_weight, Cond.selects RX2 yX2_weight yX2_weight, Cond.code yX2_weight cX2_weight 2 (some .int), Cond.methodLink RX2 15 yX2_expected, Cond.instanceMethod yX2_expected, Cond.selects RX2 yX2_expected yX2_expected, Cond.code yX2_expected cX2_expected 7 (some .int), Cond.methodLink RX2 35 yX2_note, Cond.instanceMethod yX2_note]
def wsL_law0_r10 : List Cond := [Cond.selects RX2 yX2_note yX2_note, Cond.code yX2_note cX2_note 3 none, Cond.methodLink RL 63 yX1_count, Cond.instanceMethod yX1_count, Cond.selects RX1 yX1_count yX1_count, Cond.code yX1_count cX1_count 2 (some .int), Cond.methodLink RX1 131 yX0_size, Cond.instanceMethod yX0_size, Cond.selects RX0 yX0_size yX0_size, Cond.code yX0_size cX0_size 1 (some .int), Cond.methodLink RX1 135 yX0_sizeOf, Cond.methodLink RX1 138 yX0_highest, Cond.instanceMethod yX0_highest, Cond.selects RX0 yX0_highest yX0_highest, Cond.code yX0_highest cX0_highest 3 (some .int), Cond.methodLink RX1 141 yX0_lowest, Cond.instanceMethod yX0_lowest, Cond.selects RX0 yX0_lowest yX0_lowest, Cond.code yX0_lowest cX0_lowest 3 (some .int), Cond.methodLink RL 66 yX1_digest, Cond.instanceMethod yX1_digest, Cond.selects RX1 yX1_digest yX1_digest, Cond.code yX1_digest cX1_digest 5 (some .long), Cond.constantLong RX1 174 (1637)]
def wsL_law0_r11 : List Cond := [Cond.constantLong RX1 176 (31), Cond.methodLink RX1 178 yX1_count, Cond.methodLink RX1 181 yX1_told, Cond.instanceMethod yX1_told, Cond.selects RX1 yX1_told yX1_told, Cond.code yX1_told cX1_told 3 (some .int), Cond.methodLink RX1 97 yX0_league, Cond.instanceMethod yX0_league, Cond.selects RX0 yX0_league yX0_league, Cond.code yX0_league cX0_league 2 (some .int), Cond.methodLink RX1 100 yX0_points, Cond.instanceMethod yX0_points, Cond.selects RX0 yX0_points yX0_points, Cond.code yX0_points cX0_points 2 (some .int), Cond.methodLink RX1 103 yX0_bouts, Cond.instanceMethod yX0_bouts, Cond.selects RX0 yX0_bouts yX0_bouts, Cond.code yX0_bouts cX0_bouts 2 (some .int), Cond.methodLink RX1 106 yX0_seasonBouts, Cond.instanceMethod yX0_seasonBouts, Cond.selects RX0 yX0_seasonBouts yX0_seasonBouts, Cond.code yX0_seasonBouts cX0_seasonBouts 2 (some .int), Cond.methodLink RX1 109 yX0_winRow, Cond.instanceMethod yX0_winRow]
def wsL_law0_r12 : List Cond := [Cond.selects RX0 yX0_winRow yX0_winRow, Cond.code yX0_winRow cX0_winRow 2 (some .int), Cond.methodLink RX1 112 yX0_best, Cond.instanceMethod yX0_best, Cond.selects RX0 yX0_best yX0_best, Cond.code yX0_best cX0_best 2 (some .int), Cond.methodLink RX1 115 yX0_place, Cond.methodLink RX1 118 yX0_weight, Cond.methodLink RX1 184 yX1_next, Cond.instanceMethod yX1_next, Cond.selects RX1 yX1_next yX1_next, Cond.code yX1_next cX1_next 1 (some .int), Cond.methodLink RX1 159 yX0_bestPair, Cond.instanceMethod yX0_bestPair, Cond.selects RX0 yX0_bestPair yX0_bestPair, Cond.code yX0_bestPair cX0_bestPair 8 (some .int), Cond.methodLink RX0 90 yX0_unevenness, Cond.instanceMethod yX0_unevenness, Cond.selects RX0 yX0_unevenness yX0_unevenness, Cond.code yX0_unevenness cX0_unevenness 3 (some .int), Cond.methodLink RX0 87 Lib.Math.abs.name, Cond.methodLink RL 70 yX1_told, Cond.methodLink RL 81 yX1_at, Cond.instanceMethod yX1_at]
def wsL_law0_r13 : List Cond := [Cond.selects RX1 yX1_at yX1_at, Cond.code yX1_at cX1_at 4 (some .int), Cond.methodLink RX1 126 yX0_standingAt, Cond.methodLink RL 84 yX1_expected, Cond.instanceMethod yX1_expected, Cond.selects RX1 yX1_expected yX1_expected, Cond.code yX1_expected cX1_expected 3 (some .int), Cond.methodLink RX1 93 yX0_expectation, Cond.methodLink RL 87 yX1_match, Cond.instanceMethod yX1_match, Cond.selects RX1 yX1_match yX1_match, Cond.code yX1_match cX1_match 2 (some .int), Cond.methodLink RX1 156 yX0_evenest, Cond.instanceMethod yX0_evenest, Cond.selects RX0 yX0_evenest yX0_evenest, Cond.code yX0_evenest cX0_evenest 4 (some .int), Cond.methodLink RL 90 yX1_mean, Cond.instanceMethod yX1_mean, Cond.selects RX1 yX1_mean yX1_mean, Cond.code yX1_mean cX1_mean 2 (some .double), Cond.methodLink RX1 171 yX0_sumOfRatings, Cond.instanceMethod yX0_sumOfRatings, Cond.selects RX0 yX0_sumOfRatings yX0_sumOfRatings, Cond.code yX0_sumOfRatings cX0_sumOfRatings 3 (some .int)]
def wsL_law0_r14 : List Cond := [Cond.methodLink RL 94 yJ9_abs_294c1, Cond.static yJ9_abs_294c1, Cond.initialized RJ9, Cond.code yJ9_abs_294c1 cJ9_abs_294c1 2 (some .double), Cond.methodLink RJ9 79 ⟨"java/lang/Double", "doubleToRawLongBits", "(D)J"⟩, Cond.native ⟨"java/lang/Double", "doubleToRawLongBits", "(D)J"⟩, Cond.static ⟨"java/lang/Double", "doubleToRawLongBits", "(D)J"⟩, Cond.initialized "java/lang/Double", Cond.constantLong RJ9 135 (9223372036854775807), Cond.methodLink RJ9 166 ⟨"java/lang/Double", "longBitsToDouble", "(J)D"⟩, Cond.native ⟨"java/lang/Double", "longBitsToDouble", "(J)D"⟩, Cond.static ⟨"java/lang/Double", "longBitsToDouble", "(J)D"⟩, Cond.methodLink RL 100 yX1_next, Cond.methodLink RL 103 yX1_foresee, Cond.instanceMethod yX1_foresee, Cond.selects RX1 yX1_foresee yX1_foresee, Cond.code yX1_foresee cX1_foresee 4 (some .int), Cond.methodLink RX1 164 yX0_copyFrom, Cond.instanceMethod yX0_copyFrom, Cond.selects RX0 yX0_copyFrom yX0_copyFrom, Cond.code yX0_copyFrom cX0_copyFrom 3 none, Cond.methodLink RX1 168 yX0_holdAsRated, Cond.instanceMethod yX0_holdAsRated, Cond.selects RX0 yX0_holdAsRated yX0_holdAsRated]
def wsL_law0_r15 : List Cond := [Cond.code yX0_holdAsRated cX0_holdAsRated 3 none, Cond.methodLink RX0 67 yX0_hold, Cond.methodLink RL 106 yX1_would, Cond.instanceMethod yX1_would, Cond.selects RX1 yX1_would yX1_would, Cond.code yX1_would cX1_would 5 (some .int), Cond.methodLink RX1 148 yX0_gain, Cond.methodLink RL 112 yX2_isSame, Cond.instanceMethod yX2_isSame, Cond.selects RX2 yX2_isSame yX2_isSame, Cond.code yX2_isSame cX2_isSame 8 (some .boolean), Cond.methodLink RX2 72 Lib.Math.min.name, Cond.methodLink RX2 62 yX1_told, Cond.methodLink RX2 67 yX1_match, Cond.methodLink RX2 70 yX2_match, Cond.instanceMethod yX2_match, Cond.selects RX2 yX2_match yX2_match, Cond.code yX2_match cX2_match 4 (some .int), Cond.methodLink RX2 48 yX2_off, Cond.instanceMethod yX2_off, Cond.selects RX2 yX2_off yX2_off, Cond.code yX2_off cX2_off 4 (some .int), Cond.methodLink RX2 71 yX1_expected, Cond.methodLink RX2 75 yX2_highest]
def wsL_law0_r16 : List Cond := [Cond.instanceMethod yX2_highest, Cond.selects RX2 yX2_highest yX2_highest, Cond.code yX2_highest cX2_highest 6 (some .int), Cond.methodLink RX2 57 Lib.Math.max.name, Cond.methodLink RX2 79 yX1_at, Cond.methodLink RX2 82 yX1_count, Cond.methodLink RX2 85 yX1_next, Cond.methodLink RX2 88 yX2_next, Cond.instanceMethod yX2_next, Cond.selects RX2 yX2_next yX2_next, Cond.code yX2_next cX2_next 7 (some .int), Cond.methodLink RX2 89 yX1_mean]
def wsL_law0 : List Cond := (wsL_law0_r1 ++ (wsL_law0_r2 ++ (wsL_law0_r3 ++ (wsL_law0_r4 ++ (wsL_law0_r5 ++ (wsL_law0_r6 ++ (wsL_law0_r7 ++ (wsL_law0_r8 ++ (wsL_law0_r9 ++ (wsL_law0_r10 ++ (wsL_law0_r11 ++ (wsL_law0_r12 ++ (wsL_law0_r13 ++ (wsL_law0_r14 ++ (wsL_law0_r15 ++ wsL_law0_r16))))))))))))))) ++ wsX10 ++ wsX00 ++ wsX20 ++ ([] : List Cond)
def wsL_law : List Cond := wsL_law0 ++ (vx_atS RX1 31 "java/lang/IllegalArgumentException" ["java/lang/RuntimeException", "java/lang/Exception"]).filter goodWord ++ (vx_atS RX1 42 "java/lang/IllegalStateException" ["java/lang/RuntimeException", "java/lang/Exception"]).filter goodWord ++ (vx_atS RX1 125 "java/lang/IndexOutOfBoundsException" ["java/lang/RuntimeException", "java/lang/Exception"]).filter goodWord
end
section
theorem ap_in {a b t : List Cond} (ha : ∀ w ∈ a, w ∈ t) (hb : ∀ w ∈ b, w ∈ t) : ∀ w ∈ a ++ b, w ∈ t := fun w h => (List.mem_append.mp h).elim (ha w) (hb w)
set_option maxRecDepth 20000 in
theorem wsL_law_c1 : ∀ w ∈ wsL_law0_r1, w ∈ lw_tbl := by decide +kernel
set_option maxRecDepth 20000 in
theorem wsL_law_c2 : ∀ w ∈ wsL_law0_r2, w ∈ lw_tbl := by decide +kernel
set_option maxRecDepth 20000 in
theorem wsL_law_c3 : ∀ w ∈ wsL_law0_r3, w ∈ lw_tbl := by decide +kernel
set_option maxRecDepth 20000 in
theorem wsL_law_c4 : ∀ w ∈ wsL_law0_r4, w ∈ lw_tbl := by decide +kernel
set_option maxRecDepth 20000 in
theorem wsL_law_c5 : ∀ w ∈ wsL_law0_r5, w ∈ lw_tbl := by decide +kernel
set_option maxRecDepth 20000 in
theorem wsL_law_c6 : ∀ w ∈ wsL_law0_r6, w ∈ lw_tbl := by decide +kernel
set_option maxRecDepth 20000 in
theorem wsL_law_c7 : ∀ w ∈ wsL_law0_r7, w ∈ lw_tbl := by decide +kernel
set_option maxRecDepth 20000 in
theorem wsL_law_c8 : ∀ w ∈ wsL_law0_r8, w ∈ lw_tbl := by decide +kernel
set_option maxRecDepth 20000 in
theorem wsL_law_c9 : ∀ w ∈ wsL_law0_r9, w ∈ lw_tbl := by decide +kernel
set_option maxRecDepth 20000 in
theorem wsL_law_c10 : ∀ w ∈ wsL_law0_r10, w ∈ lw_tbl := by decide +kernel
set_option maxRecDepth 20000 in
theorem wsL_law_c11 : ∀ w ∈ wsL_law0_r11, w ∈ lw_tbl := by decide +kernel
set_option maxRecDepth 20000 in
theorem wsL_law_c12 : ∀ w ∈ wsL_law0_r12, w ∈ lw_tbl := by decide +kernel
set_option maxRecDepth 20000 in
theorem wsL_law_c13 : ∀ w ∈ wsL_law0_r13, w ∈ lw_tbl := by decide +kernel
set_option maxRecDepth 20000 in
theorem wsL_law_c14 : ∀ w ∈ wsL_law0_r14, w ∈ lw_tbl := by decide +kernel
set_option maxRecDepth 20000 in
theorem wsL_law_c15 : ∀ w ∈ wsL_law0_r15, w ∈ lw_tbl := by decide +kernel
set_option maxRecDepth 20000 in
theorem wsL_law_c16 : ∀ w ∈ wsL_law0_r16, w ∈ lw_tbl := by decide +kernel
set_option maxRecDepth 20000 in
theorem wsX10_c : ∀ w ∈ wsX10, w ∈ lw_tbl := by decide +kernel
set_option maxRecDepth 20000 in
theorem wsX00_c : ∀ w ∈ wsX00, w ∈ lw_tbl := by decide +kernel
set_option maxRecDepth 20000 in
theorem wsX20_c : ∀ w ∈ wsX20, w ∈ lw_tbl := by decide +kernel
theorem wsL_law_in0 : ∀ w ∈ wsL_law0, w ∈ lw_tbl := ap_in (ap_in (ap_in (ap_in (ap_in wsL_law_c1 (ap_in wsL_law_c2 (ap_in wsL_law_c3 (ap_in wsL_law_c4 (ap_in wsL_law_c5 (ap_in wsL_law_c6 (ap_in wsL_law_c7 (ap_in wsL_law_c8 (ap_in wsL_law_c9 (ap_in wsL_law_c10 (ap_in wsL_law_c11 (ap_in wsL_law_c12 (ap_in wsL_law_c13 (ap_in wsL_law_c14 (ap_in wsL_law_c15 wsL_law_c16))))))))))))))) wsX10_c) wsX00_c) wsX20_c) (fun _ h => nomatch h)
theorem wsL_law_x0 : ∀ w ∈ (vx_atS RX1 31 "java/lang/IllegalArgumentException" ["java/lang/RuntimeException", "java/lang/Exception"]).filter goodWord, w ∈ lw_tbl := by decide +kernel
theorem wsL_law_x1 : ∀ w ∈ (vx_atS RX1 42 "java/lang/IllegalStateException" ["java/lang/RuntimeException", "java/lang/Exception"]).filter goodWord, w ∈ lw_tbl := by decide +kernel
theorem wsL_law_x2 : ∀ w ∈ (vx_atS RX1 125 "java/lang/IndexOutOfBoundsException" ["java/lang/RuntimeException", "java/lang/Exception"]).filter goodWord, w ∈ lw_tbl := by decide +kernel
theorem wsL_law_in : ∀ w ∈ wsL_law, w ∈ lw_tbl := fun w h => (List.mem_append.mp h).elim (fun h => (List.mem_append.mp h).elim (fun h => (List.mem_append.mp h).elim (fun h => wsL_law_in0 w h) (fun h => wsL_law_x0 w h)) (fun h => wsL_law_x1 w h)) (fun h => wsL_law_x2 w h)
theorem inlX0 : ∀ w ∈ wsX00, w ∈ wsL_law := fun _ h => List.mem_append_left _ (List.mem_append_left _ (List.mem_append_left _ (List.mem_append_left _ (List.mem_append_left _ (List.mem_append_right _ h)))))
theorem inX0 : ∀ w ∈ wsX00, w ∈ lw_tbl := fun w h => wsL_law_in w (inlX0 w h)
theorem inlX1 : ∀ w ∈ wsX10, w ∈ wsL_law := fun _ h => List.mem_append_left _ (List.mem_append_left _ (List.mem_append_left _ (List.mem_append_left _ (List.mem_append_left _ (List.mem_append_left _ (List.mem_append_right _ h))))))
theorem inX1 : ∀ w ∈ wsX10, w ∈ lw_tbl := fun w h => wsL_law_in w (inlX1 w h)
theorem inlX2 : ∀ w ∈ wsX20, w ∈ wsL_law := fun _ h => List.mem_append_left _ (List.mem_append_left _ (List.mem_append_left _ (List.mem_append_left _ (List.mem_append_right _ h))))
theorem inX2 : ∀ w ∈ wsX20, w ∈ lw_tbl := fun w h => wsL_law_in w (inlX2 w h)
theorem inX3 : ∀ w ∈ wsX30, w ∈ lw_tbl := by decide +kernel
theorem inX4 : ∀ w ∈ wsX40, w ∈ lw_tbl := by decide +kernel
theorem inJxe99ae : ∀ w ∈ wsJxe99ae0, w ∈ lw_tbl := by decide +kernel
theorem inJ9 : ∀ w ∈ wsJ90, w ∈ lw_tbl := by decide +kernel
theorem inJ0 : ∀ w ∈ wsJ00, w ∈ lw_tbl := by decide +kernel
theorem dX0_init_0 : decode cX0_init 0 = .ok (.aload_n 0, 1) := by decide +kernel
theorem dX0_init_1 : decode cX0_init 1 = .ok (.invokespecial 3, 3) := by decide +kernel
theorem dX0_init_4 : decode cX0_init 4 = .ok (.aload_n 0, 1) := by decide +kernel
theorem dX0_init_5 : decode cX0_init 5 = .ok (.bipush 12, 2) := by decide +kernel
theorem dX0_init_7 : decode cX0_init 7 = .ok (.newarray .int, 2) := by decide +kernel
theorem dX0_init_9 : decode cX0_init 9 = .ok (.putfield 9, 3) := by decide +kernel
theorem dX0_init_12 : decode cX0_init 12 = .ok (.aload_n 0, 1) := by decide +kernel
theorem dX0_init_13 : decode cX0_init 13 = .ok (.bipush 12, 2) := by decide +kernel
theorem dX0_init_15 : decode cX0_init 15 = .ok (.newarray .int, 2) := by decide +kernel
theorem dX0_init_17 : decode cX0_init 17 = .ok (.putfield 15, 3) := by decide +kernel
theorem dX0_init_20 : decode cX0_init 20 = .ok (.aload_n 0, 1) := by decide +kernel
theorem dX0_init_21 : decode cX0_init 21 = .ok (.bipush 12, 2) := by decide +kernel
theorem dX0_init_23 : decode cX0_init 23 = .ok (.newarray .int, 2) := by decide +kernel
theorem dX0_init_25 : decode cX0_init 25 = .ok (.putfield 18, 3) := by decide +kernel
theorem dX0_init_28 : decode cX0_init 28 = .ok (.aload_n 0, 1) := by decide +kernel
theorem dX0_init_29 : decode cX0_init 29 = .ok (.bipush 12, 2) := by decide +kernel
theorem dX0_init_31 : decode cX0_init 31 = .ok (.newarray .int, 2) := by decide +kernel
theorem dX0_init_33 : decode cX0_init 33 = .ok (.putfield 21, 3) := by decide +kernel
theorem dX0_init_36 : decode cX0_init 36 = .ok (.aload_n 0, 1) := by decide +kernel
theorem dX0_init_37 : decode cX0_init 37 = .ok (.bipush 12, 2) := by decide +kernel
theorem dX0_init_39 : decode cX0_init 39 = .ok (.newarray .int, 2) := by decide +kernel
theorem dX0_init_41 : decode cX0_init 41 = .ok (.putfield 24, 3) := by decide +kernel
theorem dX0_init_44 : decode cX0_init 44 = .ok (.aload_n 0, 1) := by decide +kernel
theorem dX0_init_45 : decode cX0_init 45 = .ok (.bipush 12, 2) := by decide +kernel
theorem dX0_init_47 : decode cX0_init 47 = .ok (.newarray .int, 2) := by decide +kernel
theorem dX0_init_49 : decode cX0_init 49 = .ok (.putfield 27, 3) := by decide +kernel
theorem dX0_init_52 : decode cX0_init 52 = .ok (.aload_n 0, 1) := by decide +kernel
theorem dX0_init_53 : decode cX0_init 53 = .ok (.bipush 12, 2) := by decide +kernel
theorem dX0_init_55 : decode cX0_init 55 = .ok (.newarray .int, 2) := by decide +kernel
theorem dX0_init_57 : decode cX0_init 57 = .ok (.putfield 30, 3) := by decide +kernel
theorem dX0_init_60 : decode cX0_init 60 = .ok (.return_, 1) := by decide +kernel
theorem dX0_size_0 : decode cX0_size 0 = .ok (.aload_n 0, 1) := by decide +kernel
theorem dX0_size_1 : decode cX0_size 1 = .ok (.getfield 33, 3) := by decide +kernel
theorem dX0_size_4 : decode cX0_size 4 = .ok (.ireturn, 1) := by decide +kernel
theorem dX0_isFull_0 : decode cX0_isFull 0 = .ok (.aload_n 0, 1) := by decide +kernel
theorem dX0_isFull_1 : decode cX0_isFull 1 = .ok (.getfield 33, 3) := by decide +kernel
theorem dX0_isFull_4 : decode cX0_isFull 4 = .ok (.bipush 12, 2) := by decide +kernel
theorem dX0_isFull_6 : decode cX0_isFull 6 = .ok (.if_icmp .lt 7, 3) := by decide +kernel
theorem dX0_isFull_9 : decode cX0_isFull 9 = .ok (.iconst 1, 1) := by decide +kernel
theorem dX0_isFull_10 : decode cX0_isFull 10 = .ok (.goto 4, 3) := by decide +kernel
theorem dX0_isFull_13 : decode cX0_isFull 13 = .ok (.iconst 0, 1) := by decide +kernel
theorem dX0_isFull_14 : decode cX0_isFull 14 = .ok (.ireturn, 1) := by decide +kernel
theorem dX0_has_0 : decode cX0_has 0 = .ok (.iload_n 1, 1) := by decide +kernel
theorem dX0_has_1 : decode cX0_has 1 = .ok (.ifCond .lt 15, 3) := by decide +kernel
theorem dX0_has_4 : decode cX0_has 4 = .ok (.iload_n 1, 1) := by decide +kernel
theorem dX0_has_5 : decode cX0_has 5 = .ok (.aload_n 0, 1) := by decide +kernel
theorem dX0_has_6 : decode cX0_has 6 = .ok (.getfield 33, 3) := by decide +kernel
theorem dX0_has_9 : decode cX0_has 9 = .ok (.if_icmp .ge 7, 3) := by decide +kernel
theorem dX0_has_12 : decode cX0_has 12 = .ok (.iconst 1, 1) := by decide +kernel
theorem dX0_has_13 : decode cX0_has 13 = .ok (.goto 4, 3) := by decide +kernel
theorem dX0_has_16 : decode cX0_has 16 = .ok (.iconst 0, 1) := by decide +kernel
theorem dX0_has_17 : decode cX0_has 17 = .ok (.ireturn, 1) := by decide +kernel
theorem dX0_rating_0 : decode cX0_rating 0 = .ok (.aload_n 0, 1) := by decide +kernel
theorem dX0_rating_1 : decode cX0_rating 1 = .ok (.getfield 15, 3) := by decide +kernel
theorem dX0_rating_4 : decode cX0_rating 4 = .ok (.iload_n 1, 1) := by decide +kernel
theorem dX0_rating_5 : decode cX0_rating 5 = .ok (.iaload, 1) := by decide +kernel
theorem dX0_rating_6 : decode cX0_rating 6 = .ok (.ireturn, 1) := by decide +kernel
theorem dX0_league_0 : decode cX0_league 0 = .ok (.aload_n 0, 1) := by decide +kernel
theorem dX0_league_1 : decode cX0_league 1 = .ok (.getfield 9, 3) := by decide +kernel
theorem dX0_league_4 : decode cX0_league 4 = .ok (.iload_n 1, 1) := by decide +kernel
theorem dX0_league_5 : decode cX0_league 5 = .ok (.iaload, 1) := by decide +kernel
theorem dX0_league_6 : decode cX0_league 6 = .ok (.ireturn, 1) := by decide +kernel
theorem dX0_points_0 : decode cX0_points 0 = .ok (.aload_n 0, 1) := by decide +kernel
theorem dX0_points_1 : decode cX0_points 1 = .ok (.getfield 18, 3) := by decide +kernel
theorem dX0_points_4 : decode cX0_points 4 = .ok (.iload_n 1, 1) := by decide +kernel
theorem dX0_points_5 : decode cX0_points 5 = .ok (.iaload, 1) := by decide +kernel
theorem dX0_points_6 : decode cX0_points 6 = .ok (.ireturn, 1) := by decide +kernel
theorem dX0_bouts_0 : decode cX0_bouts 0 = .ok (.aload_n 0, 1) := by decide +kernel
theorem dX0_bouts_1 : decode cX0_bouts 1 = .ok (.getfield 21, 3) := by decide +kernel
theorem dX0_bouts_4 : decode cX0_bouts 4 = .ok (.iload_n 1, 1) := by decide +kernel
theorem dX0_bouts_5 : decode cX0_bouts 5 = .ok (.iaload, 1) := by decide +kernel
theorem dX0_bouts_6 : decode cX0_bouts 6 = .ok (.ireturn, 1) := by decide +kernel
theorem dX0_seasonBouts_0 : decode cX0_seasonBouts 0 = .ok (.aload_n 0, 1) := by decide +kernel
theorem dX0_seasonBouts_1 : decode cX0_seasonBouts 1 = .ok (.getfield 24, 3) := by decide +kernel
theorem dX0_seasonBouts_4 : decode cX0_seasonBouts 4 = .ok (.iload_n 1, 1) := by decide +kernel
theorem dX0_seasonBouts_5 : decode cX0_seasonBouts 5 = .ok (.iaload, 1) := by decide +kernel
theorem dX0_seasonBouts_6 : decode cX0_seasonBouts 6 = .ok (.ireturn, 1) := by decide +kernel
theorem dX0_winRow_0 : decode cX0_winRow 0 = .ok (.aload_n 0, 1) := by decide +kernel
theorem dX0_winRow_1 : decode cX0_winRow 1 = .ok (.getfield 27, 3) := by decide +kernel
theorem dX0_winRow_4 : decode cX0_winRow 4 = .ok (.iload_n 1, 1) := by decide +kernel
theorem dX0_winRow_5 : decode cX0_winRow 5 = .ok (.iaload, 1) := by decide +kernel
theorem dX0_winRow_6 : decode cX0_winRow 6 = .ok (.ireturn, 1) := by decide +kernel
theorem dX0_best_0 : decode cX0_best 0 = .ok (.aload_n 0, 1) := by decide +kernel
theorem dX0_best_1 : decode cX0_best 1 = .ok (.getfield 30, 3) := by decide +kernel
theorem dX0_best_4 : decode cX0_best 4 = .ok (.iload_n 1, 1) := by decide +kernel
theorem dX0_best_5 : decode cX0_best 5 = .ok (.iaload, 1) := by decide +kernel
theorem dX0_best_6 : decode cX0_best 6 = .ok (.ireturn, 1) := by decide +kernel
theorem dX0_add_0 : decode cX0_add 0 = .ok (.aload_n 0, 1) := by decide +kernel
theorem dX0_add_1 : decode cX0_add 1 = .ok (.getfield 33, 3) := by decide +kernel
theorem dX0_add_4 : decode cX0_add 4 = .ok (.istore_n 2, 1) := by decide +kernel
theorem dX0_add_5 : decode cX0_add 5 = .ok (.aload_n 0, 1) := by decide +kernel
theorem dX0_add_6 : decode cX0_add 6 = .ok (.getfield 9, 3) := by decide +kernel
theorem dX0_add_9 : decode cX0_add 9 = .ok (.iload_n 2, 1) := by decide +kernel
theorem dX0_add_10 : decode cX0_add 10 = .ok (.iload_n 1, 1) := by decide +kernel
theorem dX0_add_11 : decode cX0_add 11 = .ok (.iastore, 1) := by decide +kernel
theorem dX0_add_12 : decode cX0_add 12 = .ok (.aload_n 0, 1) := by decide +kernel
theorem dX0_add_13 : decode cX0_add 13 = .ok (.getfield 15, 3) := by decide +kernel
theorem dX0_add_16 : decode cX0_add 16 = .ok (.iload_n 2, 1) := by decide +kernel
theorem dX0_add_17 : decode cX0_add 17 = .ok (.sipush 1000, 3) := by decide +kernel
theorem dX0_add_20 : decode cX0_add 20 = .ok (.iastore, 1) := by decide +kernel
theorem dX0_add_21 : decode cX0_add 21 = .ok (.aload_n 0, 1) := by decide +kernel
theorem dX0_add_22 : decode cX0_add 22 = .ok (.getfield 30, 3) := by decide +kernel
theorem dX0_add_25 : decode cX0_add 25 = .ok (.iload_n 2, 1) := by decide +kernel
theorem dX0_add_26 : decode cX0_add 26 = .ok (.sipush 1000, 3) := by decide +kernel
theorem dX0_add_29 : decode cX0_add 29 = .ok (.iastore, 1) := by decide +kernel
theorem dX0_add_30 : decode cX0_add 30 = .ok (.aload_n 0, 1) := by decide +kernel
theorem dX0_add_31 : decode cX0_add 31 = .ok (.dup, 1) := by decide +kernel
theorem dX0_add_32 : decode cX0_add 32 = .ok (.getfield 33, 3) := by decide +kernel
theorem dX0_add_35 : decode cX0_add 35 = .ok (.iconst 1, 1) := by decide +kernel
theorem dX0_add_36 : decode cX0_add 36 = .ok (.iadd, 1) := by decide +kernel
theorem dX0_add_37 : decode cX0_add 37 = .ok (.putfield 33, 3) := by decide +kernel
theorem dX0_add_40 : decode cX0_add 40 = .ok (.iload_n 2, 1) := by decide +kernel
theorem dX0_add_41 : decode cX0_add 41 = .ok (.ireturn, 1) := by decide +kernel
theorem dX0_setRating_0 : decode cX0_setRating 0 = .ok (.aload_n 0, 1) := by decide +kernel
theorem dX0_setRating_1 : decode cX0_setRating 1 = .ok (.getfield 15, 3) := by decide +kernel
theorem dX0_setRating_4 : decode cX0_setRating 4 = .ok (.iload_n 1, 1) := by decide +kernel
theorem dX0_setRating_5 : decode cX0_setRating 5 = .ok (.iload_n 2, 1) := by decide +kernel
theorem dX0_setRating_6 : decode cX0_setRating 6 = .ok (.iastore, 1) := by decide +kernel
theorem dX0_setRating_7 : decode cX0_setRating 7 = .ok (.aload_n 0, 1) := by decide +kernel
theorem dX0_setRating_8 : decode cX0_setRating 8 = .ok (.getfield 30, 3) := by decide +kernel
theorem dX0_setRating_11 : decode cX0_setRating 11 = .ok (.iload_n 1, 1) := by decide +kernel
theorem dX0_setRating_12 : decode cX0_setRating 12 = .ok (.aload_n 0, 1) := by decide +kernel
theorem dX0_setRating_13 : decode cX0_setRating 13 = .ok (.getfield 30, 3) := by decide +kernel
theorem dX0_setRating_16 : decode cX0_setRating 16 = .ok (.iload_n 1, 1) := by decide +kernel
theorem dX0_setRating_17 : decode cX0_setRating 17 = .ok (.iaload, 1) := by decide +kernel
theorem dX0_setRating_18 : decode cX0_setRating 18 = .ok (.iload_n 2, 1) := by decide +kernel
theorem dX0_setRating_19 : decode cX0_setRating 19 = .ok (.invokestatic 37, 3) := by decide +kernel
theorem dX0_setRating_22 : decode cX0_setRating 22 = .ok (.iastore, 1) := by decide +kernel
theorem dX0_setRating_23 : decode cX0_setRating 23 = .ok (.return_, 1) := by decide +kernel
theorem dX0_copyFrom_0 : decode cX0_copyFrom 0 = .ok (.aload_n 0, 1) := by decide +kernel
theorem dX0_copyFrom_1 : decode cX0_copyFrom 1 = .ok (.aload_n 1, 1) := by decide +kernel
theorem dX0_copyFrom_2 : decode cX0_copyFrom 2 = .ok (.getfield 33, 3) := by decide +kernel
theorem dX0_copyFrom_5 : decode cX0_copyFrom 5 = .ok (.putfield 33, 3) := by decide +kernel
theorem dX0_copyFrom_8 : decode cX0_copyFrom 8 = .ok (.iconst 0, 1) := by decide +kernel
theorem dX0_copyFrom_9 : decode cX0_copyFrom 9 = .ok (.istore_n 2, 1) := by decide +kernel
theorem dX0_copyFrom_10 : decode cX0_copyFrom 10 = .ok (.iload_n 2, 1) := by decide +kernel
theorem dX0_copyFrom_11 : decode cX0_copyFrom 11 = .ok (.aload_n 0, 1) := by decide +kernel
theorem dX0_copyFrom_12 : decode cX0_copyFrom 12 = .ok (.getfield 33, 3) := by decide +kernel
theorem dX0_copyFrom_15 : decode cX0_copyFrom 15 = .ok (.if_icmp .ge 93, 3) := by decide +kernel
theorem dX0_copyFrom_18 : decode cX0_copyFrom 18 = .ok (.aload_n 0, 1) := by decide +kernel
theorem dX0_copyFrom_19 : decode cX0_copyFrom 19 = .ok (.getfield 9, 3) := by decide +kernel
theorem dX0_copyFrom_22 : decode cX0_copyFrom 22 = .ok (.iload_n 2, 1) := by decide +kernel
theorem dX0_copyFrom_23 : decode cX0_copyFrom 23 = .ok (.aload_n 1, 1) := by decide +kernel
theorem dX0_copyFrom_24 : decode cX0_copyFrom 24 = .ok (.getfield 9, 3) := by decide +kernel
theorem dX0_copyFrom_27 : decode cX0_copyFrom 27 = .ok (.iload_n 2, 1) := by decide +kernel
theorem dX0_copyFrom_28 : decode cX0_copyFrom 28 = .ok (.iaload, 1) := by decide +kernel
theorem dX0_copyFrom_29 : decode cX0_copyFrom 29 = .ok (.iastore, 1) := by decide +kernel
theorem dX0_copyFrom_30 : decode cX0_copyFrom 30 = .ok (.aload_n 0, 1) := by decide +kernel
theorem dX0_copyFrom_31 : decode cX0_copyFrom 31 = .ok (.getfield 15, 3) := by decide +kernel
theorem dX0_copyFrom_34 : decode cX0_copyFrom 34 = .ok (.iload_n 2, 1) := by decide +kernel
theorem dX0_copyFrom_35 : decode cX0_copyFrom 35 = .ok (.aload_n 1, 1) := by decide +kernel
theorem dX0_copyFrom_36 : decode cX0_copyFrom 36 = .ok (.getfield 15, 3) := by decide +kernel
theorem dX0_copyFrom_39 : decode cX0_copyFrom 39 = .ok (.iload_n 2, 1) := by decide +kernel
theorem dX0_copyFrom_40 : decode cX0_copyFrom 40 = .ok (.iaload, 1) := by decide +kernel
theorem dX0_copyFrom_41 : decode cX0_copyFrom 41 = .ok (.iastore, 1) := by decide +kernel
theorem dX0_copyFrom_42 : decode cX0_copyFrom 42 = .ok (.aload_n 0, 1) := by decide +kernel
theorem dX0_copyFrom_43 : decode cX0_copyFrom 43 = .ok (.getfield 18, 3) := by decide +kernel
theorem dX0_copyFrom_46 : decode cX0_copyFrom 46 = .ok (.iload_n 2, 1) := by decide +kernel
theorem dX0_copyFrom_47 : decode cX0_copyFrom 47 = .ok (.aload_n 1, 1) := by decide +kernel
theorem dX0_copyFrom_48 : decode cX0_copyFrom 48 = .ok (.getfield 18, 3) := by decide +kernel
theorem dX0_copyFrom_51 : decode cX0_copyFrom 51 = .ok (.iload_n 2, 1) := by decide +kernel
theorem dX0_copyFrom_52 : decode cX0_copyFrom 52 = .ok (.iaload, 1) := by decide +kernel
theorem dX0_copyFrom_53 : decode cX0_copyFrom 53 = .ok (.iastore, 1) := by decide +kernel
theorem dX0_copyFrom_54 : decode cX0_copyFrom 54 = .ok (.aload_n 0, 1) := by decide +kernel
theorem dX0_copyFrom_55 : decode cX0_copyFrom 55 = .ok (.getfield 21, 3) := by decide +kernel
theorem dX0_copyFrom_58 : decode cX0_copyFrom 58 = .ok (.iload_n 2, 1) := by decide +kernel
theorem dX0_copyFrom_59 : decode cX0_copyFrom 59 = .ok (.aload_n 1, 1) := by decide +kernel
theorem dX0_copyFrom_60 : decode cX0_copyFrom 60 = .ok (.getfield 21, 3) := by decide +kernel
theorem dX0_copyFrom_63 : decode cX0_copyFrom 63 = .ok (.iload_n 2, 1) := by decide +kernel
theorem dX0_copyFrom_64 : decode cX0_copyFrom 64 = .ok (.iaload, 1) := by decide +kernel
theorem dX0_copyFrom_65 : decode cX0_copyFrom 65 = .ok (.iastore, 1) := by decide +kernel
theorem dX0_copyFrom_66 : decode cX0_copyFrom 66 = .ok (.aload_n 0, 1) := by decide +kernel
theorem dX0_copyFrom_67 : decode cX0_copyFrom 67 = .ok (.getfield 24, 3) := by decide +kernel
theorem dX0_copyFrom_70 : decode cX0_copyFrom 70 = .ok (.iload_n 2, 1) := by decide +kernel
theorem dX0_copyFrom_71 : decode cX0_copyFrom 71 = .ok (.aload_n 1, 1) := by decide +kernel
theorem dX0_copyFrom_72 : decode cX0_copyFrom 72 = .ok (.getfield 24, 3) := by decide +kernel
theorem dX0_copyFrom_75 : decode cX0_copyFrom 75 = .ok (.iload_n 2, 1) := by decide +kernel
theorem dX0_copyFrom_76 : decode cX0_copyFrom 76 = .ok (.iaload, 1) := by decide +kernel
theorem dX0_copyFrom_77 : decode cX0_copyFrom 77 = .ok (.iastore, 1) := by decide +kernel
theorem dX0_copyFrom_78 : decode cX0_copyFrom 78 = .ok (.aload_n 0, 1) := by decide +kernel
theorem dX0_copyFrom_79 : decode cX0_copyFrom 79 = .ok (.getfield 27, 3) := by decide +kernel
theorem dX0_copyFrom_82 : decode cX0_copyFrom 82 = .ok (.iload_n 2, 1) := by decide +kernel
theorem dX0_copyFrom_83 : decode cX0_copyFrom 83 = .ok (.aload_n 1, 1) := by decide +kernel
theorem dX0_copyFrom_84 : decode cX0_copyFrom 84 = .ok (.getfield 27, 3) := by decide +kernel
theorem dX0_copyFrom_87 : decode cX0_copyFrom 87 = .ok (.iload_n 2, 1) := by decide +kernel
theorem dX0_copyFrom_88 : decode cX0_copyFrom 88 = .ok (.iaload, 1) := by decide +kernel
theorem dX0_copyFrom_89 : decode cX0_copyFrom 89 = .ok (.iastore, 1) := by decide +kernel
theorem dX0_copyFrom_90 : decode cX0_copyFrom 90 = .ok (.aload_n 0, 1) := by decide +kernel
theorem dX0_copyFrom_91 : decode cX0_copyFrom 91 = .ok (.getfield 30, 3) := by decide +kernel
theorem dX0_copyFrom_94 : decode cX0_copyFrom 94 = .ok (.iload_n 2, 1) := by decide +kernel
theorem dX0_copyFrom_95 : decode cX0_copyFrom 95 = .ok (.aload_n 1, 1) := by decide +kernel
theorem dX0_copyFrom_96 : decode cX0_copyFrom 96 = .ok (.getfield 30, 3) := by decide +kernel
theorem dX0_copyFrom_99 : decode cX0_copyFrom 99 = .ok (.iload_n 2, 1) := by decide +kernel
theorem dX0_copyFrom_100 : decode cX0_copyFrom 100 = .ok (.iaload, 1) := by decide +kernel
theorem dX0_copyFrom_101 : decode cX0_copyFrom 101 = .ok (.iastore, 1) := by decide +kernel
theorem dX0_copyFrom_102 : decode cX0_copyFrom 102 = .ok (.iinc 2 1, 3) := by decide +kernel
theorem dX0_copyFrom_105 : decode cX0_copyFrom 105 = .ok (.goto (-95), 3) := by decide +kernel
theorem dX0_copyFrom_108 : decode cX0_copyFrom 108 = .ok (.return_, 1) := by decide +kernel
set_option maxRecDepth 20000 in
theorem ggX0_expectation_X0_expectedOfHigher : GoodIn wsX0_expectation wsX0_expectedOfHigher := goodIn_r _ [5, 6, 7, 8, 9, 10] (by decide +kernel) (by decide +kernel)
set_option maxRecDepth 20000 in
theorem gX0_expectation_X0_expectedOfHigher : GoodIn wsX0_expectation (va_wsS RX0 43 yX0_expectedOfHigher wsX0_expectedOfHigher) := goodIn_app (goodIn_of _ (by decide +kernel)) ggX0_expectation_X0_expectedOfHigher
theorem dX0_expectation_0 : decode cX0_expectation 0 = .ok (.aload_n 0, 1) := by decide +kernel
theorem dX0_expectation_1 : decode cX0_expectation 1 = .ok (.getfield 15, 3) := by decide +kernel
theorem dX0_expectation_4 : decode cX0_expectation 4 = .ok (.iload_n 1, 1) := by decide +kernel
theorem dX0_expectation_5 : decode cX0_expectation 5 = .ok (.iaload, 1) := by decide +kernel
theorem dX0_expectation_6 : decode cX0_expectation 6 = .ok (.aload_n 0, 1) := by decide +kernel
theorem dX0_expectation_7 : decode cX0_expectation 7 = .ok (.getfield 15, 3) := by decide +kernel
theorem dX0_expectation_10 : decode cX0_expectation 10 = .ok (.iload_n 2, 1) := by decide +kernel
theorem dX0_expectation_11 : decode cX0_expectation 11 = .ok (.iaload, 1) := by decide +kernel
theorem dX0_expectation_12 : decode cX0_expectation 12 = .ok (.if_icmp .ge 24, 3) := by decide +kernel
theorem dX0_expectation_15 : decode cX0_expectation 15 = .ok (.sipush 1000, 3) := by decide +kernel
theorem dX0_expectation_18 : decode cX0_expectation 18 = .ok (.aload_n 0, 1) := by decide +kernel
theorem dX0_expectation_19 : decode cX0_expectation 19 = .ok (.getfield 15, 3) := by decide +kernel
theorem dX0_expectation_22 : decode cX0_expectation 22 = .ok (.iload_n 2, 1) := by decide +kernel
theorem dX0_expectation_23 : decode cX0_expectation 23 = .ok (.iaload, 1) := by decide +kernel
theorem dX0_expectation_24 : decode cX0_expectation 24 = .ok (.aload_n 0, 1) := by decide +kernel
theorem dX0_expectation_25 : decode cX0_expectation 25 = .ok (.getfield 15, 3) := by decide +kernel
theorem dX0_expectation_28 : decode cX0_expectation 28 = .ok (.iload_n 1, 1) := by decide +kernel
theorem dX0_expectation_29 : decode cX0_expectation 29 = .ok (.iaload, 1) := by decide +kernel
theorem dX0_expectation_30 : decode cX0_expectation 30 = .ok (.isub, 1) := by decide +kernel
theorem dX0_expectation_31 : decode cX0_expectation 31 = .ok (.invokestatic 43, 3) := by decide +kernel
theorem dX0_expectation_34 : decode cX0_expectation 34 = .ok (.isub, 1) := by decide +kernel
theorem dX0_expectation_35 : decode cX0_expectation 35 = .ok (.ireturn, 1) := by decide +kernel
theorem dX0_expectation_36 : decode cX0_expectation 36 = .ok (.aload_n 0, 1) := by decide +kernel
theorem dX0_expectation_37 : decode cX0_expectation 37 = .ok (.getfield 15, 3) := by decide +kernel
theorem dX0_expectation_40 : decode cX0_expectation 40 = .ok (.iload_n 1, 1) := by decide +kernel
theorem dX0_expectation_41 : decode cX0_expectation 41 = .ok (.iaload, 1) := by decide +kernel
theorem dX0_expectation_42 : decode cX0_expectation 42 = .ok (.aload_n 0, 1) := by decide +kernel
theorem dX0_expectation_43 : decode cX0_expectation 43 = .ok (.getfield 15, 3) := by decide +kernel
theorem dX0_expectation_46 : decode cX0_expectation 46 = .ok (.iload_n 2, 1) := by decide +kernel
theorem dX0_expectation_47 : decode cX0_expectation 47 = .ok (.iaload, 1) := by decide +kernel
theorem dX0_expectation_48 : decode cX0_expectation 48 = .ok (.isub, 1) := by decide +kernel
theorem dX0_expectation_49 : decode cX0_expectation 49 = .ok (.invokestatic 43, 3) := by decide +kernel
theorem dX0_expectation_52 : decode cX0_expectation 52 = .ok (.ireturn, 1) := by decide +kernel
theorem dX0_expectedOfHigher_0 : decode cX0_expectedOfHigher 0 = .ok (.iload_n 0, 1) := by decide +kernel
theorem dX0_expectedOfHigher_1 : decode cX0_expectedOfHigher 1 = .ok (.sipush 800, 3) := by decide +kernel
theorem dX0_expectedOfHigher_4 : decode cX0_expectedOfHigher 4 = .ok (.invokestatic 47, 3) := by decide +kernel
theorem dX0_expectedOfHigher_7 : decode cX0_expectedOfHigher 7 = .ok (.istore_n 1, 1) := by decide +kernel
theorem dX0_expectedOfHigher_8 : decode cX0_expectedOfHigher 8 = .ok (.iload_n 1, 1) := by decide +kernel
theorem dX0_expectedOfHigher_9 : decode cX0_expectedOfHigher 9 = .ok (.bipush 100, 2) := by decide +kernel
theorem dX0_expectedOfHigher_11 : decode cX0_expectedOfHigher 11 = .ok (.idiv, 1) := by decide +kernel
theorem dX0_expectedOfHigher_12 : decode cX0_expectedOfHigher 12 = .ok (.istore_n 2, 1) := by decide +kernel
theorem dX0_expectedOfHigher_13 : decode cX0_expectedOfHigher 13 = .ok (.iload_n 1, 1) := by decide +kernel
theorem dX0_expectedOfHigher_14 : decode cX0_expectedOfHigher 14 = .ok (.sipush 800, 3) := by decide +kernel
theorem dX0_expectedOfHigher_17 : decode cX0_expectedOfHigher 17 = .ok (.if_icmp .ne 9, 3) := by decide +kernel
theorem dX0_expectedOfHigher_20 : decode cX0_expectedOfHigher 20 = .ok (.getstatic 50, 3) := by decide +kernel
theorem dX0_expectedOfHigher_23 : decode cX0_expectedOfHigher 23 = .ok (.iload_n 2, 1) := by decide +kernel
theorem dX0_expectedOfHigher_24 : decode cX0_expectedOfHigher 24 = .ok (.iaload, 1) := by decide +kernel
theorem dX0_expectedOfHigher_25 : decode cX0_expectedOfHigher 25 = .ok (.ireturn, 1) := by decide +kernel
theorem dX0_expectedOfHigher_26 : decode cX0_expectedOfHigher 26 = .ok (.getstatic 50, 3) := by decide +kernel
theorem dX0_expectedOfHigher_29 : decode cX0_expectedOfHigher 29 = .ok (.iload_n 2, 1) := by decide +kernel
theorem dX0_expectedOfHigher_30 : decode cX0_expectedOfHigher 30 = .ok (.iconst 1, 1) := by decide +kernel
theorem dX0_expectedOfHigher_31 : decode cX0_expectedOfHigher 31 = .ok (.iadd, 1) := by decide +kernel
theorem dX0_expectedOfHigher_32 : decode cX0_expectedOfHigher 32 = .ok (.iaload, 1) := by decide +kernel
theorem dX0_expectedOfHigher_33 : decode cX0_expectedOfHigher 33 = .ok (.getstatic 50, 3) := by decide +kernel
theorem dX0_expectedOfHigher_36 : decode cX0_expectedOfHigher 36 = .ok (.iload_n 2, 1) := by decide +kernel
theorem dX0_expectedOfHigher_37 : decode cX0_expectedOfHigher 37 = .ok (.iaload, 1) := by decide +kernel
theorem dX0_expectedOfHigher_38 : decode cX0_expectedOfHigher 38 = .ok (.isub, 1) := by decide +kernel
theorem dX0_expectedOfHigher_39 : decode cX0_expectedOfHigher 39 = .ok (.istore_n 3, 1) := by decide +kernel
theorem dX0_expectedOfHigher_40 : decode cX0_expectedOfHigher 40 = .ok (.getstatic 50, 3) := by decide +kernel
theorem dX0_expectedOfHigher_43 : decode cX0_expectedOfHigher 43 = .ok (.iload_n 2, 1) := by decide +kernel
theorem dX0_expectedOfHigher_44 : decode cX0_expectedOfHigher 44 = .ok (.iaload, 1) := by decide +kernel
theorem dX0_expectedOfHigher_45 : decode cX0_expectedOfHigher 45 = .ok (.iload_n 3, 1) := by decide +kernel
theorem dX0_expectedOfHigher_46 : decode cX0_expectedOfHigher 46 = .ok (.iload_n 1, 1) := by decide +kernel
theorem dX0_expectedOfHigher_47 : decode cX0_expectedOfHigher 47 = .ok (.bipush 100, 2) := by decide +kernel
theorem dX0_expectedOfHigher_49 : decode cX0_expectedOfHigher 49 = .ok (.irem, 1) := by decide +kernel
theorem dX0_expectedOfHigher_50 : decode cX0_expectedOfHigher 50 = .ok (.imul, 1) := by decide +kernel
theorem dX0_expectedOfHigher_51 : decode cX0_expectedOfHigher 51 = .ok (.bipush 100, 2) := by decide +kernel
theorem dX0_expectedOfHigher_53 : decode cX0_expectedOfHigher 53 = .ok (.idiv, 1) := by decide +kernel
theorem dX0_expectedOfHigher_54 : decode cX0_expectedOfHigher 54 = .ok (.iadd, 1) := by decide +kernel
theorem dX0_expectedOfHigher_55 : decode cX0_expectedOfHigher 55 = .ok (.ireturn, 1) := by decide +kernel
theorem dX0_weight_0 : decode cX0_weight 0 = .ok (.aload_n 0, 1) := by decide +kernel
theorem dX0_weight_1 : decode cX0_weight 1 = .ok (.getfield 21, 3) := by decide +kernel
theorem dX0_weight_4 : decode cX0_weight 4 = .ok (.iload_n 1, 1) := by decide +kernel
theorem dX0_weight_5 : decode cX0_weight 5 = .ok (.iaload, 1) := by decide +kernel
theorem dX0_weight_6 : decode cX0_weight 6 = .ok (.bipush 10, 2) := by decide +kernel
theorem dX0_weight_8 : decode cX0_weight 8 = .ok (.if_icmp .ge 6, 3) := by decide +kernel
theorem dX0_weight_11 : decode cX0_weight 11 = .ok (.bipush 40, 2) := by decide +kernel
theorem dX0_weight_13 : decode cX0_weight 13 = .ok (.ireturn, 1) := by decide +kernel
theorem dX0_weight_14 : decode cX0_weight 14 = .ok (.aload_n 0, 1) := by decide +kernel
theorem dX0_weight_15 : decode cX0_weight 15 = .ok (.getfield 15, 3) := by decide +kernel
theorem dX0_weight_18 : decode cX0_weight 18 = .ok (.iload_n 1, 1) := by decide +kernel
theorem dX0_weight_19 : decode cX0_weight 19 = .ok (.iaload, 1) := by decide +kernel
theorem dX0_weight_20 : decode cX0_weight 20 = .ok (.sipush 2000, 3) := by decide +kernel
theorem dX0_weight_23 : decode cX0_weight 23 = .ok (.if_icmp .lt 8, 3) := by decide +kernel
theorem dX0_weight_26 : decode cX0_weight 26 = .ok (.bipush 10, 2) := by decide +kernel
theorem dX0_weight_28 : decode cX0_weight 28 = .ok (.goto 5, 3) := by decide +kernel
theorem dX0_weight_31 : decode cX0_weight 31 = .ok (.bipush 20, 2) := by decide +kernel
theorem dX0_weight_33 : decode cX0_weight 33 = .ok (.ireturn, 1) := by decide +kernel
set_option maxRecDepth 20000 in
theorem ggX0_gain_X0_weight : GoodIn wsX0_gain wsX0_weight := goodIn_r _ [13, 14, 1, 23, 24, 25, 26, 27, 28, 29, 30] (by decide +kernel) (by decide +kernel)
set_option maxRecDepth 20000 in
theorem gX0_gain_X0_weight : GoodIn wsX0_gain (wsV RX0 53 RX0 yX0_weight wsX0_weight) := goodIn_app (goodIn_of _ (by decide +kernel)) ggX0_gain_X0_weight
set_option maxRecDepth 20000 in
theorem ggX0_gain_X0_expectation : GoodIn wsX0_gain wsX0_expectation := goodIn_r _ [18, 1, 19, 20, 12, 21, 2, 3, 4, 5, 22, 23, 24, 25, 26, 27, 28, 29, 30] (by decide +kernel) (by decide +kernel)
set_option maxRecDepth 20000 in
theorem gX0_gain_X0_expectation : GoodIn wsX0_gain (wsV RX0 56 RX0 yX0_expectation wsX0_expectation) := goodIn_app (goodIn_of _ (by decide +kernel)) ggX0_gain_X0_expectation
theorem dX0_gain_0 : decode cX0_gain 0 = .ok (.iload_n 3, 1) := by decide +kernel
theorem dX0_gain_1 : decode cX0_gain 1 = .ok (.sipush 500, 3) := by decide +kernel
theorem dX0_gain_4 : decode cX0_gain 4 = .ok (.imul, 1) := by decide +kernel
theorem dX0_gain_5 : decode cX0_gain 5 = .ok (.istore 4, 2) := by decide +kernel
theorem dX0_gain_7 : decode cX0_gain 7 = .ok (.aload_n 0, 1) := by decide +kernel
theorem dX0_gain_8 : decode cX0_gain 8 = .ok (.getfield 15, 3) := by decide +kernel
theorem dX0_gain_11 : decode cX0_gain 11 = .ok (.iload_n 1, 1) := by decide +kernel
theorem dX0_gain_12 : decode cX0_gain 12 = .ok (.iaload, 1) := by decide +kernel
theorem dX0_gain_13 : decode cX0_gain 13 = .ok (.aload_n 0, 1) := by decide +kernel
theorem dX0_gain_14 : decode cX0_gain 14 = .ok (.iload_n 1, 1) := by decide +kernel
theorem dX0_gain_15 : decode cX0_gain 15 = .ok (.invokevirtual 53, 3) := by decide +kernel
theorem dX0_gain_18 : decode cX0_gain 18 = .ok (.iload 4, 2) := by decide +kernel
theorem dX0_gain_20 : decode cX0_gain 20 = .ok (.aload_n 0, 1) := by decide +kernel
theorem dX0_gain_21 : decode cX0_gain 21 = .ok (.iload_n 1, 1) := by decide +kernel
theorem dX0_gain_22 : decode cX0_gain 22 = .ok (.iload_n 2, 1) := by decide +kernel
theorem dX0_gain_23 : decode cX0_gain 23 = .ok (.invokevirtual 56, 3) := by decide +kernel
theorem dX0_gain_26 : decode cX0_gain 26 = .ok (.isub, 1) := by decide +kernel
theorem dX0_gain_27 : decode cX0_gain 27 = .ok (.imul, 1) := by decide +kernel
theorem dX0_gain_28 : decode cX0_gain 28 = .ok (.sipush 1000, 3) := by decide +kernel
theorem dX0_gain_31 : decode cX0_gain 31 = .ok (.idiv, 1) := by decide +kernel
theorem dX0_gain_32 : decode cX0_gain 32 = .ok (.iadd, 1) := by decide +kernel
theorem dX0_gain_33 : decode cX0_gain 33 = .ok (.istore 5, 2) := by decide +kernel
theorem dX0_gain_35 : decode cX0_gain 35 = .ok (.bipush 100, 2) := by decide +kernel
theorem dX0_gain_37 : decode cX0_gain 37 = .ok (.sipush 3000, 3) := by decide +kernel
theorem dX0_gain_40 : decode cX0_gain 40 = .ok (.iload 5, 2) := by decide +kernel
theorem dX0_gain_42 : decode cX0_gain 42 = .ok (.invokestatic 47, 3) := by decide +kernel
theorem dX0_gain_45 : decode cX0_gain 45 = .ok (.invokestatic 37, 3) := by decide +kernel
theorem dX0_gain_48 : decode cX0_gain 48 = .ok (.istore 6, 2) := by decide +kernel
theorem dX0_gain_50 : decode cX0_gain 50 = .ok (.iload 6, 2) := by decide +kernel
theorem dX0_gain_52 : decode cX0_gain 52 = .ok (.aload_n 0, 1) := by decide +kernel
theorem dX0_gain_53 : decode cX0_gain 53 = .ok (.getfield 15, 3) := by decide +kernel
theorem dX0_gain_56 : decode cX0_gain 56 = .ok (.iload_n 1, 1) := by decide +kernel
theorem dX0_gain_57 : decode cX0_gain 57 = .ok (.iaload, 1) := by decide +kernel
theorem dX0_gain_58 : decode cX0_gain 58 = .ok (.isub, 1) := by decide +kernel
theorem dX0_gain_59 : decode cX0_gain 59 = .ok (.ireturn, 1) := by decide +kernel
set_option maxRecDepth 20000 in
theorem ggX0_isUpset_X0_expectation : GoodIn wsX0_isUpset wsX0_expectation := goodIn_r _ [5, 6, 7, 8, 4, 9, 10, 11, 12, 13, 14, 15, 16, 17, 18, 19, 20, 21, 22] (by decide +kernel) (by decide +kernel)
set_option maxRecDepth 20000 in
theorem gX0_isUpset_X0_expectation : GoodIn wsX0_isUpset (wsV RX0 56 RX0 yX0_expectation wsX0_expectation) := goodIn_app (goodIn_of _ (by decide +kernel)) ggX0_isUpset_X0_expectation
theorem dX0_isUpset_0 : decode cX0_isUpset 0 = .ok (.iload_n 3, 1) := by decide +kernel
theorem dX0_isUpset_1 : decode cX0_isUpset 1 = .ok (.iconst 2, 1) := by decide +kernel
theorem dX0_isUpset_2 : decode cX0_isUpset 2 = .ok (.if_icmp .ne 15, 3) := by decide +kernel
theorem dX0_isUpset_5 : decode cX0_isUpset 5 = .ok (.aload_n 0, 1) := by decide +kernel
theorem dX0_isUpset_6 : decode cX0_isUpset 6 = .ok (.iload_n 1, 1) := by decide +kernel
theorem dX0_isUpset_7 : decode cX0_isUpset 7 = .ok (.iload_n 2, 1) := by decide +kernel
theorem dX0_isUpset_8 : decode cX0_isUpset 8 = .ok (.invokevirtual 56, 3) := by decide +kernel
theorem dX0_isUpset_11 : decode cX0_isUpset 11 = .ok (.sipush 400, 3) := by decide +kernel
theorem dX0_isUpset_14 : decode cX0_isUpset 14 = .ok (.if_icmp .lt 19, 3) := by decide +kernel
theorem dX0_isUpset_17 : decode cX0_isUpset 17 = .ok (.iload_n 3, 1) := by decide +kernel
theorem dX0_isUpset_18 : decode cX0_isUpset 18 = .ok (.ifCond .ne 19, 3) := by decide +kernel
theorem dX0_isUpset_21 : decode cX0_isUpset 21 = .ok (.aload_n 0, 1) := by decide +kernel
theorem dX0_isUpset_22 : decode cX0_isUpset 22 = .ok (.iload_n 2, 1) := by decide +kernel
theorem dX0_isUpset_23 : decode cX0_isUpset 23 = .ok (.iload_n 1, 1) := by decide +kernel
theorem dX0_isUpset_24 : decode cX0_isUpset 24 = .ok (.invokevirtual 56, 3) := by decide +kernel
theorem dX0_isUpset_27 : decode cX0_isUpset 27 = .ok (.sipush 400, 3) := by decide +kernel
theorem dX0_isUpset_30 : decode cX0_isUpset 30 = .ok (.if_icmp .ge 7, 3) := by decide +kernel
theorem dX0_isUpset_33 : decode cX0_isUpset 33 = .ok (.iconst 1, 1) := by decide +kernel
theorem dX0_isUpset_34 : decode cX0_isUpset 34 = .ok (.goto 4, 3) := by decide +kernel
theorem dX0_isUpset_37 : decode cX0_isUpset 37 = .ok (.iconst 0, 1) := by decide +kernel
theorem dX0_isUpset_38 : decode cX0_isUpset 38 = .ok (.ireturn, 1) := by decide +kernel
set_option maxRecDepth 20000 in
theorem ggX0_hold_X0_gain : GoodIn wsX0_hold wsX0_gain := goodIn_r _ [5, 6, 7, 8, 9, 10, 11, 12, 13, 14, 15, 16, 4, 17, 18, 19, 20, 21, 22, 23, 24, 25, 26, 39, 40, 41, 42, 43, 44, 45, 46] (by decide +kernel) (by decide +kernel)
set_option maxRecDepth 20000 in
theorem gX0_hold_X0_gain : GoodIn wsX0_hold (wsV RX0 59 RX0 yX0_gain wsX0_gain) := goodIn_app (goodIn_of _ (by decide +kernel)) ggX0_hold_X0_gain
set_option maxRecDepth 20000 in
theorem ggX0_hold_X0_enter : GoodIn wsX0_hold wsX0_enter := goodIn_r _ [30, 6, 31, 18, 32, 33, 34, 35, 36, 4, 37, 38, 11, 12, 9, 13, 39, 40, 41, 42, 43, 44, 45, 46] (by decide +kernel) (by decide +kernel)
set_option maxRecDepth 20000 in
theorem gX0_hold_X0_enter : GoodIn wsX0_hold (wsV RX0 63 RX0 yX0_enter wsX0_enter) := goodIn_app (goodIn_of _ (by decide +kernel)) ggX0_hold_X0_enter
theorem dX0_hold_0 : decode cX0_hold 0 = .ok (.aload_n 0, 1) := by decide +kernel
theorem dX0_hold_1 : decode cX0_hold 1 = .ok (.iload_n 1, 1) := by decide +kernel
theorem dX0_hold_2 : decode cX0_hold 2 = .ok (.iload_n 2, 1) := by decide +kernel
theorem dX0_hold_3 : decode cX0_hold 3 = .ok (.iload_n 3, 1) := by decide +kernel
theorem dX0_hold_4 : decode cX0_hold 4 = .ok (.invokevirtual 59, 3) := by decide +kernel
theorem dX0_hold_7 : decode cX0_hold 7 = .ok (.istore 4, 2) := by decide +kernel
theorem dX0_hold_9 : decode cX0_hold 9 = .ok (.aload_n 0, 1) := by decide +kernel
theorem dX0_hold_10 : decode cX0_hold 10 = .ok (.iload_n 2, 1) := by decide +kernel
theorem dX0_hold_11 : decode cX0_hold 11 = .ok (.iload_n 1, 1) := by decide +kernel
theorem dX0_hold_12 : decode cX0_hold 12 = .ok (.iconst 2, 1) := by decide +kernel
theorem dX0_hold_13 : decode cX0_hold 13 = .ok (.iload_n 3, 1) := by decide +kernel
theorem dX0_hold_14 : decode cX0_hold 14 = .ok (.isub, 1) := by decide +kernel
theorem dX0_hold_15 : decode cX0_hold 15 = .ok (.invokevirtual 59, 3) := by decide +kernel
theorem dX0_hold_18 : decode cX0_hold 18 = .ok (.istore 5, 2) := by decide +kernel
theorem dX0_hold_20 : decode cX0_hold 20 = .ok (.aload_n 0, 1) := by decide +kernel
theorem dX0_hold_21 : decode cX0_hold 21 = .ok (.iload_n 1, 1) := by decide +kernel
theorem dX0_hold_22 : decode cX0_hold 22 = .ok (.iload 4, 2) := by decide +kernel
theorem dX0_hold_24 : decode cX0_hold 24 = .ok (.iload_n 3, 1) := by decide +kernel
theorem dX0_hold_25 : decode cX0_hold 25 = .ok (.invokevirtual 63, 3) := by decide +kernel
theorem dX0_hold_28 : decode cX0_hold 28 = .ok (.aload_n 0, 1) := by decide +kernel
theorem dX0_hold_29 : decode cX0_hold 29 = .ok (.iload_n 2, 1) := by decide +kernel
theorem dX0_hold_30 : decode cX0_hold 30 = .ok (.iload 5, 2) := by decide +kernel
theorem dX0_hold_32 : decode cX0_hold 32 = .ok (.iconst 2, 1) := by decide +kernel
theorem dX0_hold_33 : decode cX0_hold 33 = .ok (.iload_n 3, 1) := by decide +kernel
theorem dX0_hold_34 : decode cX0_hold 34 = .ok (.isub, 1) := by decide +kernel
theorem dX0_hold_35 : decode cX0_hold 35 = .ok (.invokevirtual 63, 3) := by decide +kernel
theorem dX0_hold_38 : decode cX0_hold 38 = .ok (.iload 4, 2) := by decide +kernel
theorem dX0_hold_40 : decode cX0_hold 40 = .ok (.ireturn, 1) := by decide +kernel
set_option maxRecDepth 20000 in
theorem ggX0_holdAsRated_X0_hold : GoodIn wsX0_holdAsRated wsX0_hold := goodIn_r _ [6, 7, 8, 9, 5, 10, 1, 11, 12, 13, 14, 15, 16, 17, 18, 19, 20, 21, 22, 23, 24, 25, 26, 27, 28, 29, 30, 31, 32, 33, 34, 35, 36, 37, 38, 39, 40, 41, 42, 43, 44, 45, 46, 47, 48, 49, 50] (by decide +kernel) (by decide +kernel)
set_option maxRecDepth 20000 in
theorem gX0_holdAsRated_X0_hold : GoodIn wsX0_holdAsRated (wsV RX0 67 RX0 yX0_hold wsX0_hold) := goodIn_app (goodIn_of _ (by decide +kernel)) ggX0_holdAsRated_X0_hold
theorem dX0_holdAsRated_0 : decode cX0_holdAsRated 0 = .ok (.aload_n 0, 1) := by decide +kernel
theorem dX0_holdAsRated_1 : decode cX0_holdAsRated 1 = .ok (.iload_n 1, 1) := by decide +kernel
theorem dX0_holdAsRated_2 : decode cX0_holdAsRated 2 = .ok (.iload_n 2, 1) := by decide +kernel
theorem dX0_holdAsRated_3 : decode cX0_holdAsRated 3 = .ok (.aload_n 0, 1) := by decide +kernel
theorem dX0_holdAsRated_4 : decode cX0_holdAsRated 4 = .ok (.getfield 15, 3) := by decide +kernel
theorem dX0_holdAsRated_7 : decode cX0_holdAsRated 7 = .ok (.iload_n 1, 1) := by decide +kernel
theorem dX0_holdAsRated_8 : decode cX0_holdAsRated 8 = .ok (.iaload, 1) := by decide +kernel
theorem dX0_holdAsRated_9 : decode cX0_holdAsRated 9 = .ok (.aload_n 0, 1) := by decide +kernel
theorem dX0_holdAsRated_10 : decode cX0_holdAsRated 10 = .ok (.getfield 15, 3) := by decide +kernel
theorem dX0_holdAsRated_13 : decode cX0_holdAsRated 13 = .ok (.iload_n 2, 1) := by decide +kernel
theorem dX0_holdAsRated_14 : decode cX0_holdAsRated 14 = .ok (.iaload, 1) := by decide +kernel
theorem dX0_holdAsRated_15 : decode cX0_holdAsRated 15 = .ok (.if_icmp .lt 7, 3) := by decide +kernel
theorem dX0_holdAsRated_18 : decode cX0_holdAsRated 18 = .ok (.iconst 2, 1) := by decide +kernel
theorem dX0_holdAsRated_19 : decode cX0_holdAsRated 19 = .ok (.goto 4, 3) := by decide +kernel
theorem dX0_holdAsRated_22 : decode cX0_holdAsRated 22 = .ok (.iconst 0, 1) := by decide +kernel
theorem dX0_holdAsRated_23 : decode cX0_holdAsRated 23 = .ok (.invokevirtual 67, 3) := by decide +kernel
theorem dX0_holdAsRated_26 : decode cX0_holdAsRated 26 = .ok (.pop, 1) := by decide +kernel
theorem dX0_holdAsRated_27 : decode cX0_holdAsRated 27 = .ok (.return_, 1) := by decide +kernel
set_option maxRecDepth 20000 in
theorem ggX0_enter_X0_setRating : GoodIn wsX0_enter wsX0_setRating := goodIn_r _ [10, 1, 11, 12, 13, 14, 15, 16, 17, 18, 19, 20, 21, 22, 23] (by decide +kernel) (by decide +kernel)
set_option maxRecDepth 20000 in
theorem gX0_enter_X0_setRating : GoodIn wsX0_enter (wsV RX0 70 RX0 yX0_setRating wsX0_setRating) := goodIn_app (goodIn_of _ (by decide +kernel)) ggX0_enter_X0_setRating
theorem dX0_enter_0 : decode cX0_enter 0 = .ok (.aload_n 0, 1) := by decide +kernel
theorem dX0_enter_1 : decode cX0_enter 1 = .ok (.iload_n 1, 1) := by decide +kernel
theorem dX0_enter_2 : decode cX0_enter 2 = .ok (.aload_n 0, 1) := by decide +kernel
theorem dX0_enter_3 : decode cX0_enter 3 = .ok (.getfield 15, 3) := by decide +kernel
theorem dX0_enter_6 : decode cX0_enter 6 = .ok (.iload_n 1, 1) := by decide +kernel
theorem dX0_enter_7 : decode cX0_enter 7 = .ok (.iaload, 1) := by decide +kernel
theorem dX0_enter_8 : decode cX0_enter 8 = .ok (.iload_n 2, 1) := by decide +kernel
theorem dX0_enter_9 : decode cX0_enter 9 = .ok (.iadd, 1) := by decide +kernel
theorem dX0_enter_10 : decode cX0_enter 10 = .ok (.invokevirtual 70, 3) := by decide +kernel
theorem dX0_enter_13 : decode cX0_enter 13 = .ok (.aload_n 0, 1) := by decide +kernel
theorem dX0_enter_14 : decode cX0_enter 14 = .ok (.getfield 18, 3) := by decide +kernel
theorem dX0_enter_17 : decode cX0_enter 17 = .ok (.iload_n 1, 1) := by decide +kernel
theorem dX0_enter_18 : decode cX0_enter 18 = .ok (.dup2, 1) := by decide +kernel
theorem dX0_enter_19 : decode cX0_enter 19 = .ok (.iaload, 1) := by decide +kernel
theorem dX0_enter_20 : decode cX0_enter 20 = .ok (.iload_n 3, 1) := by decide +kernel
theorem dX0_enter_21 : decode cX0_enter 21 = .ok (.iadd, 1) := by decide +kernel
theorem dX0_enter_22 : decode cX0_enter 22 = .ok (.iastore, 1) := by decide +kernel
theorem dX0_enter_23 : decode cX0_enter 23 = .ok (.aload_n 0, 1) := by decide +kernel
theorem dX0_enter_24 : decode cX0_enter 24 = .ok (.getfield 21, 3) := by decide +kernel
theorem dX0_enter_27 : decode cX0_enter 27 = .ok (.iload_n 1, 1) := by decide +kernel
theorem dX0_enter_28 : decode cX0_enter 28 = .ok (.dup2, 1) := by decide +kernel
theorem dX0_enter_29 : decode cX0_enter 29 = .ok (.iaload, 1) := by decide +kernel
theorem dX0_enter_30 : decode cX0_enter 30 = .ok (.iconst 1, 1) := by decide +kernel
theorem dX0_enter_31 : decode cX0_enter 31 = .ok (.iadd, 1) := by decide +kernel
theorem dX0_enter_32 : decode cX0_enter 32 = .ok (.iastore, 1) := by decide +kernel
theorem dX0_enter_33 : decode cX0_enter 33 = .ok (.aload_n 0, 1) := by decide +kernel
theorem dX0_enter_34 : decode cX0_enter 34 = .ok (.getfield 24, 3) := by decide +kernel
theorem dX0_enter_37 : decode cX0_enter 37 = .ok (.iload_n 1, 1) := by decide +kernel
theorem dX0_enter_38 : decode cX0_enter 38 = .ok (.dup2, 1) := by decide +kernel
theorem dX0_enter_39 : decode cX0_enter 39 = .ok (.iaload, 1) := by decide +kernel
theorem dX0_enter_40 : decode cX0_enter 40 = .ok (.iconst 1, 1) := by decide +kernel
theorem dX0_enter_41 : decode cX0_enter 41 = .ok (.iadd, 1) := by decide +kernel
theorem dX0_enter_42 : decode cX0_enter 42 = .ok (.iastore, 1) := by decide +kernel
theorem dX0_enter_43 : decode cX0_enter 43 = .ok (.aload_n 0, 1) := by decide +kernel
theorem dX0_enter_44 : decode cX0_enter 44 = .ok (.getfield 27, 3) := by decide +kernel
theorem dX0_enter_47 : decode cX0_enter 47 = .ok (.iload_n 1, 1) := by decide +kernel
theorem dX0_enter_48 : decode cX0_enter 48 = .ok (.iload_n 3, 1) := by decide +kernel
theorem dX0_enter_49 : decode cX0_enter 49 = .ok (.iconst 2, 1) := by decide +kernel
theorem dX0_enter_50 : decode cX0_enter 50 = .ok (.if_icmp .ne 14, 3) := by decide +kernel
theorem dX0_enter_53 : decode cX0_enter 53 = .ok (.aload_n 0, 1) := by decide +kernel
theorem dX0_enter_54 : decode cX0_enter 54 = .ok (.getfield 27, 3) := by decide +kernel
theorem dX0_enter_57 : decode cX0_enter 57 = .ok (.iload_n 1, 1) := by decide +kernel
theorem dX0_enter_58 : decode cX0_enter 58 = .ok (.iaload, 1) := by decide +kernel
theorem dX0_enter_59 : decode cX0_enter 59 = .ok (.iconst 1, 1) := by decide +kernel
theorem dX0_enter_60 : decode cX0_enter 60 = .ok (.iadd, 1) := by decide +kernel
theorem dX0_enter_61 : decode cX0_enter 61 = .ok (.goto 4, 3) := by decide +kernel
theorem dX0_enter_64 : decode cX0_enter 64 = .ok (.iconst 0, 1) := by decide +kernel
theorem dX0_enter_65 : decode cX0_enter 65 = .ok (.iastore, 1) := by decide +kernel
theorem dX0_enter_66 : decode cX0_enter 66 = .ok (.return_, 1) := by decide +kernel
set_option maxRecDepth 20000 in
theorem ggX0_drift_X0_setRating : GoodIn wsX0_drift wsX0_setRating := goodIn_r _ [8, 3, 9, 10, 11, 12, 13, 14, 15, 16, 17, 18, 19, 20, 21] (by decide +kernel) (by decide +kernel)
set_option maxRecDepth 20000 in
theorem gX0_drift_X0_setRating : GoodIn wsX0_drift (wsV RX0 70 RX0 yX0_setRating wsX0_setRating) := goodIn_app (goodIn_of _ (by decide +kernel)) ggX0_drift_X0_setRating
theorem dX0_drift_0 : decode cX0_drift 0 = .ok (.iconst 0, 1) := by decide +kernel
theorem dX0_drift_1 : decode cX0_drift 1 = .ok (.istore_n 1, 1) := by decide +kernel
theorem dX0_drift_2 : decode cX0_drift 2 = .ok (.iload_n 1, 1) := by decide +kernel
theorem dX0_drift_3 : decode cX0_drift 3 = .ok (.aload_n 0, 1) := by decide +kernel
theorem dX0_drift_4 : decode cX0_drift 4 = .ok (.getfield 33, 3) := by decide +kernel
theorem dX0_drift_7 : decode cX0_drift 7 = .ok (.if_icmp .ge 44, 3) := by decide +kernel
theorem dX0_drift_10 : decode cX0_drift 10 = .ok (.aload_n 0, 1) := by decide +kernel
theorem dX0_drift_11 : decode cX0_drift 11 = .ok (.getfield 24, 3) := by decide +kernel
theorem dX0_drift_14 : decode cX0_drift 14 = .ok (.iload_n 1, 1) := by decide +kernel
theorem dX0_drift_15 : decode cX0_drift 15 = .ok (.iaload, 1) := by decide +kernel
theorem dX0_drift_16 : decode cX0_drift 16 = .ok (.iconst 3, 1) := by decide +kernel
theorem dX0_drift_17 : decode cX0_drift 17 = .ok (.if_icmp .ge 28, 3) := by decide +kernel
theorem dX0_drift_20 : decode cX0_drift 20 = .ok (.aload_n 0, 1) := by decide +kernel
theorem dX0_drift_21 : decode cX0_drift 21 = .ok (.iload_n 1, 1) := by decide +kernel
theorem dX0_drift_22 : decode cX0_drift 22 = .ok (.aload_n 0, 1) := by decide +kernel
theorem dX0_drift_23 : decode cX0_drift 23 = .ok (.getfield 15, 3) := by decide +kernel
theorem dX0_drift_26 : decode cX0_drift 26 = .ok (.iload_n 1, 1) := by decide +kernel
theorem dX0_drift_27 : decode cX0_drift 27 = .ok (.iaload, 1) := by decide +kernel
theorem dX0_drift_28 : decode cX0_drift 28 = .ok (.aload_n 0, 1) := by decide +kernel
theorem dX0_drift_29 : decode cX0_drift 29 = .ok (.getfield 15, 3) := by decide +kernel
theorem dX0_drift_32 : decode cX0_drift 32 = .ok (.iload_n 1, 1) := by decide +kernel
theorem dX0_drift_33 : decode cX0_drift 33 = .ok (.iaload, 1) := by decide +kernel
theorem dX0_drift_34 : decode cX0_drift 34 = .ok (.sipush 1000, 3) := by decide +kernel
theorem dX0_drift_37 : decode cX0_drift 37 = .ok (.isub, 1) := by decide +kernel
theorem dX0_drift_38 : decode cX0_drift 38 = .ok (.bipush 8, 2) := by decide +kernel
theorem dX0_drift_40 : decode cX0_drift 40 = .ok (.idiv, 1) := by decide +kernel
theorem dX0_drift_41 : decode cX0_drift 41 = .ok (.isub, 1) := by decide +kernel
theorem dX0_drift_42 : decode cX0_drift 42 = .ok (.invokevirtual 70, 3) := by decide +kernel
theorem dX0_drift_45 : decode cX0_drift 45 = .ok (.iinc 1 1, 3) := by decide +kernel
theorem dX0_drift_48 : decode cX0_drift 48 = .ok (.goto (-46), 3) := by decide +kernel
theorem dX0_drift_51 : decode cX0_drift 51 = .ok (.return_, 1) := by decide +kernel
set_option maxRecDepth 20000 in
theorem ggX0_exchange_X0_sizeOf : GoodIn wsX0_exchange wsX0_sizeOf := goodIn_r _ [7, 8, 2, 22, 23, 24, 25, 26, 27, 28, 29] (by decide +kernel) (by decide +kernel)
set_option maxRecDepth 20000 in
theorem gX0_exchange_X0_sizeOf : GoodIn wsX0_exchange (wsV RX0 74 RX0 yX0_sizeOf wsX0_sizeOf) := goodIn_app (goodIn_of _ (by decide +kernel)) ggX0_exchange_X0_sizeOf
set_option maxRecDepth 20000 in
theorem ggX0_exchange_X0_standingAt : GoodIn wsX0_exchange wsX0_standingAt := goodIn_r _ [12, 8, 2, 13, 14, 15, 6, 16, 17, 18, 19, 20, 1, 21, 22, 23, 24, 25, 26, 27, 28, 29] (by decide +kernel) (by decide +kernel)
set_option maxRecDepth 20000 in
theorem gX0_exchange_X0_standingAt : GoodIn wsX0_exchange (wsV RX0 77 RX0 yX0_standingAt wsX0_standingAt) := goodIn_app (goodIn_of _ (by decide +kernel)) ggX0_exchange_X0_standingAt
theorem dX0_exchange_0 : decode cX0_exchange 0 = .ok (.aload_n 0, 1) := by decide +kernel
theorem dX0_exchange_1 : decode cX0_exchange 1 = .ok (.iload_n 1, 1) := by decide +kernel
theorem dX0_exchange_2 : decode cX0_exchange 2 = .ok (.aload_n 0, 1) := by decide +kernel
theorem dX0_exchange_3 : decode cX0_exchange 3 = .ok (.iload_n 1, 1) := by decide +kernel
theorem dX0_exchange_4 : decode cX0_exchange 4 = .ok (.invokevirtual 74, 3) := by decide +kernel
theorem dX0_exchange_7 : decode cX0_exchange 7 = .ok (.invokevirtual 77, 3) := by decide +kernel
theorem dX0_exchange_10 : decode cX0_exchange 10 = .ok (.istore_n 2, 1) := by decide +kernel
theorem dX0_exchange_11 : decode cX0_exchange 11 = .ok (.aload_n 0, 1) := by decide +kernel
theorem dX0_exchange_12 : decode cX0_exchange 12 = .ok (.iload_n 1, 1) := by decide +kernel
theorem dX0_exchange_13 : decode cX0_exchange 13 = .ok (.iconst 1, 1) := by decide +kernel
theorem dX0_exchange_14 : decode cX0_exchange 14 = .ok (.iadd, 1) := by decide +kernel
theorem dX0_exchange_15 : decode cX0_exchange 15 = .ok (.iconst 1, 1) := by decide +kernel
theorem dX0_exchange_16 : decode cX0_exchange 16 = .ok (.invokevirtual 77, 3) := by decide +kernel
theorem dX0_exchange_19 : decode cX0_exchange 19 = .ok (.istore_n 3, 1) := by decide +kernel
theorem dX0_exchange_20 : decode cX0_exchange 20 = .ok (.iload_n 2, 1) := by decide +kernel
theorem dX0_exchange_21 : decode cX0_exchange 21 = .ok (.iconst (-1), 1) := by decide +kernel
theorem dX0_exchange_22 : decode cX0_exchange 22 = .ok (.if_icmp .eq 23, 3) := by decide +kernel
theorem dX0_exchange_25 : decode cX0_exchange 25 = .ok (.iload_n 3, 1) := by decide +kernel
theorem dX0_exchange_26 : decode cX0_exchange 26 = .ok (.iconst (-1), 1) := by decide +kernel
theorem dX0_exchange_27 : decode cX0_exchange 27 = .ok (.if_icmp .eq 18, 3) := by decide +kernel
theorem dX0_exchange_30 : decode cX0_exchange 30 = .ok (.aload_n 0, 1) := by decide +kernel
theorem dX0_exchange_31 : decode cX0_exchange 31 = .ok (.getfield 18, 3) := by decide +kernel
theorem dX0_exchange_34 : decode cX0_exchange 34 = .ok (.iload_n 3, 1) := by decide +kernel
theorem dX0_exchange_35 : decode cX0_exchange 35 = .ok (.iaload, 1) := by decide +kernel
theorem dX0_exchange_36 : decode cX0_exchange 36 = .ok (.aload_n 0, 1) := by decide +kernel
theorem dX0_exchange_37 : decode cX0_exchange 37 = .ok (.getfield 18, 3) := by decide +kernel
theorem dX0_exchange_40 : decode cX0_exchange 40 = .ok (.iload_n 2, 1) := by decide +kernel
theorem dX0_exchange_41 : decode cX0_exchange 41 = .ok (.iaload, 1) := by decide +kernel
theorem dX0_exchange_42 : decode cX0_exchange 42 = .ok (.if_icmp .gt 5, 3) := by decide +kernel
theorem dX0_exchange_45 : decode cX0_exchange 45 = .ok (.iconst 0, 1) := by decide +kernel
theorem dX0_exchange_46 : decode cX0_exchange 46 = .ok (.ireturn, 1) := by decide +kernel
theorem dX0_exchange_47 : decode cX0_exchange 47 = .ok (.aload_n 0, 1) := by decide +kernel
theorem dX0_exchange_48 : decode cX0_exchange 48 = .ok (.getfield 9, 3) := by decide +kernel
theorem dX0_exchange_51 : decode cX0_exchange 51 = .ok (.iload_n 2, 1) := by decide +kernel
theorem dX0_exchange_52 : decode cX0_exchange 52 = .ok (.iload_n 1, 1) := by decide +kernel
theorem dX0_exchange_53 : decode cX0_exchange 53 = .ok (.iconst 1, 1) := by decide +kernel
theorem dX0_exchange_54 : decode cX0_exchange 54 = .ok (.iadd, 1) := by decide +kernel
theorem dX0_exchange_55 : decode cX0_exchange 55 = .ok (.iastore, 1) := by decide +kernel
theorem dX0_exchange_56 : decode cX0_exchange 56 = .ok (.aload_n 0, 1) := by decide +kernel
theorem dX0_exchange_57 : decode cX0_exchange 57 = .ok (.getfield 9, 3) := by decide +kernel
theorem dX0_exchange_60 : decode cX0_exchange 60 = .ok (.iload_n 3, 1) := by decide +kernel
theorem dX0_exchange_61 : decode cX0_exchange 61 = .ok (.iload_n 1, 1) := by decide +kernel
theorem dX0_exchange_62 : decode cX0_exchange 62 = .ok (.iastore, 1) := by decide +kernel
theorem dX0_exchange_63 : decode cX0_exchange 63 = .ok (.iconst 1, 1) := by decide +kernel
theorem dX0_exchange_64 : decode cX0_exchange 64 = .ok (.ireturn, 1) := by decide +kernel
theorem dX0_clearSeason_0 : decode cX0_clearSeason 0 = .ok (.iconst 0, 1) := by decide +kernel
theorem dX0_clearSeason_1 : decode cX0_clearSeason 1 = .ok (.istore_n 1, 1) := by decide +kernel
theorem dX0_clearSeason_2 : decode cX0_clearSeason 2 = .ok (.iload_n 1, 1) := by decide +kernel
theorem dX0_clearSeason_3 : decode cX0_clearSeason 3 = .ok (.aload_n 0, 1) := by decide +kernel
theorem dX0_clearSeason_4 : decode cX0_clearSeason 4 = .ok (.getfield 33, 3) := by decide +kernel
theorem dX0_clearSeason_7 : decode cX0_clearSeason 7 = .ok (.if_icmp .ge 23, 3) := by decide +kernel
theorem dX0_clearSeason_10 : decode cX0_clearSeason 10 = .ok (.aload_n 0, 1) := by decide +kernel
theorem dX0_clearSeason_11 : decode cX0_clearSeason 11 = .ok (.getfield 18, 3) := by decide +kernel
theorem dX0_clearSeason_14 : decode cX0_clearSeason 14 = .ok (.iload_n 1, 1) := by decide +kernel
theorem dX0_clearSeason_15 : decode cX0_clearSeason 15 = .ok (.iconst 0, 1) := by decide +kernel
theorem dX0_clearSeason_16 : decode cX0_clearSeason 16 = .ok (.iastore, 1) := by decide +kernel
theorem dX0_clearSeason_17 : decode cX0_clearSeason 17 = .ok (.aload_n 0, 1) := by decide +kernel
theorem dX0_clearSeason_18 : decode cX0_clearSeason 18 = .ok (.getfield 24, 3) := by decide +kernel
theorem dX0_clearSeason_21 : decode cX0_clearSeason 21 = .ok (.iload_n 1, 1) := by decide +kernel
theorem dX0_clearSeason_22 : decode cX0_clearSeason 22 = .ok (.iconst 0, 1) := by decide +kernel
theorem dX0_clearSeason_23 : decode cX0_clearSeason 23 = .ok (.iastore, 1) := by decide +kernel
theorem dX0_clearSeason_24 : decode cX0_clearSeason 24 = .ok (.iinc 1 1, 3) := by decide +kernel
theorem dX0_clearSeason_27 : decode cX0_clearSeason 27 = .ok (.goto (-25), 3) := by decide +kernel
theorem dX0_clearSeason_30 : decode cX0_clearSeason 30 = .ok (.return_, 1) := by decide +kernel
theorem dX0_sizeOf_0 : decode cX0_sizeOf 0 = .ok (.iconst 0, 1) := by decide +kernel
theorem dX0_sizeOf_1 : decode cX0_sizeOf 1 = .ok (.istore_n 2, 1) := by decide +kernel
theorem dX0_sizeOf_2 : decode cX0_sizeOf 2 = .ok (.iconst 0, 1) := by decide +kernel
theorem dX0_sizeOf_3 : decode cX0_sizeOf 3 = .ok (.istore_n 3, 1) := by decide +kernel
theorem dX0_sizeOf_4 : decode cX0_sizeOf 4 = .ok (.iload_n 3, 1) := by decide +kernel
theorem dX0_sizeOf_5 : decode cX0_sizeOf 5 = .ok (.aload_n 0, 1) := by decide +kernel
theorem dX0_sizeOf_6 : decode cX0_sizeOf 6 = .ok (.getfield 33, 3) := by decide +kernel
theorem dX0_sizeOf_9 : decode cX0_sizeOf 9 = .ok (.if_icmp .ge 22, 3) := by decide +kernel
theorem dX0_sizeOf_12 : decode cX0_sizeOf 12 = .ok (.aload_n 0, 1) := by decide +kernel
theorem dX0_sizeOf_13 : decode cX0_sizeOf 13 = .ok (.getfield 9, 3) := by decide +kernel
theorem dX0_sizeOf_16 : decode cX0_sizeOf 16 = .ok (.iload_n 3, 1) := by decide +kernel
theorem dX0_sizeOf_17 : decode cX0_sizeOf 17 = .ok (.iaload, 1) := by decide +kernel
theorem dX0_sizeOf_18 : decode cX0_sizeOf 18 = .ok (.iload_n 1, 1) := by decide +kernel
theorem dX0_sizeOf_19 : decode cX0_sizeOf 19 = .ok (.if_icmp .ne 6, 3) := by decide +kernel
theorem dX0_sizeOf_22 : decode cX0_sizeOf 22 = .ok (.iinc 2 1, 3) := by decide +kernel
theorem dX0_sizeOf_25 : decode cX0_sizeOf 25 = .ok (.iinc 3 1, 3) := by decide +kernel
theorem dX0_sizeOf_28 : decode cX0_sizeOf 28 = .ok (.goto (-24), 3) := by decide +kernel
theorem dX0_sizeOf_31 : decode cX0_sizeOf 31 = .ok (.iload_n 2, 1) := by decide +kernel
theorem dX0_sizeOf_32 : decode cX0_sizeOf 32 = .ok (.ireturn, 1) := by decide +kernel
set_option maxRecDepth 20000 in
theorem ggX0_place_X0_isAhead : GoodIn wsX0_place wsX0_isAhead := goodIn_r _ [7, 8, 9, 10, 11, 12, 13, 14, 15, 16, 17] (by decide +kernel) (by decide +kernel)
set_option maxRecDepth 20000 in
theorem gX0_place_X0_isAhead : GoodIn wsX0_place (wsV RX0 80 RX0 yX0_isAhead wsX0_isAhead) := goodIn_app (goodIn_of _ (by decide +kernel)) ggX0_place_X0_isAhead
theorem dX0_place_0 : decode cX0_place 0 = .ok (.iconst 1, 1) := by decide +kernel
theorem dX0_place_1 : decode cX0_place 1 = .ok (.istore_n 2, 1) := by decide +kernel
theorem dX0_place_2 : decode cX0_place 2 = .ok (.iconst 0, 1) := by decide +kernel
theorem dX0_place_3 : decode cX0_place 3 = .ok (.istore_n 3, 1) := by decide +kernel
theorem dX0_place_4 : decode cX0_place 4 = .ok (.iload_n 3, 1) := by decide +kernel
theorem dX0_place_5 : decode cX0_place 5 = .ok (.aload_n 0, 1) := by decide +kernel
theorem dX0_place_6 : decode cX0_place 6 = .ok (.getfield 33, 3) := by decide +kernel
theorem dX0_place_9 : decode cX0_place 9 = .ok (.if_icmp .ge 36, 3) := by decide +kernel
theorem dX0_place_12 : decode cX0_place 12 = .ok (.aload_n 0, 1) := by decide +kernel
theorem dX0_place_13 : decode cX0_place 13 = .ok (.getfield 9, 3) := by decide +kernel
theorem dX0_place_16 : decode cX0_place 16 = .ok (.iload_n 3, 1) := by decide +kernel
theorem dX0_place_17 : decode cX0_place 17 = .ok (.iaload, 1) := by decide +kernel
theorem dX0_place_18 : decode cX0_place 18 = .ok (.aload_n 0, 1) := by decide +kernel
theorem dX0_place_19 : decode cX0_place 19 = .ok (.getfield 9, 3) := by decide +kernel
theorem dX0_place_22 : decode cX0_place 22 = .ok (.iload_n 1, 1) := by decide +kernel
theorem dX0_place_23 : decode cX0_place 23 = .ok (.iaload, 1) := by decide +kernel
theorem dX0_place_24 : decode cX0_place 24 = .ok (.if_icmp .ne 15, 3) := by decide +kernel
theorem dX0_place_27 : decode cX0_place 27 = .ok (.aload_n 0, 1) := by decide +kernel
theorem dX0_place_28 : decode cX0_place 28 = .ok (.iload_n 3, 1) := by decide +kernel
theorem dX0_place_29 : decode cX0_place 29 = .ok (.iload_n 1, 1) := by decide +kernel
theorem dX0_place_30 : decode cX0_place 30 = .ok (.invokevirtual 80, 3) := by decide +kernel
theorem dX0_place_33 : decode cX0_place 33 = .ok (.ifCond .eq 6, 3) := by decide +kernel
theorem dX0_place_36 : decode cX0_place 36 = .ok (.iinc 2 1, 3) := by decide +kernel
theorem dX0_place_39 : decode cX0_place 39 = .ok (.iinc 3 1, 3) := by decide +kernel
theorem dX0_place_42 : decode cX0_place 42 = .ok (.goto (-38), 3) := by decide +kernel
theorem dX0_place_45 : decode cX0_place 45 = .ok (.iload_n 2, 1) := by decide +kernel
theorem dX0_place_46 : decode cX0_place 46 = .ok (.ireturn, 1) := by decide +kernel
theorem dX0_isAhead_0 : decode cX0_isAhead 0 = .ok (.aload_n 0, 1) := by decide +kernel
theorem dX0_isAhead_1 : decode cX0_isAhead 1 = .ok (.getfield 18, 3) := by decide +kernel
theorem dX0_isAhead_4 : decode cX0_isAhead 4 = .ok (.iload_n 1, 1) := by decide +kernel
theorem dX0_isAhead_5 : decode cX0_isAhead 5 = .ok (.iaload, 1) := by decide +kernel
theorem dX0_isAhead_6 : decode cX0_isAhead 6 = .ok (.aload_n 0, 1) := by decide +kernel
theorem dX0_isAhead_7 : decode cX0_isAhead 7 = .ok (.getfield 18, 3) := by decide +kernel
theorem dX0_isAhead_10 : decode cX0_isAhead 10 = .ok (.iload_n 2, 1) := by decide +kernel
theorem dX0_isAhead_11 : decode cX0_isAhead 11 = .ok (.iaload, 1) := by decide +kernel
theorem dX0_isAhead_12 : decode cX0_isAhead 12 = .ok (.if_icmp .eq 24, 3) := by decide +kernel
theorem dX0_isAhead_15 : decode cX0_isAhead 15 = .ok (.aload_n 0, 1) := by decide +kernel
theorem dX0_isAhead_16 : decode cX0_isAhead 16 = .ok (.getfield 18, 3) := by decide +kernel
theorem dX0_isAhead_19 : decode cX0_isAhead 19 = .ok (.iload_n 1, 1) := by decide +kernel
theorem dX0_isAhead_20 : decode cX0_isAhead 20 = .ok (.iaload, 1) := by decide +kernel
theorem dX0_isAhead_21 : decode cX0_isAhead 21 = .ok (.aload_n 0, 1) := by decide +kernel
theorem dX0_isAhead_22 : decode cX0_isAhead 22 = .ok (.getfield 18, 3) := by decide +kernel
theorem dX0_isAhead_25 : decode cX0_isAhead 25 = .ok (.iload_n 2, 1) := by decide +kernel
theorem dX0_isAhead_26 : decode cX0_isAhead 26 = .ok (.iaload, 1) := by decide +kernel
theorem dX0_isAhead_27 : decode cX0_isAhead 27 = .ok (.if_icmp .le 7, 3) := by decide +kernel
theorem dX0_isAhead_30 : decode cX0_isAhead 30 = .ok (.iconst 1, 1) := by decide +kernel
theorem dX0_isAhead_31 : decode cX0_isAhead 31 = .ok (.goto 4, 3) := by decide +kernel
theorem dX0_isAhead_34 : decode cX0_isAhead 34 = .ok (.iconst 0, 1) := by decide +kernel
theorem dX0_isAhead_35 : decode cX0_isAhead 35 = .ok (.ireturn, 1) := by decide +kernel
theorem dX0_isAhead_36 : decode cX0_isAhead 36 = .ok (.aload_n 0, 1) := by decide +kernel
theorem dX0_isAhead_37 : decode cX0_isAhead 37 = .ok (.getfield 15, 3) := by decide +kernel
theorem dX0_isAhead_40 : decode cX0_isAhead 40 = .ok (.iload_n 1, 1) := by decide +kernel
theorem dX0_isAhead_41 : decode cX0_isAhead 41 = .ok (.iaload, 1) := by decide +kernel
theorem dX0_isAhead_42 : decode cX0_isAhead 42 = .ok (.aload_n 0, 1) := by decide +kernel
theorem dX0_isAhead_43 : decode cX0_isAhead 43 = .ok (.getfield 15, 3) := by decide +kernel
theorem dX0_isAhead_46 : decode cX0_isAhead 46 = .ok (.iload_n 2, 1) := by decide +kernel
theorem dX0_isAhead_47 : decode cX0_isAhead 47 = .ok (.iaload, 1) := by decide +kernel
theorem dX0_isAhead_48 : decode cX0_isAhead 48 = .ok (.if_icmp .eq 24, 3) := by decide +kernel
theorem dX0_isAhead_51 : decode cX0_isAhead 51 = .ok (.aload_n 0, 1) := by decide +kernel
theorem dX0_isAhead_52 : decode cX0_isAhead 52 = .ok (.getfield 15, 3) := by decide +kernel
theorem dX0_isAhead_55 : decode cX0_isAhead 55 = .ok (.iload_n 1, 1) := by decide +kernel
theorem dX0_isAhead_56 : decode cX0_isAhead 56 = .ok (.iaload, 1) := by decide +kernel
theorem dX0_isAhead_57 : decode cX0_isAhead 57 = .ok (.aload_n 0, 1) := by decide +kernel
theorem dX0_isAhead_58 : decode cX0_isAhead 58 = .ok (.getfield 15, 3) := by decide +kernel
theorem dX0_isAhead_61 : decode cX0_isAhead 61 = .ok (.iload_n 2, 1) := by decide +kernel
theorem dX0_isAhead_62 : decode cX0_isAhead 62 = .ok (.iaload, 1) := by decide +kernel
theorem dX0_isAhead_63 : decode cX0_isAhead 63 = .ok (.if_icmp .le 7, 3) := by decide +kernel
theorem dX0_isAhead_66 : decode cX0_isAhead 66 = .ok (.iconst 1, 1) := by decide +kernel
theorem dX0_isAhead_67 : decode cX0_isAhead 67 = .ok (.goto 4, 3) := by decide +kernel
theorem dX0_isAhead_70 : decode cX0_isAhead 70 = .ok (.iconst 0, 1) := by decide +kernel
theorem dX0_isAhead_71 : decode cX0_isAhead 71 = .ok (.ireturn, 1) := by decide +kernel
theorem dX0_isAhead_72 : decode cX0_isAhead 72 = .ok (.iload_n 1, 1) := by decide +kernel
theorem dX0_isAhead_73 : decode cX0_isAhead 73 = .ok (.iload_n 2, 1) := by decide +kernel
theorem dX0_isAhead_74 : decode cX0_isAhead 74 = .ok (.if_icmp .ge 7, 3) := by decide +kernel
theorem dX0_isAhead_77 : decode cX0_isAhead 77 = .ok (.iconst 1, 1) := by decide +kernel
theorem dX0_isAhead_78 : decode cX0_isAhead 78 = .ok (.goto 4, 3) := by decide +kernel
theorem dX0_isAhead_81 : decode cX0_isAhead 81 = .ok (.iconst 0, 1) := by decide +kernel
theorem dX0_isAhead_82 : decode cX0_isAhead 82 = .ok (.ireturn, 1) := by decide +kernel
set_option maxRecDepth 20000 in
theorem ggX0_standingAt_X0_place : GoodIn wsX0_standingAt wsX0_place := goodIn_r _ [7, 1, 2, 8, 9, 10, 6, 11, 12, 13, 14, 15, 16, 17, 18, 19, 20, 21] (by decide +kernel) (by decide +kernel)
set_option maxRecDepth 20000 in
theorem gX0_standingAt_X0_place : GoodIn wsX0_standingAt (wsV RX0 84 RX0 yX0_place wsX0_place) := goodIn_app (goodIn_of _ (by decide +kernel)) ggX0_standingAt_X0_place
theorem dX0_standingAt_0 : decode cX0_standingAt 0 = .ok (.iconst 0, 1) := by decide +kernel
theorem dX0_standingAt_1 : decode cX0_standingAt 1 = .ok (.istore_n 3, 1) := by decide +kernel
theorem dX0_standingAt_2 : decode cX0_standingAt 2 = .ok (.iload_n 3, 1) := by decide +kernel
theorem dX0_standingAt_3 : decode cX0_standingAt 3 = .ok (.aload_n 0, 1) := by decide +kernel
theorem dX0_standingAt_4 : decode cX0_standingAt 4 = .ok (.getfield 33, 3) := by decide +kernel
theorem dX0_standingAt_7 : decode cX0_standingAt 7 = .ok (.if_icmp .ge 30, 3) := by decide +kernel
theorem dX0_standingAt_10 : decode cX0_standingAt 10 = .ok (.aload_n 0, 1) := by decide +kernel
theorem dX0_standingAt_11 : decode cX0_standingAt 11 = .ok (.getfield 9, 3) := by decide +kernel
theorem dX0_standingAt_14 : decode cX0_standingAt 14 = .ok (.iload_n 3, 1) := by decide +kernel
theorem dX0_standingAt_15 : decode cX0_standingAt 15 = .ok (.iaload, 1) := by decide +kernel
theorem dX0_standingAt_16 : decode cX0_standingAt 16 = .ok (.iload_n 1, 1) := by decide +kernel
theorem dX0_standingAt_17 : decode cX0_standingAt 17 = .ok (.if_icmp .ne 14, 3) := by decide +kernel
theorem dX0_standingAt_20 : decode cX0_standingAt 20 = .ok (.aload_n 0, 1) := by decide +kernel
theorem dX0_standingAt_21 : decode cX0_standingAt 21 = .ok (.iload_n 3, 1) := by decide +kernel
theorem dX0_standingAt_22 : decode cX0_standingAt 22 = .ok (.invokevirtual 84, 3) := by decide +kernel
theorem dX0_standingAt_25 : decode cX0_standingAt 25 = .ok (.iload_n 2, 1) := by decide +kernel
theorem dX0_standingAt_26 : decode cX0_standingAt 26 = .ok (.if_icmp .ne 5, 3) := by decide +kernel
theorem dX0_standingAt_29 : decode cX0_standingAt 29 = .ok (.iload_n 3, 1) := by decide +kernel
theorem dX0_standingAt_30 : decode cX0_standingAt 30 = .ok (.ireturn, 1) := by decide +kernel
theorem dX0_standingAt_31 : decode cX0_standingAt 31 = .ok (.iinc 3 1, 3) := by decide +kernel
theorem dX0_standingAt_34 : decode cX0_standingAt 34 = .ok (.goto (-32), 3) := by decide +kernel
theorem dX0_standingAt_37 : decode cX0_standingAt 37 = .ok (.iconst (-1), 1) := by decide +kernel
theorem dX0_standingAt_38 : decode cX0_standingAt 38 = .ok (.ireturn, 1) := by decide +kernel
theorem dX0_highest_0 : decode cX0_highest 0 = .ok (.iconst 0, 1) := by decide +kernel
theorem dX0_highest_1 : decode cX0_highest 1 = .ok (.istore_n 1, 1) := by decide +kernel
end
section
theorem dX0_highest_2 : decode cX0_highest 2 = .ok (.iconst 0, 1) := by decide +kernel
theorem dX0_highest_3 : decode cX0_highest 3 = .ok (.istore_n 2, 1) := by decide +kernel
theorem dX0_highest_4 : decode cX0_highest 4 = .ok (.iload_n 2, 1) := by decide +kernel
theorem dX0_highest_5 : decode cX0_highest 5 = .ok (.aload_n 0, 1) := by decide +kernel
theorem dX0_highest_6 : decode cX0_highest 6 = .ok (.getfield 33, 3) := by decide +kernel
theorem dX0_highest_9 : decode cX0_highest 9 = .ok (.if_icmp .ge 20, 3) := by decide +kernel
theorem dX0_highest_12 : decode cX0_highest 12 = .ok (.iload_n 1, 1) := by decide +kernel
theorem dX0_highest_13 : decode cX0_highest 13 = .ok (.aload_n 0, 1) := by decide +kernel
theorem dX0_highest_14 : decode cX0_highest 14 = .ok (.getfield 15, 3) := by decide +kernel
theorem dX0_highest_17 : decode cX0_highest 17 = .ok (.iload_n 2, 1) := by decide +kernel
theorem dX0_highest_18 : decode cX0_highest 18 = .ok (.iaload, 1) := by decide +kernel
theorem dX0_highest_19 : decode cX0_highest 19 = .ok (.invokestatic 37, 3) := by decide +kernel
theorem dX0_highest_22 : decode cX0_highest 22 = .ok (.istore_n 1, 1) := by decide +kernel
theorem dX0_highest_23 : decode cX0_highest 23 = .ok (.iinc 2 1, 3) := by decide +kernel
theorem dX0_highest_26 : decode cX0_highest 26 = .ok (.goto (-22), 3) := by decide +kernel
theorem dX0_highest_29 : decode cX0_highest 29 = .ok (.iload_n 1, 1) := by decide +kernel
theorem dX0_highest_30 : decode cX0_highest 30 = .ok (.ireturn, 1) := by decide +kernel
theorem dX0_lowest_0 : decode cX0_lowest 0 = .ok (.aload_n 0, 1) := by decide +kernel
theorem dX0_lowest_1 : decode cX0_lowest 1 = .ok (.getfield 33, 3) := by decide +kernel
theorem dX0_lowest_4 : decode cX0_lowest 4 = .ok (.ifCond .ne 7, 3) := by decide +kernel
theorem dX0_lowest_7 : decode cX0_lowest 7 = .ok (.iconst 0, 1) := by decide +kernel
theorem dX0_lowest_8 : decode cX0_lowest 8 = .ok (.goto 6, 3) := by decide +kernel
theorem dX0_lowest_11 : decode cX0_lowest 11 = .ok (.sipush 3000, 3) := by decide +kernel
theorem dX0_lowest_14 : decode cX0_lowest 14 = .ok (.istore_n 1, 1) := by decide +kernel
theorem dX0_lowest_15 : decode cX0_lowest 15 = .ok (.iconst 0, 1) := by decide +kernel
theorem dX0_lowest_16 : decode cX0_lowest 16 = .ok (.istore_n 2, 1) := by decide +kernel
theorem dX0_lowest_17 : decode cX0_lowest 17 = .ok (.iload_n 2, 1) := by decide +kernel
theorem dX0_lowest_18 : decode cX0_lowest 18 = .ok (.aload_n 0, 1) := by decide +kernel
theorem dX0_lowest_19 : decode cX0_lowest 19 = .ok (.getfield 33, 3) := by decide +kernel
theorem dX0_lowest_22 : decode cX0_lowest 22 = .ok (.if_icmp .ge 20, 3) := by decide +kernel
theorem dX0_lowest_25 : decode cX0_lowest 25 = .ok (.iload_n 1, 1) := by decide +kernel
theorem dX0_lowest_26 : decode cX0_lowest 26 = .ok (.aload_n 0, 1) := by decide +kernel
theorem dX0_lowest_27 : decode cX0_lowest 27 = .ok (.getfield 15, 3) := by decide +kernel
theorem dX0_lowest_30 : decode cX0_lowest 30 = .ok (.iload_n 2, 1) := by decide +kernel
theorem dX0_lowest_31 : decode cX0_lowest 31 = .ok (.iaload, 1) := by decide +kernel
theorem dX0_lowest_32 : decode cX0_lowest 32 = .ok (.invokestatic 47, 3) := by decide +kernel
theorem dX0_lowest_35 : decode cX0_lowest 35 = .ok (.istore_n 1, 1) := by decide +kernel
theorem dX0_lowest_36 : decode cX0_lowest 36 = .ok (.iinc 2 1, 3) := by decide +kernel
theorem dX0_lowest_39 : decode cX0_lowest 39 = .ok (.goto (-22), 3) := by decide +kernel
theorem dX0_lowest_42 : decode cX0_lowest 42 = .ok (.iload_n 1, 1) := by decide +kernel
theorem dX0_lowest_43 : decode cX0_lowest 43 = .ok (.ireturn, 1) := by decide +kernel
theorem dX0_sumOfRatings_0 : decode cX0_sumOfRatings 0 = .ok (.iconst 0, 1) := by decide +kernel
theorem dX0_sumOfRatings_1 : decode cX0_sumOfRatings 1 = .ok (.istore_n 1, 1) := by decide +kernel
theorem dX0_sumOfRatings_2 : decode cX0_sumOfRatings 2 = .ok (.iconst 0, 1) := by decide +kernel
theorem dX0_sumOfRatings_3 : decode cX0_sumOfRatings 3 = .ok (.istore_n 2, 1) := by decide +kernel
theorem dX0_sumOfRatings_4 : decode cX0_sumOfRatings 4 = .ok (.iload_n 2, 1) := by decide +kernel
theorem dX0_sumOfRatings_5 : decode cX0_sumOfRatings 5 = .ok (.aload_n 0, 1) := by decide +kernel
theorem dX0_sumOfRatings_6 : decode cX0_sumOfRatings 6 = .ok (.getfield 33, 3) := by decide +kernel
theorem dX0_sumOfRatings_9 : decode cX0_sumOfRatings 9 = .ok (.if_icmp .ge 18, 3) := by decide +kernel
theorem dX0_sumOfRatings_12 : decode cX0_sumOfRatings 12 = .ok (.iload_n 1, 1) := by decide +kernel
theorem dX0_sumOfRatings_13 : decode cX0_sumOfRatings 13 = .ok (.aload_n 0, 1) := by decide +kernel
theorem dX0_sumOfRatings_14 : decode cX0_sumOfRatings 14 = .ok (.getfield 15, 3) := by decide +kernel
theorem dX0_sumOfRatings_17 : decode cX0_sumOfRatings 17 = .ok (.iload_n 2, 1) := by decide +kernel
theorem dX0_sumOfRatings_18 : decode cX0_sumOfRatings 18 = .ok (.iaload, 1) := by decide +kernel
theorem dX0_sumOfRatings_19 : decode cX0_sumOfRatings 19 = .ok (.iadd, 1) := by decide +kernel
theorem dX0_sumOfRatings_20 : decode cX0_sumOfRatings 20 = .ok (.istore_n 1, 1) := by decide +kernel
theorem dX0_sumOfRatings_21 : decode cX0_sumOfRatings 21 = .ok (.iinc 2 1, 3) := by decide +kernel
theorem dX0_sumOfRatings_24 : decode cX0_sumOfRatings 24 = .ok (.goto (-20), 3) := by decide +kernel
theorem dX0_sumOfRatings_27 : decode cX0_sumOfRatings 27 = .ok (.iload_n 1, 1) := by decide +kernel
theorem dX0_sumOfRatings_28 : decode cX0_sumOfRatings 28 = .ok (.ireturn, 1) := by decide +kernel
set_option maxRecDepth 20000 in
theorem ggX0_unevenness_X0_expectation : GoodIn wsX0_unevenness wsX0_expectation := goodIn_r _ [9, 10, 11, 12, 8, 13, 14, 15, 3, 16, 17, 18, 19, 20, 21, 22, 23, 24, 25] (by decide +kernel) (by decide +kernel)
set_option maxRecDepth 20000 in
theorem gX0_unevenness_X0_expectation : GoodIn wsX0_unevenness (wsV RX0 56 RX0 yX0_expectation wsX0_expectation) := goodIn_app (goodIn_of _ (by decide +kernel)) ggX0_unevenness_X0_expectation
theorem dX0_unevenness_0 : decode cX0_unevenness 0 = .ok (.aload_n 0, 1) := by decide +kernel
theorem dX0_unevenness_1 : decode cX0_unevenness 1 = .ok (.iload_n 1, 1) := by decide +kernel
theorem dX0_unevenness_2 : decode cX0_unevenness 2 = .ok (.iload_n 2, 1) := by decide +kernel
theorem dX0_unevenness_3 : decode cX0_unevenness 3 = .ok (.invokevirtual 56, 3) := by decide +kernel
theorem dX0_unevenness_6 : decode cX0_unevenness 6 = .ok (.sipush 500, 3) := by decide +kernel
theorem dX0_unevenness_9 : decode cX0_unevenness 9 = .ok (.isub, 1) := by decide +kernel
theorem dX0_unevenness_10 : decode cX0_unevenness 10 = .ok (.invokestatic 87, 3) := by decide +kernel
theorem dX0_unevenness_13 : decode cX0_unevenness 13 = .ok (.ireturn, 1) := by decide +kernel
set_option maxRecDepth 20000 in
theorem ggX0_evenest_X0_unevenness : GoodIn wsX0_evenest wsX0_unevenness := goodIn_r _ [7, 8, 9, 10, 11, 12, 13, 14, 6, 15, 16, 17, 18, 19, 20, 21, 22, 23, 24, 25, 26, 27, 28, 29, 30, 31] (by decide +kernel) (by decide +kernel)
set_option maxRecDepth 20000 in
theorem gX0_evenest_X0_unevenness : GoodIn wsX0_evenest (wsV RX0 90 RX0 yX0_unevenness wsX0_unevenness) := goodIn_app (goodIn_of _ (by decide +kernel)) ggX0_evenest_X0_unevenness
theorem dX0_evenest_0 : decode cX0_evenest 0 = .ok (.iconst (-1), 1) := by decide +kernel
theorem dX0_evenest_1 : decode cX0_evenest 1 = .ok (.istore_n 2, 1) := by decide +kernel
theorem dX0_evenest_2 : decode cX0_evenest 2 = .ok (.iconst 0, 1) := by decide +kernel
theorem dX0_evenest_3 : decode cX0_evenest 3 = .ok (.istore_n 3, 1) := by decide +kernel
theorem dX0_evenest_4 : decode cX0_evenest 4 = .ok (.iload_n 3, 1) := by decide +kernel
theorem dX0_evenest_5 : decode cX0_evenest 5 = .ok (.aload_n 0, 1) := by decide +kernel
theorem dX0_evenest_6 : decode cX0_evenest 6 = .ok (.getfield 33, 3) := by decide +kernel
theorem dX0_evenest_9 : decode cX0_evenest 9 = .ok (.if_icmp .ge 54, 3) := by decide +kernel
theorem dX0_evenest_12 : decode cX0_evenest 12 = .ok (.iload_n 3, 1) := by decide +kernel
theorem dX0_evenest_13 : decode cX0_evenest 13 = .ok (.iload_n 1, 1) := by decide +kernel
theorem dX0_evenest_14 : decode cX0_evenest 14 = .ok (.if_icmp .eq 43, 3) := by decide +kernel
theorem dX0_evenest_17 : decode cX0_evenest 17 = .ok (.aload_n 0, 1) := by decide +kernel
theorem dX0_evenest_18 : decode cX0_evenest 18 = .ok (.getfield 9, 3) := by decide +kernel
theorem dX0_evenest_21 : decode cX0_evenest 21 = .ok (.iload_n 3, 1) := by decide +kernel
theorem dX0_evenest_22 : decode cX0_evenest 22 = .ok (.iaload, 1) := by decide +kernel
theorem dX0_evenest_23 : decode cX0_evenest 23 = .ok (.aload_n 0, 1) := by decide +kernel
theorem dX0_evenest_24 : decode cX0_evenest 24 = .ok (.getfield 9, 3) := by decide +kernel
theorem dX0_evenest_27 : decode cX0_evenest 27 = .ok (.iload_n 1, 1) := by decide +kernel
theorem dX0_evenest_28 : decode cX0_evenest 28 = .ok (.iaload, 1) := by decide +kernel
theorem dX0_evenest_29 : decode cX0_evenest 29 = .ok (.if_icmp .eq 6, 3) := by decide +kernel
theorem dX0_evenest_32 : decode cX0_evenest 32 = .ok (.goto 25, 3) := by decide +kernel
theorem dX0_evenest_35 : decode cX0_evenest 35 = .ok (.iload_n 2, 1) := by decide +kernel
theorem dX0_evenest_36 : decode cX0_evenest 36 = .ok (.iconst (-1), 1) := by decide +kernel
theorem dX0_evenest_37 : decode cX0_evenest 37 = .ok (.if_icmp .eq 18, 3) := by decide +kernel
theorem dX0_evenest_40 : decode cX0_evenest 40 = .ok (.aload_n 0, 1) := by decide +kernel
theorem dX0_evenest_41 : decode cX0_evenest 41 = .ok (.iload_n 3, 1) := by decide +kernel
theorem dX0_evenest_42 : decode cX0_evenest 42 = .ok (.iload_n 1, 1) := by decide +kernel
theorem dX0_evenest_43 : decode cX0_evenest 43 = .ok (.invokevirtual 90, 3) := by decide +kernel
theorem dX0_evenest_46 : decode cX0_evenest 46 = .ok (.aload_n 0, 1) := by decide +kernel
theorem dX0_evenest_47 : decode cX0_evenest 47 = .ok (.iload_n 2, 1) := by decide +kernel
theorem dX0_evenest_48 : decode cX0_evenest 48 = .ok (.iload_n 1, 1) := by decide +kernel
theorem dX0_evenest_49 : decode cX0_evenest 49 = .ok (.invokevirtual 90, 3) := by decide +kernel
theorem dX0_evenest_52 : decode cX0_evenest 52 = .ok (.if_icmp .ge 5, 3) := by decide +kernel
theorem dX0_evenest_55 : decode cX0_evenest 55 = .ok (.iload_n 3, 1) := by decide +kernel
theorem dX0_evenest_56 : decode cX0_evenest 56 = .ok (.istore_n 2, 1) := by decide +kernel
theorem dX0_evenest_57 : decode cX0_evenest 57 = .ok (.iinc 3 1, 3) := by decide +kernel
theorem dX0_evenest_60 : decode cX0_evenest 60 = .ok (.goto (-56), 3) := by decide +kernel
theorem dX0_evenest_63 : decode cX0_evenest 63 = .ok (.iload_n 2, 1) := by decide +kernel
theorem dX0_evenest_64 : decode cX0_evenest 64 = .ok (.ireturn, 1) := by decide +kernel
set_option maxRecDepth 20000 in
theorem ggX0_bestPair_X0_unevenness : GoodIn wsX0_bestPair wsX0_unevenness := goodIn_r _ [8, 9, 10, 11, 12, 13, 14, 15, 7, 16, 17, 18, 19, 20, 21, 22, 23, 24, 25, 26, 27, 28, 29, 30, 31, 32] (by decide +kernel) (by decide +kernel)
set_option maxRecDepth 20000 in
theorem gX0_bestPair_X0_unevenness : GoodIn wsX0_bestPair (wsV RX0 90 RX0 yX0_unevenness wsX0_unevenness) := goodIn_app (goodIn_of _ (by decide +kernel)) ggX0_bestPair_X0_unevenness
theorem dX0_bestPair_0 : decode cX0_bestPair 0 = .ok (.iconst (-1), 1) := by decide +kernel
theorem dX0_bestPair_1 : decode cX0_bestPair 1 = .ok (.istore_n 1, 1) := by decide +kernel
theorem dX0_bestPair_2 : decode cX0_bestPair 2 = .ok (.iconst 0, 1) := by decide +kernel
theorem dX0_bestPair_3 : decode cX0_bestPair 3 = .ok (.istore_n 2, 1) := by decide +kernel
theorem dX0_bestPair_4 : decode cX0_bestPair 4 = .ok (.iconst 0, 1) := by decide +kernel
theorem dX0_bestPair_5 : decode cX0_bestPair 5 = .ok (.istore_n 3, 1) := by decide +kernel
theorem dX0_bestPair_6 : decode cX0_bestPair 6 = .ok (.iconst 0, 1) := by decide +kernel
theorem dX0_bestPair_7 : decode cX0_bestPair 7 = .ok (.istore 4, 2) := by decide +kernel
theorem dX0_bestPair_9 : decode cX0_bestPair 9 = .ok (.iload 4, 2) := by decide +kernel
theorem dX0_bestPair_11 : decode cX0_bestPair 11 = .ok (.aload_n 0, 1) := by decide +kernel
theorem dX0_bestPair_12 : decode cX0_bestPair 12 = .ok (.getfield 33, 3) := by decide +kernel
theorem dX0_bestPair_15 : decode cX0_bestPair 15 = .ok (.if_icmp .ge 115, 3) := by decide +kernel
theorem dX0_bestPair_18 : decode cX0_bestPair 18 = .ok (.iload 4, 2) := by decide +kernel
theorem dX0_bestPair_20 : decode cX0_bestPair 20 = .ok (.iconst 1, 1) := by decide +kernel
theorem dX0_bestPair_21 : decode cX0_bestPair 21 = .ok (.iadd, 1) := by decide +kernel
theorem dX0_bestPair_22 : decode cX0_bestPair 22 = .ok (.istore 5, 2) := by decide +kernel
theorem dX0_bestPair_24 : decode cX0_bestPair 24 = .ok (.iload 5, 2) := by decide +kernel
theorem dX0_bestPair_26 : decode cX0_bestPair 26 = .ok (.aload_n 0, 1) := by decide +kernel
theorem dX0_bestPair_27 : decode cX0_bestPair 27 = .ok (.getfield 33, 3) := by decide +kernel
theorem dX0_bestPair_30 : decode cX0_bestPair 30 = .ok (.if_icmp .ge 94, 3) := by decide +kernel
theorem dX0_bestPair_33 : decode cX0_bestPair 33 = .ok (.aload_n 0, 1) := by decide +kernel
theorem dX0_bestPair_34 : decode cX0_bestPair 34 = .ok (.getfield 9, 3) := by decide +kernel
theorem dX0_bestPair_37 : decode cX0_bestPair 37 = .ok (.iload 4, 2) := by decide +kernel
theorem dX0_bestPair_39 : decode cX0_bestPair 39 = .ok (.iaload, 1) := by decide +kernel
theorem dX0_bestPair_40 : decode cX0_bestPair 40 = .ok (.aload_n 0, 1) := by decide +kernel
theorem dX0_bestPair_41 : decode cX0_bestPair 41 = .ok (.getfield 9, 3) := by decide +kernel
theorem dX0_bestPair_44 : decode cX0_bestPair 44 = .ok (.iload 5, 2) := by decide +kernel
theorem dX0_bestPair_46 : decode cX0_bestPair 46 = .ok (.iaload, 1) := by decide +kernel
theorem dX0_bestPair_47 : decode cX0_bestPair 47 = .ok (.if_icmp .eq 6, 3) := by decide +kernel
theorem dX0_bestPair_50 : decode cX0_bestPair 50 = .ok (.goto 68, 3) := by decide +kernel
theorem dX0_bestPair_53 : decode cX0_bestPair 53 = .ok (.aload_n 0, 1) := by decide +kernel
theorem dX0_bestPair_54 : decode cX0_bestPair 54 = .ok (.getfield 24, 3) := by decide +kernel
theorem dX0_bestPair_57 : decode cX0_bestPair 57 = .ok (.iload 4, 2) := by decide +kernel
theorem dX0_bestPair_59 : decode cX0_bestPair 59 = .ok (.iaload, 1) := by decide +kernel
theorem dX0_bestPair_60 : decode cX0_bestPair 60 = .ok (.aload_n 0, 1) := by decide +kernel
theorem dX0_bestPair_61 : decode cX0_bestPair 61 = .ok (.getfield 24, 3) := by decide +kernel
theorem dX0_bestPair_64 : decode cX0_bestPair 64 = .ok (.iload 5, 2) := by decide +kernel
theorem dX0_bestPair_66 : decode cX0_bestPair 66 = .ok (.iaload, 1) := by decide +kernel
theorem dX0_bestPair_67 : decode cX0_bestPair 67 = .ok (.iadd, 1) := by decide +kernel
theorem dX0_bestPair_68 : decode cX0_bestPair 68 = .ok (.istore 6, 2) := by decide +kernel
theorem dX0_bestPair_70 : decode cX0_bestPair 70 = .ok (.aload_n 0, 1) := by decide +kernel
theorem dX0_bestPair_71 : decode cX0_bestPair 71 = .ok (.iload 4, 2) := by decide +kernel
theorem dX0_bestPair_73 : decode cX0_bestPair 73 = .ok (.iload 5, 2) := by decide +kernel
theorem dX0_bestPair_75 : decode cX0_bestPair 75 = .ok (.invokevirtual 90, 3) := by decide +kernel
theorem dX0_bestPair_78 : decode cX0_bestPair 78 = .ok (.istore 7, 2) := by decide +kernel
theorem dX0_bestPair_80 : decode cX0_bestPair 80 = .ok (.iload_n 1, 1) := by decide +kernel
theorem dX0_bestPair_81 : decode cX0_bestPair 81 = .ok (.iconst (-1), 1) := by decide +kernel
theorem dX0_bestPair_82 : decode cX0_bestPair 82 = .ok (.if_icmp .eq 21, 3) := by decide +kernel
theorem dX0_bestPair_85 : decode cX0_bestPair 85 = .ok (.iload 6, 2) := by decide +kernel
theorem dX0_bestPair_87 : decode cX0_bestPair 87 = .ok (.iload_n 2, 1) := by decide +kernel
theorem dX0_bestPair_88 : decode cX0_bestPair 88 = .ok (.if_icmp .lt 15, 3) := by decide +kernel
theorem dX0_bestPair_91 : decode cX0_bestPair 91 = .ok (.iload 6, 2) := by decide +kernel
theorem dX0_bestPair_93 : decode cX0_bestPair 93 = .ok (.iload_n 2, 1) := by decide +kernel
theorem dX0_bestPair_94 : decode cX0_bestPair 94 = .ok (.if_icmp .ne 24, 3) := by decide +kernel
theorem dX0_bestPair_97 : decode cX0_bestPair 97 = .ok (.iload 7, 2) := by decide +kernel
theorem dX0_bestPair_99 : decode cX0_bestPair 99 = .ok (.iload_n 3, 1) := by decide +kernel
theorem dX0_bestPair_100 : decode cX0_bestPair 100 = .ok (.if_icmp .ge 18, 3) := by decide +kernel
theorem dX0_bestPair_103 : decode cX0_bestPair 103 = .ok (.iload 4, 2) := by decide +kernel
theorem dX0_bestPair_105 : decode cX0_bestPair 105 = .ok (.bipush 12, 2) := by decide +kernel
theorem dX0_bestPair_107 : decode cX0_bestPair 107 = .ok (.imul, 1) := by decide +kernel
theorem dX0_bestPair_108 : decode cX0_bestPair 108 = .ok (.iload 5, 2) := by decide +kernel
theorem dX0_bestPair_110 : decode cX0_bestPair 110 = .ok (.iadd, 1) := by decide +kernel
theorem dX0_bestPair_111 : decode cX0_bestPair 111 = .ok (.istore_n 1, 1) := by decide +kernel
theorem dX0_bestPair_112 : decode cX0_bestPair 112 = .ok (.iload 6, 2) := by decide +kernel
theorem dX0_bestPair_114 : decode cX0_bestPair 114 = .ok (.istore_n 2, 1) := by decide +kernel
theorem dX0_bestPair_115 : decode cX0_bestPair 115 = .ok (.iload 7, 2) := by decide +kernel
theorem dX0_bestPair_117 : decode cX0_bestPair 117 = .ok (.istore_n 3, 1) := by decide +kernel
theorem dX0_bestPair_118 : decode cX0_bestPair 118 = .ok (.iinc 5 1, 3) := by decide +kernel
theorem dX0_bestPair_121 : decode cX0_bestPair 121 = .ok (.goto (-97), 3) := by decide +kernel
theorem dX0_bestPair_124 : decode cX0_bestPair 124 = .ok (.iinc 4 1, 3) := by decide +kernel
theorem dX0_bestPair_127 : decode cX0_bestPair 127 = .ok (.goto (-118), 3) := by decide +kernel
theorem dX0_bestPair_130 : decode cX0_bestPair 130 = .ok (.iload_n 1, 1) := by decide +kernel
theorem dX0_bestPair_131 : decode cX0_bestPair 131 = .ok (.ireturn, 1) := by decide +kernel
set_option maxRecDepth 20000 in
theorem ggX1_init_X0_init : GoodIn wsX1_init wsX0_init := goodIn_r _ [12, 13, 2, 3, 9, 14, 15, 16, 17, 18, 19, 20, 21, 22, 23, 24, 25, 26, 27, 28] (by decide +kernel) (by decide +kernel)
set_option maxRecDepth 20000 in
theorem gX1_init_X0_init_n9 : GoodIn wsX1_init (wsX0_init) := ggX1_init_X0_init
theorem dX1_init_0 : decode cX1_init 0 = .ok (.aload_n 0, 1) := by decide +kernel
theorem dX1_init_1 : decode cX1_init 1 = .ok (.invokespecial 1, 3) := by decide +kernel
theorem dX1_init_4 : decode cX1_init 4 = .ok (.aload_n 0, 1) := by decide +kernel
theorem dX1_init_5 : decode cX1_init 5 = .ok (.new 7, 3) := by decide +kernel
theorem dX1_init_8 : decode cX1_init 8 = .ok (.dup, 1) := by decide +kernel
theorem dX1_init_9 : decode cX1_init 9 = .ok (.invokespecial 9, 3) := by decide +kernel
theorem dX1_init_12 : decode cX1_init 12 = .ok (.putfield 10, 3) := by decide +kernel
theorem dX1_init_15 : decode cX1_init 15 = .ok (.aload_n 0, 1) := by decide +kernel
theorem dX1_init_16 : decode cX1_init 16 = .ok (.new 7, 3) := by decide +kernel
theorem dX1_init_19 : decode cX1_init 19 = .ok (.dup, 1) := by decide +kernel
theorem dX1_init_20 : decode cX1_init 20 = .ok (.invokespecial 9, 3) := by decide +kernel
theorem dX1_init_23 : decode cX1_init 23 = .ok (.putfield 16, 3) := by decide +kernel
theorem dX1_init_26 : decode cX1_init 26 = .ok (.aload_n 0, 1) := by decide +kernel
theorem dX1_init_27 : decode cX1_init 27 = .ok (.bipush 10, 2) := by decide +kernel
theorem dX1_init_29 : decode cX1_init 29 = .ok (.newarray .int, 2) := by decide +kernel
theorem dX1_init_31 : decode cX1_init 31 = .ok (.putfield 19, 3) := by decide +kernel
theorem dX1_init_34 : decode cX1_init 34 = .ok (.return_, 1) := by decide +kernel
set_option maxRecDepth 20000 in
theorem ggX1_join_X1_isLeague : GoodIn wsX1_join wsX1_isLeague := goodIn_r _ [9] (by decide +kernel) (by decide +kernel)
set_option maxRecDepth 20000 in
theorem gX1_join_X1_isLeague : GoodIn wsX1_join (va_wsS RX1 23 yX1_isLeague wsX1_isLeague) := goodIn_app (goodIn_of _ (by decide +kernel)) ggX1_join_X1_isLeague
set_option maxRecDepth 20000 in
theorem ggX1_join_X0_isFull : GoodIn wsX1_join wsX0_isFull := goodIn_r _ [14, 15, 29, 30, 31, 32, 33, 34, 35, 36] (by decide +kernel) (by decide +kernel)
set_option maxRecDepth 20000 in
theorem gX1_join_X0_isFull : GoodIn wsX1_join (wsV RX1 34 RX0 yX0_isFull wsX0_isFull) := goodIn_app (goodIn_of _ (by decide +kernel)) ggX1_join_X0_isFull
set_option maxRecDepth 20000 in
theorem ggX1_join_X0_add : GoodIn wsX1_join wsX0_add := goodIn_r _ [19, 15, 20, 21, 22, 29, 30, 31, 32, 33, 34, 35, 36] (by decide +kernel) (by decide +kernel)
set_option maxRecDepth 20000 in
theorem gX1_join_X0_add : GoodIn wsX1_join (wsV RX1 43 RX0 yX0_add wsX0_add) := goodIn_app (goodIn_of _ (by decide +kernel)) ggX1_join_X0_add
theorem dX1_join_0 : decode cX1_join 0 = .ok (.iload_n 1, 1) := by decide +kernel
theorem dX1_join_1 : decode cX1_join 1 = .ok (.invokestatic 23, 3) := by decide +kernel
theorem dX1_join_4 : decode cX1_join 4 = .ok (.ifCond .ne 13, 3) := by decide +kernel
theorem dX1_join_7 : decode cX1_join 7 = .ok (.new 27, 3) := by decide +kernel
theorem dX1_join_10 : decode cX1_join 10 = .ok (.dup, 1) := by decide +kernel
theorem dX1_join_11 : decode cX1_join 11 = .ok (.ldc 29, 2) := by decide +kernel
theorem dX1_join_13 : decode cX1_join 13 = .ok (.invokespecial 31, 3) := by decide +kernel
theorem dX1_join_16 : decode cX1_join 16 = .ok (.athrow, 1) := by decide +kernel
theorem dX1_join_17 : decode cX1_join 17 = .ok (.aload_n 0, 1) := by decide +kernel
theorem dX1_join_18 : decode cX1_join 18 = .ok (.getfield 10, 3) := by decide +kernel
theorem dX1_join_21 : decode cX1_join 21 = .ok (.invokevirtual 34, 3) := by decide +kernel
theorem dX1_join_24 : decode cX1_join 24 = .ok (.ifCond .eq 13, 3) := by decide +kernel
theorem dX1_join_27 : decode cX1_join 27 = .ok (.new 38, 3) := by decide +kernel
theorem dX1_join_30 : decode cX1_join 30 = .ok (.dup, 1) := by decide +kernel
theorem dX1_join_31 : decode cX1_join 31 = .ok (.ldc 40, 2) := by decide +kernel
theorem dX1_join_33 : decode cX1_join 33 = .ok (.invokespecial 42, 3) := by decide +kernel
theorem dX1_join_36 : decode cX1_join 36 = .ok (.athrow, 1) := by decide +kernel
theorem dX1_join_37 : decode cX1_join 37 = .ok (.aload_n 0, 1) := by decide +kernel
theorem dX1_join_38 : decode cX1_join 38 = .ok (.getfield 10, 3) := by decide +kernel
theorem dX1_join_41 : decode cX1_join 41 = .ok (.iload_n 1, 1) := by decide +kernel
theorem dX1_join_42 : decode cX1_join 42 = .ok (.invokevirtual 43, 3) := by decide +kernel
theorem dX1_join_45 : decode cX1_join 45 = .ok (.ireturn, 1) := by decide +kernel
set_option maxRecDepth 20000 in
theorem ggX1_rate_X1_checkWrestler : GoodIn wsX1_rate wsX1_checkWrestler := goodIn_ca (goodIn_r _ [8, 9, 10, 3, 11, 12, 13, 14, 15, 16, 31, 32, 33, 34, 35, 36, 37, 38, 39, 40, 41, 42, 43, 44] (by decide +kernel) (by decide +kernel)) (goodIn_sub (fun _ h => List.mem_cons_of_mem _ (List.mem_append_right _ h)) (by decide +kernel))
set_option maxRecDepth 20000 in
theorem gX1_rate_X1_checkWrestler : GoodIn wsX1_rate (wsV RX1 47 RX1 yX1_checkWrestler wsX1_checkWrestler) := goodIn_app (goodIn_of _ (by decide +kernel)) ggX1_rate_X1_checkWrestler
set_option maxRecDepth 20000 in
theorem ggX1_rate_X0_rating : GoodIn wsX1_rate wsX0_rating := goodIn_r _ [20, 21, 37, 38, 39, 40, 41, 42, 43, 44] (by decide +kernel) (by decide +kernel)
set_option maxRecDepth 20000 in
theorem gX1_rate_X0_rating : GoodIn wsX1_rate (wsV RX1 53 RX0 yX0_rating wsX0_rating) := goodIn_app (goodIn_of _ (by decide +kernel)) ggX1_rate_X0_rating
set_option maxRecDepth 20000 in
theorem ggX1_rate_X0_setRating : GoodIn wsX1_rate wsX0_setRating := goodIn_r _ [25, 21, 26, 27, 28, 29, 30, 37, 38, 39, 40, 41, 42, 43, 44] (by decide +kernel) (by decide +kernel)
set_option maxRecDepth 20000 in
theorem gX1_rate_X0_setRating : GoodIn wsX1_rate (wsV RX1 56 RX0 yX0_setRating wsX0_setRating) := goodIn_app (goodIn_of _ (by decide +kernel)) ggX1_rate_X0_setRating
theorem dX1_rate_0 : decode cX1_rate 0 = .ok (.aload_n 0, 1) := by decide +kernel
theorem dX1_rate_1 : decode cX1_rate 1 = .ok (.iload_n 1, 1) := by decide +kernel
theorem dX1_rate_2 : decode cX1_rate 2 = .ok (.invokevirtual 47, 3) := by decide +kernel
theorem dX1_rate_5 : decode cX1_rate 5 = .ok (.iload_n 2, 1) := by decide +kernel
theorem dX1_rate_6 : decode cX1_rate 6 = .ok (.bipush 100, 2) := by decide +kernel
theorem dX1_rate_8 : decode cX1_rate 8 = .ok (.if_icmp .lt 10, 3) := by decide +kernel
theorem dX1_rate_11 : decode cX1_rate 11 = .ok (.iload_n 2, 1) := by decide +kernel
theorem dX1_rate_12 : decode cX1_rate 12 = .ok (.sipush 3000, 3) := by decide +kernel
theorem dX1_rate_15 : decode cX1_rate 15 = .ok (.if_icmp .le 13, 3) := by decide +kernel
theorem dX1_rate_18 : decode cX1_rate 18 = .ok (.new 27, 3) := by decide +kernel
theorem dX1_rate_21 : decode cX1_rate 21 = .ok (.dup, 1) := by decide +kernel
theorem dX1_rate_22 : decode cX1_rate 22 = .ok (.ldc 51, 2) := by decide +kernel
theorem dX1_rate_24 : decode cX1_rate 24 = .ok (.invokespecial 31, 3) := by decide +kernel
theorem dX1_rate_27 : decode cX1_rate 27 = .ok (.athrow, 1) := by decide +kernel
theorem dX1_rate_28 : decode cX1_rate 28 = .ok (.aload_n 0, 1) := by decide +kernel
theorem dX1_rate_29 : decode cX1_rate 29 = .ok (.getfield 10, 3) := by decide +kernel
theorem dX1_rate_32 : decode cX1_rate 32 = .ok (.iload_n 1, 1) := by decide +kernel
theorem dX1_rate_33 : decode cX1_rate 33 = .ok (.invokevirtual 53, 3) := by decide +kernel
theorem dX1_rate_36 : decode cX1_rate 36 = .ok (.istore_n 3, 1) := by decide +kernel
theorem dX1_rate_37 : decode cX1_rate 37 = .ok (.aload_n 0, 1) := by decide +kernel
theorem dX1_rate_38 : decode cX1_rate 38 = .ok (.getfield 10, 3) := by decide +kernel
theorem dX1_rate_41 : decode cX1_rate 41 = .ok (.iload_n 1, 1) := by decide +kernel
theorem dX1_rate_42 : decode cX1_rate 42 = .ok (.iload_n 2, 1) := by decide +kernel
theorem dX1_rate_43 : decode cX1_rate 43 = .ok (.invokevirtual 56, 3) := by decide +kernel
theorem dX1_rate_46 : decode cX1_rate 46 = .ok (.iload_n 3, 1) := by decide +kernel
theorem dX1_rate_47 : decode cX1_rate 47 = .ok (.ireturn, 1) := by decide +kernel
set_option maxRecDepth 20000 in
theorem ggX1_bout_X1_checkWrestler : GoodIn wsX1_bout wsX1_checkWrestler := goodIn_ca (goodIn_r _ [8, 9, 10, 1, 11, 12, 13, 14, 15, 16, 70, 71, 72, 73, 74, 75, 76, 77, 78, 79, 80, 81, 82, 83] (by decide +kernel) (by decide +kernel)) (goodIn_sub (fun _ h => List.mem_cons_of_mem _ (List.mem_append_left _ (List.mem_append_right _ h))) (by decide +kernel))
set_option maxRecDepth 20000 in
theorem gX1_bout_X1_checkWrestler : GoodIn wsX1_bout (wsV RX1 47 RX1 yX1_checkWrestler wsX1_checkWrestler) := goodIn_app (goodIn_of _ (by decide +kernel)) ggX1_bout_X1_checkWrestler
set_option maxRecDepth 20000 in
theorem ggX1_bout_X1_checkDifferent : GoodIn wsX1_bout wsX1_checkDifferent := goodIn_ca (goodIn_r _ [19, 20, 21] (by decide +kernel) (by decide +kernel)) (goodIn_sub (fun _ h => List.mem_cons_of_mem _ (List.mem_append_right _ h)) (by decide +kernel))
set_option maxRecDepth 20000 in
theorem gX1_bout_X1_checkDifferent : GoodIn wsX1_bout (va_wsS RX1 60 yX1_checkDifferent wsX1_checkDifferent) := goodIn_app (goodIn_of _ (by decide +kernel)) ggX1_bout_X1_checkDifferent
set_option maxRecDepth 20000 in
theorem ggX1_bout_X1_checkResult : GoodIn wsX1_bout wsX1_checkResult := goodIn_ca (goodIn_r _ [24, 20, 21] (by decide +kernel) (by decide +kernel)) (goodIn_sub (fun _ h => List.mem_cons_of_mem _ (List.mem_append_right _ h)) (by decide +kernel))
set_option maxRecDepth 20000 in
theorem gX1_bout_X1_checkResult : GoodIn wsX1_bout (va_wsS RX1 63 yX1_checkResult wsX1_checkResult) := goodIn_app (goodIn_of _ (by decide +kernel)) ggX1_bout_X1_checkResult
set_option maxRecDepth 20000 in
theorem ggX1_bout_X0_isUpset : GoodIn wsX1_bout wsX0_isUpset := goodIn_r _ [28, 29, 30, 31, 14, 32, 33, 34, 35, 36, 37, 38, 39, 40, 41, 76, 77, 78, 79, 80, 81, 82, 83] (by decide +kernel) (by decide +kernel)
set_option maxRecDepth 20000 in
theorem gX1_bout_X0_isUpset : GoodIn wsX1_bout (wsV RX1 66 RX0 yX0_isUpset wsX0_isUpset) := goodIn_app (goodIn_of _ (by decide +kernel)) ggX1_bout_X0_isUpset
set_option maxRecDepth 20000 in
theorem ggX1_bout_X0_hold : GoodIn wsX1_bout wsX0_hold := goodIn_r _ [45, 46, 47, 48, 14, 49, 33, 37, 38, 39, 40, 50, 51, 52, 53, 54, 55, 56, 57, 29, 30, 31, 32, 34, 35, 36, 41, 58, 59, 60, 61, 62, 63, 64, 65, 66, 67, 68, 69, 76, 77, 78, 79, 80, 81, 82, 83] (by decide +kernel) (by decide +kernel)
set_option maxRecDepth 20000 in
theorem gX1_bout_X0_hold : GoodIn wsX1_bout (wsV RX1 77 RX0 yX0_hold wsX0_hold) := goodIn_app (goodIn_of _ (by decide +kernel)) ggX1_bout_X0_hold
theorem dX1_bout_0 : decode cX1_bout 0 = .ok (.aload_n 0, 1) := by decide +kernel
theorem dX1_bout_1 : decode cX1_bout 1 = .ok (.iload_n 1, 1) := by decide +kernel
theorem dX1_bout_2 : decode cX1_bout 2 = .ok (.invokevirtual 47, 3) := by decide +kernel
theorem dX1_bout_5 : decode cX1_bout 5 = .ok (.aload_n 0, 1) := by decide +kernel
theorem dX1_bout_6 : decode cX1_bout 6 = .ok (.iload_n 2, 1) := by decide +kernel
theorem dX1_bout_7 : decode cX1_bout 7 = .ok (.invokevirtual 47, 3) := by decide +kernel
theorem dX1_bout_10 : decode cX1_bout 10 = .ok (.iload_n 1, 1) := by decide +kernel
theorem dX1_bout_11 : decode cX1_bout 11 = .ok (.iload_n 2, 1) := by decide +kernel
theorem dX1_bout_12 : decode cX1_bout 12 = .ok (.invokestatic 60, 3) := by decide +kernel
theorem dX1_bout_15 : decode cX1_bout 15 = .ok (.iload_n 3, 1) := by decide +kernel
theorem dX1_bout_16 : decode cX1_bout 16 = .ok (.invokestatic 63, 3) := by decide +kernel
theorem dX1_bout_19 : decode cX1_bout 19 = .ok (.aload_n 0, 1) := by decide +kernel
theorem dX1_bout_20 : decode cX1_bout 20 = .ok (.getfield 10, 3) := by decide +kernel
theorem dX1_bout_23 : decode cX1_bout 23 = .ok (.iload_n 1, 1) := by decide +kernel
theorem dX1_bout_24 : decode cX1_bout 24 = .ok (.iload_n 2, 1) := by decide +kernel
theorem dX1_bout_25 : decode cX1_bout 25 = .ok (.iload_n 3, 1) := by decide +kernel
theorem dX1_bout_26 : decode cX1_bout 26 = .ok (.invokevirtual 66, 3) := by decide +kernel
theorem dX1_bout_29 : decode cX1_bout 29 = .ok (.ifCond .eq 13, 3) := by decide +kernel
theorem dX1_bout_32 : decode cX1_bout 32 = .ok (.aload_n 0, 1) := by decide +kernel
theorem dX1_bout_33 : decode cX1_bout 33 = .ok (.dup, 1) := by decide +kernel
theorem dX1_bout_34 : decode cX1_bout 34 = .ok (.getfield 70, 3) := by decide +kernel
theorem dX1_bout_37 : decode cX1_bout 37 = .ok (.iconst 1, 1) := by decide +kernel
theorem dX1_bout_38 : decode cX1_bout 38 = .ok (.iadd, 1) := by decide +kernel
theorem dX1_bout_39 : decode cX1_bout 39 = .ok (.putfield 70, 3) := by decide +kernel
theorem dX1_bout_42 : decode cX1_bout 42 = .ok (.aload_n 0, 1) := by decide +kernel
theorem dX1_bout_43 : decode cX1_bout 43 = .ok (.dup, 1) := by decide +kernel
theorem dX1_bout_44 : decode cX1_bout 44 = .ok (.getfield 74, 3) := by decide +kernel
theorem dX1_bout_47 : decode cX1_bout 47 = .ok (.iconst 1, 1) := by decide +kernel
theorem dX1_bout_48 : decode cX1_bout 48 = .ok (.iadd, 1) := by decide +kernel
theorem dX1_bout_49 : decode cX1_bout 49 = .ok (.putfield 74, 3) := by decide +kernel
theorem dX1_bout_52 : decode cX1_bout 52 = .ok (.aload_n 0, 1) := by decide +kernel
theorem dX1_bout_53 : decode cX1_bout 53 = .ok (.getfield 10, 3) := by decide +kernel
theorem dX1_bout_56 : decode cX1_bout 56 = .ok (.iload_n 1, 1) := by decide +kernel
theorem dX1_bout_57 : decode cX1_bout 57 = .ok (.iload_n 2, 1) := by decide +kernel
theorem dX1_bout_58 : decode cX1_bout 58 = .ok (.iload_n 3, 1) := by decide +kernel
theorem dX1_bout_59 : decode cX1_bout 59 = .ok (.invokevirtual 77, 3) := by decide +kernel
theorem dX1_bout_62 : decode cX1_bout 62 = .ok (.ireturn, 1) := by decide +kernel
set_option maxRecDepth 20000 in
theorem ggX1_end_X0_drift : GoodIn wsX1_end wsX0_drift := goodIn_r _ [7, 8, 9, 10, 11, 12, 13, 6, 14, 15, 16, 17, 18, 19, 52, 53, 54, 55, 56, 57, 58, 59] (by decide +kernel) (by decide +kernel)
set_option maxRecDepth 20000 in
theorem gX1_end_X0_drift : GoodIn wsX1_end (wsV RX1 81 RX0 yX0_drift wsX0_drift) := goodIn_app (goodIn_of _ (by decide +kernel)) ggX1_end_X0_drift
set_option maxRecDepth 20000 in
theorem ggX1_end_X0_exchange : GoodIn wsX1_end wsX0_exchange := goodIn_r _ [23, 24, 25, 26, 27, 28, 6, 29, 8, 30, 31, 32, 33, 34, 35, 36, 37, 38, 39, 40, 41, 10, 52, 53, 54, 55, 56, 57, 58, 59] (by decide +kernel) (by decide +kernel)
set_option maxRecDepth 20000 in
theorem gX1_end_X0_exchange : GoodIn wsX1_end (wsV RX1 84 RX0 yX0_exchange wsX0_exchange) := goodIn_app (goodIn_of _ (by decide +kernel)) ggX1_end_X0_exchange
set_option maxRecDepth 20000 in
theorem ggX1_end_X0_clearSeason : GoodIn wsX1_end wsX0_clearSeason := goodIn_r _ [45, 8, 24, 9, 52, 53, 54, 55, 56, 57, 58, 59] (by decide +kernel) (by decide +kernel)
set_option maxRecDepth 20000 in
theorem gX1_end_X0_clearSeason : GoodIn wsX1_end (wsV RX1 87 RX0 yX0_clearSeason wsX0_clearSeason) := goodIn_app (goodIn_of _ (by decide +kernel)) ggX1_end_X0_clearSeason
theorem dX1_end_0 : decode cX1_end 0 = .ok (.aload_n 0, 1) := by decide +kernel
theorem dX1_end_1 : decode cX1_end 1 = .ok (.getfield 10, 3) := by decide +kernel
theorem dX1_end_4 : decode cX1_end 4 = .ok (.invokevirtual 81, 3) := by decide +kernel
theorem dX1_end_7 : decode cX1_end 7 = .ok (.iconst 0, 1) := by decide +kernel
theorem dX1_end_8 : decode cX1_end 8 = .ok (.istore_n 1, 1) := by decide +kernel
theorem dX1_end_9 : decode cX1_end 9 = .ok (.iconst 0, 1) := by decide +kernel
theorem dX1_end_10 : decode cX1_end 10 = .ok (.istore_n 2, 1) := by decide +kernel
theorem dX1_end_11 : decode cX1_end 11 = .ok (.iload_n 2, 1) := by decide +kernel
theorem dX1_end_12 : decode cX1_end 12 = .ok (.iconst 2, 1) := by decide +kernel
theorem dX1_end_13 : decode cX1_end 13 = .ok (.if_icmp .ge 23, 3) := by decide +kernel
theorem dX1_end_16 : decode cX1_end 16 = .ok (.aload_n 0, 1) := by decide +kernel
theorem dX1_end_17 : decode cX1_end 17 = .ok (.getfield 10, 3) := by decide +kernel
theorem dX1_end_20 : decode cX1_end 20 = .ok (.iload_n 2, 1) := by decide +kernel
theorem dX1_end_21 : decode cX1_end 21 = .ok (.invokevirtual 84, 3) := by decide +kernel
theorem dX1_end_24 : decode cX1_end 24 = .ok (.ifCond .eq 6, 3) := by decide +kernel
theorem dX1_end_27 : decode cX1_end 27 = .ok (.iinc 1 1, 3) := by decide +kernel
theorem dX1_end_30 : decode cX1_end 30 = .ok (.iinc 2 1, 3) := by decide +kernel
theorem dX1_end_33 : decode cX1_end 33 = .ok (.goto (-22), 3) := by decide +kernel
theorem dX1_end_36 : decode cX1_end 36 = .ok (.aload_n 0, 1) := by decide +kernel
theorem dX1_end_37 : decode cX1_end 37 = .ok (.getfield 10, 3) := by decide +kernel
theorem dX1_end_40 : decode cX1_end 40 = .ok (.invokevirtual 87, 3) := by decide +kernel
theorem dX1_end_43 : decode cX1_end 43 = .ok (.aload_n 0, 1) := by decide +kernel
theorem dX1_end_44 : decode cX1_end 44 = .ok (.dup, 1) := by decide +kernel
theorem dX1_end_45 : decode cX1_end 45 = .ok (.getfield 90, 3) := by decide +kernel
theorem dX1_end_48 : decode cX1_end 48 = .ok (.iconst 1, 1) := by decide +kernel
theorem dX1_end_49 : decode cX1_end 49 = .ok (.iadd, 1) := by decide +kernel
theorem dX1_end_50 : decode cX1_end 50 = .ok (.putfield 90, 3) := by decide +kernel
theorem dX1_end_53 : decode cX1_end 53 = .ok (.iload_n 1, 1) := by decide +kernel
theorem dX1_end_54 : decode cX1_end 54 = .ok (.ireturn, 1) := by decide +kernel
set_option maxRecDepth 20000 in
theorem ggX1_expected_X1_checkWrestler : GoodIn wsX1_expected wsX1_checkWrestler := goodIn_ca (goodIn_r _ [6, 7, 8, 1, 9, 10, 11, 12, 13, 14, 28, 29, 30, 31, 32, 33, 34, 35, 36, 37, 38, 39, 40, 41] (by decide +kernel) (by decide +kernel)) (goodIn_sub (fun _ h => List.mem_cons_of_mem _ (List.mem_append_right _ h)) (by decide +kernel))
set_option maxRecDepth 20000 in
theorem gX1_expected_X1_checkWrestler : GoodIn wsX1_expected (wsV RX1 47 RX1 yX1_checkWrestler wsX1_checkWrestler) := goodIn_app (goodIn_of _ (by decide +kernel)) ggX1_expected_X1_checkWrestler
set_option maxRecDepth 20000 in
theorem ggX1_expected_X0_expectation : GoodIn wsX1_expected wsX0_expectation := goodIn_r _ [18, 19, 20, 21, 12, 22, 23, 24, 25, 26, 27, 34, 35, 36, 37, 38, 39, 40, 41] (by decide +kernel) (by decide +kernel)
set_option maxRecDepth 20000 in
theorem gX1_expected_X0_expectation : GoodIn wsX1_expected (wsV RX1 93 RX0 yX0_expectation wsX0_expectation) := goodIn_app (goodIn_of _ (by decide +kernel)) ggX1_expected_X0_expectation
theorem dX1_expected_0 : decode cX1_expected 0 = .ok (.aload_n 0, 1) := by decide +kernel
theorem dX1_expected_1 : decode cX1_expected 1 = .ok (.iload_n 1, 1) := by decide +kernel
theorem dX1_expected_2 : decode cX1_expected 2 = .ok (.invokevirtual 47, 3) := by decide +kernel
theorem dX1_expected_5 : decode cX1_expected 5 = .ok (.aload_n 0, 1) := by decide +kernel
theorem dX1_expected_6 : decode cX1_expected 6 = .ok (.iload_n 2, 1) := by decide +kernel
theorem dX1_expected_7 : decode cX1_expected 7 = .ok (.invokevirtual 47, 3) := by decide +kernel
theorem dX1_expected_10 : decode cX1_expected 10 = .ok (.aload_n 0, 1) := by decide +kernel
theorem dX1_expected_11 : decode cX1_expected 11 = .ok (.getfield 10, 3) := by decide +kernel
theorem dX1_expected_14 : decode cX1_expected 14 = .ok (.iload_n 1, 1) := by decide +kernel
theorem dX1_expected_15 : decode cX1_expected 15 = .ok (.iload_n 2, 1) := by decide +kernel
theorem dX1_expected_16 : decode cX1_expected 16 = .ok (.invokevirtual 93, 3) := by decide +kernel
theorem dX1_expected_19 : decode cX1_expected 19 = .ok (.ireturn, 1) := by decide +kernel
set_option maxRecDepth 20000 in
theorem ggX1_told_X1_checkWrestler : GoodIn wsX1_told wsX1_checkWrestler := goodIn_ca (goodIn_r _ [8, 1, 2, 3, 9, 10, 11, 12, 13, 14, 62, 63, 64, 65, 66, 67, 68, 69, 70, 71, 72, 73, 74, 75] (by decide +kernel) (by decide +kernel)) (goodIn_sub (fun _ h => List.mem_cons_of_mem _ (List.mem_append_right _ h)) (by decide +kernel))
set_option maxRecDepth 20000 in
theorem gX1_told_X1_checkWrestler : GoodIn wsX1_told (wsV RX1 47 RX1 yX1_checkWrestler wsX1_checkWrestler) := goodIn_app (goodIn_of _ (by decide +kernel)) ggX1_told_X1_checkWrestler
set_option maxRecDepth 20000 in
theorem ggX1_told_X0_rating : GoodIn wsX1_told wsX0_rating := goodIn_r _ [18, 19, 68, 69, 70, 71, 72, 73, 74, 75] (by decide +kernel) (by decide +kernel)
set_option maxRecDepth 20000 in
theorem gX1_told_X0_rating : GoodIn wsX1_told (wsV RX1 53 RX0 yX0_rating wsX0_rating) := goodIn_app (goodIn_of _ (by decide +kernel)) ggX1_told_X0_rating
set_option maxRecDepth 20000 in
theorem ggX1_told_X0_league : GoodIn wsX1_told wsX0_league := goodIn_r _ [23, 24, 68, 69, 70, 71, 72, 73, 74, 75] (by decide +kernel) (by decide +kernel)
set_option maxRecDepth 20000 in
theorem gX1_told_X0_league : GoodIn wsX1_told (wsV RX1 97 RX0 yX0_league wsX0_league) := goodIn_app (goodIn_of _ (by decide +kernel)) ggX1_told_X0_league
set_option maxRecDepth 20000 in
theorem ggX1_told_X0_points : GoodIn wsX1_told wsX0_points := goodIn_r _ [28, 29, 68, 69, 70, 71, 72, 73, 74, 75] (by decide +kernel) (by decide +kernel)
set_option maxRecDepth 20000 in
theorem gX1_told_X0_points : GoodIn wsX1_told (wsV RX1 100 RX0 yX0_points wsX0_points) := goodIn_app (goodIn_of _ (by decide +kernel)) ggX1_told_X0_points
set_option maxRecDepth 20000 in
theorem ggX1_told_X0_bouts : GoodIn wsX1_told wsX0_bouts := goodIn_r _ [33, 34, 68, 69, 70, 71, 72, 73, 74, 75] (by decide +kernel) (by decide +kernel)
set_option maxRecDepth 20000 in
theorem gX1_told_X0_bouts : GoodIn wsX1_told (wsV RX1 103 RX0 yX0_bouts wsX0_bouts) := goodIn_app (goodIn_of _ (by decide +kernel)) ggX1_told_X0_bouts
set_option maxRecDepth 20000 in
theorem ggX1_told_X0_seasonBouts : GoodIn wsX1_told wsX0_seasonBouts := goodIn_r _ [38, 39, 68, 69, 70, 71, 72, 73, 74, 75] (by decide +kernel) (by decide +kernel)
set_option maxRecDepth 20000 in
theorem gX1_told_X0_seasonBouts : GoodIn wsX1_told (wsV RX1 106 RX0 yX0_seasonBouts wsX0_seasonBouts) := goodIn_app (goodIn_of _ (by decide +kernel)) ggX1_told_X0_seasonBouts
set_option maxRecDepth 20000 in
theorem ggX1_told_X0_winRow : GoodIn wsX1_told wsX0_winRow := goodIn_r _ [43, 44, 68, 69, 70, 71, 72, 73, 74, 75] (by decide +kernel) (by decide +kernel)
set_option maxRecDepth 20000 in
theorem gX1_told_X0_winRow : GoodIn wsX1_told (wsV RX1 109 RX0 yX0_winRow wsX0_winRow) := goodIn_app (goodIn_of _ (by decide +kernel)) ggX1_told_X0_winRow
set_option maxRecDepth 20000 in
theorem ggX1_told_X0_best : GoodIn wsX1_told wsX0_best := goodIn_r _ [48, 49, 68, 69, 70, 71, 72, 73, 74, 75] (by decide +kernel) (by decide +kernel)
set_option maxRecDepth 20000 in
theorem gX1_told_X0_best : GoodIn wsX1_told (wsV RX1 112 RX0 yX0_best wsX0_best) := goodIn_app (goodIn_of _ (by decide +kernel)) ggX1_told_X0_best
set_option maxRecDepth 20000 in
theorem ggX1_told_X0_place : GoodIn wsX1_told wsX0_place := goodIn_r _ [53, 14, 24, 54, 55, 56, 12, 57, 29, 19, 68, 69, 70, 71, 72, 73, 74, 75] (by decide +kernel) (by decide +kernel)
set_option maxRecDepth 20000 in
theorem gX1_told_X0_place : GoodIn wsX1_told (wsV RX1 115 RX0 yX0_place wsX0_place) := goodIn_app (goodIn_of _ (by decide +kernel)) ggX1_told_X0_place
set_option maxRecDepth 20000 in
theorem ggX1_told_X0_weight : GoodIn wsX1_told wsX0_weight := goodIn_r _ [61, 34, 19, 68, 69, 70, 71, 72, 73, 74, 75] (by decide +kernel) (by decide +kernel)
set_option maxRecDepth 20000 in
theorem gX1_told_X0_weight : GoodIn wsX1_told (wsV RX1 118 RX0 yX0_weight wsX0_weight) := goodIn_app (goodIn_of _ (by decide +kernel)) ggX1_told_X0_weight
theorem dX1_told_0 : decode cX1_told 0 = .ok (.aload_n 0, 1) := by decide +kernel
theorem dX1_told_1 : decode cX1_told 1 = .ok (.iload_n 1, 1) := by decide +kernel
theorem dX1_told_2 : decode cX1_told 2 = .ok (.invokevirtual 47, 3) := by decide +kernel
theorem dX1_told_5 : decode cX1_told 5 = .ok (.iload_n 2, 1) := by decide +kernel
theorem dX1_told_6 : decode cX1_told 6 = .ok (.tableswitch 131 0 8 #[50, 59, 68, 77, 86, 95, 104, 113, 122], 50) := by decide +kernel
theorem dX1_told_56 : decode cX1_told 56 = .ok (.aload_n 0, 1) := by decide +kernel
theorem dX1_told_57 : decode cX1_told 57 = .ok (.getfield 10, 3) := by decide +kernel
theorem dX1_told_60 : decode cX1_told 60 = .ok (.iload_n 1, 1) := by decide +kernel
theorem dX1_told_61 : decode cX1_told 61 = .ok (.invokevirtual 53, 3) := by decide +kernel
theorem dX1_told_64 : decode cX1_told 64 = .ok (.ireturn, 1) := by decide +kernel
theorem dX1_told_65 : decode cX1_told 65 = .ok (.aload_n 0, 1) := by decide +kernel
theorem dX1_told_66 : decode cX1_told 66 = .ok (.getfield 10, 3) := by decide +kernel
theorem dX1_told_69 : decode cX1_told 69 = .ok (.iload_n 1, 1) := by decide +kernel
theorem dX1_told_70 : decode cX1_told 70 = .ok (.invokevirtual 97, 3) := by decide +kernel
theorem dX1_told_73 : decode cX1_told 73 = .ok (.ireturn, 1) := by decide +kernel
theorem dX1_told_74 : decode cX1_told 74 = .ok (.aload_n 0, 1) := by decide +kernel
theorem dX1_told_75 : decode cX1_told 75 = .ok (.getfield 10, 3) := by decide +kernel
theorem dX1_told_78 : decode cX1_told 78 = .ok (.iload_n 1, 1) := by decide +kernel
theorem dX1_told_79 : decode cX1_told 79 = .ok (.invokevirtual 100, 3) := by decide +kernel
theorem dX1_told_82 : decode cX1_told 82 = .ok (.ireturn, 1) := by decide +kernel
theorem dX1_told_83 : decode cX1_told 83 = .ok (.aload_n 0, 1) := by decide +kernel
theorem dX1_told_84 : decode cX1_told 84 = .ok (.getfield 10, 3) := by decide +kernel
theorem dX1_told_87 : decode cX1_told 87 = .ok (.iload_n 1, 1) := by decide +kernel
theorem dX1_told_88 : decode cX1_told 88 = .ok (.invokevirtual 103, 3) := by decide +kernel
theorem dX1_told_91 : decode cX1_told 91 = .ok (.ireturn, 1) := by decide +kernel
theorem dX1_told_92 : decode cX1_told 92 = .ok (.aload_n 0, 1) := by decide +kernel
theorem dX1_told_93 : decode cX1_told 93 = .ok (.getfield 10, 3) := by decide +kernel
theorem dX1_told_96 : decode cX1_told 96 = .ok (.iload_n 1, 1) := by decide +kernel
theorem dX1_told_97 : decode cX1_told 97 = .ok (.invokevirtual 106, 3) := by decide +kernel
theorem dX1_told_100 : decode cX1_told 100 = .ok (.ireturn, 1) := by decide +kernel
theorem dX1_told_101 : decode cX1_told 101 = .ok (.aload_n 0, 1) := by decide +kernel
theorem dX1_told_102 : decode cX1_told 102 = .ok (.getfield 10, 3) := by decide +kernel
theorem dX1_told_105 : decode cX1_told 105 = .ok (.iload_n 1, 1) := by decide +kernel
theorem dX1_told_106 : decode cX1_told 106 = .ok (.invokevirtual 109, 3) := by decide +kernel
theorem dX1_told_109 : decode cX1_told 109 = .ok (.ireturn, 1) := by decide +kernel
theorem dX1_told_110 : decode cX1_told 110 = .ok (.aload_n 0, 1) := by decide +kernel
theorem dX1_told_111 : decode cX1_told 111 = .ok (.getfield 10, 3) := by decide +kernel
theorem dX1_told_114 : decode cX1_told 114 = .ok (.iload_n 1, 1) := by decide +kernel
theorem dX1_told_115 : decode cX1_told 115 = .ok (.invokevirtual 112, 3) := by decide +kernel
theorem dX1_told_118 : decode cX1_told 118 = .ok (.ireturn, 1) := by decide +kernel
theorem dX1_told_119 : decode cX1_told 119 = .ok (.aload_n 0, 1) := by decide +kernel
theorem dX1_told_120 : decode cX1_told 120 = .ok (.getfield 10, 3) := by decide +kernel
theorem dX1_told_123 : decode cX1_told 123 = .ok (.iload_n 1, 1) := by decide +kernel
theorem dX1_told_124 : decode cX1_told 124 = .ok (.invokevirtual 115, 3) := by decide +kernel
theorem dX1_told_127 : decode cX1_told 127 = .ok (.ireturn, 1) := by decide +kernel
theorem dX1_told_128 : decode cX1_told 128 = .ok (.aload_n 0, 1) := by decide +kernel
theorem dX1_told_129 : decode cX1_told 129 = .ok (.getfield 10, 3) := by decide +kernel
theorem dX1_told_132 : decode cX1_told 132 = .ok (.iload_n 1, 1) := by decide +kernel
theorem dX1_told_133 : decode cX1_told 133 = .ok (.invokevirtual 118, 3) := by decide +kernel
theorem dX1_told_136 : decode cX1_told 136 = .ok (.ireturn, 1) := by decide +kernel
theorem dX1_told_137 : decode cX1_told 137 = .ok (.new 121, 3) := by decide +kernel
theorem dX1_told_140 : decode cX1_told 140 = .ok (.dup, 1) := by decide +kernel
theorem dX1_told_141 : decode cX1_told 141 = .ok (.ldc 123, 2) := by decide +kernel
theorem dX1_told_143 : decode cX1_told 143 = .ok (.invokespecial 125, 3) := by decide +kernel
theorem dX1_told_146 : decode cX1_told 146 = .ok (.athrow, 1) := by decide +kernel
set_option maxRecDepth 20000 in
theorem ggX1_at_X1_isLeague : GoodIn wsX1_at wsX1_isLeague := goodIn_r _ [7] (by decide +kernel) (by decide +kernel)
set_option maxRecDepth 20000 in
theorem gX1_at_X1_isLeague : GoodIn wsX1_at (va_wsS RX1 23 yX1_isLeague wsX1_isLeague) := goodIn_app (goodIn_of _ (by decide +kernel)) ggX1_at_X1_isLeague
set_option maxRecDepth 20000 in
theorem ggX1_at_X0_standingAt : GoodIn wsX1_at wsX0_standingAt := goodIn_r _ [12, 13, 14, 15, 16, 17, 11, 18, 19, 20, 21, 22, 23, 24, 31, 32, 33, 34, 35, 36, 37, 38] (by decide +kernel) (by decide +kernel)
set_option maxRecDepth 20000 in
theorem gX1_at_X0_standingAt : GoodIn wsX1_at (wsV RX1 126 RX0 yX0_standingAt wsX0_standingAt) := goodIn_app (goodIn_of _ (by decide +kernel)) ggX1_at_X0_standingAt
theorem dX1_at_0 : decode cX1_at 0 = .ok (.iload_n 1, 1) := by decide +kernel
theorem dX1_at_1 : decode cX1_at 1 = .ok (.invokestatic 23, 3) := by decide +kernel
theorem dX1_at_4 : decode cX1_at 4 = .ok (.ifCond .ne 13, 3) := by decide +kernel
theorem dX1_at_7 : decode cX1_at 7 = .ok (.new 121, 3) := by decide +kernel
theorem dX1_at_10 : decode cX1_at 10 = .ok (.dup, 1) := by decide +kernel
theorem dX1_at_11 : decode cX1_at 11 = .ok (.ldc 29, 2) := by decide +kernel
theorem dX1_at_13 : decode cX1_at 13 = .ok (.invokespecial 125, 3) := by decide +kernel
theorem dX1_at_16 : decode cX1_at 16 = .ok (.athrow, 1) := by decide +kernel
theorem dX1_at_17 : decode cX1_at 17 = .ok (.aload_n 0, 1) := by decide +kernel
theorem dX1_at_18 : decode cX1_at 18 = .ok (.getfield 10, 3) := by decide +kernel
theorem dX1_at_21 : decode cX1_at 21 = .ok (.iload_n 1, 1) := by decide +kernel
theorem dX1_at_22 : decode cX1_at 22 = .ok (.iload_n 2, 1) := by decide +kernel
theorem dX1_at_23 : decode cX1_at 23 = .ok (.invokevirtual 126, 3) := by decide +kernel
theorem dX1_at_26 : decode cX1_at 26 = .ok (.istore_n 3, 1) := by decide +kernel
theorem dX1_at_27 : decode cX1_at 27 = .ok (.iload_n 3, 1) := by decide +kernel
theorem dX1_at_28 : decode cX1_at 28 = .ok (.iconst (-1), 1) := by decide +kernel
theorem dX1_at_29 : decode cX1_at 29 = .ok (.if_icmp .ne 13, 3) := by decide +kernel
theorem dX1_at_32 : decode cX1_at 32 = .ok (.new 121, 3) := by decide +kernel
theorem dX1_at_35 : decode cX1_at 35 = .ok (.dup, 1) := by decide +kernel
theorem dX1_at_36 : decode cX1_at 36 = .ok (.ldc 129, 2) := by decide +kernel
theorem dX1_at_38 : decode cX1_at 38 = .ok (.invokespecial 125, 3) := by decide +kernel
theorem dX1_at_41 : decode cX1_at 41 = .ok (.athrow, 1) := by decide +kernel
theorem dX1_at_42 : decode cX1_at 42 = .ok (.iload_n 3, 1) := by decide +kernel
theorem dX1_at_43 : decode cX1_at 43 = .ok (.ireturn, 1) := by decide +kernel
set_option maxRecDepth 20000 in
theorem ggX1_count_X0_size : GoodIn wsX1_count wsX0_size := goodIn_r _ [11, 12, 40, 41, 42, 43, 44, 45, 46, 47] (by decide +kernel) (by decide +kernel)
set_option maxRecDepth 20000 in
theorem gX1_count_X0_size : GoodIn wsX1_count (wsV RX1 131 RX0 yX0_size wsX0_size) := goodIn_app (goodIn_of _ (by decide +kernel)) ggX1_count_X0_size
set_option maxRecDepth 20000 in
theorem ggX1_count_X0_sizeOf : GoodIn wsX1_count wsX0_sizeOf := goodIn_r _ [16, 12, 17, 40, 41, 42, 43, 44, 45, 46, 47] (by decide +kernel) (by decide +kernel)
set_option maxRecDepth 20000 in
theorem gX1_count_X0_sizeOf : GoodIn wsX1_count (wsV RX1 135 RX0 yX0_sizeOf wsX0_sizeOf) := goodIn_app (goodIn_of _ (by decide +kernel)) ggX1_count_X0_sizeOf
set_option maxRecDepth 20000 in
theorem ggX1_count_X0_highest : GoodIn wsX1_count wsX0_highest := goodIn_r _ [21, 12, 22, 23, 24, 25, 26, 40, 41, 42, 43, 44, 45, 46, 47] (by decide +kernel) (by decide +kernel)
set_option maxRecDepth 20000 in
theorem gX1_count_X0_highest : GoodIn wsX1_count (wsV RX1 138 RX0 yX0_highest wsX0_highest) := goodIn_app (goodIn_of _ (by decide +kernel)) ggX1_count_X0_highest
set_option maxRecDepth 20000 in
theorem ggX1_count_X0_lowest : GoodIn wsX1_count wsX0_lowest := goodIn_r _ [30, 12, 22, 31, 32, 25, 33, 40, 41, 42, 43, 44, 45, 46, 47] (by decide +kernel) (by decide +kernel)
set_option maxRecDepth 20000 in
theorem gX1_count_X0_lowest : GoodIn wsX1_count (wsV RX1 141 RX0 yX0_lowest wsX0_lowest) := goodIn_app (goodIn_of _ (by decide +kernel)) ggX1_count_X0_lowest
theorem dX1_count_0 : decode cX1_count 0 = .ok (.iload_n 1, 1) := by decide +kernel
theorem dX1_count_1 : decode cX1_count 1 = .ok (.tableswitch 101 0 8 #[51, 56, 64, 69, 74, 74, 74, 85, 93], 51) := by decide +kernel
theorem dX1_count_52 : decode cX1_count 52 = .ok (.aload_n 0, 1) := by decide +kernel
theorem dX1_count_53 : decode cX1_count 53 = .ok (.getfield 90, 3) := by decide +kernel
theorem dX1_count_56 : decode cX1_count 56 = .ok (.ireturn, 1) := by decide +kernel
theorem dX1_count_57 : decode cX1_count 57 = .ok (.aload_n 0, 1) := by decide +kernel
theorem dX1_count_58 : decode cX1_count 58 = .ok (.getfield 10, 3) := by decide +kernel
theorem dX1_count_61 : decode cX1_count 61 = .ok (.invokevirtual 131, 3) := by decide +kernel
theorem dX1_count_64 : decode cX1_count 64 = .ok (.ireturn, 1) := by decide +kernel
theorem dX1_count_65 : decode cX1_count 65 = .ok (.aload_n 0, 1) := by decide +kernel
theorem dX1_count_66 : decode cX1_count 66 = .ok (.getfield 74, 3) := by decide +kernel
theorem dX1_count_69 : decode cX1_count 69 = .ok (.ireturn, 1) := by decide +kernel
theorem dX1_count_70 : decode cX1_count 70 = .ok (.aload_n 0, 1) := by decide +kernel
theorem dX1_count_71 : decode cX1_count 71 = .ok (.getfield 70, 3) := by decide +kernel
theorem dX1_count_74 : decode cX1_count 74 = .ok (.ireturn, 1) := by decide +kernel
theorem dX1_count_75 : decode cX1_count 75 = .ok (.aload_n 0, 1) := by decide +kernel
theorem dX1_count_76 : decode cX1_count 76 = .ok (.getfield 10, 3) := by decide +kernel
theorem dX1_count_79 : decode cX1_count 79 = .ok (.iload_n 1, 1) := by decide +kernel
theorem dX1_count_80 : decode cX1_count 80 = .ok (.iconst 4, 1) := by decide +kernel
theorem dX1_count_81 : decode cX1_count 81 = .ok (.isub, 1) := by decide +kernel
theorem dX1_count_82 : decode cX1_count 82 = .ok (.invokevirtual 135, 3) := by decide +kernel
theorem dX1_count_85 : decode cX1_count 85 = .ok (.ireturn, 1) := by decide +kernel
theorem dX1_count_86 : decode cX1_count 86 = .ok (.aload_n 0, 1) := by decide +kernel
theorem dX1_count_87 : decode cX1_count 87 = .ok (.getfield 10, 3) := by decide +kernel
theorem dX1_count_90 : decode cX1_count 90 = .ok (.invokevirtual 138, 3) := by decide +kernel
theorem dX1_count_93 : decode cX1_count 93 = .ok (.ireturn, 1) := by decide +kernel
theorem dX1_count_94 : decode cX1_count 94 = .ok (.aload_n 0, 1) := by decide +kernel
theorem dX1_count_95 : decode cX1_count 95 = .ok (.getfield 10, 3) := by decide +kernel
theorem dX1_count_98 : decode cX1_count 98 = .ok (.invokevirtual 141, 3) := by decide +kernel
theorem dX1_count_101 : decode cX1_count 101 = .ok (.ireturn, 1) := by decide +kernel
theorem dX1_count_102 : decode cX1_count 102 = .ok (.new 121, 3) := by decide +kernel
theorem dX1_count_105 : decode cX1_count 105 = .ok (.dup, 1) := by decide +kernel
theorem dX1_count_106 : decode cX1_count 106 = .ok (.ldc 144, 2) := by decide +kernel
theorem dX1_count_108 : decode cX1_count 108 = .ok (.invokespecial 125, 3) := by decide +kernel
theorem dX1_count_111 : decode cX1_count 111 = .ok (.athrow, 1) := by decide +kernel
set_option maxRecDepth 20000 in
theorem ggX1_would_X1_checkWrestler : GoodIn wsX1_would wsX1_checkWrestler := goodIn_ca (goodIn_r _ [8, 1, 2, 3, 9, 10, 11, 12, 13, 14, 48, 49, 50, 51, 52, 53, 54, 55, 56, 57, 58, 59, 60, 61] (by decide +kernel) (by decide +kernel)) (goodIn_sub (fun _ h => List.mem_cons_of_mem _ (List.mem_append_left _ (List.mem_append_right _ h))) (by decide +kernel))
set_option maxRecDepth 20000 in
theorem gX1_would_X1_checkWrestler : GoodIn wsX1_would (wsV RX1 47 RX1 yX1_checkWrestler wsX1_checkWrestler) := goodIn_app (goodIn_of _ (by decide +kernel)) ggX1_would_X1_checkWrestler
set_option maxRecDepth 20000 in
theorem ggX1_would_X1_checkDifferent : GoodIn wsX1_would wsX1_checkDifferent := goodIn_ca (goodIn_r _ [17, 18, 19] (by decide +kernel) (by decide +kernel)) (goodIn_sub (fun _ h => List.mem_cons_of_mem _ (List.mem_append_right _ h)) (by decide +kernel))
set_option maxRecDepth 20000 in
theorem gX1_would_X1_checkDifferent : GoodIn wsX1_would (va_wsS RX1 60 yX1_checkDifferent wsX1_checkDifferent) := goodIn_app (goodIn_of _ (by decide +kernel)) ggX1_would_X1_checkDifferent
set_option maxRecDepth 20000 in
theorem ggX1_would_X1_checkResult : GoodIn wsX1_would wsX1_checkResult := goodIn_ca (goodIn_r _ [22, 18, 19] (by decide +kernel) (by decide +kernel)) (goodIn_sub (fun _ h => List.mem_cons_of_mem _ (List.mem_append_right _ h)) (by decide +kernel))
set_option maxRecDepth 20000 in
theorem gX1_would_X1_checkResult : GoodIn wsX1_would (va_wsS RX1 63 yX1_checkResult wsX1_checkResult) := goodIn_app (goodIn_of _ (by decide +kernel)) ggX1_would_X1_checkResult
set_option maxRecDepth 20000 in
theorem ggX1_would_X0_gain : GoodIn wsX1_would wsX0_gain := goodIn_r _ [26, 27, 28, 29, 30, 31, 32, 33, 34, 35, 36, 37, 12, 38, 39, 40, 41, 42, 43, 44, 45, 46, 47, 54, 55, 56, 57, 58, 59, 60, 61] (by decide +kernel) (by decide +kernel)
set_option maxRecDepth 20000 in
theorem gX1_would_X0_gain : GoodIn wsX1_would (wsV RX1 148 RX0 yX0_gain wsX0_gain) := goodIn_app (goodIn_of _ (by decide +kernel)) ggX1_would_X0_gain
theorem dX1_would_0 : decode cX1_would 0 = .ok (.aload_n 0, 1) := by decide +kernel
theorem dX1_would_1 : decode cX1_would 1 = .ok (.iload_n 1, 1) := by decide +kernel
theorem dX1_would_2 : decode cX1_would 2 = .ok (.invokevirtual 47, 3) := by decide +kernel
theorem dX1_would_5 : decode cX1_would 5 = .ok (.aload_n 0, 1) := by decide +kernel
theorem dX1_would_6 : decode cX1_would 6 = .ok (.iload_n 2, 1) := by decide +kernel
theorem dX1_would_7 : decode cX1_would 7 = .ok (.invokevirtual 47, 3) := by decide +kernel
theorem dX1_would_10 : decode cX1_would 10 = .ok (.iload 4, 2) := by decide +kernel
theorem dX1_would_12 : decode cX1_would 12 = .ok (.ifCond .eq 19, 3) := by decide +kernel
theorem dX1_would_15 : decode cX1_would 15 = .ok (.iload 4, 2) := by decide +kernel
theorem dX1_would_17 : decode cX1_would 17 = .ok (.iconst 1, 1) := by decide +kernel
theorem dX1_would_18 : decode cX1_would 18 = .ok (.if_icmp .eq 13, 3) := by decide +kernel
theorem dX1_would_21 : decode cX1_would 21 = .ok (.new 121, 3) := by decide +kernel
theorem dX1_would_24 : decode cX1_would 24 = .ok (.dup, 1) := by decide +kernel
theorem dX1_would_25 : decode cX1_would 25 = .ok (.ldc 146, 2) := by decide +kernel
theorem dX1_would_27 : decode cX1_would 27 = .ok (.invokespecial 125, 3) := by decide +kernel
theorem dX1_would_30 : decode cX1_would 30 = .ok (.athrow, 1) := by decide +kernel
theorem dX1_would_31 : decode cX1_would 31 = .ok (.iload_n 1, 1) := by decide +kernel
theorem dX1_would_32 : decode cX1_would 32 = .ok (.iload_n 2, 1) := by decide +kernel
theorem dX1_would_33 : decode cX1_would 33 = .ok (.invokestatic 60, 3) := by decide +kernel
theorem dX1_would_36 : decode cX1_would 36 = .ok (.iload_n 3, 1) := by decide +kernel
theorem dX1_would_37 : decode cX1_would 37 = .ok (.invokestatic 63, 3) := by decide +kernel
theorem dX1_would_40 : decode cX1_would 40 = .ok (.iload 4, 2) := by decide +kernel
theorem dX1_would_42 : decode cX1_would 42 = .ok (.ifCond .ne 16, 3) := by decide +kernel
theorem dX1_would_45 : decode cX1_would 45 = .ok (.aload_n 0, 1) := by decide +kernel
theorem dX1_would_46 : decode cX1_would 46 = .ok (.getfield 10, 3) := by decide +kernel
theorem dX1_would_49 : decode cX1_would 49 = .ok (.iload_n 1, 1) := by decide +kernel
theorem dX1_would_50 : decode cX1_would 50 = .ok (.iload_n 2, 1) := by decide +kernel
theorem dX1_would_51 : decode cX1_would 51 = .ok (.iload_n 3, 1) := by decide +kernel
theorem dX1_would_52 : decode cX1_would 52 = .ok (.invokevirtual 148, 3) := by decide +kernel
theorem dX1_would_55 : decode cX1_would 55 = .ok (.goto 15, 3) := by decide +kernel
theorem dX1_would_58 : decode cX1_would 58 = .ok (.aload_n 0, 1) := by decide +kernel
theorem dX1_would_59 : decode cX1_would 59 = .ok (.getfield 10, 3) := by decide +kernel
theorem dX1_would_62 : decode cX1_would 62 = .ok (.iload_n 2, 1) := by decide +kernel
theorem dX1_would_63 : decode cX1_would 63 = .ok (.iload_n 1, 1) := by decide +kernel
theorem dX1_would_64 : decode cX1_would 64 = .ok (.iconst 2, 1) := by decide +kernel
theorem dX1_would_65 : decode cX1_would 65 = .ok (.iload_n 3, 1) := by decide +kernel
theorem dX1_would_66 : decode cX1_would 66 = .ok (.isub, 1) := by decide +kernel
theorem dX1_would_67 : decode cX1_would 67 = .ok (.invokevirtual 148, 3) := by decide +kernel
theorem dX1_would_70 : decode cX1_would 70 = .ok (.ireturn, 1) := by decide +kernel
set_option maxRecDepth 20000 in
theorem ggX1_match_X1_checkWrestler : GoodIn wsX1_match wsX1_checkWrestler := goodIn_ca (goodIn_r _ [6, 7, 8, 1, 9, 10, 11, 12, 13, 14, 40, 41, 42, 43, 44, 45, 46, 47, 48, 49, 50, 51, 52, 53] (by decide +kernel) (by decide +kernel)) (goodIn_sub (fun _ h => List.mem_cons_of_mem _ (List.mem_append_right _ h)) (by decide +kernel))
set_option maxRecDepth 20000 in
theorem gX1_match_X1_checkWrestler : GoodIn wsX1_match (wsV RX1 47 RX1 yX1_checkWrestler wsX1_checkWrestler) := goodIn_app (goodIn_of _ (by decide +kernel)) ggX1_match_X1_checkWrestler
set_option maxRecDepth 20000 in
theorem ggX1_match_X0_evenest : GoodIn wsX1_match wsX0_evenest := goodIn_r _ [18, 14, 19, 20, 21, 22, 12, 23, 24, 25, 26, 27, 28, 29, 30, 31, 32, 33, 34, 35, 36, 37, 38, 39, 46, 47, 48, 49, 50, 51, 52, 53] (by decide +kernel) (by decide +kernel)
set_option maxRecDepth 20000 in
theorem gX1_match_X0_evenest : GoodIn wsX1_match (wsV RX1 156 RX0 yX0_evenest wsX0_evenest) := goodIn_app (goodIn_of _ (by decide +kernel)) ggX1_match_X0_evenest
theorem dX1_match_0 : decode cX1_match 0 = .ok (.aload_n 0, 1) := by decide +kernel
theorem dX1_match_1 : decode cX1_match 1 = .ok (.iload_n 1, 1) := by decide +kernel
theorem dX1_match_2 : decode cX1_match 2 = .ok (.invokevirtual 47, 3) := by decide +kernel
theorem dX1_match_5 : decode cX1_match 5 = .ok (.aload_n 0, 1) := by decide +kernel
theorem dX1_match_6 : decode cX1_match 6 = .ok (.getfield 10, 3) := by decide +kernel
theorem dX1_match_9 : decode cX1_match 9 = .ok (.iload_n 1, 1) := by decide +kernel
theorem dX1_match_10 : decode cX1_match 10 = .ok (.invokevirtual 156, 3) := by decide +kernel
theorem dX1_match_13 : decode cX1_match 13 = .ok (.ireturn, 1) := by decide +kernel
set_option maxRecDepth 20000 in
theorem ggX1_next_X0_bestPair : GoodIn wsX1_next wsX0_bestPair := goodIn_r _ [6, 7, 8, 9, 10, 11, 12, 5, 13, 14, 15, 16, 17, 18, 19, 20, 21, 22, 23, 24, 25, 26, 27, 28, 29, 36, 37, 38, 39, 40, 41, 42, 43] (by decide +kernel) (by decide +kernel)
set_option maxRecDepth 20000 in
theorem gX1_next_X0_bestPair : GoodIn wsX1_next (wsV RX1 159 RX0 yX0_bestPair wsX0_bestPair) := goodIn_app (goodIn_of _ (by decide +kernel)) ggX1_next_X0_bestPair
theorem dX1_next_0 : decode cX1_next 0 = .ok (.aload_n 0, 1) := by decide +kernel
theorem dX1_next_1 : decode cX1_next 1 = .ok (.getfield 10, 3) := by decide +kernel
theorem dX1_next_4 : decode cX1_next 4 = .ok (.invokevirtual 159, 3) := by decide +kernel
theorem dX1_next_7 : decode cX1_next 7 = .ok (.ireturn, 1) := by decide +kernel
set_option maxRecDepth 20000 in
theorem ggX1_foresee_X0_copyFrom : GoodIn wsX1_foresee wsX0_copyFrom := goodIn_r _ [9, 10, 11, 12, 13, 14, 15, 16, 17, 78, 79, 80, 81, 82, 83, 84, 85] (by decide +kernel) (by decide +kernel)
set_option maxRecDepth 20000 in
theorem gX1_foresee_X0_copyFrom : GoodIn wsX1_foresee (wsV RX1 164 RX0 yX0_copyFrom wsX0_copyFrom) := goodIn_app (goodIn_of _ (by decide +kernel)) ggX1_foresee_X0_copyFrom
set_option maxRecDepth 20000 in
theorem ggX1_foresee_X0_bestPair : GoodIn wsX1_foresee wsX0_bestPair := goodIn_r _ [21, 10, 11, 15, 22, 23, 24, 8, 25, 26, 27, 28, 29, 30, 31, 32, 33, 12, 34, 35, 36, 37, 38, 39, 40, 78, 79, 80, 81, 82, 83, 84, 85] (by decide +kernel) (by decide +kernel)
set_option maxRecDepth 20000 in
theorem gX1_foresee_X0_bestPair : GoodIn wsX1_foresee (wsV RX1 159 RX0 yX0_bestPair wsX0_bestPair) := goodIn_app (goodIn_of _ (by decide +kernel)) ggX1_foresee_X0_bestPair
set_option maxRecDepth 20000 in
theorem ggX1_foresee_X0_holdAsRated : GoodIn wsX1_foresee wsX0_holdAsRated := goodIn_r _ [44, 12, 45, 46, 47, 8, 48, 49, 50, 51, 52, 37, 38, 28, 39, 53, 54, 55, 56, 57, 58, 59, 14, 30, 31, 32, 33, 34, 35, 36, 40, 60, 61, 62, 63, 13, 15, 16, 64, 65, 66, 67, 17, 78, 79, 80, 81, 82, 83, 84, 85] (by decide +kernel) (by decide +kernel)
set_option maxRecDepth 20000 in
theorem gX1_foresee_X0_holdAsRated : GoodIn wsX1_foresee (wsV RX1 168 RX0 yX0_holdAsRated wsX0_holdAsRated) := goodIn_app (goodIn_of _ (by decide +kernel)) ggX1_foresee_X0_holdAsRated
set_option maxRecDepth 20000 in
theorem ggX1_foresee_X0_highest : GoodIn wsX1_foresee wsX0_highest := goodIn_r _ [71, 10, 12, 53, 54, 28, 55, 78, 79, 80, 81, 82, 83, 84, 85] (by decide +kernel) (by decide +kernel)
set_option maxRecDepth 20000 in
theorem gX1_foresee_X0_highest : GoodIn wsX1_foresee (wsV RX1 138 RX0 yX0_highest wsX0_highest) := goodIn_app (goodIn_of _ (by decide +kernel)) ggX1_foresee_X0_highest
theorem dX1_foresee_0 : decode cX1_foresee 0 = .ok (.iload_n 1, 1) := by decide +kernel
theorem dX1_foresee_1 : decode cX1_foresee 1 = .ok (.iconst 1, 1) := by decide +kernel
theorem dX1_foresee_2 : decode cX1_foresee 2 = .ok (.if_icmp .lt 9, 3) := by decide +kernel
theorem dX1_foresee_5 : decode cX1_foresee 5 = .ok (.iload_n 1, 1) := by decide +kernel
theorem dX1_foresee_6 : decode cX1_foresee 6 = .ok (.bipush 40, 2) := by decide +kernel
theorem dX1_foresee_8 : decode cX1_foresee 8 = .ok (.if_icmp .le 13, 3) := by decide +kernel
theorem dX1_foresee_11 : decode cX1_foresee 11 = .ok (.new 27, 3) := by decide +kernel
theorem dX1_foresee_14 : decode cX1_foresee 14 = .ok (.dup, 1) := by decide +kernel
theorem dX1_foresee_15 : decode cX1_foresee 15 = .ok (.ldc 162, 2) := by decide +kernel
theorem dX1_foresee_17 : decode cX1_foresee 17 = .ok (.invokespecial 31, 3) := by decide +kernel
theorem dX1_foresee_20 : decode cX1_foresee 20 = .ok (.athrow, 1) := by decide +kernel
theorem dX1_foresee_21 : decode cX1_foresee 21 = .ok (.aload_n 0, 1) := by decide +kernel
theorem dX1_foresee_22 : decode cX1_foresee 22 = .ok (.getfield 16, 3) := by decide +kernel
theorem dX1_foresee_25 : decode cX1_foresee 25 = .ok (.aload_n 0, 1) := by decide +kernel
theorem dX1_foresee_26 : decode cX1_foresee 26 = .ok (.getfield 10, 3) := by decide +kernel
theorem dX1_foresee_29 : decode cX1_foresee 29 = .ok (.invokevirtual 164, 3) := by decide +kernel
theorem dX1_foresee_32 : decode cX1_foresee 32 = .ok (.iconst 0, 1) := by decide +kernel
theorem dX1_foresee_33 : decode cX1_foresee 33 = .ok (.istore_n 2, 1) := by decide +kernel
theorem dX1_foresee_34 : decode cX1_foresee 34 = .ok (.iload_n 2, 1) := by decide +kernel
theorem dX1_foresee_35 : decode cX1_foresee 35 = .ok (.iload_n 1, 1) := by decide +kernel
theorem dX1_foresee_36 : decode cX1_foresee 36 = .ok (.if_icmp .ge 40, 3) := by decide +kernel
theorem dX1_foresee_39 : decode cX1_foresee 39 = .ok (.aload_n 0, 1) := by decide +kernel
theorem dX1_foresee_40 : decode cX1_foresee 40 = .ok (.getfield 16, 3) := by decide +kernel
theorem dX1_foresee_43 : decode cX1_foresee 43 = .ok (.invokevirtual 159, 3) := by decide +kernel
theorem dX1_foresee_46 : decode cX1_foresee 46 = .ok (.istore_n 3, 1) := by decide +kernel
theorem dX1_foresee_47 : decode cX1_foresee 47 = .ok (.iload_n 3, 1) := by decide +kernel
theorem dX1_foresee_48 : decode cX1_foresee 48 = .ok (.iconst (-1), 1) := by decide +kernel
theorem dX1_foresee_49 : decode cX1_foresee 49 = .ok (.if_icmp .ne 6, 3) := by decide +kernel
theorem dX1_foresee_52 : decode cX1_foresee 52 = .ok (.goto 24, 3) := by decide +kernel
theorem dX1_foresee_55 : decode cX1_foresee 55 = .ok (.aload_n 0, 1) := by decide +kernel
theorem dX1_foresee_56 : decode cX1_foresee 56 = .ok (.getfield 16, 3) := by decide +kernel
theorem dX1_foresee_59 : decode cX1_foresee 59 = .ok (.iload_n 3, 1) := by decide +kernel
theorem dX1_foresee_60 : decode cX1_foresee 60 = .ok (.bipush 12, 2) := by decide +kernel
theorem dX1_foresee_62 : decode cX1_foresee 62 = .ok (.idiv, 1) := by decide +kernel
theorem dX1_foresee_63 : decode cX1_foresee 63 = .ok (.iload_n 3, 1) := by decide +kernel
theorem dX1_foresee_64 : decode cX1_foresee 64 = .ok (.bipush 12, 2) := by decide +kernel
theorem dX1_foresee_66 : decode cX1_foresee 66 = .ok (.irem, 1) := by decide +kernel
theorem dX1_foresee_67 : decode cX1_foresee 67 = .ok (.invokevirtual 168, 3) := by decide +kernel
theorem dX1_foresee_70 : decode cX1_foresee 70 = .ok (.iinc 2 1, 3) := by decide +kernel
theorem dX1_foresee_73 : decode cX1_foresee 73 = .ok (.goto (-39), 3) := by decide +kernel
theorem dX1_foresee_76 : decode cX1_foresee 76 = .ok (.aload_n 0, 1) := by decide +kernel
theorem dX1_foresee_77 : decode cX1_foresee 77 = .ok (.getfield 16, 3) := by decide +kernel
theorem dX1_foresee_80 : decode cX1_foresee 80 = .ok (.invokevirtual 138, 3) := by decide +kernel
theorem dX1_foresee_83 : decode cX1_foresee 83 = .ok (.ireturn, 1) := by decide +kernel
set_option maxRecDepth 20000 in
theorem ggX1_mean_X0_size : GoodIn wsX1_mean wsX0_size := goodIn_r _ [6, 7, 19, 20, 21, 22, 23, 24, 25, 26] (by decide +kernel) (by decide +kernel)
set_option maxRecDepth 20000 in
theorem gX1_mean_X0_size : GoodIn wsX1_mean (wsV RX1 131 RX0 yX0_size wsX0_size) := goodIn_app (goodIn_of _ (by decide +kernel)) ggX1_mean_X0_size
set_option maxRecDepth 20000 in
theorem ggX1_mean_X0_sumOfRatings : GoodIn wsX1_mean wsX0_sumOfRatings := goodIn_r _ [11, 7, 12, 19, 20, 21, 22, 23, 24, 25, 26] (by decide +kernel) (by decide +kernel)
set_option maxRecDepth 20000 in
theorem gX1_mean_X0_sumOfRatings : GoodIn wsX1_mean (wsV RX1 171 RX0 yX0_sumOfRatings wsX0_sumOfRatings) := goodIn_app (goodIn_of _ (by decide +kernel)) ggX1_mean_X0_sumOfRatings
theorem dX1_mean_0 : decode cX1_mean 0 = .ok (.aload_n 0, 1) := by decide +kernel
theorem dX1_mean_1 : decode cX1_mean 1 = .ok (.getfield 10, 3) := by decide +kernel
theorem dX1_mean_4 : decode cX1_mean 4 = .ok (.invokevirtual 131, 3) := by decide +kernel
theorem dX1_mean_7 : decode cX1_mean 7 = .ok (.istore_n 1, 1) := by decide +kernel
theorem dX1_mean_8 : decode cX1_mean 8 = .ok (.iload_n 1, 1) := by decide +kernel
theorem dX1_mean_9 : decode cX1_mean 9 = .ok (.ifCond .ne 7, 3) := by decide +kernel
theorem dX1_mean_12 : decode cX1_mean 12 = .ok (.dconst 0, 1) := by decide +kernel
theorem dX1_mean_13 : decode cX1_mean 13 = .ok (.goto 14, 3) := by decide +kernel
theorem dX1_mean_16 : decode cX1_mean 16 = .ok (.aload_n 0, 1) := by decide +kernel
theorem dX1_mean_17 : decode cX1_mean 17 = .ok (.getfield 10, 3) := by decide +kernel
theorem dX1_mean_20 : decode cX1_mean 20 = .ok (.invokevirtual 171, 3) := by decide +kernel
theorem dX1_mean_23 : decode cX1_mean 23 = .ok (.i2d, 1) := by decide +kernel
theorem dX1_mean_24 : decode cX1_mean 24 = .ok (.iload_n 1, 1) := by decide +kernel
theorem dX1_mean_25 : decode cX1_mean 25 = .ok (.i2d, 1) := by decide +kernel
theorem dX1_mean_26 : decode cX1_mean 26 = .ok (.ddiv, 1) := by decide +kernel
theorem dX1_mean_27 : decode cX1_mean 27 = .ok (.dreturn, 1) := by decide +kernel
set_option maxRecDepth 20000 in
theorem ggX1_digest_X1_count : GoodIn wsX1_digest wsX1_count := goodIn_ca (goodIn_r _ [8, 9, 10, 11, 3, 12, 13, 14, 15, 16, 17, 18, 19, 20, 21, 22, 23, 24, 25, 26, 27, 28, 29, 30, 31, 32, 33, 34, 35, 36, 37, 38, 39, 40, 121, 122, 123, 124, 125, 126, 127, 128, 129, 130, 131, 132, 133, 134] (by decide +kernel) (by decide +kernel)) (goodIn_sub (fun _ h => List.mem_cons_of_mem _ (List.mem_append_right _ h)) (by decide +kernel))
set_option maxRecDepth 20000 in
theorem gX1_digest_X1_count : GoodIn wsX1_digest (wsV RX1 178 RX1 yX1_count wsX1_count) := goodIn_app (goodIn_of _ (by decide +kernel)) ggX1_digest_X1_count
set_option maxRecDepth 20000 in
theorem ggX1_digest_X0_size : GoodIn wsX1_digest wsX0_size := goodIn_r _ [18, 19, 127, 128, 129, 130, 131, 132, 133, 134] (by decide +kernel) (by decide +kernel)
set_option maxRecDepth 20000 in
theorem gX1_digest_X0_size : GoodIn wsX1_digest (wsV RX1 131 RX0 yX0_size wsX0_size) := goodIn_app (goodIn_of _ (by decide +kernel)) ggX1_digest_X0_size
set_option maxRecDepth 20000 in
theorem ggX1_digest_X1_told : GoodIn wsX1_digest wsX1_told := goodIn_ca (goodIn_r _ [44, 9, 10, 3, 45, 46, 47, 7, 48, 49, 50, 51, 17, 52, 19, 53, 54, 55, 56, 29, 57, 58, 59, 60, 24, 61, 62, 63, 64, 65, 66, 67, 68, 69, 70, 71, 72, 73, 74, 75, 76, 77, 78, 79, 80, 81, 82, 83, 84, 85, 86, 87, 88, 89, 90, 91, 92, 93, 94, 95, 96, 97, 121, 122, 123, 124, 125, 126, 127, 128, 129, 130, 131, 132, 133, 134] (by decide +kernel) (by decide +kernel)) (goodIn_sub (fun _ h => List.mem_cons_of_mem _ (List.mem_append_right _ h)) (by decide +kernel))
set_option maxRecDepth 20000 in
theorem gX1_digest_X1_told : GoodIn wsX1_digest (wsV RX1 181 RX1 yX1_told wsX1_told) := goodIn_app (goodIn_of _ (by decide +kernel)) ggX1_digest_X1_told
set_option maxRecDepth 20000 in
theorem ggX1_digest_X1_next : GoodIn wsX1_digest wsX1_next := goodIn_r _ [101, 3, 102, 103, 104, 17, 105, 19, 24, 75, 106, 107, 108, 109, 110, 111, 32, 112, 113, 114, 115, 116, 29, 117, 118, 119, 38, 39, 40, 120, 121, 122, 123, 124, 125, 126, 127, 128, 129, 130, 131, 132, 133, 134] (by decide +kernel) (by decide +kernel)
set_option maxRecDepth 20000 in
theorem gX1_digest_X1_next : GoodIn wsX1_digest (wsV RX1 184 RX1 yX1_next wsX1_next) := goodIn_app (goodIn_of _ (by decide +kernel)) ggX1_digest_X1_next
theorem dX1_digest_0 : decode cX1_digest 0 = .ok (.ldc2_w 174, 3) := by decide +kernel
end
section
theorem dX1_digest_3 : decode cX1_digest 3 = .ok (.lstore_n 1, 1) := by decide +kernel
theorem dX1_digest_4 : decode cX1_digest 4 = .ok (.iconst 0, 1) := by decide +kernel
theorem dX1_digest_5 : decode cX1_digest 5 = .ok (.istore_n 3, 1) := by decide +kernel
theorem dX1_digest_6 : decode cX1_digest 6 = .ok (.iload_n 3, 1) := by decide +kernel
theorem dX1_digest_7 : decode cX1_digest 7 = .ok (.bipush 9, 2) := by decide +kernel
theorem dX1_digest_9 : decode cX1_digest 9 = .ok (.if_icmp .ge 22, 3) := by decide +kernel
theorem dX1_digest_12 : decode cX1_digest 12 = .ok (.lload_n 1, 1) := by decide +kernel
theorem dX1_digest_13 : decode cX1_digest 13 = .ok (.ldc2_w 176, 3) := by decide +kernel
theorem dX1_digest_16 : decode cX1_digest 16 = .ok (.lmul, 1) := by decide +kernel
theorem dX1_digest_17 : decode cX1_digest 17 = .ok (.aload_n 0, 1) := by decide +kernel
theorem dX1_digest_18 : decode cX1_digest 18 = .ok (.iload_n 3, 1) := by decide +kernel
theorem dX1_digest_19 : decode cX1_digest 19 = .ok (.invokevirtual 178, 3) := by decide +kernel
theorem dX1_digest_22 : decode cX1_digest 22 = .ok (.i2l, 1) := by decide +kernel
theorem dX1_digest_23 : decode cX1_digest 23 = .ok (.ladd, 1) := by decide +kernel
theorem dX1_digest_24 : decode cX1_digest 24 = .ok (.lstore_n 1, 1) := by decide +kernel
theorem dX1_digest_25 : decode cX1_digest 25 = .ok (.iinc 3 1, 3) := by decide +kernel
theorem dX1_digest_28 : decode cX1_digest 28 = .ok (.goto (-22), 3) := by decide +kernel
theorem dX1_digest_31 : decode cX1_digest 31 = .ok (.iconst 0, 1) := by decide +kernel
theorem dX1_digest_32 : decode cX1_digest 32 = .ok (.istore_n 3, 1) := by decide +kernel
theorem dX1_digest_33 : decode cX1_digest 33 = .ok (.iload_n 3, 1) := by decide +kernel
theorem dX1_digest_34 : decode cX1_digest 34 = .ok (.aload_n 0, 1) := by decide +kernel
theorem dX1_digest_35 : decode cX1_digest 35 = .ok (.getfield 10, 3) := by decide +kernel
theorem dX1_digest_38 : decode cX1_digest 38 = .ok (.invokevirtual 131, 3) := by decide +kernel
theorem dX1_digest_41 : decode cX1_digest 41 = .ok (.if_icmp .ge 40, 3) := by decide +kernel
theorem dX1_digest_44 : decode cX1_digest 44 = .ok (.iconst 0, 1) := by decide +kernel
theorem dX1_digest_45 : decode cX1_digest 45 = .ok (.istore 4, 2) := by decide +kernel
theorem dX1_digest_47 : decode cX1_digest 47 = .ok (.iload 4, 2) := by decide +kernel
theorem dX1_digest_49 : decode cX1_digest 49 = .ok (.bipush 9, 2) := by decide +kernel
theorem dX1_digest_51 : decode cX1_digest 51 = .ok (.if_icmp .ge 24, 3) := by decide +kernel
theorem dX1_digest_54 : decode cX1_digest 54 = .ok (.lload_n 1, 1) := by decide +kernel
theorem dX1_digest_55 : decode cX1_digest 55 = .ok (.ldc2_w 176, 3) := by decide +kernel
theorem dX1_digest_58 : decode cX1_digest 58 = .ok (.lmul, 1) := by decide +kernel
theorem dX1_digest_59 : decode cX1_digest 59 = .ok (.aload_n 0, 1) := by decide +kernel
theorem dX1_digest_60 : decode cX1_digest 60 = .ok (.iload_n 3, 1) := by decide +kernel
theorem dX1_digest_61 : decode cX1_digest 61 = .ok (.iload 4, 2) := by decide +kernel
theorem dX1_digest_63 : decode cX1_digest 63 = .ok (.invokevirtual 181, 3) := by decide +kernel
theorem dX1_digest_66 : decode cX1_digest 66 = .ok (.i2l, 1) := by decide +kernel
theorem dX1_digest_67 : decode cX1_digest 67 = .ok (.ladd, 1) := by decide +kernel
theorem dX1_digest_68 : decode cX1_digest 68 = .ok (.lstore_n 1, 1) := by decide +kernel
theorem dX1_digest_69 : decode cX1_digest 69 = .ok (.iinc 4 1, 3) := by decide +kernel
theorem dX1_digest_72 : decode cX1_digest 72 = .ok (.goto (-25), 3) := by decide +kernel
theorem dX1_digest_75 : decode cX1_digest 75 = .ok (.iinc 3 1, 3) := by decide +kernel
theorem dX1_digest_78 : decode cX1_digest 78 = .ok (.goto (-45), 3) := by decide +kernel
theorem dX1_digest_81 : decode cX1_digest 81 = .ok (.lload_n 1, 1) := by decide +kernel
theorem dX1_digest_82 : decode cX1_digest 82 = .ok (.ldc2_w 176, 3) := by decide +kernel
theorem dX1_digest_85 : decode cX1_digest 85 = .ok (.lmul, 1) := by decide +kernel
theorem dX1_digest_86 : decode cX1_digest 86 = .ok (.aload_n 0, 1) := by decide +kernel
theorem dX1_digest_87 : decode cX1_digest 87 = .ok (.invokevirtual 184, 3) := by decide +kernel
theorem dX1_digest_90 : decode cX1_digest 90 = .ok (.i2l, 1) := by decide +kernel
theorem dX1_digest_91 : decode cX1_digest 91 = .ok (.ladd, 1) := by decide +kernel
theorem dX1_digest_92 : decode cX1_digest 92 = .ok (.lreturn, 1) := by decide +kernel
set_option maxRecDepth 20000 in
theorem ggX1_checkWrestler_X0_has : GoodIn wsX1_checkWrestler wsX0_has := goodIn_r _ [8, 9, 16, 17, 18, 19, 20, 21, 22, 23] (by decide +kernel) (by decide +kernel)
set_option maxRecDepth 20000 in
theorem gX1_checkWrestler_X0_has : GoodIn wsX1_checkWrestler (wsV RX1 187 RX0 yX0_has wsX0_has) := goodIn_app (goodIn_of _ (by decide +kernel)) ggX1_checkWrestler_X0_has
theorem dX1_checkWrestler_0 : decode cX1_checkWrestler 0 = .ok (.aload_n 0, 1) := by decide +kernel
theorem dX1_checkWrestler_1 : decode cX1_checkWrestler 1 = .ok (.getfield 10, 3) := by decide +kernel
theorem dX1_checkWrestler_4 : decode cX1_checkWrestler 4 = .ok (.iload_n 1, 1) := by decide +kernel
theorem dX1_checkWrestler_5 : decode cX1_checkWrestler 5 = .ok (.invokevirtual 187, 3) := by decide +kernel
theorem dX1_checkWrestler_8 : decode cX1_checkWrestler 8 = .ok (.ifCond .ne 13, 3) := by decide +kernel
theorem dX1_checkWrestler_11 : decode cX1_checkWrestler 11 = .ok (.new 121, 3) := by decide +kernel
theorem dX1_checkWrestler_14 : decode cX1_checkWrestler 14 = .ok (.dup, 1) := by decide +kernel
theorem dX1_checkWrestler_15 : decode cX1_checkWrestler 15 = .ok (.ldc 190, 2) := by decide +kernel
theorem dX1_checkWrestler_17 : decode cX1_checkWrestler 17 = .ok (.invokespecial 125, 3) := by decide +kernel
theorem dX1_checkWrestler_20 : decode cX1_checkWrestler 20 = .ok (.athrow, 1) := by decide +kernel
theorem dX1_checkWrestler_21 : decode cX1_checkWrestler 21 = .ok (.return_, 1) := by decide +kernel
theorem dX1_checkDifferent_0 : decode cX1_checkDifferent 0 = .ok (.iload_n 0, 1) := by decide +kernel
theorem dX1_checkDifferent_1 : decode cX1_checkDifferent 1 = .ok (.iload_n 1, 1) := by decide +kernel
theorem dX1_checkDifferent_2 : decode cX1_checkDifferent 2 = .ok (.if_icmp .ne 13, 3) := by decide +kernel
theorem dX1_checkDifferent_5 : decode cX1_checkDifferent 5 = .ok (.new 27, 3) := by decide +kernel
theorem dX1_checkDifferent_8 : decode cX1_checkDifferent 8 = .ok (.dup, 1) := by decide +kernel
theorem dX1_checkDifferent_9 : decode cX1_checkDifferent 9 = .ok (.ldc 192, 2) := by decide +kernel
theorem dX1_checkDifferent_11 : decode cX1_checkDifferent 11 = .ok (.invokespecial 31, 3) := by decide +kernel
theorem dX1_checkDifferent_14 : decode cX1_checkDifferent 14 = .ok (.athrow, 1) := by decide +kernel
theorem dX1_checkDifferent_15 : decode cX1_checkDifferent 15 = .ok (.return_, 1) := by decide +kernel
theorem dX1_checkResult_0 : decode cX1_checkResult 0 = .ok (.iload_n 0, 1) := by decide +kernel
theorem dX1_checkResult_1 : decode cX1_checkResult 1 = .ok (.ifCond .lt 8, 3) := by decide +kernel
theorem dX1_checkResult_4 : decode cX1_checkResult 4 = .ok (.iload_n 0, 1) := by decide +kernel
theorem dX1_checkResult_5 : decode cX1_checkResult 5 = .ok (.iconst 2, 1) := by decide +kernel
theorem dX1_checkResult_6 : decode cX1_checkResult 6 = .ok (.if_icmp .le 13, 3) := by decide +kernel
theorem dX1_checkResult_9 : decode cX1_checkResult 9 = .ok (.new 27, 3) := by decide +kernel
theorem dX1_checkResult_12 : decode cX1_checkResult 12 = .ok (.dup, 1) := by decide +kernel
theorem dX1_checkResult_13 : decode cX1_checkResult 13 = .ok (.ldc 194, 2) := by decide +kernel
theorem dX1_checkResult_15 : decode cX1_checkResult 15 = .ok (.invokespecial 31, 3) := by decide +kernel
theorem dX1_checkResult_18 : decode cX1_checkResult 18 = .ok (.athrow, 1) := by decide +kernel
theorem dX1_checkResult_19 : decode cX1_checkResult 19 = .ok (.return_, 1) := by decide +kernel
theorem dX1_isLeague_0 : decode cX1_isLeague 0 = .ok (.iload_n 0, 1) := by decide +kernel
theorem dX1_isLeague_1 : decode cX1_isLeague 1 = .ok (.ifCond .lt 12, 3) := by decide +kernel
theorem dX1_isLeague_4 : decode cX1_isLeague 4 = .ok (.iload_n 0, 1) := by decide +kernel
theorem dX1_isLeague_5 : decode cX1_isLeague 5 = .ok (.iconst 3, 1) := by decide +kernel
theorem dX1_isLeague_6 : decode cX1_isLeague 6 = .ok (.if_icmp .ge 7, 3) := by decide +kernel
theorem dX1_isLeague_9 : decode cX1_isLeague 9 = .ok (.iconst 1, 1) := by decide +kernel
theorem dX1_isLeague_10 : decode cX1_isLeague 10 = .ok (.goto 4, 3) := by decide +kernel
theorem dX1_isLeague_13 : decode cX1_isLeague 13 = .ok (.iconst 0, 1) := by decide +kernel
theorem dX1_isLeague_14 : decode cX1_isLeague 14 = .ok (.ireturn, 1) := by decide +kernel
theorem dX2_init_0 : decode cX2_init 0 = .ok (.aload_n 0, 1) := by decide +kernel
theorem dX2_init_1 : decode cX2_init 1 = .ok (.invokespecial 1, 3) := by decide +kernel
theorem dX2_init_4 : decode cX2_init 4 = .ok (.aload_n 0, 1) := by decide +kernel
theorem dX2_init_5 : decode cX2_init 5 = .ok (.iconst 0, 1) := by decide +kernel
theorem dX2_init_6 : decode cX2_init 6 = .ok (.anewarray 7, 3) := by decide +kernel
theorem dX2_init_9 : decode cX2_init 9 = .ok (.putfield 9, 3) := by decide +kernel
theorem dX2_init_12 : decode cX2_init 12 = .ok (.return_, 1) := by decide +kernel
set_option maxRecDepth 20000 in
theorem ggX2_expected_X2_expected : GoodIn wsX2_expected wsX2_expected := goodIn_r _ [0, 1, 2, 3, 4, 5, 6, 7, 8, 9, 10] (by decide +kernel) (by decide +kernel)
set_option maxRecDepth 20000 in
theorem gX2_expected_X2_expected : GoodIn wsX2_expected (wsV RX2 15 RX2 yX2_expected wsX2_expected) := goodIn_app (goodIn_of _ (by decide +kernel)) ggX2_expected_X2_expected
theorem dX2_expected_0 : decode cX2_expected 0 = .ok (.aload_n 0, 1) := by decide +kernel
theorem dX2_expected_1 : decode cX2_expected 1 = .ok (.getfield 9, 3) := by decide +kernel
theorem dX2_expected_4 : decode cX2_expected 4 = .ok (.iload_n 1, 1) := by decide +kernel
theorem dX2_expected_5 : decode cX2_expected 5 = .ok (.aaload, 1) := by decide +kernel
theorem dX2_expected_6 : decode cX2_expected 6 = .ok (.iconst 0, 1) := by decide +kernel
theorem dX2_expected_7 : decode cX2_expected 7 = .ok (.iaload, 1) := by decide +kernel
theorem dX2_expected_8 : decode cX2_expected 8 = .ok (.aload_n 0, 1) := by decide +kernel
theorem dX2_expected_9 : decode cX2_expected 9 = .ok (.getfield 9, 3) := by decide +kernel
theorem dX2_expected_12 : decode cX2_expected 12 = .ok (.iload_n 2, 1) := by decide +kernel
theorem dX2_expected_13 : decode cX2_expected 13 = .ok (.aaload, 1) := by decide +kernel
theorem dX2_expected_14 : decode cX2_expected 14 = .ok (.iconst 0, 1) := by decide +kernel
theorem dX2_expected_15 : decode cX2_expected 15 = .ok (.iaload, 1) := by decide +kernel
theorem dX2_expected_16 : decode cX2_expected 16 = .ok (.isub, 1) := by decide +kernel
theorem dX2_expected_17 : decode cX2_expected 17 = .ok (.istore_n 3, 1) := by decide +kernel
theorem dX2_expected_18 : decode cX2_expected 18 = .ok (.iload_n 3, 1) := by decide +kernel
theorem dX2_expected_19 : decode cX2_expected 19 = .ok (.ifCond .ge 14, 3) := by decide +kernel
theorem dX2_expected_22 : decode cX2_expected 22 = .ok (.sipush 1000, 3) := by decide +kernel
theorem dX2_expected_25 : decode cX2_expected 25 = .ok (.aload_n 0, 1) := by decide +kernel
theorem dX2_expected_26 : decode cX2_expected 26 = .ok (.iload_n 2, 1) := by decide +kernel
theorem dX2_expected_27 : decode cX2_expected 27 = .ok (.iload_n 1, 1) := by decide +kernel
theorem dX2_expected_28 : decode cX2_expected 28 = .ok (.invokevirtual 15, 3) := by decide +kernel
theorem dX2_expected_31 : decode cX2_expected 31 = .ok (.isub, 1) := by decide +kernel
theorem dX2_expected_32 : decode cX2_expected 32 = .ok (.ireturn, 1) := by decide +kernel
theorem dX2_expected_33 : decode cX2_expected 33 = .ok (.bipush 9, 2) := by decide +kernel
theorem dX2_expected_35 : decode cX2_expected 35 = .ok (.newarray .int, 2) := by decide +kernel
theorem dX2_expected_37 : decode cX2_expected 37 = .ok (.dup, 1) := by decide +kernel
theorem dX2_expected_38 : decode cX2_expected 38 = .ok (.iconst 0, 1) := by decide +kernel
theorem dX2_expected_39 : decode cX2_expected 39 = .ok (.sipush 500, 3) := by decide +kernel
theorem dX2_expected_42 : decode cX2_expected 42 = .ok (.iastore, 1) := by decide +kernel
theorem dX2_expected_43 : decode cX2_expected 43 = .ok (.dup, 1) := by decide +kernel
theorem dX2_expected_44 : decode cX2_expected 44 = .ok (.iconst 1, 1) := by decide +kernel
theorem dX2_expected_45 : decode cX2_expected 45 = .ok (.sipush 640, 3) := by decide +kernel
theorem dX2_expected_48 : decode cX2_expected 48 = .ok (.iastore, 1) := by decide +kernel
theorem dX2_expected_49 : decode cX2_expected 49 = .ok (.dup, 1) := by decide +kernel
theorem dX2_expected_50 : decode cX2_expected 50 = .ok (.iconst 2, 1) := by decide +kernel
theorem dX2_expected_51 : decode cX2_expected 51 = .ok (.sipush 760, 3) := by decide +kernel
theorem dX2_expected_54 : decode cX2_expected 54 = .ok (.iastore, 1) := by decide +kernel
theorem dX2_expected_55 : decode cX2_expected 55 = .ok (.dup, 1) := by decide +kernel
theorem dX2_expected_56 : decode cX2_expected 56 = .ok (.iconst 3, 1) := by decide +kernel
theorem dX2_expected_57 : decode cX2_expected 57 = .ok (.sipush 849, 3) := by decide +kernel
theorem dX2_expected_60 : decode cX2_expected 60 = .ok (.iastore, 1) := by decide +kernel
theorem dX2_expected_61 : decode cX2_expected 61 = .ok (.dup, 1) := by decide +kernel
theorem dX2_expected_62 : decode cX2_expected 62 = .ok (.iconst 4, 1) := by decide +kernel
theorem dX2_expected_63 : decode cX2_expected 63 = .ok (.sipush 909, 3) := by decide +kernel
theorem dX2_expected_66 : decode cX2_expected 66 = .ok (.iastore, 1) := by decide +kernel
theorem dX2_expected_67 : decode cX2_expected 67 = .ok (.dup, 1) := by decide +kernel
theorem dX2_expected_68 : decode cX2_expected 68 = .ok (.iconst 5, 1) := by decide +kernel
theorem dX2_expected_69 : decode cX2_expected 69 = .ok (.sipush 947, 3) := by decide +kernel
theorem dX2_expected_72 : decode cX2_expected 72 = .ok (.iastore, 1) := by decide +kernel
theorem dX2_expected_73 : decode cX2_expected 73 = .ok (.dup, 1) := by decide +kernel
theorem dX2_expected_74 : decode cX2_expected 74 = .ok (.bipush 6, 2) := by decide +kernel
theorem dX2_expected_76 : decode cX2_expected 76 = .ok (.sipush 969, 3) := by decide +kernel
theorem dX2_expected_79 : decode cX2_expected 79 = .ok (.iastore, 1) := by decide +kernel
theorem dX2_expected_80 : decode cX2_expected 80 = .ok (.dup, 1) := by decide +kernel
theorem dX2_expected_81 : decode cX2_expected 81 = .ok (.bipush 7, 2) := by decide +kernel
theorem dX2_expected_83 : decode cX2_expected 83 = .ok (.sipush 983, 3) := by decide +kernel
theorem dX2_expected_86 : decode cX2_expected 86 = .ok (.iastore, 1) := by decide +kernel
theorem dX2_expected_87 : decode cX2_expected 87 = .ok (.dup, 1) := by decide +kernel
theorem dX2_expected_88 : decode cX2_expected 88 = .ok (.bipush 8, 2) := by decide +kernel
theorem dX2_expected_90 : decode cX2_expected 90 = .ok (.sipush 990, 3) := by decide +kernel
theorem dX2_expected_93 : decode cX2_expected 93 = .ok (.iastore, 1) := by decide +kernel
theorem dX2_expected_94 : decode cX2_expected 94 = .ok (.astore 4, 2) := by decide +kernel
theorem dX2_expected_96 : decode cX2_expected 96 = .ok (.iload_n 3, 1) := by decide +kernel
theorem dX2_expected_97 : decode cX2_expected 97 = .ok (.sipush 800, 3) := by decide +kernel
theorem dX2_expected_100 : decode cX2_expected 100 = .ok (.if_icmp .lt 7, 3) := by decide +kernel
theorem dX2_expected_103 : decode cX2_expected 103 = .ok (.sipush 990, 3) := by decide +kernel
theorem dX2_expected_106 : decode cX2_expected 106 = .ok (.ireturn, 1) := by decide +kernel
theorem dX2_expected_107 : decode cX2_expected 107 = .ok (.aload 4, 2) := by decide +kernel
theorem dX2_expected_109 : decode cX2_expected 109 = .ok (.iload_n 3, 1) := by decide +kernel
theorem dX2_expected_110 : decode cX2_expected 110 = .ok (.bipush 100, 2) := by decide +kernel
theorem dX2_expected_112 : decode cX2_expected 112 = .ok (.idiv, 1) := by decide +kernel
theorem dX2_expected_113 : decode cX2_expected 113 = .ok (.iaload, 1) := by decide +kernel
theorem dX2_expected_114 : decode cX2_expected 114 = .ok (.istore 5, 2) := by decide +kernel
theorem dX2_expected_116 : decode cX2_expected 116 = .ok (.aload 4, 2) := by decide +kernel
theorem dX2_expected_118 : decode cX2_expected 118 = .ok (.iload_n 3, 1) := by decide +kernel
theorem dX2_expected_119 : decode cX2_expected 119 = .ok (.bipush 100, 2) := by decide +kernel
theorem dX2_expected_121 : decode cX2_expected 121 = .ok (.idiv, 1) := by decide +kernel
theorem dX2_expected_122 : decode cX2_expected 122 = .ok (.iconst 1, 1) := by decide +kernel
theorem dX2_expected_123 : decode cX2_expected 123 = .ok (.iadd, 1) := by decide +kernel
theorem dX2_expected_124 : decode cX2_expected 124 = .ok (.iaload, 1) := by decide +kernel
theorem dX2_expected_125 : decode cX2_expected 125 = .ok (.iload 5, 2) := by decide +kernel
theorem dX2_expected_127 : decode cX2_expected 127 = .ok (.isub, 1) := by decide +kernel
theorem dX2_expected_128 : decode cX2_expected 128 = .ok (.istore 6, 2) := by decide +kernel
theorem dX2_expected_130 : decode cX2_expected 130 = .ok (.iload 5, 2) := by decide +kernel
theorem dX2_expected_132 : decode cX2_expected 132 = .ok (.iload 6, 2) := by decide +kernel
theorem dX2_expected_134 : decode cX2_expected 134 = .ok (.iload_n 3, 1) := by decide +kernel
theorem dX2_expected_135 : decode cX2_expected 135 = .ok (.iload_n 3, 1) := by decide +kernel
theorem dX2_expected_136 : decode cX2_expected 136 = .ok (.bipush 100, 2) := by decide +kernel
theorem dX2_expected_138 : decode cX2_expected 138 = .ok (.idiv, 1) := by decide +kernel
theorem dX2_expected_139 : decode cX2_expected 139 = .ok (.bipush 100, 2) := by decide +kernel
theorem dX2_expected_141 : decode cX2_expected 141 = .ok (.imul, 1) := by decide +kernel
theorem dX2_expected_142 : decode cX2_expected 142 = .ok (.isub, 1) := by decide +kernel
theorem dX2_expected_143 : decode cX2_expected 143 = .ok (.imul, 1) := by decide +kernel
theorem dX2_expected_144 : decode cX2_expected 144 = .ok (.bipush 100, 2) := by decide +kernel
theorem dX2_expected_146 : decode cX2_expected 146 = .ok (.idiv, 1) := by decide +kernel
theorem dX2_expected_147 : decode cX2_expected 147 = .ok (.iadd, 1) := by decide +kernel
theorem dX2_expected_148 : decode cX2_expected 148 = .ok (.ireturn, 1) := by decide +kernel
theorem dX2_weight_0 : decode cX2_weight 0 = .ok (.aload_n 0, 1) := by decide +kernel
theorem dX2_weight_1 : decode cX2_weight 1 = .ok (.getfield 9, 3) := by decide +kernel
theorem dX2_weight_4 : decode cX2_weight 4 = .ok (.iload_n 1, 1) := by decide +kernel
theorem dX2_weight_5 : decode cX2_weight 5 = .ok (.aaload, 1) := by decide +kernel
theorem dX2_weight_6 : decode cX2_weight 6 = .ok (.iconst 3, 1) := by decide +kernel
theorem dX2_weight_7 : decode cX2_weight 7 = .ok (.iaload, 1) := by decide +kernel
theorem dX2_weight_8 : decode cX2_weight 8 = .ok (.bipush 10, 2) := by decide +kernel
theorem dX2_weight_10 : decode cX2_weight 10 = .ok (.if_icmp .ge 6, 3) := by decide +kernel
theorem dX2_weight_13 : decode cX2_weight 13 = .ok (.bipush 40, 2) := by decide +kernel
theorem dX2_weight_15 : decode cX2_weight 15 = .ok (.ireturn, 1) := by decide +kernel
theorem dX2_weight_16 : decode cX2_weight 16 = .ok (.aload_n 0, 1) := by decide +kernel
theorem dX2_weight_17 : decode cX2_weight 17 = .ok (.getfield 9, 3) := by decide +kernel
theorem dX2_weight_20 : decode cX2_weight 20 = .ok (.iload_n 1, 1) := by decide +kernel
theorem dX2_weight_21 : decode cX2_weight 21 = .ok (.aaload, 1) := by decide +kernel
theorem dX2_weight_22 : decode cX2_weight 22 = .ok (.iconst 0, 1) := by decide +kernel
theorem dX2_weight_23 : decode cX2_weight 23 = .ok (.iaload, 1) := by decide +kernel
theorem dX2_weight_24 : decode cX2_weight 24 = .ok (.sipush 2000, 3) := by decide +kernel
theorem dX2_weight_27 : decode cX2_weight 27 = .ok (.if_icmp .ge 8, 3) := by decide +kernel
theorem dX2_weight_30 : decode cX2_weight 30 = .ok (.bipush 20, 2) := by decide +kernel
theorem dX2_weight_32 : decode cX2_weight 32 = .ok (.goto 5, 3) := by decide +kernel
theorem dX2_weight_35 : decode cX2_weight 35 = .ok (.bipush 10, 2) := by decide +kernel
theorem dX2_weight_37 : decode cX2_weight 37 = .ok (.ireturn, 1) := by decide +kernel
set_option maxRecDepth 20000 in
theorem ggX2_change_X2_weight : GoodIn wsX2_change wsX2_weight := goodIn_r _ [6, 1, 12, 13, 14, 15] (by decide +kernel) (by decide +kernel)
set_option maxRecDepth 20000 in
theorem gX2_change_X2_weight : GoodIn wsX2_change (wsV RX2 19 RX2 yX2_weight wsX2_weight) := goodIn_app (goodIn_of _ (by decide +kernel)) ggX2_change_X2_weight
set_option maxRecDepth 20000 in
theorem ggX2_change_X2_expected : GoodIn wsX2_change wsX2_expected := goodIn_r _ [10, 1, 11, 7, 8, 9, 5, 12, 13, 14, 15] (by decide +kernel) (by decide +kernel)
set_option maxRecDepth 20000 in
theorem gX2_change_X2_expected : GoodIn wsX2_change (wsV RX2 15 RX2 yX2_expected wsX2_expected) := goodIn_app (goodIn_of _ (by decide +kernel)) ggX2_change_X2_expected
theorem dX2_change_0 : decode cX2_change 0 = .ok (.aload_n 0, 1) := by decide +kernel
theorem dX2_change_1 : decode cX2_change 1 = .ok (.iload_n 1, 1) := by decide +kernel
theorem dX2_change_2 : decode cX2_change 2 = .ok (.invokevirtual 19, 3) := by decide +kernel
theorem dX2_change_5 : decode cX2_change 5 = .ok (.iload_n 3, 1) := by decide +kernel
theorem dX2_change_6 : decode cX2_change 6 = .ok (.sipush 500, 3) := by decide +kernel
theorem dX2_change_9 : decode cX2_change 9 = .ok (.imul, 1) := by decide +kernel
theorem dX2_change_10 : decode cX2_change 10 = .ok (.aload_n 0, 1) := by decide +kernel
theorem dX2_change_11 : decode cX2_change 11 = .ok (.iload_n 1, 1) := by decide +kernel
theorem dX2_change_12 : decode cX2_change 12 = .ok (.iload_n 2, 1) := by decide +kernel
theorem dX2_change_13 : decode cX2_change 13 = .ok (.invokevirtual 15, 3) := by decide +kernel
theorem dX2_change_16 : decode cX2_change 16 = .ok (.isub, 1) := by decide +kernel
theorem dX2_change_17 : decode cX2_change 17 = .ok (.imul, 1) := by decide +kernel
theorem dX2_change_18 : decode cX2_change 18 = .ok (.sipush 1000, 3) := by decide +kernel
theorem dX2_change_21 : decode cX2_change 21 = .ok (.idiv, 1) := by decide +kernel
theorem dX2_change_22 : decode cX2_change 22 = .ok (.istore 4, 2) := by decide +kernel
theorem dX2_change_24 : decode cX2_change 24 = .ok (.aload_n 0, 1) := by decide +kernel
theorem dX2_change_25 : decode cX2_change 25 = .ok (.getfield 9, 3) := by decide +kernel
theorem dX2_change_28 : decode cX2_change 28 = .ok (.iload_n 1, 1) := by decide +kernel
theorem dX2_change_29 : decode cX2_change 29 = .ok (.aaload, 1) := by decide +kernel
theorem dX2_change_30 : decode cX2_change 30 = .ok (.iconst 0, 1) := by decide +kernel
theorem dX2_change_31 : decode cX2_change 31 = .ok (.iaload, 1) := by decide +kernel
theorem dX2_change_32 : decode cX2_change 32 = .ok (.iload 4, 2) := by decide +kernel
theorem dX2_change_34 : decode cX2_change 34 = .ok (.iadd, 1) := by decide +kernel
theorem dX2_change_35 : decode cX2_change 35 = .ok (.istore 5, 2) := by decide +kernel
theorem dX2_change_37 : decode cX2_change 37 = .ok (.iload 5, 2) := by decide +kernel
theorem dX2_change_39 : decode cX2_change 39 = .ok (.bipush 100, 2) := by decide +kernel
theorem dX2_change_41 : decode cX2_change 41 = .ok (.if_icmp .ge 7, 3) := by decide +kernel
theorem dX2_change_44 : decode cX2_change 44 = .ok (.bipush 100, 2) := by decide +kernel
theorem dX2_change_46 : decode cX2_change 46 = .ok (.istore 5, 2) := by decide +kernel
theorem dX2_change_48 : decode cX2_change 48 = .ok (.iload 5, 2) := by decide +kernel
theorem dX2_change_50 : decode cX2_change 50 = .ok (.sipush 3000, 3) := by decide +kernel
theorem dX2_change_53 : decode cX2_change 53 = .ok (.if_icmp .le 8, 3) := by decide +kernel
theorem dX2_change_56 : decode cX2_change 56 = .ok (.sipush 3000, 3) := by decide +kernel
theorem dX2_change_59 : decode cX2_change 59 = .ok (.istore 5, 2) := by decide +kernel
theorem dX2_change_61 : decode cX2_change 61 = .ok (.iload 5, 2) := by decide +kernel
theorem dX2_change_63 : decode cX2_change 63 = .ok (.aload_n 0, 1) := by decide +kernel
theorem dX2_change_64 : decode cX2_change 64 = .ok (.getfield 9, 3) := by decide +kernel
theorem dX2_change_67 : decode cX2_change 67 = .ok (.iload_n 1, 1) := by decide +kernel
theorem dX2_change_68 : decode cX2_change 68 = .ok (.aaload, 1) := by decide +kernel
theorem dX2_change_69 : decode cX2_change 69 = .ok (.iconst 0, 1) := by decide +kernel
theorem dX2_change_70 : decode cX2_change 70 = .ok (.iaload, 1) := by decide +kernel
theorem dX2_change_71 : decode cX2_change 71 = .ok (.isub, 1) := by decide +kernel
theorem dX2_change_72 : decode cX2_change 72 = .ok (.ireturn, 1) := by decide +kernel
theorem dX2_raise_0 : decode cX2_raise 0 = .ok (.aload_n 0, 1) := by decide +kernel
theorem dX2_raise_1 : decode cX2_raise 1 = .ok (.getfield 9, 3) := by decide +kernel
theorem dX2_raise_4 : decode cX2_raise 4 = .ok (.iload_n 1, 1) := by decide +kernel
theorem dX2_raise_5 : decode cX2_raise 5 = .ok (.aaload, 1) := by decide +kernel
theorem dX2_raise_6 : decode cX2_raise 6 = .ok (.iconst 0, 1) := by decide +kernel
theorem dX2_raise_7 : decode cX2_raise 7 = .ok (.dup2, 1) := by decide +kernel
theorem dX2_raise_8 : decode cX2_raise 8 = .ok (.iaload, 1) := by decide +kernel
theorem dX2_raise_9 : decode cX2_raise 9 = .ok (.iload_n 2, 1) := by decide +kernel
theorem dX2_raise_10 : decode cX2_raise 10 = .ok (.iadd, 1) := by decide +kernel
theorem dX2_raise_11 : decode cX2_raise 11 = .ok (.iastore, 1) := by decide +kernel
theorem dX2_raise_12 : decode cX2_raise 12 = .ok (.aload_n 0, 1) := by decide +kernel
theorem dX2_raise_13 : decode cX2_raise 13 = .ok (.getfield 9, 3) := by decide +kernel
theorem dX2_raise_16 : decode cX2_raise 16 = .ok (.iload_n 1, 1) := by decide +kernel
theorem dX2_raise_17 : decode cX2_raise 17 = .ok (.aaload, 1) := by decide +kernel
theorem dX2_raise_18 : decode cX2_raise 18 = .ok (.iconst 0, 1) := by decide +kernel
theorem dX2_raise_19 : decode cX2_raise 19 = .ok (.iaload, 1) := by decide +kernel
theorem dX2_raise_20 : decode cX2_raise 20 = .ok (.aload_n 0, 1) := by decide +kernel
theorem dX2_raise_21 : decode cX2_raise 21 = .ok (.getfield 9, 3) := by decide +kernel
theorem dX2_raise_24 : decode cX2_raise 24 = .ok (.iload_n 1, 1) := by decide +kernel
theorem dX2_raise_25 : decode cX2_raise 25 = .ok (.aaload, 1) := by decide +kernel
theorem dX2_raise_26 : decode cX2_raise 26 = .ok (.bipush 6, 2) := by decide +kernel
theorem dX2_raise_28 : decode cX2_raise 28 = .ok (.iaload, 1) := by decide +kernel
theorem dX2_raise_29 : decode cX2_raise 29 = .ok (.if_icmp .le 20, 3) := by decide +kernel
theorem dX2_raise_32 : decode cX2_raise 32 = .ok (.aload_n 0, 1) := by decide +kernel
theorem dX2_raise_33 : decode cX2_raise 33 = .ok (.getfield 9, 3) := by decide +kernel
theorem dX2_raise_36 : decode cX2_raise 36 = .ok (.iload_n 1, 1) := by decide +kernel
theorem dX2_raise_37 : decode cX2_raise 37 = .ok (.aaload, 1) := by decide +kernel
theorem dX2_raise_38 : decode cX2_raise 38 = .ok (.bipush 6, 2) := by decide +kernel
theorem dX2_raise_40 : decode cX2_raise 40 = .ok (.aload_n 0, 1) := by decide +kernel
theorem dX2_raise_41 : decode cX2_raise 41 = .ok (.getfield 9, 3) := by decide +kernel
theorem dX2_raise_44 : decode cX2_raise 44 = .ok (.iload_n 1, 1) := by decide +kernel
theorem dX2_raise_45 : decode cX2_raise 45 = .ok (.aaload, 1) := by decide +kernel
theorem dX2_raise_46 : decode cX2_raise 46 = .ok (.iconst 0, 1) := by decide +kernel
theorem dX2_raise_47 : decode cX2_raise 47 = .ok (.iaload, 1) := by decide +kernel
theorem dX2_raise_48 : decode cX2_raise 48 = .ok (.iastore, 1) := by decide +kernel
theorem dX2_raise_49 : decode cX2_raise 49 = .ok (.return_, 1) := by decide +kernel
theorem dX2_note_0 : decode cX2_note 0 = .ok (.aload_n 0, 1) := by decide +kernel
theorem dX2_note_1 : decode cX2_note 1 = .ok (.getfield 9, 3) := by decide +kernel
theorem dX2_note_4 : decode cX2_note 4 = .ok (.iload_n 1, 1) := by decide +kernel
theorem dX2_note_5 : decode cX2_note 5 = .ok (.aaload, 1) := by decide +kernel
theorem dX2_note_6 : decode cX2_note 6 = .ok (.iconst 2, 1) := by decide +kernel
theorem dX2_note_7 : decode cX2_note 7 = .ok (.dup2, 1) := by decide +kernel
theorem dX2_note_8 : decode cX2_note 8 = .ok (.iaload, 1) := by decide +kernel
theorem dX2_note_9 : decode cX2_note 9 = .ok (.iload_n 2, 1) := by decide +kernel
theorem dX2_note_10 : decode cX2_note 10 = .ok (.iadd, 1) := by decide +kernel
theorem dX2_note_11 : decode cX2_note 11 = .ok (.iastore, 1) := by decide +kernel
theorem dX2_note_12 : decode cX2_note 12 = .ok (.aload_n 0, 1) := by decide +kernel
theorem dX2_note_13 : decode cX2_note 13 = .ok (.getfield 9, 3) := by decide +kernel
theorem dX2_note_16 : decode cX2_note 16 = .ok (.iload_n 1, 1) := by decide +kernel
theorem dX2_note_17 : decode cX2_note 17 = .ok (.aaload, 1) := by decide +kernel
theorem dX2_note_18 : decode cX2_note 18 = .ok (.iconst 3, 1) := by decide +kernel
theorem dX2_note_19 : decode cX2_note 19 = .ok (.dup2, 1) := by decide +kernel
theorem dX2_note_20 : decode cX2_note 20 = .ok (.iaload, 1) := by decide +kernel
theorem dX2_note_21 : decode cX2_note 21 = .ok (.iconst 1, 1) := by decide +kernel
theorem dX2_note_22 : decode cX2_note 22 = .ok (.iadd, 1) := by decide +kernel
theorem dX2_note_23 : decode cX2_note 23 = .ok (.iastore, 1) := by decide +kernel
theorem dX2_note_24 : decode cX2_note 24 = .ok (.aload_n 0, 1) := by decide +kernel
theorem dX2_note_25 : decode cX2_note 25 = .ok (.getfield 9, 3) := by decide +kernel
theorem dX2_note_28 : decode cX2_note 28 = .ok (.iload_n 1, 1) := by decide +kernel
theorem dX2_note_29 : decode cX2_note 29 = .ok (.aaload, 1) := by decide +kernel
theorem dX2_note_30 : decode cX2_note 30 = .ok (.iconst 4, 1) := by decide +kernel
theorem dX2_note_31 : decode cX2_note 31 = .ok (.dup2, 1) := by decide +kernel
theorem dX2_note_32 : decode cX2_note 32 = .ok (.iaload, 1) := by decide +kernel
theorem dX2_note_33 : decode cX2_note 33 = .ok (.iconst 1, 1) := by decide +kernel
theorem dX2_note_34 : decode cX2_note 34 = .ok (.iadd, 1) := by decide +kernel
theorem dX2_note_35 : decode cX2_note 35 = .ok (.iastore, 1) := by decide +kernel
theorem dX2_note_36 : decode cX2_note 36 = .ok (.aload_n 0, 1) := by decide +kernel
theorem dX2_note_37 : decode cX2_note 37 = .ok (.getfield 9, 3) := by decide +kernel
theorem dX2_note_40 : decode cX2_note 40 = .ok (.iload_n 1, 1) := by decide +kernel
theorem dX2_note_41 : decode cX2_note 41 = .ok (.aaload, 1) := by decide +kernel
theorem dX2_note_42 : decode cX2_note 42 = .ok (.iconst 5, 1) := by decide +kernel
theorem dX2_note_43 : decode cX2_note 43 = .ok (.iload_n 2, 1) := by decide +kernel
theorem dX2_note_44 : decode cX2_note 44 = .ok (.iconst 2, 1) := by decide +kernel
theorem dX2_note_45 : decode cX2_note 45 = .ok (.if_icmp .ge 7, 3) := by decide +kernel
theorem dX2_note_48 : decode cX2_note 48 = .ok (.iconst 0, 1) := by decide +kernel
theorem dX2_note_49 : decode cX2_note 49 = .ok (.goto 13, 3) := by decide +kernel
theorem dX2_note_52 : decode cX2_note 52 = .ok (.aload_n 0, 1) := by decide +kernel
theorem dX2_note_53 : decode cX2_note 53 = .ok (.getfield 9, 3) := by decide +kernel
theorem dX2_note_56 : decode cX2_note 56 = .ok (.iload_n 1, 1) := by decide +kernel
theorem dX2_note_57 : decode cX2_note 57 = .ok (.aaload, 1) := by decide +kernel
theorem dX2_note_58 : decode cX2_note 58 = .ok (.iconst 5, 1) := by decide +kernel
theorem dX2_note_59 : decode cX2_note 59 = .ok (.iaload, 1) := by decide +kernel
theorem dX2_note_60 : decode cX2_note 60 = .ok (.iconst 1, 1) := by decide +kernel
theorem dX2_note_61 : decode cX2_note 61 = .ok (.iadd, 1) := by decide +kernel
theorem dX2_note_62 : decode cX2_note 62 = .ok (.iastore, 1) := by decide +kernel
theorem dX2_note_63 : decode cX2_note 63 = .ok (.return_, 1) := by decide +kernel
set_option maxRecDepth 20000 in
theorem ggX2_bout_X2_change : GoodIn wsX2_bout wsX2_change := goodIn_r _ [7, 8, 9, 10, 11, 6, 12, 13, 14, 15, 16, 17, 26, 27, 28, 29] (by decide +kernel) (by decide +kernel)
set_option maxRecDepth 20000 in
theorem gX2_bout_X2_change : GoodIn wsX2_bout (wsV RX2 23 RX2 yX2_change wsX2_change) := goodIn_app (goodIn_of _ (by decide +kernel)) ggX2_bout_X2_change
set_option maxRecDepth 20000 in
theorem ggX2_bout_X2_expected : GoodIn wsX2_bout wsX2_expected := goodIn_r _ [16, 8, 17, 13, 14, 15, 6, 26, 27, 28, 29] (by decide +kernel) (by decide +kernel)
set_option maxRecDepth 20000 in
theorem gX2_bout_X2_expected : GoodIn wsX2_bout (wsV RX2 15 RX2 yX2_expected wsX2_expected) := goodIn_app (goodIn_of _ (by decide +kernel)) ggX2_bout_X2_expected
set_option maxRecDepth 20000 in
theorem ggX2_bout_X2_raise : GoodIn wsX2_bout wsX2_raise := goodIn_r _ [21, 8, 26, 27, 28, 29] (by decide +kernel) (by decide +kernel)
set_option maxRecDepth 20000 in
theorem gX2_bout_X2_raise : GoodIn wsX2_bout (wsV RX2 31 RX2 yX2_raise wsX2_raise) := goodIn_app (goodIn_of _ (by decide +kernel)) ggX2_bout_X2_raise
set_option maxRecDepth 20000 in
theorem ggX2_bout_X2_note : GoodIn wsX2_bout wsX2_note := goodIn_r _ [25, 8, 26, 27, 28, 29] (by decide +kernel) (by decide +kernel)
set_option maxRecDepth 20000 in
theorem gX2_bout_X2_note : GoodIn wsX2_bout (wsV RX2 35 RX2 yX2_note wsX2_note) := goodIn_app (goodIn_of _ (by decide +kernel)) ggX2_bout_X2_note
theorem dX2_bout_0 : decode cX2_bout 0 = .ok (.aload_n 0, 1) := by decide +kernel
theorem dX2_bout_1 : decode cX2_bout 1 = .ok (.iload_n 1, 1) := by decide +kernel
theorem dX2_bout_2 : decode cX2_bout 2 = .ok (.iload_n 2, 1) := by decide +kernel
theorem dX2_bout_3 : decode cX2_bout 3 = .ok (.iload_n 3, 1) := by decide +kernel
theorem dX2_bout_4 : decode cX2_bout 4 = .ok (.invokevirtual 23, 3) := by decide +kernel
theorem dX2_bout_7 : decode cX2_bout 7 = .ok (.istore 4, 2) := by decide +kernel
theorem dX2_bout_9 : decode cX2_bout 9 = .ok (.aload_n 0, 1) := by decide +kernel
theorem dX2_bout_10 : decode cX2_bout 10 = .ok (.iload_n 2, 1) := by decide +kernel
theorem dX2_bout_11 : decode cX2_bout 11 = .ok (.iload_n 1, 1) := by decide +kernel
theorem dX2_bout_12 : decode cX2_bout 12 = .ok (.iconst 2, 1) := by decide +kernel
theorem dX2_bout_13 : decode cX2_bout 13 = .ok (.iload_n 3, 1) := by decide +kernel
theorem dX2_bout_14 : decode cX2_bout 14 = .ok (.isub, 1) := by decide +kernel
theorem dX2_bout_15 : decode cX2_bout 15 = .ok (.invokevirtual 23, 3) := by decide +kernel
theorem dX2_bout_18 : decode cX2_bout 18 = .ok (.istore 5, 2) := by decide +kernel
theorem dX2_bout_20 : decode cX2_bout 20 = .ok (.iload_n 3, 1) := by decide +kernel
theorem dX2_bout_21 : decode cX2_bout 21 = .ok (.iconst 2, 1) := by decide +kernel
theorem dX2_bout_22 : decode cX2_bout 22 = .ok (.if_icmp .ne 15, 3) := by decide +kernel
theorem dX2_bout_25 : decode cX2_bout 25 = .ok (.aload_n 0, 1) := by decide +kernel
theorem dX2_bout_26 : decode cX2_bout 26 = .ok (.iload_n 1, 1) := by decide +kernel
theorem dX2_bout_27 : decode cX2_bout 27 = .ok (.iload_n 2, 1) := by decide +kernel
theorem dX2_bout_28 : decode cX2_bout 28 = .ok (.invokevirtual 15, 3) := by decide +kernel
theorem dX2_bout_31 : decode cX2_bout 31 = .ok (.sipush 400, 3) := by decide +kernel
theorem dX2_bout_34 : decode cX2_bout 34 = .ok (.if_icmp .lt 19, 3) := by decide +kernel
theorem dX2_bout_37 : decode cX2_bout 37 = .ok (.iload_n 3, 1) := by decide +kernel
theorem dX2_bout_38 : decode cX2_bout 38 = .ok (.ifCond .ne 25, 3) := by decide +kernel
theorem dX2_bout_41 : decode cX2_bout 41 = .ok (.aload_n 0, 1) := by decide +kernel
theorem dX2_bout_42 : decode cX2_bout 42 = .ok (.iload_n 2, 1) := by decide +kernel
theorem dX2_bout_43 : decode cX2_bout 43 = .ok (.iload_n 1, 1) := by decide +kernel
theorem dX2_bout_44 : decode cX2_bout 44 = .ok (.invokevirtual 15, 3) := by decide +kernel
theorem dX2_bout_47 : decode cX2_bout 47 = .ok (.sipush 400, 3) := by decide +kernel
theorem dX2_bout_50 : decode cX2_bout 50 = .ok (.if_icmp .ge 13, 3) := by decide +kernel
theorem dX2_bout_53 : decode cX2_bout 53 = .ok (.aload_n 0, 1) := by decide +kernel
theorem dX2_bout_54 : decode cX2_bout 54 = .ok (.dup, 1) := by decide +kernel
theorem dX2_bout_55 : decode cX2_bout 55 = .ok (.getfield 27, 3) := by decide +kernel
theorem dX2_bout_58 : decode cX2_bout 58 = .ok (.iconst 1, 1) := by decide +kernel
theorem dX2_bout_59 : decode cX2_bout 59 = .ok (.iadd, 1) := by decide +kernel
theorem dX2_bout_60 : decode cX2_bout 60 = .ok (.putfield 27, 3) := by decide +kernel
theorem dX2_bout_63 : decode cX2_bout 63 = .ok (.aload_n 0, 1) := by decide +kernel
theorem dX2_bout_64 : decode cX2_bout 64 = .ok (.iload_n 1, 1) := by decide +kernel
theorem dX2_bout_65 : decode cX2_bout 65 = .ok (.iload 4, 2) := by decide +kernel
theorem dX2_bout_67 : decode cX2_bout 67 = .ok (.invokevirtual 31, 3) := by decide +kernel
theorem dX2_bout_70 : decode cX2_bout 70 = .ok (.aload_n 0, 1) := by decide +kernel
theorem dX2_bout_71 : decode cX2_bout 71 = .ok (.iload_n 2, 1) := by decide +kernel
theorem dX2_bout_72 : decode cX2_bout 72 = .ok (.iload 5, 2) := by decide +kernel
theorem dX2_bout_74 : decode cX2_bout 74 = .ok (.invokevirtual 31, 3) := by decide +kernel
theorem dX2_bout_77 : decode cX2_bout 77 = .ok (.aload_n 0, 1) := by decide +kernel
theorem dX2_bout_78 : decode cX2_bout 78 = .ok (.iload_n 1, 1) := by decide +kernel
theorem dX2_bout_79 : decode cX2_bout 79 = .ok (.iload_n 3, 1) := by decide +kernel
theorem dX2_bout_80 : decode cX2_bout 80 = .ok (.invokevirtual 35, 3) := by decide +kernel
theorem dX2_bout_83 : decode cX2_bout 83 = .ok (.aload_n 0, 1) := by decide +kernel
theorem dX2_bout_84 : decode cX2_bout 84 = .ok (.iload_n 2, 1) := by decide +kernel
theorem dX2_bout_85 : decode cX2_bout 85 = .ok (.iconst 2, 1) := by decide +kernel
theorem dX2_bout_86 : decode cX2_bout 86 = .ok (.iload_n 3, 1) := by decide +kernel
theorem dX2_bout_87 : decode cX2_bout 87 = .ok (.isub, 1) := by decide +kernel
theorem dX2_bout_88 : decode cX2_bout 88 = .ok (.invokevirtual 35, 3) := by decide +kernel
theorem dX2_bout_91 : decode cX2_bout 91 = .ok (.aload_n 0, 1) := by decide +kernel
theorem dX2_bout_92 : decode cX2_bout 92 = .ok (.dup, 1) := by decide +kernel
theorem dX2_bout_93 : decode cX2_bout 93 = .ok (.getfield 38, 3) := by decide +kernel
theorem dX2_bout_96 : decode cX2_bout 96 = .ok (.iconst 1, 1) := by decide +kernel
theorem dX2_bout_97 : decode cX2_bout 97 = .ok (.iadd, 1) := by decide +kernel
theorem dX2_bout_98 : decode cX2_bout 98 = .ok (.putfield 38, 3) := by decide +kernel
theorem dX2_bout_101 : decode cX2_bout 101 = .ok (.iload 4, 2) := by decide +kernel
theorem dX2_bout_103 : decode cX2_bout 103 = .ok (.ireturn, 1) := by decide +kernel
theorem dX2_order_0 : decode cX2_order 0 = .ok (.iconst 0, 1) := by decide +kernel
theorem dX2_order_1 : decode cX2_order 1 = .ok (.istore_n 2, 1) := by decide +kernel
theorem dX2_order_2 : decode cX2_order 2 = .ok (.aload_n 0, 1) := by decide +kernel
theorem dX2_order_3 : decode cX2_order 3 = .ok (.getfield 9, 3) := by decide +kernel
theorem dX2_order_6 : decode cX2_order 6 = .ok (.astore_n 3, 1) := by decide +kernel
theorem dX2_order_7 : decode cX2_order 7 = .ok (.aload_n 3, 1) := by decide +kernel
theorem dX2_order_8 : decode cX2_order 8 = .ok (.arraylength, 1) := by decide +kernel
theorem dX2_order_9 : decode cX2_order 9 = .ok (.istore 4, 2) := by decide +kernel
theorem dX2_order_11 : decode cX2_order 11 = .ok (.iconst 0, 1) := by decide +kernel
theorem dX2_order_12 : decode cX2_order 12 = .ok (.istore 5, 2) := by decide +kernel
theorem dX2_order_14 : decode cX2_order 14 = .ok (.iload 5, 2) := by decide +kernel
theorem dX2_order_16 : decode cX2_order 16 = .ok (.iload 4, 2) := by decide +kernel
theorem dX2_order_18 : decode cX2_order 18 = .ok (.if_icmp .ge 31, 3) := by decide +kernel
theorem dX2_order_21 : decode cX2_order 21 = .ok (.aload_n 3, 1) := by decide +kernel
theorem dX2_order_22 : decode cX2_order 22 = .ok (.iload 5, 2) := by decide +kernel
theorem dX2_order_24 : decode cX2_order 24 = .ok (.aaload, 1) := by decide +kernel
theorem dX2_order_25 : decode cX2_order 25 = .ok (.astore 6, 2) := by decide +kernel
theorem dX2_order_27 : decode cX2_order 27 = .ok (.iload_n 2, 1) := by decide +kernel
theorem dX2_order_28 : decode cX2_order 28 = .ok (.aload 6, 2) := by decide +kernel
theorem dX2_order_30 : decode cX2_order 30 = .ok (.iconst 1, 1) := by decide +kernel
theorem dX2_order_31 : decode cX2_order 31 = .ok (.iaload, 1) := by decide +kernel
theorem dX2_order_32 : decode cX2_order 32 = .ok (.iload_n 1, 1) := by decide +kernel
theorem dX2_order_33 : decode cX2_order 33 = .ok (.if_icmp .ne 7, 3) := by decide +kernel
theorem dX2_order_36 : decode cX2_order 36 = .ok (.iconst 1, 1) := by decide +kernel
theorem dX2_order_37 : decode cX2_order 37 = .ok (.goto 4, 3) := by decide +kernel
theorem dX2_order_40 : decode cX2_order 40 = .ok (.iconst 0, 1) := by decide +kernel
theorem dX2_order_41 : decode cX2_order 41 = .ok (.iadd, 1) := by decide +kernel
theorem dX2_order_42 : decode cX2_order 42 = .ok (.istore_n 2, 1) := by decide +kernel
theorem dX2_order_43 : decode cX2_order 43 = .ok (.iinc 5 1, 3) := by decide +kernel
theorem dX2_order_46 : decode cX2_order 46 = .ok (.goto (-32), 3) := by decide +kernel
theorem dX2_order_49 : decode cX2_order 49 = .ok (.iload_n 2, 1) := by decide +kernel
theorem dX2_order_50 : decode cX2_order 50 = .ok (.newarray .int, 2) := by decide +kernel
theorem dX2_order_52 : decode cX2_order 52 = .ok (.astore_n 3, 1) := by decide +kernel
theorem dX2_order_53 : decode cX2_order 53 = .ok (.iconst 0, 1) := by decide +kernel
theorem dX2_order_54 : decode cX2_order 54 = .ok (.istore 4, 2) := by decide +kernel
theorem dX2_order_56 : decode cX2_order 56 = .ok (.iconst 0, 1) := by decide +kernel
theorem dX2_order_57 : decode cX2_order 57 = .ok (.istore 5, 2) := by decide +kernel
theorem dX2_order_59 : decode cX2_order 59 = .ok (.iload 5, 2) := by decide +kernel
theorem dX2_order_61 : decode cX2_order 61 = .ok (.aload_n 0, 1) := by decide +kernel
theorem dX2_order_62 : decode cX2_order 62 = .ok (.getfield 9, 3) := by decide +kernel
theorem dX2_order_65 : decode cX2_order 65 = .ok (.arraylength, 1) := by decide +kernel
theorem dX2_order_66 : decode cX2_order 66 = .ok (.if_icmp .ge 134, 3) := by decide +kernel
theorem dX2_order_69 : decode cX2_order 69 = .ok (.aload_n 0, 1) := by decide +kernel
theorem dX2_order_70 : decode cX2_order 70 = .ok (.getfield 9, 3) := by decide +kernel
theorem dX2_order_73 : decode cX2_order 73 = .ok (.iload 5, 2) := by decide +kernel
theorem dX2_order_75 : decode cX2_order 75 = .ok (.aaload, 1) := by decide +kernel
theorem dX2_order_76 : decode cX2_order 76 = .ok (.iconst 1, 1) := by decide +kernel
theorem dX2_order_77 : decode cX2_order 77 = .ok (.iaload, 1) := by decide +kernel
theorem dX2_order_78 : decode cX2_order 78 = .ok (.iload_n 1, 1) := by decide +kernel
theorem dX2_order_79 : decode cX2_order 79 = .ok (.if_icmp .eq 6, 3) := by decide +kernel
theorem dX2_order_82 : decode cX2_order 82 = .ok (.goto 112, 3) := by decide +kernel
theorem dX2_order_85 : decode cX2_order 85 = .ok (.iload 4, 2) := by decide +kernel
theorem dX2_order_87 : decode cX2_order 87 = .ok (.istore 6, 2) := by decide +kernel
theorem dX2_order_89 : decode cX2_order 89 = .ok (.iload 6, 2) := by decide +kernel
theorem dX2_order_91 : decode cX2_order 91 = .ok (.ifCond .le 94, 3) := by decide +kernel
theorem dX2_order_94 : decode cX2_order 94 = .ok (.aload_n 0, 1) := by decide +kernel
theorem dX2_order_95 : decode cX2_order 95 = .ok (.getfield 9, 3) := by decide +kernel
theorem dX2_order_98 : decode cX2_order 98 = .ok (.aload_n 3, 1) := by decide +kernel
theorem dX2_order_99 : decode cX2_order 99 = .ok (.iload 6, 2) := by decide +kernel
theorem dX2_order_101 : decode cX2_order 101 = .ok (.iconst 1, 1) := by decide +kernel
theorem dX2_order_102 : decode cX2_order 102 = .ok (.isub, 1) := by decide +kernel
theorem dX2_order_103 : decode cX2_order 103 = .ok (.iaload, 1) := by decide +kernel
theorem dX2_order_104 : decode cX2_order 104 = .ok (.aaload, 1) := by decide +kernel
theorem dX2_order_105 : decode cX2_order 105 = .ok (.iconst 2, 1) := by decide +kernel
theorem dX2_order_106 : decode cX2_order 106 = .ok (.iaload, 1) := by decide +kernel
theorem dX2_order_107 : decode cX2_order 107 = .ok (.aload_n 0, 1) := by decide +kernel
theorem dX2_order_108 : decode cX2_order 108 = .ok (.getfield 9, 3) := by decide +kernel
theorem dX2_order_111 : decode cX2_order 111 = .ok (.iload 5, 2) := by decide +kernel
theorem dX2_order_113 : decode cX2_order 113 = .ok (.aaload, 1) := by decide +kernel
theorem dX2_order_114 : decode cX2_order 114 = .ok (.iconst 2, 1) := by decide +kernel
theorem dX2_order_115 : decode cX2_order 115 = .ok (.iaload, 1) := by decide +kernel
theorem dX2_order_116 : decode cX2_order 116 = .ok (.if_icmp .lt 53, 3) := by decide +kernel
theorem dX2_order_119 : decode cX2_order 119 = .ok (.aload_n 0, 1) := by decide +kernel
theorem dX2_order_120 : decode cX2_order 120 = .ok (.getfield 9, 3) := by decide +kernel
theorem dX2_order_123 : decode cX2_order 123 = .ok (.aload_n 3, 1) := by decide +kernel
theorem dX2_order_124 : decode cX2_order 124 = .ok (.iload 6, 2) := by decide +kernel
theorem dX2_order_126 : decode cX2_order 126 = .ok (.iconst 1, 1) := by decide +kernel
theorem dX2_order_127 : decode cX2_order 127 = .ok (.isub, 1) := by decide +kernel
theorem dX2_order_128 : decode cX2_order 128 = .ok (.iaload, 1) := by decide +kernel
theorem dX2_order_129 : decode cX2_order 129 = .ok (.aaload, 1) := by decide +kernel
theorem dX2_order_130 : decode cX2_order 130 = .ok (.iconst 2, 1) := by decide +kernel
theorem dX2_order_131 : decode cX2_order 131 = .ok (.iaload, 1) := by decide +kernel
theorem dX2_order_132 : decode cX2_order 132 = .ok (.aload_n 0, 1) := by decide +kernel
theorem dX2_order_133 : decode cX2_order 133 = .ok (.getfield 9, 3) := by decide +kernel
theorem dX2_order_136 : decode cX2_order 136 = .ok (.iload 5, 2) := by decide +kernel
theorem dX2_order_138 : decode cX2_order 138 = .ok (.aaload, 1) := by decide +kernel
theorem dX2_order_139 : decode cX2_order 139 = .ok (.iconst 2, 1) := by decide +kernel
theorem dX2_order_140 : decode cX2_order 140 = .ok (.iaload, 1) := by decide +kernel
theorem dX2_order_141 : decode cX2_order 141 = .ok (.if_icmp .ne 44, 3) := by decide +kernel
theorem dX2_order_144 : decode cX2_order 144 = .ok (.aload_n 0, 1) := by decide +kernel
theorem dX2_order_145 : decode cX2_order 145 = .ok (.getfield 9, 3) := by decide +kernel
theorem dX2_order_148 : decode cX2_order 148 = .ok (.aload_n 3, 1) := by decide +kernel
theorem dX2_order_149 : decode cX2_order 149 = .ok (.iload 6, 2) := by decide +kernel
theorem dX2_order_151 : decode cX2_order 151 = .ok (.iconst 1, 1) := by decide +kernel
theorem dX2_order_152 : decode cX2_order 152 = .ok (.isub, 1) := by decide +kernel
theorem dX2_order_153 : decode cX2_order 153 = .ok (.iaload, 1) := by decide +kernel
theorem dX2_order_154 : decode cX2_order 154 = .ok (.aaload, 1) := by decide +kernel
theorem dX2_order_155 : decode cX2_order 155 = .ok (.iconst 0, 1) := by decide +kernel
theorem dX2_order_156 : decode cX2_order 156 = .ok (.iaload, 1) := by decide +kernel
theorem dX2_order_157 : decode cX2_order 157 = .ok (.aload_n 0, 1) := by decide +kernel
theorem dX2_order_158 : decode cX2_order 158 = .ok (.getfield 9, 3) := by decide +kernel
theorem dX2_order_161 : decode cX2_order 161 = .ok (.iload 5, 2) := by decide +kernel
theorem dX2_order_163 : decode cX2_order 163 = .ok (.aaload, 1) := by decide +kernel
theorem dX2_order_164 : decode cX2_order 164 = .ok (.iconst 0, 1) := by decide +kernel
theorem dX2_order_165 : decode cX2_order 165 = .ok (.iaload, 1) := by decide +kernel
theorem dX2_order_166 : decode cX2_order 166 = .ok (.if_icmp .ge 19, 3) := by decide +kernel
theorem dX2_order_169 : decode cX2_order 169 = .ok (.aload_n 3, 1) := by decide +kernel
theorem dX2_order_170 : decode cX2_order 170 = .ok (.iload 6, 2) := by decide +kernel
theorem dX2_order_172 : decode cX2_order 172 = .ok (.aload_n 3, 1) := by decide +kernel
theorem dX2_order_173 : decode cX2_order 173 = .ok (.iload 6, 2) := by decide +kernel
theorem dX2_order_175 : decode cX2_order 175 = .ok (.iconst 1, 1) := by decide +kernel
theorem dX2_order_176 : decode cX2_order 176 = .ok (.isub, 1) := by decide +kernel
theorem dX2_order_177 : decode cX2_order 177 = .ok (.iaload, 1) := by decide +kernel
theorem dX2_order_178 : decode cX2_order 178 = .ok (.iastore, 1) := by decide +kernel
theorem dX2_order_179 : decode cX2_order 179 = .ok (.iinc 6 (-1), 3) := by decide +kernel
theorem dX2_order_182 : decode cX2_order 182 = .ok (.goto (-93), 3) := by decide +kernel
theorem dX2_order_185 : decode cX2_order 185 = .ok (.aload_n 3, 1) := by decide +kernel
theorem dX2_order_186 : decode cX2_order 186 = .ok (.iload 6, 2) := by decide +kernel
theorem dX2_order_188 : decode cX2_order 188 = .ok (.iload 5, 2) := by decide +kernel
theorem dX2_order_190 : decode cX2_order 190 = .ok (.iastore, 1) := by decide +kernel
theorem dX2_order_191 : decode cX2_order 191 = .ok (.iinc 4 1, 3) := by decide +kernel
theorem dX2_order_194 : decode cX2_order 194 = .ok (.iinc 5 1, 3) := by decide +kernel
theorem dX2_order_197 : decode cX2_order 197 = .ok (.goto (-138), 3) := by decide +kernel
theorem dX2_order_200 : decode cX2_order 200 = .ok (.aload_n 3, 1) := by decide +kernel
theorem dX2_order_201 : decode cX2_order 201 = .ok (.areturn, 1) := by decide +kernel
set_option maxRecDepth 20000 in
theorem ggX2_end_X2_raise : GoodIn wsX2_end wsX2_raise := goodIn_r _ [7, 1, 13, 14, 15, 16] (by decide +kernel) (by decide +kernel)
set_option maxRecDepth 20000 in
theorem gX2_end_X2_raise : GoodIn wsX2_end (wsV RX2 31 RX2 yX2_raise wsX2_raise) := goodIn_app (goodIn_of _ (by decide +kernel)) ggX2_end_X2_raise
set_option maxRecDepth 20000 in
theorem ggX2_end_X2_order : GoodIn wsX2_end wsX2_order := goodIn_r _ [11, 1, 12, 13, 14, 15, 16] (by decide +kernel) (by decide +kernel)
set_option maxRecDepth 20000 in
theorem gX2_end_X2_order : GoodIn wsX2_end (wsV RX2 41 RX2 yX2_order wsX2_order) := goodIn_app (goodIn_of _ (by decide +kernel)) ggX2_end_X2_order
theorem dX2_end_0 : decode cX2_end 0 = .ok (.iconst 0, 1) := by decide +kernel
theorem dX2_end_1 : decode cX2_end 1 = .ok (.istore_n 1, 1) := by decide +kernel
theorem dX2_end_2 : decode cX2_end 2 = .ok (.iload_n 1, 1) := by decide +kernel
theorem dX2_end_3 : decode cX2_end 3 = .ok (.aload_n 0, 1) := by decide +kernel
theorem dX2_end_4 : decode cX2_end 4 = .ok (.getfield 9, 3) := by decide +kernel
theorem dX2_end_7 : decode cX2_end 7 = .ok (.arraylength, 1) := by decide +kernel
theorem dX2_end_8 : decode cX2_end 8 = .ok (.if_icmp .ge 56, 3) := by decide +kernel
theorem dX2_end_11 : decode cX2_end 11 = .ok (.aload_n 0, 1) := by decide +kernel
theorem dX2_end_12 : decode cX2_end 12 = .ok (.getfield 9, 3) := by decide +kernel
theorem dX2_end_15 : decode cX2_end 15 = .ok (.iload_n 1, 1) := by decide +kernel
theorem dX2_end_16 : decode cX2_end 16 = .ok (.aaload, 1) := by decide +kernel
theorem dX2_end_17 : decode cX2_end 17 = .ok (.iconst 0, 1) := by decide +kernel
theorem dX2_end_18 : decode cX2_end 18 = .ok (.iaload, 1) := by decide +kernel
theorem dX2_end_19 : decode cX2_end 19 = .ok (.sipush 1000, 3) := by decide +kernel
theorem dX2_end_22 : decode cX2_end 22 = .ok (.isub, 1) := by decide +kernel
theorem dX2_end_23 : decode cX2_end 23 = .ok (.istore_n 2, 1) := by decide +kernel
theorem dX2_end_24 : decode cX2_end 24 = .ok (.aload_n 0, 1) := by decide +kernel
theorem dX2_end_25 : decode cX2_end 25 = .ok (.getfield 9, 3) := by decide +kernel
theorem dX2_end_28 : decode cX2_end 28 = .ok (.iload_n 1, 1) := by decide +kernel
theorem dX2_end_29 : decode cX2_end 29 = .ok (.aaload, 1) := by decide +kernel
theorem dX2_end_30 : decode cX2_end 30 = .ok (.iconst 4, 1) := by decide +kernel
theorem dX2_end_31 : decode cX2_end 31 = .ok (.iaload, 1) := by decide +kernel
theorem dX2_end_32 : decode cX2_end 32 = .ok (.iconst 3, 1) := by decide +kernel
theorem dX2_end_33 : decode cX2_end 33 = .ok (.if_icmp .ge 25, 3) := by decide +kernel
theorem dX2_end_36 : decode cX2_end 36 = .ok (.aload_n 0, 1) := by decide +kernel
theorem dX2_end_37 : decode cX2_end 37 = .ok (.iload_n 1, 1) := by decide +kernel
theorem dX2_end_38 : decode cX2_end 38 = .ok (.iload_n 2, 1) := by decide +kernel
theorem dX2_end_39 : decode cX2_end 39 = .ok (.ifCond .ge 11, 3) := by decide +kernel
theorem dX2_end_42 : decode cX2_end 42 = .ok (.iload_n 2, 1) := by decide +kernel
theorem dX2_end_43 : decode cX2_end 43 = .ok (.ineg, 1) := by decide +kernel
theorem dX2_end_44 : decode cX2_end 44 = .ok (.bipush 8, 2) := by decide +kernel
theorem dX2_end_46 : decode cX2_end 46 = .ok (.idiv, 1) := by decide +kernel
theorem dX2_end_47 : decode cX2_end 47 = .ok (.goto 8, 3) := by decide +kernel
theorem dX2_end_50 : decode cX2_end 50 = .ok (.iload_n 2, 1) := by decide +kernel
theorem dX2_end_51 : decode cX2_end 51 = .ok (.bipush 8, 2) := by decide +kernel
theorem dX2_end_53 : decode cX2_end 53 = .ok (.idiv, 1) := by decide +kernel
theorem dX2_end_54 : decode cX2_end 54 = .ok (.ineg, 1) := by decide +kernel
theorem dX2_end_55 : decode cX2_end 55 = .ok (.invokevirtual 31, 3) := by decide +kernel
theorem dX2_end_58 : decode cX2_end 58 = .ok (.iinc 1 1, 3) := by decide +kernel
theorem dX2_end_61 : decode cX2_end 61 = .ok (.goto (-59), 3) := by decide +kernel
theorem dX2_end_64 : decode cX2_end 64 = .ok (.iconst 0, 1) := by decide +kernel
theorem dX2_end_65 : decode cX2_end 65 = .ok (.istore_n 1, 1) := by decide +kernel
theorem dX2_end_66 : decode cX2_end 66 = .ok (.iconst 0, 1) := by decide +kernel
theorem dX2_end_67 : decode cX2_end 67 = .ok (.istore_n 2, 1) := by decide +kernel
theorem dX2_end_68 : decode cX2_end 68 = .ok (.iload_n 2, 1) := by decide +kernel
theorem dX2_end_69 : decode cX2_end 69 = .ok (.iconst 2, 1) := by decide +kernel
theorem dX2_end_70 : decode cX2_end 70 = .ok (.if_icmp .ge 99, 3) := by decide +kernel
theorem dX2_end_73 : decode cX2_end 73 = .ok (.aload_n 0, 1) := by decide +kernel
theorem dX2_end_74 : decode cX2_end 74 = .ok (.iload_n 2, 1) := by decide +kernel
theorem dX2_end_75 : decode cX2_end 75 = .ok (.invokevirtual 41, 3) := by decide +kernel
theorem dX2_end_78 : decode cX2_end 78 = .ok (.astore_n 3, 1) := by decide +kernel
theorem dX2_end_79 : decode cX2_end 79 = .ok (.aload_n 0, 1) := by decide +kernel
theorem dX2_end_80 : decode cX2_end 80 = .ok (.iload_n 2, 1) := by decide +kernel
theorem dX2_end_81 : decode cX2_end 81 = .ok (.iconst 1, 1) := by decide +kernel
theorem dX2_end_82 : decode cX2_end 82 = .ok (.iadd, 1) := by decide +kernel
theorem dX2_end_83 : decode cX2_end 83 = .ok (.invokevirtual 41, 3) := by decide +kernel
theorem dX2_end_86 : decode cX2_end 86 = .ok (.astore 4, 2) := by decide +kernel
theorem dX2_end_88 : decode cX2_end 88 = .ok (.aload_n 3, 1) := by decide +kernel
theorem dX2_end_89 : decode cX2_end 89 = .ok (.arraylength, 1) := by decide +kernel
theorem dX2_end_90 : decode cX2_end 90 = .ok (.ifCond .eq 73, 3) := by decide +kernel
theorem dX2_end_93 : decode cX2_end 93 = .ok (.aload 4, 2) := by decide +kernel
theorem dX2_end_95 : decode cX2_end 95 = .ok (.arraylength, 1) := by decide +kernel
theorem dX2_end_96 : decode cX2_end 96 = .ok (.ifCond .ne 6, 3) := by decide +kernel
theorem dX2_end_99 : decode cX2_end 99 = .ok (.goto 64, 3) := by decide +kernel
theorem dX2_end_102 : decode cX2_end 102 = .ok (.aload_n 3, 1) := by decide +kernel
theorem dX2_end_103 : decode cX2_end 103 = .ok (.aload_n 3, 1) := by decide +kernel
theorem dX2_end_104 : decode cX2_end 104 = .ok (.arraylength, 1) := by decide +kernel
theorem dX2_end_105 : decode cX2_end 105 = .ok (.iconst 1, 1) := by decide +kernel
theorem dX2_end_106 : decode cX2_end 106 = .ok (.isub, 1) := by decide +kernel
theorem dX2_end_107 : decode cX2_end 107 = .ok (.iaload, 1) := by decide +kernel
theorem dX2_end_108 : decode cX2_end 108 = .ok (.istore 5, 2) := by decide +kernel
theorem dX2_end_110 : decode cX2_end 110 = .ok (.aload_n 0, 1) := by decide +kernel
theorem dX2_end_111 : decode cX2_end 111 = .ok (.getfield 9, 3) := by decide +kernel
theorem dX2_end_114 : decode cX2_end 114 = .ok (.aload 4, 2) := by decide +kernel
theorem dX2_end_116 : decode cX2_end 116 = .ok (.iconst 0, 1) := by decide +kernel
theorem dX2_end_117 : decode cX2_end 117 = .ok (.iaload, 1) := by decide +kernel
theorem dX2_end_118 : decode cX2_end 118 = .ok (.aaload, 1) := by decide +kernel
theorem dX2_end_119 : decode cX2_end 119 = .ok (.iconst 2, 1) := by decide +kernel
theorem dX2_end_120 : decode cX2_end 120 = .ok (.iaload, 1) := by decide +kernel
theorem dX2_end_121 : decode cX2_end 121 = .ok (.aload_n 0, 1) := by decide +kernel
theorem dX2_end_122 : decode cX2_end 122 = .ok (.getfield 9, 3) := by decide +kernel
theorem dX2_end_125 : decode cX2_end 125 = .ok (.iload 5, 2) := by decide +kernel
theorem dX2_end_127 : decode cX2_end 127 = .ok (.aaload, 1) := by decide +kernel
theorem dX2_end_128 : decode cX2_end 128 = .ok (.iconst 2, 1) := by decide +kernel
theorem dX2_end_129 : decode cX2_end 129 = .ok (.iaload, 1) := by decide +kernel
theorem dX2_end_130 : decode cX2_end 130 = .ok (.if_icmp .gt 6, 3) := by decide +kernel
theorem dX2_end_133 : decode cX2_end 133 = .ok (.goto 30, 3) := by decide +kernel
theorem dX2_end_136 : decode cX2_end 136 = .ok (.aload_n 0, 1) := by decide +kernel
theorem dX2_end_137 : decode cX2_end 137 = .ok (.getfield 9, 3) := by decide +kernel
theorem dX2_end_140 : decode cX2_end 140 = .ok (.aload 4, 2) := by decide +kernel
theorem dX2_end_142 : decode cX2_end 142 = .ok (.iconst 0, 1) := by decide +kernel
theorem dX2_end_143 : decode cX2_end 143 = .ok (.iaload, 1) := by decide +kernel
theorem dX2_end_144 : decode cX2_end 144 = .ok (.aaload, 1) := by decide +kernel
theorem dX2_end_145 : decode cX2_end 145 = .ok (.iconst 1, 1) := by decide +kernel
theorem dX2_end_146 : decode cX2_end 146 = .ok (.iload_n 2, 1) := by decide +kernel
theorem dX2_end_147 : decode cX2_end 147 = .ok (.iastore, 1) := by decide +kernel
theorem dX2_end_148 : decode cX2_end 148 = .ok (.aload_n 0, 1) := by decide +kernel
theorem dX2_end_149 : decode cX2_end 149 = .ok (.getfield 9, 3) := by decide +kernel
theorem dX2_end_152 : decode cX2_end 152 = .ok (.iload 5, 2) := by decide +kernel
theorem dX2_end_154 : decode cX2_end 154 = .ok (.aaload, 1) := by decide +kernel
theorem dX2_end_155 : decode cX2_end 155 = .ok (.iconst 1, 1) := by decide +kernel
theorem dX2_end_156 : decode cX2_end 156 = .ok (.iload_n 2, 1) := by decide +kernel
theorem dX2_end_157 : decode cX2_end 157 = .ok (.iconst 1, 1) := by decide +kernel
theorem dX2_end_158 : decode cX2_end 158 = .ok (.iadd, 1) := by decide +kernel
theorem dX2_end_159 : decode cX2_end 159 = .ok (.iastore, 1) := by decide +kernel
theorem dX2_end_160 : decode cX2_end 160 = .ok (.iinc 1 1, 3) := by decide +kernel
theorem dX2_end_163 : decode cX2_end 163 = .ok (.iinc 2 1, 3) := by decide +kernel
theorem dX2_end_166 : decode cX2_end 166 = .ok (.goto (-98), 3) := by decide +kernel
theorem dX2_end_169 : decode cX2_end 169 = .ok (.aload_n 0, 1) := by decide +kernel
theorem dX2_end_170 : decode cX2_end 170 = .ok (.getfield 9, 3) := by decide +kernel
theorem dX2_end_173 : decode cX2_end 173 = .ok (.astore_n 2, 1) := by decide +kernel
theorem dX2_end_174 : decode cX2_end 174 = .ok (.aload_n 2, 1) := by decide +kernel
theorem dX2_end_175 : decode cX2_end 175 = .ok (.arraylength, 1) := by decide +kernel
theorem dX2_end_176 : decode cX2_end 176 = .ok (.istore_n 3, 1) := by decide +kernel
theorem dX2_end_177 : decode cX2_end 177 = .ok (.iconst 0, 1) := by decide +kernel
theorem dX2_end_178 : decode cX2_end 178 = .ok (.istore 4, 2) := by decide +kernel
theorem dX2_end_180 : decode cX2_end 180 = .ok (.iload 4, 2) := by decide +kernel
theorem dX2_end_182 : decode cX2_end 182 = .ok (.iload_n 3, 1) := by decide +kernel
theorem dX2_end_183 : decode cX2_end 183 = .ok (.if_icmp .ge 25, 3) := by decide +kernel
theorem dX2_end_186 : decode cX2_end 186 = .ok (.aload_n 2, 1) := by decide +kernel
theorem dX2_end_187 : decode cX2_end 187 = .ok (.iload 4, 2) := by decide +kernel
theorem dX2_end_189 : decode cX2_end 189 = .ok (.aaload, 1) := by decide +kernel
theorem dX2_end_190 : decode cX2_end 190 = .ok (.astore 5, 2) := by decide +kernel
theorem dX2_end_192 : decode cX2_end 192 = .ok (.aload 5, 2) := by decide +kernel
theorem dX2_end_194 : decode cX2_end 194 = .ok (.iconst 2, 1) := by decide +kernel
theorem dX2_end_195 : decode cX2_end 195 = .ok (.iconst 0, 1) := by decide +kernel
theorem dX2_end_196 : decode cX2_end 196 = .ok (.iastore, 1) := by decide +kernel
theorem dX2_end_197 : decode cX2_end 197 = .ok (.aload 5, 2) := by decide +kernel
theorem dX2_end_199 : decode cX2_end 199 = .ok (.iconst 4, 1) := by decide +kernel
theorem dX2_end_200 : decode cX2_end 200 = .ok (.iconst 0, 1) := by decide +kernel
theorem dX2_end_201 : decode cX2_end 201 = .ok (.iastore, 1) := by decide +kernel
theorem dX2_end_202 : decode cX2_end 202 = .ok (.iinc 4 1, 3) := by decide +kernel
theorem dX2_end_205 : decode cX2_end 205 = .ok (.goto (-25), 3) := by decide +kernel
theorem dX2_end_208 : decode cX2_end 208 = .ok (.aload_n 0, 1) := by decide +kernel
theorem dX2_end_209 : decode cX2_end 209 = .ok (.dup, 1) := by decide +kernel
theorem dX2_end_210 : decode cX2_end 210 = .ok (.getfield 45, 3) := by decide +kernel
theorem dX2_end_213 : decode cX2_end 213 = .ok (.iconst 1, 1) := by decide +kernel
theorem dX2_end_214 : decode cX2_end 214 = .ok (.iadd, 1) := by decide +kernel
theorem dX2_end_215 : decode cX2_end 215 = .ok (.putfield 45, 3) := by decide +kernel
theorem dX2_end_218 : decode cX2_end 218 = .ok (.iload_n 1, 1) := by decide +kernel
theorem dX2_end_219 : decode cX2_end 219 = .ok (.ireturn, 1) := by decide +kernel
set_option maxRecDepth 20000 in
theorem ggX2_off_X2_expected : GoodIn wsX2_off wsX2_expected := goodIn_r _ [5, 6, 7, 1, 2, 3, 4, 8, 9, 10, 11] (by decide +kernel) (by decide +kernel)
set_option maxRecDepth 20000 in
theorem gX2_off_X2_expected : GoodIn wsX2_off (wsV RX2 15 RX2 yX2_expected wsX2_expected) := goodIn_app (goodIn_of _ (by decide +kernel)) ggX2_off_X2_expected
theorem dX2_off_0 : decode cX2_off 0 = .ok (.aload_n 0, 1) := by decide +kernel
theorem dX2_off_1 : decode cX2_off 1 = .ok (.iload_n 1, 1) := by decide +kernel
theorem dX2_off_2 : decode cX2_off 2 = .ok (.iload_n 2, 1) := by decide +kernel
theorem dX2_off_3 : decode cX2_off 3 = .ok (.invokevirtual 15, 3) := by decide +kernel
theorem dX2_off_6 : decode cX2_off 6 = .ok (.istore_n 3, 1) := by decide +kernel
theorem dX2_off_7 : decode cX2_off 7 = .ok (.iload_n 3, 1) := by decide +kernel
theorem dX2_off_8 : decode cX2_off 8 = .ok (.sipush 500, 3) := by decide +kernel
theorem dX2_off_11 : decode cX2_off 11 = .ok (.if_icmp .le 11, 3) := by decide +kernel
theorem dX2_off_14 : decode cX2_off 14 = .ok (.iload_n 3, 1) := by decide +kernel
theorem dX2_off_15 : decode cX2_off 15 = .ok (.sipush 500, 3) := by decide +kernel
theorem dX2_off_18 : decode cX2_off 18 = .ok (.isub, 1) := by decide +kernel
theorem dX2_off_19 : decode cX2_off 19 = .ok (.goto 8, 3) := by decide +kernel
theorem dX2_off_22 : decode cX2_off 22 = .ok (.sipush 500, 3) := by decide +kernel
theorem dX2_off_25 : decode cX2_off 25 = .ok (.iload_n 3, 1) := by decide +kernel
theorem dX2_off_26 : decode cX2_off 26 = .ok (.isub, 1) := by decide +kernel
theorem dX2_off_27 : decode cX2_off 27 = .ok (.ireturn, 1) := by decide +kernel
set_option maxRecDepth 20000 in
theorem ggX2_match_X2_off : GoodIn wsX2_match wsX2_off := goodIn_r _ [6, 7, 8, 9, 5, 10, 1, 11, 12, 13, 14, 15] (by decide +kernel) (by decide +kernel)
set_option maxRecDepth 20000 in
theorem gX2_match_X2_off : GoodIn wsX2_match (wsV RX2 48 RX2 yX2_off wsX2_off) := goodIn_app (goodIn_of _ (by decide +kernel)) ggX2_match_X2_off
theorem dX2_match_0 : decode cX2_match 0 = .ok (.iconst (-1), 1) := by decide +kernel
theorem dX2_match_1 : decode cX2_match 1 = .ok (.istore_n 2, 1) := by decide +kernel
theorem dX2_match_2 : decode cX2_match 2 = .ok (.aload_n 0, 1) := by decide +kernel
theorem dX2_match_3 : decode cX2_match 3 = .ok (.getfield 9, 3) := by decide +kernel
theorem dX2_match_6 : decode cX2_match 6 = .ok (.arraylength, 1) := by decide +kernel
theorem dX2_match_7 : decode cX2_match 7 = .ok (.iconst 1, 1) := by decide +kernel
theorem dX2_match_8 : decode cX2_match 8 = .ok (.isub, 1) := by decide +kernel
theorem dX2_match_9 : decode cX2_match 9 = .ok (.istore_n 3, 1) := by decide +kernel
theorem dX2_match_10 : decode cX2_match 10 = .ok (.iload_n 3, 1) := by decide +kernel
theorem dX2_match_11 : decode cX2_match 11 = .ok (.ifCond .lt 54, 3) := by decide +kernel
theorem dX2_match_14 : decode cX2_match 14 = .ok (.iload_n 3, 1) := by decide +kernel
theorem dX2_match_15 : decode cX2_match 15 = .ok (.iload_n 1, 1) := by decide +kernel
theorem dX2_match_16 : decode cX2_match 16 = .ok (.if_icmp .eq 43, 3) := by decide +kernel
theorem dX2_match_19 : decode cX2_match 19 = .ok (.aload_n 0, 1) := by decide +kernel
theorem dX2_match_20 : decode cX2_match 20 = .ok (.getfield 9, 3) := by decide +kernel
theorem dX2_match_23 : decode cX2_match 23 = .ok (.iload_n 3, 1) := by decide +kernel
theorem dX2_match_24 : decode cX2_match 24 = .ok (.aaload, 1) := by decide +kernel
theorem dX2_match_25 : decode cX2_match 25 = .ok (.iconst 1, 1) := by decide +kernel
theorem dX2_match_26 : decode cX2_match 26 = .ok (.iaload, 1) := by decide +kernel
theorem dX2_match_27 : decode cX2_match 27 = .ok (.aload_n 0, 1) := by decide +kernel
theorem dX2_match_28 : decode cX2_match 28 = .ok (.getfield 9, 3) := by decide +kernel
theorem dX2_match_31 : decode cX2_match 31 = .ok (.iload_n 1, 1) := by decide +kernel
end
section
theorem dX2_match_32 : decode cX2_match 32 = .ok (.aaload, 1) := by decide +kernel
theorem dX2_match_33 : decode cX2_match 33 = .ok (.iconst 1, 1) := by decide +kernel
theorem dX2_match_34 : decode cX2_match 34 = .ok (.iaload, 1) := by decide +kernel
theorem dX2_match_35 : decode cX2_match 35 = .ok (.if_icmp .ne 24, 3) := by decide +kernel
theorem dX2_match_38 : decode cX2_match 38 = .ok (.iload_n 2, 1) := by decide +kernel
theorem dX2_match_39 : decode cX2_match 39 = .ok (.ifCond .lt 18, 3) := by decide +kernel
theorem dX2_match_42 : decode cX2_match 42 = .ok (.aload_n 0, 1) := by decide +kernel
theorem dX2_match_43 : decode cX2_match 43 = .ok (.iload_n 3, 1) := by decide +kernel
theorem dX2_match_44 : decode cX2_match 44 = .ok (.iload_n 1, 1) := by decide +kernel
theorem dX2_match_45 : decode cX2_match 45 = .ok (.invokevirtual 48, 3) := by decide +kernel
theorem dX2_match_48 : decode cX2_match 48 = .ok (.aload_n 0, 1) := by decide +kernel
theorem dX2_match_49 : decode cX2_match 49 = .ok (.iload_n 2, 1) := by decide +kernel
theorem dX2_match_50 : decode cX2_match 50 = .ok (.iload_n 1, 1) := by decide +kernel
theorem dX2_match_51 : decode cX2_match 51 = .ok (.invokevirtual 48, 3) := by decide +kernel
theorem dX2_match_54 : decode cX2_match 54 = .ok (.if_icmp .gt 5, 3) := by decide +kernel
theorem dX2_match_57 : decode cX2_match 57 = .ok (.iload_n 3, 1) := by decide +kernel
theorem dX2_match_58 : decode cX2_match 58 = .ok (.istore_n 2, 1) := by decide +kernel
theorem dX2_match_59 : decode cX2_match 59 = .ok (.iinc 3 (-1), 3) := by decide +kernel
theorem dX2_match_62 : decode cX2_match 62 = .ok (.goto (-52), 3) := by decide +kernel
theorem dX2_match_65 : decode cX2_match 65 = .ok (.iload_n 2, 1) := by decide +kernel
theorem dX2_match_66 : decode cX2_match 66 = .ok (.ireturn, 1) := by decide +kernel
set_option maxRecDepth 20000 in
theorem ggX2_next_X2_off : GoodIn wsX2_next wsX2_off := goodIn_r _ [6, 7, 8, 9, 5, 10, 1, 11, 12, 13, 14, 15] (by decide +kernel) (by decide +kernel)
set_option maxRecDepth 20000 in
theorem gX2_next_X2_off : GoodIn wsX2_next (wsV RX2 48 RX2 yX2_off wsX2_off) := goodIn_app (goodIn_of _ (by decide +kernel)) ggX2_next_X2_off
theorem dX2_next_0 : decode cX2_next 0 = .ok (.iconst (-1), 1) := by decide +kernel
theorem dX2_next_1 : decode cX2_next 1 = .ok (.istore_n 1, 1) := by decide +kernel
theorem dX2_next_2 : decode cX2_next 2 = .ok (.iconst 0, 1) := by decide +kernel
theorem dX2_next_3 : decode cX2_next 3 = .ok (.istore_n 2, 1) := by decide +kernel
theorem dX2_next_4 : decode cX2_next 4 = .ok (.iconst 0, 1) := by decide +kernel
theorem dX2_next_5 : decode cX2_next 5 = .ok (.istore_n 3, 1) := by decide +kernel
theorem dX2_next_6 : decode cX2_next 6 = .ok (.aload_n 0, 1) := by decide +kernel
theorem dX2_next_7 : decode cX2_next 7 = .ok (.getfield 9, 3) := by decide +kernel
theorem dX2_next_10 : decode cX2_next 10 = .ok (.arraylength, 1) := by decide +kernel
theorem dX2_next_11 : decode cX2_next 11 = .ok (.iconst 1, 1) := by decide +kernel
theorem dX2_next_12 : decode cX2_next 12 = .ok (.isub, 1) := by decide +kernel
theorem dX2_next_13 : decode cX2_next 13 = .ok (.istore 4, 2) := by decide +kernel
theorem dX2_next_15 : decode cX2_next 15 = .ok (.iload 4, 2) := by decide +kernel
theorem dX2_next_17 : decode cX2_next 17 = .ok (.ifCond .lt 128, 3) := by decide +kernel
theorem dX2_next_20 : decode cX2_next 20 = .ok (.aload_n 0, 1) := by decide +kernel
theorem dX2_next_21 : decode cX2_next 21 = .ok (.getfield 9, 3) := by decide +kernel
theorem dX2_next_24 : decode cX2_next 24 = .ok (.arraylength, 1) := by decide +kernel
theorem dX2_next_25 : decode cX2_next 25 = .ok (.iconst 1, 1) := by decide +kernel
theorem dX2_next_26 : decode cX2_next 26 = .ok (.isub, 1) := by decide +kernel
theorem dX2_next_27 : decode cX2_next 27 = .ok (.istore 5, 2) := by decide +kernel
theorem dX2_next_29 : decode cX2_next 29 = .ok (.iload 5, 2) := by decide +kernel
theorem dX2_next_31 : decode cX2_next 31 = .ok (.iload 4, 2) := by decide +kernel
theorem dX2_next_33 : decode cX2_next 33 = .ok (.if_icmp .le 106, 3) := by decide +kernel
theorem dX2_next_36 : decode cX2_next 36 = .ok (.aload_n 0, 1) := by decide +kernel
theorem dX2_next_37 : decode cX2_next 37 = .ok (.getfield 9, 3) := by decide +kernel
theorem dX2_next_40 : decode cX2_next 40 = .ok (.iload 4, 2) := by decide +kernel
theorem dX2_next_42 : decode cX2_next 42 = .ok (.aaload, 1) := by decide +kernel
theorem dX2_next_43 : decode cX2_next 43 = .ok (.iconst 1, 1) := by decide +kernel
theorem dX2_next_44 : decode cX2_next 44 = .ok (.iaload, 1) := by decide +kernel
theorem dX2_next_45 : decode cX2_next 45 = .ok (.aload_n 0, 1) := by decide +kernel
theorem dX2_next_46 : decode cX2_next 46 = .ok (.getfield 9, 3) := by decide +kernel
theorem dX2_next_49 : decode cX2_next 49 = .ok (.iload 5, 2) := by decide +kernel
theorem dX2_next_51 : decode cX2_next 51 = .ok (.aaload, 1) := by decide +kernel
theorem dX2_next_52 : decode cX2_next 52 = .ok (.iconst 1, 1) := by decide +kernel
theorem dX2_next_53 : decode cX2_next 53 = .ok (.iaload, 1) := by decide +kernel
theorem dX2_next_54 : decode cX2_next 54 = .ok (.if_icmp .eq 6, 3) := by decide +kernel
theorem dX2_next_57 : decode cX2_next 57 = .ok (.goto 76, 3) := by decide +kernel
theorem dX2_next_60 : decode cX2_next 60 = .ok (.aload_n 0, 1) := by decide +kernel
theorem dX2_next_61 : decode cX2_next 61 = .ok (.getfield 9, 3) := by decide +kernel
theorem dX2_next_64 : decode cX2_next 64 = .ok (.iload 4, 2) := by decide +kernel
theorem dX2_next_66 : decode cX2_next 66 = .ok (.aaload, 1) := by decide +kernel
theorem dX2_next_67 : decode cX2_next 67 = .ok (.iconst 4, 1) := by decide +kernel
theorem dX2_next_68 : decode cX2_next 68 = .ok (.iaload, 1) := by decide +kernel
theorem dX2_next_69 : decode cX2_next 69 = .ok (.aload_n 0, 1) := by decide +kernel
theorem dX2_next_70 : decode cX2_next 70 = .ok (.getfield 9, 3) := by decide +kernel
theorem dX2_next_73 : decode cX2_next 73 = .ok (.iload 5, 2) := by decide +kernel
theorem dX2_next_75 : decode cX2_next 75 = .ok (.aaload, 1) := by decide +kernel
theorem dX2_next_76 : decode cX2_next 76 = .ok (.iconst 4, 1) := by decide +kernel
theorem dX2_next_77 : decode cX2_next 77 = .ok (.iaload, 1) := by decide +kernel
theorem dX2_next_78 : decode cX2_next 78 = .ok (.iadd, 1) := by decide +kernel
theorem dX2_next_79 : decode cX2_next 79 = .ok (.istore 6, 2) := by decide +kernel
theorem dX2_next_81 : decode cX2_next 81 = .ok (.iload_n 1, 1) := by decide +kernel
theorem dX2_next_82 : decode cX2_next 82 = .ok (.ifCond .lt 30, 3) := by decide +kernel
theorem dX2_next_85 : decode cX2_next 85 = .ok (.iload 6, 2) := by decide +kernel
theorem dX2_next_87 : decode cX2_next 87 = .ok (.iload_n 2, 1) := by decide +kernel
theorem dX2_next_88 : decode cX2_next 88 = .ok (.if_icmp .gt 45, 3) := by decide +kernel
theorem dX2_next_91 : decode cX2_next 91 = .ok (.iload 6, 2) := by decide +kernel
theorem dX2_next_93 : decode cX2_next 93 = .ok (.iload_n 2, 1) := by decide +kernel
theorem dX2_next_94 : decode cX2_next 94 = .ok (.if_icmp .ne 18, 3) := by decide +kernel
theorem dX2_next_97 : decode cX2_next 97 = .ok (.aload_n 0, 1) := by decide +kernel
theorem dX2_next_98 : decode cX2_next 98 = .ok (.iload 4, 2) := by decide +kernel
theorem dX2_next_100 : decode cX2_next 100 = .ok (.iload 5, 2) := by decide +kernel
theorem dX2_next_102 : decode cX2_next 102 = .ok (.invokevirtual 48, 3) := by decide +kernel
theorem dX2_next_105 : decode cX2_next 105 = .ok (.iload_n 3, 1) := by decide +kernel
theorem dX2_next_106 : decode cX2_next 106 = .ok (.if_icmp .le 6, 3) := by decide +kernel
theorem dX2_next_109 : decode cX2_next 109 = .ok (.goto 24, 3) := by decide +kernel
theorem dX2_next_112 : decode cX2_next 112 = .ok (.bipush 12, 2) := by decide +kernel
theorem dX2_next_114 : decode cX2_next 114 = .ok (.iload 4, 2) := by decide +kernel
theorem dX2_next_116 : decode cX2_next 116 = .ok (.imul, 1) := by decide +kernel
theorem dX2_next_117 : decode cX2_next 117 = .ok (.iload 5, 2) := by decide +kernel
theorem dX2_next_119 : decode cX2_next 119 = .ok (.iadd, 1) := by decide +kernel
theorem dX2_next_120 : decode cX2_next 120 = .ok (.istore_n 1, 1) := by decide +kernel
theorem dX2_next_121 : decode cX2_next 121 = .ok (.iload 6, 2) := by decide +kernel
theorem dX2_next_123 : decode cX2_next 123 = .ok (.istore_n 2, 1) := by decide +kernel
theorem dX2_next_124 : decode cX2_next 124 = .ok (.aload_n 0, 1) := by decide +kernel
theorem dX2_next_125 : decode cX2_next 125 = .ok (.iload 4, 2) := by decide +kernel
theorem dX2_next_127 : decode cX2_next 127 = .ok (.iload 5, 2) := by decide +kernel
theorem dX2_next_129 : decode cX2_next 129 = .ok (.invokevirtual 48, 3) := by decide +kernel
theorem dX2_next_132 : decode cX2_next 132 = .ok (.istore_n 3, 1) := by decide +kernel
theorem dX2_next_133 : decode cX2_next 133 = .ok (.iinc 5 (-1), 3) := by decide +kernel
theorem dX2_next_136 : decode cX2_next 136 = .ok (.goto (-107), 3) := by decide +kernel
theorem dX2_next_139 : decode cX2_next 139 = .ok (.iinc 4 (-1), 3) := by decide +kernel
theorem dX2_next_142 : decode cX2_next 142 = .ok (.goto (-127), 3) := by decide +kernel
theorem dX2_next_145 : decode cX2_next 145 = .ok (.iload_n 1, 1) := by decide +kernel
theorem dX2_next_146 : decode cX2_next 146 = .ok (.ireturn, 1) := by decide +kernel
theorem dX2_highest_0 : decode cX2_highest 0 = .ok (.iconst 0, 1) := by decide +kernel
theorem dX2_highest_1 : decode cX2_highest 1 = .ok (.istore_n 1, 1) := by decide +kernel
theorem dX2_highest_2 : decode cX2_highest 2 = .ok (.aload_n 0, 1) := by decide +kernel
theorem dX2_highest_3 : decode cX2_highest 3 = .ok (.getfield 9, 3) := by decide +kernel
theorem dX2_highest_6 : decode cX2_highest 6 = .ok (.astore_n 2, 1) := by decide +kernel
theorem dX2_highest_7 : decode cX2_highest 7 = .ok (.aload_n 2, 1) := by decide +kernel
theorem dX2_highest_8 : decode cX2_highest 8 = .ok (.arraylength, 1) := by decide +kernel
theorem dX2_highest_9 : decode cX2_highest 9 = .ok (.istore_n 3, 1) := by decide +kernel
theorem dX2_highest_10 : decode cX2_highest 10 = .ok (.iconst 0, 1) := by decide +kernel
theorem dX2_highest_11 : decode cX2_highest 11 = .ok (.istore 4, 2) := by decide +kernel
theorem dX2_highest_13 : decode cX2_highest 13 = .ok (.iload 4, 2) := by decide +kernel
theorem dX2_highest_15 : decode cX2_highest 15 = .ok (.iload_n 3, 1) := by decide +kernel
theorem dX2_highest_16 : decode cX2_highest 16 = .ok (.if_icmp .ge 24, 3) := by decide +kernel
theorem dX2_highest_19 : decode cX2_highest 19 = .ok (.aload_n 2, 1) := by decide +kernel
theorem dX2_highest_20 : decode cX2_highest 20 = .ok (.iload 4, 2) := by decide +kernel
theorem dX2_highest_22 : decode cX2_highest 22 = .ok (.aaload, 1) := by decide +kernel
theorem dX2_highest_23 : decode cX2_highest 23 = .ok (.astore 5, 2) := by decide +kernel
theorem dX2_highest_25 : decode cX2_highest 25 = .ok (.iload_n 1, 1) := by decide +kernel
theorem dX2_highest_26 : decode cX2_highest 26 = .ok (.aload 5, 2) := by decide +kernel
theorem dX2_highest_28 : decode cX2_highest 28 = .ok (.iconst 0, 1) := by decide +kernel
theorem dX2_highest_29 : decode cX2_highest 29 = .ok (.iaload, 1) := by decide +kernel
theorem dX2_highest_30 : decode cX2_highest 30 = .ok (.invokestatic 57, 3) := by decide +kernel
theorem dX2_highest_33 : decode cX2_highest 33 = .ok (.istore_n 1, 1) := by decide +kernel
theorem dX2_highest_34 : decode cX2_highest 34 = .ok (.iinc 4 1, 3) := by decide +kernel
theorem dX2_highest_37 : decode cX2_highest 37 = .ok (.goto (-24), 3) := by decide +kernel
theorem dX2_highest_40 : decode cX2_highest 40 = .ok (.iload_n 1, 1) := by decide +kernel
theorem dX2_highest_41 : decode cX2_highest 41 = .ok (.ireturn, 1) := by decide +kernel
set_option maxRecDepth 20000 in
theorem ggX2_isSame_X1_told : GoodIn wsX2_isSame wsX1_told := goodIn_ca (goodIn_r _ [14, 15, 16, 17, 18, 19, 20, 13, 21, 22, 23, 24, 25, 26, 27, 28, 29, 30, 31, 32, 33, 34, 35, 36, 37, 38, 39, 40, 41, 42, 43, 44, 45, 46, 47, 48, 49, 50, 51, 52, 53, 54, 55, 56, 57, 58, 59, 60, 61, 62, 63, 64, 65, 66, 67, 68, 69, 70, 71, 72, 73, 74, 192, 193, 194, 195, 196, 197, 198, 199, 200, 201, 202, 203, 204, 205] (by decide +kernel) (by decide +kernel)) (goodIn_sub (fun _ h => List.mem_cons_of_mem _ (List.mem_append_right _ h)) (by decide +kernel))
set_option maxRecDepth 20000 in
theorem gX2_isSame_X1_told : GoodIn wsX2_isSame (wsV RX2 62 RX1 yX1_told wsX1_told) := goodIn_app (goodIn_of _ (by decide +kernel)) ggX2_isSame_X1_told
set_option maxRecDepth 20000 in
theorem ggX2_isSame_X2_weight : GoodIn wsX2_isSame wsX2_weight := goodIn_r _ [79, 1, 188, 189, 190, 191] (by decide +kernel) (by decide +kernel)
set_option maxRecDepth 20000 in
theorem gX2_isSame_X2_weight : GoodIn wsX2_isSame (wsV RX2 19 RX2 yX2_weight wsX2_weight) := goodIn_app (goodIn_of _ (by decide +kernel)) ggX2_isSame_X2_weight
set_option maxRecDepth 20000 in
theorem ggX2_isSame_X1_match : GoodIn wsX2_isSame wsX1_match := goodIn_ca (goodIn_r _ [83, 17, 18, 19, 20, 13, 21, 15, 16, 22, 23, 24, 25, 26, 27, 84, 85, 86, 87, 37, 88, 89, 90, 91, 92, 93, 4, 94, 95, 96, 97, 98, 32, 99, 100, 101, 102, 3, 5, 103, 192, 193, 194, 195, 196, 197, 198, 199, 200, 201, 202, 203, 204, 205] (by decide +kernel) (by decide +kernel)) (goodIn_sub (fun _ h => List.mem_cons_of_mem _ (List.mem_append_right _ h)) (by decide +kernel))
set_option maxRecDepth 20000 in
theorem gX2_isSame_X1_match : GoodIn wsX2_isSame (wsV RX2 67 RX1 yX1_match wsX1_match) := goodIn_app (goodIn_of _ (by decide +kernel)) ggX2_isSame_X1_match
set_option maxRecDepth 20000 in
theorem ggX2_isSame_X2_match : GoodIn wsX2_isSame wsX2_match := goodIn_r _ [107, 1, 108, 109, 110, 78, 111, 112, 113, 114, 115, 6, 188, 189, 190, 191] (by decide +kernel) (by decide +kernel)
set_option maxRecDepth 20000 in
theorem gX2_isSame_X2_match : GoodIn wsX2_isSame (wsV RX2 70 RX2 yX2_match wsX2_match) := goodIn_app (goodIn_of _ (by decide +kernel)) ggX2_isSame_X2_match
set_option maxRecDepth 20000 in
theorem ggX2_isSame_X1_expected : GoodIn wsX2_isSame wsX1_expected := goodIn_ca (goodIn_r _ [119, 17, 18, 19, 20, 13, 21, 15, 16, 22, 23, 24, 25, 26, 27, 120, 96, 97, 98, 32, 99, 100, 101, 102, 3, 4, 5, 103, 192, 193, 194, 195, 196, 197, 198, 199, 200, 201, 202, 203, 204, 205] (by decide +kernel) (by decide +kernel)) (goodIn_sub (fun _ h => List.mem_cons_of_mem _ (List.mem_append_right _ h)) (by decide +kernel))
set_option maxRecDepth 20000 in
theorem gX2_isSame_X1_expected : GoodIn wsX2_isSame (wsV RX2 71 RX1 yX1_expected wsX1_expected) := goodIn_app (goodIn_of _ (by decide +kernel)) ggX2_isSame_X1_expected
set_option maxRecDepth 20000 in
theorem ggX2_isSame_X2_expected : GoodIn wsX2_isSame wsX2_expected := goodIn_r _ [115, 1, 6, 112, 113, 114, 78, 188, 189, 190, 191] (by decide +kernel) (by decide +kernel)
set_option maxRecDepth 20000 in
theorem gX2_isSame_X2_expected : GoodIn wsX2_isSame (wsV RX2 15 RX2 yX2_expected wsX2_expected) := goodIn_app (goodIn_of _ (by decide +kernel)) ggX2_isSame_X2_expected
set_option maxRecDepth 20000 in
theorem ggX2_isSame_X2_highest : GoodIn wsX2_isSame wsX2_highest := goodIn_r _ [124, 1, 125, 126, 4, 127, 188, 189, 190, 191] (by decide +kernel) (by decide +kernel)
set_option maxRecDepth 20000 in
theorem gX2_isSame_X2_highest : GoodIn wsX2_isSame (wsV RX2 75 RX2 yX2_highest wsX2_highest) := goodIn_app (goodIn_of _ (by decide +kernel)) ggX2_isSame_X2_highest
set_option maxRecDepth 20000 in
theorem ggX2_isSame_X2_order : GoodIn wsX2_isSame wsX2_order := goodIn_r _ [131, 1, 6, 188, 189, 190, 191] (by decide +kernel) (by decide +kernel)
set_option maxRecDepth 20000 in
theorem gX2_isSame_X2_order : GoodIn wsX2_isSame (wsV RX2 41 RX2 yX2_order wsX2_order) := goodIn_app (goodIn_of _ (by decide +kernel)) ggX2_isSame_X2_order
set_option maxRecDepth 20000 in
theorem ggX2_isSame_X1_at : GoodIn wsX2_isSame wsX1_at := goodIn_ca (goodIn_r _ [135, 15, 16, 17, 136, 137, 13, 138, 139, 140, 141, 25, 142, 27, 37, 143, 64, 65, 66, 67, 68, 69, 70, 42, 32, 192, 193, 194, 195, 196, 197, 198, 199, 200, 201, 202, 203, 204, 205] (by decide +kernel) (by decide +kernel)) (goodIn_sub (fun _ h => List.mem_cons_of_mem _ (List.mem_append_right _ h)) (by decide +kernel))
set_option maxRecDepth 20000 in
theorem gX2_isSame_X1_at : GoodIn wsX2_isSame (wsV RX2 79 RX1 yX1_at wsX1_at) := goodIn_app (goodIn_of _ (by decide +kernel)) ggX2_isSame_X1_at
set_option maxRecDepth 20000 in
theorem ggX2_isSame_X1_count : GoodIn wsX2_isSame wsX1_count := goodIn_ca (goodIn_r _ [147, 15, 16, 148, 17, 149, 150, 151, 152, 153, 25, 154, 27, 155, 156, 157, 158, 37, 159, 160, 161, 162, 32, 163, 126, 4, 127, 164, 165, 166, 167, 102, 3, 5, 192, 193, 194, 195, 196, 197, 198, 199, 200, 201, 202, 203, 204, 205] (by decide +kernel) (by decide +kernel)) (goodIn_sub (fun _ h => List.mem_cons_of_mem _ (List.mem_append_right _ h)) (by decide +kernel))
set_option maxRecDepth 20000 in
theorem gX2_isSame_X1_count : GoodIn wsX2_isSame (wsV RX2 82 RX1 yX1_count wsX1_count) := goodIn_app (goodIn_of _ (by decide +kernel)) ggX2_isSame_X1_count
set_option maxRecDepth 20000 in
theorem ggX2_isSame_X1_next : GoodIn wsX2_isSame wsX1_next := goodIn_r _ [171, 17, 172, 173, 174, 25, 175, 27, 37, 52, 88, 89, 90, 91, 92, 93, 4, 94, 95, 96, 97, 98, 32, 99, 100, 101, 102, 3, 5, 103, 192, 193, 194, 195, 196, 197, 198, 199, 200, 201, 202, 203, 204, 205] (by decide +kernel) (by decide +kernel)
set_option maxRecDepth 20000 in
theorem gX2_isSame_X1_next : GoodIn wsX2_isSame (wsV RX2 85 RX1 yX1_next wsX1_next) := goodIn_app (goodIn_of _ (by decide +kernel)) ggX2_isSame_X1_next
set_option maxRecDepth 20000 in
theorem ggX2_isSame_X2_next : GoodIn wsX2_isSame wsX2_next := goodIn_r _ [179, 1, 108, 109, 110, 78, 111, 112, 113, 114, 115, 6, 188, 189, 190, 191] (by decide +kernel) (by decide +kernel)
set_option maxRecDepth 20000 in
theorem gX2_isSame_X2_next : GoodIn wsX2_isSame (wsV RX2 88 RX2 yX2_next wsX2_next) := goodIn_app (goodIn_of _ (by decide +kernel)) ggX2_isSame_X2_next
set_option maxRecDepth 20000 in
theorem ggX2_isSame_X1_mean : GoodIn wsX2_isSame wsX1_mean := goodIn_r _ [183, 17, 151, 152, 153, 25, 154, 27, 184, 185, 186, 187, 32, 192, 193, 194, 195, 196, 197, 198, 199, 200, 201, 202, 203, 204, 205] (by decide +kernel) (by decide +kernel)
set_option maxRecDepth 20000 in
theorem gX2_isSame_X1_mean : GoodIn wsX2_isSame (wsV RX2 89 RX1 yX1_mean wsX1_mean) := goodIn_app (goodIn_of _ (by decide +kernel)) ggX2_isSame_X1_mean
theorem dX2_isSame_0 : decode cX2_isSame 0 = .ok (.iconst 0, 1) := by decide +kernel
theorem dX2_isSame_1 : decode cX2_isSame 1 = .ok (.istore_n 2, 1) := by decide +kernel
theorem dX2_isSame_2 : decode cX2_isSame 2 = .ok (.aload_n 0, 1) := by decide +kernel
theorem dX2_isSame_3 : decode cX2_isSame 3 = .ok (.getfield 9, 3) := by decide +kernel
theorem dX2_isSame_6 : decode cX2_isSame 6 = .ok (.arraylength, 1) := by decide +kernel
theorem dX2_isSame_7 : decode cX2_isSame 7 = .ok (.ifCond .ne 7, 3) := by decide +kernel
theorem dX2_isSame_10 : decode cX2_isSame 10 = .ok (.iconst 0, 1) := by decide +kernel
theorem dX2_isSame_11 : decode cX2_isSame 11 = .ok (.goto 6, 3) := by decide +kernel
theorem dX2_isSame_14 : decode cX2_isSame 14 = .ok (.sipush 9999, 3) := by decide +kernel
theorem dX2_isSame_17 : decode cX2_isSame 17 = .ok (.istore_n 3, 1) := by decide +kernel
theorem dX2_isSame_18 : decode cX2_isSame 18 = .ok (.iconst 0, 1) := by decide +kernel
theorem dX2_isSame_19 : decode cX2_isSame 19 = .ok (.istore 4, 2) := by decide +kernel
theorem dX2_isSame_21 : decode cX2_isSame 21 = .ok (.iload 4, 2) := by decide +kernel
theorem dX2_isSame_23 : decode cX2_isSame 23 = .ok (.aload_n 0, 1) := by decide +kernel
theorem dX2_isSame_24 : decode cX2_isSame 24 = .ok (.getfield 9, 3) := by decide +kernel
theorem dX2_isSame_27 : decode cX2_isSame 27 = .ok (.arraylength, 1) := by decide +kernel
theorem dX2_isSame_28 : decode cX2_isSame 28 = .ok (.if_icmp .ge 148, 3) := by decide +kernel
theorem dX2_isSame_31 : decode cX2_isSame 31 = .ok (.iconst 0, 1) := by decide +kernel
theorem dX2_isSame_32 : decode cX2_isSame 32 = .ok (.istore 5, 2) := by decide +kernel
theorem dX2_isSame_34 : decode cX2_isSame 34 = .ok (.iload 5, 2) := by decide +kernel
theorem dX2_isSame_36 : decode cX2_isSame 36 = .ok (.bipush 7, 2) := by decide +kernel
theorem dX2_isSame_38 : decode cX2_isSame 38 = .ok (.if_icmp .ge 32, 3) := by decide +kernel
theorem dX2_isSame_41 : decode cX2_isSame 41 = .ok (.aload_n 1, 1) := by decide +kernel
theorem dX2_isSame_42 : decode cX2_isSame 42 = .ok (.iload 4, 2) := by decide +kernel
theorem dX2_isSame_44 : decode cX2_isSame 44 = .ok (.iload 5, 2) := by decide +kernel
theorem dX2_isSame_46 : decode cX2_isSame 46 = .ok (.invokevirtual 62, 3) := by decide +kernel
theorem dX2_isSame_49 : decode cX2_isSame 49 = .ok (.aload_n 0, 1) := by decide +kernel
theorem dX2_isSame_50 : decode cX2_isSame 50 = .ok (.getfield 9, 3) := by decide +kernel
theorem dX2_isSame_53 : decode cX2_isSame 53 = .ok (.iload 4, 2) := by decide +kernel
theorem dX2_isSame_55 : decode cX2_isSame 55 = .ok (.aaload, 1) := by decide +kernel
theorem dX2_isSame_56 : decode cX2_isSame 56 = .ok (.iload 5, 2) := by decide +kernel
theorem dX2_isSame_58 : decode cX2_isSame 58 = .ok (.iaload, 1) := by decide +kernel
theorem dX2_isSame_59 : decode cX2_isSame 59 = .ok (.if_icmp .eq 5, 3) := by decide +kernel
theorem dX2_isSame_62 : decode cX2_isSame 62 = .ok (.iconst 0, 1) := by decide +kernel
theorem dX2_isSame_63 : decode cX2_isSame 63 = .ok (.ireturn, 1) := by decide +kernel
theorem dX2_isSame_64 : decode cX2_isSame 64 = .ok (.iinc 5 1, 3) := by decide +kernel
theorem dX2_isSame_67 : decode cX2_isSame 67 = .ok (.goto (-33), 3) := by decide +kernel
theorem dX2_isSame_70 : decode cX2_isSame 70 = .ok (.aload_n 1, 1) := by decide +kernel
theorem dX2_isSame_71 : decode cX2_isSame 71 = .ok (.iload 4, 2) := by decide +kernel
theorem dX2_isSame_73 : decode cX2_isSame 73 = .ok (.bipush 8, 2) := by decide +kernel
theorem dX2_isSame_75 : decode cX2_isSame 75 = .ok (.invokevirtual 62, 3) := by decide +kernel
theorem dX2_isSame_78 : decode cX2_isSame 78 = .ok (.aload_n 0, 1) := by decide +kernel
theorem dX2_isSame_79 : decode cX2_isSame 79 = .ok (.iload 4, 2) := by decide +kernel
theorem dX2_isSame_81 : decode cX2_isSame 81 = .ok (.invokevirtual 19, 3) := by decide +kernel
theorem dX2_isSame_84 : decode cX2_isSame 84 = .ok (.if_icmp .ne 18, 3) := by decide +kernel
theorem dX2_isSame_87 : decode cX2_isSame 87 = .ok (.aload_n 1, 1) := by decide +kernel
theorem dX2_isSame_88 : decode cX2_isSame 88 = .ok (.iload 4, 2) := by decide +kernel
theorem dX2_isSame_90 : decode cX2_isSame 90 = .ok (.invokevirtual 67, 3) := by decide +kernel
theorem dX2_isSame_93 : decode cX2_isSame 93 = .ok (.aload_n 0, 1) := by decide +kernel
theorem dX2_isSame_94 : decode cX2_isSame 94 = .ok (.iload 4, 2) := by decide +kernel
theorem dX2_isSame_96 : decode cX2_isSame 96 = .ok (.invokevirtual 70, 3) := by decide +kernel
theorem dX2_isSame_99 : decode cX2_isSame 99 = .ok (.if_icmp .eq 5, 3) := by decide +kernel
theorem dX2_isSame_102 : decode cX2_isSame 102 = .ok (.iconst 0, 1) := by decide +kernel
theorem dX2_isSame_103 : decode cX2_isSame 103 = .ok (.ireturn, 1) := by decide +kernel
theorem dX2_isSame_104 : decode cX2_isSame 104 = .ok (.iconst 0, 1) := by decide +kernel
theorem dX2_isSame_105 : decode cX2_isSame 105 = .ok (.istore 5, 2) := by decide +kernel
theorem dX2_isSame_107 : decode cX2_isSame 107 = .ok (.iload 5, 2) := by decide +kernel
theorem dX2_isSame_109 : decode cX2_isSame 109 = .ok (.aload_n 0, 1) := by decide +kernel
theorem dX2_isSame_110 : decode cX2_isSame 110 = .ok (.getfield 9, 3) := by decide +kernel
theorem dX2_isSame_113 : decode cX2_isSame 113 = .ok (.arraylength, 1) := by decide +kernel
theorem dX2_isSame_114 : decode cX2_isSame 114 = .ok (.if_icmp .ge 30, 3) := by decide +kernel
theorem dX2_isSame_117 : decode cX2_isSame 117 = .ok (.aload_n 1, 1) := by decide +kernel
theorem dX2_isSame_118 : decode cX2_isSame 118 = .ok (.iload 4, 2) := by decide +kernel
theorem dX2_isSame_120 : decode cX2_isSame 120 = .ok (.iload 5, 2) := by decide +kernel
theorem dX2_isSame_122 : decode cX2_isSame 122 = .ok (.invokevirtual 71, 3) := by decide +kernel
theorem dX2_isSame_125 : decode cX2_isSame 125 = .ok (.aload_n 0, 1) := by decide +kernel
theorem dX2_isSame_126 : decode cX2_isSame 126 = .ok (.iload 4, 2) := by decide +kernel
theorem dX2_isSame_128 : decode cX2_isSame 128 = .ok (.iload 5, 2) := by decide +kernel
theorem dX2_isSame_130 : decode cX2_isSame 130 = .ok (.invokevirtual 15, 3) := by decide +kernel
theorem dX2_isSame_133 : decode cX2_isSame 133 = .ok (.if_icmp .eq 5, 3) := by decide +kernel
theorem dX2_isSame_136 : decode cX2_isSame 136 = .ok (.iconst 0, 1) := by decide +kernel
theorem dX2_isSame_137 : decode cX2_isSame 137 = .ok (.ireturn, 1) := by decide +kernel
theorem dX2_isSame_138 : decode cX2_isSame 138 = .ok (.iinc 5 1, 3) := by decide +kernel
theorem dX2_isSame_141 : decode cX2_isSame 141 = .ok (.goto (-34), 3) := by decide +kernel
theorem dX2_isSame_144 : decode cX2_isSame 144 = .ok (.iload_n 2, 1) := by decide +kernel
theorem dX2_isSame_145 : decode cX2_isSame 145 = .ok (.aload_n 0, 1) := by decide +kernel
theorem dX2_isSame_146 : decode cX2_isSame 146 = .ok (.getfield 9, 3) := by decide +kernel
theorem dX2_isSame_149 : decode cX2_isSame 149 = .ok (.iload 4, 2) := by decide +kernel
theorem dX2_isSame_151 : decode cX2_isSame 151 = .ok (.aaload, 1) := by decide +kernel
theorem dX2_isSame_152 : decode cX2_isSame 152 = .ok (.iconst 0, 1) := by decide +kernel
theorem dX2_isSame_153 : decode cX2_isSame 153 = .ok (.iaload, 1) := by decide +kernel
theorem dX2_isSame_154 : decode cX2_isSame 154 = .ok (.iadd, 1) := by decide +kernel
theorem dX2_isSame_155 : decode cX2_isSame 155 = .ok (.istore_n 2, 1) := by decide +kernel
theorem dX2_isSame_156 : decode cX2_isSame 156 = .ok (.iload_n 3, 1) := by decide +kernel
theorem dX2_isSame_157 : decode cX2_isSame 157 = .ok (.aload_n 0, 1) := by decide +kernel
theorem dX2_isSame_158 : decode cX2_isSame 158 = .ok (.getfield 9, 3) := by decide +kernel
theorem dX2_isSame_161 : decode cX2_isSame 161 = .ok (.iload 4, 2) := by decide +kernel
theorem dX2_isSame_163 : decode cX2_isSame 163 = .ok (.aaload, 1) := by decide +kernel
theorem dX2_isSame_164 : decode cX2_isSame 164 = .ok (.iconst 0, 1) := by decide +kernel
theorem dX2_isSame_165 : decode cX2_isSame 165 = .ok (.iaload, 1) := by decide +kernel
theorem dX2_isSame_166 : decode cX2_isSame 166 = .ok (.invokestatic 72, 3) := by decide +kernel
theorem dX2_isSame_169 : decode cX2_isSame 169 = .ok (.istore_n 3, 1) := by decide +kernel
theorem dX2_isSame_170 : decode cX2_isSame 170 = .ok (.iinc 4 1, 3) := by decide +kernel
theorem dX2_isSame_173 : decode cX2_isSame 173 = .ok (.goto (-152), 3) := by decide +kernel
theorem dX2_isSame_176 : decode cX2_isSame 176 = .ok (.bipush 9, 2) := by decide +kernel
theorem dX2_isSame_178 : decode cX2_isSame 178 = .ok (.newarray .int, 2) := by decide +kernel
theorem dX2_isSame_180 : decode cX2_isSame 180 = .ok (.dup, 1) := by decide +kernel
theorem dX2_isSame_181 : decode cX2_isSame 181 = .ok (.iconst 0, 1) := by decide +kernel
theorem dX2_isSame_182 : decode cX2_isSame 182 = .ok (.aload_n 0, 1) := by decide +kernel
theorem dX2_isSame_183 : decode cX2_isSame 183 = .ok (.getfield 45, 3) := by decide +kernel
theorem dX2_isSame_186 : decode cX2_isSame 186 = .ok (.iastore, 1) := by decide +kernel
theorem dX2_isSame_187 : decode cX2_isSame 187 = .ok (.dup, 1) := by decide +kernel
theorem dX2_isSame_188 : decode cX2_isSame 188 = .ok (.iconst 1, 1) := by decide +kernel
theorem dX2_isSame_189 : decode cX2_isSame 189 = .ok (.aload_n 0, 1) := by decide +kernel
theorem dX2_isSame_190 : decode cX2_isSame 190 = .ok (.getfield 9, 3) := by decide +kernel
theorem dX2_isSame_193 : decode cX2_isSame 193 = .ok (.arraylength, 1) := by decide +kernel
theorem dX2_isSame_194 : decode cX2_isSame 194 = .ok (.iastore, 1) := by decide +kernel
theorem dX2_isSame_195 : decode cX2_isSame 195 = .ok (.dup, 1) := by decide +kernel
theorem dX2_isSame_196 : decode cX2_isSame 196 = .ok (.iconst 2, 1) := by decide +kernel
theorem dX2_isSame_197 : decode cX2_isSame 197 = .ok (.aload_n 0, 1) := by decide +kernel
theorem dX2_isSame_198 : decode cX2_isSame 198 = .ok (.getfield 38, 3) := by decide +kernel
theorem dX2_isSame_201 : decode cX2_isSame 201 = .ok (.iastore, 1) := by decide +kernel
theorem dX2_isSame_202 : decode cX2_isSame 202 = .ok (.dup, 1) := by decide +kernel
theorem dX2_isSame_203 : decode cX2_isSame 203 = .ok (.iconst 3, 1) := by decide +kernel
theorem dX2_isSame_204 : decode cX2_isSame 204 = .ok (.aload_n 0, 1) := by decide +kernel
theorem dX2_isSame_205 : decode cX2_isSame 205 = .ok (.getfield 27, 3) := by decide +kernel
theorem dX2_isSame_208 : decode cX2_isSame 208 = .ok (.iastore, 1) := by decide +kernel
theorem dX2_isSame_209 : decode cX2_isSame 209 = .ok (.dup, 1) := by decide +kernel
theorem dX2_isSame_210 : decode cX2_isSame 210 = .ok (.iconst 4, 1) := by decide +kernel
theorem dX2_isSame_211 : decode cX2_isSame 211 = .ok (.iconst 0, 1) := by decide +kernel
theorem dX2_isSame_212 : decode cX2_isSame 212 = .ok (.iastore, 1) := by decide +kernel
theorem dX2_isSame_213 : decode cX2_isSame 213 = .ok (.dup, 1) := by decide +kernel
theorem dX2_isSame_214 : decode cX2_isSame 214 = .ok (.iconst 5, 1) := by decide +kernel
theorem dX2_isSame_215 : decode cX2_isSame 215 = .ok (.iconst 0, 1) := by decide +kernel
theorem dX2_isSame_216 : decode cX2_isSame 216 = .ok (.iastore, 1) := by decide +kernel
theorem dX2_isSame_217 : decode cX2_isSame 217 = .ok (.dup, 1) := by decide +kernel
theorem dX2_isSame_218 : decode cX2_isSame 218 = .ok (.bipush 6, 2) := by decide +kernel
theorem dX2_isSame_220 : decode cX2_isSame 220 = .ok (.iconst 0, 1) := by decide +kernel
theorem dX2_isSame_221 : decode cX2_isSame 221 = .ok (.iastore, 1) := by decide +kernel
theorem dX2_isSame_222 : decode cX2_isSame 222 = .ok (.dup, 1) := by decide +kernel
theorem dX2_isSame_223 : decode cX2_isSame 223 = .ok (.bipush 7, 2) := by decide +kernel
theorem dX2_isSame_225 : decode cX2_isSame 225 = .ok (.aload_n 0, 1) := by decide +kernel
theorem dX2_isSame_226 : decode cX2_isSame 226 = .ok (.invokevirtual 75, 3) := by decide +kernel
theorem dX2_isSame_229 : decode cX2_isSame 229 = .ok (.iastore, 1) := by decide +kernel
theorem dX2_isSame_230 : decode cX2_isSame 230 = .ok (.dup, 1) := by decide +kernel
theorem dX2_isSame_231 : decode cX2_isSame 231 = .ok (.bipush 8, 2) := by decide +kernel
theorem dX2_isSame_233 : decode cX2_isSame 233 = .ok (.iload_n 3, 1) := by decide +kernel
theorem dX2_isSame_234 : decode cX2_isSame 234 = .ok (.iastore, 1) := by decide +kernel
theorem dX2_isSame_235 : decode cX2_isSame 235 = .ok (.astore 4, 2) := by decide +kernel
theorem dX2_isSame_237 : decode cX2_isSame 237 = .ok (.iconst 0, 1) := by decide +kernel
theorem dX2_isSame_238 : decode cX2_isSame 238 = .ok (.istore 5, 2) := by decide +kernel
theorem dX2_isSame_240 : decode cX2_isSame 240 = .ok (.iload 5, 2) := by decide +kernel
theorem dX2_isSame_242 : decode cX2_isSame 242 = .ok (.iconst 3, 1) := by decide +kernel
theorem dX2_isSame_243 : decode cX2_isSame 243 = .ok (.if_icmp .ge 82, 3) := by decide +kernel
theorem dX2_isSame_246 : decode cX2_isSame 246 = .ok (.aload_n 0, 1) := by decide +kernel
theorem dX2_isSame_247 : decode cX2_isSame 247 = .ok (.iload 5, 2) := by decide +kernel
theorem dX2_isSame_249 : decode cX2_isSame 249 = .ok (.invokevirtual 41, 3) := by decide +kernel
theorem dX2_isSame_252 : decode cX2_isSame 252 = .ok (.astore 6, 2) := by decide +kernel
theorem dX2_isSame_254 : decode cX2_isSame 254 = .ok (.aload 4, 2) := by decide +kernel
theorem dX2_isSame_256 : decode cX2_isSame 256 = .ok (.iconst 4, 1) := by decide +kernel
theorem dX2_isSame_257 : decode cX2_isSame 257 = .ok (.iload 5, 2) := by decide +kernel
theorem dX2_isSame_259 : decode cX2_isSame 259 = .ok (.iadd, 1) := by decide +kernel
theorem dX2_isSame_260 : decode cX2_isSame 260 = .ok (.aload 6, 2) := by decide +kernel
theorem dX2_isSame_262 : decode cX2_isSame 262 = .ok (.arraylength, 1) := by decide +kernel
theorem dX2_isSame_263 : decode cX2_isSame 263 = .ok (.iastore, 1) := by decide +kernel
theorem dX2_isSame_264 : decode cX2_isSame 264 = .ok (.iconst 0, 1) := by decide +kernel
theorem dX2_isSame_265 : decode cX2_isSame 265 = .ok (.istore 7, 2) := by decide +kernel
theorem dX2_isSame_267 : decode cX2_isSame 267 = .ok (.iload 7, 2) := by decide +kernel
theorem dX2_isSame_269 : decode cX2_isSame 269 = .ok (.aload 6, 2) := by decide +kernel
theorem dX2_isSame_271 : decode cX2_isSame 271 = .ok (.arraylength, 1) := by decide +kernel
theorem dX2_isSame_272 : decode cX2_isSame 272 = .ok (.if_icmp .ge 47, 3) := by decide +kernel
theorem dX2_isSame_275 : decode cX2_isSame 275 = .ok (.aload_n 1, 1) := by decide +kernel
theorem dX2_isSame_276 : decode cX2_isSame 276 = .ok (.iload 5, 2) := by decide +kernel
theorem dX2_isSame_278 : decode cX2_isSame 278 = .ok (.iload 7, 2) := by decide +kernel
theorem dX2_isSame_280 : decode cX2_isSame 280 = .ok (.iconst 1, 1) := by decide +kernel
theorem dX2_isSame_281 : decode cX2_isSame 281 = .ok (.iadd, 1) := by decide +kernel
theorem dX2_isSame_282 : decode cX2_isSame 282 = .ok (.invokevirtual 79, 3) := by decide +kernel
theorem dX2_isSame_285 : decode cX2_isSame 285 = .ok (.aload 6, 2) := by decide +kernel
theorem dX2_isSame_287 : decode cX2_isSame 287 = .ok (.iload 7, 2) := by decide +kernel
theorem dX2_isSame_289 : decode cX2_isSame 289 = .ok (.iaload, 1) := by decide +kernel
theorem dX2_isSame_290 : decode cX2_isSame 290 = .ok (.if_icmp .ne 21, 3) := by decide +kernel
theorem dX2_isSame_293 : decode cX2_isSame 293 = .ok (.aload_n 1, 1) := by decide +kernel
theorem dX2_isSame_294 : decode cX2_isSame 294 = .ok (.aload 6, 2) := by decide +kernel
theorem dX2_isSame_296 : decode cX2_isSame 296 = .ok (.iload 7, 2) := by decide +kernel
theorem dX2_isSame_298 : decode cX2_isSame 298 = .ok (.iaload, 1) := by decide +kernel
theorem dX2_isSame_299 : decode cX2_isSame 299 = .ok (.bipush 7, 2) := by decide +kernel
theorem dX2_isSame_301 : decode cX2_isSame 301 = .ok (.invokevirtual 62, 3) := by decide +kernel
theorem dX2_isSame_304 : decode cX2_isSame 304 = .ok (.iload 7, 2) := by decide +kernel
theorem dX2_isSame_306 : decode cX2_isSame 306 = .ok (.iconst 1, 1) := by decide +kernel
theorem dX2_isSame_307 : decode cX2_isSame 307 = .ok (.iadd, 1) := by decide +kernel
theorem dX2_isSame_308 : decode cX2_isSame 308 = .ok (.if_icmp .eq 5, 3) := by decide +kernel
theorem dX2_isSame_311 : decode cX2_isSame 311 = .ok (.iconst 0, 1) := by decide +kernel
theorem dX2_isSame_312 : decode cX2_isSame 312 = .ok (.ireturn, 1) := by decide +kernel
theorem dX2_isSame_313 : decode cX2_isSame 313 = .ok (.iinc 7 1, 3) := by decide +kernel
theorem dX2_isSame_316 : decode cX2_isSame 316 = .ok (.goto (-49), 3) := by decide +kernel
theorem dX2_isSame_319 : decode cX2_isSame 319 = .ok (.iinc 5 1, 3) := by decide +kernel
theorem dX2_isSame_322 : decode cX2_isSame 322 = .ok (.goto (-82), 3) := by decide +kernel
theorem dX2_isSame_325 : decode cX2_isSame 325 = .ok (.iconst 0, 1) := by decide +kernel
theorem dX2_isSame_326 : decode cX2_isSame 326 = .ok (.istore 5, 2) := by decide +kernel
theorem dX2_isSame_328 : decode cX2_isSame 328 = .ok (.iload 5, 2) := by decide +kernel
theorem dX2_isSame_330 : decode cX2_isSame 330 = .ok (.bipush 9, 2) := by decide +kernel
theorem dX2_isSame_332 : decode cX2_isSame 332 = .ok (.if_icmp .ge 25, 3) := by decide +kernel
theorem dX2_isSame_335 : decode cX2_isSame 335 = .ok (.aload_n 1, 1) := by decide +kernel
theorem dX2_isSame_336 : decode cX2_isSame 336 = .ok (.iload 5, 2) := by decide +kernel
theorem dX2_isSame_338 : decode cX2_isSame 338 = .ok (.invokevirtual 82, 3) := by decide +kernel
theorem dX2_isSame_341 : decode cX2_isSame 341 = .ok (.aload 4, 2) := by decide +kernel
theorem dX2_isSame_343 : decode cX2_isSame 343 = .ok (.iload 5, 2) := by decide +kernel
theorem dX2_isSame_345 : decode cX2_isSame 345 = .ok (.iaload, 1) := by decide +kernel
theorem dX2_isSame_346 : decode cX2_isSame 346 = .ok (.if_icmp .eq 5, 3) := by decide +kernel
theorem dX2_isSame_349 : decode cX2_isSame 349 = .ok (.iconst 0, 1) := by decide +kernel
theorem dX2_isSame_350 : decode cX2_isSame 350 = .ok (.ireturn, 1) := by decide +kernel
theorem dX2_isSame_351 : decode cX2_isSame 351 = .ok (.iinc 5 1, 3) := by decide +kernel
theorem dX2_isSame_354 : decode cX2_isSame 354 = .ok (.goto (-26), 3) := by decide +kernel
theorem dX2_isSame_357 : decode cX2_isSame 357 = .ok (.aload_n 1, 1) := by decide +kernel
theorem dX2_isSame_358 : decode cX2_isSame 358 = .ok (.invokevirtual 85, 3) := by decide +kernel
theorem dX2_isSame_361 : decode cX2_isSame 361 = .ok (.aload_n 0, 1) := by decide +kernel
theorem dX2_isSame_362 : decode cX2_isSame 362 = .ok (.invokevirtual 88, 3) := by decide +kernel
theorem dX2_isSame_365 : decode cX2_isSame 365 = .ok (.if_icmp .ne 36, 3) := by decide +kernel
theorem dX2_isSame_368 : decode cX2_isSame 368 = .ok (.aload_n 1, 1) := by decide +kernel
theorem dX2_isSame_369 : decode cX2_isSame 369 = .ok (.invokevirtual 89, 3) := by decide +kernel
theorem dX2_isSame_372 : decode cX2_isSame 372 = .ok (.aload_n 0, 1) := by decide +kernel
theorem dX2_isSame_373 : decode cX2_isSame 373 = .ok (.getfield 9, 3) := by decide +kernel
theorem dX2_isSame_376 : decode cX2_isSame 376 = .ok (.arraylength, 1) := by decide +kernel
theorem dX2_isSame_377 : decode cX2_isSame 377 = .ok (.ifCond .ne 7, 3) := by decide +kernel
theorem dX2_isSame_380 : decode cX2_isSame 380 = .ok (.dconst 0, 1) := by decide +kernel
theorem dX2_isSame_381 : decode cX2_isSame 381 = .ok (.goto 12, 3) := by decide +kernel
theorem dX2_isSame_384 : decode cX2_isSame 384 = .ok (.iload_n 2, 1) := by decide +kernel
theorem dX2_isSame_385 : decode cX2_isSame 385 = .ok (.i2d, 1) := by decide +kernel
theorem dX2_isSame_386 : decode cX2_isSame 386 = .ok (.aload_n 0, 1) := by decide +kernel
theorem dX2_isSame_387 : decode cX2_isSame 387 = .ok (.getfield 9, 3) := by decide +kernel
theorem dX2_isSame_390 : decode cX2_isSame 390 = .ok (.arraylength, 1) := by decide +kernel
theorem dX2_isSame_391 : decode cX2_isSame 391 = .ok (.i2d, 1) := by decide +kernel
theorem dX2_isSame_392 : decode cX2_isSame 392 = .ok (.ddiv, 1) := by decide +kernel
theorem dX2_isSame_393 : decode cX2_isSame 393 = .ok (.dcmp .l, 1) := by decide +kernel
theorem dX2_isSame_394 : decode cX2_isSame 394 = .ok (.ifCond .ne 7, 3) := by decide +kernel
theorem dX2_isSame_397 : decode cX2_isSame 397 = .ok (.iconst 1, 1) := by decide +kernel
theorem dX2_isSame_398 : decode cX2_isSame 398 = .ok (.goto 4, 3) := by decide +kernel
theorem dX2_isSame_401 : decode cX2_isSame 401 = .ok (.iconst 0, 1) := by decide +kernel
theorem dX2_isSame_402 : decode cX2_isSame 402 = .ok (.ireturn, 1) := by decide +kernel
theorem dJ9_abs_0f7a4_0 : decode cJ9_abs_0f7a4 0 = .ok (.iload_n 0, 1) := by decide +kernel
theorem dJ9_abs_0f7a4_1 : decode cJ9_abs_0f7a4 1 = .ok (.ifCond .ge 8, 3) := by decide +kernel
theorem dJ9_abs_0f7a4_4 : decode cJ9_abs_0f7a4 4 = .ok (.iload_n 0, 1) := by decide +kernel
theorem dJ9_abs_0f7a4_5 : decode cJ9_abs_0f7a4 5 = .ok (.ineg, 1) := by decide +kernel
theorem dJ9_abs_0f7a4_6 : decode cJ9_abs_0f7a4 6 = .ok (.goto 4, 3) := by decide +kernel
theorem dJ9_abs_0f7a4_9 : decode cJ9_abs_0f7a4 9 = .ok (.iload_n 0, 1) := by decide +kernel
theorem dJ9_abs_0f7a4_10 : decode cJ9_abs_0f7a4 10 = .ok (.ireturn, 1) := by decide +kernel
theorem dJ9_abs_294c1_0 : decode cJ9_abs_294c1 0 = .ok (.dload_n 0, 1) := by decide +kernel
theorem dJ9_abs_294c1_1 : decode cJ9_abs_294c1 1 = .ok (.invokestatic 79, 3) := by decide +kernel
theorem dJ9_abs_294c1_4 : decode cJ9_abs_294c1 4 = .ok (.ldc2_w 135, 3) := by decide +kernel
theorem dJ9_abs_294c1_7 : decode cJ9_abs_294c1 7 = .ok (.land, 1) := by decide +kernel
theorem dJ9_abs_294c1_8 : decode cJ9_abs_294c1 8 = .ok (.invokestatic 166, 3) := by decide +kernel
theorem dJ9_abs_294c1_11 : decode cJ9_abs_294c1 11 = .ok (.dreturn, 1) := by decide +kernel
theorem dJ9_max_7cf53_0 : decode cJ9_max_7cf53 0 = .ok (.iload_n 0, 1) := by decide +kernel
theorem dJ9_max_7cf53_1 : decode cJ9_max_7cf53 1 = .ok (.iload_n 1, 1) := by decide +kernel
theorem dJ9_max_7cf53_2 : decode cJ9_max_7cf53 2 = .ok (.if_icmp .lt 7, 3) := by decide +kernel
theorem dJ9_max_7cf53_5 : decode cJ9_max_7cf53 5 = .ok (.iload_n 0, 1) := by decide +kernel
theorem dJ9_max_7cf53_6 : decode cJ9_max_7cf53 6 = .ok (.goto 4, 3) := by decide +kernel
theorem dJ9_max_7cf53_9 : decode cJ9_max_7cf53 9 = .ok (.iload_n 1, 1) := by decide +kernel
theorem dJ9_max_7cf53_10 : decode cJ9_max_7cf53 10 = .ok (.ireturn, 1) := by decide +kernel
theorem dJ9_min_7cf53_0 : decode cJ9_min_7cf53 0 = .ok (.iload_n 0, 1) := by decide +kernel
theorem dJ9_min_7cf53_1 : decode cJ9_min_7cf53 1 = .ok (.iload_n 1, 1) := by decide +kernel
theorem dJ9_min_7cf53_2 : decode cJ9_min_7cf53 2 = .ok (.if_icmp .gt 7, 3) := by decide +kernel
theorem dJ9_min_7cf53_5 : decode cJ9_min_7cf53 5 = .ok (.iload_n 0, 1) := by decide +kernel
theorem dJ9_min_7cf53_6 : decode cJ9_min_7cf53 6 = .ok (.goto 4, 3) := by decide +kernel
theorem dJ9_min_7cf53_9 : decode cJ9_min_7cf53 9 = .ok (.iload_n 1, 1) := by decide +kernel
theorem dJ9_min_7cf53_10 : decode cJ9_min_7cf53 10 = .ok (.ireturn, 1) := by decide +kernel
theorem dL_below_0 : decode cL_below 0 = .ok (.iload_n 0, 1) := by decide +kernel
theorem dL_below_1 : decode cL_below 1 = .ok (.ldc 7, 2) := by decide +kernel
theorem dL_below_3 : decode cL_below 3 = .ok (.iand, 1) := by decide +kernel
theorem dL_below_4 : decode cL_below 4 = .ok (.iload_n 1, 1) := by decide +kernel
theorem dL_below_5 : decode cL_below 5 = .ok (.irem, 1) := by decide +kernel
theorem dL_below_6 : decode cL_below 6 = .ok (.ireturn, 1) := by decide +kernel
theorem dL_cell_0 : decode cL_cell 0 = .ok (.iload_n 1, 1) := by decide +kernel
theorem dL_cell_1 : decode cL_cell 1 = .ok (.aload_n 0, 1) := by decide +kernel
theorem dL_cell_2 : decode cL_cell 2 = .ok (.arraylength, 1) := by decide +kernel
theorem dL_cell_3 : decode cL_cell 3 = .ok (.if_icmp .ge 9, 3) := by decide +kernel
theorem dL_cell_6 : decode cL_cell 6 = .ok (.aload_n 0, 1) := by decide +kernel
theorem dL_cell_7 : decode cL_cell 7 = .ok (.iload_n 1, 1) := by decide +kernel
theorem dL_cell_8 : decode cL_cell 8 = .ok (.iaload, 1) := by decide +kernel
theorem dL_cell_9 : decode cL_cell 9 = .ok (.goto 9, 3) := by decide +kernel
theorem dL_cell_12 : decode cL_cell 12 = .ok (.ldc 8, 2) := by decide +kernel
theorem dL_cell_14 : decode cL_cell 14 = .ok (.iload_n 1, 1) := by decide +kernel
theorem dL_cell_15 : decode cL_cell 15 = .ok (.iconst 3, 1) := by decide +kernel
theorem dL_cell_16 : decode cL_cell 16 = .ok (.iadd, 1) := by decide +kernel
theorem dL_cell_17 : decode cL_cell 17 = .ok (.imul, 1) := by decide +kernel
theorem dL_cell_18 : decode cL_cell 18 = .ok (.ireturn, 1) := by decide +kernel
set_option maxRecDepth 20000 in
theorem ggL_act_L_below : GoodIn wsL_act wsL_below := goodIn_r _ [8, 9] (by decide +kernel) (by decide +kernel)
set_option maxRecDepth 20000 in
theorem gL_act_L_below : GoodIn wsL_act (va_wsS RL 15 yL_below wsL_below) := goodIn_app (goodIn_of _ (by decide +kernel)) ggL_act_L_below
set_option maxRecDepth 20000 in
theorem ggL_act_X1_join : GoodIn wsL_act wsX1_join := goodIn_ca (goodIn_ca (goodIn_r _ [14, 15, 16, 17, 18, 19, 20, 21, 13, 22, 23, 24, 25, 26, 27, 28, 29, 30, 31, 32, 33, 34, 35, 185, 186, 187, 188, 189, 190, 191, 192, 193, 194, 195, 196, 197, 198] (by decide +kernel) (by decide +kernel)) (goodIn_sub (fun _ h => List.mem_cons_of_mem _ (List.mem_append_left _ (List.mem_append_left _ (List.mem_append_right _ h)))) (by decide +kernel))) (goodIn_sub (fun _ h => List.mem_cons_of_mem _ (List.mem_append_left _ (List.mem_append_right _ h))) (by decide +kernel))
set_option maxRecDepth 20000 in
theorem gL_act_X1_join : GoodIn wsL_act (wsV RL 23 RX1 yX1_join wsX1_join) := goodIn_app (goodIn_of _ (by decide +kernel)) ggL_act_X1_join
set_option maxRecDepth 20000 in
theorem ggL_act_X2_raise : GoodIn wsL_act wsX2_raise := goodIn_r _ [40, 41, 181, 182, 183, 184] (by decide +kernel) (by decide +kernel)
set_option maxRecDepth 20000 in
theorem gL_act_X2_raise : GoodIn wsL_act (wsV RL 31 RX2 yX2_raise wsX2_raise) := goodIn_app (goodIn_of _ (by decide +kernel)) ggL_act_X2_raise
set_option maxRecDepth 20000 in
theorem ggL_act_X1_rate : GoodIn wsL_act wsX1_rate := goodIn_ca (goodIn_ca (goodIn_r _ [45, 15, 16, 19, 46, 47, 48, 13, 49, 50, 51, 52, 53, 54, 26, 55, 28, 56, 57, 58, 59, 34, 60, 61, 62, 63, 35, 64, 65, 66, 67, 185, 186, 187, 188, 189, 190, 191, 192, 193, 194, 195, 196, 197, 198] (by decide +kernel) (by decide +kernel)) (goodIn_sub (fun _ h => List.mem_cons_of_mem _ (List.mem_append_left _ (List.mem_append_left _ (List.mem_append_right _ h)))) (by decide +kernel))) (goodIn_sub (fun _ h => List.mem_cons_of_mem _ (List.mem_append_right _ h)) (by decide +kernel))
set_option maxRecDepth 20000 in
theorem gL_act_X1_rate : GoodIn wsL_act (wsV RL 35 RX1 yX1_rate wsX1_rate) := goodIn_app (goodIn_of _ (by decide +kernel)) ggL_act_X1_rate
set_option maxRecDepth 20000 in
theorem ggL_act_X1_end : GoodIn wsL_act wsX1_end := goodIn_r _ [71, 19, 72, 73, 74, 75, 26, 76, 28, 77, 34, 78, 61, 62, 63, 35, 64, 65, 66, 67, 79, 80, 81, 82, 83, 33, 84, 85, 86, 87, 88, 89, 90, 91, 92, 93, 94, 95, 96, 97, 98, 99, 100, 101, 102, 103, 185, 186, 187, 188, 189, 190, 191, 192, 193, 194, 195, 196, 197, 198] (by decide +kernel) (by decide +kernel)
set_option maxRecDepth 20000 in
theorem gL_act_X1_end : GoodIn wsL_act (wsV RL 38 RX1 yX1_end wsX1_end) := goodIn_app (goodIn_of _ (by decide +kernel)) ggL_act_X1_end
set_option maxRecDepth 20000 in
theorem ggL_act_X2_end : GoodIn wsL_act wsX2_end := goodIn_r _ [107, 41, 108, 109, 37, 38, 39, 40, 110, 111, 112, 113, 4, 181, 182, 183, 184] (by decide +kernel) (by decide +kernel)
set_option maxRecDepth 20000 in
theorem gL_act_X2_end : GoodIn wsL_act (wsV RL 42 RX2 yX2_end wsX2_end) := goodIn_app (goodIn_of _ (by decide +kernel)) ggL_act_X2_end
set_option maxRecDepth 20000 in
theorem ggL_act_X1_bout : GoodIn wsL_act wsX1_bout := goodIn_ca (goodIn_ca (goodIn_r _ [117, 19, 118, 119, 46, 47, 48, 13, 49, 50, 51, 52, 53, 54, 26, 55, 28, 120, 121, 122, 15, 16, 123, 124, 125, 126, 127, 128, 129, 130, 131, 132, 133, 34, 134, 135, 136, 137, 138, 66, 139, 140, 141, 142, 143, 144, 145, 146, 147, 148, 64, 65, 67, 149, 150, 151, 152, 153, 154, 155, 156, 157, 83, 77, 158, 78, 61, 62, 63, 35, 185, 186, 187, 188, 189, 190, 191, 192, 193, 194, 195, 196, 197, 198] (by decide +kernel) (by decide +kernel)) (goodIn_sub (fun _ h => List.mem_cons_of_mem _ (List.mem_append_right _ h)) (by decide +kernel))) (goodIn_sub (fun _ h => List.mem_cons_of_mem _ (List.mem_append_left _ (List.mem_append_left _ (List.mem_append_right _ h)))) (by decide +kernel))
set_option maxRecDepth 20000 in
theorem gL_act_X1_bout : GoodIn wsL_act (wsV RL 43 RX1 yX1_bout wsX1_bout) := goodIn_app (goodIn_of _ (by decide +kernel)) ggL_act_X1_bout
set_option maxRecDepth 20000 in
theorem ggL_act_X2_bout : GoodIn wsL_act wsX2_bout := goodIn_r _ [162, 163, 164, 165, 166, 167, 39, 168, 41, 169, 170, 171, 172, 173, 174, 175, 176, 4, 109, 37, 38, 40, 177, 178, 179, 180, 181, 182, 183, 184] (by decide +kernel) (by decide +kernel)
set_option maxRecDepth 20000 in
theorem gL_act_X2_bout : GoodIn wsL_act (wsV RL 47 RX2 yX2_bout wsX2_bout) := goodIn_app (goodIn_of _ (by decide +kernel)) ggL_act_X2_bout
theorem dL_act_0 : decode cL_act 0 = .ok (.aload_n 1, 1) := by decide +kernel
theorem dL_act_1 : decode cL_act 1 = .ok (.getfield 9, 3) := by decide +kernel
theorem dL_act_4 : decode cL_act 4 = .ok (.arraylength, 1) := by decide +kernel
theorem dL_act_5 : decode cL_act 5 = .ok (.istore_n 3, 1) := by decide +kernel
theorem dL_act_6 : decode cL_act 6 = .ok (.iload_n 3, 1) := by decide +kernel
theorem dL_act_7 : decode cL_act 7 = .ok (.ifCond .ne 7, 3) := by decide +kernel
theorem dL_act_10 : decode cL_act 10 = .ok (.iconst 0, 1) := by decide +kernel
theorem dL_act_11 : decode cL_act 11 = .ok (.goto 10, 3) := by decide +kernel
theorem dL_act_14 : decode cL_act 14 = .ok (.iload_n 2, 1) := by decide +kernel
theorem dL_act_15 : decode cL_act 15 = .ok (.iconst 4, 1) := by decide +kernel
theorem dL_act_16 : decode cL_act 16 = .ok (.ishr, 1) := by decide +kernel
theorem dL_act_17 : decode cL_act 17 = .ok (.iload_n 3, 1) := by decide +kernel
theorem dL_act_18 : decode cL_act 18 = .ok (.invokestatic 15, 3) := by decide +kernel
theorem dL_act_21 : decode cL_act 21 = .ok (.istore 4, 2) := by decide +kernel
theorem dL_act_23 : decode cL_act 23 = .ok (.iload_n 3, 1) := by decide +kernel
theorem dL_act_24 : decode cL_act 24 = .ok (.ifCond .ne 7, 3) := by decide +kernel
theorem dL_act_27 : decode cL_act 27 = .ok (.iconst 0, 1) := by decide +kernel
theorem dL_act_28 : decode cL_act 28 = .ok (.goto 11, 3) := by decide +kernel
theorem dL_act_31 : decode cL_act 31 = .ok (.iload_n 2, 1) := by decide +kernel
theorem dL_act_32 : decode cL_act 32 = .ok (.bipush 6, 2) := by decide +kernel
theorem dL_act_34 : decode cL_act 34 = .ok (.ishr, 1) := by decide +kernel
theorem dL_act_35 : decode cL_act 35 = .ok (.iload_n 3, 1) := by decide +kernel
theorem dL_act_36 : decode cL_act 36 = .ok (.invokestatic 15, 3) := by decide +kernel
theorem dL_act_39 : decode cL_act 39 = .ok (.istore 5, 2) := by decide +kernel
theorem dL_act_41 : decode cL_act 41 = .ok (.iload_n 2, 1) := by decide +kernel
theorem dL_act_42 : decode cL_act 42 = .ok (.bipush 14, 2) := by decide +kernel
theorem dL_act_44 : decode cL_act 44 = .ok (.invokestatic 15, 3) := by decide +kernel
theorem dL_act_47 : decode cL_act 47 = .ok (.tableswitch 284 0 3 #[29, 29, 167, 255], 29) := by decide +kernel
theorem dL_act_76 : decode cL_act 76 = .ok (.iload_n 2, 1) := by decide +kernel
theorem dL_act_77 : decode cL_act 77 = .ok (.iconst 5, 1) := by decide +kernel
theorem dL_act_78 : decode cL_act 78 = .ok (.ishr, 1) := by decide +kernel
theorem dL_act_79 : decode cL_act 79 = .ok (.iconst 3, 1) := by decide +kernel
theorem dL_act_80 : decode cL_act 80 = .ok (.invokestatic 15, 3) := by decide +kernel
theorem dL_act_83 : decode cL_act 83 = .ok (.istore 6, 2) := by decide +kernel
theorem dL_act_85 : decode cL_act 85 = .ok (.iload_n 3, 1) := by decide +kernel
theorem dL_act_86 : decode cL_act 86 = .ok (.bipush 12, 2) := by decide +kernel
theorem dL_act_88 : decode cL_act 88 = .ok (.if_icmp .ge 86, 3) := by decide +kernel
theorem dL_act_91 : decode cL_act 91 = .ok (.iload_n 3, 1) := by decide +kernel
theorem dL_act_92 : decode cL_act 92 = .ok (.iconst 1, 1) := by decide +kernel
theorem dL_act_93 : decode cL_act 93 = .ok (.iadd, 1) := by decide +kernel
theorem dL_act_94 : decode cL_act 94 = .ok (.anewarray 21, 3) := by decide +kernel
theorem dL_act_97 : decode cL_act 97 = .ok (.astore 7, 2) := by decide +kernel
theorem dL_act_99 : decode cL_act 99 = .ok (.iconst 0, 1) := by decide +kernel
theorem dL_act_100 : decode cL_act 100 = .ok (.istore 8, 2) := by decide +kernel
theorem dL_act_102 : decode cL_act 102 = .ok (.iload 8, 2) := by decide +kernel
theorem dL_act_104 : decode cL_act 104 = .ok (.iload_n 3, 1) := by decide +kernel
theorem dL_act_105 : decode cL_act 105 = .ok (.if_icmp .ge 21, 3) := by decide +kernel
theorem dL_act_108 : decode cL_act 108 = .ok (.aload 7, 2) := by decide +kernel
theorem dL_act_110 : decode cL_act 110 = .ok (.iload 8, 2) := by decide +kernel
theorem dL_act_112 : decode cL_act 112 = .ok (.aload_n 1, 1) := by decide +kernel
theorem dL_act_113 : decode cL_act 113 = .ok (.getfield 9, 3) := by decide +kernel
theorem dL_act_116 : decode cL_act 116 = .ok (.iload 8, 2) := by decide +kernel
theorem dL_act_118 : decode cL_act 118 = .ok (.aaload, 1) := by decide +kernel
theorem dL_act_119 : decode cL_act 119 = .ok (.aastore, 1) := by decide +kernel
theorem dL_act_120 : decode cL_act 120 = .ok (.iinc 8 1, 3) := by decide +kernel
theorem dL_act_123 : decode cL_act 123 = .ok (.goto (-21), 3) := by decide +kernel
theorem dL_act_126 : decode cL_act 126 = .ok (.aload 7, 2) := by decide +kernel
theorem dL_act_128 : decode cL_act 128 = .ok (.iload_n 3, 1) := by decide +kernel
theorem dL_act_129 : decode cL_act 129 = .ok (.bipush 7, 2) := by decide +kernel
theorem dL_act_131 : decode cL_act 131 = .ok (.newarray .int, 2) := by decide +kernel
theorem dL_act_133 : decode cL_act 133 = .ok (.dup, 1) := by decide +kernel
theorem dL_act_134 : decode cL_act 134 = .ok (.iconst 0, 1) := by decide +kernel
theorem dL_act_135 : decode cL_act 135 = .ok (.sipush 1000, 3) := by decide +kernel
theorem dL_act_138 : decode cL_act 138 = .ok (.iastore, 1) := by decide +kernel
theorem dL_act_139 : decode cL_act 139 = .ok (.dup, 1) := by decide +kernel
theorem dL_act_140 : decode cL_act 140 = .ok (.iconst 1, 1) := by decide +kernel
theorem dL_act_141 : decode cL_act 141 = .ok (.iload 6, 2) := by decide +kernel
theorem dL_act_143 : decode cL_act 143 = .ok (.iastore, 1) := by decide +kernel
theorem dL_act_144 : decode cL_act 144 = .ok (.dup, 1) := by decide +kernel
theorem dL_act_145 : decode cL_act 145 = .ok (.iconst 2, 1) := by decide +kernel
theorem dL_act_146 : decode cL_act 146 = .ok (.iconst 0, 1) := by decide +kernel
theorem dL_act_147 : decode cL_act 147 = .ok (.iastore, 1) := by decide +kernel
theorem dL_act_148 : decode cL_act 148 = .ok (.dup, 1) := by decide +kernel
theorem dL_act_149 : decode cL_act 149 = .ok (.iconst 3, 1) := by decide +kernel
theorem dL_act_150 : decode cL_act 150 = .ok (.iconst 0, 1) := by decide +kernel
theorem dL_act_151 : decode cL_act 151 = .ok (.iastore, 1) := by decide +kernel
theorem dL_act_152 : decode cL_act 152 = .ok (.dup, 1) := by decide +kernel
theorem dL_act_153 : decode cL_act 153 = .ok (.iconst 4, 1) := by decide +kernel
theorem dL_act_154 : decode cL_act 154 = .ok (.iconst 0, 1) := by decide +kernel
theorem dL_act_155 : decode cL_act 155 = .ok (.iastore, 1) := by decide +kernel
theorem dL_act_156 : decode cL_act 156 = .ok (.dup, 1) := by decide +kernel
theorem dL_act_157 : decode cL_act 157 = .ok (.iconst 5, 1) := by decide +kernel
theorem dL_act_158 : decode cL_act 158 = .ok (.iconst 0, 1) := by decide +kernel
theorem dL_act_159 : decode cL_act 159 = .ok (.iastore, 1) := by decide +kernel
theorem dL_act_160 : decode cL_act 160 = .ok (.dup, 1) := by decide +kernel
theorem dL_act_161 : decode cL_act 161 = .ok (.bipush 6, 2) := by decide +kernel
theorem dL_act_163 : decode cL_act 163 = .ok (.sipush 1000, 3) := by decide +kernel
theorem dL_act_166 : decode cL_act 166 = .ok (.iastore, 1) := by decide +kernel
theorem dL_act_167 : decode cL_act 167 = .ok (.aastore, 1) := by decide +kernel
theorem dL_act_168 : decode cL_act 168 = .ok (.aload_n 1, 1) := by decide +kernel
theorem dL_act_169 : decode cL_act 169 = .ok (.aload 7, 2) := by decide +kernel
theorem dL_act_171 : decode cL_act 171 = .ok (.putfield 9, 3) := by decide +kernel
theorem dL_act_174 : decode cL_act 174 = .ok (.aload_n 0, 1) := by decide +kernel
theorem dL_act_175 : decode cL_act 175 = .ok (.iload 6, 2) := by decide +kernel
theorem dL_act_177 : decode cL_act 177 = .ok (.invokevirtual 23, 3) := by decide +kernel
theorem dL_act_180 : decode cL_act 180 = .ok (.istore 7, 2) := by decide +kernel
theorem dL_act_182 : decode cL_act 182 = .ok (.iload_n 3, 1) := by decide +kernel
theorem dL_act_183 : decode cL_act 183 = .ok (.bipush 12, 2) := by decide +kernel
theorem dL_act_185 : decode cL_act 185 = .ok (.if_icmp .ge 13, 3) := by decide +kernel
theorem dL_act_188 : decode cL_act 188 = .ok (.iload 7, 2) := by decide +kernel
theorem dL_act_190 : decode cL_act 190 = .ok (.iload_n 3, 1) := by decide +kernel
theorem dL_act_191 : decode cL_act 191 = .ok (.if_icmp .ne 7, 3) := by decide +kernel
theorem dL_act_194 : decode cL_act 194 = .ok (.iconst 1, 1) := by decide +kernel
theorem dL_act_195 : decode cL_act 195 = .ok (.goto 4, 3) := by decide +kernel
theorem dL_act_198 : decode cL_act 198 = .ok (.iconst 0, 1) := by decide +kernel
theorem dL_act_199 : decode cL_act 199 = .ok (.ireturn, 1) := by decide +kernel
theorem dL_act_200 : decode cL_act 200 = .ok (.astore 7, 2) := by decide +kernel
theorem dL_act_202 : decode cL_act 202 = .ok (.iload_n 3, 1) := by decide +kernel
theorem dL_act_203 : decode cL_act 203 = .ok (.bipush 12, 2) := by decide +kernel
theorem dL_act_205 : decode cL_act 205 = .ok (.if_icmp .ne 7, 3) := by decide +kernel
theorem dL_act_208 : decode cL_act 208 = .ok (.iconst 1, 1) := by decide +kernel
theorem dL_act_209 : decode cL_act 209 = .ok (.goto 4, 3) := by decide +kernel
theorem dL_act_212 : decode cL_act 212 = .ok (.iconst 0, 1) := by decide +kernel
theorem dL_act_213 : decode cL_act 213 = .ok (.ireturn, 1) := by decide +kernel
theorem dL_act_214 : decode cL_act 214 = .ok (.iload_n 3, 1) := by decide +kernel
theorem dL_act_215 : decode cL_act 215 = .ok (.ifCond .ne 5, 3) := by decide +kernel
theorem dL_act_218 : decode cL_act 218 = .ok (.iconst 1, 1) := by decide +kernel
theorem dL_act_219 : decode cL_act 219 = .ok (.ireturn, 1) := by decide +kernel
theorem dL_act_220 : decode cL_act 220 = .ok (.iload_n 2, 1) := by decide +kernel
theorem dL_act_221 : decode cL_act 221 = .ok (.bipush 9, 2) := by decide +kernel
theorem dL_act_223 : decode cL_act 223 = .ok (.ishr, 1) := by decide +kernel
theorem dL_act_224 : decode cL_act 224 = .ok (.iconst 3, 1) := by decide +kernel
theorem dL_act_225 : decode cL_act 225 = .ok (.invokestatic 15, 3) := by decide +kernel
theorem dL_act_228 : decode cL_act 228 = .ok (.ifCond .ne 18, 3) := by decide +kernel
theorem dL_act_231 : decode cL_act 231 = .ok (.bipush 100, 2) := by decide +kernel
theorem dL_act_233 : decode cL_act 233 = .ok (.iload_n 2, 1) := by decide +kernel
theorem dL_act_234 : decode cL_act 234 = .ok (.iconst 3, 1) := by decide +kernel
theorem dL_act_235 : decode cL_act 235 = .ok (.ishr, 1) := by decide +kernel
theorem dL_act_236 : decode cL_act 236 = .ok (.sipush 2901, 3) := by decide +kernel
theorem dL_act_239 : decode cL_act 239 = .ok (.invokestatic 15, 3) := by decide +kernel
theorem dL_act_242 : decode cL_act 242 = .ok (.iadd, 1) := by decide +kernel
theorem dL_act_243 : decode cL_act 243 = .ok (.goto 16, 3) := by decide +kernel
theorem dL_act_246 : decode cL_act 246 = .ok (.sipush 800, 3) := by decide +kernel
theorem dL_act_249 : decode cL_act 249 = .ok (.iload_n 2, 1) := by decide +kernel
theorem dL_act_250 : decode cL_act 250 = .ok (.iconst 3, 1) := by decide +kernel
theorem dL_act_251 : decode cL_act 251 = .ok (.ishr, 1) := by decide +kernel
theorem dL_act_252 : decode cL_act 252 = .ok (.sipush 500, 3) := by decide +kernel
theorem dL_act_255 : decode cL_act 255 = .ok (.invokestatic 15, 3) := by decide +kernel
theorem dL_act_258 : decode cL_act 258 = .ok (.iadd, 1) := by decide +kernel
theorem dL_act_259 : decode cL_act 259 = .ok (.istore 6, 2) := by decide +kernel
theorem dL_act_261 : decode cL_act 261 = .ok (.aload_n 1, 1) := by decide +kernel
theorem dL_act_262 : decode cL_act 262 = .ok (.getfield 9, 3) := by decide +kernel
theorem dL_act_265 : decode cL_act 265 = .ok (.iload 4, 2) := by decide +kernel
theorem dL_act_267 : decode cL_act 267 = .ok (.aaload, 1) := by decide +kernel
theorem dL_act_268 : decode cL_act 268 = .ok (.iconst 0, 1) := by decide +kernel
theorem dL_act_269 : decode cL_act 269 = .ok (.iaload, 1) := by decide +kernel
theorem dL_act_270 : decode cL_act 270 = .ok (.istore 7, 2) := by decide +kernel
theorem dL_act_272 : decode cL_act 272 = .ok (.aload_n 1, 1) := by decide +kernel
theorem dL_act_273 : decode cL_act 273 = .ok (.iload 4, 2) := by decide +kernel
theorem dL_act_275 : decode cL_act 275 = .ok (.iload 6, 2) := by decide +kernel
theorem dL_act_277 : decode cL_act 277 = .ok (.iload 7, 2) := by decide +kernel
theorem dL_act_279 : decode cL_act 279 = .ok (.isub, 1) := by decide +kernel
theorem dL_act_280 : decode cL_act 280 = .ok (.invokevirtual 31, 3) := by decide +kernel
theorem dL_act_283 : decode cL_act 283 = .ok (.aload_n 0, 1) := by decide +kernel
theorem dL_act_284 : decode cL_act 284 = .ok (.iload 4, 2) := by decide +kernel
theorem dL_act_286 : decode cL_act 286 = .ok (.iload 6, 2) := by decide +kernel
theorem dL_act_288 : decode cL_act 288 = .ok (.invokevirtual 35, 3) := by decide +kernel
theorem dL_act_291 : decode cL_act 291 = .ok (.iload 7, 2) := by decide +kernel
theorem dL_act_293 : decode cL_act 293 = .ok (.if_icmp .ne 7, 3) := by decide +kernel
theorem dL_act_296 : decode cL_act 296 = .ok (.iconst 1, 1) := by decide +kernel
theorem dL_act_297 : decode cL_act 297 = .ok (.goto 4, 3) := by decide +kernel
theorem dL_act_300 : decode cL_act 300 = .ok (.iconst 0, 1) := by decide +kernel
theorem dL_act_301 : decode cL_act 301 = .ok (.ireturn, 1) := by decide +kernel
theorem dL_act_302 : decode cL_act 302 = .ok (.iload_n 2, 1) := by decide +kernel
theorem dL_act_303 : decode cL_act 303 = .ok (.iconst 4, 1) := by decide +kernel
theorem dL_act_304 : decode cL_act 304 = .ok (.ishr, 1) := by decide +kernel
theorem dL_act_305 : decode cL_act 305 = .ok (.iconst 3, 1) := by decide +kernel
theorem dL_act_306 : decode cL_act 306 = .ok (.invokestatic 15, 3) := by decide +kernel
theorem dL_act_309 : decode cL_act 309 = .ok (.ifCond .le 5, 3) := by decide +kernel
theorem dL_act_312 : decode cL_act 312 = .ok (.iconst 1, 1) := by decide +kernel
theorem dL_act_313 : decode cL_act 313 = .ok (.ireturn, 1) := by decide +kernel
theorem dL_act_314 : decode cL_act 314 = .ok (.aload_n 0, 1) := by decide +kernel
theorem dL_act_315 : decode cL_act 315 = .ok (.invokevirtual 38, 3) := by decide +kernel
theorem dL_act_318 : decode cL_act 318 = .ok (.aload_n 1, 1) := by decide +kernel
theorem dL_act_319 : decode cL_act 319 = .ok (.invokevirtual 42, 3) := by decide +kernel
theorem dL_act_322 : decode cL_act 322 = .ok (.if_icmp .ne 7, 3) := by decide +kernel
theorem dL_act_325 : decode cL_act 325 = .ok (.iconst 1, 1) := by decide +kernel
theorem dL_act_326 : decode cL_act 326 = .ok (.goto 4, 3) := by decide +kernel
theorem dL_act_329 : decode cL_act 329 = .ok (.iconst 0, 1) := by decide +kernel
theorem dL_act_330 : decode cL_act 330 = .ok (.ireturn, 1) := by decide +kernel
theorem dL_act_331 : decode cL_act 331 = .ok (.iload_n 3, 1) := by decide +kernel
theorem dL_act_332 : decode cL_act 332 = .ok (.ifCond .eq 10, 3) := by decide +kernel
theorem dL_act_335 : decode cL_act 335 = .ok (.iload 4, 2) := by decide +kernel
theorem dL_act_337 : decode cL_act 337 = .ok (.iload 5, 2) := by decide +kernel
theorem dL_act_339 : decode cL_act 339 = .ok (.if_icmp .ne 5, 3) := by decide +kernel
theorem dL_act_342 : decode cL_act 342 = .ok (.iconst 1, 1) := by decide +kernel
theorem dL_act_343 : decode cL_act 343 = .ok (.ireturn, 1) := by decide +kernel
theorem dL_act_344 : decode cL_act 344 = .ok (.iload_n 2, 1) := by decide +kernel
theorem dL_act_345 : decode cL_act 345 = .ok (.bipush 9, 2) := by decide +kernel
theorem dL_act_347 : decode cL_act 347 = .ok (.ishr, 1) := by decide +kernel
theorem dL_act_348 : decode cL_act 348 = .ok (.iconst 3, 1) := by decide +kernel
theorem dL_act_349 : decode cL_act 349 = .ok (.invokestatic 15, 3) := by decide +kernel
theorem dL_act_352 : decode cL_act 352 = .ok (.istore 6, 2) := by decide +kernel
theorem dL_act_354 : decode cL_act 354 = .ok (.aload_n 0, 1) := by decide +kernel
theorem dL_act_355 : decode cL_act 355 = .ok (.iload 4, 2) := by decide +kernel
theorem dL_act_357 : decode cL_act 357 = .ok (.iload 5, 2) := by decide +kernel
theorem dL_act_359 : decode cL_act 359 = .ok (.iload 6, 2) := by decide +kernel
theorem dL_act_361 : decode cL_act 361 = .ok (.invokevirtual 43, 3) := by decide +kernel
theorem dL_act_364 : decode cL_act 364 = .ok (.aload_n 1, 1) := by decide +kernel
theorem dL_act_365 : decode cL_act 365 = .ok (.iload 4, 2) := by decide +kernel
theorem dL_act_367 : decode cL_act 367 = .ok (.iload 5, 2) := by decide +kernel
theorem dL_act_369 : decode cL_act 369 = .ok (.iload 6, 2) := by decide +kernel
theorem dL_act_371 : decode cL_act 371 = .ok (.invokevirtual 47, 3) := by decide +kernel
theorem dL_act_374 : decode cL_act 374 = .ok (.if_icmp .ne 7, 3) := by decide +kernel
theorem dL_act_377 : decode cL_act 377 = .ok (.iconst 1, 1) := by decide +kernel
theorem dL_act_378 : decode cL_act 378 = .ok (.goto 4, 3) := by decide +kernel
theorem dL_act_381 : decode cL_act 381 = .ok (.iconst 0, 1) := by decide +kernel
theorem dL_act_382 : decode cL_act 382 = .ok (.ireturn, 1) := by decide +kernel
set_option maxRecDepth 20000 in
theorem ggL_build_X2_init : GoodIn wsL_build wsX2_init := goodIn_r _ [6, 7, 8, 9, 10, 11, 197, 198, 199, 200] (by decide +kernel) (by decide +kernel)
set_option maxRecDepth 20000 in
theorem gL_build_X2_init_n48 : GoodIn wsL_build (wsX2_init) := ggL_build_X2_init
set_option maxRecDepth 20000 in
theorem ggL_build_L_cell : GoodIn wsL_build wsL_cell := goodIn_r _ [15, 16] (by decide +kernel) (by decide +kernel)
set_option maxRecDepth 20000 in
theorem gL_build_L_cell : GoodIn wsL_build (va_wsS RL 49 yL_cell wsL_cell) := goodIn_app (goodIn_of _ (by decide +kernel)) ggL_build_L_cell
set_option maxRecDepth 20000 in
theorem ggL_build_L_below : GoodIn wsL_build wsL_below := goodIn_r _ [19, 20] (by decide +kernel) (by decide +kernel)
set_option maxRecDepth 20000 in
theorem gL_build_L_below : GoodIn wsL_build (va_wsS RL 15 yL_below wsL_below) := goodIn_app (goodIn_of _ (by decide +kernel)) ggL_build_L_below
set_option maxRecDepth 20000 in
theorem ggL_build_L_act : GoodIn wsL_build wsL_act := goodIn_ca (goodIn_ca (goodIn_ca (goodIn_r _ [23, 24, 25, 26, 27, 17, 18, 14, 19, 20, 28, 29, 30, 31, 32, 33, 34, 35, 36, 37, 38, 39, 40, 41, 42, 43, 44, 45, 46, 47, 48, 49, 50, 51, 52, 53, 54, 55, 56, 3, 57, 11, 58, 59, 60, 61, 62, 63, 64, 65, 66, 67, 68, 69, 70, 71, 72, 73, 74, 75, 76, 77, 78, 79, 80, 81, 82, 83, 84, 85, 86, 87, 88, 89, 90, 91, 92, 93, 94, 95, 96, 97, 98, 99, 100, 101, 102, 103, 104, 105, 106, 107, 108, 109, 110, 111, 112, 113, 114, 115, 116, 117, 118, 119, 120, 121, 122, 123, 124, 125, 126, 127, 128, 129, 130, 131, 132, 133, 134, 135, 136, 137, 138, 139, 140, 141, 142, 143, 144, 145, 146, 147, 148, 149, 150, 151, 152, 153, 154, 155, 156, 157, 158, 159, 160, 161, 162, 163, 164, 165, 166, 167, 168, 169, 170, 171, 172, 173, 174, 175, 176, 177, 178, 179, 180, 181, 182, 183, 184, 185, 186, 187, 188, 189, 190, 191, 192, 193, 194, 195, 196, 197, 198, 199, 200, 201, 202, 203, 204, 205, 206, 207, 208, 209, 210, 211, 212, 213, 214] (by decide +kernel) (by decide +kernel)) (goodIn_sub (fun _ h => List.mem_cons_of_mem _ (List.mem_append_left _ (List.mem_append_left _ (List.mem_append_right _ h)))) (by decide +kernel))) (goodIn_sub (fun _ h => List.mem_cons_of_mem _ (List.mem_append_left _ (List.mem_append_right _ h))) (by decide +kernel))) (goodIn_sub (fun _ h => List.mem_cons_of_mem _ (List.mem_append_right _ h)) (by decide +kernel))
set_option maxRecDepth 20000 in
theorem gL_build_L_act : GoodIn wsL_build (va_wsS RL 54 yL_act wsL_act) := goodIn_app (goodIn_of _ (by decide +kernel)) ggL_build_L_act
theorem dL_build_0 : decode cL_build 0 = .ok (.new 10, 3) := by decide +kernel
theorem dL_build_3 : decode cL_build 3 = .ok (.dup, 1) := by decide +kernel
theorem dL_build_4 : decode cL_build 4 = .ok (.invokespecial 48, 3) := by decide +kernel
theorem dL_build_7 : decode cL_build 7 = .ok (.astore_n 2, 1) := by decide +kernel
theorem dL_build_8 : decode cL_build 8 = .ok (.iconst 0, 1) := by decide +kernel
theorem dL_build_9 : decode cL_build 9 = .ok (.istore_n 3, 1) := by decide +kernel
theorem dL_build_10 : decode cL_build 10 = .ok (.iload_n 3, 1) := by decide +kernel
theorem dL_build_11 : decode cL_build 11 = .ok (.bipush 40, 2) := by decide +kernel
theorem dL_build_13 : decode cL_build 13 = .ok (.if_icmp .ge 62, 3) := by decide +kernel
theorem dL_build_16 : decode cL_build 16 = .ok (.aload_n 1, 1) := by decide +kernel
theorem dL_build_17 : decode cL_build 17 = .ok (.iload_n 3, 1) := by decide +kernel
theorem dL_build_18 : decode cL_build 18 = .ok (.bipush 16, 2) := by decide +kernel
theorem dL_build_20 : decode cL_build 20 = .ok (.irem, 1) := by decide +kernel
theorem dL_build_21 : decode cL_build 21 = .ok (.invokestatic 49, 3) := by decide +kernel
theorem dL_build_24 : decode cL_build 24 = .ok (.iload_n 3, 1) := by decide +kernel
theorem dL_build_25 : decode cL_build 25 = .ok (.bipush 16, 2) := by decide +kernel
theorem dL_build_27 : decode cL_build 27 = .ok (.idiv, 1) := by decide +kernel
theorem dL_build_28 : decode cL_build 28 = .ok (.iconst 5, 1) := by decide +kernel
theorem dL_build_29 : decode cL_build 29 = .ok (.imul, 1) := by decide +kernel
theorem dL_build_30 : decode cL_build 30 = .ok (.ishr, 1) := by decide +kernel
theorem dL_build_31 : decode cL_build 31 = .ok (.sipush 263, 3) := by decide +kernel
theorem dL_build_34 : decode cL_build 34 = .ok (.iload_n 3, 1) := by decide +kernel
theorem dL_build_35 : decode cL_build 35 = .ok (.imul, 1) := by decide +kernel
theorem dL_build_36 : decode cL_build 36 = .ok (.iadd, 1) := by decide +kernel
theorem dL_build_37 : decode cL_build 37 = .ok (.istore 4, 2) := by decide +kernel
theorem dL_build_39 : decode cL_build 39 = .ok (.iload_n 3, 1) := by decide +kernel
theorem dL_build_40 : decode cL_build 40 = .ok (.bipush 7, 2) := by decide +kernel
theorem dL_build_42 : decode cL_build 42 = .ok (.if_icmp .ge 15, 3) := by decide +kernel
theorem dL_build_45 : decode cL_build 45 = .ok (.bipush 14, 2) := by decide +kernel
theorem dL_build_47 : decode cL_build 47 = .ok (.iload 4, 2) := by decide +kernel
theorem dL_build_49 : decode cL_build 49 = .ok (.ldc 53, 2) := by decide +kernel
theorem dL_build_51 : decode cL_build 51 = .ok (.invokestatic 15, 3) := by decide +kernel
theorem dL_build_54 : decode cL_build 54 = .ok (.imul, 1) := by decide +kernel
theorem dL_build_55 : decode cL_build 55 = .ok (.istore 4, 2) := by decide +kernel
theorem dL_build_57 : decode cL_build 57 = .ok (.aload_n 0, 1) := by decide +kernel
theorem dL_build_58 : decode cL_build 58 = .ok (.aload_n 2, 1) := by decide +kernel
theorem dL_build_59 : decode cL_build 59 = .ok (.iload 4, 2) := by decide +kernel
theorem dL_build_61 : decode cL_build 61 = .ok (.invokestatic 54, 3) := by decide +kernel
theorem dL_build_64 : decode cL_build 64 = .ok (.ifCond .ne 5, 3) := by decide +kernel
theorem dL_build_67 : decode cL_build 67 = .ok (.aconst_null, 1) := by decide +kernel
end
section
theorem dL_build_68 : decode cL_build 68 = .ok (.areturn, 1) := by decide +kernel
theorem dL_build_69 : decode cL_build 69 = .ok (.iinc 3 1, 3) := by decide +kernel
theorem dL_build_72 : decode cL_build 72 = .ok (.goto (-62), 3) := by decide +kernel
theorem dL_build_75 : decode cL_build 75 = .ok (.aload_n 2, 1) := by decide +kernel
theorem dL_build_76 : decode cL_build 76 = .ok (.areturn, 1) := by decide +kernel
set_option maxRecDepth 20000 in
theorem ggL_law_X1_init : GoodIn wsL_law wsX1_init := goodIn_r _ [17, 18, 19, 20, 21, 22, 23, 24, 25, 3, 26, 27, 28, 29, 30, 31, 32, 33, 34, 35, 36, 378, 379, 380, 381, 382, 383, 384, 385, 372, 373, 374, 375, 376, 377] (by decide +kernel) (by decide +kernel)
set_option maxRecDepth 20000 in
theorem gL_law_X1_init : GoodIn wsL_law (wsX1_init) := ggL_law_X1_init
set_option maxRecDepth 20000 in
theorem ggL_law_L_build : GoodIn wsL_law wsL_build := goodIn_ca (goodIn_ca (goodIn_ca (goodIn_r _ [40, 41, 42, 43, 44, 45, 46, 47, 19, 20, 48, 49, 50, 51, 39, 52, 53, 54, 55, 56, 57, 58, 59, 60, 61, 62, 63, 3, 64, 65, 66, 2, 67, 68, 69, 70, 71, 24, 72, 73, 74, 75, 76, 77, 23, 78, 79, 80, 81, 82, 83, 30, 31, 36, 84, 85, 86, 87, 88, 89, 90, 91, 92, 93, 94, 95, 96, 97, 98, 99, 100, 101, 102, 103, 104, 105, 106, 107, 108, 109, 110, 5, 6, 7, 111, 112, 113, 114, 115, 116, 117, 118, 119, 34, 120, 121, 122, 123, 124, 32, 125, 126, 127, 128, 129, 130, 131, 132, 133, 134, 135, 136, 137, 138, 139, 140, 141, 142, 143, 144, 145, 146, 147, 148, 149, 150, 151, 152, 153, 154, 155, 156, 157, 158, 159, 160, 161, 162, 163, 164, 165, 166, 167, 168, 169, 170, 171, 172, 173, 174, 175, 176, 177, 178, 9, 10, 179, 180, 181, 182, 183, 184, 185, 186, 187, 188, 189, 190, 191, 33, 192, 193, 194, 195, 35, 196, 197, 198, 199, 200, 201, 202, 203, 204, 205, 206, 207, 208, 209, 210, 211, 212, 213, 214, 215, 216, 217, 386, 387, 388, 389, 372, 373, 374, 375, 376, 377, 378, 379, 380, 381, 382, 383, 384, 385] (by decide +kernel) (by decide +kernel)) (goodIn_sub (fun _ h => List.mem_append_left _ (List.mem_append_left _ (List.mem_append_right _ h))) (by decide +kernel))) (goodIn_sub (fun _ h => List.mem_append_left _ (List.mem_append_right _ h)) (by decide +kernel))) (goodIn_sub (fun _ h => List.mem_append_right _ h) (by decide +kernel))
set_option maxRecDepth 20000 in
theorem gL_law_L_build : GoodIn wsL_law (va_wsS RL 59 yL_build wsL_build) := goodIn_app (goodIn_of _ (by decide +kernel)) ggL_law_L_build
set_option maxRecDepth 20000 in
theorem ggL_law_L_cell : GoodIn wsL_law wsL_cell := goodIn_r _ [52, 53] (by decide +kernel) (by decide +kernel)
set_option maxRecDepth 20000 in
theorem gL_law_L_cell : GoodIn wsL_law (va_wsS RL 49 yL_cell wsL_cell) := goodIn_app (goodIn_of _ (by decide +kernel)) ggL_law_L_cell
set_option maxRecDepth 20000 in
theorem ggL_law_L_act : GoodIn wsL_law wsL_act := goodIn_ca (goodIn_ca (goodIn_ca (goodIn_r _ [60, 61, 62, 63, 3, 54, 55, 39, 56, 57, 64, 65, 66, 2, 67, 68, 69, 70, 71, 24, 72, 73, 74, 75, 76, 77, 23, 78, 79, 80, 81, 82, 83, 30, 31, 36, 84, 85, 86, 43, 87, 49, 88, 89, 90, 91, 92, 93, 94, 95, 96, 97, 98, 99, 100, 101, 102, 103, 104, 105, 106, 107, 108, 109, 110, 5, 6, 7, 111, 112, 113, 114, 115, 116, 117, 118, 119, 34, 120, 121, 122, 123, 124, 32, 125, 126, 127, 128, 129, 130, 131, 132, 133, 134, 135, 136, 137, 138, 139, 140, 141, 142, 143, 144, 145, 146, 147, 148, 149, 150, 151, 152, 153, 154, 155, 156, 157, 158, 159, 160, 161, 162, 163, 164, 165, 166, 167, 168, 169, 170, 171, 172, 173, 174, 175, 176, 177, 178, 9, 10, 179, 180, 181, 182, 183, 184, 185, 186, 187, 188, 189, 190, 191, 33, 192, 193, 194, 195, 35, 196, 197, 198, 199, 200, 201, 202, 203, 204, 205, 206, 207, 208, 209, 210, 211, 212, 213, 214, 215, 216, 217, 386, 387, 388, 389, 372, 373, 374, 375, 376, 377, 378, 379, 380, 381, 382, 383, 384, 385] (by decide +kernel) (by decide +kernel)) (goodIn_sub (fun _ h => List.mem_append_left _ (List.mem_append_left _ (List.mem_append_right _ h))) (by decide +kernel))) (goodIn_sub (fun _ h => List.mem_append_left _ (List.mem_append_right _ h)) (by decide +kernel))) (goodIn_sub (fun _ h => List.mem_append_right _ h) (by decide +kernel))
set_option maxRecDepth 20000 in
theorem gL_law_L_act : GoodIn wsL_law (va_wsS RL 54 yL_act wsL_act) := goodIn_app (goodIn_of _ (by decide +kernel)) ggL_law_L_act
set_option maxRecDepth 20000 in
theorem ggL_law_X1_count : GoodIn wsL_law wsX1_count := goodIn_ca (goodIn_r _ [221, 96, 97, 115, 24, 160, 159, 222, 223, 224, 23, 225, 79, 226, 126, 127, 128, 30, 227, 228, 229, 230, 31, 110, 5, 6, 7, 231, 232, 233, 234, 178, 9, 10, 372, 373, 374, 375, 376, 377, 378, 379, 380, 381, 382, 383, 384, 385] (by decide +kernel) (by decide +kernel)) (goodIn_sub (fun _ h => List.mem_append_right _ h) (by decide +kernel))
set_option maxRecDepth 20000 in
theorem gL_law_X1_count : GoodIn wsL_law (wsV RL 63 RX1 yX1_count wsX1_count) := goodIn_app (goodIn_of _ (by decide +kernel)) ggL_law_X1_count
set_option maxRecDepth 20000 in
theorem ggL_law_X1_digest : GoodIn wsL_law wsX1_digest := goodIn_ca (goodIn_r _ [238, 239, 240, 24, 241, 219, 220, 2, 221, 96, 97, 115, 160, 159, 222, 223, 224, 23, 225, 79, 226, 126, 127, 128, 30, 227, 228, 229, 230, 31, 110, 5, 6, 7, 231, 232, 233, 234, 178, 9, 10, 242, 243, 244, 245, 92, 93, 94, 95, 98, 99, 100, 101, 102, 103, 104, 105, 246, 247, 248, 249, 250, 251, 252, 253, 32, 254, 255, 256, 257, 33, 258, 259, 260, 261, 34, 262, 263, 264, 265, 35, 266, 267, 268, 269, 36, 270, 134, 135, 136, 137, 138, 139, 140, 271, 189, 190, 191, 272, 273, 274, 275, 276, 277, 278, 279, 280, 281, 282, 283, 284, 13, 14, 171, 172, 173, 174, 175, 176, 177, 179, 372, 373, 374, 375, 376, 377, 378, 379, 380, 381, 382, 383, 384, 385] (by decide +kernel) (by decide +kernel)) (goodIn_sub (fun _ h => List.mem_append_right _ h) (by decide +kernel))
set_option maxRecDepth 20000 in
theorem gL_law_X1_digest : GoodIn wsL_law (wsV RL 66 RX1 yX1_digest wsX1_digest) := goodIn_app (goodIn_of _ (by decide +kernel)) ggL_law_X1_digest
set_option maxRecDepth 20000 in
theorem ggL_law_X1_told : GoodIn wsL_law wsX1_told := goodIn_ca (goodIn_r _ [245, 96, 97, 24, 92, 93, 94, 2, 95, 98, 99, 100, 23, 101, 79, 102, 103, 104, 105, 31, 246, 247, 248, 249, 30, 250, 251, 252, 253, 32, 254, 255, 256, 257, 33, 258, 259, 260, 261, 34, 262, 263, 264, 265, 35, 266, 267, 268, 269, 36, 270, 134, 135, 136, 137, 138, 139, 140, 271, 189, 190, 191, 372, 373, 374, 375, 376, 377, 378, 379, 380, 381, 382, 383, 384, 385] (by decide +kernel) (by decide +kernel)) (goodIn_sub (fun _ h => List.mem_append_right _ h) (by decide +kernel))
set_option maxRecDepth 20000 in
theorem gL_law_X1_told : GoodIn wsL_law (wsV RL 70 RX1 yX1_told wsX1_told) := goodIn_app (goodIn_of _ (by decide +kernel)) ggL_law_X1_told
set_option maxRecDepth 20000 in
theorem ggL_law_X1_at : GoodIn wsL_law wsX1_at := goodIn_ca (goodIn_r _ [289, 96, 97, 24, 72, 73, 2, 74, 290, 130, 131, 23, 132, 79, 30, 133, 134, 135, 136, 137, 138, 139, 140, 32, 31, 372, 373, 374, 375, 376, 377, 378, 379, 380, 381, 382, 383, 384, 385] (by decide +kernel) (by decide +kernel)) (goodIn_sub (fun _ h => List.mem_append_right _ h) (by decide +kernel))
set_option maxRecDepth 20000 in
theorem gL_law_X1_at : GoodIn wsL_law (wsV RL 81 RX1 yX1_at wsX1_at) := goodIn_app (goodIn_of _ (by decide +kernel)) ggL_law_X1_at
set_option maxRecDepth 20000 in
theorem ggL_law_X1_expected : GoodIn wsL_law wsX1_expected := goodIn_ca (goodIn_r _ [294, 24, 92, 93, 94, 2, 95, 96, 97, 98, 99, 100, 23, 101, 79, 295, 172, 173, 174, 31, 175, 176, 177, 178, 9, 6, 10, 179, 372, 373, 374, 375, 376, 377, 378, 379, 380, 381, 382, 383, 384, 385] (by decide +kernel) (by decide +kernel)) (goodIn_sub (fun _ h => List.mem_append_right _ h) (by decide +kernel))
set_option maxRecDepth 20000 in
theorem gL_law_X1_expected : GoodIn wsL_law (wsV RL 84 RX1 yX1_expected wsX1_expected) := goodIn_app (goodIn_of _ (by decide +kernel)) ggL_law_X1_expected
set_option maxRecDepth 20000 in
theorem ggL_law_X1_match : GoodIn wsL_law wsX1_match := goodIn_ca (goodIn_r _ [299, 24, 92, 93, 94, 2, 95, 96, 97, 98, 99, 100, 23, 101, 79, 300, 301, 302, 303, 30, 280, 281, 282, 283, 284, 13, 6, 14, 171, 172, 173, 174, 31, 175, 176, 177, 178, 9, 10, 179, 372, 373, 374, 375, 376, 377, 378, 379, 380, 381, 382, 383, 384, 385] (by decide +kernel) (by decide +kernel)) (goodIn_sub (fun _ h => List.mem_append_right _ h) (by decide +kernel))
set_option maxRecDepth 20000 in
theorem gL_law_X1_match : GoodIn wsL_law (wsV RL 87 RX1 yX1_match wsX1_match) := goodIn_app (goodIn_of _ (by decide +kernel)) ggL_law_X1_match
set_option maxRecDepth 20000 in
theorem ggL_law_X1_mean : GoodIn wsL_law wsX1_mean := goodIn_r _ [307, 24, 222, 223, 224, 23, 225, 79, 308, 309, 310, 311, 31, 372, 373, 374, 375, 376, 377, 378, 379, 380, 381, 382, 383, 384, 385] (by decide +kernel) (by decide +kernel)
set_option maxRecDepth 20000 in
theorem gL_law_X1_mean : GoodIn wsL_law (wsV RL 90 RX1 yX1_mean wsX1_mean) := goodIn_app (goodIn_of _ (by decide +kernel)) ggL_law_X1_mean
set_option maxRecDepth 20000 in
theorem ggL_law_J9_abs_294c1 : GoodIn wsL_law wsJ9_abs_294c1 := goodIn_r _ [315, 316, 317, 318, 319, 320, 321, 322, 323] (by decide +kernel) (by decide +kernel)
set_option maxRecDepth 20000 in
theorem gL_law_J9_abs_294c1 : GoodIn wsL_law (va_wsS RL 94 yJ9_abs_294c1 wsJ9_abs_294c1) := goodIn_app (goodIn_of _ (by decide +kernel)) ggL_law_J9_abs_294c1
set_option maxRecDepth 20000 in
theorem ggL_law_X1_next : GoodIn wsL_law wsX1_next := goodIn_r _ [275, 24, 276, 277, 278, 23, 279, 79, 30, 34, 280, 281, 282, 283, 284, 13, 6, 14, 171, 172, 173, 174, 31, 175, 176, 177, 178, 9, 10, 179, 372, 373, 374, 375, 376, 377, 378, 379, 380, 381, 382, 383, 384, 385] (by decide +kernel) (by decide +kernel)
set_option maxRecDepth 20000 in
theorem gL_law_X1_next : GoodIn wsL_law (wsV RL 100 RX1 yX1_next wsX1_next) := goodIn_app (goodIn_of _ (by decide +kernel)) ggL_law_X1_next
set_option maxRecDepth 20000 in
theorem ggL_law_X1_foresee : GoodIn wsL_law wsX1_foresee := goodIn_ca (goodIn_r _ [328, 68, 69, 25, 24, 329, 330, 331, 23, 332, 79, 30, 31, 32, 33, 34, 35, 36, 276, 277, 278, 279, 280, 281, 282, 283, 284, 13, 6, 14, 171, 172, 173, 174, 175, 176, 177, 178, 9, 10, 179, 333, 334, 335, 336, 337, 181, 182, 183, 184, 185, 186, 187, 110, 5, 7, 188, 189, 190, 191, 192, 193, 194, 195, 120, 107, 108, 109, 227, 228, 229, 230, 372, 373, 374, 375, 376, 377, 378, 379, 380, 381, 382, 383, 384, 385] (by decide +kernel) (by decide +kernel)) (goodIn_sub (fun _ h => List.mem_append_left _ (List.mem_append_left _ (List.mem_append_right _ h))) (by decide +kernel))
set_option maxRecDepth 20000 in
theorem gL_law_X1_foresee : GoodIn wsL_law (wsV RL 103 RX1 yX1_foresee wsX1_foresee) := goodIn_app (goodIn_of _ (by decide +kernel)) ggL_law_X1_foresee
set_option maxRecDepth 20000 in
theorem ggL_law_L_below : GoodIn wsL_law wsL_below := goodIn_r _ [56, 57] (by decide +kernel) (by decide +kernel)
set_option maxRecDepth 20000 in
theorem gL_law_L_below : GoodIn wsL_law (va_wsS RL 15 yL_below wsL_below) := goodIn_app (goodIn_of _ (by decide +kernel)) ggL_law_L_below
set_option maxRecDepth 20000 in
theorem ggL_law_X1_would : GoodIn wsL_law wsX1_would := goodIn_ca (goodIn_ca (goodIn_r _ [341, 96, 97, 24, 92, 93, 94, 2, 95, 98, 99, 100, 23, 101, 79, 161, 162, 163, 68, 69, 164, 165, 166, 342, 185, 186, 187, 31, 178, 9, 6, 10, 110, 5, 7, 188, 189, 190, 191, 33, 171, 172, 173, 174, 175, 176, 177, 179, 372, 373, 374, 375, 376, 377, 378, 379, 380, 381, 382, 383, 384, 385] (by decide +kernel) (by decide +kernel)) (goodIn_sub (fun _ h => List.mem_append_right _ h) (by decide +kernel))) (goodIn_sub (fun _ h => List.mem_append_left _ (List.mem_append_left _ (List.mem_append_right _ h))) (by decide +kernel))
set_option maxRecDepth 20000 in
theorem gL_law_X1_would : GoodIn wsL_law (wsV RL 106 RX1 yX1_would wsX1_would) := goodIn_app (goodIn_of _ (by decide +kernel)) ggL_law_X1_would
set_option maxRecDepth 20000 in
theorem ggL_law_X1_bout : GoodIn wsL_law wsX1_bout := goodIn_ca (goodIn_ca (goodIn_r _ [158, 24, 159, 160, 92, 93, 94, 2, 95, 96, 97, 98, 99, 100, 23, 101, 79, 161, 162, 163, 68, 69, 164, 165, 166, 167, 168, 169, 170, 171, 172, 173, 174, 31, 175, 176, 177, 178, 9, 6, 10, 179, 180, 181, 182, 183, 184, 185, 186, 187, 110, 5, 7, 188, 189, 190, 191, 33, 192, 193, 194, 195, 32, 34, 35, 120, 107, 108, 109, 36, 372, 373, 374, 375, 376, 377, 378, 379, 380, 381, 382, 383, 384, 385] (by decide +kernel) (by decide +kernel)) (goodIn_sub (fun _ h => List.mem_append_right _ h) (by decide +kernel))) (goodIn_sub (fun _ h => List.mem_append_left _ (List.mem_append_left _ (List.mem_append_right _ h))) (by decide +kernel))
set_option maxRecDepth 20000 in
theorem gL_law_X1_bout : GoodIn wsL_law (wsV RL 43 RX1 yX1_bout wsX1_bout) := goodIn_app (goodIn_of _ (by decide +kernel)) ggL_law_X1_bout
set_option maxRecDepth 20000 in
theorem ggL_law_X2_bout : GoodIn wsL_law wsX2_bout := goodIn_r _ [199, 200, 201, 202, 203, 204, 43, 205, 49, 206, 207, 208, 209, 210, 211, 212, 213, 3, 150, 85, 86, 87, 214, 215, 216, 217, 386, 387, 388, 389] (by decide +kernel) (by decide +kernel)
set_option maxRecDepth 20000 in
theorem gL_law_X2_bout : GoodIn wsL_law (wsV RL 47 RX2 yX2_bout wsX2_bout) := goodIn_app (goodIn_of _ (by decide +kernel)) ggL_law_X2_bout
set_option maxRecDepth 20000 in
theorem ggL_law_X1_end : GoodIn wsL_law wsX1_end := goodIn_r _ [114, 24, 115, 116, 117, 118, 23, 119, 79, 34, 31, 120, 107, 108, 109, 36, 110, 5, 6, 7, 121, 122, 123, 124, 32, 30, 125, 126, 127, 128, 129, 130, 131, 132, 133, 134, 135, 136, 137, 138, 139, 140, 141, 142, 143, 144, 372, 373, 374, 375, 376, 377, 378, 379, 380, 381, 382, 383, 384, 385] (by decide +kernel) (by decide +kernel)
set_option maxRecDepth 20000 in
theorem gL_law_X1_end : GoodIn wsL_law (wsV RL 38 RX1 yX1_end wsX1_end) := goodIn_app (goodIn_of _ (by decide +kernel)) ggL_law_X1_end
set_option maxRecDepth 20000 in
theorem ggL_law_X2_end : GoodIn wsL_law wsX2_end := goodIn_r _ [148, 49, 149, 150, 85, 86, 43, 87, 151, 152, 153, 154, 3, 386, 387, 388, 389] (by decide +kernel) (by decide +kernel)
set_option maxRecDepth 20000 in
theorem gL_law_X2_end : GoodIn wsL_law (wsV RL 42 RX2 yX2_end wsX2_end) := goodIn_app (goodIn_of _ (by decide +kernel)) ggL_law_X2_end
set_option maxRecDepth 20000 in
theorem ggL_law_X2_isSame : GoodIn wsL_law wsX2_isSame := goodIn_ca (goodIn_r _ [346, 49, 347, 9, 6, 10, 3, 149, 201, 200, 348, 243, 244, 2, 245, 96, 97, 24, 92, 93, 94, 95, 98, 99, 100, 23, 101, 79, 102, 103, 104, 105, 31, 246, 247, 248, 249, 30, 250, 251, 252, 253, 32, 254, 255, 256, 257, 33, 258, 259, 260, 261, 34, 262, 263, 264, 265, 35, 266, 267, 268, 269, 36, 270, 134, 135, 136, 137, 138, 139, 140, 271, 189, 190, 191, 206, 207, 208, 43, 209, 349, 297, 298, 299, 300, 301, 302, 303, 280, 281, 282, 283, 284, 13, 14, 171, 172, 173, 174, 175, 176, 177, 178, 179, 350, 351, 352, 353, 354, 355, 356, 357, 210, 211, 212, 213, 358, 292, 293, 294, 295, 359, 360, 361, 362, 363, 5, 7, 151, 152, 153, 154, 364, 287, 288, 289, 72, 73, 74, 290, 130, 131, 132, 133, 365, 219, 220, 221, 115, 160, 159, 222, 223, 224, 225, 226, 126, 127, 128, 227, 228, 229, 230, 110, 231, 232, 233, 234, 366, 273, 274, 275, 276, 277, 278, 279, 367, 368, 369, 370, 371, 305, 306, 307, 308, 309, 310, 311, 386, 387, 388, 389, 372, 373, 374, 375, 376, 377, 378, 379, 380, 381, 382, 383, 384, 385] (by decide +kernel) (by decide +kernel)) (goodIn_sub (fun _ h => List.mem_append_right _ h) (by decide +kernel))
set_option maxRecDepth 20000 in
theorem gL_law_X2_isSame : GoodIn wsL_law (wsV RL 112 RX2 yX2_isSame wsX2_isSame) := goodIn_app (goodIn_of _ (by decide +kernel)) ggL_law_X2_isSame
theorem dL_law_0 : decode cL_law 0 = .ok (.new 24, 3) := by decide +kernel
theorem dL_law_3 : decode cL_law 3 = .ok (.dup, 1) := by decide +kernel
theorem dL_law_4 : decode cL_law 4 = .ok (.invokespecial 58, 3) := by decide +kernel
theorem dL_law_7 : decode cL_law 7 = .ok (.astore_n 1, 1) := by decide +kernel
theorem dL_law_8 : decode cL_law 8 = .ok (.aload_n 1, 1) := by decide +kernel
theorem dL_law_9 : decode cL_law 9 = .ok (.aload_n 0, 1) := by decide +kernel
theorem dL_law_10 : decode cL_law 10 = .ok (.invokestatic 59, 3) := by decide +kernel
theorem dL_law_13 : decode cL_law 13 = .ok (.astore_n 2, 1) := by decide +kernel
theorem dL_law_14 : decode cL_law 14 = .ok (.aload_n 2, 1) := by decide +kernel
theorem dL_law_15 : decode cL_law 15 = .ok (.ifnonnull 5, 3) := by decide +kernel
theorem dL_law_18 : decode cL_law 18 = .ok (.iconst 0, 1) := by decide +kernel
theorem dL_law_19 : decode cL_law 19 = .ok (.ireturn, 1) := by decide +kernel
theorem dL_law_20 : decode cL_law 20 = .ok (.iconst 0, 1) := by decide +kernel
theorem dL_law_21 : decode cL_law 21 = .ok (.istore_n 3, 1) := by decide +kernel
theorem dL_law_22 : decode cL_law 22 = .ok (.iload_n 3, 1) := by decide +kernel
theorem dL_law_23 : decode cL_law 23 = .ok (.bipush 24, 2) := by decide +kernel
theorem dL_law_25 : decode cL_law 25 = .ok (.if_icmp .ge 1221, 3) := by decide +kernel
theorem dL_law_28 : decode cL_law 28 = .ok (.aload_n 0, 1) := by decide +kernel
theorem dL_law_29 : decode cL_law 29 = .ok (.iload_n 3, 1) := by decide +kernel
theorem dL_law_30 : decode cL_law 30 = .ok (.bipush 16, 2) := by decide +kernel
theorem dL_law_32 : decode cL_law 32 = .ok (.irem, 1) := by decide +kernel
theorem dL_law_33 : decode cL_law 33 = .ok (.invokestatic 49, 3) := by decide +kernel
theorem dL_law_36 : decode cL_law 36 = .ok (.iload_n 3, 1) := by decide +kernel
theorem dL_law_37 : decode cL_law 37 = .ok (.bipush 16, 2) := by decide +kernel
theorem dL_law_39 : decode cL_law 39 = .ok (.idiv, 1) := by decide +kernel
theorem dL_law_40 : decode cL_law 40 = .ok (.iconst 4, 1) := by decide +kernel
theorem dL_law_41 : decode cL_law 41 = .ok (.imul, 1) := by decide +kernel
theorem dL_law_42 : decode cL_law 42 = .ok (.ishr, 1) := by decide +kernel
theorem dL_law_43 : decode cL_law 43 = .ok (.sipush 263, 3) := by decide +kernel
theorem dL_law_46 : decode cL_law 46 = .ok (.iload_n 3, 1) := by decide +kernel
theorem dL_law_47 : decode cL_law 47 = .ok (.imul, 1) := by decide +kernel
theorem dL_law_48 : decode cL_law 48 = .ok (.iadd, 1) := by decide +kernel
theorem dL_law_49 : decode cL_law 49 = .ok (.istore 4, 2) := by decide +kernel
theorem dL_law_51 : decode cL_law 51 = .ok (.aload_n 1, 1) := by decide +kernel
theorem dL_law_52 : decode cL_law 52 = .ok (.aload_n 2, 1) := by decide +kernel
theorem dL_law_53 : decode cL_law 53 = .ok (.iload 4, 2) := by decide +kernel
theorem dL_law_55 : decode cL_law 55 = .ok (.invokestatic 54, 3) := by decide +kernel
theorem dL_law_58 : decode cL_law 58 = .ok (.ifCond .ne 5, 3) := by decide +kernel
theorem dL_law_61 : decode cL_law 61 = .ok (.iconst 0, 1) := by decide +kernel
theorem dL_law_62 : decode cL_law 62 = .ok (.ireturn, 1) := by decide +kernel
theorem dL_law_63 : decode cL_law 63 = .ok (.aload_n 1, 1) := by decide +kernel
theorem dL_law_64 : decode cL_law 64 = .ok (.iconst 1, 1) := by decide +kernel
theorem dL_law_65 : decode cL_law 65 = .ok (.invokevirtual 63, 3) := by decide +kernel
theorem dL_law_68 : decode cL_law 68 = .ok (.istore 5, 2) := by decide +kernel
theorem dL_law_70 : decode cL_law 70 = .ok (.aload_n 1, 1) := by decide +kernel
theorem dL_law_71 : decode cL_law 71 = .ok (.invokevirtual 66, 3) := by decide +kernel
theorem dL_law_74 : decode cL_law 74 = .ok (.lstore 6, 2) := by decide +kernel
theorem dL_law_76 : decode cL_law 76 = .ok (.iconst 0, 1) := by decide +kernel
theorem dL_law_77 : decode cL_law 77 = .ok (.istore 8, 2) := by decide +kernel
theorem dL_law_79 : decode cL_law 79 = .ok (.iconst 0, 1) := by decide +kernel
theorem dL_law_80 : decode cL_law 80 = .ok (.istore 9, 2) := by decide +kernel
theorem dL_law_82 : decode cL_law 82 = .ok (.iconst 0, 1) := by decide +kernel
theorem dL_law_83 : decode cL_law 83 = .ok (.istore 10, 2) := by decide +kernel
theorem dL_law_85 : decode cL_law 85 = .ok (.iconst 0, 1) := by decide +kernel
theorem dL_law_86 : decode cL_law 86 = .ok (.istore 11, 2) := by decide +kernel
theorem dL_law_88 : decode cL_law 88 = .ok (.iconst 3, 1) := by decide +kernel
theorem dL_law_89 : decode cL_law 89 = .ok (.newarray .int, 2) := by decide +kernel
theorem dL_law_91 : decode cL_law 91 = .ok (.astore 12, 2) := by decide +kernel
theorem dL_law_93 : decode cL_law 93 = .ok (.iconst 0, 1) := by decide +kernel
theorem dL_law_94 : decode cL_law 94 = .ok (.istore 13, 2) := by decide +kernel
theorem dL_law_96 : decode cL_law 96 = .ok (.sipush 9999, 3) := by decide +kernel
theorem dL_law_99 : decode cL_law 99 = .ok (.istore 14, 2) := by decide +kernel
theorem dL_law_101 : decode cL_law 101 = .ok (.iconst 0, 1) := by decide +kernel
theorem dL_law_102 : decode cL_law 102 = .ok (.istore 15, 2) := by decide +kernel
theorem dL_law_104 : decode cL_law 104 = .ok (.iload 15, 2) := by decide +kernel
theorem dL_law_106 : decode cL_law 106 = .ok (.iload 5, 2) := by decide +kernel
theorem dL_law_108 : decode cL_law 108 = .ok (.if_icmp .ge 464, 3) := by decide +kernel
theorem dL_law_111 : decode cL_law 111 = .ok (.aload_n 1, 1) := by decide +kernel
theorem dL_law_112 : decode cL_law 112 = .ok (.iload 15, 2) := by decide +kernel
theorem dL_law_114 : decode cL_law 114 = .ok (.iconst 0, 1) := by decide +kernel
theorem dL_law_115 : decode cL_law 115 = .ok (.invokevirtual 70, 3) := by decide +kernel
theorem dL_law_118 : decode cL_law 118 = .ok (.istore 16, 2) := by decide +kernel
theorem dL_law_120 : decode cL_law 120 = .ok (.aload_n 1, 1) := by decide +kernel
theorem dL_law_121 : decode cL_law 121 = .ok (.iload 15, 2) := by decide +kernel
theorem dL_law_123 : decode cL_law 123 = .ok (.iconst 1, 1) := by decide +kernel
theorem dL_law_124 : decode cL_law 124 = .ok (.invokevirtual 70, 3) := by decide +kernel
theorem dL_law_127 : decode cL_law 127 = .ok (.istore 17, 2) := by decide +kernel
theorem dL_law_129 : decode cL_law 129 = .ok (.iload 8, 2) := by decide +kernel
theorem dL_law_131 : decode cL_law 131 = .ok (.iload 16, 2) := by decide +kernel
theorem dL_law_133 : decode cL_law 133 = .ok (.iadd, 1) := by decide +kernel
theorem dL_law_134 : decode cL_law 134 = .ok (.istore 8, 2) := by decide +kernel
theorem dL_law_136 : decode cL_law 136 = .ok (.iload 13, 2) := by decide +kernel
theorem dL_law_138 : decode cL_law 138 = .ok (.iload 16, 2) := by decide +kernel
theorem dL_law_140 : decode cL_law 140 = .ok (.invokestatic 73, 3) := by decide +kernel
theorem dL_law_143 : decode cL_law 143 = .ok (.istore 13, 2) := by decide +kernel
theorem dL_law_145 : decode cL_law 145 = .ok (.iload 14, 2) := by decide +kernel
theorem dL_law_147 : decode cL_law 147 = .ok (.iload 16, 2) := by decide +kernel
theorem dL_law_149 : decode cL_law 149 = .ok (.invokestatic 78, 3) := by decide +kernel
theorem dL_law_152 : decode cL_law 152 = .ok (.istore 14, 2) := by decide +kernel
theorem dL_law_154 : decode cL_law 154 = .ok (.iload 11, 2) := by decide +kernel
theorem dL_law_156 : decode cL_law 156 = .ok (.aload_n 1, 1) := by decide +kernel
theorem dL_law_157 : decode cL_law 157 = .ok (.iload 15, 2) := by decide +kernel
theorem dL_law_159 : decode cL_law 159 = .ok (.iconst 2, 1) := by decide +kernel
theorem dL_law_160 : decode cL_law 160 = .ok (.invokevirtual 70, 3) := by decide +kernel
theorem dL_law_163 : decode cL_law 163 = .ok (.iadd, 1) := by decide +kernel
theorem dL_law_164 : decode cL_law 164 = .ok (.istore 11, 2) := by decide +kernel
theorem dL_law_166 : decode cL_law 166 = .ok (.iload 9, 2) := by decide +kernel
theorem dL_law_168 : decode cL_law 168 = .ok (.aload_n 1, 1) := by decide +kernel
theorem dL_law_169 : decode cL_law 169 = .ok (.iload 15, 2) := by decide +kernel
theorem dL_law_171 : decode cL_law 171 = .ok (.iconst 3, 1) := by decide +kernel
theorem dL_law_172 : decode cL_law 172 = .ok (.invokevirtual 70, 3) := by decide +kernel
theorem dL_law_175 : decode cL_law 175 = .ok (.iadd, 1) := by decide +kernel
theorem dL_law_176 : decode cL_law 176 = .ok (.istore 9, 2) := by decide +kernel
theorem dL_law_178 : decode cL_law 178 = .ok (.iload 10, 2) := by decide +kernel
theorem dL_law_180 : decode cL_law 180 = .ok (.aload_n 1, 1) := by decide +kernel
theorem dL_law_181 : decode cL_law 181 = .ok (.iload 15, 2) := by decide +kernel
theorem dL_law_183 : decode cL_law 183 = .ok (.iconst 4, 1) := by decide +kernel
theorem dL_law_184 : decode cL_law 184 = .ok (.invokevirtual 70, 3) := by decide +kernel
theorem dL_law_187 : decode cL_law 187 = .ok (.iadd, 1) := by decide +kernel
theorem dL_law_188 : decode cL_law 188 = .ok (.istore 10, 2) := by decide +kernel
theorem dL_law_190 : decode cL_law 190 = .ok (.aload 12, 2) := by decide +kernel
theorem dL_law_192 : decode cL_law 192 = .ok (.iload 17, 2) := by decide +kernel
theorem dL_law_194 : decode cL_law 194 = .ok (.dup2, 1) := by decide +kernel
theorem dL_law_195 : decode cL_law 195 = .ok (.iaload, 1) := by decide +kernel
theorem dL_law_196 : decode cL_law 196 = .ok (.iconst 1, 1) := by decide +kernel
theorem dL_law_197 : decode cL_law 197 = .ok (.aload_n 1, 1) := by decide +kernel
theorem dL_law_198 : decode cL_law 198 = .ok (.iload 15, 2) := by decide +kernel
theorem dL_law_200 : decode cL_law 200 = .ok (.bipush 7, 2) := by decide +kernel
theorem dL_law_202 : decode cL_law 202 = .ok (.invokevirtual 70, 3) := by decide +kernel
theorem dL_law_205 : decode cL_law 205 = .ok (.ishl, 1) := by decide +kernel
theorem dL_law_206 : decode cL_law 206 = .ok (.ior, 1) := by decide +kernel
theorem dL_law_207 : decode cL_law 207 = .ok (.iastore, 1) := by decide +kernel
theorem dL_law_208 : decode cL_law 208 = .ok (.iload 16, 2) := by decide +kernel
theorem dL_law_210 : decode cL_law 210 = .ok (.bipush 100, 2) := by decide +kernel
theorem dL_law_212 : decode cL_law 212 = .ok (.if_icmp .lt 116, 3) := by decide +kernel
theorem dL_law_215 : decode cL_law 215 = .ok (.iload 16, 2) := by decide +kernel
theorem dL_law_217 : decode cL_law 217 = .ok (.sipush 3000, 3) := by decide +kernel
theorem dL_law_220 : decode cL_law 220 = .ok (.if_icmp .gt 108, 3) := by decide +kernel
theorem dL_law_223 : decode cL_law 223 = .ok (.aload_n 1, 1) := by decide +kernel
theorem dL_law_224 : decode cL_law 224 = .ok (.iload 15, 2) := by decide +kernel
theorem dL_law_226 : decode cL_law 226 = .ok (.bipush 6, 2) := by decide +kernel
theorem dL_law_228 : decode cL_law 228 = .ok (.invokevirtual 70, 3) := by decide +kernel
theorem dL_law_231 : decode cL_law 231 = .ok (.sipush 1000, 3) := by decide +kernel
theorem dL_law_234 : decode cL_law 234 = .ok (.iload 16, 2) := by decide +kernel
theorem dL_law_236 : decode cL_law 236 = .ok (.invokestatic 73, 3) := by decide +kernel
theorem dL_law_239 : decode cL_law 239 = .ok (.if_icmp .lt 89, 3) := by decide +kernel
theorem dL_law_242 : decode cL_law 242 = .ok (.aload_n 1, 1) := by decide +kernel
theorem dL_law_243 : decode cL_law 243 = .ok (.iload 15, 2) := by decide +kernel
theorem dL_law_245 : decode cL_law 245 = .ok (.iconst 4, 1) := by decide +kernel
theorem dL_law_246 : decode cL_law 246 = .ok (.invokevirtual 70, 3) := by decide +kernel
theorem dL_law_249 : decode cL_law 249 = .ok (.aload_n 1, 1) := by decide +kernel
theorem dL_law_250 : decode cL_law 250 = .ok (.iload 15, 2) := by decide +kernel
theorem dL_law_252 : decode cL_law 252 = .ok (.iconst 3, 1) := by decide +kernel
theorem dL_law_253 : decode cL_law 253 = .ok (.invokevirtual 70, 3) := by decide +kernel
theorem dL_law_256 : decode cL_law 256 = .ok (.if_icmp .gt 72, 3) := by decide +kernel
theorem dL_law_259 : decode cL_law 259 = .ok (.aload_n 1, 1) := by decide +kernel
theorem dL_law_260 : decode cL_law 260 = .ok (.iload 15, 2) := by decide +kernel
theorem dL_law_262 : decode cL_law 262 = .ok (.iconst 5, 1) := by decide +kernel
theorem dL_law_263 : decode cL_law 263 = .ok (.invokevirtual 70, 3) := by decide +kernel
theorem dL_law_266 : decode cL_law 266 = .ok (.aload_n 1, 1) := by decide +kernel
theorem dL_law_267 : decode cL_law 267 = .ok (.iload 15, 2) := by decide +kernel
theorem dL_law_269 : decode cL_law 269 = .ok (.iconst 3, 1) := by decide +kernel
theorem dL_law_270 : decode cL_law 270 = .ok (.invokevirtual 70, 3) := by decide +kernel
theorem dL_law_273 : decode cL_law 273 = .ok (.if_icmp .gt 55, 3) := by decide +kernel
theorem dL_law_276 : decode cL_law 276 = .ok (.aload_n 1, 1) := by decide +kernel
theorem dL_law_277 : decode cL_law 277 = .ok (.iload 15, 2) := by decide +kernel
theorem dL_law_279 : decode cL_law 279 = .ok (.iconst 2, 1) := by decide +kernel
theorem dL_law_280 : decode cL_law 280 = .ok (.invokevirtual 70, 3) := by decide +kernel
theorem dL_law_283 : decode cL_law 283 = .ok (.iconst 2, 1) := by decide +kernel
theorem dL_law_284 : decode cL_law 284 = .ok (.aload_n 1, 1) := by decide +kernel
theorem dL_law_285 : decode cL_law 285 = .ok (.iload 15, 2) := by decide +kernel
theorem dL_law_287 : decode cL_law 287 = .ok (.iconst 4, 1) := by decide +kernel
theorem dL_law_288 : decode cL_law 288 = .ok (.invokevirtual 70, 3) := by decide +kernel
theorem dL_law_291 : decode cL_law 291 = .ok (.imul, 1) := by decide +kernel
theorem dL_law_292 : decode cL_law 292 = .ok (.if_icmp .gt 36, 3) := by decide +kernel
theorem dL_law_295 : decode cL_law 295 = .ok (.aload_n 1, 1) := by decide +kernel
theorem dL_law_296 : decode cL_law 296 = .ok (.iload 17, 2) := by decide +kernel
theorem dL_law_298 : decode cL_law 298 = .ok (.aload_n 1, 1) := by decide +kernel
theorem dL_law_299 : decode cL_law 299 = .ok (.iload 15, 2) := by decide +kernel
theorem dL_law_301 : decode cL_law 301 = .ok (.bipush 7, 2) := by decide +kernel
theorem dL_law_303 : decode cL_law 303 = .ok (.invokevirtual 70, 3) := by decide +kernel
theorem dL_law_306 : decode cL_law 306 = .ok (.invokevirtual 81, 3) := by decide +kernel
theorem dL_law_309 : decode cL_law 309 = .ok (.iload 15, 2) := by decide +kernel
theorem dL_law_311 : decode cL_law 311 = .ok (.if_icmp .ne 17, 3) := by decide +kernel
theorem dL_law_314 : decode cL_law 314 = .ok (.aload_n 1, 1) := by decide +kernel
theorem dL_law_315 : decode cL_law 315 = .ok (.iload 15, 2) := by decide +kernel
theorem dL_law_317 : decode cL_law 317 = .ok (.iload 15, 2) := by decide +kernel
theorem dL_law_319 : decode cL_law 319 = .ok (.invokevirtual 84, 3) := by decide +kernel
theorem dL_law_322 : decode cL_law 322 = .ok (.sipush 500, 3) := by decide +kernel
theorem dL_law_325 : decode cL_law 325 = .ok (.if_icmp .eq 5, 3) := by decide +kernel
theorem dL_law_328 : decode cL_law 328 = .ok (.iconst 0, 1) := by decide +kernel
theorem dL_law_329 : decode cL_law 329 = .ok (.ireturn, 1) := by decide +kernel
theorem dL_law_330 : decode cL_law 330 = .ok (.iconst 0, 1) := by decide +kernel
theorem dL_law_331 : decode cL_law 331 = .ok (.istore 18, 2) := by decide +kernel
theorem dL_law_333 : decode cL_law 333 = .ok (.iload 18, 2) := by decide +kernel
theorem dL_law_335 : decode cL_law 335 = .ok (.iload 5, 2) := by decide +kernel
theorem dL_law_337 : decode cL_law 337 = .ok (.if_icmp .ge 180, 3) := by decide +kernel
theorem dL_law_340 : decode cL_law 340 = .ok (.aload_n 1, 1) := by decide +kernel
theorem dL_law_341 : decode cL_law 341 = .ok (.iload 15, 2) := by decide +kernel
theorem dL_law_343 : decode cL_law 343 = .ok (.iload 18, 2) := by decide +kernel
theorem dL_law_345 : decode cL_law 345 = .ok (.invokevirtual 84, 3) := by decide +kernel
theorem dL_law_348 : decode cL_law 348 = .ok (.aload_n 1, 1) := by decide +kernel
theorem dL_law_349 : decode cL_law 349 = .ok (.iload 18, 2) := by decide +kernel
theorem dL_law_351 : decode cL_law 351 = .ok (.iload 15, 2) := by decide +kernel
theorem dL_law_353 : decode cL_law 353 = .ok (.invokevirtual 84, 3) := by decide +kernel
theorem dL_law_356 : decode cL_law 356 = .ok (.iadd, 1) := by decide +kernel
theorem dL_law_357 : decode cL_law 357 = .ok (.sipush 1000, 3) := by decide +kernel
theorem dL_law_360 : decode cL_law 360 = .ok (.if_icmp .ne 29, 3) := by decide +kernel
theorem dL_law_363 : decode cL_law 363 = .ok (.aload_n 1, 1) := by decide +kernel
theorem dL_law_364 : decode cL_law 364 = .ok (.iload 15, 2) := by decide +kernel
theorem dL_law_366 : decode cL_law 366 = .ok (.iload 18, 2) := by decide +kernel
theorem dL_law_368 : decode cL_law 368 = .ok (.invokevirtual 84, 3) := by decide +kernel
theorem dL_law_371 : decode cL_law 371 = .ok (.sipush 500, 3) := by decide +kernel
theorem dL_law_374 : decode cL_law 374 = .ok (.if_icmp .le 17, 3) := by decide +kernel
theorem dL_law_377 : decode cL_law 377 = .ok (.iload 16, 2) := by decide +kernel
theorem dL_law_379 : decode cL_law 379 = .ok (.aload_n 1, 1) := by decide +kernel
theorem dL_law_380 : decode cL_law 380 = .ok (.iload 18, 2) := by decide +kernel
theorem dL_law_382 : decode cL_law 382 = .ok (.iconst 0, 1) := by decide +kernel
theorem dL_law_383 : decode cL_law 383 = .ok (.invokevirtual 70, 3) := by decide +kernel
theorem dL_law_386 : decode cL_law 386 = .ok (.if_icmp .gt 5, 3) := by decide +kernel
theorem dL_law_389 : decode cL_law 389 = .ok (.iconst 0, 1) := by decide +kernel
theorem dL_law_390 : decode cL_law 390 = .ok (.ireturn, 1) := by decide +kernel
theorem dL_law_391 : decode cL_law 391 = .ok (.iload 18, 2) := by decide +kernel
theorem dL_law_393 : decode cL_law 393 = .ok (.iload 15, 2) := by decide +kernel
theorem dL_law_395 : decode cL_law 395 = .ok (.if_icmp .eq 116, 3) := by decide +kernel
theorem dL_law_398 : decode cL_law 398 = .ok (.aload_n 1, 1) := by decide +kernel
theorem dL_law_399 : decode cL_law 399 = .ok (.iload 18, 2) := by decide +kernel
theorem dL_law_401 : decode cL_law 401 = .ok (.iconst 1, 1) := by decide +kernel
theorem dL_law_402 : decode cL_law 402 = .ok (.invokevirtual 70, 3) := by decide +kernel
theorem dL_law_405 : decode cL_law 405 = .ok (.iload 17, 2) := by decide +kernel
theorem dL_law_407 : decode cL_law 407 = .ok (.if_icmp .eq 6, 3) := by decide +kernel
theorem dL_law_410 : decode cL_law 410 = .ok (.goto 101, 3) := by decide +kernel
theorem dL_law_413 : decode cL_law 413 = .ok (.aload_n 1, 1) := by decide +kernel
theorem dL_law_414 : decode cL_law 414 = .ok (.iload 15, 2) := by decide +kernel
theorem dL_law_416 : decode cL_law 416 = .ok (.bipush 7, 2) := by decide +kernel
theorem dL_law_418 : decode cL_law 418 = .ok (.invokevirtual 70, 3) := by decide +kernel
theorem dL_law_421 : decode cL_law 421 = .ok (.aload_n 1, 1) := by decide +kernel
theorem dL_law_422 : decode cL_law 422 = .ok (.iload 18, 2) := by decide +kernel
theorem dL_law_424 : decode cL_law 424 = .ok (.bipush 7, 2) := by decide +kernel
theorem dL_law_426 : decode cL_law 426 = .ok (.invokevirtual 70, 3) := by decide +kernel
theorem dL_law_429 : decode cL_law 429 = .ok (.if_icmp .ge 7, 3) := by decide +kernel
theorem dL_law_432 : decode cL_law 432 = .ok (.iconst 1, 1) := by decide +kernel
theorem dL_law_433 : decode cL_law 433 = .ok (.goto 4, 3) := by decide +kernel
theorem dL_law_436 : decode cL_law 436 = .ok (.iconst 0, 1) := by decide +kernel
theorem dL_law_437 : decode cL_law 437 = .ok (.istore 19, 2) := by decide +kernel
theorem dL_law_439 : decode cL_law 439 = .ok (.iload 19, 2) := by decide +kernel
theorem dL_law_441 : decode cL_law 441 = .ok (.ifCond .eq 70, 3) := by decide +kernel
theorem dL_law_444 : decode cL_law 444 = .ok (.aload_n 1, 1) := by decide +kernel
theorem dL_law_445 : decode cL_law 445 = .ok (.iload 15, 2) := by decide +kernel
theorem dL_law_447 : decode cL_law 447 = .ok (.iconst 2, 1) := by decide +kernel
theorem dL_law_448 : decode cL_law 448 = .ok (.invokevirtual 70, 3) := by decide +kernel
theorem dL_law_451 : decode cL_law 451 = .ok (.aload_n 1, 1) := by decide +kernel
theorem dL_law_452 : decode cL_law 452 = .ok (.iload 18, 2) := by decide +kernel
theorem dL_law_454 : decode cL_law 454 = .ok (.iconst 2, 1) := by decide +kernel
theorem dL_law_455 : decode cL_law 455 = .ok (.invokevirtual 70, 3) := by decide +kernel
theorem dL_law_458 : decode cL_law 458 = .ok (.if_icmp .lt 51, 3) := by decide +kernel
theorem dL_law_461 : decode cL_law 461 = .ok (.aload_n 1, 1) := by decide +kernel
theorem dL_law_462 : decode cL_law 462 = .ok (.iload 15, 2) := by decide +kernel
theorem dL_law_464 : decode cL_law 464 = .ok (.iconst 2, 1) := by decide +kernel
theorem dL_law_465 : decode cL_law 465 = .ok (.invokevirtual 70, 3) := by decide +kernel
theorem dL_law_468 : decode cL_law 468 = .ok (.aload_n 1, 1) := by decide +kernel
theorem dL_law_469 : decode cL_law 469 = .ok (.iload 18, 2) := by decide +kernel
theorem dL_law_471 : decode cL_law 471 = .ok (.iconst 2, 1) := by decide +kernel
theorem dL_law_472 : decode cL_law 472 = .ok (.invokevirtual 70, 3) := by decide +kernel
theorem dL_law_475 : decode cL_law 475 = .ok (.if_icmp .ne 36, 3) := by decide +kernel
theorem dL_law_478 : decode cL_law 478 = .ok (.iload 16, 2) := by decide +kernel
theorem dL_law_480 : decode cL_law 480 = .ok (.aload_n 1, 1) := by decide +kernel
theorem dL_law_481 : decode cL_law 481 = .ok (.iload 18, 2) := by decide +kernel
theorem dL_law_483 : decode cL_law 483 = .ok (.iconst 0, 1) := by decide +kernel
theorem dL_law_484 : decode cL_law 484 = .ok (.invokevirtual 70, 3) := by decide +kernel
theorem dL_law_487 : decode cL_law 487 = .ok (.if_icmp .lt 22, 3) := by decide +kernel
theorem dL_law_490 : decode cL_law 490 = .ok (.iload 16, 2) := by decide +kernel
theorem dL_law_492 : decode cL_law 492 = .ok (.aload_n 1, 1) := by decide +kernel
theorem dL_law_493 : decode cL_law 493 = .ok (.iload 18, 2) := by decide +kernel
theorem dL_law_495 : decode cL_law 495 = .ok (.iconst 0, 1) := by decide +kernel
theorem dL_law_496 : decode cL_law 496 = .ok (.invokevirtual 70, 3) := by decide +kernel
theorem dL_law_499 : decode cL_law 499 = .ok (.if_icmp .ne 12, 3) := by decide +kernel
theorem dL_law_502 : decode cL_law 502 = .ok (.iload 15, 2) := by decide +kernel
theorem dL_law_504 : decode cL_law 504 = .ok (.iload 18, 2) := by decide +kernel
theorem dL_law_506 : decode cL_law 506 = .ok (.if_icmp .le 5, 3) := by decide +kernel
theorem dL_law_509 : decode cL_law 509 = .ok (.iconst 0, 1) := by decide +kernel
theorem dL_law_510 : decode cL_law 510 = .ok (.ireturn, 1) := by decide +kernel
theorem dL_law_511 : decode cL_law 511 = .ok (.iinc 18 1, 3) := by decide +kernel
theorem dL_law_514 : decode cL_law 514 = .ok (.goto (-181), 3) := by decide +kernel
theorem dL_law_517 : decode cL_law 517 = .ok (.aload_n 1, 1) := by decide +kernel
theorem dL_law_518 : decode cL_law 518 = .ok (.iload 15, 2) := by decide +kernel
theorem dL_law_520 : decode cL_law 520 = .ok (.invokevirtual 87, 3) := by decide +kernel
theorem dL_law_523 : decode cL_law 523 = .ok (.istore 18, 2) := by decide +kernel
theorem dL_law_525 : decode cL_law 525 = .ok (.iload 18, 2) := by decide +kernel
theorem dL_law_527 : decode cL_law 527 = .ok (.ifCond .lt 25, 3) := by decide +kernel
theorem dL_law_530 : decode cL_law 530 = .ok (.iload 18, 2) := by decide +kernel
theorem dL_law_532 : decode cL_law 532 = .ok (.iload 15, 2) := by decide +kernel
theorem dL_law_534 : decode cL_law 534 = .ok (.if_icmp .eq 30, 3) := by decide +kernel
theorem dL_law_537 : decode cL_law 537 = .ok (.aload_n 1, 1) := by decide +kernel
theorem dL_law_538 : decode cL_law 538 = .ok (.iload 18, 2) := by decide +kernel
theorem dL_law_540 : decode cL_law 540 = .ok (.iconst 1, 1) := by decide +kernel
theorem dL_law_541 : decode cL_law 541 = .ok (.invokevirtual 70, 3) := by decide +kernel
theorem dL_law_544 : decode cL_law 544 = .ok (.iload 17, 2) := by decide +kernel
theorem dL_law_546 : decode cL_law 546 = .ok (.if_icmp .eq 20, 3) := by decide +kernel
theorem dL_law_549 : decode cL_law 549 = .ok (.goto 15, 3) := by decide +kernel
theorem dL_law_552 : decode cL_law 552 = .ok (.aload_n 1, 1) := by decide +kernel
theorem dL_law_553 : decode cL_law 553 = .ok (.iconst 4, 1) := by decide +kernel
theorem dL_law_554 : decode cL_law 554 = .ok (.iload 17, 2) := by decide +kernel
theorem dL_law_556 : decode cL_law 556 = .ok (.iadd, 1) := by decide +kernel
theorem dL_law_557 : decode cL_law 557 = .ok (.invokevirtual 63, 3) := by decide +kernel
theorem dL_law_560 : decode cL_law 560 = .ok (.iconst 1, 1) := by decide +kernel
theorem dL_law_561 : decode cL_law 561 = .ok (.if_icmp .eq 5, 3) := by decide +kernel
theorem dL_law_564 : decode cL_law 564 = .ok (.iconst 0, 1) := by decide +kernel
theorem dL_law_565 : decode cL_law 565 = .ok (.ireturn, 1) := by decide +kernel
theorem dL_law_566 : decode cL_law 566 = .ok (.iinc 15 1, 3) := by decide +kernel
theorem dL_law_569 : decode cL_law 569 = .ok (.goto (-465), 3) := by decide +kernel
theorem dL_law_572 : decode cL_law 572 = .ok (.iconst 0, 1) := by decide +kernel
theorem dL_law_573 : decode cL_law 573 = .ok (.istore 15, 2) := by decide +kernel
theorem dL_law_575 : decode cL_law 575 = .ok (.iload 15, 2) := by decide +kernel
theorem dL_law_577 : decode cL_law 577 = .ok (.iconst 3, 1) := by decide +kernel
theorem dL_law_578 : decode cL_law 578 = .ok (.if_icmp .ge 31, 3) := by decide +kernel
theorem dL_law_581 : decode cL_law 581 = .ok (.aload 12, 2) := by decide +kernel
theorem dL_law_583 : decode cL_law 583 = .ok (.iload 15, 2) := by decide +kernel
theorem dL_law_585 : decode cL_law 585 = .ok (.iaload, 1) := by decide +kernel
theorem dL_law_586 : decode cL_law 586 = .ok (.iconst 2, 1) := by decide +kernel
theorem dL_law_587 : decode cL_law 587 = .ok (.aload_n 1, 1) := by decide +kernel
theorem dL_law_588 : decode cL_law 588 = .ok (.iconst 4, 1) := by decide +kernel
theorem dL_law_589 : decode cL_law 589 = .ok (.iload 15, 2) := by decide +kernel
theorem dL_law_591 : decode cL_law 591 = .ok (.iadd, 1) := by decide +kernel
theorem dL_law_592 : decode cL_law 592 = .ok (.invokevirtual 63, 3) := by decide +kernel
theorem dL_law_595 : decode cL_law 595 = .ok (.ishl, 1) := by decide +kernel
theorem dL_law_596 : decode cL_law 596 = .ok (.iconst 2, 1) := by decide +kernel
theorem dL_law_597 : decode cL_law 597 = .ok (.isub, 1) := by decide +kernel
theorem dL_law_598 : decode cL_law 598 = .ok (.if_icmp .eq 5, 3) := by decide +kernel
theorem dL_law_601 : decode cL_law 601 = .ok (.iconst 0, 1) := by decide +kernel
theorem dL_law_602 : decode cL_law 602 = .ok (.ireturn, 1) := by decide +kernel
theorem dL_law_603 : decode cL_law 603 = .ok (.iinc 15 1, 3) := by decide +kernel
theorem dL_law_606 : decode cL_law 606 = .ok (.goto (-31), 3) := by decide +kernel
theorem dL_law_609 : decode cL_law 609 = .ok (.iload 11, 2) := by decide +kernel
theorem dL_law_611 : decode cL_law 611 = .ok (.iload 10, 2) := by decide +kernel
theorem dL_law_613 : decode cL_law 613 = .ok (.if_icmp .ne 84, 3) := by decide +kernel
theorem dL_law_616 : decode cL_law 616 = .ok (.iload 9, 2) := by decide +kernel
theorem dL_law_618 : decode cL_law 618 = .ok (.iconst 2, 1) := by decide +kernel
theorem dL_law_619 : decode cL_law 619 = .ok (.aload_n 1, 1) := by decide +kernel
theorem dL_law_620 : decode cL_law 620 = .ok (.iconst 2, 1) := by decide +kernel
theorem dL_law_621 : decode cL_law 621 = .ok (.invokevirtual 63, 3) := by decide +kernel
theorem dL_law_624 : decode cL_law 624 = .ok (.imul, 1) := by decide +kernel
theorem dL_law_625 : decode cL_law 625 = .ok (.if_icmp .ne 72, 3) := by decide +kernel
theorem dL_law_628 : decode cL_law 628 = .ok (.iload 10, 2) := by decide +kernel
theorem dL_law_630 : decode cL_law 630 = .ok (.iconst 2, 1) := by decide +kernel
theorem dL_law_631 : decode cL_law 631 = .ok (.irem, 1) := by decide +kernel
theorem dL_law_632 : decode cL_law 632 = .ok (.ifCond .ne 65, 3) := by decide +kernel
theorem dL_law_635 : decode cL_law 635 = .ok (.iload 5, 2) := by decide +kernel
theorem dL_law_637 : decode cL_law 637 = .ok (.ifCond .le 47, 3) := by decide +kernel
theorem dL_law_640 : decode cL_law 640 = .ok (.iload 13, 2) := by decide +kernel
theorem dL_law_642 : decode cL_law 642 = .ok (.aload_n 1, 1) := by decide +kernel
theorem dL_law_643 : decode cL_law 643 = .ok (.bipush 7, 2) := by decide +kernel
theorem dL_law_645 : decode cL_law 645 = .ok (.invokevirtual 63, 3) := by decide +kernel
theorem dL_law_648 : decode cL_law 648 = .ok (.if_icmp .ne 49, 3) := by decide +kernel
theorem dL_law_651 : decode cL_law 651 = .ok (.iload 14, 2) := by decide +kernel
theorem dL_law_653 : decode cL_law 653 = .ok (.aload_n 1, 1) := by decide +kernel
theorem dL_law_654 : decode cL_law 654 = .ok (.bipush 8, 2) := by decide +kernel
theorem dL_law_656 : decode cL_law 656 = .ok (.invokevirtual 63, 3) := by decide +kernel
theorem dL_law_659 : decode cL_law 659 = .ok (.if_icmp .ne 38, 3) := by decide +kernel
theorem dL_law_662 : decode cL_law 662 = .ok (.aload_n 1, 1) := by decide +kernel
theorem dL_law_663 : decode cL_law 663 = .ok (.invokevirtual 90, 3) := by decide +kernel
theorem dL_law_666 : decode cL_law 666 = .ok (.iload 5, 2) := by decide +kernel
theorem dL_law_668 : decode cL_law 668 = .ok (.i2d, 1) := by decide +kernel
theorem dL_law_669 : decode cL_law 669 = .ok (.dmul, 1) := by decide +kernel
theorem dL_law_670 : decode cL_law 670 = .ok (.iload 8, 2) := by decide +kernel
theorem dL_law_672 : decode cL_law 672 = .ok (.i2d, 1) := by decide +kernel
theorem dL_law_673 : decode cL_law 673 = .ok (.dsub, 1) := by decide +kernel
theorem dL_law_674 : decode cL_law 674 = .ok (.invokestatic 94, 3) := by decide +kernel
theorem dL_law_677 : decode cL_law 677 = .ok (.ldc2_w 98, 3) := by decide +kernel
theorem dL_law_680 : decode cL_law 680 = .ok (.dcmp .l, 1) := by decide +kernel
theorem dL_law_681 : decode cL_law 681 = .ok (.ifCond .gt 16, 3) := by decide +kernel
theorem dL_law_684 : decode cL_law 684 = .ok (.aload_n 1, 1) := by decide +kernel
theorem dL_law_685 : decode cL_law 685 = .ok (.iconst 3, 1) := by decide +kernel
theorem dL_law_686 : decode cL_law 686 = .ok (.invokevirtual 63, 3) := by decide +kernel
theorem dL_law_689 : decode cL_law 689 = .ok (.aload_n 1, 1) := by decide +kernel
theorem dL_law_690 : decode cL_law 690 = .ok (.iconst 2, 1) := by decide +kernel
theorem dL_law_691 : decode cL_law 691 = .ok (.invokevirtual 63, 3) := by decide +kernel
theorem dL_law_694 : decode cL_law 694 = .ok (.if_icmp .le 5, 3) := by decide +kernel
theorem dL_law_697 : decode cL_law 697 = .ok (.iconst 0, 1) := by decide +kernel
theorem dL_law_698 : decode cL_law 698 = .ok (.ireturn, 1) := by decide +kernel
theorem dL_law_699 : decode cL_law 699 = .ok (.aload_n 1, 1) := by decide +kernel
theorem dL_law_700 : decode cL_law 700 = .ok (.invokevirtual 100, 3) := by decide +kernel
theorem dL_law_703 : decode cL_law 703 = .ok (.istore 15, 2) := by decide +kernel
theorem dL_law_705 : decode cL_law 705 = .ok (.iload 15, 2) := by decide +kernel
theorem dL_law_707 : decode cL_law 707 = .ok (.ifCond .lt 41, 3) := by decide +kernel
theorem dL_law_710 : decode cL_law 710 = .ok (.iload 15, 2) := by decide +kernel
theorem dL_law_712 : decode cL_law 712 = .ok (.bipush 12, 2) := by decide +kernel
theorem dL_law_714 : decode cL_law 714 = .ok (.idiv, 1) := by decide +kernel
theorem dL_law_715 : decode cL_law 715 = .ok (.iload 15, 2) := by decide +kernel
theorem dL_law_717 : decode cL_law 717 = .ok (.bipush 12, 2) := by decide +kernel
theorem dL_law_719 : decode cL_law 719 = .ok (.irem, 1) := by decide +kernel
theorem dL_law_720 : decode cL_law 720 = .ok (.if_icmp .ge 26, 3) := by decide +kernel
theorem dL_law_723 : decode cL_law 723 = .ok (.aload_n 1, 1) := by decide +kernel
theorem dL_law_724 : decode cL_law 724 = .ok (.iload 15, 2) := by decide +kernel
theorem dL_law_726 : decode cL_law 726 = .ok (.bipush 12, 2) := by decide +kernel
theorem dL_law_728 : decode cL_law 728 = .ok (.idiv, 1) := by decide +kernel
theorem dL_law_729 : decode cL_law 729 = .ok (.iconst 1, 1) := by decide +kernel
theorem dL_law_730 : decode cL_law 730 = .ok (.invokevirtual 70, 3) := by decide +kernel
theorem dL_law_733 : decode cL_law 733 = .ok (.aload_n 1, 1) := by decide +kernel
theorem dL_law_734 : decode cL_law 734 = .ok (.iload 15, 2) := by decide +kernel
theorem dL_law_736 : decode cL_law 736 = .ok (.bipush 12, 2) := by decide +kernel
theorem dL_law_738 : decode cL_law 738 = .ok (.irem, 1) := by decide +kernel
theorem dL_law_739 : decode cL_law 739 = .ok (.iconst 1, 1) := by decide +kernel
theorem dL_law_740 : decode cL_law 740 = .ok (.invokevirtual 70, 3) := by decide +kernel
theorem dL_law_743 : decode cL_law 743 = .ok (.if_icmp .eq 5, 3) := by decide +kernel
theorem dL_law_746 : decode cL_law 746 = .ok (.iconst 0, 1) := by decide +kernel
theorem dL_law_747 : decode cL_law 747 = .ok (.ireturn, 1) := by decide +kernel
theorem dL_law_748 : decode cL_law 748 = .ok (.iload 5, 2) := by decide +kernel
theorem dL_law_750 : decode cL_law 750 = .ok (.ifCond .le 13, 3) := by decide +kernel
theorem dL_law_753 : decode cL_law 753 = .ok (.aload_n 1, 1) := by decide +kernel
theorem dL_law_754 : decode cL_law 754 = .ok (.iconst 1, 1) := by decide +kernel
theorem dL_law_755 : decode cL_law 755 = .ok (.invokevirtual 103, 3) := by decide +kernel
theorem dL_law_758 : decode cL_law 758 = .ok (.iload 13, 2) := by decide +kernel
theorem dL_law_760 : decode cL_law 760 = .ok (.if_icmp .lt 13, 3) := by decide +kernel
theorem dL_law_763 : decode cL_law 763 = .ok (.aload_n 1, 1) := by decide +kernel
theorem dL_law_764 : decode cL_law 764 = .ok (.invokevirtual 66, 3) := by decide +kernel
theorem dL_law_767 : decode cL_law 767 = .ok (.lload 6, 2) := by decide +kernel
theorem dL_law_769 : decode cL_law 769 = .ok (.lcmp, 1) := by decide +kernel
theorem dL_law_770 : decode cL_law 770 = .ok (.ifCond .eq 5, 3) := by decide +kernel
theorem dL_law_773 : decode cL_law 773 = .ok (.iconst 0, 1) := by decide +kernel
theorem dL_law_774 : decode cL_law 774 = .ok (.ireturn, 1) := by decide +kernel
theorem dL_law_775 : decode cL_law 775 = .ok (.iload 5, 2) := by decide +kernel
theorem dL_law_777 : decode cL_law 777 = .ok (.iconst 2, 1) := by decide +kernel
theorem dL_law_778 : decode cL_law 778 = .ok (.if_icmp .ge 6, 3) := by decide +kernel
theorem dL_law_781 : decode cL_law 781 = .ok (.goto 459, 3) := by decide +kernel
theorem dL_law_784 : decode cL_law 784 = .ok (.iload 4, 2) := by decide +kernel
theorem dL_law_786 : decode cL_law 786 = .ok (.iconst 3, 1) := by decide +kernel
theorem dL_law_787 : decode cL_law 787 = .ok (.ishr, 1) := by decide +kernel
theorem dL_law_788 : decode cL_law 788 = .ok (.iload 5, 2) := by decide +kernel
theorem dL_law_790 : decode cL_law 790 = .ok (.invokestatic 15, 3) := by decide +kernel
theorem dL_law_793 : decode cL_law 793 = .ok (.istore 16, 2) := by decide +kernel
theorem dL_law_795 : decode cL_law 795 = .ok (.iload 16, 2) := by decide +kernel
theorem dL_law_797 : decode cL_law 797 = .ok (.iconst 1, 1) := by decide +kernel
theorem dL_law_798 : decode cL_law 798 = .ok (.iadd, 1) := by decide +kernel
theorem dL_law_799 : decode cL_law 799 = .ok (.iload 4, 2) := by decide +kernel
theorem dL_law_801 : decode cL_law 801 = .ok (.iconst 5, 1) := by decide +kernel
theorem dL_law_802 : decode cL_law 802 = .ok (.ishr, 1) := by decide +kernel
theorem dL_law_803 : decode cL_law 803 = .ok (.iload 5, 2) := by decide +kernel
theorem dL_law_805 : decode cL_law 805 = .ok (.iconst 1, 1) := by decide +kernel
theorem dL_law_806 : decode cL_law 806 = .ok (.isub, 1) := by decide +kernel
theorem dL_law_807 : decode cL_law 807 = .ok (.invokestatic 15, 3) := by decide +kernel
theorem dL_law_810 : decode cL_law 810 = .ok (.iadd, 1) := by decide +kernel
theorem dL_law_811 : decode cL_law 811 = .ok (.iload 5, 2) := by decide +kernel
theorem dL_law_813 : decode cL_law 813 = .ok (.irem, 1) := by decide +kernel
theorem dL_law_814 : decode cL_law 814 = .ok (.istore 17, 2) := by decide +kernel
theorem dL_law_816 : decode cL_law 816 = .ok (.iload 4, 2) := by decide +kernel
theorem dL_law_818 : decode cL_law 818 = .ok (.bipush 7, 2) := by decide +kernel
theorem dL_law_820 : decode cL_law 820 = .ok (.ishr, 1) := by decide +kernel
theorem dL_law_821 : decode cL_law 821 = .ok (.iconst 3, 1) := by decide +kernel
theorem dL_law_822 : decode cL_law 822 = .ok (.invokestatic 15, 3) := by decide +kernel
theorem dL_law_825 : decode cL_law 825 = .ok (.istore 18, 2) := by decide +kernel
theorem dL_law_827 : decode cL_law 827 = .ok (.aload_n 1, 1) := by decide +kernel
theorem dL_law_828 : decode cL_law 828 = .ok (.iload 16, 2) := by decide +kernel
theorem dL_law_830 : decode cL_law 830 = .ok (.iload 17, 2) := by decide +kernel
theorem dL_law_832 : decode cL_law 832 = .ok (.iload 18, 2) := by decide +kernel
theorem dL_law_834 : decode cL_law 834 = .ok (.iconst 0, 1) := by decide +kernel
theorem dL_law_835 : decode cL_law 835 = .ok (.invokevirtual 106, 3) := by decide +kernel
theorem dL_law_838 : decode cL_law 838 = .ok (.istore 19, 2) := by decide +kernel
theorem dL_law_840 : decode cL_law 840 = .ok (.aload_n 1, 1) := by decide +kernel
theorem dL_law_841 : decode cL_law 841 = .ok (.iload 16, 2) := by decide +kernel
theorem dL_law_843 : decode cL_law 843 = .ok (.iload 17, 2) := by decide +kernel
theorem dL_law_845 : decode cL_law 845 = .ok (.iload 18, 2) := by decide +kernel
theorem dL_law_847 : decode cL_law 847 = .ok (.iconst 1, 1) := by decide +kernel
theorem dL_law_848 : decode cL_law 848 = .ok (.invokevirtual 106, 3) := by decide +kernel
theorem dL_law_851 : decode cL_law 851 = .ok (.istore 20, 2) := by decide +kernel
theorem dL_law_853 : decode cL_law 853 = .ok (.aload_n 1, 1) := by decide +kernel
theorem dL_law_854 : decode cL_law 854 = .ok (.iload 16, 2) := by decide +kernel
theorem dL_law_856 : decode cL_law 856 = .ok (.iconst 0, 1) := by decide +kernel
theorem dL_law_857 : decode cL_law 857 = .ok (.invokevirtual 70, 3) := by decide +kernel
theorem dL_law_860 : decode cL_law 860 = .ok (.istore 21, 2) := by decide +kernel
theorem dL_law_862 : decode cL_law 862 = .ok (.aload_n 1, 1) := by decide +kernel
theorem dL_law_863 : decode cL_law 863 = .ok (.iload 17, 2) := by decide +kernel
theorem dL_law_865 : decode cL_law 865 = .ok (.iconst 0, 1) := by decide +kernel
theorem dL_law_866 : decode cL_law 866 = .ok (.invokevirtual 70, 3) := by decide +kernel
theorem dL_law_869 : decode cL_law 869 = .ok (.istore 22, 2) := by decide +kernel
theorem dL_law_871 : decode cL_law 871 = .ok (.iload 18, 2) := by decide +kernel
theorem dL_law_873 : decode cL_law 873 = .ok (.iconst 2, 1) := by decide +kernel
theorem dL_law_874 : decode cL_law 874 = .ok (.if_icmp .ne 13, 3) := by decide +kernel
theorem dL_law_877 : decode cL_law 877 = .ok (.iload 19, 2) := by decide +kernel
theorem dL_law_879 : decode cL_law 879 = .ok (.ifCond .lt 51, 3) := by decide +kernel
theorem dL_law_882 : decode cL_law 882 = .ok (.iload 20, 2) := by decide +kernel
theorem dL_law_884 : decode cL_law 884 = .ok (.ifCond .gt 46, 3) := by decide +kernel
theorem dL_law_887 : decode cL_law 887 = .ok (.iload 18, 2) := by decide +kernel
theorem dL_law_889 : decode cL_law 889 = .ok (.ifCond .ne 13, 3) := by decide +kernel
theorem dL_law_892 : decode cL_law 892 = .ok (.iload 19, 2) := by decide +kernel
theorem dL_law_894 : decode cL_law 894 = .ok (.ifCond .gt 36, 3) := by decide +kernel
theorem dL_law_897 : decode cL_law 897 = .ok (.iload 20, 2) := by decide +kernel
theorem dL_law_899 : decode cL_law 899 = .ok (.ifCond .lt 31, 3) := by decide +kernel
theorem dL_law_902 : decode cL_law 902 = .ok (.aload_n 1, 1) := by decide +kernel
theorem dL_law_903 : decode cL_law 903 = .ok (.iload 17, 2) := by decide +kernel
theorem dL_law_905 : decode cL_law 905 = .ok (.iload 16, 2) := by decide +kernel
theorem dL_law_907 : decode cL_law 907 = .ok (.iconst 2, 1) := by decide +kernel
theorem dL_law_908 : decode cL_law 908 = .ok (.iload 18, 2) := by decide +kernel
theorem dL_law_910 : decode cL_law 910 = .ok (.isub, 1) := by decide +kernel
theorem dL_law_911 : decode cL_law 911 = .ok (.iconst 0, 1) := by decide +kernel
theorem dL_law_912 : decode cL_law 912 = .ok (.invokevirtual 106, 3) := by decide +kernel
theorem dL_law_915 : decode cL_law 915 = .ok (.iload 20, 2) := by decide +kernel
theorem dL_law_917 : decode cL_law 917 = .ok (.if_icmp .ne 13, 3) := by decide +kernel
theorem dL_law_920 : decode cL_law 920 = .ok (.aload_n 1, 1) := by decide +kernel
theorem dL_law_921 : decode cL_law 921 = .ok (.invokevirtual 66, 3) := by decide +kernel
theorem dL_law_924 : decode cL_law 924 = .ok (.lload 6, 2) := by decide +kernel
theorem dL_law_926 : decode cL_law 926 = .ok (.lcmp, 1) := by decide +kernel
theorem dL_law_927 : decode cL_law 927 = .ok (.ifCond .eq 5, 3) := by decide +kernel
theorem dL_law_930 : decode cL_law 930 = .ok (.iconst 0, 1) := by decide +kernel
theorem dL_law_931 : decode cL_law 931 = .ok (.ireturn, 1) := by decide +kernel
theorem dL_law_932 : decode cL_law 932 = .ok (.aload_n 1, 1) := by decide +kernel
theorem dL_law_933 : decode cL_law 933 = .ok (.iload 16, 2) := by decide +kernel
theorem dL_law_935 : decode cL_law 935 = .ok (.iload 17, 2) := by decide +kernel
theorem dL_law_937 : decode cL_law 937 = .ok (.iload 18, 2) := by decide +kernel
theorem dL_law_939 : decode cL_law 939 = .ok (.invokevirtual 43, 3) := by decide +kernel
theorem dL_law_942 : decode cL_law 942 = .ok (.iload 19, 2) := by decide +kernel
theorem dL_law_944 : decode cL_law 944 = .ok (.if_icmp .ne 48, 3) := by decide +kernel
theorem dL_law_947 : decode cL_law 947 = .ok (.aload_n 2, 1) := by decide +kernel
theorem dL_law_948 : decode cL_law 948 = .ok (.iload 16, 2) := by decide +kernel
theorem dL_law_950 : decode cL_law 950 = .ok (.iload 17, 2) := by decide +kernel
theorem dL_law_952 : decode cL_law 952 = .ok (.iload 18, 2) := by decide +kernel
theorem dL_law_954 : decode cL_law 954 = .ok (.invokevirtual 47, 3) := by decide +kernel
theorem dL_law_957 : decode cL_law 957 = .ok (.iload 19, 2) := by decide +kernel
theorem dL_law_959 : decode cL_law 959 = .ok (.if_icmp .ne 33, 3) := by decide +kernel
theorem dL_law_962 : decode cL_law 962 = .ok (.aload_n 1, 1) := by decide +kernel
theorem dL_law_963 : decode cL_law 963 = .ok (.iload 16, 2) := by decide +kernel
theorem dL_law_965 : decode cL_law 965 = .ok (.iconst 0, 1) := by decide +kernel
theorem dL_law_966 : decode cL_law 966 = .ok (.invokevirtual 70, 3) := by decide +kernel
theorem dL_law_969 : decode cL_law 969 = .ok (.iload 21, 2) := by decide +kernel
theorem dL_law_971 : decode cL_law 971 = .ok (.iload 19, 2) := by decide +kernel
theorem dL_law_973 : decode cL_law 973 = .ok (.iadd, 1) := by decide +kernel
theorem dL_law_974 : decode cL_law 974 = .ok (.if_icmp .ne 18, 3) := by decide +kernel
theorem dL_law_977 : decode cL_law 977 = .ok (.aload_n 1, 1) := by decide +kernel
theorem dL_law_978 : decode cL_law 978 = .ok (.iload 17, 2) := by decide +kernel
theorem dL_law_980 : decode cL_law 980 = .ok (.iconst 0, 1) := by decide +kernel
theorem dL_law_981 : decode cL_law 981 = .ok (.invokevirtual 70, 3) := by decide +kernel
theorem dL_law_984 : decode cL_law 984 = .ok (.iload 22, 2) := by decide +kernel
theorem dL_law_986 : decode cL_law 986 = .ok (.iload 20, 2) := by decide +kernel
theorem dL_law_988 : decode cL_law 988 = .ok (.iadd, 1) := by decide +kernel
theorem dL_law_989 : decode cL_law 989 = .ok (.if_icmp .eq 5, 3) := by decide +kernel
theorem dL_law_992 : decode cL_law 992 = .ok (.iconst 0, 1) := by decide +kernel
theorem dL_law_993 : decode cL_law 993 = .ok (.ireturn, 1) := by decide +kernel
theorem dL_law_994 : decode cL_law 994 = .ok (.iload_n 3, 1) := by decide +kernel
theorem dL_law_995 : decode cL_law 995 = .ok (.bipush 6, 2) := by decide +kernel
theorem dL_law_997 : decode cL_law 997 = .ok (.irem, 1) := by decide +kernel
theorem dL_law_998 : decode cL_law 998 = .ok (.iconst 5, 1) := by decide +kernel
theorem dL_law_999 : decode cL_law 999 = .ok (.if_icmp .eq 6, 3) := by decide +kernel
theorem dL_law_1002 : decode cL_law 1002 = .ok (.goto 238, 3) := by decide +kernel
theorem dL_law_1005 : decode cL_law 1005 = .ok (.iload 5, 2) := by decide +kernel
theorem dL_law_1007 : decode cL_law 1007 = .ok (.newarray .int, 2) := by decide +kernel
theorem dL_law_1009 : decode cL_law 1009 = .ok (.astore 23, 2) := by decide +kernel
theorem dL_law_1011 : decode cL_law 1011 = .ok (.iload 5, 2) := by decide +kernel
theorem dL_law_1013 : decode cL_law 1013 = .ok (.newarray .int, 2) := by decide +kernel
theorem dL_law_1015 : decode cL_law 1015 = .ok (.astore 24, 2) := by decide +kernel
theorem dL_law_1017 : decode cL_law 1017 = .ok (.iconst 0, 1) := by decide +kernel
theorem dL_law_1018 : decode cL_law 1018 = .ok (.istore 25, 2) := by decide +kernel
theorem dL_law_1020 : decode cL_law 1020 = .ok (.iload 25, 2) := by decide +kernel
theorem dL_law_1022 : decode cL_law 1022 = .ok (.iload 5, 2) := by decide +kernel
theorem dL_law_1024 : decode cL_law 1024 = .ok (.if_icmp .ge 42, 3) := by decide +kernel
theorem dL_law_1027 : decode cL_law 1027 = .ok (.aload 23, 2) := by decide +kernel
theorem dL_law_1029 : decode cL_law 1029 = .ok (.iload 25, 2) := by decide +kernel
theorem dL_law_1031 : decode cL_law 1031 = .ok (.aload_n 1, 1) := by decide +kernel
theorem dL_law_1032 : decode cL_law 1032 = .ok (.iload 25, 2) := by decide +kernel
theorem dL_law_1034 : decode cL_law 1034 = .ok (.iconst 0, 1) := by decide +kernel
theorem dL_law_1035 : decode cL_law 1035 = .ok (.invokevirtual 70, 3) := by decide +kernel
theorem dL_law_1038 : decode cL_law 1038 = .ok (.iastore, 1) := by decide +kernel
theorem dL_law_1039 : decode cL_law 1039 = .ok (.aload 24, 2) := by decide +kernel
theorem dL_law_1041 : decode cL_law 1041 = .ok (.iload 25, 2) := by decide +kernel
theorem dL_law_1043 : decode cL_law 1043 = .ok (.aload_n 1, 1) := by decide +kernel
theorem dL_law_1044 : decode cL_law 1044 = .ok (.iload 25, 2) := by decide +kernel
theorem dL_law_1046 : decode cL_law 1046 = .ok (.iconst 4, 1) := by decide +kernel
theorem dL_law_1047 : decode cL_law 1047 = .ok (.invokevirtual 70, 3) := by decide +kernel
theorem dL_law_1050 : decode cL_law 1050 = .ok (.iconst 3, 1) := by decide +kernel
theorem dL_law_1051 : decode cL_law 1051 = .ok (.if_icmp .ge 7, 3) := by decide +kernel
theorem dL_law_1054 : decode cL_law 1054 = .ok (.iconst 1, 1) := by decide +kernel
theorem dL_law_1055 : decode cL_law 1055 = .ok (.goto 4, 3) := by decide +kernel
theorem dL_law_1058 : decode cL_law 1058 = .ok (.iconst 0, 1) := by decide +kernel
theorem dL_law_1059 : decode cL_law 1059 = .ok (.iastore, 1) := by decide +kernel
theorem dL_law_1060 : decode cL_law 1060 = .ok (.iinc 25 1, 3) := by decide +kernel
theorem dL_law_1063 : decode cL_law 1063 = .ok (.goto (-43), 3) := by decide +kernel
theorem dL_law_1066 : decode cL_law 1066 = .ok (.iconst 3, 1) := by decide +kernel
theorem dL_law_1067 : decode cL_law 1067 = .ok (.newarray .int, 2) := by decide +kernel
theorem dL_law_1069 : decode cL_law 1069 = .ok (.dup, 1) := by decide +kernel
theorem dL_law_1070 : decode cL_law 1070 = .ok (.iconst 0, 1) := by decide +kernel
theorem dL_law_1071 : decode cL_law 1071 = .ok (.aload_n 1, 1) := by decide +kernel
theorem dL_law_1072 : decode cL_law 1072 = .ok (.iconst 4, 1) := by decide +kernel
theorem dL_law_1073 : decode cL_law 1073 = .ok (.invokevirtual 63, 3) := by decide +kernel
theorem dL_law_1076 : decode cL_law 1076 = .ok (.iastore, 1) := by decide +kernel
theorem dL_law_1077 : decode cL_law 1077 = .ok (.dup, 1) := by decide +kernel
theorem dL_law_1078 : decode cL_law 1078 = .ok (.iconst 1, 1) := by decide +kernel
theorem dL_law_1079 : decode cL_law 1079 = .ok (.aload_n 1, 1) := by decide +kernel
theorem dL_law_1080 : decode cL_law 1080 = .ok (.iconst 5, 1) := by decide +kernel
theorem dL_law_1081 : decode cL_law 1081 = .ok (.invokevirtual 63, 3) := by decide +kernel
theorem dL_law_1084 : decode cL_law 1084 = .ok (.iastore, 1) := by decide +kernel
theorem dL_law_1085 : decode cL_law 1085 = .ok (.dup, 1) := by decide +kernel
theorem dL_law_1086 : decode cL_law 1086 = .ok (.iconst 2, 1) := by decide +kernel
theorem dL_law_1087 : decode cL_law 1087 = .ok (.aload_n 1, 1) := by decide +kernel
theorem dL_law_1088 : decode cL_law 1088 = .ok (.bipush 6, 2) := by decide +kernel
theorem dL_law_1090 : decode cL_law 1090 = .ok (.invokevirtual 63, 3) := by decide +kernel
theorem dL_law_1093 : decode cL_law 1093 = .ok (.iastore, 1) := by decide +kernel
theorem dL_law_1094 : decode cL_law 1094 = .ok (.astore 25, 2) := by decide +kernel
theorem dL_law_1096 : decode cL_law 1096 = .ok (.aload_n 1, 1) := by decide +kernel
theorem dL_law_1097 : decode cL_law 1097 = .ok (.invokevirtual 38, 3) := by decide +kernel
theorem dL_law_1100 : decode cL_law 1100 = .ok (.istore 26, 2) := by decide +kernel
theorem dL_law_1102 : decode cL_law 1102 = .ok (.aload_n 2, 1) := by decide +kernel
theorem dL_law_1103 : decode cL_law 1103 = .ok (.invokevirtual 42, 3) := by decide +kernel
theorem dL_law_1106 : decode cL_law 1106 = .ok (.iload 26, 2) := by decide +kernel
theorem dL_law_1108 : decode cL_law 1108 = .ok (.if_icmp .ne 14, 3) := by decide +kernel
theorem dL_law_1111 : decode cL_law 1111 = .ok (.iload 26, 2) := by decide +kernel
theorem dL_law_1113 : decode cL_law 1113 = .ok (.ifCond .lt 9, 3) := by decide +kernel
theorem dL_law_1116 : decode cL_law 1116 = .ok (.iload 26, 2) := by decide +kernel
theorem dL_law_1118 : decode cL_law 1118 = .ok (.iconst 2, 1) := by decide +kernel
theorem dL_law_1119 : decode cL_law 1119 = .ok (.if_icmp .le 5, 3) := by decide +kernel
theorem dL_law_1122 : decode cL_law 1122 = .ok (.iconst 0, 1) := by decide +kernel
theorem dL_law_1123 : decode cL_law 1123 = .ok (.ireturn, 1) := by decide +kernel
theorem dL_law_1124 : decode cL_law 1124 = .ok (.iconst 0, 1) := by decide +kernel
theorem dL_law_1125 : decode cL_law 1125 = .ok (.istore 27, 2) := by decide +kernel
theorem dL_law_1127 : decode cL_law 1127 = .ok (.iload 27, 2) := by decide +kernel
theorem dL_law_1129 : decode cL_law 1129 = .ok (.iconst 3, 1) := by decide +kernel
theorem dL_law_1130 : decode cL_law 1130 = .ok (.if_icmp .ge 27, 3) := by decide +kernel
theorem dL_law_1133 : decode cL_law 1133 = .ok (.aload_n 1, 1) := by decide +kernel
theorem dL_law_1134 : decode cL_law 1134 = .ok (.iconst 4, 1) := by decide +kernel
theorem dL_law_1135 : decode cL_law 1135 = .ok (.iload 27, 2) := by decide +kernel
theorem dL_law_1137 : decode cL_law 1137 = .ok (.iadd, 1) := by decide +kernel
theorem dL_law_1138 : decode cL_law 1138 = .ok (.invokevirtual 63, 3) := by decide +kernel
theorem dL_law_1141 : decode cL_law 1141 = .ok (.aload 25, 2) := by decide +kernel
theorem dL_law_1143 : decode cL_law 1143 = .ok (.iload 27, 2) := by decide +kernel
theorem dL_law_1145 : decode cL_law 1145 = .ok (.iaload, 1) := by decide +kernel
theorem dL_law_1146 : decode cL_law 1146 = .ok (.if_icmp .eq 5, 3) := by decide +kernel
theorem dL_law_1149 : decode cL_law 1149 = .ok (.iconst 0, 1) := by decide +kernel
theorem dL_law_1150 : decode cL_law 1150 = .ok (.ireturn, 1) := by decide +kernel
theorem dL_law_1151 : decode cL_law 1151 = .ok (.iinc 27 1, 3) := by decide +kernel
theorem dL_law_1154 : decode cL_law 1154 = .ok (.goto (-27), 3) := by decide +kernel
theorem dL_law_1157 : decode cL_law 1157 = .ok (.iconst 0, 1) := by decide +kernel
theorem dL_law_1158 : decode cL_law 1158 = .ok (.istore 27, 2) := by decide +kernel
theorem dL_law_1160 : decode cL_law 1160 = .ok (.iload 27, 2) := by decide +kernel
theorem dL_law_1162 : decode cL_law 1162 = .ok (.iload 5, 2) := by decide +kernel
theorem dL_law_1164 : decode cL_law 1164 = .ok (.if_icmp .ge 76, 3) := by decide +kernel
theorem dL_law_1167 : decode cL_law 1167 = .ok (.aload 23, 2) := by decide +kernel
theorem dL_law_1169 : decode cL_law 1169 = .ok (.iload 27, 2) := by decide +kernel
theorem dL_law_1171 : decode cL_law 1171 = .ok (.iaload, 1) := by decide +kernel
theorem dL_law_1172 : decode cL_law 1172 = .ok (.sipush 1000, 3) := by decide +kernel
theorem dL_law_1175 : decode cL_law 1175 = .ok (.isub, 1) := by decide +kernel
theorem dL_law_1176 : decode cL_law 1176 = .ok (.invokestatic 110, 3) := by decide +kernel
theorem dL_law_1179 : decode cL_law 1179 = .ok (.istore 28, 2) := by decide +kernel
theorem dL_law_1181 : decode cL_law 1181 = .ok (.aload_n 1, 1) := by decide +kernel
theorem dL_law_1182 : decode cL_law 1182 = .ok (.iload 27, 2) := by decide +kernel
theorem dL_law_1184 : decode cL_law 1184 = .ok (.iconst 0, 1) := by decide +kernel
theorem dL_law_1185 : decode cL_law 1185 = .ok (.invokevirtual 70, 3) := by decide +kernel
theorem dL_law_1188 : decode cL_law 1188 = .ok (.sipush 1000, 3) := by decide +kernel
theorem dL_law_1191 : decode cL_law 1191 = .ok (.isub, 1) := by decide +kernel
theorem dL_law_1192 : decode cL_law 1192 = .ok (.invokestatic 110, 3) := by decide +kernel
theorem dL_law_1195 : decode cL_law 1195 = .ok (.iload 28, 2) := by decide +kernel
theorem dL_law_1197 : decode cL_law 1197 = .ok (.aload 24, 2) := by decide +kernel
theorem dL_law_1199 : decode cL_law 1199 = .ok (.iload 27, 2) := by decide +kernel
theorem dL_law_1201 : decode cL_law 1201 = .ok (.iaload, 1) := by decide +kernel
theorem dL_law_1202 : decode cL_law 1202 = .ok (.iload 28, 2) := by decide +kernel
theorem dL_law_1204 : decode cL_law 1204 = .ok (.bipush 8, 2) := by decide +kernel
theorem dL_law_1206 : decode cL_law 1206 = .ok (.idiv, 1) := by decide +kernel
theorem dL_law_1207 : decode cL_law 1207 = .ok (.imul, 1) := by decide +kernel
theorem dL_law_1208 : decode cL_law 1208 = .ok (.isub, 1) := by decide +kernel
theorem dL_law_1209 : decode cL_law 1209 = .ok (.if_icmp .ne 23, 3) := by decide +kernel
theorem dL_law_1212 : decode cL_law 1212 = .ok (.aload_n 1, 1) := by decide +kernel
theorem dL_law_1213 : decode cL_law 1213 = .ok (.iload 27, 2) := by decide +kernel
theorem dL_law_1215 : decode cL_law 1215 = .ok (.iconst 2, 1) := by decide +kernel
theorem dL_law_1216 : decode cL_law 1216 = .ok (.invokevirtual 70, 3) := by decide +kernel
theorem dL_law_1219 : decode cL_law 1219 = .ok (.ifCond .ne 13, 3) := by decide +kernel
theorem dL_law_1222 : decode cL_law 1222 = .ok (.aload_n 1, 1) := by decide +kernel
theorem dL_law_1223 : decode cL_law 1223 = .ok (.iload 27, 2) := by decide +kernel
theorem dL_law_1225 : decode cL_law 1225 = .ok (.iconst 4, 1) := by decide +kernel
theorem dL_law_1226 : decode cL_law 1226 = .ok (.invokevirtual 70, 3) := by decide +kernel
theorem dL_law_1229 : decode cL_law 1229 = .ok (.ifCond .eq 5, 3) := by decide +kernel
theorem dL_law_1232 : decode cL_law 1232 = .ok (.iconst 0, 1) := by decide +kernel
theorem dL_law_1233 : decode cL_law 1233 = .ok (.ireturn, 1) := by decide +kernel
theorem dL_law_1234 : decode cL_law 1234 = .ok (.iinc 27 1, 3) := by decide +kernel
theorem dL_law_1237 : decode cL_law 1237 = .ok (.goto (-77), 3) := by decide +kernel
theorem dL_law_1240 : decode cL_law 1240 = .ok (.iinc 3 1, 3) := by decide +kernel
theorem dL_law_1243 : decode cL_law 1243 = .ok (.goto (-1221), 3) := by decide +kernel
theorem dL_law_1246 : decode cL_law 1246 = .ok (.aload_n 2, 1) := by decide +kernel
theorem dL_law_1247 : decode cL_law 1247 = .ok (.aload_n 1, 1) := by decide +kernel
theorem dL_law_1248 : decode cL_law 1248 = .ok (.invokevirtual 112, 3) := by decide +kernel
theorem dL_law_1251 : decode cL_law 1251 = .ok (.ireturn, 1) := by decide +kernel
abbrev vwCl : List vw_C := [(RX0, TX0, 8), (RX1, TX1, 6), (RX2, TX2, 4)]
end
section
/-! The pictures of the two systems' cells, the environment of statics and words, and a few rows of ours. -/
/-- state: F k i, k the array (0 league, 1 rating, 2 points, 3 bouts, 4 bouts of the season, 5 row of wins, 6 best), i the wrestler -/
def pu (F : Nat → Nat → Int32) (k i : Nat) (x : Int32) : Nat → Nat → Int32 := fun a => cond (Nat.beq a k) (upd (F a) i x) (F a)
theorem pu_app (F : Nat → Nat → Int32) (k i : Nat) (x : Int32) (a j : Nat) : pu F k i x a j = if a = k ∧ j = i then x else F a j := by
  unfold pu
  by_cases h : a = k
  · subst h
    rw [show Nat.beq a a = true from Nat.beq_refl a]
    by_cases h2 : j = i
    · subst h2
      rw [if_pos ⟨rfl, rfl⟩]
      show upd (F a) j x j = x
      exact pk_us
    · rw [if_neg (fun q => h2 q.2)]
      show upd (F a) i x j = F a j
      exact pk_un h2
  · rw [if_neg (fun q => h q.1)]
    rw [show Nat.beq a k = false from Bool.eq_false_iff.mpr (fun q => h (Nat.eq_of_beq_eq_true q))]
    rfl
/-- the table of the expected -/
def tb : Nat → Int32 := fun j => match j with | 0 => 500 | 1 => 640 | 2 => 760 | 3 => 849 | 4 => 909 | 5 => 947 | 6 => 969 | 7 => 983 | _ => 990
/-- a Roster: object h, arrays ad 0 .. ad 6 of twelve places, n of them used -/
abbrev wR (h : Nat) (ad : Nat → Nat) (cI : ClassId) (n : Nat) (F : Nat → Nat → Int32) : va_W := [(h, .inr (0, [.ref (ad 0), .ref (ad 1), .ref (ad 2), .ref (ad 3), .ref (ad 4), .ref (ad 5), .ref (ad 6), .int (nI n)])), (ad 0, .inl (cI, 12, .inl (F 0))), (ad 1, .inl (cI, 12, .inl (F 1))), (ad 2, .inl (cI, 12, .inl (F 2))), (ad 3, .inl (cI, 12, .inl (F 3))), (ad 4, .inl (cI, 12, .inl (F 4))), (ad 5, .inl (cI, 12, .inl (F 5))), (ad 6, .inl (cI, 12, .inl (F 6)))]
/-- a Sim's rows have league and rating the other way round -/
def sw : Nat → Nat := fun k => match k with | 0 => 1 | 1 => 0 | k => k
/-- a Sim's rows: row i at rw i, seven numbers -/
abbrev rl (rw : Nat → Nat) (cI : ClassId) (n : Nat) (F : Nat → Nat → Int32) : va_W := (List.range n).map (fun i => (rw i, .inl (cI, 7, .inl (fun k => F (sw k) i))))
def ro (rw : Nat → Nat) : Nat → Option Nat := fun i => some (rw i)
/-- a Sim: object h, its array of rows al, the rows; c 0 season, c 1 bouts, c 2 upsets -/
abbrev wT (h al : Nat) (rw : Nat → Nat) (cA cI : ClassId) (n : Nat) (F : Nat → Nat → Int32) (c : Nat → Int32) : va_W := [(h, .inr (2, [.int (c 0), .int (c 1), .int (c 2), .ref al])), (al, .inl (cA, n, .inr (.inr (.inr (.inr (ro rw))))))] ++ rl rw cI n F
/-- words that the tables alone decide but that aren't good ones: links between nest mates, casts -/
def eW : List Cond := [
  .methodLinkNest RX1 9 yX0_init "WrestleBook",
  .methodLinkNest RL 48 yX2_init "WrestleBookLaw",
  .castable "java/lang/IllegalArgumentException" "java/lang/IllegalArgumentException",
  .castable "java/lang/IllegalStateException" "java/lang/IllegalStateException",
  .castable "java/lang/IndexOutOfBoundsException" "java/lang/IndexOutOfBoundsException",
  .declares (Bundle.initS "java/lang/RuntimeException"), .declares (Bundle.initS "java/lang/Exception"), .declares (Bundle.initS Bundle.tN)]
def eStr : List (Nat × String) := [(29, "no such league"), (40, "the book is full"), (51, "no such rating"), (123, "nothing such is told"), (129, "no such place"), (144, "nothing such is counted"), (146, "neither of a nor of b"), (162, "no such number of bouts"), (190, "no such wrestler"), (192, "both are the same"), (194, "no such result")]
theorem eW_on : ∀ w ∈ eW, w.onTables = true := by decide +kernel
theorem nwD {x : MethodName} {s U : State} (hW : s.WarmedH U.vm) (hZ : va_Nw (.declares x) s) : va_Nw (.declares x) U := va_tabs rfl (rfl : (s.setVm U.vm).vm = U.vm) (by rw [Cond.declares_setVm hW.alike]; exact hZ)
theorem eW_warm {s U : State} (hW : s.WarmedH U.vm) : ∀ w ∈ eW, va_Nw w s → va_Nw w U := by
  intro w hw h
  simp only [eW, List.mem_cons, List.not_mem_nil, or_false] at hw
  rcases hw with rfl | rfl | rfl | rfl | rfl | rfl | rfl | rfl
  all_goals first | exact va_Nw.warmF hW h | exact va_Nw.warmM hW h | exact va_Nw.warmC hW h | exact nwD hW h
/-- what every method may read beside its own cells: the two tables, the words of eW, the texts, Throwable's statics -/
def En (A : Nat → Prop) (U : State) (H : Heap) : Prop :=
  (∃ t, va_Z "WrestleBook$Roster" "EXPECTED" "[I" (.ref t) A U H ∧ va_T .int t 9 (fun j => .int (tb j)) A U H) ∧
  (Cond.arrayOver (.array .int)).before #[] U = true ∧
  (∀ w ∈ eW, va_Nw w U) ∧ (∀ q ∈ eStr, ∃ a, vk_R RX1 q.1 q.2 a U) ∧
  vx_Zq Bundle.tN "UNASSIGNED_STACK" Bundle.steD A U H ∧ vx_Zq Bundle.tN "SUPPRESSED_SENTINEL" Bundle.listD A U H
/-- the environment at a call -/
theorem En.go {A B : Nat → Prop} {s U : State} {H : Heap} {locs : List Loc} (h : En A s s.heap) (hS : va_S A s.heap H locs) (hBA : ∀ q, B q → A q) (hU : U.heap = H) (hW : s.WarmedH U.vm) : En B U U.heap := by
  obtain ⟨⟨t1, a1, a2⟩, b1, h3, h4, h5, h6⟩ := h
  have hvm : s.vm.Alike U.vm := hW.alike
  rw [hU]
  exact ⟨⟨t1, va_Z.moved hvm ((a1.kept hS.2.1).narrow hBA), va_T.moved hvm ((a2.kept hS.2.1).narrow hBA)⟩, over_moved hvm b1,
    fun w hw => eW_warm hW w hw (h3 w hw), fun q hq => (h4 q hq).elim fun a ha => ⟨a, ha.warm hW⟩, vx_Zq.moved hvm ((h5.kept hS.2.1).narrow hBA), vx_Zq.moved hvm ((h6.kept hS.2.1).narrow hBA)⟩
theorem En.blind {A : Nat → Prop} {U : State} {g : JFrame} {mk : MethodId} {a : Array Value} (h : En A U U.heap) : En A (U.calling g mk a) (U.calling g mk a).heap := by
  obtain ⟨⟨t1, a1, a2⟩, b1, h3, h4, h5, h6⟩ := h
  have hvm : U.vm.Alike (U.calling g mk a).vm := Vm.Alike.refl U.vm
  exact ⟨⟨t1, va_Z.moved hvm a1, va_T.moved hvm a2⟩, over_moved hvm b1,
    fun w hw => va_Nw.same (eW_on w hw) (rfl : U.vm = (U.calling g mk a).vm) (h3 w hw), fun q hq => (h4 q hq).elim fun a' ha => ⟨a', vk_R.same (rfl : (U.calling g mk a).vm = U.vm) ha⟩, vx_Zq.moved hvm h5, vx_Zq.moved hvm h6⟩
/-- a reader's start: the cells ws, int arrays of class cI, the environment -/
def PR (dC : Nat → ClassId) (dI : Nat → Nat → Nat) (cI : ClassId) (ws : va_W) (U : State) : Prop := va_P (dC, dI) vwCl ws U.heap ∧ va_K (dC, dI) vwCl [(cI, .int)] U ∧ En (fun _ => False) U U.heap
theorem PR.blind {dC : Nat → ClassId} {dI : Nat → Nat → Nat} {cI : ClassId} {ws : va_W} {av : List Value} : FrameBlind (va_Pc av (fun U => PR dC dI cI ws U)) := fun a U g mk q => ⟨q.1, q.2.1, va_K.moved (u := U) (U := U.calling g mk a) (Vm.Alike.refl U.vm) q.2.2.1, En.blind q.2.2.2⟩
theorem PR.go {dC : Nat → ClassId} {dI : Nat → Nat → Nat} {cI : ClassId} {ws : va_W} {A : Nat → Prop} {s U : State} {H : Heap} {locs : List Loc} (hP : va_P (dC, dI) vwCl ws H) (hK : va_K (dC, dI) vwCl [(cI, .int)] s) (hE : En A s s.heap) (hS : va_S A s.heap H locs) (hU : U.heap = H) (hW : s.WarmedH U.vm) : PR dC dI cI ws U :=
  ⟨by rw [hU]; exact hP, va_K.moved hW.alike hK, En.go hE hS (fun _ h => h.elim) hU hW⟩
/-- a writer's start -/
def PW (dC : Nat → ClassId) (dI : Nat → Nat → Nat) (cI : ClassId) (ws : va_W) (sz : Nat) (U : State) : Prop := U.heap.size = sz ∧ va_P (dC, dI) vwCl ws U.heap ∧ va_K (dC, dI) vwCl [(cI, .int)] U ∧ va_D (fun _ => True) ws ∧ En (va_A ws sz) U U.heap
theorem PW.blind {dC : Nat → ClassId} {dI : Nat → Nat → Nat} {cI : ClassId} {ws : va_W} {sz : Nat} {av : List Value} : FrameBlind (va_Pc av (fun U => PW dC dI cI ws sz U)) := fun a U g mk q => ⟨q.1, q.2.1, q.2.2.1, va_K.moved (u := U) (U := U.calling g mk a) (Vm.Alike.refl U.vm) q.2.2.2.1, q.2.2.2.2.1, En.blind q.2.2.2.2.2⟩
theorem PW.go {dC : Nat → ClassId} {dI : Nat → Nat → Nat} {cI : ClassId} {ws : va_W} {A : Nat → Prop} {s U : State} {H : Heap} {locs : List Loc} (hP : va_P (dC, dI) vwCl ws H) (hK : va_K (dC, dI) vwCl [(cI, .int)] s) (hD : va_D A ws) (hE : En A s s.heap) (hS : va_S A s.heap H locs) (hF : ∀ q, va_A ws H.size q → A q) (hU : U.heap = H) (hW : s.WarmedH U.vm) : PW dC dI cI ws H.size U :=
  ⟨by rw [hU], by rw [hU]; exact hP, va_K.moved hW.alike hK, hD.weaken (fun _ _ _ _ => trivial), En.go hE hS hF hU hW⟩
/-- a writer's world at its end -/
def BW (dC : Nat → ClassId) (dI : Nat → Nat → Nat) (A : Nat → Prop) (ws : va_W) : Unit → State → Prop := fun _ t => va_P (dC, dI) vwCl ws t.heap ∧ va_D A ws
section OURS
theorem rv_newa {p : Program} {l : Launch} {e : Env} {R : Room} {s : State} {m : MethodId} {args : Array Value} {below : List Frame} {meth : Method} {c : Code} {H : Heap} {locs : List Loc} {cells slots : Nat} {Q : State → Prop} {cc : ByteArray} {pc : Nat} {ls : Array Slot} {rest : List Value} {A : Nat → Prop} {H0 : Heap} {D : va_G} {cl : List vw_C} {ws : va_W} {cI : ClassId} (hexec : p.tables.exec = Jvm.exec) (hb : c.code = cc) (harr : (Cond.arrayClass .int).before args s = true) (hK : va_K D cl [(cI, .int)] s) (hP : va_P D cl ws H) (hD : va_D A ws) (hS : va_S A H0 H locs) (hA : ∀ q, H0.size ≤ q → A q)
    {n : Int32} {N' : Nat} (hn : ¬ n < 0) (hN : n.toNatClampNeg = N') (hbytes : N' * 4 ≤ 536870912) (hcells : cells + 1 ≤ R.cells) (hslots : slots + N' ≤ R.slots) (hdg : decode cc pc = .ok (.newarray .int, 2))
    (kk : ∀ (q : Nat) (H1 : Heap), va_P D cl (ws ++ [(q, .inl (cI, N', .inl (fun _ => 0)))]) H1 → va_D A (ws ++ [(q, .inl (cI, N', .inl (fun _ => 0)))]) → va_S A H0 H1 locs →
      W p l e R s m args below meth c H1 locs (cells + 1) (slots + N') Q (F0 m (pc + 2) ls (.ref q :: rest))) : W p l e R s m args below meth c H locs cells slots Q (F0 m pc ls (.int n :: rest)) := by
  refine va_newa (atype := .int) (ty := .int) (a0 := (N', .inl (fun _ => 0))) hexec hb harr rfl hK hP hD hS hA (fun cA => rfl) hn hN hbytes hcells hslots hdg (fun q cA H1 hK1 hP1 hD1 hS1 => ?_)
  have e1 : s.vm.findClass "[I" = some cI := (hK.2 0 (cI, .int) rfl).2
  have e2 : s.vm.findClass "[I" = some cA := (hK1.2 1 (cA, .int) rfl).2
  have e3 : cA = cI := Option.some.inj (e2.symm.trans e1)
  subst e3
  exact kk q H1 hP1 hD1 hS1
variable {p : Program} {l : Launch} {e : Env} {R : Room} {s : State} {m : MethodId} {args : Array Value} {below : List Frame} {meth : Method} {c : Code} {H : Heap} {locs : List Loc} {cells slots : Nat} {Q : State → Prop}
variable {cc : ByteArray} {pc : Nat} {ls : Array Slot} {rest : List Value} {A : Nat → Prop} {H0 : Heap} {D : va_G} {cl : List vw_C} {tys : List (ClassId × FieldType)} {ws : va_W} {a : Nat}
/-- a place of an int array, by a Nat -/
theorem rv_iald (hexec : p.tables.exec = Jvm.exec) (hb : c.code = cc) (hK : va_K D cl tys s) (hP : va_P D cl ws H) (q0 t0 : Nat) {cA : ClassId} {n k : Nat} {f : Nat → Int32} (ha : ws[q0]? = some (a, .inl (cA, n, .inl f))) (ht : tys[t0]? = some (cA, .int)) (hk : k < n) (hn : n < 2 ^ 31) (hdg : decode cc pc = .ok (.iaload, 1))
    (kk : W p l e R s m args below meth c H locs cells slots Q (F0 m (pc + 1) ls (.int (f k) :: rest))) : W p l e R s m args below meth c H locs cells slots Q (F0 m pc ls (.int (nI k) :: .ref a :: rest)) :=
  va_iald hexec hb hK hP q0 t0 ha ht (vp_in_nI hk hn) hdg (by rw [nI_clamp (Nat.lt_trans hk hn)]; exact kk)
theorem rv_iast (hexec : p.tables.exec = Jvm.exec) (hb : c.code = cc) (hK : va_K D cl tys s) (hP : va_P D cl ws H) (hD : va_D A ws) (hS : va_S A H0 H locs) (q0 t0 : Nat) {cA : ClassId} {n k : Nat} {f : Nat → Int32} (ha : ws[q0]? = some (a, .inl (cA, n, .inl f))) (ht : tys[t0]? = some (cA, .int)) {x : Int32} (hk : k < n) (hn : n < 2 ^ 31) (hdg : decode cc pc = .ok (.iastore, 1))
    (kk : ∀ (H1 : Heap) (locs1 : List Loc), va_P D cl (ws.set q0 (a, .inl (cA, n, .inl (upd f k x)))) H1 → va_D A (ws.set q0 (a, .inl (cA, n, .inl (upd f k x)))) → va_S A H0 H1 locs1 → W p l e R s m args below meth c H1 locs1 cells slots Q (F0 m (pc + 1) ls rest)) : W p l e R s m args below meth c H locs cells slots Q (F0 m pc ls (.int x :: .int (nI k) :: .ref a :: rest)) :=
  va_iast hexec hb hK hP hD hS q0 t0 ha ht (vp_in_nI hk hn) hdg (by rw [nI_clamp (Nat.lt_trans hk hn)]; exact kk)
/-- the same number under another name, on top -/
theorem rv_top {x y : Int32} (h : x = y) (k : W p l e R s m args below meth c H locs cells slots Q (F0 m pc ls (.int y :: rest))) : W p l e R s m args below meth c H locs cells slots Q (F0 m pc ls (.int x :: rest)) := h ▸ k
end OURS
theorem n12 : (12 : Nat) < 2 ^ 31 := by decide
theorem n9 : (9 : Nat) < 2 ^ 31 := by decide
/-- a fold from 0 on -/
def fo {α : Type} (f : Nat → α → α) (a : α) : Nat → α | 0 => a | n + 1 => f n (fo f a n)
theorem fo_0 {α : Type} (f : Nat → α → α) (a : α) : fo f a 0 = a := rfl
theorem fo_s {α : Type} (f : Nat → α → α) (a : α) (n : Nat) : fo f a (n + 1) = f n (fo f a n) := rfl
/-- a truth value as the machine has it -/
def bI (b : Bool) : Int32 := cond b 1 0
theorem bI_t : bI true = 1 := rfl
theorem bI_f : bI false = 0 := rfl
theorem bI_nar (b : Bool) : narrow .boolean (.int (bI b)) = .int (bI b) := by cases b <;> rfl
/-- a number or none (-1) -/
def oI (o : Option Nat) : Int32 := match o with | none => -1 | some k => nI k
theorem oI_n : oI none = -1 := rfl
theorem oI_s (k : Nat) : oI (some k) = nI k := rfl
theorem nI_m1 {k : Nat} (h : k < 2 ^ 31) : ¬ nI k = -1 := by
  intro q
  have h2 := congrArg Int32.toInt q
  rw [nI_toInt h] at h2
  have : (-1 : Int32).toInt = -1 := by decide
  omega
section OURS2
variable {p : Program} {l : Launch} {e : Env} {R : Room} {s : State} {m : MethodId} {args : Array Value} {below : List Frame} {meth : Method} {c : Code} {H : Heap} {locs : List Loc} {cells slots : Nat} {Q : State → Prop}
variable {cc : ByteArray} {pc : Nat} {ls : Array Slot} {rest : List Value} {A : Nat → Prop}
theorem rv_ti (hexec : p.tables.exec = Jvm.exec) (hb : c.code = cc) {t k : Nat} (hT : va_T .int t 9 (fun j => .int (tb j)) A s s.heap) (hS : va_S A s.heap H locs) (hk : k < 9) (h9 : (9 : Nat) < 2 ^ 31) (hdg : decode cc pc = .ok (.iaload, 1))
    (kk : W p l e R s m args below meth c H locs cells slots Q (F0 m (pc + 1) ls (.int (tb k) :: rest))) : W p l e R s m args below meth c H locs cells slots Q (F0 m pc ls (.int (nI k) :: .ref t :: rest)) :=
  va_ti hexec hb hT hS (vp_in_nI hk h9) (v := .int (tb k)) (by rw [nI_clamp (Nat.lt_trans hk h9)]) hdg kk
theorem rv_icmp_ge (hexec : p.tables.exec = Jvm.exec) (hb : c.code = cc) {a b : Nat} (ha : a < 2 ^ 31) (hb2 : b < 2 ^ 31) {off : Int} {tgt : Nat} (hdg : decode cc pc = .ok (.if_icmp .ge off, 3)) (ht : (pc : Int) + off = (tgt : Int))
    (kt : b ≤ a → W p l e R s m args below meth c H locs cells slots Q (F0 m tgt ls rest)) (kf : ¬ b ≤ a → W p l e R s m args below meth c H locs cells slots Q (F0 m (pc + 3) ls rest)) : W p l e R s m args below meth c H locs cells slots Q (F0 m pc ls (.int (nI b) :: .int (nI a) :: rest)) :=
  lv_icmp_ge hexec hb hdg ht (fun q => kt ((nI_leI hb2 ha).mp q)) (fun q => kf (fun z => q ((nI_leI hb2 ha).mpr z)))
theorem rv_icmp_gt (hexec : p.tables.exec = Jvm.exec) (hb : c.code = cc) {a b : Nat} (ha : a < 2 ^ 31) (hb2 : b < 2 ^ 31) {off : Int} {tgt : Nat} (hdg : decode cc pc = .ok (.if_icmp .gt off, 3)) (ht : (pc : Int) + off = (tgt : Int))
    (kt : b < a → W p l e R s m args below meth c H locs cells slots Q (F0 m tgt ls rest)) (kf : ¬ b < a → W p l e R s m args below meth c H locs cells slots Q (F0 m (pc + 3) ls rest)) : W p l e R s m args below meth c H locs cells slots Q (F0 m pc ls (.int (nI b) :: .int (nI a) :: rest)) :=
  lv_icmp_gt hexec hb hdg ht (fun q => kt ((nI_ltI hb2 ha).mp q)) (fun q => kf (fun z => q ((nI_ltI hb2 ha).mpr z)))
theorem rv_icmp_lt (hexec : p.tables.exec = Jvm.exec) (hb : c.code = cc) {a b : Nat} (ha : a < 2 ^ 31) (hb2 : b < 2 ^ 31) {off : Int} {tgt : Nat} (hdg : decode cc pc = .ok (.if_icmp .lt off, 3)) (ht : (pc : Int) + off = (tgt : Int))
    (kt : a < b → W p l e R s m args below meth c H locs cells slots Q (F0 m tgt ls rest)) (kf : ¬ a < b → W p l e R s m args below meth c H locs cells slots Q (F0 m (pc + 3) ls rest)) : W p l e R s m args below meth c H locs cells slots Q (F0 m pc ls (.int (nI b) :: .int (nI a) :: rest)) :=
  lv_icmp_lt hexec hb hdg ht (fun q => kt ((nI_ltI ha hb2).mp q)) (fun q => kf (fun z => q ((nI_ltI ha hb2).mpr z)))
theorem rv_icmp_le (hexec : p.tables.exec = Jvm.exec) (hb : c.code = cc) {a b : Nat} (ha : a < 2 ^ 31) (hb2 : b < 2 ^ 31) {off : Int} {tgt : Nat} (hdg : decode cc pc = .ok (.if_icmp .le off, 3)) (ht : (pc : Int) + off = (tgt : Int))
    (kt : a ≤ b → W p l e R s m args below meth c H locs cells slots Q (F0 m tgt ls rest)) (kf : ¬ a ≤ b → W p l e R s m args below meth c H locs cells slots Q (F0 m (pc + 3) ls rest)) : W p l e R s m args below meth c H locs cells slots Q (F0 m pc ls (.int (nI b) :: .int (nI a) :: rest)) :=
  lv_icmp_le hexec hb hdg ht (fun q => kt ((nI_leI ha hb2).mp q)) (fun q => kf (fun z => q ((nI_leI ha hb2).mpr z)))
theorem rv_icmp_eq (hexec : p.tables.exec = Jvm.exec) (hb : c.code = cc) {a b : Nat} (ha : a < 2 ^ 31) (hb2 : b < 2 ^ 31) {off : Int} {tgt : Nat} (hdg : decode cc pc = .ok (.if_icmp .eq off, 3)) (ht : (pc : Int) + off = (tgt : Int))
    (kt : a = b → W p l e R s m args below meth c H locs cells slots Q (F0 m tgt ls rest)) (kf : ¬ a = b → W p l e R s m args below meth c H locs cells slots Q (F0 m (pc + 3) ls rest)) : W p l e R s m args below meth c H locs cells slots Q (F0 m pc ls (.int (nI b) :: .int (nI a) :: rest)) :=
  lv_icmp_eq hexec hb hdg ht (fun q => kt ((nI_eq ha hb2).mp q)) (fun q => kf (fun z => q ((nI_eq ha hb2).mpr z)))
theorem rv_icmp_ne (hexec : p.tables.exec = Jvm.exec) (hb : c.code = cc) {a b : Nat} (ha : a < 2 ^ 31) (hb2 : b < 2 ^ 31) {off : Int} {tgt : Nat} (hdg : decode cc pc = .ok (.if_icmp .ne off, 3)) (ht : (pc : Int) + off = (tgt : Int))
    (kt : ¬ a = b → W p l e R s m args below meth c H locs cells slots Q (F0 m tgt ls rest)) (kf : a = b → W p l e R s m args below meth c H locs cells slots Q (F0 m (pc + 3) ls rest)) : W p l e R s m args below meth c H locs cells slots Q (F0 m pc ls (.int (nI b) :: .int (nI a) :: rest)) :=
  lv_icmp_ne hexec hb hdg ht (fun q => kt (fun z => q ((nI_eq ha hb2).mpr z))) (fun q => kf ((nI_eq ha hb2).mp q))
theorem rv_ifb_eq (hexec : p.tables.exec = Jvm.exec) (hb : c.code = cc) {b : Bool} {off : Int} {tgt : Nat} (hdg : decode cc pc = .ok (.ifCond .eq off, 3)) (ht : (pc : Int) + off = (tgt : Int))
    (kt : b = false → W p l e R s m args below meth c H locs cells slots Q (F0 m tgt ls rest)) (kf : b = true → W p l e R s m args below meth c H locs cells slots Q (F0 m (pc + 3) ls rest)) : W p l e R s m args below meth c H locs cells slots Q (F0 m pc ls (.int (bI b) :: rest)) :=
  lv_if_eq hexec hb hdg ht (fun q => kt (by cases b with | false => rfl | true => exact absurd q (by decide))) (fun q => kf (by cases b with | true => rfl | false => exact absurd rfl q))
theorem rv_ifb_ne (hexec : p.tables.exec = Jvm.exec) (hb : c.code = cc) {b : Bool} {off : Int} {tgt : Nat} (hdg : decode cc pc = .ok (.ifCond .ne off, 3)) (ht : (pc : Int) + off = (tgt : Int))
    (kt : b = true → W p l e R s m args below meth c H locs cells slots Q (F0 m tgt ls rest)) (kf : b = false → W p l e R s m args below meth c H locs cells slots Q (F0 m (pc + 3) ls rest)) : W p l e R s m args below meth c H locs cells slots Q (F0 m pc ls (.int (bI b) :: rest)) :=
  lv_if_ne hexec hb hdg ht (fun q => kt (by cases b with | true => rfl | false => exact absurd rfl q)) (fun q => kf (by cases b with | false => rfl | true => exact absurd q (by decide)))
end OURS2
end
section
/-! What the methods answer, as pure functions of the state (n wrestlers, F the rows). -/
def s_wt (F : Nat → Nat → Int32) (w : Nat) : Int32 := if (10 : Int32) ≤ F 3 w then (if F 1 w < 2000 then 20 else 10) else 40
def ahead (F : Nat → Nat → Int32) (a b : Nat) : Bool := if F 2 a = F 2 b then (if F 1 a = F 1 b then decide (a < b) else decide (¬ F 1 a ≤ F 1 b)) else decide (¬ F 2 a ≤ F 2 b)
def s_manyU (F : Nat → Nat → Int32) (p : Int32) (m : Nat) : Nat := fo (fun k a => if F 0 k = p then a + 1 else a) 0 m
def s_many (n : Nat) (F : Nat → Nat → Int32) (p : Int32) : Nat := s_manyU F p n
def s_has (n : Nat) (p : Int32) : Bool := if p < 0 then false else (if nI n ≤ p then false else true)
def s_placeU (F : Nat → Nat → Int32) (w m : Nat) : Nat := fo (fun k a => if F 0 k = F 0 w ∧ ahead F k w = true then a + 1 else a) 1 m
def s_place (n : Nat) (F : Nat → Nat → Int32) (w : Nat) : Nat := s_placeU F w n
def s_atU (n : Nat) (F : Nat → Nat → Int32) (p q : Int32) (m : Nat) : Option Nat := fo (fun k a => match a with | some b => some b | none => if F 0 k = p ∧ nI (s_place n F k) = q then some k else none) none m
def s_at (n : Nat) (F : Nat → Nat → Int32) (p q : Int32) : Option Nat := s_atU n F p q n
def s_hiU (F : Nat → Nat → Int32) (m : Nat) : Int32 := fo (fun k a => if a < F 1 k then F 1 k else a) 0 m
def s_hi (n : Nat) (F : Nat → Nat → Int32) : Int32 := s_hiU F n
def s_loU (F : Nat → Nat → Int32) (z : Int32) (m : Nat) : Int32 := fo (fun k a => if F 1 k < a then F 1 k else a) z m
def s_lo (n : Nat) (F : Nat → Nat → Int32) : Int32 := s_loU F (if n = 0 then 0 else 3000) n
def s_sumU (F : Nat → Nat → Int32) (m : Nat) : Int32 := fo (fun k a => a + F 1 k) 0 m
def s_sum (n : Nat) (F : Nat → Nat → Int32) : Int32 := s_sumU F n
/-- the table's number at a difference d of whole numbers -/
def exN (m : Nat) : Int32 := if m = 800 then tb (m / 100) else tb (m / 100) + (tb (m / 100 + 1) - tb (m / 100)) * nI (m % 100) / 100
def mD (d : Nat) : Nat := if 800 < d then 800 else d
theorem mD_le (d : Nat) : mD d ≤ 800 := by unfold mD; split <;> omega
theorem mD_min {d : Nat} (hd : d ≤ 2900) : (if (800 : Int32) < nI d then (800 : Int32) else nI d) = nI (mD d) := by
  unfold mD
  show (if nI 800 < nI d then nI 800 else nI d) = _
  by_cases h : 800 < d
  · rw [if_pos h, if_pos ((nI_ltI (a := 800) (by omega) (by omega)).mpr h)]
  · rw [if_neg h, if_neg (fun q => h ((nI_ltI (a := 800) (by omega) (by omega)).mp q))]
def s_eoh (d : Nat) : Int32 := exN (mD d)
/-- the difference of two ratings as a number -/
def dN (x y : Int32) : Nat := (x - y).toNatClampNeg
def s_exp (F : Nat → Nat → Int32) (a b : Nat) : Int32 := if F 1 b ≤ F 1 a then s_eoh (dN (F 1 a) (F 1 b)) else 1000 - s_eoh (dN (F 1 b) (F 1 a))
def absI (x : Int32) : Int32 := if 0 ≤ x then x else 0 - x
def s_off (F : Nat → Nat → Int32) (a b : Nat) : Int32 := absI (s_exp F a b - 500)
def maxI (x y : Int32) : Int32 := if x < y then y else x
def minI (x y : Int32) : Int32 := if y < x then y else x
/-- what a rating would be behind a bout of which sc is the result (in thousandths) -/
def s_then (F : Nat → Nat → Int32) (w o : Nat) (sc : Int32) : Int32 := maxI 100 (minI 3000 (F 1 w + s_wt F w * (sc - s_exp F w o) / 1000))
def s_gain (F : Nat → Nat → Int32) (w o : Nat) (res : Int32) : Int32 := s_then F w o (res * 500) - F 1 w
def s_set (F : Nat → Nat → Int32) (w : Nat) (x : Int32) : Nat → Nat → Int32 := pu (pu F 1 w x) 6 w (maxI (F 6 w) x)
/-- all ratings of the n wrestlers are from 100 to 3000 -/
def okR (n : Nat) (F : Nat → Nat → Int32) : Prop := ∀ i, i < n → ∃ r : Nat, 100 ≤ r ∧ r ≤ 3000 ∧ F 1 i = nI r
theorem okR.le {n : Nat} {F : Nat → Nat → Int32} (h : okR n F) {a b : Nat} (ha : a < n) (hb : b < n) (hle : F 1 b ≤ F 1 a) : dN (F 1 a) (F 1 b) ≤ 2900 ∧ F 1 a - F 1 b = nI (dN (F 1 a) (F 1 b)) := by
  obtain ⟨x, x1, x2, ex⟩ := h a ha
  obtain ⟨y, y1, y2, ey⟩ := h b hb
  rw [ex, ey] at hle
  have hxy : y ≤ x := (nI_leI (by omega) (by omega)).mp hle
  have e : F 1 a - F 1 b = nI (x - y) := by rw [ex, ey, pk_sub hxy]
  have e2 : dN (F 1 a) (F 1 b) = x - y := by unfold dN; rw [e, nI_clamp (by omega)]
  rw [e2, e]
  exact ⟨by omega, rfl⟩
theorem i32_le_of_not {x y : Int32} (h : ¬ x ≤ y) : y ≤ x := by
  rcases Int32.le_total x y with q | q
  · exact absurd q h
  · exact q
theorem i32_lt_iff {x y : Int32} : x < y ↔ ¬ y ≤ x := Int32.not_le.symm
theorem vaP_nil {D : va_G} {cl : List vw_C} {H : Heap} : va_P D cl [] H := fun k q h9 => by simp at h9
theorem s_at_keep {n : Nat} {F : Nat → Nat → Int32} {p q : Int32} {k : Nat} : ∀ (d m : Nat), s_atU n F p q m = some k → s_atU n F p q (m + d) = some k
  | 0, _, h => h
  | d + 1, m, h => by
    have h2 := s_at_keep d m h
    show (match s_atU n F p q (m + d) with | some b => some b | none => if F 0 (m + d) = p ∧ nI (s_place n F (m + d)) = q then some (m + d) else none) = some k
    rw [h2]
theorem s_at_hit {n : Nat} {F : Nat → Nat → Int32} {p q : Int32} {i : Nat} (h : s_atU n F p q i = none) (hi : i < n) (h1 : F 0 i = p) (h2 : nI (s_place n F i) = q) : s_at n F p q = some i := by
  have h3 : s_atU n F p q (i + 1) = some i := by
    show (match s_atU n F p q i with | some b => some b | none => if F 0 i = p ∧ nI (s_place n F i) = q then some i else none) = some i
    rw [h]
    exact if_pos ⟨h1, h2⟩
  have h4 := s_at_keep (n - (i + 1)) (i + 1) h3
  rw [show i + 1 + (n - (i + 1)) = n by omega] at h4
  exact h4
theorem s_at_none {n : Nat} {F : Nat → Nat → Int32} {p q : Int32} {i : Nat} (e : i = n) (h : s_atU n F p q i = none) : s_at n F p q = none := by rw [e] at h; exact h
theorem s_at_lt {n : Nat} {F : Nat → Nat → Int32} {p q : Int32} : ∀ (m k : Nat), s_atU n F p q m = some k → k < m ∧ F 0 k = p ∧ nI (s_place n F k) = q
  | 0, _, h => by cases h
  | m + 1, k, h => by
    have h' : (match s_atU n F p q m with | some b => some b | none => if F 0 m = p ∧ nI (s_place n F m) = q then some m else none) = some k := h
    cases h2 : s_atU n F p q m with
    | some b =>
      rw [h2] at h'
      cases h'
      obtain ⟨a, b, c⟩ := s_at_lt m k h2
      exact ⟨by omega, b, c⟩
    | none =>
      rw [h2] at h'
      by_cases hc : F 0 m = p ∧ nI (s_place n F m) = q
      · have h3 : (if F 0 m = p ∧ nI (s_place n F m) = q then some m else none) = some k := h'
        rw [if_pos hc] at h3
        cases h3
        exact ⟨by omega, hc.1, hc.2⟩
      · have h3 : (if F 0 m = p ∧ nI (s_place n F m) = q then some m else none) = some k := h'
        rw [if_neg hc] at h3
        cases h3
end
section
set_option maxHeartbeats 4000000 in
set_option maxRecDepth 100000 in
theorem c_X0_size (l : Launch) (dC : Nat → ClassId) (dI : Nat → Nat → Nat) (cI : ClassId) (h : Nat) (ad : Nat → Nat) (n : Nat) (F : Nat → Nat → Int32) : Met l yX0_size wsX0_size ({ frames := 0, cells := 0, slots := 0, locals := 0 } : Room) (va_Pc [.ref h] (fun U => PR dC dI cI (wR h ad cI n F) U)) (vp_Si (fun r => r = nI n)) 0 0 (fun _ => False) := by
  refine Met.ofW (cc := cX0_size) (maxL := 1) (ret := (some .int)) (by decide) rfl ?_
  intro p e s m args below meth c s₁ B hml hv
  obtain ⟨rfl, hP, hK, hE⟩ := hv
  have hx := B.exec
  have hb := B.bytes
  have hr := B.returns
  have hts := atoms_spec (ws := wsX0_size) B.pre
  have hown : s.vm.findClass RX0 = some m.cls := findClass_of_methodNamed B.named
  have hlocks := B.notSynchronized
  have hS : va_S (fun _ => False) s.heap s.heap [] := va_S.rf
  have hinX0 : ∀ w ∈ wsX00, w ∈ wsX0_size := by decide +kernel
  have hl := lv_entry ([.ref h]) (n := 1) (Nat.le_of_ble_eq_true rfl)
  rw [lg_entry_eq]
  generalize (lg_sl ([.ref h]) ++ List.replicate (1 - (lg_sl ([.ref h])).length) Slot.unset).toArray = ls at hl ⊢
  have hl : lv_has ls 1 [(0, .ref h)] := hl
  refine lv_aload_n hx hb dX0_size_0 rfl (lv_at hl 0 rfl) ?_
  refine va_get (D := (dC, dI)) (ci := 0) (v := .int (nI n)) (C := RX0) (T := TX0) (N := 8) hx hb hts hinX0 hown hK hP 0 rfl rfl 7 (by decide) (hts (.fieldLink RX0 33 "WrestleBook$Roster" "size" "I") (by decide +kernel)) (fun _ h9 => h9) rfl dX0_size_1 ?_
  exact W.iret (v := nI n) hx hb hr (fun t ht hW => ⟨_, rfl, (show nI n = nI n from by rfl), ht⟩) hS.2.2 dX0_size_4

set_option maxHeartbeats 4000000 in
set_option maxRecDepth 100000 in
theorem c_X0_isFull (l : Launch) (dC : Nat → ClassId) (dI : Nat → Nat → Nat) (cI : ClassId) (h : Nat) (ad : Nat → Nat) (n : Nat) (F : Nat → Nat → Int32) (hn : n ≤ 12) : Met l yX0_isFull wsX0_isFull ({ frames := 0, cells := 0, slots := 0, locals := 0 } : Room) (va_Pc [.ref h] (fun U => PR dC dI cI (wR h ad cI n F) U)) (vp_Si (fun r => r = bI (decide (¬ n < 12)))) 0 0 (fun _ => False) := by
  refine Met.ofW (cc := cX0_isFull) (maxL := 1) (ret := (some .boolean)) (by decide) rfl ?_
  intro p e s m args below meth c s₁ B hml hv
  obtain ⟨rfl, hP, hK, hE⟩ := hv
  have hx := B.exec
  have hb := B.bytes
  have hr := B.returns
  have hts := atoms_spec (ws := wsX0_isFull) B.pre
  have hown : s.vm.findClass RX0 = some m.cls := findClass_of_methodNamed B.named
  have hlocks := B.notSynchronized
  have hS : va_S (fun _ => False) s.heap s.heap [] := va_S.rf
  have hinX0 : ∀ w ∈ wsX00, w ∈ wsX0_isFull := by decide +kernel
  have hl := lv_entry ([.ref h]) (n := 1) (Nat.le_of_ble_eq_true rfl)
  rw [lg_entry_eq]
  generalize (lg_sl ([.ref h]) ++ List.replicate (1 - (lg_sl ([.ref h])).length) Slot.unset).toArray = ls at hl ⊢
  have hl : lv_has ls 1 [(0, .ref h)] := hl
  refine lv_aload_n hx hb dX0_isFull_0 rfl (lv_at hl 0 rfl) ?_
  refine va_get (D := (dC, dI)) (ci := 0) (v := .int (nI n)) (C := RX0) (T := TX0) (N := 8) hx hb hts hinX0 hown hK hP 0 rfl rfl 7 (by decide) (hts (.fieldLink RX0 33 "WrestleBook$Roster" "size" "I") (by decide +kernel)) (fun _ h9 => h9) rfl dX0_isFull_1 ?_
  refine lv_bipush (v := 12) hx hb dX0_isFull_4 (by decide) ?_
  refine rv_icmp_lt (tgt := 13) hx hb (a := n) (b := 12) (by omega) (by omega) dX0_isFull_6 (by decide) (fun c_6 => ?_) (fun c_6 => ?_)
  · refine lv_iconst (v := 0) hx hb dX0_isFull_13 (by decide) ?_
    exact W.zret (v := 0) hx hb hr (by decide) (fun t ht hW => ⟨_, rfl, (show 0 = bI (decide (¬ n < 12)) from by simp [bI, c_6]), ht⟩) hS.2.2 dX0_isFull_14
  · refine lv_iconst (v := 1) hx hb dX0_isFull_9 (by decide) ?_
    refine lv_goto (tgt := 14) hx hb dX0_isFull_10 (by decide) ?_
    exact W.zret (v := 1) hx hb hr (by decide) (fun t ht hW => ⟨_, rfl, (show 1 = bI (decide (¬ n < 12)) from by simp [bI, c_6]), ht⟩) hS.2.2 dX0_isFull_14

set_option maxHeartbeats 4000000 in
set_option maxRecDepth 100000 in
theorem c_X0_has (l : Launch) (dC : Nat → ClassId) (dI : Nat → Nat → Nat) (cI : ClassId) (h : Nat) (ad : Nat → Nat) (n : Nat) (F : Nat → Nat → Int32) (vp : Int32) : Met l yX0_has wsX0_has ({ frames := 0, cells := 0, slots := 0, locals := 0 } : Room) (va_Pc [.ref h, .int vp] (fun U => PR dC dI cI (wR h ad cI n F) U)) (vp_Si (fun r => r = bI (s_has n vp))) 0 0 (fun _ => False) := by
  refine Met.ofW (cc := cX0_has) (maxL := 2) (ret := (some .boolean)) (by decide) rfl ?_
  intro p e s m args below meth c s₁ B hml hv
  obtain ⟨rfl, hP, hK, hE⟩ := hv
  have hx := B.exec
  have hb := B.bytes
  have hr := B.returns
  have hts := atoms_spec (ws := wsX0_has) B.pre
  have hown : s.vm.findClass RX0 = some m.cls := findClass_of_methodNamed B.named
  have hlocks := B.notSynchronized
  have hS : va_S (fun _ => False) s.heap s.heap [] := va_S.rf
  have hinX0 : ∀ w ∈ wsX00, w ∈ wsX0_has := by decide +kernel
  have hl := lv_entry ([.ref h, .int vp]) (n := 2) (Nat.le_of_ble_eq_true rfl)
  rw [lg_entry_eq]
  generalize (lg_sl ([.ref h, .int vp]) ++ List.replicate (2 - (lg_sl ([.ref h, .int vp])).length) Slot.unset).toArray = ls at hl ⊢
  have hl : lv_has ls 2 [(0, .ref h), (1, .int vp)] := hl
  refine lv_iload_n hx hb dX0_has_0 rfl (lv_at hl 1 rfl) ?_
  refine lv_if_lt (tgt := 16) hx hb dX0_has_1 (by decide) (fun c_1 => ?_) (fun c_1 => ?_)
  · refine lv_iconst (v := 0) hx hb dX0_has_16 (by decide) ?_
    exact W.zret (v := 0) hx hb hr (by decide) (fun t ht hW => ⟨_, rfl, (show 0 = bI (s_has n vp) from by simp [s_has, bI, c_1]), ht⟩) hS.2.2 dX0_has_17
  · refine lv_iload_n hx hb dX0_has_4 rfl (lv_at hl 1 rfl) ?_
    refine lv_aload_n hx hb dX0_has_5 rfl (lv_at hl 0 rfl) ?_
    refine va_get (D := (dC, dI)) (ci := 0) (v := .int (nI n)) (C := RX0) (T := TX0) (N := 8) hx hb hts hinX0 hown hK hP 0 rfl rfl 7 (by decide) (hts (.fieldLink RX0 33 "WrestleBook$Roster" "size" "I") (by decide +kernel)) (fun _ h9 => h9) rfl dX0_has_6 ?_
    refine lv_icmp_ge (tgt := 16) hx hb dX0_has_9 (by decide) (fun c_9 => ?_) (fun c_9 => ?_)
    · refine lv_iconst (v := 0) hx hb dX0_has_16 (by decide) ?_
      exact W.zret (v := 0) hx hb hr (by decide) (fun t ht hW => ⟨_, rfl, (show 0 = bI (s_has n vp) from by simp [s_has, bI, c_1, c_9]), ht⟩) hS.2.2 dX0_has_17
    · refine lv_iconst (v := 1) hx hb dX0_has_12 (by decide) ?_
      refine lv_goto (tgt := 17) hx hb dX0_has_13 (by decide) ?_
      exact W.zret (v := 1) hx hb hr (by decide) (fun t ht hW => ⟨_, rfl, (show 1 = bI (s_has n vp) from by simp [s_has, bI, c_1, c_9]), ht⟩) hS.2.2 dX0_has_17

set_option maxHeartbeats 4000000 in
set_option maxRecDepth 100000 in
theorem c_X0_rating (l : Launch) (dC : Nat → ClassId) (dI : Nat → Nat → Nat) (cI : ClassId) (h : Nat) (ad : Nat → Nat) (n : Nat) (F : Nat → Nat → Int32) (w : Nat) (i_w : w < n) (hn : n ≤ 12) : Met l yX0_rating wsX0_rating ({ frames := 0, cells := 0, slots := 0, locals := 0 } : Room) (va_Pc [.ref h, .int (nI w)] (fun U => PR dC dI cI (wR h ad cI n F) U)) (vp_Si (fun r => r = F 1 w)) 0 0 (fun _ => False) := by
  refine Met.ofW (cc := cX0_rating) (maxL := 2) (ret := (some .int)) (by decide) rfl ?_
  intro p e s m args below meth c s₁ B hml hv
  obtain ⟨rfl, hP, hK, hE⟩ := hv
  have hx := B.exec
  have hb := B.bytes
  have hr := B.returns
  have hts := atoms_spec (ws := wsX0_rating) B.pre
  have hown : s.vm.findClass RX0 = some m.cls := findClass_of_methodNamed B.named
  have hlocks := B.notSynchronized
  have hS : va_S (fun _ => False) s.heap s.heap [] := va_S.rf
  have hinX0 : ∀ w ∈ wsX00, w ∈ wsX0_rating := by decide +kernel
  have hl := lv_entry ([.ref h, .int (nI w)]) (n := 2) (Nat.le_of_ble_eq_true rfl)
  rw [lg_entry_eq]
  generalize (lg_sl ([.ref h, .int (nI w)]) ++ List.replicate (2 - (lg_sl ([.ref h, .int (nI w)])).length) Slot.unset).toArray = ls at hl ⊢
  have hl : lv_has ls 2 [(0, .ref h), (1, .int (nI w))] := hl
  refine lv_aload_n hx hb dX0_rating_0 rfl (lv_at hl 0 rfl) ?_
  refine va_get (D := (dC, dI)) (ci := 0) (v := .ref (ad 1)) (C := RX0) (T := TX0) (N := 8) hx hb hts hinX0 hown hK hP 0 rfl rfl 1 (by decide) (hts (.fieldLink RX0 15 "WrestleBook$Roster" "ratings" "[I") (by decide +kernel)) (fun _ h9 => h9) rfl dX0_rating_1 ?_
  refine lv_iload_n hx hb dX0_rating_4 rfl (lv_at hl 1 rfl) ?_
  refine rv_iald (k := w) hx hb hK hP 2 0 rfl rfl (show w < 12 by omega) (by decide) dX0_rating_5 ?_
  exact W.iret (v := F 1 w) hx hb hr (fun t ht hW => ⟨_, rfl, (show F 1 w = F 1 w from by rfl), ht⟩) hS.2.2 dX0_rating_6

set_option maxHeartbeats 4000000 in
set_option maxRecDepth 100000 in
theorem c_X0_league (l : Launch) (dC : Nat → ClassId) (dI : Nat → Nat → Nat) (cI : ClassId) (h : Nat) (ad : Nat → Nat) (n : Nat) (F : Nat → Nat → Int32) (w : Nat) (i_w : w < n) (hn : n ≤ 12) : Met l yX0_league wsX0_league ({ frames := 0, cells := 0, slots := 0, locals := 0 } : Room) (va_Pc [.ref h, .int (nI w)] (fun U => PR dC dI cI (wR h ad cI n F) U)) (vp_Si (fun r => r = F 0 w)) 0 0 (fun _ => False) := by
  refine Met.ofW (cc := cX0_league) (maxL := 2) (ret := (some .int)) (by decide) rfl ?_
  intro p e s m args below meth c s₁ B hml hv
  obtain ⟨rfl, hP, hK, hE⟩ := hv
  have hx := B.exec
  have hb := B.bytes
  have hr := B.returns
  have hts := atoms_spec (ws := wsX0_league) B.pre
  have hown : s.vm.findClass RX0 = some m.cls := findClass_of_methodNamed B.named
  have hlocks := B.notSynchronized
  have hS : va_S (fun _ => False) s.heap s.heap [] := va_S.rf
  have hinX0 : ∀ w ∈ wsX00, w ∈ wsX0_league := by decide +kernel
  have hl := lv_entry ([.ref h, .int (nI w)]) (n := 2) (Nat.le_of_ble_eq_true rfl)
  rw [lg_entry_eq]
  generalize (lg_sl ([.ref h, .int (nI w)]) ++ List.replicate (2 - (lg_sl ([.ref h, .int (nI w)])).length) Slot.unset).toArray = ls at hl ⊢
  have hl : lv_has ls 2 [(0, .ref h), (1, .int (nI w))] := hl
  refine lv_aload_n hx hb dX0_league_0 rfl (lv_at hl 0 rfl) ?_
  refine va_get (D := (dC, dI)) (ci := 0) (v := .ref (ad 0)) (C := RX0) (T := TX0) (N := 8) hx hb hts hinX0 hown hK hP 0 rfl rfl 0 (by decide) (hts (.fieldLink RX0 9 "WrestleBook$Roster" "leagues" "[I") (by decide +kernel)) (fun _ h9 => h9) rfl dX0_league_1 ?_
  refine lv_iload_n hx hb dX0_league_4 rfl (lv_at hl 1 rfl) ?_
  refine rv_iald (k := w) hx hb hK hP 1 0 rfl rfl (show w < 12 by omega) (by decide) dX0_league_5 ?_
  exact W.iret (v := F 0 w) hx hb hr (fun t ht hW => ⟨_, rfl, (show F 0 w = F 0 w from by rfl), ht⟩) hS.2.2 dX0_league_6

set_option maxHeartbeats 4000000 in
set_option maxRecDepth 100000 in
theorem c_X0_points (l : Launch) (dC : Nat → ClassId) (dI : Nat → Nat → Nat) (cI : ClassId) (h : Nat) (ad : Nat → Nat) (n : Nat) (F : Nat → Nat → Int32) (w : Nat) (i_w : w < n) (hn : n ≤ 12) : Met l yX0_points wsX0_points ({ frames := 0, cells := 0, slots := 0, locals := 0 } : Room) (va_Pc [.ref h, .int (nI w)] (fun U => PR dC dI cI (wR h ad cI n F) U)) (vp_Si (fun r => r = F 2 w)) 0 0 (fun _ => False) := by
  refine Met.ofW (cc := cX0_points) (maxL := 2) (ret := (some .int)) (by decide) rfl ?_
  intro p e s m args below meth c s₁ B hml hv
  obtain ⟨rfl, hP, hK, hE⟩ := hv
  have hx := B.exec
  have hb := B.bytes
  have hr := B.returns
  have hts := atoms_spec (ws := wsX0_points) B.pre
  have hown : s.vm.findClass RX0 = some m.cls := findClass_of_methodNamed B.named
  have hlocks := B.notSynchronized
  have hS : va_S (fun _ => False) s.heap s.heap [] := va_S.rf
  have hinX0 : ∀ w ∈ wsX00, w ∈ wsX0_points := by decide +kernel
  have hl := lv_entry ([.ref h, .int (nI w)]) (n := 2) (Nat.le_of_ble_eq_true rfl)
  rw [lg_entry_eq]
  generalize (lg_sl ([.ref h, .int (nI w)]) ++ List.replicate (2 - (lg_sl ([.ref h, .int (nI w)])).length) Slot.unset).toArray = ls at hl ⊢
  have hl : lv_has ls 2 [(0, .ref h), (1, .int (nI w))] := hl
  refine lv_aload_n hx hb dX0_points_0 rfl (lv_at hl 0 rfl) ?_
  refine va_get (D := (dC, dI)) (ci := 0) (v := .ref (ad 2)) (C := RX0) (T := TX0) (N := 8) hx hb hts hinX0 hown hK hP 0 rfl rfl 2 (by decide) (hts (.fieldLink RX0 18 "WrestleBook$Roster" "points" "[I") (by decide +kernel)) (fun _ h9 => h9) rfl dX0_points_1 ?_
  refine lv_iload_n hx hb dX0_points_4 rfl (lv_at hl 1 rfl) ?_
  refine rv_iald (k := w) hx hb hK hP 3 0 rfl rfl (show w < 12 by omega) (by decide) dX0_points_5 ?_
  exact W.iret (v := F 2 w) hx hb hr (fun t ht hW => ⟨_, rfl, (show F 2 w = F 2 w from by rfl), ht⟩) hS.2.2 dX0_points_6

set_option maxHeartbeats 4000000 in
set_option maxRecDepth 100000 in
theorem c_X0_bouts (l : Launch) (dC : Nat → ClassId) (dI : Nat → Nat → Nat) (cI : ClassId) (h : Nat) (ad : Nat → Nat) (n : Nat) (F : Nat → Nat → Int32) (w : Nat) (i_w : w < n) (hn : n ≤ 12) : Met l yX0_bouts wsX0_bouts ({ frames := 0, cells := 0, slots := 0, locals := 0 } : Room) (va_Pc [.ref h, .int (nI w)] (fun U => PR dC dI cI (wR h ad cI n F) U)) (vp_Si (fun r => r = F 3 w)) 0 0 (fun _ => False) := by
  refine Met.ofW (cc := cX0_bouts) (maxL := 2) (ret := (some .int)) (by decide) rfl ?_
  intro p e s m args below meth c s₁ B hml hv
  obtain ⟨rfl, hP, hK, hE⟩ := hv
  have hx := B.exec
  have hb := B.bytes
  have hr := B.returns
  have hts := atoms_spec (ws := wsX0_bouts) B.pre
  have hown : s.vm.findClass RX0 = some m.cls := findClass_of_methodNamed B.named
  have hlocks := B.notSynchronized
  have hS : va_S (fun _ => False) s.heap s.heap [] := va_S.rf
  have hinX0 : ∀ w ∈ wsX00, w ∈ wsX0_bouts := by decide +kernel
  have hl := lv_entry ([.ref h, .int (nI w)]) (n := 2) (Nat.le_of_ble_eq_true rfl)
  rw [lg_entry_eq]
  generalize (lg_sl ([.ref h, .int (nI w)]) ++ List.replicate (2 - (lg_sl ([.ref h, .int (nI w)])).length) Slot.unset).toArray = ls at hl ⊢
  have hl : lv_has ls 2 [(0, .ref h), (1, .int (nI w))] := hl
  refine lv_aload_n hx hb dX0_bouts_0 rfl (lv_at hl 0 rfl) ?_
  refine va_get (D := (dC, dI)) (ci := 0) (v := .ref (ad 3)) (C := RX0) (T := TX0) (N := 8) hx hb hts hinX0 hown hK hP 0 rfl rfl 3 (by decide) (hts (.fieldLink RX0 21 "WrestleBook$Roster" "bouts" "[I") (by decide +kernel)) (fun _ h9 => h9) rfl dX0_bouts_1 ?_
  refine lv_iload_n hx hb dX0_bouts_4 rfl (lv_at hl 1 rfl) ?_
  refine rv_iald (k := w) hx hb hK hP 4 0 rfl rfl (show w < 12 by omega) (by decide) dX0_bouts_5 ?_
  exact W.iret (v := F 3 w) hx hb hr (fun t ht hW => ⟨_, rfl, (show F 3 w = F 3 w from by rfl), ht⟩) hS.2.2 dX0_bouts_6

set_option maxHeartbeats 4000000 in
set_option maxRecDepth 100000 in
theorem c_X0_seasonBouts (l : Launch) (dC : Nat → ClassId) (dI : Nat → Nat → Nat) (cI : ClassId) (h : Nat) (ad : Nat → Nat) (n : Nat) (F : Nat → Nat → Int32) (w : Nat) (i_w : w < n) (hn : n ≤ 12) : Met l yX0_seasonBouts wsX0_seasonBouts ({ frames := 0, cells := 0, slots := 0, locals := 0 } : Room) (va_Pc [.ref h, .int (nI w)] (fun U => PR dC dI cI (wR h ad cI n F) U)) (vp_Si (fun r => r = F 4 w)) 0 0 (fun _ => False) := by
  refine Met.ofW (cc := cX0_seasonBouts) (maxL := 2) (ret := (some .int)) (by decide) rfl ?_
  intro p e s m args below meth c s₁ B hml hv
  obtain ⟨rfl, hP, hK, hE⟩ := hv
  have hx := B.exec
  have hb := B.bytes
  have hr := B.returns
  have hts := atoms_spec (ws := wsX0_seasonBouts) B.pre
  have hown : s.vm.findClass RX0 = some m.cls := findClass_of_methodNamed B.named
  have hlocks := B.notSynchronized
  have hS : va_S (fun _ => False) s.heap s.heap [] := va_S.rf
  have hinX0 : ∀ w ∈ wsX00, w ∈ wsX0_seasonBouts := by decide +kernel
  have hl := lv_entry ([.ref h, .int (nI w)]) (n := 2) (Nat.le_of_ble_eq_true rfl)
  rw [lg_entry_eq]
  generalize (lg_sl ([.ref h, .int (nI w)]) ++ List.replicate (2 - (lg_sl ([.ref h, .int (nI w)])).length) Slot.unset).toArray = ls at hl ⊢
  have hl : lv_has ls 2 [(0, .ref h), (1, .int (nI w))] := hl
  refine lv_aload_n hx hb dX0_seasonBouts_0 rfl (lv_at hl 0 rfl) ?_
  refine va_get (D := (dC, dI)) (ci := 0) (v := .ref (ad 4)) (C := RX0) (T := TX0) (N := 8) hx hb hts hinX0 hown hK hP 0 rfl rfl 4 (by decide) (hts (.fieldLink RX0 24 "WrestleBook$Roster" "seasonBouts" "[I") (by decide +kernel)) (fun _ h9 => h9) rfl dX0_seasonBouts_1 ?_
  refine lv_iload_n hx hb dX0_seasonBouts_4 rfl (lv_at hl 1 rfl) ?_
  refine rv_iald (k := w) hx hb hK hP 5 0 rfl rfl (show w < 12 by omega) (by decide) dX0_seasonBouts_5 ?_
  exact W.iret (v := F 4 w) hx hb hr (fun t ht hW => ⟨_, rfl, (show F 4 w = F 4 w from by rfl), ht⟩) hS.2.2 dX0_seasonBouts_6

set_option maxHeartbeats 4000000 in
set_option maxRecDepth 100000 in
theorem c_X0_winRow (l : Launch) (dC : Nat → ClassId) (dI : Nat → Nat → Nat) (cI : ClassId) (h : Nat) (ad : Nat → Nat) (n : Nat) (F : Nat → Nat → Int32) (w : Nat) (i_w : w < n) (hn : n ≤ 12) : Met l yX0_winRow wsX0_winRow ({ frames := 0, cells := 0, slots := 0, locals := 0 } : Room) (va_Pc [.ref h, .int (nI w)] (fun U => PR dC dI cI (wR h ad cI n F) U)) (vp_Si (fun r => r = F 5 w)) 0 0 (fun _ => False) := by
  refine Met.ofW (cc := cX0_winRow) (maxL := 2) (ret := (some .int)) (by decide) rfl ?_
  intro p e s m args below meth c s₁ B hml hv
  obtain ⟨rfl, hP, hK, hE⟩ := hv
  have hx := B.exec
  have hb := B.bytes
  have hr := B.returns
  have hts := atoms_spec (ws := wsX0_winRow) B.pre
  have hown : s.vm.findClass RX0 = some m.cls := findClass_of_methodNamed B.named
  have hlocks := B.notSynchronized
  have hS : va_S (fun _ => False) s.heap s.heap [] := va_S.rf
  have hinX0 : ∀ w ∈ wsX00, w ∈ wsX0_winRow := by decide +kernel
  have hl := lv_entry ([.ref h, .int (nI w)]) (n := 2) (Nat.le_of_ble_eq_true rfl)
  rw [lg_entry_eq]
  generalize (lg_sl ([.ref h, .int (nI w)]) ++ List.replicate (2 - (lg_sl ([.ref h, .int (nI w)])).length) Slot.unset).toArray = ls at hl ⊢
  have hl : lv_has ls 2 [(0, .ref h), (1, .int (nI w))] := hl
  refine lv_aload_n hx hb dX0_winRow_0 rfl (lv_at hl 0 rfl) ?_
  refine va_get (D := (dC, dI)) (ci := 0) (v := .ref (ad 5)) (C := RX0) (T := TX0) (N := 8) hx hb hts hinX0 hown hK hP 0 rfl rfl 5 (by decide) (hts (.fieldLink RX0 27 "WrestleBook$Roster" "winRows" "[I") (by decide +kernel)) (fun _ h9 => h9) rfl dX0_winRow_1 ?_
  refine lv_iload_n hx hb dX0_winRow_4 rfl (lv_at hl 1 rfl) ?_
  refine rv_iald (k := w) hx hb hK hP 6 0 rfl rfl (show w < 12 by omega) (by decide) dX0_winRow_5 ?_
  exact W.iret (v := F 5 w) hx hb hr (fun t ht hW => ⟨_, rfl, (show F 5 w = F 5 w from by rfl), ht⟩) hS.2.2 dX0_winRow_6

set_option maxHeartbeats 4000000 in
set_option maxRecDepth 100000 in
theorem c_X0_best (l : Launch) (dC : Nat → ClassId) (dI : Nat → Nat → Nat) (cI : ClassId) (h : Nat) (ad : Nat → Nat) (n : Nat) (F : Nat → Nat → Int32) (w : Nat) (i_w : w < n) (hn : n ≤ 12) : Met l yX0_best wsX0_best ({ frames := 0, cells := 0, slots := 0, locals := 0 } : Room) (va_Pc [.ref h, .int (nI w)] (fun U => PR dC dI cI (wR h ad cI n F) U)) (vp_Si (fun r => r = F 6 w)) 0 0 (fun _ => False) := by
  refine Met.ofW (cc := cX0_best) (maxL := 2) (ret := (some .int)) (by decide) rfl ?_
  intro p e s m args below meth c s₁ B hml hv
  obtain ⟨rfl, hP, hK, hE⟩ := hv
  have hx := B.exec
  have hb := B.bytes
  have hr := B.returns
  have hts := atoms_spec (ws := wsX0_best) B.pre
  have hown : s.vm.findClass RX0 = some m.cls := findClass_of_methodNamed B.named
  have hlocks := B.notSynchronized
  have hS : va_S (fun _ => False) s.heap s.heap [] := va_S.rf
  have hinX0 : ∀ w ∈ wsX00, w ∈ wsX0_best := by decide +kernel
  have hl := lv_entry ([.ref h, .int (nI w)]) (n := 2) (Nat.le_of_ble_eq_true rfl)
  rw [lg_entry_eq]
  generalize (lg_sl ([.ref h, .int (nI w)]) ++ List.replicate (2 - (lg_sl ([.ref h, .int (nI w)])).length) Slot.unset).toArray = ls at hl ⊢
  have hl : lv_has ls 2 [(0, .ref h), (1, .int (nI w))] := hl
  refine lv_aload_n hx hb dX0_best_0 rfl (lv_at hl 0 rfl) ?_
  refine va_get (D := (dC, dI)) (ci := 0) (v := .ref (ad 6)) (C := RX0) (T := TX0) (N := 8) hx hb hts hinX0 hown hK hP 0 rfl rfl 6 (by decide) (hts (.fieldLink RX0 30 "WrestleBook$Roster" "bests" "[I") (by decide +kernel)) (fun _ h9 => h9) rfl dX0_best_1 ?_
  refine lv_iload_n hx hb dX0_best_4 rfl (lv_at hl 1 rfl) ?_
  refine rv_iald (k := w) hx hb hK hP 7 0 rfl rfl (show w < 12 by omega) (by decide) dX0_best_5 ?_
  exact W.iret (v := F 6 w) hx hb hr (fun t ht hW => ⟨_, rfl, (show F 6 w = F 6 w from by rfl), ht⟩) hS.2.2 dX0_best_6

set_option maxHeartbeats 4000000 in
set_option maxRecDepth 100000 in
theorem c_X0_weight (l : Launch) (dC : Nat → ClassId) (dI : Nat → Nat → Nat) (cI : ClassId) (h : Nat) (ad : Nat → Nat) (n : Nat) (F : Nat → Nat → Int32) (w : Nat) (i_w : w < n) (hn : n ≤ 12) : Met l yX0_weight wsX0_weight ({ frames := 0, cells := 0, slots := 0, locals := 0 } : Room) (va_Pc [.ref h, .int (nI w)] (fun U => PR dC dI cI (wR h ad cI n F) U)) (vp_Si (fun r => r = s_wt F w)) 0 0 (fun _ => False) := by
  refine Met.ofW (cc := cX0_weight) (maxL := 2) (ret := (some .int)) (by decide) rfl ?_
  intro p e s m args below meth c s₁ B hml hv
  obtain ⟨rfl, hP, hK, hE⟩ := hv
  have hx := B.exec
  have hb := B.bytes
  have hr := B.returns
  have hts := atoms_spec (ws := wsX0_weight) B.pre
  have hown : s.vm.findClass RX0 = some m.cls := findClass_of_methodNamed B.named
  have hlocks := B.notSynchronized
  have hS : va_S (fun _ => False) s.heap s.heap [] := va_S.rf
  have hinX0 : ∀ w ∈ wsX00, w ∈ wsX0_weight := by decide +kernel
  have hl := lv_entry ([.ref h, .int (nI w)]) (n := 2) (Nat.le_of_ble_eq_true rfl)
  rw [lg_entry_eq]
  generalize (lg_sl ([.ref h, .int (nI w)]) ++ List.replicate (2 - (lg_sl ([.ref h, .int (nI w)])).length) Slot.unset).toArray = ls at hl ⊢
  have hl : lv_has ls 2 [(0, .ref h), (1, .int (nI w))] := hl
  refine lv_aload_n hx hb dX0_weight_0 rfl (lv_at hl 0 rfl) ?_
  refine va_get (D := (dC, dI)) (ci := 0) (v := .ref (ad 3)) (C := RX0) (T := TX0) (N := 8) hx hb hts hinX0 hown hK hP 0 rfl rfl 3 (by decide) (hts (.fieldLink RX0 21 "WrestleBook$Roster" "bouts" "[I") (by decide +kernel)) (fun _ h9 => h9) rfl dX0_weight_1 ?_
  refine lv_iload_n hx hb dX0_weight_4 rfl (lv_at hl 1 rfl) ?_
  refine rv_iald (k := w) hx hb hK hP 4 0 rfl rfl (show w < 12 by omega) (by decide) dX0_weight_5 ?_
  refine lv_bipush (v := 10) hx hb dX0_weight_6 (by decide) ?_
  refine lv_icmp_ge (tgt := 14) hx hb dX0_weight_8 (by decide) (fun c_8 => ?_) (fun c_8 => ?_)
  · refine lv_aload_n hx hb dX0_weight_14 rfl (lv_at hl 0 rfl) ?_
    refine va_get (D := (dC, dI)) (ci := 0) (v := .ref (ad 1)) (C := RX0) (T := TX0) (N := 8) hx hb hts hinX0 hown hK hP 0 rfl rfl 1 (by decide) (hts (.fieldLink RX0 15 "WrestleBook$Roster" "ratings" "[I") (by decide +kernel)) (fun _ h9 => h9) rfl dX0_weight_15 ?_
    refine lv_iload_n hx hb dX0_weight_18 rfl (lv_at hl 1 rfl) ?_
    refine rv_iald (k := w) hx hb hK hP 2 0 rfl rfl (show w < 12 by omega) (by decide) dX0_weight_19 ?_
    refine lv_sipush (v := 2000) hx hb dX0_weight_20 (by decide) ?_
    refine lv_icmp_lt (tgt := 31) hx hb dX0_weight_23 (by decide) (fun c_23 => ?_) (fun c_23 => ?_)
    · refine lv_bipush (v := 20) hx hb dX0_weight_31 (by decide) ?_
      exact W.iret (v := 20) hx hb hr (fun t ht hW => ⟨_, rfl, (show 20 = s_wt F w from by simp [s_wt, c_8, c_23]), ht⟩) hS.2.2 dX0_weight_33
    · refine lv_bipush (v := 10) hx hb dX0_weight_26 (by decide) ?_
      refine lv_goto (tgt := 33) hx hb dX0_weight_28 (by decide) ?_
      exact W.iret (v := 10) hx hb hr (fun t ht hW => ⟨_, rfl, (show 10 = s_wt F w from by simp [s_wt, c_8, c_23]), ht⟩) hS.2.2 dX0_weight_33
  · refine lv_bipush (v := 40) hx hb dX0_weight_11 (by decide) ?_
    exact W.iret (v := 40) hx hb hr (fun t ht hW => ⟨_, rfl, (show 40 = s_wt F w from by simp [s_wt, c_8]), ht⟩) hS.2.2 dX0_weight_13

set_option maxHeartbeats 4000000 in
set_option maxRecDepth 100000 in
theorem c_X0_isAhead (l : Launch) (dC : Nat → ClassId) (dI : Nat → Nat → Nat) (cI : ClassId) (h : Nat) (ad : Nat → Nat) (n : Nat) (F : Nat → Nat → Int32) (a : Nat) (i_a : a < n) (b : Nat) (i_b : b < n) (hn : n ≤ 12) : Met l yX0_isAhead wsX0_isAhead ({ frames := 0, cells := 0, slots := 0, locals := 0 } : Room) (va_Pc [.ref h, .int (nI a), .int (nI b)] (fun U => PR dC dI cI (wR h ad cI n F) U)) (vp_Si (fun r => r = bI (ahead F a b))) 0 0 (fun _ => False) := by
  refine Met.ofW (cc := cX0_isAhead) (maxL := 3) (ret := (some .boolean)) (by decide) rfl ?_
  intro p e s m args below meth c s₁ B hml hv
  obtain ⟨rfl, hP, hK, hE⟩ := hv
  have hx := B.exec
  have hb := B.bytes
  have hr := B.returns
  have hts := atoms_spec (ws := wsX0_isAhead) B.pre
  have hown : s.vm.findClass RX0 = some m.cls := findClass_of_methodNamed B.named
  have hlocks := B.notSynchronized
  have hS : va_S (fun _ => False) s.heap s.heap [] := va_S.rf
  have hinX0 : ∀ w ∈ wsX00, w ∈ wsX0_isAhead := by decide +kernel
  have hl := lv_entry ([.ref h, .int (nI a), .int (nI b)]) (n := 3) (Nat.le_of_ble_eq_true rfl)
  rw [lg_entry_eq]
  generalize (lg_sl ([.ref h, .int (nI a), .int (nI b)]) ++ List.replicate (3 - (lg_sl ([.ref h, .int (nI a), .int (nI b)])).length) Slot.unset).toArray = ls at hl ⊢
  have hl : lv_has ls 3 [(0, .ref h), (1, .int (nI a)), (2, .int (nI b))] := hl
  refine lv_aload_n hx hb dX0_isAhead_0 rfl (lv_at hl 0 rfl) ?_
  refine va_get (D := (dC, dI)) (ci := 0) (v := .ref (ad 2)) (C := RX0) (T := TX0) (N := 8) hx hb hts hinX0 hown hK hP 0 rfl rfl 2 (by decide) (hts (.fieldLink RX0 18 "WrestleBook$Roster" "points" "[I") (by decide +kernel)) (fun _ h9 => h9) rfl dX0_isAhead_1 ?_
  refine lv_iload_n hx hb dX0_isAhead_4 rfl (lv_at hl 1 rfl) ?_
  refine rv_iald (k := a) hx hb hK hP 3 0 rfl rfl (show a < 12 by omega) (by decide) dX0_isAhead_5 ?_
  refine lv_aload_n hx hb dX0_isAhead_6 rfl (lv_at hl 0 rfl) ?_
  refine va_get (D := (dC, dI)) (ci := 0) (v := .ref (ad 2)) (C := RX0) (T := TX0) (N := 8) hx hb hts hinX0 hown hK hP 0 rfl rfl 2 (by decide) (hts (.fieldLink RX0 18 "WrestleBook$Roster" "points" "[I") (by decide +kernel)) (fun _ h9 => h9) rfl dX0_isAhead_7 ?_
  refine lv_iload_n hx hb dX0_isAhead_10 rfl (lv_at hl 2 rfl) ?_
  refine rv_iald (k := b) hx hb hK hP 3 0 rfl rfl (show b < 12 by omega) (by decide) dX0_isAhead_11 ?_
  refine lv_icmp_eq (tgt := 36) hx hb dX0_isAhead_12 (by decide) (fun c_12 => ?_) (fun c_12 => ?_)
  · refine lv_aload_n hx hb dX0_isAhead_36 rfl (lv_at hl 0 rfl) ?_
    refine va_get (D := (dC, dI)) (ci := 0) (v := .ref (ad 1)) (C := RX0) (T := TX0) (N := 8) hx hb hts hinX0 hown hK hP 0 rfl rfl 1 (by decide) (hts (.fieldLink RX0 15 "WrestleBook$Roster" "ratings" "[I") (by decide +kernel)) (fun _ h9 => h9) rfl dX0_isAhead_37 ?_
    refine lv_iload_n hx hb dX0_isAhead_40 rfl (lv_at hl 1 rfl) ?_
    refine rv_iald (k := a) hx hb hK hP 2 0 rfl rfl (show a < 12 by omega) (by decide) dX0_isAhead_41 ?_
    refine lv_aload_n hx hb dX0_isAhead_42 rfl (lv_at hl 0 rfl) ?_
    refine va_get (D := (dC, dI)) (ci := 0) (v := .ref (ad 1)) (C := RX0) (T := TX0) (N := 8) hx hb hts hinX0 hown hK hP 0 rfl rfl 1 (by decide) (hts (.fieldLink RX0 15 "WrestleBook$Roster" "ratings" "[I") (by decide +kernel)) (fun _ h9 => h9) rfl dX0_isAhead_43 ?_
    refine lv_iload_n hx hb dX0_isAhead_46 rfl (lv_at hl 2 rfl) ?_
    refine rv_iald (k := b) hx hb hK hP 2 0 rfl rfl (show b < 12 by omega) (by decide) dX0_isAhead_47 ?_
    refine lv_icmp_eq (tgt := 72) hx hb dX0_isAhead_48 (by decide) (fun c_48 => ?_) (fun c_48 => ?_)
    · refine lv_iload_n hx hb dX0_isAhead_72 rfl (lv_at hl 1 rfl) ?_
      refine lv_iload_n hx hb dX0_isAhead_73 rfl (lv_at hl 2 rfl) ?_
      refine rv_icmp_ge (tgt := 81) hx hb (a := a) (b := b) (by omega) (by omega) dX0_isAhead_74 (by decide) (fun c_74 => ?_) (fun c_74 => ?_)
      · refine lv_iconst (v := 0) hx hb dX0_isAhead_81 (by decide) ?_
        exact W.zret (v := 0) hx hb hr (by decide) (fun t ht hW => ⟨_, rfl, (show 0 = bI (ahead F a b) from by simp [ahead, bI, c_12, c_48, c_74, (show ¬ (a < b) from by omega)]), ht⟩) hS.2.2 dX0_isAhead_82
      · refine lv_iconst (v := 1) hx hb dX0_isAhead_77 (by decide) ?_
        refine lv_goto (tgt := 82) hx hb dX0_isAhead_78 (by decide) ?_
        exact W.zret (v := 1) hx hb hr (by decide) (fun t ht hW => ⟨_, rfl, (show 1 = bI (ahead F a b) from by simp [ahead, bI, c_12, c_48, c_74, (show a < b from by omega)]), ht⟩) hS.2.2 dX0_isAhead_82
    · refine lv_aload_n hx hb dX0_isAhead_51 rfl (lv_at hl 0 rfl) ?_
      refine va_get (D := (dC, dI)) (ci := 0) (v := .ref (ad 1)) (C := RX0) (T := TX0) (N := 8) hx hb hts hinX0 hown hK hP 0 rfl rfl 1 (by decide) (hts (.fieldLink RX0 15 "WrestleBook$Roster" "ratings" "[I") (by decide +kernel)) (fun _ h9 => h9) rfl dX0_isAhead_52 ?_
      refine lv_iload_n hx hb dX0_isAhead_55 rfl (lv_at hl 1 rfl) ?_
      refine rv_iald (k := a) hx hb hK hP 2 0 rfl rfl (show a < 12 by omega) (by decide) dX0_isAhead_56 ?_
      refine lv_aload_n hx hb dX0_isAhead_57 rfl (lv_at hl 0 rfl) ?_
      refine va_get (D := (dC, dI)) (ci := 0) (v := .ref (ad 1)) (C := RX0) (T := TX0) (N := 8) hx hb hts hinX0 hown hK hP 0 rfl rfl 1 (by decide) (hts (.fieldLink RX0 15 "WrestleBook$Roster" "ratings" "[I") (by decide +kernel)) (fun _ h9 => h9) rfl dX0_isAhead_58 ?_
      refine lv_iload_n hx hb dX0_isAhead_61 rfl (lv_at hl 2 rfl) ?_
      refine rv_iald (k := b) hx hb hK hP 2 0 rfl rfl (show b < 12 by omega) (by decide) dX0_isAhead_62 ?_
      refine lv_icmp_le (tgt := 70) hx hb dX0_isAhead_63 (by decide) (fun c_63 => ?_) (fun c_63 => ?_)
      · refine lv_iconst (v := 0) hx hb dX0_isAhead_70 (by decide) ?_
        exact W.zret (v := 0) hx hb hr (by decide) (fun t ht hW => ⟨_, rfl, (show 0 = bI (ahead F a b) from by simp [ahead, bI, c_12, c_48, c_63]), ht⟩) hS.2.2 dX0_isAhead_71
      · refine lv_iconst (v := 1) hx hb dX0_isAhead_66 (by decide) ?_
        refine lv_goto (tgt := 71) hx hb dX0_isAhead_67 (by decide) ?_
        exact W.zret (v := 1) hx hb hr (by decide) (fun t ht hW => ⟨_, rfl, (show 1 = bI (ahead F a b) from by simp [ahead, bI, c_12, c_48, c_63]), ht⟩) hS.2.2 dX0_isAhead_71
  · refine lv_aload_n hx hb dX0_isAhead_15 rfl (lv_at hl 0 rfl) ?_
    refine va_get (D := (dC, dI)) (ci := 0) (v := .ref (ad 2)) (C := RX0) (T := TX0) (N := 8) hx hb hts hinX0 hown hK hP 0 rfl rfl 2 (by decide) (hts (.fieldLink RX0 18 "WrestleBook$Roster" "points" "[I") (by decide +kernel)) (fun _ h9 => h9) rfl dX0_isAhead_16 ?_
    refine lv_iload_n hx hb dX0_isAhead_19 rfl (lv_at hl 1 rfl) ?_
    refine rv_iald (k := a) hx hb hK hP 3 0 rfl rfl (show a < 12 by omega) (by decide) dX0_isAhead_20 ?_
    refine lv_aload_n hx hb dX0_isAhead_21 rfl (lv_at hl 0 rfl) ?_
    refine va_get (D := (dC, dI)) (ci := 0) (v := .ref (ad 2)) (C := RX0) (T := TX0) (N := 8) hx hb hts hinX0 hown hK hP 0 rfl rfl 2 (by decide) (hts (.fieldLink RX0 18 "WrestleBook$Roster" "points" "[I") (by decide +kernel)) (fun _ h9 => h9) rfl dX0_isAhead_22 ?_
    refine lv_iload_n hx hb dX0_isAhead_25 rfl (lv_at hl 2 rfl) ?_
    refine rv_iald (k := b) hx hb hK hP 3 0 rfl rfl (show b < 12 by omega) (by decide) dX0_isAhead_26 ?_
    refine lv_icmp_le (tgt := 34) hx hb dX0_isAhead_27 (by decide) (fun c_27 => ?_) (fun c_27 => ?_)
    · refine lv_iconst (v := 0) hx hb dX0_isAhead_34 (by decide) ?_
      exact W.zret (v := 0) hx hb hr (by decide) (fun t ht hW => ⟨_, rfl, (show 0 = bI (ahead F a b) from by simp [ahead, bI, c_12, c_27]), ht⟩) hS.2.2 dX0_isAhead_35
    · refine lv_iconst (v := 1) hx hb dX0_isAhead_30 (by decide) ?_
      refine lv_goto (tgt := 35) hx hb dX0_isAhead_31 (by decide) ?_
      exact W.zret (v := 1) hx hb hr (by decide) (fun t ht hW => ⟨_, rfl, (show 1 = bI (ahead F a b) from by simp [ahead, bI, c_12, c_27]), ht⟩) hS.2.2 dX0_isAhead_35

set_option maxHeartbeats 4000000 in
set_option maxRecDepth 100000 in
theorem c_X0_sizeOf (l : Launch) (dC : Nat → ClassId) (dI : Nat → Nat → Nat) (cI : ClassId) (h : Nat) (ad : Nat → Nat) (n : Nat) (F : Nat → Nat → Int32) (vp : Int32) (hn : n ≤ 12) : Met l yX0_sizeOf wsX0_sizeOf ({ frames := 0, cells := 0, slots := 0, locals := 0 } : Room) (va_Pc [.ref h, .int vp] (fun U => PR dC dI cI (wR h ad cI n F) U)) (vp_Si (fun r => r = nI (s_many n F vp))) 0 0 (fun _ => False) := by
  refine Met.ofW (cc := cX0_sizeOf) (maxL := 4) (ret := (some .int)) (by decide) rfl ?_
  intro p e s m args below meth c s₁ B hml hv
  obtain ⟨rfl, hP, hK, hE⟩ := hv
  have hx := B.exec
  have hb := B.bytes
  have hr := B.returns
  have hts := atoms_spec (ws := wsX0_sizeOf) B.pre
  have hown : s.vm.findClass RX0 = some m.cls := findClass_of_methodNamed B.named
  have hlocks := B.notSynchronized
  have hS : va_S (fun _ => False) s.heap s.heap [] := va_S.rf
  have hinX0 : ∀ w ∈ wsX00, w ∈ wsX0_sizeOf := by decide +kernel
  have hl := lv_entry ([.ref h, .int vp]) (n := 4) (Nat.le_of_ble_eq_true rfl)
  rw [lg_entry_eq]
  generalize (lg_sl ([.ref h, .int vp]) ++ List.replicate (4 - (lg_sl ([.ref h, .int vp])).length) Slot.unset).toArray = ls at hl ⊢
  have hl : lv_has ls 4 [(0, .ref h), (1, .int vp)] := hl
  refine lv_iconst (v := 0) hx hb dX0_sizeOf_0 (by decide) ?_
  refine lv_istore_n (lv' := [(2, .int 0), (0, .ref h), (1, .int vp)]) hx hb dX0_sizeOf_1 rfl hl (by decide) rfl (fun ls hl => ?_)
  refine lv_iconst (v := 0) hx hb dX0_sizeOf_2 (by decide) ?_
  refine lv_istore_n (lv' := [(3, .int 0), (2, .int 0), (0, .ref h), (1, .int vp)]) hx hb dX0_sizeOf_3 rfl hl (by decide) rfl (fun ls hl => ?_)
  have L_4 : ∀ (k i : Nat) (a2 : Nat), i + k = n → a2 = s_manyU F vp i → ∀ (ls : Array Slot), lv_has ls 4 [(3, .int (nI i)), (2, .int (nI a2)), (0, .ref h), (1, .int vp)] → W p l e (headSpec wsX0_sizeOf ({ frames := 0, cells := 0, slots := 0, locals := 0 } : Room)).room s m ([.ref h, .int vp] : List Value).toArray below meth c s.heap [] 0 0 (MQ below (vp_Si (fun r => r = nI (s_many n F vp))) ([.ref h, .int vp] : List Value).toArray s 0 0 (fun _ => False)) (F0 m 4 ls []) := by
    intro k
    induction k with
    | zero =>
      intro i a2 e_i ha2 ls hl
      refine lv_iload_n hx hb dX0_sizeOf_4 rfl (lv_at hl 0 rfl) ?_
      refine lv_aload_n hx hb dX0_sizeOf_5 rfl (lv_at hl 2 rfl) ?_
      refine va_get (D := (dC, dI)) (ci := 0) (v := .int (nI n)) (C := RX0) (T := TX0) (N := 8) hx hb hts hinX0 hown hK hP 0 rfl rfl 7 (by decide) (hts (.fieldLink RX0 33 "WrestleBook$Roster" "size" "I") (by decide +kernel)) (fun _ h9 => h9) rfl dX0_sizeOf_6 ?_
      refine rv_icmp_ge (tgt := 31) hx hb (a := i) (b := n) (by omega) (by omega) dX0_sizeOf_9 (by decide) (fun c_9 => ?_) (fun c_9 => ?_)
      · refine lv_iload_n hx hb dX0_sizeOf_31 rfl (lv_at hl 1 rfl) ?_
        exact W.iret (v := nI a2) hx hb hr (fun t ht hW => ⟨_, rfl, (show nI a2 = nI (s_many n F vp) from by rw [ha2, show i = n by omega]; rfl), ht⟩) hS.2.2 dX0_sizeOf_32
      · exact absurd c_9 (by omega)
    | succ k ih_4 =>
      intro i a2 e_i ha2 ls hl
      refine lv_iload_n hx hb dX0_sizeOf_4 rfl (lv_at hl 0 rfl) ?_
      refine lv_aload_n hx hb dX0_sizeOf_5 rfl (lv_at hl 2 rfl) ?_
      refine va_get (D := (dC, dI)) (ci := 0) (v := .int (nI n)) (C := RX0) (T := TX0) (N := 8) hx hb hts hinX0 hown hK hP 0 rfl rfl 7 (by decide) (hts (.fieldLink RX0 33 "WrestleBook$Roster" "size" "I") (by decide +kernel)) (fun _ h9 => h9) rfl dX0_sizeOf_6 ?_
      refine rv_icmp_ge (tgt := 31) hx hb (a := i) (b := n) (by omega) (by omega) dX0_sizeOf_9 (by decide) (fun c_9 => ?_) (fun c_9 => ?_)
      · exact absurd c_9 (by omega)
      · refine lv_aload_n hx hb dX0_sizeOf_12 rfl (lv_at hl 2 rfl) ?_
        refine va_get (D := (dC, dI)) (ci := 0) (v := .ref (ad 0)) (C := RX0) (T := TX0) (N := 8) hx hb hts hinX0 hown hK hP 0 rfl rfl 0 (by decide) (hts (.fieldLink RX0 9 "WrestleBook$Roster" "leagues" "[I") (by decide +kernel)) (fun _ h9 => h9) rfl dX0_sizeOf_13 ?_
        refine lv_iload_n hx hb dX0_sizeOf_16 rfl (lv_at hl 0 rfl) ?_
        refine rv_iald (k := i) hx hb hK hP 1 0 rfl rfl (show i < 12 by omega) (by decide) dX0_sizeOf_17 ?_
        refine lv_iload_n hx hb dX0_sizeOf_18 rfl (lv_at hl 3 rfl) ?_
        refine lv_icmp_ne (tgt := 25) hx hb dX0_sizeOf_19 (by decide) (fun c_19 => ?_) (fun c_19 => ?_)
        · refine lv_iinc (v := nI (i + 1)) (lv' := [(3, .int (nI (i + 1))), (2, .int (nI a2)), (0, .ref h), (1, .int vp)]) hx hb dX0_sizeOf_25 hl (k := 0) rfl (nI_add i 1) (by decide) rfl (fun ls hl => ?_)
          refine lv_goto (tgt := 4) hx hb dX0_sizeOf_28 (by decide) ?_
          exact ih_4 (i + 1) a2 (by omega) (by rw [ha2]; simp only [s_manyU, fo_s]; simp [c_9, (show i < n from by omega), c_19]) ls (lv_sub hl [0, 1, 2, 3] rfl)
        · refine lv_iinc (v := nI (a2 + 1)) (lv' := [(2, .int (nI (a2 + 1))), (3, .int (nI i)), (0, .ref h), (1, .int vp)]) hx hb dX0_sizeOf_22 hl (k := 1) rfl (nI_add a2 1) (by decide) rfl (fun ls hl => ?_)
          refine lv_iinc (v := nI (i + 1)) (lv' := [(3, .int (nI (i + 1))), (2, .int (nI (a2 + 1))), (0, .ref h), (1, .int vp)]) hx hb dX0_sizeOf_25 hl (k := 1) rfl (nI_add i 1) (by decide) rfl (fun ls hl => ?_)
          refine lv_goto (tgt := 4) hx hb dX0_sizeOf_28 (by decide) ?_
          exact ih_4 (i + 1) (a2 + 1) (by omega) (by rw [ha2]; simp only [s_manyU, fo_s]; simp [c_9, (show i < n from by omega), c_19]) ls (lv_sub hl [0, 1, 2, 3] rfl)
  exact L_4 n 0 0 (by omega) rfl ls (lv_sub hl [0, 1, 2, 3] rfl)

set_option maxHeartbeats 4000000 in
set_option maxRecDepth 100000 in
theorem c_X0_place (l : Launch) (dC : Nat → ClassId) (dI : Nat → Nat → Nat) (cI : ClassId) (h : Nat) (ad : Nat → Nat) (n : Nat) (F : Nat → Nat → Int32) (w : Nat) (i_w : w < n) (hn : n ≤ 12) : Met l yX0_place wsX0_place ({ frames := 1, cells := 0, slots := 0, locals := 22 } : Room) (va_Pc [.ref h, .int (nI w)] (fun U => PR dC dI cI (wR h ad cI n F) U)) (vp_Si (fun r => r = nI (s_place n F w))) 0 0 (fun _ => False) := by
  refine Met.ofW (cc := cX0_place) (maxL := 4) (ret := (some .int)) (by decide) rfl ?_
  intro p e s m args below meth c s₁ B hml hv
  obtain ⟨rfl, hP, hK, hE⟩ := hv
  have hx := B.exec
  have hb := B.bytes
  have hr := B.returns
  have hts := atoms_spec (ws := wsX0_place) B.pre
  have hown : s.vm.findClass RX0 = some m.cls := findClass_of_methodNamed B.named
  have hlocks := B.notSynchronized
  have hS : va_S (fun _ => False) s.heap s.heap [] := va_S.rf
  have hinX0 : ∀ w ∈ wsX00, w ∈ wsX0_place := by decide +kernel
  have hl := lv_entry ([.ref h, .int (nI w)]) (n := 4) (Nat.le_of_ble_eq_true rfl)
  rw [lg_entry_eq]
  generalize (lg_sl ([.ref h, .int (nI w)]) ++ List.replicate (4 - (lg_sl ([.ref h, .int (nI w)])).length) Slot.unset).toArray = ls at hl ⊢
  have hl : lv_has ls 4 [(0, .ref h), (1, .int (nI w))] := hl
  refine lv_iconst (v := 1) hx hb dX0_place_0 (by decide) ?_
  refine lv_istore_n (lv' := [(2, .int 1), (0, .ref h), (1, .int (nI w))]) hx hb dX0_place_1 rfl hl (by decide) rfl (fun ls hl => ?_)
  refine lv_iconst (v := 0) hx hb dX0_place_2 (by decide) ?_
  refine lv_istore_n (lv' := [(3, .int 0), (2, .int 1), (0, .ref h), (1, .int (nI w))]) hx hb dX0_place_3 rfl hl (by decide) rfl (fun ls hl => ?_)
  have L_4 : ∀ (k i : Nat) (a2 : Nat), i + k = n → a2 = s_placeU F w i → ∀ (ls : Array Slot), lv_has ls 4 [(3, .int (nI i)), (2, .int (nI a2)), (0, .ref h), (1, .int (nI w))] → W p l e (headSpec wsX0_place ({ frames := 1, cells := 0, slots := 0, locals := 22 } : Room)).room s m ([.ref h, .int (nI w)] : List Value).toArray below meth c s.heap [] 0 0 (MQ below (vp_Si (fun r => r = nI (s_place n F w))) ([.ref h, .int (nI w)] : List Value).toArray s 0 0 (fun _ => False)) (F0 m 4 ls []) := by
    intro k
    induction k with
    | zero =>
      intro i a2 e_i ha2 ls hl
      refine lv_iload_n hx hb dX0_place_4 rfl (lv_at hl 0 rfl) ?_
      refine lv_aload_n hx hb dX0_place_5 rfl (lv_at hl 2 rfl) ?_
      refine va_get (D := (dC, dI)) (ci := 0) (v := .int (nI n)) (C := RX0) (T := TX0) (N := 8) hx hb hts hinX0 hown hK hP 0 rfl rfl 7 (by decide) (hts (.fieldLink RX0 33 "WrestleBook$Roster" "size" "I") (by decide +kernel)) (fun _ h9 => h9) rfl dX0_place_6 ?_
      refine rv_icmp_ge (tgt := 45) hx hb (a := i) (b := n) (by omega) (by omega) dX0_place_9 (by decide) (fun c_9 => ?_) (fun c_9 => ?_)
      · refine lv_iload_n hx hb dX0_place_45 rfl (lv_at hl 1 rfl) ?_
        exact W.iret (v := nI a2) hx hb hr (fun t ht hW => ⟨_, rfl, (show nI a2 = nI (s_place n F w) from by rw [ha2, show i = n by omega]; rfl), ht⟩) hS.2.2 dX0_place_46
      · exact absurd c_9 (by omega)
    | succ k ih_4 =>
      intro i a2 e_i ha2 ls hl
      refine lv_iload_n hx hb dX0_place_4 rfl (lv_at hl 0 rfl) ?_
      refine lv_aload_n hx hb dX0_place_5 rfl (lv_at hl 2 rfl) ?_
      refine va_get (D := (dC, dI)) (ci := 0) (v := .int (nI n)) (C := RX0) (T := TX0) (N := 8) hx hb hts hinX0 hown hK hP 0 rfl rfl 7 (by decide) (hts (.fieldLink RX0 33 "WrestleBook$Roster" "size" "I") (by decide +kernel)) (fun _ h9 => h9) rfl dX0_place_6 ?_
      refine rv_icmp_ge (tgt := 45) hx hb (a := i) (b := n) (by omega) (by omega) dX0_place_9 (by decide) (fun c_9 => ?_) (fun c_9 => ?_)
      · exact absurd c_9 (by omega)
      · refine lv_aload_n hx hb dX0_place_12 rfl (lv_at hl 2 rfl) ?_
        refine va_get (D := (dC, dI)) (ci := 0) (v := .ref (ad 0)) (C := RX0) (T := TX0) (N := 8) hx hb hts hinX0 hown hK hP 0 rfl rfl 0 (by decide) (hts (.fieldLink RX0 9 "WrestleBook$Roster" "leagues" "[I") (by decide +kernel)) (fun _ h9 => h9) rfl dX0_place_13 ?_
        refine lv_iload_n hx hb dX0_place_16 rfl (lv_at hl 0 rfl) ?_
        refine rv_iald (k := i) hx hb hK hP 1 0 rfl rfl (show i < 12 by omega) (by decide) dX0_place_17 ?_
        refine lv_aload_n hx hb dX0_place_18 rfl (lv_at hl 2 rfl) ?_
        refine va_get (D := (dC, dI)) (ci := 0) (v := .ref (ad 0)) (C := RX0) (T := TX0) (N := 8) hx hb hts hinX0 hown hK hP 0 rfl rfl 0 (by decide) (hts (.fieldLink RX0 9 "WrestleBook$Roster" "leagues" "[I") (by decide +kernel)) (fun _ h9 => h9) rfl dX0_place_19 ?_
        refine lv_iload_n hx hb dX0_place_22 rfl (lv_at hl 3 rfl) ?_
        refine rv_iald (k := w) hx hb hK hP 1 0 rfl rfl (show w < 12 by omega) (by decide) dX0_place_23 ?_
        refine lv_icmp_ne (tgt := 39) hx hb dX0_place_24 (by decide) (fun c_24 => ?_) (fun c_24 => ?_)
        · refine lv_iinc (v := nI (i + 1)) (lv' := [(3, .int (nI (i + 1))), (2, .int (nI a2)), (0, .ref h), (1, .int (nI w))]) hx hb dX0_place_39 hl (k := 0) rfl (nI_add i 1) (by decide) rfl (fun ls hl => ?_)
          refine lv_goto (tgt := 4) hx hb dX0_place_42 (by decide) ?_
          exact ih_4 (i + 1) a2 (by omega) (by rw [ha2]; simp only [s_placeU, fo_s]; simp [c_9, (show i < n from by omega), c_24]) ls (lv_sub hl [0, 1, 2, 3] rfl)
        · refine lv_aload_n hx hb dX0_place_27 rfl (lv_at hl 2 rfl) ?_
          refine lv_iload_n hx hb dX0_place_28 rfl (lv_at hl 0 rfl) ?_
          refine lv_iload_n hx hb dX0_place_29 rfl (lv_at hl 3 rfl) ?_
          refine vp_callSi (W.runV (As := [.int (nI i), .int (nI w)]) (rest := []) ⟨hx, hb, hml, hown, hts⟩ (c_X0_isAhead l dC dI cI h ad n F i (show i < n by omega) w (show w < n by omega) hn) (cwV 2 hts gX0_place_X0_isAhead rfl rfl rfl (by decide +kernel) ⟨Nat.le_of_ble_eq_true rfl, Nat.le_of_ble_eq_true rfl⟩) ⟨PR.blind, va_recv hK hP (ci := 0) (q0 := 0) rfl rfl, fun U hU hW => ⟨rfl, PR.go hP hK hE hS hU hW⟩⟩ rfl rfl hl.1 rfl (lv_room (Nat.le_of_ble_eq_true rfl)) dX0_place_30 ⟨Nat.le_of_ble_eq_true rfl, Nat.le_of_ble_eq_true rfl⟩) (fun r hr0 => ?_)
          subst hr0
          refine rv_ifb_eq (tgt := 39) hx hb dX0_place_33 (by decide) (fun c_33 => ?_) (fun c_33 => ?_)
          · refine lv_iinc (v := nI (i + 1)) (lv' := [(3, .int (nI (i + 1))), (2, .int (nI a2)), (0, .ref h), (1, .int (nI w))]) hx hb dX0_place_39 hl (k := 0) rfl (nI_add i 1) (by decide) rfl (fun ls hl => ?_)
            refine lv_goto (tgt := 4) hx hb dX0_place_42 (by decide) ?_
            exact ih_4 (i + 1) a2 (by omega) (by rw [ha2]; simp only [s_placeU, fo_s]; simp [c_9, (show i < n from by omega), c_24, c_33]) ls (lv_sub hl [0, 1, 2, 3] rfl)
          · refine lv_iinc (v := nI (a2 + 1)) (lv' := [(2, .int (nI (a2 + 1))), (3, .int (nI i)), (0, .ref h), (1, .int (nI w))]) hx hb dX0_place_36 hl (k := 1) rfl (nI_add a2 1) (by decide) rfl (fun ls hl => ?_)
            refine lv_iinc (v := nI (i + 1)) (lv' := [(3, .int (nI (i + 1))), (2, .int (nI (a2 + 1))), (0, .ref h), (1, .int (nI w))]) hx hb dX0_place_39 hl (k := 1) rfl (nI_add i 1) (by decide) rfl (fun ls hl => ?_)
            refine lv_goto (tgt := 4) hx hb dX0_place_42 (by decide) ?_
            exact ih_4 (i + 1) (a2 + 1) (by omega) (by rw [ha2]; simp only [s_placeU, fo_s]; simp [c_9, (show i < n from by omega), c_24, c_33]) ls (lv_sub hl [0, 1, 2, 3] rfl)
  exact L_4 n 0 1 (by omega) rfl ls (lv_sub hl [0, 1, 2, 3] rfl)

set_option maxHeartbeats 4000000 in
set_option maxRecDepth 100000 in
theorem c_X0_standingAt (l : Launch) (dC : Nat → ClassId) (dI : Nat → Nat → Nat) (cI : ClassId) (h : Nat) (ad : Nat → Nat) (n : Nat) (F : Nat → Nat → Int32) (vp : Int32) (vq : Int32) (hn : n ≤ 12) : Met l yX0_standingAt wsX0_standingAt ({ frames := 2, cells := 0, slots := 0, locals := 45 } : Room) (va_Pc [.ref h, .int vp, .int vq] (fun U => PR dC dI cI (wR h ad cI n F) U)) (vp_Si (fun r => r = oI (s_at n F vp vq))) 0 0 (fun _ => False) := by
  refine Met.ofW (cc := cX0_standingAt) (maxL := 4) (ret := (some .int)) (by decide) rfl ?_
  intro p e s m args below meth c s₁ B hml hv
  obtain ⟨rfl, hP, hK, hE⟩ := hv
  have hx := B.exec
  have hb := B.bytes
  have hr := B.returns
  have hts := atoms_spec (ws := wsX0_standingAt) B.pre
  have hown : s.vm.findClass RX0 = some m.cls := findClass_of_methodNamed B.named
  have hlocks := B.notSynchronized
  have hS : va_S (fun _ => False) s.heap s.heap [] := va_S.rf
  have hinX0 : ∀ w ∈ wsX00, w ∈ wsX0_standingAt := by decide +kernel
  have hl := lv_entry ([.ref h, .int vp, .int vq]) (n := 4) (Nat.le_of_ble_eq_true rfl)
  rw [lg_entry_eq]
  generalize (lg_sl ([.ref h, .int vp, .int vq]) ++ List.replicate (4 - (lg_sl ([.ref h, .int vp, .int vq])).length) Slot.unset).toArray = ls at hl ⊢
  have hl : lv_has ls 4 [(0, .ref h), (1, .int vp), (2, .int vq)] := hl
  refine lv_iconst (v := 0) hx hb dX0_standingAt_0 (by decide) ?_
  refine lv_istore_n (lv' := [(3, .int 0), (0, .ref h), (1, .int vp), (2, .int vq)]) hx hb dX0_standingAt_1 rfl hl (by decide) rfl (fun ls hl => ?_)
  have L_2 : ∀ (k i : Nat), i + k = n → s_atU n F vp vq i = none → ∀ (ls : Array Slot), lv_has ls 4 [(3, .int (nI i)), (0, .ref h), (1, .int vp), (2, .int vq)] → W p l e (headSpec wsX0_standingAt ({ frames := 2, cells := 0, slots := 0, locals := 45 } : Room)).room s m ([.ref h, .int vp, .int vq] : List Value).toArray below meth c s.heap [] 0 0 (MQ below (vp_Si (fun r => r = oI (s_at n F vp vq))) ([.ref h, .int vp, .int vq] : List Value).toArray s 0 0 (fun _ => False)) (F0 m 2 ls []) := by
    intro k
    induction k with
    | zero =>
      intro i e_i hq ls hl
      refine lv_iload_n hx hb dX0_standingAt_2 rfl (lv_at hl 0 rfl) ?_
      refine lv_aload_n hx hb dX0_standingAt_3 rfl (lv_at hl 1 rfl) ?_
      refine va_get (D := (dC, dI)) (ci := 0) (v := .int (nI n)) (C := RX0) (T := TX0) (N := 8) hx hb hts hinX0 hown hK hP 0 rfl rfl 7 (by decide) (hts (.fieldLink RX0 33 "WrestleBook$Roster" "size" "I") (by decide +kernel)) (fun _ h9 => h9) rfl dX0_standingAt_4 ?_
      refine rv_icmp_ge (tgt := 37) hx hb (a := i) (b := n) (by omega) (by omega) dX0_standingAt_7 (by decide) (fun c_7 => ?_) (fun c_7 => ?_)
      · refine lv_iconst (v := (-1)) hx hb dX0_standingAt_37 (by decide) ?_
        exact W.iret (v := (-1)) hx hb hr (fun t ht hW => ⟨_, rfl, (show (-1) = oI (s_at n F vp vq) from by rw [s_at_none (show i = n by omega) hq]; rfl), ht⟩) hS.2.2 dX0_standingAt_38
      · exact absurd c_7 (by omega)
    | succ k ih_2 =>
      intro i e_i hq ls hl
      refine lv_iload_n hx hb dX0_standingAt_2 rfl (lv_at hl 0 rfl) ?_
      refine lv_aload_n hx hb dX0_standingAt_3 rfl (lv_at hl 1 rfl) ?_
      refine va_get (D := (dC, dI)) (ci := 0) (v := .int (nI n)) (C := RX0) (T := TX0) (N := 8) hx hb hts hinX0 hown hK hP 0 rfl rfl 7 (by decide) (hts (.fieldLink RX0 33 "WrestleBook$Roster" "size" "I") (by decide +kernel)) (fun _ h9 => h9) rfl dX0_standingAt_4 ?_
      refine rv_icmp_ge (tgt := 37) hx hb (a := i) (b := n) (by omega) (by omega) dX0_standingAt_7 (by decide) (fun c_7 => ?_) (fun c_7 => ?_)
      · exact absurd c_7 (by omega)
      · refine lv_aload_n hx hb dX0_standingAt_10 rfl (lv_at hl 1 rfl) ?_
        refine va_get (D := (dC, dI)) (ci := 0) (v := .ref (ad 0)) (C := RX0) (T := TX0) (N := 8) hx hb hts hinX0 hown hK hP 0 rfl rfl 0 (by decide) (hts (.fieldLink RX0 9 "WrestleBook$Roster" "leagues" "[I") (by decide +kernel)) (fun _ h9 => h9) rfl dX0_standingAt_11 ?_
        refine lv_iload_n hx hb dX0_standingAt_14 rfl (lv_at hl 0 rfl) ?_
        refine rv_iald (k := i) hx hb hK hP 1 0 rfl rfl (show i < 12 by omega) (by decide) dX0_standingAt_15 ?_
        refine lv_iload_n hx hb dX0_standingAt_16 rfl (lv_at hl 2 rfl) ?_
        refine lv_icmp_ne (tgt := 31) hx hb dX0_standingAt_17 (by decide) (fun c_17 => ?_) (fun c_17 => ?_)
        · refine lv_iinc (v := nI (i + 1)) (lv' := [(3, .int (nI (i + 1))), (0, .ref h), (1, .int vp), (2, .int vq)]) hx hb dX0_standingAt_31 hl (k := 0) rfl (nI_add i 1) (by decide) rfl (fun ls hl => ?_)
          refine lv_goto (tgt := 2) hx hb dX0_standingAt_34 (by decide) ?_
          exact ih_2 (i + 1) (by omega) (by simp only [s_atU, fo_s] at hq ⊢; rw [hq]; simp [c_7, (show i < n from by omega), c_17]) ls (lv_sub hl [0, 1, 2, 3] rfl)
        · refine lv_aload_n hx hb dX0_standingAt_20 rfl (lv_at hl 1 rfl) ?_
          refine lv_iload_n hx hb dX0_standingAt_21 rfl (lv_at hl 0 rfl) ?_
          refine vp_callSi (W.runV (As := [.int (nI i)]) (rest := []) ⟨hx, hb, hml, hown, hts⟩ (c_X0_place l dC dI cI h ad n F i (show i < n by omega) hn) (cwV 1 hts gX0_standingAt_X0_place rfl rfl rfl (by decide +kernel) ⟨Nat.le_of_ble_eq_true rfl, Nat.le_of_ble_eq_true rfl⟩) ⟨PR.blind, va_recv hK hP (ci := 0) (q0 := 0) rfl rfl, fun U hU hW => ⟨rfl, PR.go hP hK hE hS hU hW⟩⟩ rfl rfl hl.1 rfl (lv_room (Nat.le_of_ble_eq_true rfl)) dX0_standingAt_22 ⟨Nat.le_of_ble_eq_true rfl, Nat.le_of_ble_eq_true rfl⟩) (fun r hr0 => ?_)
          subst hr0
          refine lv_iload_n hx hb dX0_standingAt_25 rfl (lv_at hl 3 rfl) ?_
          refine lv_icmp_ne (tgt := 31) hx hb dX0_standingAt_26 (by decide) (fun c_26 => ?_) (fun c_26 => ?_)
          · refine lv_iinc (v := nI (i + 1)) (lv' := [(3, .int (nI (i + 1))), (0, .ref h), (1, .int vp), (2, .int vq)]) hx hb dX0_standingAt_31 hl (k := 0) rfl (nI_add i 1) (by decide) rfl (fun ls hl => ?_)
            refine lv_goto (tgt := 2) hx hb dX0_standingAt_34 (by decide) ?_
            exact ih_2 (i + 1) (by omega) (by simp only [s_atU, fo_s] at hq ⊢; rw [hq]; simp [c_7, (show i < n from by omega), c_17, c_26]) ls (lv_sub hl [0, 1, 2, 3] rfl)
          · refine lv_iload_n hx hb dX0_standingAt_29 rfl (lv_at hl 0 rfl) ?_
            exact W.iret (v := nI i) hx hb hr (fun t ht hW => ⟨_, rfl, (show nI i = oI (s_at n F vp vq) from by rw [s_at_hit hq (show i < n by omega) c_17 c_26]; rfl), ht⟩) hS.2.2 dX0_standingAt_30
  exact L_2 n 0 (by omega) rfl ls (lv_sub hl [0, 1, 2, 3] rfl)

set_option maxHeartbeats 4000000 in
set_option maxRecDepth 100000 in
theorem c_X0_highest (l : Launch) (dC : Nat → ClassId) (dI : Nat → Nat → Nat) (cI : ClassId) (h : Nat) (ad : Nat → Nat) (n : Nat) (F : Nat → Nat → Int32) (hn : n ≤ 12) : Met l yX0_highest wsX0_highest ({ frames := 1, cells := 0, slots := 0, locals := 13 } : Room) (va_Pc [.ref h] (fun U => PR dC dI cI (wR h ad cI n F) U)) (vp_Si (fun r => r = s_hi n F)) 0 0 (fun _ => False) := by
  refine Met.ofW (cc := cX0_highest) (maxL := 3) (ret := (some .int)) (by decide) rfl ?_
  intro p e s m args below meth c s₁ B hml hv
  obtain ⟨rfl, hP, hK, hE⟩ := hv
  have hx := B.exec
  have hb := B.bytes
  have hr := B.returns
  have hts := atoms_spec (ws := wsX0_highest) B.pre
  have hown : s.vm.findClass RX0 = some m.cls := findClass_of_methodNamed B.named
  have hlocks := B.notSynchronized
  have hS : va_S (fun _ => False) s.heap s.heap [] := va_S.rf
  have hinX0 : ∀ w ∈ wsX00, w ∈ wsX0_highest := by decide +kernel
  have hl := lv_entry ([.ref h]) (n := 3) (Nat.le_of_ble_eq_true rfl)
  rw [lg_entry_eq]
  generalize (lg_sl ([.ref h]) ++ List.replicate (3 - (lg_sl ([.ref h])).length) Slot.unset).toArray = ls at hl ⊢
  have hl : lv_has ls 3 [(0, .ref h)] := hl
  refine lv_iconst (v := 0) hx hb dX0_highest_0 (by decide) ?_
  refine lv_istore_n (lv' := [(1, .int 0), (0, .ref h)]) hx hb dX0_highest_1 rfl hl (by decide) rfl (fun ls hl => ?_)
  refine lv_iconst (v := 0) hx hb dX0_highest_2 (by decide) ?_
  refine lv_istore_n (lv' := [(2, .int 0), (1, .int 0), (0, .ref h)]) hx hb dX0_highest_3 rfl hl (by decide) rfl (fun ls hl => ?_)
  have L_4 : ∀ (k i : Nat) (x1 : Int32), i + k = n → x1 = s_hiU F i → ∀ (ls : Array Slot), lv_has ls 3 [(2, .int (nI i)), (1, .int x1), (0, .ref h)] → W p l e (headSpec wsX0_highest ({ frames := 1, cells := 0, slots := 0, locals := 13 } : Room)).room s m ([.ref h] : List Value).toArray below meth c s.heap [] 0 0 (MQ below (vp_Si (fun r => r = s_hi n F)) ([.ref h] : List Value).toArray s 0 0 (fun _ => False)) (F0 m 4 ls []) := by
    intro k
    induction k with
    | zero =>
      intro i x1 e_i hx1 ls hl
      refine lv_iload_n hx hb dX0_highest_4 rfl (lv_at hl 0 rfl) ?_
      refine lv_aload_n hx hb dX0_highest_5 rfl (lv_at hl 2 rfl) ?_
      refine va_get (D := (dC, dI)) (ci := 0) (v := .int (nI n)) (C := RX0) (T := TX0) (N := 8) hx hb hts hinX0 hown hK hP 0 rfl rfl 7 (by decide) (hts (.fieldLink RX0 33 "WrestleBook$Roster" "size" "I") (by decide +kernel)) (fun _ h9 => h9) rfl dX0_highest_6 ?_
      refine rv_icmp_ge (tgt := 29) hx hb (a := i) (b := n) (by omega) (by omega) dX0_highest_9 (by decide) (fun c_9 => ?_) (fun c_9 => ?_)
      · refine lv_iload_n hx hb dX0_highest_29 rfl (lv_at hl 1 rfl) ?_
        exact W.iret (v := x1) hx hb hr (fun t ht hW => ⟨_, rfl, (show x1 = s_hi n F from by rw [hx1, show i = n by omega]; rfl), ht⟩) hS.2.2 dX0_highest_30
      · exact absurd c_9 (by omega)
    | succ k ih_4 =>
      intro i x1 e_i hx1 ls hl
      refine lv_iload_n hx hb dX0_highest_4 rfl (lv_at hl 0 rfl) ?_
      refine lv_aload_n hx hb dX0_highest_5 rfl (lv_at hl 2 rfl) ?_
      refine va_get (D := (dC, dI)) (ci := 0) (v := .int (nI n)) (C := RX0) (T := TX0) (N := 8) hx hb hts hinX0 hown hK hP 0 rfl rfl 7 (by decide) (hts (.fieldLink RX0 33 "WrestleBook$Roster" "size" "I") (by decide +kernel)) (fun _ h9 => h9) rfl dX0_highest_6 ?_
      refine rv_icmp_ge (tgt := 29) hx hb (a := i) (b := n) (by omega) (by omega) dX0_highest_9 (by decide) (fun c_9 => ?_) (fun c_9 => ?_)
      · exact absurd c_9 (by omega)
      · refine lv_iload_n hx hb dX0_highest_12 rfl (lv_at hl 1 rfl) ?_
        refine lv_aload_n hx hb dX0_highest_13 rfl (lv_at hl 2 rfl) ?_
        refine va_get (D := (dC, dI)) (ci := 0) (v := .ref (ad 1)) (C := RX0) (T := TX0) (N := 8) hx hb hts hinX0 hown hK hP 0 rfl rfl 1 (by decide) (hts (.fieldLink RX0 15 "WrestleBook$Roster" "ratings" "[I") (by decide +kernel)) (fun _ h9 => h9) rfl dX0_highest_14 ?_
        refine lv_iload_n hx hb dX0_highest_17 rfl (lv_at hl 0 rfl) ?_
        refine rv_iald (k := i) hx hb hK hP 2 0 rfl rfl (show i < 12 by omega) (by decide) dX0_highest_18 ?_
        refine va_mmax hx hb (hml.trans hl.1.symm) hown (hts (.methodLink RX0 37 Lib.Math.max.name) (by decide +kernel)) (hts (.static Lib.Math.max.name) (by decide +kernel)) (hts (.initialized "java/lang/Math") (by decide +kernel)) (hts (.code Lib.Math.max.name Lib.Math.max.code 2 (some .int)) (by decide +kernel)) (Nat.le_of_ble_eq_true rfl) (Nat.le_of_ble_eq_true rfl) (Nat.zero_le _) (Nat.zero_le _) dX0_highest_19 ?_
        refine lv_istore_n (lv' := [(1, .int (if x1 < (F 1 i) then (F 1 i) else x1)), (2, .int (nI i)), (0, .ref h)]) hx hb dX0_highest_22 rfl hl (by decide) rfl (fun ls hl => ?_)
        refine lv_iinc (v := nI (i + 1)) (lv' := [(2, .int (nI (i + 1))), (1, .int (if x1 < (F 1 i) then (F 1 i) else x1)), (0, .ref h)]) hx hb dX0_highest_23 hl (k := 1) rfl (nI_add i 1) (by decide) rfl (fun ls hl => ?_)
        refine lv_goto (tgt := 4) hx hb dX0_highest_26 (by decide) ?_
        exact ih_4 (i + 1) (if x1 < (F 1 i) then (F 1 i) else x1) (by omega) (by rw [hx1]; rfl) ls (lv_sub hl [0, 1, 2] rfl)
  exact L_4 n 0 0 (by omega) rfl ls (lv_sub hl [0, 1, 2] rfl)

set_option maxHeartbeats 4000000 in
set_option maxRecDepth 100000 in
theorem c_X0_lowest (l : Launch) (dC : Nat → ClassId) (dI : Nat → Nat → Nat) (cI : ClassId) (h : Nat) (ad : Nat → Nat) (n : Nat) (F : Nat → Nat → Int32) (hn : n ≤ 12) : Met l yX0_lowest wsX0_lowest ({ frames := 1, cells := 0, slots := 0, locals := 13 } : Room) (va_Pc [.ref h] (fun U => PR dC dI cI (wR h ad cI n F) U)) (vp_Si (fun r => r = s_lo n F)) 0 0 (fun _ => False) := by
  refine Met.ofW (cc := cX0_lowest) (maxL := 3) (ret := (some .int)) (by decide) rfl ?_
  intro p e s m args below meth c s₁ B hml hv
  obtain ⟨rfl, hP, hK, hE⟩ := hv
  have hx := B.exec
  have hb := B.bytes
  have hr := B.returns
  have hts := atoms_spec (ws := wsX0_lowest) B.pre
  have hown : s.vm.findClass RX0 = some m.cls := findClass_of_methodNamed B.named
  have hlocks := B.notSynchronized
  have hS : va_S (fun _ => False) s.heap s.heap [] := va_S.rf
  have hinX0 : ∀ w ∈ wsX00, w ∈ wsX0_lowest := by decide +kernel
  have hl := lv_entry ([.ref h]) (n := 3) (Nat.le_of_ble_eq_true rfl)
  rw [lg_entry_eq]
  generalize (lg_sl ([.ref h]) ++ List.replicate (3 - (lg_sl ([.ref h])).length) Slot.unset).toArray = ls at hl ⊢
  have hl : lv_has ls 3 [(0, .ref h)] := hl
  refine lv_aload_n hx hb dX0_lowest_0 rfl (lv_at hl 0 rfl) ?_
  refine va_get (D := (dC, dI)) (ci := 0) (v := .int (nI n)) (C := RX0) (T := TX0) (N := 8) hx hb hts hinX0 hown hK hP 0 rfl rfl 7 (by decide) (hts (.fieldLink RX0 33 "WrestleBook$Roster" "size" "I") (by decide +kernel)) (fun _ h9 => h9) rfl dX0_lowest_1 ?_
  refine lv_if_ne (tgt := 11) hx hb dX0_lowest_4 (by decide) (fun c_4 => ?_) (fun c_4 => ?_)
  · have hn0 : ¬ n = 0 := fun q => c_4 (by rw [q]; rfl)
    obtain ⟨z0, hz0⟩ : ∃ z : Int32, z = 3000 := ⟨_, rfl⟩
    refine lv_sipush (v := 3000) hx hb dX0_lowest_11 (by decide) ?_
    refine lv_istore_n (lv' := [(1, .int 3000), (0, .ref h)]) hx hb dX0_lowest_14 rfl hl (by decide) rfl (fun ls hl => ?_)
    refine lv_iconst (v := 0) hx hb dX0_lowest_15 (by decide) ?_
    refine lv_istore_n (lv' := [(2, .int 0), (1, .int 3000), (0, .ref h)]) hx hb dX0_lowest_16 rfl hl (by decide) rfl (fun ls hl => ?_)
    have L_17 : ∀ (k j : Nat) (x1 : Int32), j + k = n → x1 = s_loU F (if n = 0 then 0 else 3000) j → ∀ (ls : Array Slot), lv_has ls 3 [(2, .int (nI j)), (1, .int x1), (0, .ref h)] → W p l e (headSpec wsX0_lowest ({ frames := 1, cells := 0, slots := 0, locals := 13 } : Room)).room s m ([.ref h] : List Value).toArray below meth c s.heap [] 0 0 (MQ below (vp_Si (fun r => r = s_lo n F)) ([.ref h] : List Value).toArray s 0 0 (fun _ => False)) (F0 m 17 ls []) := by
      intro k
      induction k with
      | zero =>
        intro j x1 e_j hx1 ls hl
        refine lv_iload_n hx hb dX0_lowest_17 rfl (lv_at hl 0 rfl) ?_
        refine lv_aload_n hx hb dX0_lowest_18 rfl (lv_at hl 2 rfl) ?_
        refine va_get (D := (dC, dI)) (ci := 0) (v := .int (nI n)) (C := RX0) (T := TX0) (N := 8) hx hb hts hinX0 hown hK hP 0 rfl rfl 7 (by decide) (hts (.fieldLink RX0 33 "WrestleBook$Roster" "size" "I") (by decide +kernel)) (fun _ h9 => h9) rfl dX0_lowest_19 ?_
        refine rv_icmp_ge (tgt := 42) hx hb (a := j) (b := n) (by omega) (by omega) dX0_lowest_22 (by decide) (fun c_22 => ?_) (fun c_22 => ?_)
        · refine lv_iload_n hx hb dX0_lowest_42 rfl (lv_at hl 1 rfl) ?_
          exact W.iret (v := x1) hx hb hr (fun t ht hW => ⟨_, rfl, (show x1 = s_lo n F from by rw [hx1, show j = n by omega]; rfl), ht⟩) hS.2.2 dX0_lowest_43
        · exact absurd c_22 (by omega)
      | succ k ih_17 =>
        intro j x1 e_j hx1 ls hl
        refine lv_iload_n hx hb dX0_lowest_17 rfl (lv_at hl 0 rfl) ?_
        refine lv_aload_n hx hb dX0_lowest_18 rfl (lv_at hl 2 rfl) ?_
        refine va_get (D := (dC, dI)) (ci := 0) (v := .int (nI n)) (C := RX0) (T := TX0) (N := 8) hx hb hts hinX0 hown hK hP 0 rfl rfl 7 (by decide) (hts (.fieldLink RX0 33 "WrestleBook$Roster" "size" "I") (by decide +kernel)) (fun _ h9 => h9) rfl dX0_lowest_19 ?_
        refine rv_icmp_ge (tgt := 42) hx hb (a := j) (b := n) (by omega) (by omega) dX0_lowest_22 (by decide) (fun c_22 => ?_) (fun c_22 => ?_)
        · exact absurd c_22 (by omega)
        · refine lv_iload_n hx hb dX0_lowest_25 rfl (lv_at hl 1 rfl) ?_
          refine lv_aload_n hx hb dX0_lowest_26 rfl (lv_at hl 2 rfl) ?_
          refine va_get (D := (dC, dI)) (ci := 0) (v := .ref (ad 1)) (C := RX0) (T := TX0) (N := 8) hx hb hts hinX0 hown hK hP 0 rfl rfl 1 (by decide) (hts (.fieldLink RX0 15 "WrestleBook$Roster" "ratings" "[I") (by decide +kernel)) (fun _ h9 => h9) rfl dX0_lowest_27 ?_
          refine lv_iload_n hx hb dX0_lowest_30 rfl (lv_at hl 0 rfl) ?_
          refine rv_iald (k := j) hx hb hK hP 2 0 rfl rfl (show j < 12 by omega) (by decide) dX0_lowest_31 ?_
          refine va_mmin hx hb (hml.trans hl.1.symm) hown (hts (.methodLink RX0 47 Lib.Math.min.name) (by decide +kernel)) (hts (.static Lib.Math.min.name) (by decide +kernel)) (hts (.initialized "java/lang/Math") (by decide +kernel)) (hts (.code Lib.Math.min.name Lib.Math.min.code 2 (some .int)) (by decide +kernel)) (Nat.le_of_ble_eq_true rfl) (Nat.le_of_ble_eq_true rfl) (Nat.zero_le _) (Nat.zero_le _) dX0_lowest_32 ?_
          refine lv_istore_n (lv' := [(1, .int (if (F 1 j) < x1 then (F 1 j) else x1)), (2, .int (nI j)), (0, .ref h)]) hx hb dX0_lowest_35 rfl hl (by decide) rfl (fun ls hl => ?_)
          refine lv_iinc (v := nI (j + 1)) (lv' := [(2, .int (nI (j + 1))), (1, .int (if (F 1 j) < x1 then (F 1 j) else x1)), (0, .ref h)]) hx hb dX0_lowest_36 hl (k := 1) rfl (nI_add j 1) (by decide) rfl (fun ls hl => ?_)
          refine lv_goto (tgt := 17) hx hb dX0_lowest_39 (by decide) ?_
          exact ih_17 (j + 1) (if (F 1 j) < x1 then (F 1 j) else x1) (by omega) (by rw [hx1]; rfl) ls (lv_sub hl [0, 1, 2] rfl)
    exact L_17 n 0 3000 (by omega) (by rw [s_loU, fo_0]; simp [hn0]) ls (lv_sub hl [0, 1, 2] rfl)
  · have hn0 : n = 0 := (nI_eq (by omega) (by decide)).mp c_4
    refine lv_iconst (v := 0) hx hb dX0_lowest_7 (by decide) ?_
    refine lv_goto (tgt := 14) hx hb dX0_lowest_8 (by decide) ?_
    refine lv_istore_n (lv' := [(1, .int 0), (0, .ref h)]) hx hb dX0_lowest_14 rfl hl (by decide) rfl (fun ls hl => ?_)
    refine lv_iconst (v := 0) hx hb dX0_lowest_15 (by decide) ?_
    refine lv_istore_n (lv' := [(2, .int 0), (1, .int 0), (0, .ref h)]) hx hb dX0_lowest_16 rfl hl (by decide) rfl (fun ls hl => ?_)
    have L_17 : ∀ (k j : Nat) (x1 : Int32), j + k = n → x1 = s_loU F (if n = 0 then 0 else 3000) j → ∀ (ls : Array Slot), lv_has ls 3 [(2, .int (nI j)), (1, .int x1), (0, .ref h)] → W p l e (headSpec wsX0_lowest ({ frames := 1, cells := 0, slots := 0, locals := 13 } : Room)).room s m ([.ref h] : List Value).toArray below meth c s.heap [] 0 0 (MQ below (vp_Si (fun r => r = s_lo n F)) ([.ref h] : List Value).toArray s 0 0 (fun _ => False)) (F0 m 17 ls []) := by
      intro k
      induction k with
      | zero =>
        intro j x1 e_j hx1 ls hl
        refine lv_iload_n hx hb dX0_lowest_17 rfl (lv_at hl 0 rfl) ?_
        refine lv_aload_n hx hb dX0_lowest_18 rfl (lv_at hl 2 rfl) ?_
        refine va_get (D := (dC, dI)) (ci := 0) (v := .int (nI n)) (C := RX0) (T := TX0) (N := 8) hx hb hts hinX0 hown hK hP 0 rfl rfl 7 (by decide) (hts (.fieldLink RX0 33 "WrestleBook$Roster" "size" "I") (by decide +kernel)) (fun _ h9 => h9) rfl dX0_lowest_19 ?_
        refine rv_icmp_ge (tgt := 42) hx hb (a := j) (b := n) (by omega) (by omega) dX0_lowest_22 (by decide) (fun c_22 => ?_) (fun c_22 => ?_)
        · refine lv_iload_n hx hb dX0_lowest_42 rfl (lv_at hl 1 rfl) ?_
          exact W.iret (v := x1) hx hb hr (fun t ht hW => ⟨_, rfl, (show x1 = s_lo n F from by rw [hx1, show j = n by omega]; rfl), ht⟩) hS.2.2 dX0_lowest_43
        · exact absurd c_22 (by omega)
      | succ k ih_17 =>
        intro j x1 e_j hx1 ls hl
        refine lv_iload_n hx hb dX0_lowest_17 rfl (lv_at hl 0 rfl) ?_
        refine lv_aload_n hx hb dX0_lowest_18 rfl (lv_at hl 2 rfl) ?_
        refine va_get (D := (dC, dI)) (ci := 0) (v := .int (nI n)) (C := RX0) (T := TX0) (N := 8) hx hb hts hinX0 hown hK hP 0 rfl rfl 7 (by decide) (hts (.fieldLink RX0 33 "WrestleBook$Roster" "size" "I") (by decide +kernel)) (fun _ h9 => h9) rfl dX0_lowest_19 ?_
        refine rv_icmp_ge (tgt := 42) hx hb (a := j) (b := n) (by omega) (by omega) dX0_lowest_22 (by decide) (fun c_22 => ?_) (fun c_22 => ?_)
        · exact absurd c_22 (by omega)
        · refine lv_iload_n hx hb dX0_lowest_25 rfl (lv_at hl 1 rfl) ?_
          refine lv_aload_n hx hb dX0_lowest_26 rfl (lv_at hl 2 rfl) ?_
          refine va_get (D := (dC, dI)) (ci := 0) (v := .ref (ad 1)) (C := RX0) (T := TX0) (N := 8) hx hb hts hinX0 hown hK hP 0 rfl rfl 1 (by decide) (hts (.fieldLink RX0 15 "WrestleBook$Roster" "ratings" "[I") (by decide +kernel)) (fun _ h9 => h9) rfl dX0_lowest_27 ?_
          refine lv_iload_n hx hb dX0_lowest_30 rfl (lv_at hl 0 rfl) ?_
          refine rv_iald (k := j) hx hb hK hP 2 0 rfl rfl (show j < 12 by omega) (by decide) dX0_lowest_31 ?_
          refine va_mmin hx hb (hml.trans hl.1.symm) hown (hts (.methodLink RX0 47 Lib.Math.min.name) (by decide +kernel)) (hts (.static Lib.Math.min.name) (by decide +kernel)) (hts (.initialized "java/lang/Math") (by decide +kernel)) (hts (.code Lib.Math.min.name Lib.Math.min.code 2 (some .int)) (by decide +kernel)) (Nat.le_of_ble_eq_true rfl) (Nat.le_of_ble_eq_true rfl) (Nat.zero_le _) (Nat.zero_le _) dX0_lowest_32 ?_
          refine lv_istore_n (lv' := [(1, .int (if (F 1 j) < x1 then (F 1 j) else x1)), (2, .int (nI j)), (0, .ref h)]) hx hb dX0_lowest_35 rfl hl (by decide) rfl (fun ls hl => ?_)
          refine lv_iinc (v := nI (j + 1)) (lv' := [(2, .int (nI (j + 1))), (1, .int (if (F 1 j) < x1 then (F 1 j) else x1)), (0, .ref h)]) hx hb dX0_lowest_36 hl (k := 1) rfl (nI_add j 1) (by decide) rfl (fun ls hl => ?_)
          refine lv_goto (tgt := 17) hx hb dX0_lowest_39 (by decide) ?_
          exact ih_17 (j + 1) (if (F 1 j) < x1 then (F 1 j) else x1) (by omega) (by rw [hx1]; rfl) ls (lv_sub hl [0, 1, 2] rfl)
    exact L_17 n 0 0 (by omega) (by rw [s_loU, fo_0]; simp [hn0]) ls (lv_sub hl [0, 1, 2] rfl)

set_option maxHeartbeats 4000000 in
set_option maxRecDepth 100000 in
theorem c_X0_sumOfRatings (l : Launch) (dC : Nat → ClassId) (dI : Nat → Nat → Nat) (cI : ClassId) (h : Nat) (ad : Nat → Nat) (n : Nat) (F : Nat → Nat → Int32) (hn : n ≤ 12) : Met l yX0_sumOfRatings wsX0_sumOfRatings ({ frames := 0, cells := 0, slots := 0, locals := 0 } : Room) (va_Pc [.ref h] (fun U => PR dC dI cI (wR h ad cI n F) U)) (vp_Si (fun r => r = s_sum n F)) 0 0 (fun _ => False) := by
  refine Met.ofW (cc := cX0_sumOfRatings) (maxL := 3) (ret := (some .int)) (by decide) rfl ?_
  intro p e s m args below meth c s₁ B hml hv
  obtain ⟨rfl, hP, hK, hE⟩ := hv
  have hx := B.exec
  have hb := B.bytes
  have hr := B.returns
  have hts := atoms_spec (ws := wsX0_sumOfRatings) B.pre
  have hown : s.vm.findClass RX0 = some m.cls := findClass_of_methodNamed B.named
  have hlocks := B.notSynchronized
  have hS : va_S (fun _ => False) s.heap s.heap [] := va_S.rf
  have hinX0 : ∀ w ∈ wsX00, w ∈ wsX0_sumOfRatings := by decide +kernel
  have hl := lv_entry ([.ref h]) (n := 3) (Nat.le_of_ble_eq_true rfl)
  rw [lg_entry_eq]
  generalize (lg_sl ([.ref h]) ++ List.replicate (3 - (lg_sl ([.ref h])).length) Slot.unset).toArray = ls at hl ⊢
  have hl : lv_has ls 3 [(0, .ref h)] := hl
  refine lv_iconst (v := 0) hx hb dX0_sumOfRatings_0 (by decide) ?_
  refine lv_istore_n (lv' := [(1, .int 0), (0, .ref h)]) hx hb dX0_sumOfRatings_1 rfl hl (by decide) rfl (fun ls hl => ?_)
  refine lv_iconst (v := 0) hx hb dX0_sumOfRatings_2 (by decide) ?_
  refine lv_istore_n (lv' := [(2, .int 0), (1, .int 0), (0, .ref h)]) hx hb dX0_sumOfRatings_3 rfl hl (by decide) rfl (fun ls hl => ?_)
  have L_4 : ∀ (k i : Nat) (x1 : Int32), i + k = n → x1 = s_sumU F i → ∀ (ls : Array Slot), lv_has ls 3 [(2, .int (nI i)), (1, .int x1), (0, .ref h)] → W p l e (headSpec wsX0_sumOfRatings ({ frames := 0, cells := 0, slots := 0, locals := 0 } : Room)).room s m ([.ref h] : List Value).toArray below meth c s.heap [] 0 0 (MQ below (vp_Si (fun r => r = s_sum n F)) ([.ref h] : List Value).toArray s 0 0 (fun _ => False)) (F0 m 4 ls []) := by
    intro k
    induction k with
    | zero =>
      intro i x1 e_i hx1 ls hl
      refine lv_iload_n hx hb dX0_sumOfRatings_4 rfl (lv_at hl 0 rfl) ?_
      refine lv_aload_n hx hb dX0_sumOfRatings_5 rfl (lv_at hl 2 rfl) ?_
      refine va_get (D := (dC, dI)) (ci := 0) (v := .int (nI n)) (C := RX0) (T := TX0) (N := 8) hx hb hts hinX0 hown hK hP 0 rfl rfl 7 (by decide) (hts (.fieldLink RX0 33 "WrestleBook$Roster" "size" "I") (by decide +kernel)) (fun _ h9 => h9) rfl dX0_sumOfRatings_6 ?_
      refine rv_icmp_ge (tgt := 27) hx hb (a := i) (b := n) (by omega) (by omega) dX0_sumOfRatings_9 (by decide) (fun c_9 => ?_) (fun c_9 => ?_)
      · refine lv_iload_n hx hb dX0_sumOfRatings_27 rfl (lv_at hl 1 rfl) ?_
        exact W.iret (v := x1) hx hb hr (fun t ht hW => ⟨_, rfl, (show x1 = s_sum n F from by rw [hx1, show i = n by omega]; rfl), ht⟩) hS.2.2 dX0_sumOfRatings_28
      · exact absurd c_9 (by omega)
    | succ k ih_4 =>
      intro i x1 e_i hx1 ls hl
      refine lv_iload_n hx hb dX0_sumOfRatings_4 rfl (lv_at hl 0 rfl) ?_
      refine lv_aload_n hx hb dX0_sumOfRatings_5 rfl (lv_at hl 2 rfl) ?_
      refine va_get (D := (dC, dI)) (ci := 0) (v := .int (nI n)) (C := RX0) (T := TX0) (N := 8) hx hb hts hinX0 hown hK hP 0 rfl rfl 7 (by decide) (hts (.fieldLink RX0 33 "WrestleBook$Roster" "size" "I") (by decide +kernel)) (fun _ h9 => h9) rfl dX0_sumOfRatings_6 ?_
      refine rv_icmp_ge (tgt := 27) hx hb (a := i) (b := n) (by omega) (by omega) dX0_sumOfRatings_9 (by decide) (fun c_9 => ?_) (fun c_9 => ?_)
      · exact absurd c_9 (by omega)
      · refine lv_iload_n hx hb dX0_sumOfRatings_12 rfl (lv_at hl 1 rfl) ?_
        refine lv_aload_n hx hb dX0_sumOfRatings_13 rfl (lv_at hl 2 rfl) ?_
        refine va_get (D := (dC, dI)) (ci := 0) (v := .ref (ad 1)) (C := RX0) (T := TX0) (N := 8) hx hb hts hinX0 hown hK hP 0 rfl rfl 1 (by decide) (hts (.fieldLink RX0 15 "WrestleBook$Roster" "ratings" "[I") (by decide +kernel)) (fun _ h9 => h9) rfl dX0_sumOfRatings_14 ?_
        refine lv_iload_n hx hb dX0_sumOfRatings_17 rfl (lv_at hl 0 rfl) ?_
        refine rv_iald (k := i) hx hb hK hP 2 0 rfl rfl (show i < 12 by omega) (by decide) dX0_sumOfRatings_18 ?_
        refine lv_iadd hx hb dX0_sumOfRatings_19 ?_
        refine lv_istore_n (lv' := [(1, .int (x1 + (F 1 i))), (2, .int (nI i)), (0, .ref h)]) hx hb dX0_sumOfRatings_20 rfl hl (by decide) rfl (fun ls hl => ?_)
        refine lv_iinc (v := nI (i + 1)) (lv' := [(2, .int (nI (i + 1))), (1, .int (x1 + (F 1 i))), (0, .ref h)]) hx hb dX0_sumOfRatings_21 hl (k := 1) rfl (nI_add i 1) (by decide) rfl (fun ls hl => ?_)
        refine lv_goto (tgt := 4) hx hb dX0_sumOfRatings_24 (by decide) ?_
        exact ih_4 (i + 1) (x1 + (F 1 i)) (by omega) (by rw [hx1]; rfl) ls (lv_sub hl [0, 1, 2] rfl)
  exact L_4 n 0 0 (by omega) rfl ls (lv_sub hl [0, 1, 2] rfl)

set_option maxHeartbeats 4000000 in
set_option maxRecDepth 100000 in
theorem c_X0_expectedOfHigher (l : Launch) (dC : Nat → ClassId) (dI : Nat → Nat → Nat) (cI : ClassId)  (d : Nat) (hd : d ≤ 2900) : Met l yX0_expectedOfHigher wsX0_expectedOfHigher ({ frames := 1, cells := 0, slots := 0, locals := 13 } : Room) (va_Pc [.int (nI d)] (fun U => PR dC dI cI ([]) U)) (vp_Si (fun r => r = s_eoh d)) 0 0 (fun _ => False) := by
  refine Met.ofW (cc := cX0_expectedOfHigher) (maxL := 4) (ret := (some .int)) (by decide) rfl ?_
  intro p e s m args below meth c s₁ B hml hv
  obtain ⟨rfl, hP, hK, hE⟩ := hv
  have hx := B.exec
  have hb := B.bytes
  have hr := B.returns
  have hts := atoms_spec (ws := wsX0_expectedOfHigher) B.pre
  have hown : s.vm.findClass RX0 = some m.cls := findClass_of_methodNamed B.named
  have hlocks := B.notSynchronized
  have hS : va_S (fun _ => False) s.heap s.heap [] := va_S.rf
  obtain ⟨⟨tE, hzE, htE⟩, -⟩ := id hE
  have hl := lv_entry ([.int (nI d)]) (n := 4) (Nat.le_of_ble_eq_true rfl)
  rw [lg_entry_eq]
  generalize (lg_sl ([.int (nI d)]) ++ List.replicate (4 - (lg_sl ([.int (nI d)])).length) Slot.unset).toArray = ls at hl ⊢
  have hl : lv_has ls 4 [(0, .int (nI d))] := hl
  have hm : mD d ≤ 800 := mD_le d
  refine lv_iload_n hx hb dX0_expectedOfHigher_0 rfl (lv_at hl 0 rfl) ?_
  refine lv_sipush (v := 800) hx hb dX0_expectedOfHigher_1 (by decide) ?_
  refine va_mmin hx hb (hml.trans hl.1.symm) hown (hts (.methodLink RX0 47 Lib.Math.min.name) (by decide +kernel)) (hts (.static Lib.Math.min.name) (by decide +kernel)) (hts (.initialized "java/lang/Math") (by decide +kernel)) (hts (.code Lib.Math.min.name Lib.Math.min.code 2 (some .int)) (by decide +kernel)) (Nat.le_of_ble_eq_true rfl) (Nat.le_of_ble_eq_true rfl) (Nat.zero_le _) (Nat.zero_le _) dX0_expectedOfHigher_4 ?_
  refine rv_top (y := nI (mD d)) (mD_min hd) ?_
  refine lv_istore_n (lv' := [(1, .int (nI (mD d))), (0, .int (nI d))]) hx hb dX0_expectedOfHigher_7 rfl hl (by decide) rfl (fun ls hl => ?_)
  refine lv_iload_n hx hb dX0_expectedOfHigher_8 rfl (lv_at hl 0 rfl) ?_
  refine lv_bipush (v := 100) hx hb dX0_expectedOfHigher_9 (by decide) ?_
  refine lv_idiv hx hb dX0_expectedOfHigher_11 (by decide) ?_
  refine rv_top (y := nI (mD d / 100)) (pk_div (d := 100) (by omega) (by decide) (by decide)) ?_
  refine lv_istore_n (lv' := [(2, .int (nI (mD d / 100))), (1, .int (nI (mD d))), (0, .int (nI d))]) hx hb dX0_expectedOfHigher_12 rfl hl (by decide) rfl (fun ls hl => ?_)
  refine lv_iload_n hx hb dX0_expectedOfHigher_13 rfl (lv_at hl 1 rfl) ?_
  refine lv_sipush (v := 800) hx hb dX0_expectedOfHigher_14 (by decide) ?_
  refine rv_icmp_ne (tgt := 26) hx hb (a := (mD d)) (b := 800) (by omega) (by omega) dX0_expectedOfHigher_17 (by decide) (fun c_17 => ?_) (fun c_17 => ?_)
  · refine va_gets hx hb hzE hS hown (hts (.fieldLink RX0 50 "WrestleBook$Roster" "EXPECTED" "[I") (by decide +kernel)) (fun _ h9 => h9) dX0_expectedOfHigher_26 ?_
    refine lv_iload_n hx hb dX0_expectedOfHigher_29 rfl (lv_at hl 0 rfl) ?_
    refine lv_iconst (v := 1) hx hb dX0_expectedOfHigher_30 (by decide) ?_
    refine lv_iadd hx hb dX0_expectedOfHigher_31 ?_
    refine rv_top (y := nI (mD d / 100 + 1)) (nI_1 _) ?_
    refine rv_ti (k := (mD d / 100 + 1)) hx hb htE hS (show mD d / 100 + 1 < 9 by omega) n9 dX0_expectedOfHigher_32 ?_
    refine va_gets hx hb hzE hS hown (hts (.fieldLink RX0 50 "WrestleBook$Roster" "EXPECTED" "[I") (by decide +kernel)) (fun _ h9 => h9) dX0_expectedOfHigher_33 ?_
    refine lv_iload_n hx hb dX0_expectedOfHigher_36 rfl (lv_at hl 0 rfl) ?_
    refine rv_ti (k := (mD d / 100)) hx hb htE hS (show mD d / 100 < 9 by omega) n9 dX0_expectedOfHigher_37 ?_
    refine lv_isub hx hb dX0_expectedOfHigher_38 ?_
    refine lv_istore_n (lv' := [(3, .int ((tb (mD d / 100 + 1)) - (tb (mD d / 100)))), (2, .int (nI (mD d / 100))), (1, .int (nI (mD d))), (0, .int (nI d))]) hx hb dX0_expectedOfHigher_39 rfl hl (by decide) rfl (fun ls hl => ?_)
    refine va_gets hx hb hzE hS hown (hts (.fieldLink RX0 50 "WrestleBook$Roster" "EXPECTED" "[I") (by decide +kernel)) (fun _ h9 => h9) dX0_expectedOfHigher_40 ?_
    refine lv_iload_n hx hb dX0_expectedOfHigher_43 rfl (lv_at hl 1 rfl) ?_
    refine rv_ti (k := (mD d / 100)) hx hb htE hS (show mD d / 100 < 9 by omega) n9 dX0_expectedOfHigher_44 ?_
    refine lv_iload_n hx hb dX0_expectedOfHigher_45 rfl (lv_at hl 0 rfl) ?_
    refine lv_iload_n hx hb dX0_expectedOfHigher_46 rfl (lv_at hl 2 rfl) ?_
    refine lv_bipush (v := 100) hx hb dX0_expectedOfHigher_47 (by decide) ?_
    refine lv_irem hx hb dX0_expectedOfHigher_49 (by decide) ?_
    refine rv_top (y := nI (mD d % 100)) (pk_rem (d := 100) (by omega) (by decide) (by decide)) ?_
    refine lv_imul hx hb dX0_expectedOfHigher_50 ?_
    refine lv_bipush (v := 100) hx hb dX0_expectedOfHigher_51 (by decide) ?_
    refine lv_idiv hx hb dX0_expectedOfHigher_53 (by decide) ?_
    refine lv_iadd hx hb dX0_expectedOfHigher_54 ?_
    exact W.iret (v := (tb (mD d / 100)) + ((((tb (mD d / 100 + 1)) - (tb (mD d / 100))) * (nI (mD d % 100))) / 100)) hx hb hr (fun t ht hW => ⟨_, rfl, (show (tb (mD d / 100)) + ((((tb (mD d / 100 + 1)) - (tb (mD d / 100))) * (nI (mD d % 100))) / 100) = s_eoh d from by simp [s_eoh, exN, c_17]), ht⟩) hS.2.2 dX0_expectedOfHigher_55
  · refine va_gets hx hb hzE hS hown (hts (.fieldLink RX0 50 "WrestleBook$Roster" "EXPECTED" "[I") (by decide +kernel)) (fun _ h9 => h9) dX0_expectedOfHigher_20 ?_
    refine lv_iload_n hx hb dX0_expectedOfHigher_23 rfl (lv_at hl 0 rfl) ?_
    refine rv_ti (k := (mD d / 100)) hx hb htE hS (show mD d / 100 < 9 by omega) n9 dX0_expectedOfHigher_24 ?_
    exact W.iret (v := tb (mD d / 100)) hx hb hr (fun t ht hW => ⟨_, rfl, (show tb (mD d / 100) = s_eoh d from by simp [s_eoh, exN, c_17]), ht⟩) hS.2.2 dX0_expectedOfHigher_25

set_option maxHeartbeats 4000000 in
set_option maxRecDepth 100000 in
theorem c_X0_expectation (l : Launch) (dC : Nat → ClassId) (dI : Nat → Nat → Nat) (cI : ClassId) (h : Nat) (ad : Nat → Nat) (n : Nat) (F : Nat → Nat → Int32) (a : Nat) (i_a : a < n) (b : Nat) (i_b : b < n) (hn : n ≤ 12) (hR : okR n F) : Met l yX0_expectation wsX0_expectation ({ frames := 2, cells := 0, slots := 0, locals := 36 } : Room) (va_Pc [.ref h, .int (nI a), .int (nI b)] (fun U => PR dC dI cI (wR h ad cI n F) U)) (vp_Si (fun r => r = s_exp F a b)) 0 0 (fun _ => False) := by
  refine Met.ofW (cc := cX0_expectation) (maxL := 3) (ret := (some .int)) (by decide) rfl ?_
  intro p e s m args below meth c s₁ B hml hv
  obtain ⟨rfl, hP, hK, hE⟩ := hv
  have hx := B.exec
  have hb := B.bytes
  have hr := B.returns
  have hts := atoms_spec (ws := wsX0_expectation) B.pre
  have hown : s.vm.findClass RX0 = some m.cls := findClass_of_methodNamed B.named
  have hlocks := B.notSynchronized
  have hS : va_S (fun _ => False) s.heap s.heap [] := va_S.rf
  have hinX0 : ∀ w ∈ wsX00, w ∈ wsX0_expectation := by decide +kernel
  have hl := lv_entry ([.ref h, .int (nI a), .int (nI b)]) (n := 3) (Nat.le_of_ble_eq_true rfl)
  rw [lg_entry_eq]
  generalize (lg_sl ([.ref h, .int (nI a), .int (nI b)]) ++ List.replicate (3 - (lg_sl ([.ref h, .int (nI a), .int (nI b)])).length) Slot.unset).toArray = ls at hl ⊢
  have hl : lv_has ls 3 [(0, .ref h), (1, .int (nI a)), (2, .int (nI b))] := hl
  refine lv_aload_n hx hb dX0_expectation_0 rfl (lv_at hl 0 rfl) ?_
  refine va_get (D := (dC, dI)) (ci := 0) (v := .ref (ad 1)) (C := RX0) (T := TX0) (N := 8) hx hb hts hinX0 hown hK hP 0 rfl rfl 1 (by decide) (hts (.fieldLink RX0 15 "WrestleBook$Roster" "ratings" "[I") (by decide +kernel)) (fun _ h9 => h9) rfl dX0_expectation_1 ?_
  refine lv_iload_n hx hb dX0_expectation_4 rfl (lv_at hl 1 rfl) ?_
  refine rv_iald (k := a) hx hb hK hP 2 0 rfl rfl (show a < 12 by omega) (by decide) dX0_expectation_5 ?_
  refine lv_aload_n hx hb dX0_expectation_6 rfl (lv_at hl 0 rfl) ?_
  refine va_get (D := (dC, dI)) (ci := 0) (v := .ref (ad 1)) (C := RX0) (T := TX0) (N := 8) hx hb hts hinX0 hown hK hP 0 rfl rfl 1 (by decide) (hts (.fieldLink RX0 15 "WrestleBook$Roster" "ratings" "[I") (by decide +kernel)) (fun _ h9 => h9) rfl dX0_expectation_7 ?_
  refine lv_iload_n hx hb dX0_expectation_10 rfl (lv_at hl 2 rfl) ?_
  refine rv_iald (k := b) hx hb hK hP 2 0 rfl rfl (show b < 12 by omega) (by decide) dX0_expectation_11 ?_
  refine lv_icmp_ge (tgt := 36) hx hb dX0_expectation_12 (by decide) (fun c_12 => ?_) (fun c_12 => ?_)
  · refine lv_aload_n hx hb dX0_expectation_36 rfl (lv_at hl 0 rfl) ?_
    refine va_get (D := (dC, dI)) (ci := 0) (v := .ref (ad 1)) (C := RX0) (T := TX0) (N := 8) hx hb hts hinX0 hown hK hP 0 rfl rfl 1 (by decide) (hts (.fieldLink RX0 15 "WrestleBook$Roster" "ratings" "[I") (by decide +kernel)) (fun _ h9 => h9) rfl dX0_expectation_37 ?_
    refine lv_iload_n hx hb dX0_expectation_40 rfl (lv_at hl 1 rfl) ?_
    refine rv_iald (k := a) hx hb hK hP 2 0 rfl rfl (show a < 12 by omega) (by decide) dX0_expectation_41 ?_
    refine lv_aload_n hx hb dX0_expectation_42 rfl (lv_at hl 0 rfl) ?_
    refine va_get (D := (dC, dI)) (ci := 0) (v := .ref (ad 1)) (C := RX0) (T := TX0) (N := 8) hx hb hts hinX0 hown hK hP 0 rfl rfl 1 (by decide) (hts (.fieldLink RX0 15 "WrestleBook$Roster" "ratings" "[I") (by decide +kernel)) (fun _ h9 => h9) rfl dX0_expectation_43 ?_
    refine lv_iload_n hx hb dX0_expectation_46 rfl (lv_at hl 2 rfl) ?_
    refine rv_iald (k := b) hx hb hK hP 2 0 rfl rfl (show b < 12 by omega) (by decide) dX0_expectation_47 ?_
    refine lv_isub hx hb dX0_expectation_48 ?_
    refine rv_top (y := nI (dN (F 1 a) (F 1 b))) (hR.le i_a i_b c_12).2 ?_
    refine vp_callSi (W.runS (As := [.int (nI (dN (F 1 a) (F 1 b)))]) (rest := []) ⟨hx, hb, hml, hown, hts⟩ (c_X0_expectedOfHigher l dC dI cI (dN (F 1 a) (F 1 b)) ((hR.le i_a i_b c_12).1)) (va_cwS 1 hts gX0_expectation_X0_expectedOfHigher rfl rfl rfl (by decide +kernel) ⟨Nat.le_of_ble_eq_true rfl, Nat.le_of_ble_eq_true rfl⟩) ⟨PR.blind, fun U hU hW => ⟨rfl, PR.go (vaP_nil) hK hE hS hU hW⟩⟩ rfl rfl hl.1 rfl (lv_room (Nat.le_of_ble_eq_true rfl)) dX0_expectation_49 ⟨Nat.le_of_ble_eq_true rfl, Nat.le_of_ble_eq_true rfl⟩) (fun r hr0 => ?_)
    subst hr0
    exact W.iret (v := s_eoh (dN (F 1 a) (F 1 b))) hx hb hr (fun t ht hW => ⟨_, rfl, (show s_eoh (dN (F 1 a) (F 1 b)) = s_exp F a b from by simp [s_exp, c_12]), ht⟩) hS.2.2 dX0_expectation_52
  · refine lv_sipush (v := 1000) hx hb dX0_expectation_15 (by decide) ?_
    refine lv_aload_n hx hb dX0_expectation_18 rfl (lv_at hl 0 rfl) ?_
    refine va_get (D := (dC, dI)) (ci := 0) (v := .ref (ad 1)) (C := RX0) (T := TX0) (N := 8) hx hb hts hinX0 hown hK hP 0 rfl rfl 1 (by decide) (hts (.fieldLink RX0 15 "WrestleBook$Roster" "ratings" "[I") (by decide +kernel)) (fun _ h9 => h9) rfl dX0_expectation_19 ?_
    refine lv_iload_n hx hb dX0_expectation_22 rfl (lv_at hl 2 rfl) ?_
    refine rv_iald (k := b) hx hb hK hP 2 0 rfl rfl (show b < 12 by omega) (by decide) dX0_expectation_23 ?_
    refine lv_aload_n hx hb dX0_expectation_24 rfl (lv_at hl 0 rfl) ?_
    refine va_get (D := (dC, dI)) (ci := 0) (v := .ref (ad 1)) (C := RX0) (T := TX0) (N := 8) hx hb hts hinX0 hown hK hP 0 rfl rfl 1 (by decide) (hts (.fieldLink RX0 15 "WrestleBook$Roster" "ratings" "[I") (by decide +kernel)) (fun _ h9 => h9) rfl dX0_expectation_25 ?_
    refine lv_iload_n hx hb dX0_expectation_28 rfl (lv_at hl 1 rfl) ?_
    refine rv_iald (k := a) hx hb hK hP 2 0 rfl rfl (show a < 12 by omega) (by decide) dX0_expectation_29 ?_
    refine lv_isub hx hb dX0_expectation_30 ?_
    refine rv_top (y := nI (dN (F 1 b) (F 1 a))) (hR.le i_b i_a (i32_le_of_not c_12)).2 ?_
    refine vp_callSi (W.runS (As := [.int (nI (dN (F 1 b) (F 1 a)))]) (rest := [.int 1000]) ⟨hx, hb, hml, hown, hts⟩ (c_X0_expectedOfHigher l dC dI cI (dN (F 1 b) (F 1 a)) ((hR.le i_b i_a (i32_le_of_not c_12)).1)) (va_cwS 1 hts gX0_expectation_X0_expectedOfHigher rfl rfl rfl (by decide +kernel) ⟨Nat.le_of_ble_eq_true rfl, Nat.le_of_ble_eq_true rfl⟩) ⟨PR.blind, fun U hU hW => ⟨rfl, PR.go (vaP_nil) hK hE hS hU hW⟩⟩ rfl rfl hl.1 rfl (lv_room (Nat.le_of_ble_eq_true rfl)) dX0_expectation_31 ⟨Nat.le_of_ble_eq_true rfl, Nat.le_of_ble_eq_true rfl⟩) (fun r hr0 => ?_)
    subst hr0
    refine lv_isub hx hb dX0_expectation_34 ?_
    exact W.iret (v := 1000 - (s_eoh (dN (F 1 b) (F 1 a)))) hx hb hr (fun t ht hW => ⟨_, rfl, (show 1000 - (s_eoh (dN (F 1 b) (F 1 a))) = s_exp F a b from by simp [s_exp, c_12]), ht⟩) hS.2.2 dX0_expectation_35
end
section
/-! Roster, readers, second half -/
def s_up (F : Nat → Nat → Int32) (a b : Nat) (r : Int32) : Bool := if r = 2 then (if s_exp F a b < 400 then true else false) else if r = 0 then (if s_exp F b a < 400 then true else false) else false
def s_matchU (F : Nat → Nat → Int32) (w m : Nat) : Option Nat := fo (fun k a => if k = w then a else if F 0 k = F 0 w then (match a with | none => some k | some b => if s_off F b w ≤ s_off F k w then some b else some k) else a) none m
def s_match (n : Nat) (F : Nat → Nat → Int32) (w : Nat) : Option Nat := s_matchU F w n
def pairB (F : Nat → Nat → Int32) (a b : Nat) (T : Int32 × Int32 × Int32) : Int32 × Int32 × Int32 := if F 0 a = F 0 b then (if T.1 = -1 ∨ F 4 a + F 4 b < T.2.1 ∨ (F 4 a + F 4 b = T.2.1 ∧ ¬ T.2.2 ≤ s_off F a b) then (nI a * 12 + nI b, F 4 a + F 4 b, s_off F a b) else T) else T
def s_pairI (F : Nat → Nat → Int32) (a m : Nat) (T : Int32 × Int32 × Int32) : Int32 × Int32 × Int32 := fo (fun b T => if a < b then pairB F a b T else T) T m
def s_pairU (n : Nat) (F : Nat → Nat → Int32) (m : Nat) : Int32 × Int32 × Int32 := fo (fun a T => s_pairI F a n T) (-1, 0, 0) m
def s_next (n : Nat) (F : Nat → Nat → Int32) : Int32 := (s_pairU n F n).1
theorem pairI_skip {F : Nat → Nat → Int32} {a : Nat} {T : Int32 × Int32 × Int32} : ∀ m, m ≤ a + 1 → s_pairI F a m T = T
  | 0, _ => rfl
  | m + 1, h => by
    show (if a < m then pairB F a m (s_pairI F a m T) else s_pairI F a m T) = T
    rw [if_neg (by omega), pairI_skip m (by omega)]
theorem pairI_s {F : Nat → Nat → Int32} {a b : Nat} {T : Int32 × Int32 × Int32} (h : a < b) : s_pairI F a (b + 1) T = pairB F a b (s_pairI F a b T) := if_pos h
theorem s_matchU_lt {F : Nat → Nat → Int32} {w : Nat} : ∀ (m k : Nat), s_matchU F w m = some k → k < m
  | 0, _, h => by cases h
  | m + 1, k, h => by
    have h' : (if m = w then s_matchU F w m else if F 0 m = F 0 w then (match s_matchU F w m with | none => some m | some b => if s_off F b w ≤ s_off F m w then some b else some m) else s_matchU F w m) = some k := h
    have ih := s_matchU_lt (F := F) (w := w) m k
    by_cases c1 : m = w
    · rw [if_pos c1] at h'; have := ih h'; omega
    · rw [if_neg c1] at h'
      by_cases c2 : F 0 m = F 0 w
      · rw [if_pos c2] at h'
        cases h2 : s_matchU F w m with
        | none => rw [h2] at h'; cases h'; omega
        | some b =>
          rw [h2] at h' ih
          have h3 : (if s_off F b w ≤ s_off F m w then some b else some m) = some k := h'
          by_cases c3 : s_off F b w ≤ s_off F m w
          · rw [if_pos c3] at h3; have := ih h3; omega
          · rw [if_neg c3] at h3; cases h3; omega
      · rw [if_neg c2] at h'; have := ih h'; omega
set_option maxHeartbeats 4000000 in
set_option maxRecDepth 100000 in
theorem c_X0_gain (l : Launch) (dC : Nat → ClassId) (dI : Nat → Nat → Nat) (cI : ClassId) (h : Nat) (ad : Nat → Nat) (n : Nat) (F : Nat → Nat → Int32) (w : Nat) (i_w : w < n) (o : Nat) (i_o : o < n) (vr : Int32) (hn : n ≤ 12) (hR : okR n F) : Met l yX0_gain wsX0_gain ({ frames := 3, cells := 0, slots := 0, locals := 58 } : Room) (va_Pc [.ref h, .int (nI w), .int (nI o), .int vr] (fun U => PR dC dI cI (wR h ad cI n F) U)) (vp_Si (fun r => r = s_gain F w o vr)) 0 0 (fun _ => False) := by
  refine Met.ofW (cc := cX0_gain) (maxL := 7) (ret := (some .int)) (by decide) rfl ?_
  intro p e s m args below meth c s₁ B hml hv
  obtain ⟨rfl, hP, hK, hE⟩ := hv
  have hx := B.exec
  have hb := B.bytes
  have hr := B.returns
  have hts := atoms_spec (ws := wsX0_gain) B.pre
  have hown : s.vm.findClass RX0 = some m.cls := findClass_of_methodNamed B.named
  have hlocks := B.notSynchronized
  have hS : va_S (fun _ => False) s.heap s.heap [] := va_S.rf
  have hinX0 : ∀ w ∈ wsX00, w ∈ wsX0_gain := by decide +kernel
  have hl := lv_entry ([.ref h, .int (nI w), .int (nI o), .int vr]) (n := 7) (Nat.le_of_ble_eq_true rfl)
  rw [lg_entry_eq]
  generalize (lg_sl ([.ref h, .int (nI w), .int (nI o), .int vr]) ++ List.replicate (7 - (lg_sl ([.ref h, .int (nI w), .int (nI o), .int vr])).length) Slot.unset).toArray = ls at hl ⊢
  have hl : lv_has ls 7 [(0, .ref h), (1, .int (nI w)), (2, .int (nI o)), (3, .int vr)] := hl
  refine lv_iload_n hx hb dX0_gain_0 rfl (lv_at hl 3 rfl) ?_
  refine lv_sipush (v := 500) hx hb dX0_gain_1 (by decide) ?_
  refine lv_imul hx hb dX0_gain_4 ?_
  refine lv_istore (lv' := [(4, .int (vr * 500)), (0, .ref h), (1, .int (nI w)), (2, .int (nI o)), (3, .int vr)]) hx hb dX0_gain_5 hl (by decide) rfl (fun ls hl => ?_)
  refine lv_aload_n hx hb dX0_gain_7 rfl (lv_at hl 1 rfl) ?_
  refine va_get (D := (dC, dI)) (ci := 0) (v := .ref (ad 1)) (C := RX0) (T := TX0) (N := 8) hx hb hts hinX0 hown hK hP 0 rfl rfl 1 (by decide) (hts (.fieldLink RX0 15 "WrestleBook$Roster" "ratings" "[I") (by decide +kernel)) (fun _ h9 => h9) rfl dX0_gain_8 ?_
  refine lv_iload_n hx hb dX0_gain_11 rfl (lv_at hl 2 rfl) ?_
  refine rv_iald (k := w) hx hb hK hP 2 0 rfl rfl (show w < 12 by omega) (by decide) dX0_gain_12 ?_
  refine lv_aload_n hx hb dX0_gain_13 rfl (lv_at hl 1 rfl) ?_
  refine lv_iload_n hx hb dX0_gain_14 rfl (lv_at hl 2 rfl) ?_
  refine vp_callSi (W.runV (As := [.int (nI w)]) (rest := [.int (F 1 w)]) ⟨hx, hb, hml, hown, hts⟩ (c_X0_weight l dC dI cI h ad n F w (show w < n by omega) hn) (cwV 1 hts gX0_gain_X0_weight rfl rfl rfl (by decide +kernel) ⟨Nat.le_of_ble_eq_true rfl, Nat.le_of_ble_eq_true rfl⟩) ⟨PR.blind, va_recv hK hP (ci := 0) (q0 := 0) rfl rfl, fun U hU hW => ⟨rfl, PR.go hP hK hE hS hU hW⟩⟩ rfl rfl hl.1 rfl (lv_room (Nat.le_of_ble_eq_true rfl)) dX0_gain_15 ⟨Nat.le_of_ble_eq_true rfl, Nat.le_of_ble_eq_true rfl⟩) (fun r hr0 => ?_)
  subst hr0
  refine lv_iload hx hb dX0_gain_18 (lv_at hl 0 rfl) ?_
  refine lv_aload_n hx hb dX0_gain_20 rfl (lv_at hl 1 rfl) ?_
  refine lv_iload_n hx hb dX0_gain_21 rfl (lv_at hl 2 rfl) ?_
  refine lv_iload_n hx hb dX0_gain_22 rfl (lv_at hl 3 rfl) ?_
  refine vp_callSi (W.runV (As := [.int (nI w), .int (nI o)]) (rest := [.int (vr * 500), .int (s_wt F w), .int (F 1 w)]) ⟨hx, hb, hml, hown, hts⟩ (c_X0_expectation l dC dI cI h ad n F w (show w < n by omega) o (show o < n by omega) hn hR) (cwV 2 hts gX0_gain_X0_expectation rfl rfl rfl (by decide +kernel) ⟨Nat.le_of_ble_eq_true rfl, Nat.le_of_ble_eq_true rfl⟩) ⟨PR.blind, va_recv hK hP (ci := 0) (q0 := 0) rfl rfl, fun U hU hW => ⟨rfl, PR.go hP hK hE hS hU hW⟩⟩ rfl rfl hl.1 rfl (lv_room (Nat.le_of_ble_eq_true rfl)) dX0_gain_23 ⟨Nat.le_of_ble_eq_true rfl, Nat.le_of_ble_eq_true rfl⟩) (fun r hr0 => ?_)
  subst hr0
  refine lv_isub hx hb dX0_gain_26 ?_
  refine lv_imul hx hb dX0_gain_27 ?_
  refine lv_sipush (v := 1000) hx hb dX0_gain_28 (by decide) ?_
  refine lv_idiv hx hb dX0_gain_31 (by decide) ?_
  refine lv_iadd hx hb dX0_gain_32 ?_
  refine lv_istore (lv' := [(5, .int ((F 1 w) + (((s_wt F w) * ((vr * 500) - (s_exp F w o))) / 1000))), (4, .int (vr * 500)), (0, .ref h), (1, .int (nI w)), (2, .int (nI o)), (3, .int vr)]) hx hb dX0_gain_33 hl (by decide) rfl (fun ls hl => ?_)
  refine lv_bipush (v := 100) hx hb dX0_gain_35 (by decide) ?_
  refine lv_sipush (v := 3000) hx hb dX0_gain_37 (by decide) ?_
  refine lv_iload hx hb dX0_gain_40 (lv_at hl 0 rfl) ?_
  refine va_mmin hx hb (hml.trans hl.1.symm) hown (hts (.methodLink RX0 47 Lib.Math.min.name) (by decide +kernel)) (hts (.static Lib.Math.min.name) (by decide +kernel)) (hts (.initialized "java/lang/Math") (by decide +kernel)) (hts (.code Lib.Math.min.name Lib.Math.min.code 2 (some .int)) (by decide +kernel)) (Nat.le_of_ble_eq_true rfl) (Nat.le_of_ble_eq_true rfl) (Nat.zero_le _) (Nat.zero_le _) dX0_gain_42 ?_
  refine rv_top (y := minI 3000 (F 1 w + s_wt F w * (vr * 500 - s_exp F w o) / 1000)) rfl ?_
  refine va_mmax hx hb (hml.trans hl.1.symm) hown (hts (.methodLink RX0 37 Lib.Math.max.name) (by decide +kernel)) (hts (.static Lib.Math.max.name) (by decide +kernel)) (hts (.initialized "java/lang/Math") (by decide +kernel)) (hts (.code Lib.Math.max.name Lib.Math.max.code 2 (some .int)) (by decide +kernel)) (Nat.le_of_ble_eq_true rfl) (Nat.le_of_ble_eq_true rfl) (Nat.zero_le _) (Nat.zero_le _) dX0_gain_45 ?_
  refine rv_top (y := s_then F w o (vr * 500)) rfl ?_
  refine lv_istore (lv' := [(6, .int (s_then F w o (vr * 500))), (5, .int ((F 1 w) + (((s_wt F w) * ((vr * 500) - (s_exp F w o))) / 1000))), (4, .int (vr * 500)), (0, .ref h), (1, .int (nI w)), (2, .int (nI o)), (3, .int vr)]) hx hb dX0_gain_48 hl (by decide) rfl (fun ls hl => ?_)
  refine lv_iload hx hb dX0_gain_50 (lv_at hl 0 rfl) ?_
  refine lv_aload_n hx hb dX0_gain_52 rfl (lv_at hl 3 rfl) ?_
  refine va_get (D := (dC, dI)) (ci := 0) (v := .ref (ad 1)) (C := RX0) (T := TX0) (N := 8) hx hb hts hinX0 hown hK hP 0 rfl rfl 1 (by decide) (hts (.fieldLink RX0 15 "WrestleBook$Roster" "ratings" "[I") (by decide +kernel)) (fun _ h9 => h9) rfl dX0_gain_53 ?_
  refine lv_iload_n hx hb dX0_gain_56 rfl (lv_at hl 4 rfl) ?_
  refine rv_iald (k := w) hx hb hK hP 2 0 rfl rfl (show w < 12 by omega) (by decide) dX0_gain_57 ?_
  refine lv_isub hx hb dX0_gain_58 ?_
  exact W.iret (v := (s_then F w o (vr * 500)) - (F 1 w)) hx hb hr (fun t ht hW => ⟨_, rfl, (show (s_then F w o (vr * 500)) - (F 1 w) = s_gain F w o vr from by rfl), ht⟩) hS.2.2 dX0_gain_59

set_option maxHeartbeats 4000000 in
set_option maxRecDepth 100000 in
theorem c_X0_isUpset (l : Launch) (dC : Nat → ClassId) (dI : Nat → Nat → Nat) (cI : ClassId) (h : Nat) (ad : Nat → Nat) (n : Nat) (F : Nat → Nat → Int32) (a : Nat) (i_a : a < n) (b : Nat) (i_b : b < n) (vr : Int32) (hn : n ≤ 12) (hR : okR n F) : Met l yX0_isUpset wsX0_isUpset ({ frames := 3, cells := 0, slots := 0, locals := 58 } : Room) (va_Pc [.ref h, .int (nI a), .int (nI b), .int vr] (fun U => PR dC dI cI (wR h ad cI n F) U)) (vp_Si (fun r => r = bI (s_up F a b vr))) 0 0 (fun _ => False) := by
  refine Met.ofW (cc := cX0_isUpset) (maxL := 4) (ret := (some .boolean)) (by decide) rfl ?_
  intro p e s m args below meth c s₁ B hml hv
  obtain ⟨rfl, hP, hK, hE⟩ := hv
  have hx := B.exec
  have hb := B.bytes
  have hr := B.returns
  have hts := atoms_spec (ws := wsX0_isUpset) B.pre
  have hown : s.vm.findClass RX0 = some m.cls := findClass_of_methodNamed B.named
  have hlocks := B.notSynchronized
  have hS : va_S (fun _ => False) s.heap s.heap [] := va_S.rf
  have hl := lv_entry ([.ref h, .int (nI a), .int (nI b), .int vr]) (n := 4) (Nat.le_of_ble_eq_true rfl)
  rw [lg_entry_eq]
  generalize (lg_sl ([.ref h, .int (nI a), .int (nI b), .int vr]) ++ List.replicate (4 - (lg_sl ([.ref h, .int (nI a), .int (nI b), .int vr])).length) Slot.unset).toArray = ls at hl ⊢
  have hl : lv_has ls 4 [(0, .ref h), (1, .int (nI a)), (2, .int (nI b)), (3, .int vr)] := hl
  refine lv_iload_n hx hb dX0_isUpset_0 rfl (lv_at hl 3 rfl) ?_
  refine lv_iconst (v := 2) hx hb dX0_isUpset_1 (by decide) ?_
  refine lv_icmp_ne (tgt := 17) hx hb dX0_isUpset_2 (by decide) (fun c_2 => ?_) (fun c_2 => ?_)
  · refine lv_iload_n hx hb dX0_isUpset_17 rfl (lv_at hl 3 rfl) ?_
    refine lv_if_ne (tgt := 37) hx hb dX0_isUpset_18 (by decide) (fun c_18 => ?_) (fun c_18 => ?_)
    · refine lv_iconst (v := 0) hx hb dX0_isUpset_37 (by decide) ?_
      exact W.zret (v := 0) hx hb hr (by decide) (fun t ht hW => ⟨_, rfl, (show 0 = bI (s_up F a b vr) from by first | (simp [s_up, bI, i32_lt_iff, c_2, c_18]; done) | exact absurd (c_2.symm.trans c_18) (by decide)), ht⟩) hS.2.2 dX0_isUpset_38
    · refine lv_aload_n hx hb dX0_isUpset_21 rfl (lv_at hl 0 rfl) ?_
      refine lv_iload_n hx hb dX0_isUpset_22 rfl (lv_at hl 2 rfl) ?_
      refine lv_iload_n hx hb dX0_isUpset_23 rfl (lv_at hl 1 rfl) ?_
      refine vp_callSi (W.runV (As := [.int (nI b), .int (nI a)]) (rest := []) ⟨hx, hb, hml, hown, hts⟩ (c_X0_expectation l dC dI cI h ad n F b (show b < n by omega) a (show a < n by omega) hn hR) (cwV 2 hts gX0_isUpset_X0_expectation rfl rfl rfl (by decide +kernel) ⟨Nat.le_of_ble_eq_true rfl, Nat.le_of_ble_eq_true rfl⟩) ⟨PR.blind, va_recv hK hP (ci := 0) (q0 := 0) rfl rfl, fun U hU hW => ⟨rfl, PR.go hP hK hE hS hU hW⟩⟩ rfl rfl hl.1 rfl (lv_room (Nat.le_of_ble_eq_true rfl)) dX0_isUpset_24 ⟨Nat.le_of_ble_eq_true rfl, Nat.le_of_ble_eq_true rfl⟩) (fun r hr0 => ?_)
      subst hr0
      refine lv_sipush (v := 400) hx hb dX0_isUpset_27 (by decide) ?_
      refine lv_icmp_ge (tgt := 37) hx hb dX0_isUpset_30 (by decide) (fun c_30 => ?_) (fun c_30 => ?_)
      · refine lv_iconst (v := 0) hx hb dX0_isUpset_37 (by decide) ?_
        exact W.zret (v := 0) hx hb hr (by decide) (fun t ht hW => ⟨_, rfl, (show 0 = bI (s_up F a b vr) from by first | (simp [s_up, bI, i32_lt_iff, c_2, c_18, c_30]; done) | exact absurd (c_2.symm.trans c_18) (by decide)), ht⟩) hS.2.2 dX0_isUpset_38
      · refine lv_iconst (v := 1) hx hb dX0_isUpset_33 (by decide) ?_
        refine lv_goto (tgt := 38) hx hb dX0_isUpset_34 (by decide) ?_
        exact W.zret (v := 1) hx hb hr (by decide) (fun t ht hW => ⟨_, rfl, (show 1 = bI (s_up F a b vr) from by first | (simp [s_up, bI, i32_lt_iff, c_2, c_18, c_30]; done) | exact absurd (c_2.symm.trans c_18) (by decide)), ht⟩) hS.2.2 dX0_isUpset_38
  · refine lv_aload_n hx hb dX0_isUpset_5 rfl (lv_at hl 0 rfl) ?_
    refine lv_iload_n hx hb dX0_isUpset_6 rfl (lv_at hl 1 rfl) ?_
    refine lv_iload_n hx hb dX0_isUpset_7 rfl (lv_at hl 2 rfl) ?_
    refine vp_callSi (W.runV (As := [.int (nI a), .int (nI b)]) (rest := []) ⟨hx, hb, hml, hown, hts⟩ (c_X0_expectation l dC dI cI h ad n F a (show a < n by omega) b (show b < n by omega) hn hR) (cwV 2 hts gX0_isUpset_X0_expectation rfl rfl rfl (by decide +kernel) ⟨Nat.le_of_ble_eq_true rfl, Nat.le_of_ble_eq_true rfl⟩) ⟨PR.blind, va_recv hK hP (ci := 0) (q0 := 0) rfl rfl, fun U hU hW => ⟨rfl, PR.go hP hK hE hS hU hW⟩⟩ rfl rfl hl.1 rfl (lv_room (Nat.le_of_ble_eq_true rfl)) dX0_isUpset_8 ⟨Nat.le_of_ble_eq_true rfl, Nat.le_of_ble_eq_true rfl⟩) (fun r hr0 => ?_)
    subst hr0
    refine lv_sipush (v := 400) hx hb dX0_isUpset_11 (by decide) ?_
    refine lv_icmp_lt (tgt := 33) hx hb dX0_isUpset_14 (by decide) (fun c_14 => ?_) (fun c_14 => ?_)
    · refine lv_iconst (v := 1) hx hb dX0_isUpset_33 (by decide) ?_
      refine lv_goto (tgt := 38) hx hb dX0_isUpset_34 (by decide) ?_
      exact W.zret (v := 1) hx hb hr (by decide) (fun t ht hW => ⟨_, rfl, (show 1 = bI (s_up F a b vr) from by first | (simp [s_up, bI, i32_lt_iff, c_2, c_14]; done) | exact absurd (c_2.symm.trans c_18) (by decide)), ht⟩) hS.2.2 dX0_isUpset_38
    · refine lv_iload_n hx hb dX0_isUpset_17 rfl (lv_at hl 3 rfl) ?_
      refine lv_if_ne (tgt := 37) hx hb dX0_isUpset_18 (by decide) (fun c_18 => ?_) (fun c_18 => ?_)
      · refine lv_iconst (v := 0) hx hb dX0_isUpset_37 (by decide) ?_
        exact W.zret (v := 0) hx hb hr (by decide) (fun t ht hW => ⟨_, rfl, (show 0 = bI (s_up F a b vr) from by first | (simp [s_up, bI, i32_lt_iff, c_2, c_14, c_18]; done) | exact absurd (c_2.symm.trans c_18) (by decide)), ht⟩) hS.2.2 dX0_isUpset_38
      · refine lv_aload_n hx hb dX0_isUpset_21 rfl (lv_at hl 0 rfl) ?_
        refine lv_iload_n hx hb dX0_isUpset_22 rfl (lv_at hl 2 rfl) ?_
        refine lv_iload_n hx hb dX0_isUpset_23 rfl (lv_at hl 1 rfl) ?_
        refine vp_callSi (W.runV (As := [.int (nI b), .int (nI a)]) (rest := []) ⟨hx, hb, hml, hown, hts⟩ (c_X0_expectation l dC dI cI h ad n F b (show b < n by omega) a (show a < n by omega) hn hR) (cwV 2 hts gX0_isUpset_X0_expectation rfl rfl rfl (by decide +kernel) ⟨Nat.le_of_ble_eq_true rfl, Nat.le_of_ble_eq_true rfl⟩) ⟨PR.blind, va_recv hK hP (ci := 0) (q0 := 0) rfl rfl, fun U hU hW => ⟨rfl, PR.go hP hK hE hS hU hW⟩⟩ rfl rfl hl.1 rfl (lv_room (Nat.le_of_ble_eq_true rfl)) dX0_isUpset_24 ⟨Nat.le_of_ble_eq_true rfl, Nat.le_of_ble_eq_true rfl⟩) (fun r hr0 => ?_)
        subst hr0
        refine lv_sipush (v := 400) hx hb dX0_isUpset_27 (by decide) ?_
        refine lv_icmp_ge (tgt := 37) hx hb dX0_isUpset_30 (by decide) (fun c_30 => ?_) (fun c_30 => ?_)
        · refine lv_iconst (v := 0) hx hb dX0_isUpset_37 (by decide) ?_
          exact W.zret (v := 0) hx hb hr (by decide) (fun t ht hW => ⟨_, rfl, (show 0 = bI (s_up F a b vr) from by first | (simp [s_up, bI, i32_lt_iff, c_2, c_14, c_18, c_30]; done) | exact absurd (c_2.symm.trans c_18) (by decide)), ht⟩) hS.2.2 dX0_isUpset_38
        · refine lv_iconst (v := 1) hx hb dX0_isUpset_33 (by decide) ?_
          refine lv_goto (tgt := 38) hx hb dX0_isUpset_34 (by decide) ?_
          exact W.zret (v := 1) hx hb hr (by decide) (fun t ht hW => ⟨_, rfl, (show 1 = bI (s_up F a b vr) from by first | (simp [s_up, bI, i32_lt_iff, c_2, c_14, c_18, c_30]; done) | exact absurd (c_2.symm.trans c_18) (by decide)), ht⟩) hS.2.2 dX0_isUpset_38

set_option maxHeartbeats 4000000 in
set_option maxRecDepth 100000 in
theorem c_X0_unevenness (l : Launch) (dC : Nat → ClassId) (dI : Nat → Nat → Nat) (cI : ClassId) (h : Nat) (ad : Nat → Nat) (n : Nat) (F : Nat → Nat → Int32) (a : Nat) (i_a : a < n) (b : Nat) (i_b : b < n) (hn : n ≤ 12) (hR : okR n F) : Met l yX0_unevenness wsX0_unevenness ({ frames := 3, cells := 0, slots := 0, locals := 58 } : Room) (va_Pc [.ref h, .int (nI a), .int (nI b)] (fun U => PR dC dI cI (wR h ad cI n F) U)) (vp_Si (fun r => r = s_off F a b)) 0 0 (fun _ => False) := by
  refine Met.ofW (cc := cX0_unevenness) (maxL := 3) (ret := (some .int)) (by decide) rfl ?_
  intro p e s m args below meth c s₁ B hml hv
  obtain ⟨rfl, hP, hK, hE⟩ := hv
  have hx := B.exec
  have hb := B.bytes
  have hr := B.returns
  have hts := atoms_spec (ws := wsX0_unevenness) B.pre
  have hown : s.vm.findClass RX0 = some m.cls := findClass_of_methodNamed B.named
  have hlocks := B.notSynchronized
  have hS : va_S (fun _ => False) s.heap s.heap [] := va_S.rf
  have hl := lv_entry ([.ref h, .int (nI a), .int (nI b)]) (n := 3) (Nat.le_of_ble_eq_true rfl)
  rw [lg_entry_eq]
  generalize (lg_sl ([.ref h, .int (nI a), .int (nI b)]) ++ List.replicate (3 - (lg_sl ([.ref h, .int (nI a), .int (nI b)])).length) Slot.unset).toArray = ls at hl ⊢
  have hl : lv_has ls 3 [(0, .ref h), (1, .int (nI a)), (2, .int (nI b))] := hl
  refine lv_aload_n hx hb dX0_unevenness_0 rfl (lv_at hl 0 rfl) ?_
  refine lv_iload_n hx hb dX0_unevenness_1 rfl (lv_at hl 1 rfl) ?_
  refine lv_iload_n hx hb dX0_unevenness_2 rfl (lv_at hl 2 rfl) ?_
  refine vp_callSi (W.runV (As := [.int (nI a), .int (nI b)]) (rest := []) ⟨hx, hb, hml, hown, hts⟩ (c_X0_expectation l dC dI cI h ad n F a (show a < n by omega) b (show b < n by omega) hn hR) (cwV 2 hts gX0_unevenness_X0_expectation rfl rfl rfl (by decide +kernel) ⟨Nat.le_of_ble_eq_true rfl, Nat.le_of_ble_eq_true rfl⟩) ⟨PR.blind, va_recv hK hP (ci := 0) (q0 := 0) rfl rfl, fun U hU hW => ⟨rfl, PR.go hP hK hE hS hU hW⟩⟩ rfl rfl hl.1 rfl (lv_room (Nat.le_of_ble_eq_true rfl)) dX0_unevenness_3 ⟨Nat.le_of_ble_eq_true rfl, Nat.le_of_ble_eq_true rfl⟩) (fun r hr0 => ?_)
  subst hr0
  refine lv_sipush (v := 500) hx hb dX0_unevenness_6 (by decide) ?_
  refine lv_isub hx hb dX0_unevenness_9 ?_
  refine va_mabs hx hb (hml.trans hl.1.symm) hown (hts (.methodLink RX0 87 Lib.Math.abs.name) (by decide +kernel)) (hts (.static Lib.Math.abs.name) (by decide +kernel)) (hts (.initialized "java/lang/Math") (by decide +kernel)) (hts (.code Lib.Math.abs.name Lib.Math.abs.code 1 (some .int)) (by decide +kernel)) (Nat.le_of_ble_eq_true rfl) (Nat.le_of_ble_eq_true rfl) (Nat.zero_le _) (Nat.zero_le _) dX0_unevenness_10 ?_
  refine rv_top (y := s_off F a b) rfl ?_
  exact W.iret (v := s_off F a b) hx hb hr (fun t ht hW => ⟨_, rfl, (show s_off F a b = s_off F a b from by rfl), ht⟩) hS.2.2 dX0_unevenness_13

set_option maxHeartbeats 4000000 in
set_option maxRecDepth 100000 in
theorem c_X0_evenest (l : Launch) (dC : Nat → ClassId) (dI : Nat → Nat → Nat) (cI : ClassId) (h : Nat) (ad : Nat → Nat) (n : Nat) (F : Nat → Nat → Int32) (w : Nat) (i_w : w < n) (hn : n ≤ 12) (hR : okR n F) : Met l yX0_evenest wsX0_evenest ({ frames := 4, cells := 0, slots := 0, locals := 80 } : Room) (va_Pc [.ref h, .int (nI w)] (fun U => PR dC dI cI (wR h ad cI n F) U)) (vp_Si (fun r => r = oI (s_match n F w))) 0 0 (fun _ => False) := by
  refine Met.ofW (cc := cX0_evenest) (maxL := 4) (ret := (some .int)) (by decide) rfl ?_
  intro p e s m args below meth c s₁ B hml hv
  obtain ⟨rfl, hP, hK, hE⟩ := hv
  have hx := B.exec
  have hb := B.bytes
  have hr := B.returns
  have hts := atoms_spec (ws := wsX0_evenest) B.pre
  have hown : s.vm.findClass RX0 = some m.cls := findClass_of_methodNamed B.named
  have hlocks := B.notSynchronized
  have hS : va_S (fun _ => False) s.heap s.heap [] := va_S.rf
  have hinX0 : ∀ w ∈ wsX00, w ∈ wsX0_evenest := by decide +kernel
  have hl := lv_entry ([.ref h, .int (nI w)]) (n := 4) (Nat.le_of_ble_eq_true rfl)
  rw [lg_entry_eq]
  generalize (lg_sl ([.ref h, .int (nI w)]) ++ List.replicate (4 - (lg_sl ([.ref h, .int (nI w)])).length) Slot.unset).toArray = ls at hl ⊢
  have hl : lv_has ls 4 [(0, .ref h), (1, .int (nI w))] := hl
  refine lv_iconst (v := (-1)) hx hb dX0_evenest_0 (by decide) ?_
  refine lv_istore_n (lv' := [(2, .int (-1)), (0, .ref h), (1, .int (nI w))]) hx hb dX0_evenest_1 rfl hl (by decide) rfl (fun ls hl => ?_)
  refine lv_iconst (v := 0) hx hb dX0_evenest_2 (by decide) ?_
  refine lv_istore_n (lv' := [(3, .int 0), (2, .int (-1)), (0, .ref h), (1, .int (nI w))]) hx hb dX0_evenest_3 rfl hl (by decide) rfl (fun ls hl => ?_)
  have L_4 : ∀ (k i : Nat) (o2 : Option Nat), i + k = n → o2 = s_matchU F w i → ∀ (ls : Array Slot), lv_has ls 4 [(3, .int (nI i)), (2, .int (oI o2)), (0, .ref h), (1, .int (nI w))] → W p l e (headSpec wsX0_evenest ({ frames := 4, cells := 0, slots := 0, locals := 80 } : Room)).room s m ([.ref h, .int (nI w)] : List Value).toArray below meth c s.heap [] 0 0 (MQ below (vp_Si (fun r => r = oI (s_match n F w))) ([.ref h, .int (nI w)] : List Value).toArray s 0 0 (fun _ => False)) (F0 m 4 ls []) := by
    intro k
    induction k with
    | zero =>
      intro i o2 e_i ho2 ls hl
      refine lv_iload_n hx hb dX0_evenest_4 rfl (lv_at hl 0 rfl) ?_
      refine lv_aload_n hx hb dX0_evenest_5 rfl (lv_at hl 2 rfl) ?_
      refine va_get (D := (dC, dI)) (ci := 0) (v := .int (nI n)) (C := RX0) (T := TX0) (N := 8) hx hb hts hinX0 hown hK hP 0 rfl rfl 7 (by decide) (hts (.fieldLink RX0 33 "WrestleBook$Roster" "size" "I") (by decide +kernel)) (fun _ h9 => h9) rfl dX0_evenest_6 ?_
      refine rv_icmp_ge (tgt := 63) hx hb (a := i) (b := n) (by omega) (by omega) dX0_evenest_9 (by decide) (fun c_9 => ?_) (fun c_9 => ?_)
      · refine lv_iload_n hx hb dX0_evenest_63 rfl (lv_at hl 1 rfl) ?_
        exact W.iret (v := oI o2) hx hb hr (fun t ht hW => ⟨_, rfl, (show oI o2 = oI (s_match n F w) from by rw [ho2, show i = n by omega]; rfl), ht⟩) hS.2.2 dX0_evenest_64
      · exact absurd c_9 (by omega)
    | succ k ih_4 =>
      intro i o2 e_i ho2 ls hl
      refine lv_iload_n hx hb dX0_evenest_4 rfl (lv_at hl 0 rfl) ?_
      refine lv_aload_n hx hb dX0_evenest_5 rfl (lv_at hl 2 rfl) ?_
      refine va_get (D := (dC, dI)) (ci := 0) (v := .int (nI n)) (C := RX0) (T := TX0) (N := 8) hx hb hts hinX0 hown hK hP 0 rfl rfl 7 (by decide) (hts (.fieldLink RX0 33 "WrestleBook$Roster" "size" "I") (by decide +kernel)) (fun _ h9 => h9) rfl dX0_evenest_6 ?_
      refine rv_icmp_ge (tgt := 63) hx hb (a := i) (b := n) (by omega) (by omega) dX0_evenest_9 (by decide) (fun c_9 => ?_) (fun c_9 => ?_)
      · exact absurd c_9 (by omega)
      · refine lv_iload_n hx hb dX0_evenest_12 rfl (lv_at hl 0 rfl) ?_
        refine lv_iload_n hx hb dX0_evenest_13 rfl (lv_at hl 3 rfl) ?_
        refine rv_icmp_eq (tgt := 57) hx hb (a := i) (b := w) (by omega) (by omega) dX0_evenest_14 (by decide) (fun c_14 => ?_) (fun c_14 => ?_)
        · refine lv_iinc (v := nI (i + 1)) (lv' := [(3, .int (nI (i + 1))), (2, .int (oI o2)), (0, .ref h), (1, .int (nI w))]) hx hb dX0_evenest_57 hl (k := 0) rfl (nI_add i 1) (by decide) rfl (fun ls hl => ?_)
          refine lv_goto (tgt := 4) hx hb dX0_evenest_60 (by decide) ?_
          exact ih_4 (i + 1) o2 (by omega) (by simp only [s_matchU, fo_s] at ho2 ⊢; rw [← ho2]; simp [c_9, (show i < n from by omega), c_14]) ls (lv_sub hl [0, 1, 2, 3] rfl)
        · refine lv_aload_n hx hb dX0_evenest_17 rfl (lv_at hl 2 rfl) ?_
          refine va_get (D := (dC, dI)) (ci := 0) (v := .ref (ad 0)) (C := RX0) (T := TX0) (N := 8) hx hb hts hinX0 hown hK hP 0 rfl rfl 0 (by decide) (hts (.fieldLink RX0 9 "WrestleBook$Roster" "leagues" "[I") (by decide +kernel)) (fun _ h9 => h9) rfl dX0_evenest_18 ?_
          refine lv_iload_n hx hb dX0_evenest_21 rfl (lv_at hl 0 rfl) ?_
          refine rv_iald (k := i) hx hb hK hP 1 0 rfl rfl (show i < 12 by omega) (by decide) dX0_evenest_22 ?_
          refine lv_aload_n hx hb dX0_evenest_23 rfl (lv_at hl 2 rfl) ?_
          refine va_get (D := (dC, dI)) (ci := 0) (v := .ref (ad 0)) (C := RX0) (T := TX0) (N := 8) hx hb hts hinX0 hown hK hP 0 rfl rfl 0 (by decide) (hts (.fieldLink RX0 9 "WrestleBook$Roster" "leagues" "[I") (by decide +kernel)) (fun _ h9 => h9) rfl dX0_evenest_24 ?_
          refine lv_iload_n hx hb dX0_evenest_27 rfl (lv_at hl 3 rfl) ?_
          refine rv_iald (k := w) hx hb hK hP 1 0 rfl rfl (show w < 12 by omega) (by decide) dX0_evenest_28 ?_
          refine lv_icmp_eq (tgt := 35) hx hb dX0_evenest_29 (by decide) (fun c_29 => ?_) (fun c_29 => ?_)
          · refine lv_iload_n hx hb dX0_evenest_35 rfl (lv_at hl 1 rfl) ?_
            rcases o2 with _ | b2
            · refine rv_top (y := -1) rfl ?_
              refine lv_iconst (v := (-1)) hx hb dX0_evenest_36 (by decide) ?_
              refine lv_icmp_eq (tgt := 55) hx hb dX0_evenest_37 (by decide) (fun c_37 => ?_) (fun c_37 => ?_)
              · refine lv_iload_n hx hb dX0_evenest_55 rfl (lv_at hl 0 rfl) ?_
                refine lv_istore_n (lv' := [(2, .int (nI i)), (3, .int (nI i)), (0, .ref h), (1, .int (nI w))]) hx hb dX0_evenest_56 rfl hl (by decide) rfl (fun ls hl => ?_)
                refine lv_iinc (v := nI (i + 1)) (lv' := [(3, .int (nI (i + 1))), (2, .int (nI i)), (0, .ref h), (1, .int (nI w))]) hx hb dX0_evenest_57 hl (k := 1) rfl (nI_add i 1) (by decide) rfl (fun ls hl => ?_)
                refine lv_goto (tgt := 4) hx hb dX0_evenest_60 (by decide) ?_
                exact ih_4 (i + 1) (some i) (by omega) (by simp only [s_matchU, fo_s] at ho2 ⊢; rw [← ho2]; simp [c_9, (show i < n from by omega), c_14, c_29, c_37]) ls (lv_sub hl [0, 1, 2, 3] rfl)
              · exact absurd c_37 (by decide)
            · refine rv_top (y := nI b2) rfl ?_
              have i_b2 : b2 < n := Nat.lt_trans (s_matchU_lt i b2 ho2.symm) (by omega)
              refine lv_iconst (v := (-1)) hx hb dX0_evenest_36 (by decide) ?_
              refine lv_icmp_eq (tgt := 55) hx hb dX0_evenest_37 (by decide) (fun c_37 => ?_) (fun c_37 => ?_)
              · exact absurd c_37 (nI_m1 (by omega))
              · refine lv_aload_n hx hb dX0_evenest_40 rfl (lv_at hl 2 rfl) ?_
                refine lv_iload_n hx hb dX0_evenest_41 rfl (lv_at hl 0 rfl) ?_
                refine lv_iload_n hx hb dX0_evenest_42 rfl (lv_at hl 3 rfl) ?_
                refine vp_callSi (W.runV (As := [.int (nI i), .int (nI w)]) (rest := []) ⟨hx, hb, hml, hown, hts⟩ (c_X0_unevenness l dC dI cI h ad n F i (show i < n by omega) w (show w < n by omega) hn hR) (cwV 2 hts gX0_evenest_X0_unevenness rfl rfl rfl (by decide +kernel) ⟨Nat.le_of_ble_eq_true rfl, Nat.le_of_ble_eq_true rfl⟩) ⟨PR.blind, va_recv hK hP (ci := 0) (q0 := 0) rfl rfl, fun U hU hW => ⟨rfl, PR.go hP hK hE hS hU hW⟩⟩ rfl rfl hl.1 rfl (lv_room (Nat.le_of_ble_eq_true rfl)) dX0_evenest_43 ⟨Nat.le_of_ble_eq_true rfl, Nat.le_of_ble_eq_true rfl⟩) (fun r hr0 => ?_)
                subst hr0
                refine lv_aload_n hx hb dX0_evenest_46 rfl (lv_at hl 2 rfl) ?_
                refine lv_iload_n hx hb dX0_evenest_47 rfl (lv_at hl 1 rfl) ?_
                refine lv_iload_n hx hb dX0_evenest_48 rfl (lv_at hl 3 rfl) ?_
                refine vp_callSi (W.runV (As := [.int (nI b2), .int (nI w)]) (rest := [.int (s_off F i w)]) ⟨hx, hb, hml, hown, hts⟩ (c_X0_unevenness l dC dI cI h ad n F b2 (show b2 < n by omega) w (show w < n by omega) hn hR) (cwV 2 hts gX0_evenest_X0_unevenness rfl rfl rfl (by decide +kernel) ⟨Nat.le_of_ble_eq_true rfl, Nat.le_of_ble_eq_true rfl⟩) ⟨PR.blind, va_recv hK hP (ci := 0) (q0 := 0) rfl rfl, fun U hU hW => ⟨rfl, PR.go hP hK hE hS hU hW⟩⟩ rfl rfl hl.1 rfl (lv_room (Nat.le_of_ble_eq_true rfl)) dX0_evenest_49 ⟨Nat.le_of_ble_eq_true rfl, Nat.le_of_ble_eq_true rfl⟩) (fun r hr0 => ?_)
                subst hr0
                refine lv_icmp_ge (tgt := 57) hx hb dX0_evenest_52 (by decide) (fun c_52 => ?_) (fun c_52 => ?_)
                · refine lv_iinc (v := nI (i + 1)) (lv' := [(3, .int (nI (i + 1))), (2, .int (nI b2)), (0, .ref h), (1, .int (nI w))]) hx hb dX0_evenest_57 hl (k := 0) rfl (nI_add i 1) (by decide) rfl (fun ls hl => ?_)
                  refine lv_goto (tgt := 4) hx hb dX0_evenest_60 (by decide) ?_
                  exact ih_4 (i + 1) (some b2) (by omega) (by simp only [s_matchU, fo_s] at ho2 ⊢; rw [← ho2]; simp [c_9, (show i < n from by omega), c_14, c_29, c_37, c_52]) ls (lv_sub hl [0, 1, 2, 3] rfl)
                · refine lv_iload_n hx hb dX0_evenest_55 rfl (lv_at hl 0 rfl) ?_
                  refine lv_istore_n (lv' := [(2, .int (nI i)), (3, .int (nI i)), (0, .ref h), (1, .int (nI w))]) hx hb dX0_evenest_56 rfl hl (by decide) rfl (fun ls hl => ?_)
                  refine lv_iinc (v := nI (i + 1)) (lv' := [(3, .int (nI (i + 1))), (2, .int (nI i)), (0, .ref h), (1, .int (nI w))]) hx hb dX0_evenest_57 hl (k := 1) rfl (nI_add i 1) (by decide) rfl (fun ls hl => ?_)
                  refine lv_goto (tgt := 4) hx hb dX0_evenest_60 (by decide) ?_
                  exact ih_4 (i + 1) (some i) (by omega) (by simp only [s_matchU, fo_s] at ho2 ⊢; rw [← ho2]; simp [c_9, (show i < n from by omega), c_14, c_29, c_37, c_52]) ls (lv_sub hl [0, 1, 2, 3] rfl)
          · refine lv_goto (tgt := 57) hx hb dX0_evenest_32 (by decide) ?_
            refine lv_iinc (v := nI (i + 1)) (lv' := [(3, .int (nI (i + 1))), (2, .int (oI o2)), (0, .ref h), (1, .int (nI w))]) hx hb dX0_evenest_57 hl (k := 0) rfl (nI_add i 1) (by decide) rfl (fun ls hl => ?_)
            refine lv_goto (tgt := 4) hx hb dX0_evenest_60 (by decide) ?_
            exact ih_4 (i + 1) o2 (by omega) (by simp only [s_matchU, fo_s] at ho2 ⊢; rw [← ho2]; simp [c_9, (show i < n from by omega), c_14, c_29]) ls (lv_sub hl [0, 1, 2, 3] rfl)
  exact L_4 n 0 none (by omega) rfl ls (lv_sub hl [0, 1, 2, 3] rfl)

set_option maxHeartbeats 4000000 in
set_option maxRecDepth 100000 in
theorem c_X0_bestPair (l : Launch) (dC : Nat → ClassId) (dI : Nat → Nat → Nat) (cI : ClassId) (h : Nat) (ad : Nat → Nat) (n : Nat) (F : Nat → Nat → Int32) (hn : n ≤ 12) (hR : okR n F) : Met l yX0_bestPair wsX0_bestPair ({ frames := 4, cells := 0, slots := 0, locals := 80 } : Room) (va_Pc [.ref h] (fun U => PR dC dI cI (wR h ad cI n F) U)) (vp_Si (fun r => r = s_next n F)) 0 0 (fun _ => False) := by
  refine Met.ofW (cc := cX0_bestPair) (maxL := 8) (ret := (some .int)) (by decide) rfl ?_
  intro p e s m args below meth c s₁ B hml hv
  obtain ⟨rfl, hP, hK, hE⟩ := hv
  have hx := B.exec
  have hb := B.bytes
  have hr := B.returns
  have hts := atoms_spec (ws := wsX0_bestPair) B.pre
  have hown : s.vm.findClass RX0 = some m.cls := findClass_of_methodNamed B.named
  have hlocks := B.notSynchronized
  have hS : va_S (fun _ => False) s.heap s.heap [] := va_S.rf
  have hinX0 : ∀ w ∈ wsX00, w ∈ wsX0_bestPair := by decide +kernel
  have hl := lv_entry ([.ref h]) (n := 8) (Nat.le_of_ble_eq_true rfl)
  rw [lg_entry_eq]
  generalize (lg_sl ([.ref h]) ++ List.replicate (8 - (lg_sl ([.ref h])).length) Slot.unset).toArray = ls at hl ⊢
  have hl : lv_has ls 8 [(0, .ref h)] := hl
  refine lv_iconst (v := (-1)) hx hb dX0_bestPair_0 (by decide) ?_
  refine lv_istore_n (lv' := [(1, .int (-1)), (0, .ref h)]) hx hb dX0_bestPair_1 rfl hl (by decide) rfl (fun ls hl => ?_)
  refine lv_iconst (v := 0) hx hb dX0_bestPair_2 (by decide) ?_
  refine lv_istore_n (lv' := [(2, .int 0), (1, .int (-1)), (0, .ref h)]) hx hb dX0_bestPair_3 rfl hl (by decide) rfl (fun ls hl => ?_)
  refine lv_iconst (v := 0) hx hb dX0_bestPair_4 (by decide) ?_
  refine lv_istore_n (lv' := [(3, .int 0), (2, .int 0), (1, .int (-1)), (0, .ref h)]) hx hb dX0_bestPair_5 rfl hl (by decide) rfl (fun ls hl => ?_)
  refine lv_iconst (v := 0) hx hb dX0_bestPair_6 (by decide) ?_
  refine lv_istore (lv' := [(4, .int 0), (3, .int 0), (2, .int 0), (1, .int (-1)), (0, .ref h)]) hx hb dX0_bestPair_7 hl (by decide) rfl (fun ls hl => ?_)
  have L_9 : ∀ (ka a : Nat) (x1 : Int32) (x2 : Int32) (x3 : Int32), a + ka = n → (x1, x2, x3) = s_pairU n F a → ∀ (ls : Array Slot), lv_has ls 8 [(4, .int (nI a)), (3, .int x3), (2, .int x2), (1, .int x1), (0, .ref h)] → W p l e (headSpec wsX0_bestPair ({ frames := 4, cells := 0, slots := 0, locals := 80 } : Room)).room s m ([.ref h] : List Value).toArray below meth c s.heap [] 0 0 (MQ below (vp_Si (fun r => r = s_next n F)) ([.ref h] : List Value).toArray s 0 0 (fun _ => False)) (F0 m 9 ls []) := by
    intro ka
    induction ka with
    | zero =>
      intro a x1 x2 x3 e_a hxx ls hl
      refine lv_iload hx hb dX0_bestPair_9 (lv_at hl 0 rfl) ?_
      refine lv_aload_n hx hb dX0_bestPair_11 rfl (lv_at hl 4 rfl) ?_
      refine va_get (D := (dC, dI)) (ci := 0) (v := .int (nI n)) (C := RX0) (T := TX0) (N := 8) hx hb hts hinX0 hown hK hP 0 rfl rfl 7 (by decide) (hts (.fieldLink RX0 33 "WrestleBook$Roster" "size" "I") (by decide +kernel)) (fun _ h9 => h9) rfl dX0_bestPair_12 ?_
      refine rv_icmp_ge (tgt := 130) hx hb (a := a) (b := n) (by omega) (by omega) dX0_bestPair_15 (by decide) (fun c_15 => ?_) (fun c_15 => ?_)
      · refine lv_iload_n hx hb dX0_bestPair_130 rfl (lv_at hl 3 rfl) ?_
        exact W.iret (v := x1) hx hb hr (fun t ht hW => ⟨_, rfl, (show x1 = s_next n F from by show x1 = (s_pairU n F n).1; rw [show (s_pairU n F n) = (x1, x2, x3) by rw [hxx, show a = n by omega]]), ht⟩) hS.2.2 dX0_bestPair_131
      · exact absurd c_15 (by omega)
    | succ ka ih_9 =>
      intro a x1 x2 x3 e_a hxx ls hl
      refine lv_iload hx hb dX0_bestPair_9 (lv_at hl 0 rfl) ?_
      refine lv_aload_n hx hb dX0_bestPair_11 rfl (lv_at hl 4 rfl) ?_
      refine va_get (D := (dC, dI)) (ci := 0) (v := .int (nI n)) (C := RX0) (T := TX0) (N := 8) hx hb hts hinX0 hown hK hP 0 rfl rfl 7 (by decide) (hts (.fieldLink RX0 33 "WrestleBook$Roster" "size" "I") (by decide +kernel)) (fun _ h9 => h9) rfl dX0_bestPair_12 ?_
      refine rv_icmp_ge (tgt := 130) hx hb (a := a) (b := n) (by omega) (by omega) dX0_bestPair_15 (by decide) (fun c_15 => ?_) (fun c_15 => ?_)
      · exact absurd c_15 (by omega)
      · refine lv_iload hx hb dX0_bestPair_18 (lv_at hl 0 rfl) ?_
        refine lv_iconst (v := 1) hx hb dX0_bestPair_20 (by decide) ?_
        refine lv_iadd hx hb dX0_bestPair_21 ?_
        refine rv_top (y := nI (a + 1)) (nI_1 a) ?_
        refine lv_istore (lv' := [(5, .int (nI (a + 1))), (4, .int (nI a)), (3, .int x3), (2, .int x2), (1, .int x1), (0, .ref h)]) hx hb dX0_bestPair_22 hl (by decide) rfl (fun ls hl => ?_)
        have L_24 : ∀ (kb b : Nat) (y1 : Int32) (y2 : Int32) (y3 : Int32), b + kb = n → a < b → (y1, y2, y3) = s_pairI F a b (x1, x2, x3) → ∀ (ls : Array Slot), lv_has ls 8 [(5, .int (nI b)), (4, .int (nI a)), (3, .int y3), (2, .int y2), (1, .int y1), (0, .ref h)] → W p l e (headSpec wsX0_bestPair ({ frames := 4, cells := 0, slots := 0, locals := 80 } : Room)).room s m ([.ref h] : List Value).toArray below meth c s.heap [] 0 0 (MQ below (vp_Si (fun r => r = s_next n F)) ([.ref h] : List Value).toArray s 0 0 (fun _ => False)) (F0 m 24 ls []) := by
          intro kb
          induction kb with
          | zero =>
            intro b y1 y2 y3 e_b hab hy ls hl
            refine lv_iload hx hb dX0_bestPair_24 (lv_at hl 0 rfl) ?_
            refine lv_aload_n hx hb dX0_bestPair_26 rfl (lv_at hl 5 rfl) ?_
            refine va_get (D := (dC, dI)) (ci := 0) (v := .int (nI n)) (C := RX0) (T := TX0) (N := 8) hx hb hts hinX0 hown hK hP 0 rfl rfl 7 (by decide) (hts (.fieldLink RX0 33 "WrestleBook$Roster" "size" "I") (by decide +kernel)) (fun _ h9 => h9) rfl dX0_bestPair_27 ?_
            refine rv_icmp_ge (tgt := 124) hx hb (a := b) (b := n) (by omega) (by omega) dX0_bestPair_30 (by decide) (fun c_30 => ?_) (fun c_30 => ?_)
            · refine lv_iinc (v := nI (a + 1)) (lv' := [(4, .int (nI (a + 1))), (5, .int (nI b)), (3, .int y3), (2, .int y2), (1, .int y1), (0, .ref h)]) hx hb dX0_bestPair_124 hl (k := 1) rfl (nI_add a 1) (by decide) rfl (fun ls hl => ?_)
              refine lv_goto (tgt := 9) hx hb dX0_bestPair_127 (by decide) ?_
              exact ih_9 (a + 1) y1 y2 y3 (by omega) (by rw [hy, show b = n by omega, hxx]; rfl) ls (lv_sub hl [0, 2, 3, 4, 5] rfl)
            · exact absurd c_30 (by omega)
          | succ kb ih_24 =>
            intro b y1 y2 y3 e_b hab hy ls hl
            refine lv_iload hx hb dX0_bestPair_24 (lv_at hl 0 rfl) ?_
            refine lv_aload_n hx hb dX0_bestPair_26 rfl (lv_at hl 5 rfl) ?_
            refine va_get (D := (dC, dI)) (ci := 0) (v := .int (nI n)) (C := RX0) (T := TX0) (N := 8) hx hb hts hinX0 hown hK hP 0 rfl rfl 7 (by decide) (hts (.fieldLink RX0 33 "WrestleBook$Roster" "size" "I") (by decide +kernel)) (fun _ h9 => h9) rfl dX0_bestPair_27 ?_
            refine rv_icmp_ge (tgt := 124) hx hb (a := b) (b := n) (by omega) (by omega) dX0_bestPair_30 (by decide) (fun c_30 => ?_) (fun c_30 => ?_)
            · exact absurd c_30 (by omega)
            · refine lv_aload_n hx hb dX0_bestPair_33 rfl (lv_at hl 5 rfl) ?_
              refine va_get (D := (dC, dI)) (ci := 0) (v := .ref (ad 0)) (C := RX0) (T := TX0) (N := 8) hx hb hts hinX0 hown hK hP 0 rfl rfl 0 (by decide) (hts (.fieldLink RX0 9 "WrestleBook$Roster" "leagues" "[I") (by decide +kernel)) (fun _ h9 => h9) rfl dX0_bestPair_34 ?_
              refine lv_iload hx hb dX0_bestPair_37 (lv_at hl 1 rfl) ?_
              refine rv_iald (k := a) hx hb hK hP 1 0 rfl rfl (show a < 12 by omega) (by decide) dX0_bestPair_39 ?_
              refine lv_aload_n hx hb dX0_bestPair_40 rfl (lv_at hl 5 rfl) ?_
              refine va_get (D := (dC, dI)) (ci := 0) (v := .ref (ad 0)) (C := RX0) (T := TX0) (N := 8) hx hb hts hinX0 hown hK hP 0 rfl rfl 0 (by decide) (hts (.fieldLink RX0 9 "WrestleBook$Roster" "leagues" "[I") (by decide +kernel)) (fun _ h9 => h9) rfl dX0_bestPair_41 ?_
              refine lv_iload hx hb dX0_bestPair_44 (lv_at hl 0 rfl) ?_
              refine rv_iald (k := b) hx hb hK hP 1 0 rfl rfl (show b < 12 by omega) (by decide) dX0_bestPair_46 ?_
              refine lv_icmp_eq (tgt := 53) hx hb dX0_bestPair_47 (by decide) (fun c_47 => ?_) (fun c_47 => ?_)
              · refine lv_aload_n hx hb dX0_bestPair_53 rfl (lv_at hl 5 rfl) ?_
                refine va_get (D := (dC, dI)) (ci := 0) (v := .ref (ad 4)) (C := RX0) (T := TX0) (N := 8) hx hb hts hinX0 hown hK hP 0 rfl rfl 4 (by decide) (hts (.fieldLink RX0 24 "WrestleBook$Roster" "seasonBouts" "[I") (by decide +kernel)) (fun _ h9 => h9) rfl dX0_bestPair_54 ?_
                refine lv_iload hx hb dX0_bestPair_57 (lv_at hl 1 rfl) ?_
                refine rv_iald (k := a) hx hb hK hP 5 0 rfl rfl (show a < 12 by omega) (by decide) dX0_bestPair_59 ?_
                refine lv_aload_n hx hb dX0_bestPair_60 rfl (lv_at hl 5 rfl) ?_
                refine va_get (D := (dC, dI)) (ci := 0) (v := .ref (ad 4)) (C := RX0) (T := TX0) (N := 8) hx hb hts hinX0 hown hK hP 0 rfl rfl 4 (by decide) (hts (.fieldLink RX0 24 "WrestleBook$Roster" "seasonBouts" "[I") (by decide +kernel)) (fun _ h9 => h9) rfl dX0_bestPair_61 ?_
                refine lv_iload hx hb dX0_bestPair_64 (lv_at hl 0 rfl) ?_
                refine rv_iald (k := b) hx hb hK hP 5 0 rfl rfl (show b < 12 by omega) (by decide) dX0_bestPair_66 ?_
                refine lv_iadd hx hb dX0_bestPair_67 ?_
                refine lv_istore (lv' := [(6, .int ((F 4 a) + (F 4 b))), (5, .int (nI b)), (4, .int (nI a)), (3, .int y3), (2, .int y2), (1, .int y1), (0, .ref h)]) hx hb dX0_bestPair_68 hl (by decide) rfl (fun ls hl => ?_)
                refine lv_aload_n hx hb dX0_bestPair_70 rfl (lv_at hl 6 rfl) ?_
                refine lv_iload hx hb dX0_bestPair_71 (lv_at hl 2 rfl) ?_
                refine lv_iload hx hb dX0_bestPair_73 (lv_at hl 1 rfl) ?_
                refine vp_callSi (W.runV (As := [.int (nI a), .int (nI b)]) (rest := []) ⟨hx, hb, hml, hown, hts⟩ (c_X0_unevenness l dC dI cI h ad n F a (show a < n by omega) b (show b < n by omega) hn hR) (cwV 2 hts gX0_bestPair_X0_unevenness rfl rfl rfl (by decide +kernel) ⟨Nat.le_of_ble_eq_true rfl, Nat.le_of_ble_eq_true rfl⟩) ⟨PR.blind, va_recv hK hP (ci := 0) (q0 := 0) rfl rfl, fun U hU hW => ⟨rfl, PR.go hP hK hE hS hU hW⟩⟩ rfl rfl hl.1 rfl (lv_room (Nat.le_of_ble_eq_true rfl)) dX0_bestPair_75 ⟨Nat.le_of_ble_eq_true rfl, Nat.le_of_ble_eq_true rfl⟩) (fun r hr0 => ?_)
                subst hr0
                refine lv_istore (lv' := [(7, .int (s_off F a b)), (6, .int ((F 4 a) + (F 4 b))), (5, .int (nI b)), (4, .int (nI a)), (3, .int y3), (2, .int y2), (1, .int y1), (0, .ref h)]) hx hb dX0_bestPair_78 hl (by decide) rfl (fun ls hl => ?_)
                refine lv_iload_n hx hb dX0_bestPair_80 rfl (lv_at hl 6 rfl) ?_
                refine lv_iconst (v := (-1)) hx hb dX0_bestPair_81 (by decide) ?_
                refine lv_icmp_eq (tgt := 103) hx hb dX0_bestPair_82 (by decide) (fun c_82 => ?_) (fun c_82 => ?_)
                · refine lv_iload hx hb dX0_bestPair_103 (lv_at hl 3 rfl) ?_
                  refine lv_bipush (v := 12) hx hb dX0_bestPair_105 (by decide) ?_
                  refine lv_imul hx hb dX0_bestPair_107 ?_
                  refine lv_iload hx hb dX0_bestPair_108 (lv_at hl 2 rfl) ?_
                  refine lv_iadd hx hb dX0_bestPair_110 ?_
                  refine lv_istore_n (lv' := [(1, .int (((nI a) * 12) + (nI b))), (7, .int (s_off F a b)), (6, .int ((F 4 a) + (F 4 b))), (5, .int (nI b)), (4, .int (nI a)), (3, .int y3), (2, .int y2), (0, .ref h)]) hx hb dX0_bestPair_111 rfl hl (by decide) rfl (fun ls hl => ?_)
                  refine lv_iload hx hb dX0_bestPair_112 (lv_at hl 2 rfl) ?_
                  refine lv_istore_n (lv' := [(2, .int ((F 4 a) + (F 4 b))), (1, .int (((nI a) * 12) + (nI b))), (7, .int (s_off F a b)), (6, .int ((F 4 a) + (F 4 b))), (5, .int (nI b)), (4, .int (nI a)), (3, .int y3), (0, .ref h)]) hx hb dX0_bestPair_114 rfl hl (by decide) rfl (fun ls hl => ?_)
                  refine lv_iload hx hb dX0_bestPair_115 (lv_at hl 2 rfl) ?_
                  refine lv_istore_n (lv' := [(3, .int (s_off F a b)), (2, .int ((F 4 a) + (F 4 b))), (1, .int (((nI a) * 12) + (nI b))), (7, .int (s_off F a b)), (6, .int ((F 4 a) + (F 4 b))), (5, .int (nI b)), (4, .int (nI a)), (0, .ref h)]) hx hb dX0_bestPair_117 rfl hl (by decide) rfl (fun ls hl => ?_)
                  refine lv_iinc (v := nI (b + 1)) (lv' := [(5, .int (nI (b + 1))), (3, .int (s_off F a b)), (2, .int ((F 4 a) + (F 4 b))), (1, .int (((nI a) * 12) + (nI b))), (7, .int (s_off F a b)), (6, .int ((F 4 a) + (F 4 b))), (4, .int (nI a)), (0, .ref h)]) hx hb dX0_bestPair_118 hl (k := 5) rfl (nI_add b 1) (by decide) rfl (fun ls hl => ?_)
                  refine lv_goto (tgt := 24) hx hb dX0_bestPair_121 (by decide) ?_
                  exact ih_24 (b + 1) (((nI a) * 12) + (nI b)) ((F 4 a) + (F 4 b)) (s_off F a b) (by omega) (by omega) (by rw [pairI_s hab, ← hy]; simp [pairB, c_15, (show a < n from by omega), c_30, (show b < n from by omega), c_47, c_82]) ls (lv_sub hl [0, 6, 1, 2, 3, 7] rfl)
                · refine lv_iload hx hb dX0_bestPair_85 (lv_at hl 1 rfl) ?_
                  refine lv_iload_n hx hb dX0_bestPair_87 rfl (lv_at hl 5 rfl) ?_
                  refine lv_icmp_lt (tgt := 103) hx hb dX0_bestPair_88 (by decide) (fun c_88 => ?_) (fun c_88 => ?_)
                  · refine lv_iload hx hb dX0_bestPair_103 (lv_at hl 3 rfl) ?_
                    refine lv_bipush (v := 12) hx hb dX0_bestPair_105 (by decide) ?_
                    refine lv_imul hx hb dX0_bestPair_107 ?_
                    refine lv_iload hx hb dX0_bestPair_108 (lv_at hl 2 rfl) ?_
                    refine lv_iadd hx hb dX0_bestPair_110 ?_
                    refine lv_istore_n (lv' := [(1, .int (((nI a) * 12) + (nI b))), (7, .int (s_off F a b)), (6, .int ((F 4 a) + (F 4 b))), (5, .int (nI b)), (4, .int (nI a)), (3, .int y3), (2, .int y2), (0, .ref h)]) hx hb dX0_bestPair_111 rfl hl (by decide) rfl (fun ls hl => ?_)
                    refine lv_iload hx hb dX0_bestPair_112 (lv_at hl 2 rfl) ?_
                    refine lv_istore_n (lv' := [(2, .int ((F 4 a) + (F 4 b))), (1, .int (((nI a) * 12) + (nI b))), (7, .int (s_off F a b)), (6, .int ((F 4 a) + (F 4 b))), (5, .int (nI b)), (4, .int (nI a)), (3, .int y3), (0, .ref h)]) hx hb dX0_bestPair_114 rfl hl (by decide) rfl (fun ls hl => ?_)
                    refine lv_iload hx hb dX0_bestPair_115 (lv_at hl 2 rfl) ?_
                    refine lv_istore_n (lv' := [(3, .int (s_off F a b)), (2, .int ((F 4 a) + (F 4 b))), (1, .int (((nI a) * 12) + (nI b))), (7, .int (s_off F a b)), (6, .int ((F 4 a) + (F 4 b))), (5, .int (nI b)), (4, .int (nI a)), (0, .ref h)]) hx hb dX0_bestPair_117 rfl hl (by decide) rfl (fun ls hl => ?_)
                    refine lv_iinc (v := nI (b + 1)) (lv' := [(5, .int (nI (b + 1))), (3, .int (s_off F a b)), (2, .int ((F 4 a) + (F 4 b))), (1, .int (((nI a) * 12) + (nI b))), (7, .int (s_off F a b)), (6, .int ((F 4 a) + (F 4 b))), (4, .int (nI a)), (0, .ref h)]) hx hb dX0_bestPair_118 hl (k := 5) rfl (nI_add b 1) (by decide) rfl (fun ls hl => ?_)
                    refine lv_goto (tgt := 24) hx hb dX0_bestPair_121 (by decide) ?_
                    exact ih_24 (b + 1) (((nI a) * 12) + (nI b)) ((F 4 a) + (F 4 b)) (s_off F a b) (by omega) (by omega) (by rw [pairI_s hab, ← hy]; simp [pairB, c_15, (show a < n from by omega), c_30, (show b < n from by omega), c_47, c_82, c_88]) ls (lv_sub hl [0, 6, 1, 2, 3, 7] rfl)
                  · refine lv_iload hx hb dX0_bestPair_91 (lv_at hl 1 rfl) ?_
                    refine lv_iload_n hx hb dX0_bestPair_93 rfl (lv_at hl 5 rfl) ?_
                    refine lv_icmp_ne (tgt := 118) hx hb dX0_bestPair_94 (by decide) (fun c_94 => ?_) (fun c_94 => ?_)
                    · refine lv_iinc (v := nI (b + 1)) (lv' := [(5, .int (nI (b + 1))), (7, .int (s_off F a b)), (6, .int ((F 4 a) + (F 4 b))), (4, .int (nI a)), (3, .int y3), (2, .int y2), (1, .int y1), (0, .ref h)]) hx hb dX0_bestPair_118 hl (k := 2) rfl (nI_add b 1) (by decide) rfl (fun ls hl => ?_)
                      refine lv_goto (tgt := 24) hx hb dX0_bestPair_121 (by decide) ?_
                      exact ih_24 (b + 1) y1 y2 y3 (by omega) (by omega) (by rw [pairI_s hab, ← hy]; simp [pairB, c_15, (show a < n from by omega), c_30, (show b < n from by omega), c_47, c_82, c_88, c_94]) ls (lv_sub hl [0, 3, 4, 5, 6, 7] rfl)
                    · refine lv_iload hx hb dX0_bestPair_97 (lv_at hl 0 rfl) ?_
                      refine lv_iload_n hx hb dX0_bestPair_99 rfl (lv_at hl 4 rfl) ?_
                      refine lv_icmp_ge (tgt := 118) hx hb dX0_bestPair_100 (by decide) (fun c_100 => ?_) (fun c_100 => ?_)
                      · refine lv_iinc (v := nI (b + 1)) (lv' := [(5, .int (nI (b + 1))), (7, .int (s_off F a b)), (6, .int ((F 4 a) + (F 4 b))), (4, .int (nI a)), (3, .int y3), (2, .int y2), (1, .int y1), (0, .ref h)]) hx hb dX0_bestPair_118 hl (k := 2) rfl (nI_add b 1) (by decide) rfl (fun ls hl => ?_)
                        refine lv_goto (tgt := 24) hx hb dX0_bestPair_121 (by decide) ?_
                        exact ih_24 (b + 1) y1 y2 y3 (by omega) (by omega) (by rw [pairI_s hab, ← hy]; simp [pairB, c_15, (show a < n from by omega), c_30, (show b < n from by omega), c_47, c_82, c_88, c_94, c_100]) ls (lv_sub hl [0, 3, 4, 5, 6, 7] rfl)
                      · refine lv_iload hx hb dX0_bestPair_103 (lv_at hl 3 rfl) ?_
                        refine lv_bipush (v := 12) hx hb dX0_bestPair_105 (by decide) ?_
                        refine lv_imul hx hb dX0_bestPair_107 ?_
                        refine lv_iload hx hb dX0_bestPair_108 (lv_at hl 2 rfl) ?_
                        refine lv_iadd hx hb dX0_bestPair_110 ?_
                        refine lv_istore_n (lv' := [(1, .int (((nI a) * 12) + (nI b))), (7, .int (s_off F a b)), (6, .int ((F 4 a) + (F 4 b))), (5, .int (nI b)), (4, .int (nI a)), (3, .int y3), (2, .int y2), (0, .ref h)]) hx hb dX0_bestPair_111 rfl hl (by decide) rfl (fun ls hl => ?_)
                        refine lv_iload hx hb dX0_bestPair_112 (lv_at hl 2 rfl) ?_
                        refine lv_istore_n (lv' := [(2, .int ((F 4 a) + (F 4 b))), (1, .int (((nI a) * 12) + (nI b))), (7, .int (s_off F a b)), (6, .int ((F 4 a) + (F 4 b))), (5, .int (nI b)), (4, .int (nI a)), (3, .int y3), (0, .ref h)]) hx hb dX0_bestPair_114 rfl hl (by decide) rfl (fun ls hl => ?_)
                        refine lv_iload hx hb dX0_bestPair_115 (lv_at hl 2 rfl) ?_
                        refine lv_istore_n (lv' := [(3, .int (s_off F a b)), (2, .int ((F 4 a) + (F 4 b))), (1, .int (((nI a) * 12) + (nI b))), (7, .int (s_off F a b)), (6, .int ((F 4 a) + (F 4 b))), (5, .int (nI b)), (4, .int (nI a)), (0, .ref h)]) hx hb dX0_bestPair_117 rfl hl (by decide) rfl (fun ls hl => ?_)
                        refine lv_iinc (v := nI (b + 1)) (lv' := [(5, .int (nI (b + 1))), (3, .int (s_off F a b)), (2, .int ((F 4 a) + (F 4 b))), (1, .int (((nI a) * 12) + (nI b))), (7, .int (s_off F a b)), (6, .int ((F 4 a) + (F 4 b))), (4, .int (nI a)), (0, .ref h)]) hx hb dX0_bestPair_118 hl (k := 5) rfl (nI_add b 1) (by decide) rfl (fun ls hl => ?_)
                        refine lv_goto (tgt := 24) hx hb dX0_bestPair_121 (by decide) ?_
                        exact ih_24 (b + 1) (((nI a) * 12) + (nI b)) ((F 4 a) + (F 4 b)) (s_off F a b) (by omega) (by omega) (by rw [pairI_s hab, ← hy]; simp [pairB, c_15, (show a < n from by omega), c_30, (show b < n from by omega), c_47, c_82, c_88, c_94, c_100]) ls (lv_sub hl [0, 6, 1, 2, 3, 7] rfl)
              · refine lv_goto (tgt := 118) hx hb dX0_bestPair_50 (by decide) ?_
                refine lv_iinc (v := nI (b + 1)) (lv' := [(5, .int (nI (b + 1))), (4, .int (nI a)), (3, .int y3), (2, .int y2), (1, .int y1), (0, .ref h)]) hx hb dX0_bestPair_118 hl (k := 0) rfl (nI_add b 1) (by decide) rfl (fun ls hl => ?_)
                refine lv_goto (tgt := 24) hx hb dX0_bestPair_121 (by decide) ?_
                exact ih_24 (b + 1) y1 y2 y3 (by omega) (by omega) (by rw [pairI_s hab, ← hy]; simp [pairB, c_15, (show a < n from by omega), c_30, (show b < n from by omega), c_47]) ls (lv_sub hl [0, 1, 2, 3, 4, 5] rfl)
        exact L_24 (n - (a + 1)) (a + 1) x1 x2 x3 (by omega) (Nat.lt_succ_self a) ((pairI_skip (a + 1) (Nat.le_refl _)).symm) ls (lv_sub hl [0, 1, 2, 3, 4, 5] rfl)
  exact L_9 n 0 (-1) 0 0 (by omega) rfl ls (lv_sub hl [0, 1, 2, 3, 4] rfl)
end
section
/-! Roster, writers -/
def s_add (F : Nat → Nat → Int32) (n : Nat) (x : Int32) : Nat → Nat → Int32 := pu (pu (pu F 0 n x) 1 n 1000) 6 n 1000
def s_note (F : Nat → Nat → Int32) (w q : Nat) : Nat → Nat → Int32 := pu (pu (pu (pu F 2 w (F 2 w + nI q)) 3 w (F 3 w + 1)) 4 w (F 4 w + 1)) 5 w (if q = 2 then F 5 w + 1 else 0)
def s_enter (F : Nat → Nat → Int32) (w : Nat) (g : Int32) (q : Nat) : Nat → Nat → Int32 := s_note (s_set F w (F 1 w + g)) w q
def s_hold (F : Nat → Nat → Int32) (a b q : Nat) : Nat → Nat → Int32 := s_enter (s_enter F a (s_gain F a b (nI q)) q) b (s_gain F b a (nI (2 - q))) (2 - q)
def s_har (F : Nat → Nat → Int32) (a b : Nat) : Nat → Nat → Int32 := s_hold F a b (if F 1 a < F 1 b then 0 else 2)
def s_driftU (F : Nat → Nat → Int32) (m : Nat) : Nat → Nat → Int32 := fo (fun k G => if (3 : Int32) ≤ G 4 k then G else s_set G k (G 1 k - (G 1 k - 1000) / 8)) F m
def s_drift (n : Nat) (F : Nat → Nat → Int32) : Nat → Nat → Int32 := s_driftU F n
def s_clearU (F : Nat → Nat → Int32) (m : Nat) : Nat → Nat → Int32 := fo (fun k G => pu (pu G 2 k 0) 4 k 0) F m
def s_clear (n : Nat) (F : Nat → Nat → Int32) : Nat → Nat → Int32 := s_clearU F n
def s_exchB (n : Nat) (F : Nat → Nat → Int32) (p : Int32) : Bool := match s_at n F p (nI (s_many n F p)), s_at n F (p + 1) 1 with
  | some a, some b => decide (F 2 a < F 2 b)
  | _, _ => false
def s_exch (n : Nat) (F : Nat → Nat → Int32) (p : Int32) : Nat → Nat → Int32 := match s_at n F p (nI (s_many n F p)), s_at n F (p + 1) 1 with
  | some a, some b => if F 2 a < F 2 b then pu (pu F 0 a (p + 1)) 0 b p else F
  | _, _ => F
def s_copyU (G F : Nat → Nat → Int32) (m : Nat) : Nat → Nat → Int32 := fo (fun k X => pu (pu (pu (pu (pu (pu (pu X 0 k (G 0 k)) 1 k (G 1 k)) 2 k (G 2 k)) 3 k (G 3 k)) 4 k (G 4 k)) 5 k (G 5 k)) 6 k (G 6 k)) F m
set_option maxHeartbeats 4000000 in
set_option maxRecDepth 100000 in
theorem c_X0_add (l : Launch) (dC : Nat → ClassId) (dI : Nat → Nat → Nat) (cI : ClassId) (h : Nat) (ad : Nat → Nat) (n : Nat) (F : Nat → Nat → Int32) (sz : Nat) (hn2 : n < 12) (vx : Int32) : Met l yX0_add wsX0_add ({ frames := 0, cells := 0, slots := 0, locals := 0 } : Room) (va_Pc [.ref h, .int vx] (fun U => PW dC dI cI (wR h ad cI n F) sz U)) (va_Qi (fun r (_ : Unit) => r = nI n) (BW dC dI (va_A (wR h ad cI n F) sz) (wR h ad cI (n + 1) (s_add F n vx))) (va_A (wR h ad cI n F) sz)) 0 0 (va_A (wR h ad cI n F) sz) := by
  refine Met.ofW (cc := cX0_add) (maxL := 3) (ret := (some .int)) (by decide) rfl ?_
  intro p e s m args below meth c s₁ B hml hv
  obtain ⟨rfl, hsz, hP, hK, hD0, hE⟩ := hv
  have hx := B.exec
  have hb := B.bytes
  have hr := B.returns
  have hts := atoms_spec (ws := wsX0_add) B.pre
  have hown : s.vm.findClass RX0 = some m.cls := findClass_of_methodNamed B.named
  have hlocks := B.notSynchronized
  subst hsz
  have hD := hD0.self (sz := s.heap.size)
  generalize hAe : va_A (wR h ad cI n F) s.heap.size = A at hD hE ⊢
  have hA : ∀ q : Nat, s.heap.size ≤ q → A q := fun q h9 => by rw [← hAe]; exact Or.inr h9
  have hS : va_S A s.heap s.heap [] := va_S.rf
  have hinX0 : ∀ w ∈ wsX00, w ∈ wsX0_add := by decide +kernel
  have hl := lv_entry ([.ref h, .int vx]) (n := 3) (Nat.le_of_ble_eq_true rfl)
  rw [lg_entry_eq]
  generalize (lg_sl ([.ref h, .int vx]) ++ List.replicate (3 - (lg_sl ([.ref h, .int vx])).length) Slot.unset).toArray = ls at hl ⊢
  have hl : lv_has ls 3 [(0, .ref h), (1, .int vx)] := hl
  refine lv_aload_n hx hb dX0_add_0 rfl (lv_at hl 0 rfl) ?_
  refine va_get (D := (dC, dI)) (ci := 0) (v := .int (nI n)) (C := RX0) (T := TX0) (N := 8) hx hb hts hinX0 hown hK hP 0 rfl rfl 7 (by decide) (hts (.fieldLink RX0 33 "WrestleBook$Roster" "size" "I") (by decide +kernel)) (fun _ h9 => h9) rfl dX0_add_1 ?_
  refine lv_istore_n (lv' := [(2, .int (nI n)), (0, .ref h), (1, .int vx)]) hx hb dX0_add_4 rfl hl (by decide) rfl (fun ls hl => ?_)
  refine lv_aload_n hx hb dX0_add_5 rfl (lv_at hl 1 rfl) ?_
  refine va_get (D := (dC, dI)) (ci := 0) (v := .ref (ad 0)) (C := RX0) (T := TX0) (N := 8) hx hb hts hinX0 hown hK hP 0 rfl rfl 0 (by decide) (hts (.fieldLink RX0 9 "WrestleBook$Roster" "leagues" "[I") (by decide +kernel)) (fun _ h9 => h9) rfl dX0_add_6 ?_
  refine lv_iload_n hx hb dX0_add_9 rfl (lv_at hl 0 rfl) ?_
  refine lv_iload_n hx hb dX0_add_10 rfl (lv_at hl 2 rfl) ?_
  refine rv_iast (k := n) hx hb hK hP hD hS 1 0 rfl rfl (show n < 12 by omega) (by decide) dX0_add_11 (fun H locs hP hD hS => ?_)
  have hP : va_P (dC, dI) vwCl (wR h ad cI n (pu F 0 n vx)) H := hP
  have hD : va_D A (wR h ad cI n (pu F 0 n vx)) := hD
  refine lv_aload_n hx hb dX0_add_12 rfl (lv_at hl 1 rfl) ?_
  refine va_get (D := (dC, dI)) (ci := 0) (v := .ref (ad 1)) (C := RX0) (T := TX0) (N := 8) hx hb hts hinX0 hown hK hP 0 rfl rfl 1 (by decide) (hts (.fieldLink RX0 15 "WrestleBook$Roster" "ratings" "[I") (by decide +kernel)) (fun _ h9 => h9) rfl dX0_add_13 ?_
  refine lv_iload_n hx hb dX0_add_16 rfl (lv_at hl 0 rfl) ?_
  refine lv_sipush (v := 1000) hx hb dX0_add_17 (by decide) ?_
  refine rv_iast (k := n) hx hb hK hP hD hS 2 0 rfl rfl (show n < 12 by omega) (by decide) dX0_add_20 (fun H locs hP hD hS => ?_)
  have hP : va_P (dC, dI) vwCl (wR h ad cI n (pu (pu F 0 n vx) 1 n 1000)) H := hP
  have hD : va_D A (wR h ad cI n (pu (pu F 0 n vx) 1 n 1000)) := hD
  refine lv_aload_n hx hb dX0_add_21 rfl (lv_at hl 1 rfl) ?_
  refine va_get (D := (dC, dI)) (ci := 0) (v := .ref (ad 6)) (C := RX0) (T := TX0) (N := 8) hx hb hts hinX0 hown hK hP 0 rfl rfl 6 (by decide) (hts (.fieldLink RX0 30 "WrestleBook$Roster" "bests" "[I") (by decide +kernel)) (fun _ h9 => h9) rfl dX0_add_22 ?_
  refine lv_iload_n hx hb dX0_add_25 rfl (lv_at hl 0 rfl) ?_
  refine lv_sipush (v := 1000) hx hb dX0_add_26 (by decide) ?_
  refine rv_iast (k := n) hx hb hK hP hD hS 7 0 rfl rfl (show n < 12 by omega) (by decide) dX0_add_29 (fun H locs hP hD hS => ?_)
  have hP : va_P (dC, dI) vwCl (wR h ad cI n (pu (pu (pu F 0 n vx) 1 n 1000) 6 n 1000)) H := hP
  have hD : va_D A (wR h ad cI n (pu (pu (pu F 0 n vx) 1 n 1000) 6 n 1000)) := hD
  refine lv_aload_n hx hb dX0_add_30 rfl (lv_at hl 1 rfl) ?_
  refine lv_dup hx hb dX0_add_31 rfl ?_
  refine va_get (D := (dC, dI)) (ci := 0) (v := .int (nI n)) (C := RX0) (T := TX0) (N := 8) hx hb hts hinX0 hown hK hP 0 rfl rfl 7 (by decide) (hts (.fieldLink RX0 33 "WrestleBook$Roster" "size" "I") (by decide +kernel)) (fun _ h9 => h9) rfl dX0_add_32 ?_
  refine lv_iconst (v := 1) hx hb dX0_add_35 (by decide) ?_
  refine lv_iadd hx hb dX0_add_36 ?_
  refine rv_top (y := nI (n + 1)) (nI_1 n) ?_
  refine va_put (D := (dC, dI)) (ci := 0) (v := .int (nI (n + 1))) (ty := .int) (C := RX0) (T := TX0) (N := 8) hx hb hts hinX0 tyX0 tyX0_ok nmX0 hown hK hP hD hS 0 rfl rfl 7 (by decide) (hts (.fieldLink RX0 33 "WrestleBook$Roster" "size" "I") (by decide +kernel)) (fun _ h9 => h9) rfl (by decide +kernel) rfl rfl (Nat.le_of_ble_eq_true rfl) dX0_add_37 (fun H locs hP hD hS => ?_)
  have hP : va_P (dC, dI) vwCl (wR h ad cI (n + 1) (pu (pu (pu F 0 n vx) 1 n 1000) 6 n 1000)) H := hP
  have hD : va_D A (wR h ad cI (n + 1) (pu (pu (pu F 0 n vx) 1 n 1000) 6 n 1000)) := hD
  refine lv_iload_n hx hb dX0_add_40 rfl (lv_at hl 0 rfl) ?_
  have hP8 : va_P (dC, dI) vwCl (wR h ad cI (n + 1) (s_add F n vx)) H := hP
  have hD8 : va_D A (wR h ad cI (n + 1) (s_add F n vx)) := hD
  exact W.iret (v := nI n) hx hb hr (fun t ht hW => ⟨⟨_, (), rfl, (show nI n = nI n from by rfl), by rw [ht]; exact hP8, hD8⟩, hS.F ht⟩) hS.2.2 dX0_add_41

set_option maxHeartbeats 4000000 in
set_option maxRecDepth 100000 in
theorem c_X0_setRating (l : Launch) (dC : Nat → ClassId) (dI : Nat → Nat → Nat) (cI : ClassId) (h : Nat) (ad : Nat → Nat) (n : Nat) (F : Nat → Nat → Int32) (sz : Nat) (w : Nat) (i_w : w < n) (vx : Int32) (hn : n ≤ 12) : Met l yX0_setRating wsX0_setRating ({ frames := 1, cells := 0, slots := 0, locals := 15 } : Room) (va_Pc [.ref h, .int (nI w), .int vx] (fun U => PW dC dI cI (wR h ad cI n F) sz U)) (va_Qv (fun (_ : Unit) => True) (BW dC dI (va_A (wR h ad cI n F) sz) (wR h ad cI n (s_set F w vx))) (va_A (wR h ad cI n F) sz)) 0 0 (va_A (wR h ad cI n F) sz) := by
  refine Met.ofW (cc := cX0_setRating) (maxL := 3) (ret := none) (by decide) rfl ?_
  intro p e s m args below meth c s₁ B hml hv
  obtain ⟨rfl, hsz, hP, hK, hD0, hE⟩ := hv
  have hx := B.exec
  have hb := B.bytes
  have hr := B.returns
  have hts := atoms_spec (ws := wsX0_setRating) B.pre
  have hown : s.vm.findClass RX0 = some m.cls := findClass_of_methodNamed B.named
  have hlocks := B.notSynchronized
  subst hsz
  have hD := hD0.self (sz := s.heap.size)
  generalize hAe : va_A (wR h ad cI n F) s.heap.size = A at hD hE ⊢
  have hA : ∀ q : Nat, s.heap.size ≤ q → A q := fun q h9 => by rw [← hAe]; exact Or.inr h9
  have hS : va_S A s.heap s.heap [] := va_S.rf
  have hinX0 : ∀ w ∈ wsX00, w ∈ wsX0_setRating := by decide +kernel
  have hl := lv_entry ([.ref h, .int (nI w), .int vx]) (n := 3) (Nat.le_of_ble_eq_true rfl)
  rw [lg_entry_eq]
  generalize (lg_sl ([.ref h, .int (nI w), .int vx]) ++ List.replicate (3 - (lg_sl ([.ref h, .int (nI w), .int vx])).length) Slot.unset).toArray = ls at hl ⊢
  have hl : lv_has ls 3 [(0, .ref h), (1, .int (nI w)), (2, .int vx)] := hl
  refine lv_aload_n hx hb dX0_setRating_0 rfl (lv_at hl 0 rfl) ?_
  refine va_get (D := (dC, dI)) (ci := 0) (v := .ref (ad 1)) (C := RX0) (T := TX0) (N := 8) hx hb hts hinX0 hown hK hP 0 rfl rfl 1 (by decide) (hts (.fieldLink RX0 15 "WrestleBook$Roster" "ratings" "[I") (by decide +kernel)) (fun _ h9 => h9) rfl dX0_setRating_1 ?_
  refine lv_iload_n hx hb dX0_setRating_4 rfl (lv_at hl 1 rfl) ?_
  refine lv_iload_n hx hb dX0_setRating_5 rfl (lv_at hl 2 rfl) ?_
  refine rv_iast (k := w) hx hb hK hP hD hS 2 0 rfl rfl (show w < 12 by omega) (by decide) dX0_setRating_6 (fun H locs hP hD hS => ?_)
  have hP : va_P (dC, dI) vwCl (wR h ad cI n (pu F 1 w vx)) H := hP
  have hD : va_D A (wR h ad cI n (pu F 1 w vx)) := hD
  refine lv_aload_n hx hb dX0_setRating_7 rfl (lv_at hl 0 rfl) ?_
  refine va_get (D := (dC, dI)) (ci := 0) (v := .ref (ad 6)) (C := RX0) (T := TX0) (N := 8) hx hb hts hinX0 hown hK hP 0 rfl rfl 6 (by decide) (hts (.fieldLink RX0 30 "WrestleBook$Roster" "bests" "[I") (by decide +kernel)) (fun _ h9 => h9) rfl dX0_setRating_8 ?_
  refine lv_iload_n hx hb dX0_setRating_11 rfl (lv_at hl 1 rfl) ?_
  refine lv_aload_n hx hb dX0_setRating_12 rfl (lv_at hl 0 rfl) ?_
  refine va_get (D := (dC, dI)) (ci := 0) (v := .ref (ad 6)) (C := RX0) (T := TX0) (N := 8) hx hb hts hinX0 hown hK hP 0 rfl rfl 6 (by decide) (hts (.fieldLink RX0 30 "WrestleBook$Roster" "bests" "[I") (by decide +kernel)) (fun _ h9 => h9) rfl dX0_setRating_13 ?_
  refine lv_iload_n hx hb dX0_setRating_16 rfl (lv_at hl 1 rfl) ?_
  refine rv_iald (k := w) hx hb hK hP 7 0 rfl rfl (show w < 12 by omega) (by decide) dX0_setRating_17 ?_
  refine lv_iload_n hx hb dX0_setRating_18 rfl (lv_at hl 2 rfl) ?_
  refine va_mmax hx hb (hml.trans hl.1.symm) hown (hts (.methodLink RX0 37 Lib.Math.max.name) (by decide +kernel)) (hts (.static Lib.Math.max.name) (by decide +kernel)) (hts (.initialized "java/lang/Math") (by decide +kernel)) (hts (.code Lib.Math.max.name Lib.Math.max.code 2 (some .int)) (by decide +kernel)) (Nat.le_of_ble_eq_true rfl) (Nat.le_of_ble_eq_true rfl) (Nat.zero_le _) (Nat.zero_le _) dX0_setRating_19 ?_
  refine rv_top (y := maxI (F 6 w) vx) (by simp [pu_app, maxI]) ?_
  refine rv_iast (k := w) hx hb hK hP hD hS 7 0 rfl rfl (show w < 12 by omega) (by decide) dX0_setRating_22 (fun H locs hP hD hS => ?_)
  have hP : va_P (dC, dI) vwCl (wR h ad cI n (pu (pu F 1 w vx) 6 w (maxI (F 6 w) vx))) H := hP
  have hD : va_D A (wR h ad cI n (pu (pu F 1 w vx) 6 w (maxI (F 6 w) vx))) := hD
  have hP8 : va_P (dC, dI) vwCl (wR h ad cI n (s_set F w vx)) H := hP
  have hD8 : va_D A (wR h ad cI n (s_set F w vx)) := hD
  exact W.vret hx hb hr (fun t ht hW => ⟨⟨(), rfl, trivial, by rw [ht]; exact hP8, hD8⟩, hS.F ht⟩) hS.2.2 dX0_setRating_23

set_option maxHeartbeats 4000000 in
set_option maxRecDepth 100000 in
theorem c_X0_enter (l : Launch) (dC : Nat → ClassId) (dI : Nat → Nat → Nat) (cI : ClassId) (h : Nat) (ad : Nat → Nat) (n : Nat) (F : Nat → Nat → Int32) (sz : Nat) (w : Nat) (i_w : w < n) (vg : Int32) (q : Nat) (hq : q ≤ 2) (hn : n ≤ 12) : Met l yX0_enter wsX0_enter ({ frames := 2, cells := 0, slots := 0, locals := 37 } : Room) (va_Pc [.ref h, .int (nI w), .int vg, .int (nI q)] (fun U => PW dC dI cI (wR h ad cI n F) sz U)) (va_Qv (fun (_ : Unit) => True) (BW dC dI (va_A (wR h ad cI n F) sz) (wR h ad cI n (s_enter F w vg q))) (va_A (wR h ad cI n F) sz)) 0 0 (va_A (wR h ad cI n F) sz) := by
  refine Met.ofW (cc := cX0_enter) (maxL := 4) (ret := none) (by decide) rfl ?_
  intro p e s m args below meth c s₁ B hml hv
  obtain ⟨rfl, hsz, hP, hK, hD0, hE⟩ := hv
  have hx := B.exec
  have hb := B.bytes
  have hr := B.returns
  have hts := atoms_spec (ws := wsX0_enter) B.pre
  have hown : s.vm.findClass RX0 = some m.cls := findClass_of_methodNamed B.named
  have hlocks := B.notSynchronized
  subst hsz
  have hD := hD0.self (sz := s.heap.size)
  generalize hAe : va_A (wR h ad cI n F) s.heap.size = A at hD hE ⊢
  have hA : ∀ q : Nat, s.heap.size ≤ q → A q := fun q h9 => by rw [← hAe]; exact Or.inr h9
  have hS : va_S A s.heap s.heap [] := va_S.rf
  have hinX0 : ∀ w ∈ wsX00, w ∈ wsX0_enter := by decide +kernel
  have hl := lv_entry ([.ref h, .int (nI w), .int vg, .int (nI q)]) (n := 4) (Nat.le_of_ble_eq_true rfl)
  rw [lg_entry_eq]
  generalize (lg_sl ([.ref h, .int (nI w), .int vg, .int (nI q)]) ++ List.replicate (4 - (lg_sl ([.ref h, .int (nI w), .int vg, .int (nI q)])).length) Slot.unset).toArray = ls at hl ⊢
  have hl : lv_has ls 4 [(0, .ref h), (1, .int (nI w)), (2, .int vg), (3, .int (nI q))] := hl
  refine lv_aload_n hx hb dX0_enter_0 rfl (lv_at hl 0 rfl) ?_
  refine lv_iload_n hx hb dX0_enter_1 rfl (lv_at hl 1 rfl) ?_
  refine lv_aload_n hx hb dX0_enter_2 rfl (lv_at hl 0 rfl) ?_
  refine va_get (D := (dC, dI)) (ci := 0) (v := .ref (ad 1)) (C := RX0) (T := TX0) (N := 8) hx hb hts hinX0 hown hK hP 0 rfl rfl 1 (by decide) (hts (.fieldLink RX0 15 "WrestleBook$Roster" "ratings" "[I") (by decide +kernel)) (fun _ h9 => h9) rfl dX0_enter_3 ?_
  refine lv_iload_n hx hb dX0_enter_6 rfl (lv_at hl 1 rfl) ?_
  refine rv_iald (k := w) hx hb hK hP 2 0 rfl rfl (show w < 12 by omega) (by decide) dX0_enter_7 ?_
  refine lv_iload_n hx hb dX0_enter_8 rfl (lv_at hl 2 rfl) ?_
  refine lv_iadd hx hb dX0_enter_9 ?_
  have hPc := hP.sub (ws' := (wR h ad cI n F)) [0, 1, 2, 3, 4, 5, 6, 7] rfl
  have hDc := hD.sub (ws' := (wR h ad cI n F)) [0, 1, 2, 3, 4, 5, 6, 7] (by decide) rfl
  have hFc := va_free (wc := (wR h ad cI n F)) hD hS hA [0, 1, 2, 3, 4, 5, 6, 7] rfl
  refine va_callv (va_runV (As := [.int (nI w), .int ((F 1 w) + vg)]) (rest := []) ⟨hx, hb, hml, hown, hts⟩ (c_X0_setRating l dC dI cI h ad n F s.heap.size w (show w < n by omega) ((F 1 w) + vg) hn) (cwV 2 hts gX0_enter_X0_setRating rfl rfl rfl (by decide +kernel) ⟨Nat.le_of_ble_eq_true rfl, Nat.le_of_ble_eq_true rfl⟩) ⟨PW.blind, va_recv hK hP (ci := 0) (q0 := 0) rfl rfl, fun U hU hW => ⟨rfl, PW.go hPc hK hDc hE hS hFc hU hW⟩⟩ rfl rfl hl.1 rfl (lv_room (Nat.le_of_ble_eq_true rfl)) dX0_enter_10 ⟨Nat.le_of_ble_eq_true rfl, Nat.le_of_ble_eq_true rfl⟩) hS (fun q _ h9 => hFc q h9) hFc (fun u9 t9 H1 locs ht9 hvm9 hw9 hB9 hz9 hk9 hS => ?_)
  obtain ⟨hP9, hD9⟩ := hB9
  rw [ht9] at hP9
  obtain ⟨hP, hD⟩ := va_join (wr := []) (w1 := wR h ad cI n (s_set F w ((F 1 w) + vg))) hP hD [0, 1, 2, 3, 4, 5, 6, 7] [] rfl rfl (by decide) (by decide) hk9 hFc hP9 hD9
  generalize H1 = H at hP hS ⊢
  have hP : va_P (dC, dI) vwCl (wR h ad cI n (s_set F w ((F 1 w) + vg))) H := hP
  have hD : va_D A (wR h ad cI n (s_set F w ((F 1 w) + vg))) := hD
  refine lv_aload_n hx hb dX0_enter_13 rfl (lv_at hl 0 rfl) ?_
  refine va_get (D := (dC, dI)) (ci := 0) (v := .ref (ad 2)) (C := RX0) (T := TX0) (N := 8) hx hb hts hinX0 hown hK hP 0 rfl rfl 2 (by decide) (hts (.fieldLink RX0 18 "WrestleBook$Roster" "points" "[I") (by decide +kernel)) (fun _ h9 => h9) rfl dX0_enter_14 ?_
  refine lv_iload_n hx hb dX0_enter_17 rfl (lv_at hl 1 rfl) ?_
  refine lv_dup2_11 hx hb dX0_enter_18 rfl rfl ?_
  refine rv_iald (k := w) hx hb hK hP 3 0 rfl rfl (show w < 12 by omega) (by decide) dX0_enter_19 ?_
  refine lv_iload_n hx hb dX0_enter_20 rfl (lv_at hl 3 rfl) ?_
  refine lv_iadd hx hb dX0_enter_21 ?_
  refine rv_iast (k := w) hx hb hK hP hD hS 3 0 rfl rfl (show w < 12 by omega) (by decide) dX0_enter_22 (fun H locs hP hD hS => ?_)
  have hP : va_P (dC, dI) vwCl (wR h ad cI n (pu (s_set F w ((F 1 w) + vg)) 2 w (((s_set F w ((F 1 w) + vg)) 2 w) + (nI q)))) H := hP
  have hD : va_D A (wR h ad cI n (pu (s_set F w ((F 1 w) + vg)) 2 w (((s_set F w ((F 1 w) + vg)) 2 w) + (nI q)))) := hD
  refine lv_aload_n hx hb dX0_enter_23 rfl (lv_at hl 0 rfl) ?_
  refine va_get (D := (dC, dI)) (ci := 0) (v := .ref (ad 3)) (C := RX0) (T := TX0) (N := 8) hx hb hts hinX0 hown hK hP 0 rfl rfl 3 (by decide) (hts (.fieldLink RX0 21 "WrestleBook$Roster" "bouts" "[I") (by decide +kernel)) (fun _ h9 => h9) rfl dX0_enter_24 ?_
  refine lv_iload_n hx hb dX0_enter_27 rfl (lv_at hl 1 rfl) ?_
  refine lv_dup2_11 hx hb dX0_enter_28 rfl rfl ?_
  refine rv_iald (k := w) hx hb hK hP 4 0 rfl rfl (show w < 12 by omega) (by decide) dX0_enter_29 ?_
  refine lv_iconst (v := 1) hx hb dX0_enter_30 (by decide) ?_
  refine lv_iadd hx hb dX0_enter_31 ?_
  refine rv_top (y := (s_set F w (F 1 w + vg)) 3 w + 1) (by simp [pu_app]) ?_
  refine rv_iast (k := w) hx hb hK hP hD hS 4 0 rfl rfl (show w < 12 by omega) (by decide) dX0_enter_32 (fun H locs hP hD hS => ?_)
  have hP : va_P (dC, dI) vwCl (wR h ad cI n (pu (pu (s_set F w ((F 1 w) + vg)) 2 w (((s_set F w ((F 1 w) + vg)) 2 w) + (nI q))) 3 w ((s_set F w (F 1 w + vg)) 3 w + 1))) H := hP
  have hD : va_D A (wR h ad cI n (pu (pu (s_set F w ((F 1 w) + vg)) 2 w (((s_set F w ((F 1 w) + vg)) 2 w) + (nI q))) 3 w ((s_set F w (F 1 w + vg)) 3 w + 1))) := hD
  refine lv_aload_n hx hb dX0_enter_33 rfl (lv_at hl 0 rfl) ?_
  refine va_get (D := (dC, dI)) (ci := 0) (v := .ref (ad 4)) (C := RX0) (T := TX0) (N := 8) hx hb hts hinX0 hown hK hP 0 rfl rfl 4 (by decide) (hts (.fieldLink RX0 24 "WrestleBook$Roster" "seasonBouts" "[I") (by decide +kernel)) (fun _ h9 => h9) rfl dX0_enter_34 ?_
  refine lv_iload_n hx hb dX0_enter_37 rfl (lv_at hl 1 rfl) ?_
  refine lv_dup2_11 hx hb dX0_enter_38 rfl rfl ?_
  refine rv_iald (k := w) hx hb hK hP 5 0 rfl rfl (show w < 12 by omega) (by decide) dX0_enter_39 ?_
  refine lv_iconst (v := 1) hx hb dX0_enter_40 (by decide) ?_
  refine lv_iadd hx hb dX0_enter_41 ?_
  refine rv_top (y := (s_set F w (F 1 w + vg)) 4 w + 1) (by simp [pu_app]) ?_
  refine rv_iast (k := w) hx hb hK hP hD hS 5 0 rfl rfl (show w < 12 by omega) (by decide) dX0_enter_42 (fun H locs hP hD hS => ?_)
  have hP : va_P (dC, dI) vwCl (wR h ad cI n (pu (pu (pu (s_set F w ((F 1 w) + vg)) 2 w (((s_set F w ((F 1 w) + vg)) 2 w) + (nI q))) 3 w ((s_set F w (F 1 w + vg)) 3 w + 1)) 4 w ((s_set F w (F 1 w + vg)) 4 w + 1))) H := hP
  have hD : va_D A (wR h ad cI n (pu (pu (pu (s_set F w ((F 1 w) + vg)) 2 w (((s_set F w ((F 1 w) + vg)) 2 w) + (nI q))) 3 w ((s_set F w (F 1 w + vg)) 3 w + 1)) 4 w ((s_set F w (F 1 w + vg)) 4 w + 1))) := hD
  refine lv_aload_n hx hb dX0_enter_43 rfl (lv_at hl 0 rfl) ?_
  refine va_get (D := (dC, dI)) (ci := 0) (v := .ref (ad 5)) (C := RX0) (T := TX0) (N := 8) hx hb hts hinX0 hown hK hP 0 rfl rfl 5 (by decide) (hts (.fieldLink RX0 27 "WrestleBook$Roster" "winRows" "[I") (by decide +kernel)) (fun _ h9 => h9) rfl dX0_enter_44 ?_
  refine lv_iload_n hx hb dX0_enter_47 rfl (lv_at hl 1 rfl) ?_
  refine lv_iload_n hx hb dX0_enter_48 rfl (lv_at hl 3 rfl) ?_
  refine lv_iconst (v := 2) hx hb dX0_enter_49 (by decide) ?_
  refine rv_icmp_ne (tgt := 64) hx hb (a := q) (b := 2) (by omega) (by omega) dX0_enter_50 (by decide) (fun c_50 => ?_) (fun c_50 => ?_)
  · refine lv_iconst (v := 0) hx hb dX0_enter_64 (by decide) ?_
    refine rv_top (y := if q = 2 then (s_set F w (F 1 w + vg)) 5 w + 1 else 0) (by rw [if_neg c_50]) ?_
    refine rv_iast (k := w) hx hb hK hP hD hS 6 0 rfl rfl (show w < 12 by omega) (by decide) dX0_enter_65 (fun H locs hP hD hS => ?_)
    have hP : va_P (dC, dI) vwCl (wR h ad cI n (pu (pu (pu (pu (s_set F w ((F 1 w) + vg)) 2 w (((s_set F w ((F 1 w) + vg)) 2 w) + (nI q))) 3 w ((s_set F w (F 1 w + vg)) 3 w + 1)) 4 w ((s_set F w (F 1 w + vg)) 4 w + 1)) 5 w (if q = 2 then (s_set F w (F 1 w + vg)) 5 w + 1 else 0))) H := hP
    have hD : va_D A (wR h ad cI n (pu (pu (pu (pu (s_set F w ((F 1 w) + vg)) 2 w (((s_set F w ((F 1 w) + vg)) 2 w) + (nI q))) 3 w ((s_set F w (F 1 w + vg)) 3 w + 1)) 4 w ((s_set F w (F 1 w + vg)) 4 w + 1)) 5 w (if q = 2 then (s_set F w (F 1 w + vg)) 5 w + 1 else 0))) := hD
    have hP8 : va_P (dC, dI) vwCl (wR h ad cI n (s_enter F w vg q)) H := hP
    have hD8 : va_D A (wR h ad cI n (s_enter F w vg q)) := hD
    exact W.vret hx hb hr (fun t ht hW => ⟨⟨(), rfl, trivial, by rw [ht]; exact hP8, hD8⟩, hS.F ht⟩) hS.2.2 dX0_enter_66
  · refine lv_aload_n hx hb dX0_enter_53 rfl (lv_at hl 0 rfl) ?_
    refine va_get (D := (dC, dI)) (ci := 0) (v := .ref (ad 5)) (C := RX0) (T := TX0) (N := 8) hx hb hts hinX0 hown hK hP 0 rfl rfl 5 (by decide) (hts (.fieldLink RX0 27 "WrestleBook$Roster" "winRows" "[I") (by decide +kernel)) (fun _ h9 => h9) rfl dX0_enter_54 ?_
    refine lv_iload_n hx hb dX0_enter_57 rfl (lv_at hl 1 rfl) ?_
    refine rv_iald (k := w) hx hb hK hP 6 0 rfl rfl (show w < 12 by omega) (by decide) dX0_enter_58 ?_
    refine lv_iconst (v := 1) hx hb dX0_enter_59 (by decide) ?_
    refine lv_iadd hx hb dX0_enter_60 ?_
    refine rv_top (y := if q = 2 then (s_set F w (F 1 w + vg)) 5 w + 1 else 0) (by rw [if_pos c_50]; simp [pu_app]) ?_
    refine lv_goto (tgt := 65) hx hb dX0_enter_61 (by decide) ?_
    refine rv_iast (k := w) hx hb hK hP hD hS 6 0 rfl rfl (show w < 12 by omega) (by decide) dX0_enter_65 (fun H locs hP hD hS => ?_)
    have hP : va_P (dC, dI) vwCl (wR h ad cI n (pu (pu (pu (pu (s_set F w ((F 1 w) + vg)) 2 w (((s_set F w ((F 1 w) + vg)) 2 w) + (nI q))) 3 w ((s_set F w (F 1 w + vg)) 3 w + 1)) 4 w ((s_set F w (F 1 w + vg)) 4 w + 1)) 5 w (if q = 2 then (s_set F w (F 1 w + vg)) 5 w + 1 else 0))) H := hP
    have hD : va_D A (wR h ad cI n (pu (pu (pu (pu (s_set F w ((F 1 w) + vg)) 2 w (((s_set F w ((F 1 w) + vg)) 2 w) + (nI q))) 3 w ((s_set F w (F 1 w + vg)) 3 w + 1)) 4 w ((s_set F w (F 1 w + vg)) 4 w + 1)) 5 w (if q = 2 then (s_set F w (F 1 w + vg)) 5 w + 1 else 0))) := hD
    have hP8 : va_P (dC, dI) vwCl (wR h ad cI n (s_enter F w vg q)) H := hP
    have hD8 : va_D A (wR h ad cI n (s_enter F w vg q)) := hD
    exact W.vret hx hb hr (fun t ht hW => ⟨⟨(), rfl, trivial, by rw [ht]; exact hP8, hD8⟩, hS.F ht⟩) hS.2.2 dX0_enter_66

set_option maxHeartbeats 4000000 in
set_option maxRecDepth 100000 in
theorem c_X0_hold (l : Launch) (dC : Nat → ClassId) (dI : Nat → Nat → Nat) (cI : ClassId) (h : Nat) (ad : Nat → Nat) (n : Nat) (F : Nat → Nat → Int32) (sz : Nat) (a : Nat) (i_a : a < n) (b : Nat) (i_b : b < n) (q : Nat) (hq : q ≤ 2) (hn : n ≤ 12) (hR : okR n F) : Met l yX0_hold wsX0_hold ({ frames := 4, cells := 0, slots := 0, locals := 84 } : Room) (va_Pc [.ref h, .int (nI a), .int (nI b), .int (nI q)] (fun U => PW dC dI cI (wR h ad cI n F) sz U)) (va_Qi (fun r (_ : Unit) => r = s_gain F a b (nI q)) (BW dC dI (va_A (wR h ad cI n F) sz) (wR h ad cI n (s_hold F a b q))) (va_A (wR h ad cI n F) sz)) 0 0 (va_A (wR h ad cI n F) sz) := by
  refine Met.ofW (cc := cX0_hold) (maxL := 6) (ret := (some .int)) (by decide) rfl ?_
  intro p e s m args below meth c s₁ B hml hv
  obtain ⟨rfl, hsz, hP, hK, hD0, hE⟩ := hv
  have hx := B.exec
  have hb := B.bytes
  have hr := B.returns
  have hts := atoms_spec (ws := wsX0_hold) B.pre
  have hown : s.vm.findClass RX0 = some m.cls := findClass_of_methodNamed B.named
  have hlocks := B.notSynchronized
  subst hsz
  have hD := hD0.self (sz := s.heap.size)
  generalize hAe : va_A (wR h ad cI n F) s.heap.size = A at hD hE ⊢
  have hA : ∀ q : Nat, s.heap.size ≤ q → A q := fun q h9 => by rw [← hAe]; exact Or.inr h9
  have hS : va_S A s.heap s.heap [] := va_S.rf
  have hl := lv_entry ([.ref h, .int (nI a), .int (nI b), .int (nI q)]) (n := 6) (Nat.le_of_ble_eq_true rfl)
  rw [lg_entry_eq]
  generalize (lg_sl ([.ref h, .int (nI a), .int (nI b), .int (nI q)]) ++ List.replicate (6 - (lg_sl ([.ref h, .int (nI a), .int (nI b), .int (nI q)])).length) Slot.unset).toArray = ls at hl ⊢
  have hl : lv_has ls 6 [(0, .ref h), (1, .int (nI a)), (2, .int (nI b)), (3, .int (nI q))] := hl
  refine lv_aload_n hx hb dX0_hold_0 rfl (lv_at hl 0 rfl) ?_
  refine lv_iload_n hx hb dX0_hold_1 rfl (lv_at hl 1 rfl) ?_
  refine lv_iload_n hx hb dX0_hold_2 rfl (lv_at hl 2 rfl) ?_
  refine lv_iload_n hx hb dX0_hold_3 rfl (lv_at hl 3 rfl) ?_
  refine vp_callSi (W.runV (As := [.int (nI a), .int (nI b), .int (nI q)]) (rest := []) ⟨hx, hb, hml, hown, hts⟩ (c_X0_gain l dC dI cI h ad n F a (show a < n by omega) b (show b < n by omega) (nI q) hn hR) (cwV 3 hts gX0_hold_X0_gain rfl rfl rfl (by decide +kernel) ⟨Nat.le_of_ble_eq_true rfl, Nat.le_of_ble_eq_true rfl⟩) ⟨PR.blind, va_recv hK hP (ci := 0) (q0 := 0) rfl rfl, fun U hU hW => ⟨rfl, PR.go hP hK hE hS hU hW⟩⟩ rfl rfl hl.1 rfl (lv_room (Nat.le_of_ble_eq_true rfl)) dX0_hold_4 ⟨Nat.le_of_ble_eq_true rfl, Nat.le_of_ble_eq_true rfl⟩) (fun r hr0 => ?_)
  subst hr0
  refine lv_istore (lv' := [(4, .int (s_gain F a b (nI q))), (0, .ref h), (1, .int (nI a)), (2, .int (nI b)), (3, .int (nI q))]) hx hb dX0_hold_7 hl (by decide) rfl (fun ls hl => ?_)
  refine lv_aload_n hx hb dX0_hold_9 rfl (lv_at hl 1 rfl) ?_
  refine lv_iload_n hx hb dX0_hold_10 rfl (lv_at hl 3 rfl) ?_
  refine lv_iload_n hx hb dX0_hold_11 rfl (lv_at hl 2 rfl) ?_
  refine lv_iconst (v := 2) hx hb dX0_hold_12 (by decide) ?_
  refine lv_iload_n hx hb dX0_hold_13 rfl (lv_at hl 4 rfl) ?_
  refine lv_isub hx hb dX0_hold_14 ?_
  refine rv_top (y := nI (2 - q)) (pk_sub (a := 2) hq) ?_
  refine vp_callSi (W.runV (As := [.int (nI b), .int (nI a), .int (nI (2 - q))]) (rest := []) ⟨hx, hb, hml, hown, hts⟩ (c_X0_gain l dC dI cI h ad n F b (show b < n by omega) a (show a < n by omega) (nI (2 - q)) hn hR) (cwV 3 hts gX0_hold_X0_gain rfl rfl rfl (by decide +kernel) ⟨Nat.le_of_ble_eq_true rfl, Nat.le_of_ble_eq_true rfl⟩) ⟨PR.blind, va_recv hK hP (ci := 0) (q0 := 0) rfl rfl, fun U hU hW => ⟨rfl, PR.go hP hK hE hS hU hW⟩⟩ rfl rfl hl.1 rfl (lv_room (Nat.le_of_ble_eq_true rfl)) dX0_hold_15 ⟨Nat.le_of_ble_eq_true rfl, Nat.le_of_ble_eq_true rfl⟩) (fun r hr0 => ?_)
  subst hr0
  refine lv_istore (lv' := [(5, .int (s_gain F b a (nI (2 - q)))), (4, .int (s_gain F a b (nI q))), (0, .ref h), (1, .int (nI a)), (2, .int (nI b)), (3, .int (nI q))]) hx hb dX0_hold_18 hl (by decide) rfl (fun ls hl => ?_)
  refine lv_aload_n hx hb dX0_hold_20 rfl (lv_at hl 2 rfl) ?_
  refine lv_iload_n hx hb dX0_hold_21 rfl (lv_at hl 3 rfl) ?_
  refine lv_iload hx hb dX0_hold_22 (lv_at hl 1 rfl) ?_
  refine lv_iload_n hx hb dX0_hold_24 rfl (lv_at hl 5 rfl) ?_
  have hPc := hP.sub (ws' := (wR h ad cI n F)) [0, 1, 2, 3, 4, 5, 6, 7] rfl
  have hDc := hD.sub (ws' := (wR h ad cI n F)) [0, 1, 2, 3, 4, 5, 6, 7] (by decide) rfl
  have hFc := va_free (wc := (wR h ad cI n F)) hD hS hA [0, 1, 2, 3, 4, 5, 6, 7] rfl
  refine va_callv (va_runV (As := [.int (nI a), .int (s_gain F a b (nI q)), .int (nI q)]) (rest := []) ⟨hx, hb, hml, hown, hts⟩ (c_X0_enter l dC dI cI h ad n F s.heap.size a (show a < n by omega) (s_gain F a b (nI q)) q hq hn) (cwV 3 hts gX0_hold_X0_enter rfl rfl rfl (by decide +kernel) ⟨Nat.le_of_ble_eq_true rfl, Nat.le_of_ble_eq_true rfl⟩) ⟨PW.blind, va_recv hK hP (ci := 0) (q0 := 0) rfl rfl, fun U hU hW => ⟨rfl, PW.go hPc hK hDc hE hS hFc hU hW⟩⟩ rfl rfl hl.1 rfl (lv_room (Nat.le_of_ble_eq_true rfl)) dX0_hold_25 ⟨Nat.le_of_ble_eq_true rfl, Nat.le_of_ble_eq_true rfl⟩) hS (fun q _ h9 => hFc q h9) hFc (fun u9 t9 H1 locs ht9 hvm9 hw9 hB9 hz9 hk9 hS => ?_)
  obtain ⟨hP9, hD9⟩ := hB9
  rw [ht9] at hP9
  obtain ⟨hP, hD⟩ := va_join (wr := []) (w1 := wR h ad cI n (s_enter F a (s_gain F a b (nI q)) q)) hP hD [0, 1, 2, 3, 4, 5, 6, 7] [] rfl rfl (by decide) (by decide) hk9 hFc hP9 hD9
  generalize H1 = H at hP hS ⊢
  have hP : va_P (dC, dI) vwCl (wR h ad cI n (s_enter F a (s_gain F a b (nI q)) q)) H := hP
  have hD : va_D A (wR h ad cI n (s_enter F a (s_gain F a b (nI q)) q)) := hD
  refine lv_aload_n hx hb dX0_hold_28 rfl (lv_at hl 2 rfl) ?_
  refine lv_iload_n hx hb dX0_hold_29 rfl (lv_at hl 4 rfl) ?_
  refine lv_iload hx hb dX0_hold_30 (lv_at hl 0 rfl) ?_
  refine lv_iconst (v := 2) hx hb dX0_hold_32 (by decide) ?_
  refine lv_iload_n hx hb dX0_hold_33 rfl (lv_at hl 5 rfl) ?_
  refine lv_isub hx hb dX0_hold_34 ?_
  refine rv_top (y := nI (2 - q)) (pk_sub (a := 2) hq) ?_
  have hPc := hP.sub (ws' := (wR h ad cI n (s_enter F a (s_gain F a b (nI q)) q))) [0, 1, 2, 3, 4, 5, 6, 7] rfl
  have hDc := hD.sub (ws' := (wR h ad cI n (s_enter F a (s_gain F a b (nI q)) q))) [0, 1, 2, 3, 4, 5, 6, 7] (by decide) rfl
  have hFc := va_free (wc := (wR h ad cI n (s_enter F a (s_gain F a b (nI q)) q))) hD hS hA [0, 1, 2, 3, 4, 5, 6, 7] rfl
  refine va_callv (va_runV (As := [.int (nI b), .int (s_gain F b a (nI (2 - q))), .int (nI (2 - q))]) (rest := []) ⟨hx, hb, hml, hown, hts⟩ (c_X0_enter l dC dI cI h ad n (s_enter F a (s_gain F a b (nI q)) q) H.size b (show b < n by omega) (s_gain F b a (nI (2 - q))) (2 - q) (Nat.sub_le 2 q) hn) (cwV 3 hts gX0_hold_X0_enter rfl rfl rfl (by decide +kernel) ⟨Nat.le_of_ble_eq_true rfl, Nat.le_of_ble_eq_true rfl⟩) ⟨PW.blind, va_recv hK hP (ci := 0) (q0 := 0) rfl rfl, fun U hU hW => ⟨rfl, PW.go hPc hK hDc hE hS hFc hU hW⟩⟩ rfl rfl hl.1 rfl (lv_room (Nat.le_of_ble_eq_true rfl)) dX0_hold_35 ⟨Nat.le_of_ble_eq_true rfl, Nat.le_of_ble_eq_true rfl⟩) hS (fun q _ h9 => hFc q h9) hFc (fun u9 t9 H1 locs ht9 hvm9 hw9 hB9 hz9 hk9 hS => ?_)
  obtain ⟨hP9, hD9⟩ := hB9
  rw [ht9] at hP9
  obtain ⟨hP, hD⟩ := va_join (wr := []) (w1 := wR h ad cI n (s_enter (s_enter F a (s_gain F a b (nI q)) q) b (s_gain F b a (nI (2 - q))) (2 - q))) hP hD [0, 1, 2, 3, 4, 5, 6, 7] [] rfl rfl (by decide) (by decide) hk9 hFc hP9 hD9
  generalize H1 = H at hP hS ⊢
  have hP : va_P (dC, dI) vwCl (wR h ad cI n (s_enter (s_enter F a (s_gain F a b (nI q)) q) b (s_gain F b a (nI (2 - q))) (2 - q))) H := hP
  have hD : va_D A (wR h ad cI n (s_enter (s_enter F a (s_gain F a b (nI q)) q) b (s_gain F b a (nI (2 - q))) (2 - q))) := hD
  refine lv_iload hx hb dX0_hold_38 (lv_at hl 1 rfl) ?_
  have hP8 : va_P (dC, dI) vwCl (wR h ad cI n (s_hold F a b q)) H := hP
  have hD8 : va_D A (wR h ad cI n (s_hold F a b q)) := hD
  exact W.iret (v := s_gain F a b (nI q)) hx hb hr (fun t ht hW => ⟨⟨_, (), rfl, (show s_gain F a b (nI q) = s_gain F a b (nI q) from by rfl), by rw [ht]; exact hP8, hD8⟩, hS.F ht⟩) hS.2.2 dX0_hold_40

set_option maxHeartbeats 4000000 in
set_option maxRecDepth 100000 in
theorem c_X0_holdAsRated (l : Launch) (dC : Nat → ClassId) (dI : Nat → Nat → Nat) (cI : ClassId) (h : Nat) (ad : Nat → Nat) (n : Nat) (F : Nat → Nat → Int32) (sz : Nat) (a : Nat) (i_a : a < n) (b : Nat) (i_b : b < n) (hn : n ≤ 12) (hR : okR n F) : Met l yX0_holdAsRated wsX0_holdAsRated ({ frames := 5, cells := 0, slots := 0, locals := 109 } : Room) (va_Pc [.ref h, .int (nI a), .int (nI b)] (fun U => PW dC dI cI (wR h ad cI n F) sz U)) (va_Qv (fun (_ : Unit) => True) (BW dC dI (va_A (wR h ad cI n F) sz) (wR h ad cI n (s_har F a b))) (va_A (wR h ad cI n F) sz)) 0 0 (va_A (wR h ad cI n F) sz) := by
  refine Met.ofW (cc := cX0_holdAsRated) (maxL := 3) (ret := none) (by decide) rfl ?_
  intro p e s m args below meth c s₁ B hml hv
  obtain ⟨rfl, hsz, hP, hK, hD0, hE⟩ := hv
  have hx := B.exec
  have hb := B.bytes
  have hr := B.returns
  have hts := atoms_spec (ws := wsX0_holdAsRated) B.pre
  have hown : s.vm.findClass RX0 = some m.cls := findClass_of_methodNamed B.named
  have hlocks := B.notSynchronized
  subst hsz
  have hD := hD0.self (sz := s.heap.size)
  generalize hAe : va_A (wR h ad cI n F) s.heap.size = A at hD hE ⊢
  have hA : ∀ q : Nat, s.heap.size ≤ q → A q := fun q h9 => by rw [← hAe]; exact Or.inr h9
  have hS : va_S A s.heap s.heap [] := va_S.rf
  have hinX0 : ∀ w ∈ wsX00, w ∈ wsX0_holdAsRated := by decide +kernel
  have hl := lv_entry ([.ref h, .int (nI a), .int (nI b)]) (n := 3) (Nat.le_of_ble_eq_true rfl)
  rw [lg_entry_eq]
  generalize (lg_sl ([.ref h, .int (nI a), .int (nI b)]) ++ List.replicate (3 - (lg_sl ([.ref h, .int (nI a), .int (nI b)])).length) Slot.unset).toArray = ls at hl ⊢
  have hl : lv_has ls 3 [(0, .ref h), (1, .int (nI a)), (2, .int (nI b))] := hl
  refine lv_aload_n hx hb dX0_holdAsRated_0 rfl (lv_at hl 0 rfl) ?_
  refine lv_iload_n hx hb dX0_holdAsRated_1 rfl (lv_at hl 1 rfl) ?_
  refine lv_iload_n hx hb dX0_holdAsRated_2 rfl (lv_at hl 2 rfl) ?_
  refine lv_aload_n hx hb dX0_holdAsRated_3 rfl (lv_at hl 0 rfl) ?_
  refine va_get (D := (dC, dI)) (ci := 0) (v := .ref (ad 1)) (C := RX0) (T := TX0) (N := 8) hx hb hts hinX0 hown hK hP 0 rfl rfl 1 (by decide) (hts (.fieldLink RX0 15 "WrestleBook$Roster" "ratings" "[I") (by decide +kernel)) (fun _ h9 => h9) rfl dX0_holdAsRated_4 ?_
  refine lv_iload_n hx hb dX0_holdAsRated_7 rfl (lv_at hl 1 rfl) ?_
  refine rv_iald (k := a) hx hb hK hP 2 0 rfl rfl (show a < 12 by omega) (by decide) dX0_holdAsRated_8 ?_
  refine lv_aload_n hx hb dX0_holdAsRated_9 rfl (lv_at hl 0 rfl) ?_
  refine va_get (D := (dC, dI)) (ci := 0) (v := .ref (ad 1)) (C := RX0) (T := TX0) (N := 8) hx hb hts hinX0 hown hK hP 0 rfl rfl 1 (by decide) (hts (.fieldLink RX0 15 "WrestleBook$Roster" "ratings" "[I") (by decide +kernel)) (fun _ h9 => h9) rfl dX0_holdAsRated_10 ?_
  refine lv_iload_n hx hb dX0_holdAsRated_13 rfl (lv_at hl 2 rfl) ?_
  refine rv_iald (k := b) hx hb hK hP 2 0 rfl rfl (show b < 12 by omega) (by decide) dX0_holdAsRated_14 ?_
  refine lv_icmp_lt (tgt := 22) hx hb dX0_holdAsRated_15 (by decide) (fun c_15 => ?_) (fun c_15 => ?_)
  · refine lv_iconst (v := 0) hx hb dX0_holdAsRated_22 (by decide) ?_
    have hPc := hP.sub (ws' := (wR h ad cI n F)) [0, 1, 2, 3, 4, 5, 6, 7] rfl
    have hDc := hD.sub (ws' := (wR h ad cI n F)) [0, 1, 2, 3, 4, 5, 6, 7] (by decide) rfl
    have hFc := va_free (wc := (wR h ad cI n F)) hD hS hA [0, 1, 2, 3, 4, 5, 6, 7] rfl
    refine va_calli (va_runV (As := [.int (nI a), .int (nI b), .int 0]) (rest := []) ⟨hx, hb, hml, hown, hts⟩ (c_X0_hold l dC dI cI h ad n F s.heap.size a (show a < n by omega) b (show b < n by omega) 0 (by decide) hn hR) (cwV 3 hts gX0_holdAsRated_X0_hold rfl rfl rfl (by decide +kernel) ⟨Nat.le_of_ble_eq_true rfl, Nat.le_of_ble_eq_true rfl⟩) ⟨PW.blind, va_recv hK hP (ci := 0) (q0 := 0) rfl rfl, fun U hU hW => ⟨rfl, PW.go hPc hK hDc hE hS hFc hU hW⟩⟩ rfl rfl hl.1 rfl (lv_room (Nat.le_of_ble_eq_true rfl)) dX0_holdAsRated_23 ⟨Nat.le_of_ble_eq_true rfl, Nat.le_of_ble_eq_true rfl⟩) hS (fun q _ h9 => hFc q h9) hFc (fun r u9 t9 H1 locs ht9 hvm9 hw9 hB9 hz9 hk9 hS => ?_)
    obtain ⟨hP9, hD9⟩ := hB9
    rw [ht9] at hP9
    obtain ⟨hP, hD⟩ := va_join (wr := []) (w1 := wR h ad cI n (s_hold F a b 0)) hP hD [0, 1, 2, 3, 4, 5, 6, 7] [] rfl rfl (by decide) (by decide) hk9 hFc hP9 hD9
    generalize H1 = H at hP hS ⊢
    have hP : va_P (dC, dI) vwCl (wR h ad cI n (s_hold F a b 0)) H := hP
    have hD : va_D A (wR h ad cI n (s_hold F a b 0)) := hD
    have hw9 : r = s_gain F a b (nI 0) := hw9
    subst hw9
    refine lv_pop hx hb dX0_holdAsRated_26 rfl ?_
    have hP8 : va_P (dC, dI) vwCl (wR h ad cI n (s_har F a b)) H := by unfold s_har; rw [if_pos c_15]; exact hP
    have hD8 : va_D A (wR h ad cI n (s_har F a b)) := by unfold s_har; rw [if_pos c_15]; exact hD
    exact W.vret hx hb hr (fun t ht hW => ⟨⟨(), rfl, trivial, by rw [ht]; exact hP8, hD8⟩, hS.F ht⟩) hS.2.2 dX0_holdAsRated_27
  · refine lv_iconst (v := 2) hx hb dX0_holdAsRated_18 (by decide) ?_
    refine lv_goto (tgt := 23) hx hb dX0_holdAsRated_19 (by decide) ?_
    have hPc := hP.sub (ws' := (wR h ad cI n F)) [0, 1, 2, 3, 4, 5, 6, 7] rfl
    have hDc := hD.sub (ws' := (wR h ad cI n F)) [0, 1, 2, 3, 4, 5, 6, 7] (by decide) rfl
    have hFc := va_free (wc := (wR h ad cI n F)) hD hS hA [0, 1, 2, 3, 4, 5, 6, 7] rfl
    refine va_calli (va_runV (As := [.int (nI a), .int (nI b), .int 2]) (rest := []) ⟨hx, hb, hml, hown, hts⟩ (c_X0_hold l dC dI cI h ad n F s.heap.size a (show a < n by omega) b (show b < n by omega) 2 (by decide) hn hR) (cwV 3 hts gX0_holdAsRated_X0_hold rfl rfl rfl (by decide +kernel) ⟨Nat.le_of_ble_eq_true rfl, Nat.le_of_ble_eq_true rfl⟩) ⟨PW.blind, va_recv hK hP (ci := 0) (q0 := 0) rfl rfl, fun U hU hW => ⟨rfl, PW.go hPc hK hDc hE hS hFc hU hW⟩⟩ rfl rfl hl.1 rfl (lv_room (Nat.le_of_ble_eq_true rfl)) dX0_holdAsRated_23 ⟨Nat.le_of_ble_eq_true rfl, Nat.le_of_ble_eq_true rfl⟩) hS (fun q _ h9 => hFc q h9) hFc (fun r u9 t9 H1 locs ht9 hvm9 hw9 hB9 hz9 hk9 hS => ?_)
    obtain ⟨hP9, hD9⟩ := hB9
    rw [ht9] at hP9
    obtain ⟨hP, hD⟩ := va_join (wr := []) (w1 := wR h ad cI n (s_hold F a b 2)) hP hD [0, 1, 2, 3, 4, 5, 6, 7] [] rfl rfl (by decide) (by decide) hk9 hFc hP9 hD9
    generalize H1 = H at hP hS ⊢
    have hP : va_P (dC, dI) vwCl (wR h ad cI n (s_hold F a b 2)) H := hP
    have hD : va_D A (wR h ad cI n (s_hold F a b 2)) := hD
    have hw9 : r = s_gain F a b (nI 2) := hw9
    subst hw9
    refine lv_pop hx hb dX0_holdAsRated_26 rfl ?_
    have hP8 : va_P (dC, dI) vwCl (wR h ad cI n (s_har F a b)) H := by unfold s_har; rw [if_neg c_15]; exact hP
    have hD8 : va_D A (wR h ad cI n (s_har F a b)) := by unfold s_har; rw [if_neg c_15]; exact hD
    exact W.vret hx hb hr (fun t ht hW => ⟨⟨(), rfl, trivial, by rw [ht]; exact hP8, hD8⟩, hS.F ht⟩) hS.2.2 dX0_holdAsRated_27

set_option maxHeartbeats 4000000 in
set_option maxRecDepth 100000 in
theorem c_X0_drift (l : Launch) (dC : Nat → ClassId) (dI : Nat → Nat → Nat) (cI : ClassId) (h : Nat) (ad : Nat → Nat) (n : Nat) (F : Nat → Nat → Int32) (sz : Nat) (hn : n ≤ 12) : Met l yX0_drift wsX0_drift ({ frames := 2, cells := 0, slots := 0, locals := 37 } : Room) (va_Pc [.ref h] (fun U => PW dC dI cI (wR h ad cI n F) sz U)) (va_Qv (fun (_ : Unit) => True) (BW dC dI (va_A (wR h ad cI n F) sz) (wR h ad cI n (s_drift n F))) (va_A (wR h ad cI n F) sz)) 0 0 (va_A (wR h ad cI n F) sz) := by
  refine Met.ofW (cc := cX0_drift) (maxL := 2) (ret := none) (by decide) rfl ?_
  intro p e s m args below meth c s₁ B hml hv
  obtain ⟨rfl, hsz, hP, hK, hD0, hE⟩ := hv
  have hx := B.exec
  have hb := B.bytes
  have hr := B.returns
  have hts := atoms_spec (ws := wsX0_drift) B.pre
  have hown : s.vm.findClass RX0 = some m.cls := findClass_of_methodNamed B.named
  have hlocks := B.notSynchronized
  subst hsz
  have hD := hD0.self (sz := s.heap.size)
  generalize hAe : va_A (wR h ad cI n F) s.heap.size = A at hD hE ⊢
  have hA : ∀ q : Nat, s.heap.size ≤ q → A q := fun q h9 => by rw [← hAe]; exact Or.inr h9
  have hS : va_S A s.heap s.heap [] := va_S.rf
  have hinX0 : ∀ w ∈ wsX00, w ∈ wsX0_drift := by decide +kernel
  have hl := lv_entry ([.ref h]) (n := 2) (Nat.le_of_ble_eq_true rfl)
  rw [lg_entry_eq]
  generalize (lg_sl ([.ref h]) ++ List.replicate (2 - (lg_sl ([.ref h])).length) Slot.unset).toArray = ls at hl ⊢
  have hl : lv_has ls 2 [(0, .ref h)] := hl
  refine lv_iconst (v := 0) hx hb dX0_drift_0 (by decide) ?_
  refine lv_istore_n (lv' := [(1, .int 0), (0, .ref h)]) hx hb dX0_drift_1 rfl hl (by decide) rfl (fun ls hl => ?_)
  have L_2 : ∀ (k i : Nat) (G : Nat → Nat → Int32), i + k = n → G = s_driftU F i → ∀ (H : Heap) (locs : List Loc), va_P (dC, dI) vwCl (wR h ad cI n G) H → va_D A (wR h ad cI n G) → va_S A s.heap H locs → ∀ (ls : Array Slot), lv_has ls 2 [(1, .int (nI i)), (0, .ref h)] → W p l e (headSpec wsX0_drift ({ frames := 2, cells := 0, slots := 0, locals := 37 } : Room)).room s m ([.ref h] : List Value).toArray below meth c H locs 0 0 (MQ below (va_Qv (fun (_ : Unit) => True) (BW dC dI A (wR h ad cI n (s_drift n F))) A) ([.ref h] : List Value).toArray s 0 0 A) (F0 m 2 ls []) := by
    intro k
    induction k with
    | zero =>
      intro i G e_i hG H locs hP hD hS ls hl
      refine lv_iload_n hx hb dX0_drift_2 rfl (lv_at hl 0 rfl) ?_
      refine lv_aload_n hx hb dX0_drift_3 rfl (lv_at hl 1 rfl) ?_
      refine va_get (D := (dC, dI)) (ci := 0) (v := .int (nI n)) (C := RX0) (T := TX0) (N := 8) hx hb hts hinX0 hown hK hP 0 rfl rfl 7 (by decide) (hts (.fieldLink RX0 33 "WrestleBook$Roster" "size" "I") (by decide +kernel)) (fun _ h9 => h9) rfl dX0_drift_4 ?_
      refine rv_icmp_ge (tgt := 51) hx hb (a := i) (b := n) (by omega) (by omega) dX0_drift_7 (by decide) (fun c_7 => ?_) (fun c_7 => ?_)
      · have hP8 : va_P (dC, dI) vwCl (wR h ad cI n (s_drift n F)) H := by rw [show s_drift n F = G from by rw [hG, show i = n by omega]; rfl]; exact hP
        have hD8 : va_D A (wR h ad cI n (s_drift n F)) := by rw [show s_drift n F = G from by rw [hG, show i = n by omega]; rfl]; exact hD
        exact W.vret hx hb hr (fun t ht hW => ⟨⟨(), rfl, trivial, by rw [ht]; exact hP8, hD8⟩, hS.F ht⟩) hS.2.2 dX0_drift_51
      · exact absurd c_7 (by omega)
    | succ k ih_2 =>
      intro i G e_i hG H locs hP hD hS ls hl
      refine lv_iload_n hx hb dX0_drift_2 rfl (lv_at hl 0 rfl) ?_
      refine lv_aload_n hx hb dX0_drift_3 rfl (lv_at hl 1 rfl) ?_
      refine va_get (D := (dC, dI)) (ci := 0) (v := .int (nI n)) (C := RX0) (T := TX0) (N := 8) hx hb hts hinX0 hown hK hP 0 rfl rfl 7 (by decide) (hts (.fieldLink RX0 33 "WrestleBook$Roster" "size" "I") (by decide +kernel)) (fun _ h9 => h9) rfl dX0_drift_4 ?_
      refine rv_icmp_ge (tgt := 51) hx hb (a := i) (b := n) (by omega) (by omega) dX0_drift_7 (by decide) (fun c_7 => ?_) (fun c_7 => ?_)
      · exact absurd c_7 (by omega)
      · refine lv_aload_n hx hb dX0_drift_10 rfl (lv_at hl 1 rfl) ?_
        refine va_get (D := (dC, dI)) (ci := 0) (v := .ref (ad 4)) (C := RX0) (T := TX0) (N := 8) hx hb hts hinX0 hown hK hP 0 rfl rfl 4 (by decide) (hts (.fieldLink RX0 24 "WrestleBook$Roster" "seasonBouts" "[I") (by decide +kernel)) (fun _ h9 => h9) rfl dX0_drift_11 ?_
        refine lv_iload_n hx hb dX0_drift_14 rfl (lv_at hl 0 rfl) ?_
        refine rv_iald (k := i) hx hb hK hP 5 0 rfl rfl (show i < 12 by omega) (by decide) dX0_drift_15 ?_
        refine lv_iconst (v := 3) hx hb dX0_drift_16 (by decide) ?_
        refine lv_icmp_ge (tgt := 45) hx hb dX0_drift_17 (by decide) (fun c_17 => ?_) (fun c_17 => ?_)
        · refine lv_iinc (v := nI (i + 1)) (lv' := [(1, .int (nI (i + 1))), (0, .ref h)]) hx hb dX0_drift_45 hl (k := 0) rfl (nI_add i 1) (by decide) rfl (fun ls hl => ?_)
          refine lv_goto (tgt := 2) hx hb dX0_drift_48 (by decide) ?_
          exact ih_2 (i + 1) G (by omega) (by rw [hG]; show _ = (if (3 : Int32) ≤ (s_driftU F i) 4 i then s_driftU F i else s_set (s_driftU F i) i ((s_driftU F i) 1 i - ((s_driftU F i) 1 i - 1000) / 8)); rw [← hG]; rw [if_pos c_17]) _ _ hP hD hS ls (lv_sub hl [0, 1] rfl)
        · refine lv_aload_n hx hb dX0_drift_20 rfl (lv_at hl 1 rfl) ?_
          refine lv_iload_n hx hb dX0_drift_21 rfl (lv_at hl 0 rfl) ?_
          refine lv_aload_n hx hb dX0_drift_22 rfl (lv_at hl 1 rfl) ?_
          refine va_get (D := (dC, dI)) (ci := 0) (v := .ref (ad 1)) (C := RX0) (T := TX0) (N := 8) hx hb hts hinX0 hown hK hP 0 rfl rfl 1 (by decide) (hts (.fieldLink RX0 15 "WrestleBook$Roster" "ratings" "[I") (by decide +kernel)) (fun _ h9 => h9) rfl dX0_drift_23 ?_
          refine lv_iload_n hx hb dX0_drift_26 rfl (lv_at hl 0 rfl) ?_
          refine rv_iald (k := i) hx hb hK hP 2 0 rfl rfl (show i < 12 by omega) (by decide) dX0_drift_27 ?_
          refine lv_aload_n hx hb dX0_drift_28 rfl (lv_at hl 1 rfl) ?_
          refine va_get (D := (dC, dI)) (ci := 0) (v := .ref (ad 1)) (C := RX0) (T := TX0) (N := 8) hx hb hts hinX0 hown hK hP 0 rfl rfl 1 (by decide) (hts (.fieldLink RX0 15 "WrestleBook$Roster" "ratings" "[I") (by decide +kernel)) (fun _ h9 => h9) rfl dX0_drift_29 ?_
          refine lv_iload_n hx hb dX0_drift_32 rfl (lv_at hl 0 rfl) ?_
          refine rv_iald (k := i) hx hb hK hP 2 0 rfl rfl (show i < 12 by omega) (by decide) dX0_drift_33 ?_
          refine lv_sipush (v := 1000) hx hb dX0_drift_34 (by decide) ?_
          refine lv_isub hx hb dX0_drift_37 ?_
          refine lv_bipush (v := 8) hx hb dX0_drift_38 (by decide) ?_
          refine lv_idiv hx hb dX0_drift_40 (by decide) ?_
          refine lv_isub hx hb dX0_drift_41 ?_
          have hPc := hP.sub (ws' := (wR h ad cI n G)) [0, 1, 2, 3, 4, 5, 6, 7] rfl
          have hDc := hD.sub (ws' := (wR h ad cI n G)) [0, 1, 2, 3, 4, 5, 6, 7] (by decide) rfl
          have hFc := va_free (wc := (wR h ad cI n G)) hD hS hA [0, 1, 2, 3, 4, 5, 6, 7] rfl
          refine va_callv (va_runV (As := [.int (nI i), .int ((G 1 i) - (((G 1 i) - 1000) / 8))]) (rest := []) ⟨hx, hb, hml, hown, hts⟩ (c_X0_setRating l dC dI cI h ad n G H.size i (show i < n by omega) ((G 1 i) - (((G 1 i) - 1000) / 8)) hn) (cwV 2 hts gX0_drift_X0_setRating rfl rfl rfl (by decide +kernel) ⟨Nat.le_of_ble_eq_true rfl, Nat.le_of_ble_eq_true rfl⟩) ⟨PW.blind, va_recv hK hP (ci := 0) (q0 := 0) rfl rfl, fun U hU hW => ⟨rfl, PW.go hPc hK hDc hE hS hFc hU hW⟩⟩ rfl rfl hl.1 rfl (lv_room (Nat.le_of_ble_eq_true rfl)) dX0_drift_42 ⟨Nat.le_of_ble_eq_true rfl, Nat.le_of_ble_eq_true rfl⟩) hS (fun q _ h9 => hFc q h9) hFc (fun u9 t9 H1 locs ht9 hvm9 hw9 hB9 hz9 hk9 hS => ?_)
          obtain ⟨hP9, hD9⟩ := hB9
          rw [ht9] at hP9
          obtain ⟨hP, hD⟩ := va_join (wr := []) (w1 := wR h ad cI n (s_set G i ((G 1 i) - (((G 1 i) - 1000) / 8)))) hP hD [0, 1, 2, 3, 4, 5, 6, 7] [] rfl rfl (by decide) (by decide) hk9 hFc hP9 hD9
          generalize H1 = H at hP hS ⊢
          have hP : va_P (dC, dI) vwCl (wR h ad cI n (s_set G i ((G 1 i) - (((G 1 i) - 1000) / 8)))) H := hP
          have hD : va_D A (wR h ad cI n (s_set G i ((G 1 i) - (((G 1 i) - 1000) / 8)))) := hD
          refine lv_iinc (v := nI (i + 1)) (lv' := [(1, .int (nI (i + 1))), (0, .ref h)]) hx hb dX0_drift_45 hl (k := 0) rfl (nI_add i 1) (by decide) rfl (fun ls hl => ?_)
          refine lv_goto (tgt := 2) hx hb dX0_drift_48 (by decide) ?_
          exact ih_2 (i + 1) (s_set G i ((G 1 i) - (((G 1 i) - 1000) / 8))) (by omega) (by rw [hG]; show _ = (if (3 : Int32) ≤ (s_driftU F i) 4 i then s_driftU F i else s_set (s_driftU F i) i ((s_driftU F i) 1 i - ((s_driftU F i) 1 i - 1000) / 8)); rw [← hG]; rw [if_neg c_17]) _ _ hP hD hS ls (lv_sub hl [0, 1] rfl)
  exact L_2 n 0 F (by omega) rfl _ _ hP hD hS ls (lv_sub hl [0, 1] rfl)

set_option maxHeartbeats 4000000 in
set_option maxRecDepth 100000 in
theorem c_X0_clearSeason (l : Launch) (dC : Nat → ClassId) (dI : Nat → Nat → Nat) (cI : ClassId) (h : Nat) (ad : Nat → Nat) (n : Nat) (F : Nat → Nat → Int32) (sz : Nat) (hn : n ≤ 12) : Met l yX0_clearSeason wsX0_clearSeason ({ frames := 0, cells := 0, slots := 0, locals := 0 } : Room) (va_Pc [.ref h] (fun U => PW dC dI cI (wR h ad cI n F) sz U)) (va_Qv (fun (_ : Unit) => True) (BW dC dI (va_A (wR h ad cI n F) sz) (wR h ad cI n (s_clear n F))) (va_A (wR h ad cI n F) sz)) 0 0 (va_A (wR h ad cI n F) sz) := by
  refine Met.ofW (cc := cX0_clearSeason) (maxL := 2) (ret := none) (by decide) rfl ?_
  intro p e s m args below meth c s₁ B hml hv
  obtain ⟨rfl, hsz, hP, hK, hD0, hE⟩ := hv
  have hx := B.exec
  have hb := B.bytes
  have hr := B.returns
  have hts := atoms_spec (ws := wsX0_clearSeason) B.pre
  have hown : s.vm.findClass RX0 = some m.cls := findClass_of_methodNamed B.named
  have hlocks := B.notSynchronized
  subst hsz
  have hD := hD0.self (sz := s.heap.size)
  generalize hAe : va_A (wR h ad cI n F) s.heap.size = A at hD hE ⊢
  have hA : ∀ q : Nat, s.heap.size ≤ q → A q := fun q h9 => by rw [← hAe]; exact Or.inr h9
  have hS : va_S A s.heap s.heap [] := va_S.rf
  have hinX0 : ∀ w ∈ wsX00, w ∈ wsX0_clearSeason := by decide +kernel
  have hl := lv_entry ([.ref h]) (n := 2) (Nat.le_of_ble_eq_true rfl)
  rw [lg_entry_eq]
  generalize (lg_sl ([.ref h]) ++ List.replicate (2 - (lg_sl ([.ref h])).length) Slot.unset).toArray = ls at hl ⊢
  have hl : lv_has ls 2 [(0, .ref h)] := hl
  refine lv_iconst (v := 0) hx hb dX0_clearSeason_0 (by decide) ?_
  refine lv_istore_n (lv' := [(1, .int 0), (0, .ref h)]) hx hb dX0_clearSeason_1 rfl hl (by decide) rfl (fun ls hl => ?_)
  have L_2 : ∀ (k i : Nat) (G : Nat → Nat → Int32), i + k = n → G = s_clearU F i → ∀ (H : Heap) (locs : List Loc), va_P (dC, dI) vwCl (wR h ad cI n G) H → va_D A (wR h ad cI n G) → va_S A s.heap H locs → ∀ (ls : Array Slot), lv_has ls 2 [(1, .int (nI i)), (0, .ref h)] → W p l e (headSpec wsX0_clearSeason ({ frames := 0, cells := 0, slots := 0, locals := 0 } : Room)).room s m ([.ref h] : List Value).toArray below meth c H locs 0 0 (MQ below (va_Qv (fun (_ : Unit) => True) (BW dC dI A (wR h ad cI n (s_clear n F))) A) ([.ref h] : List Value).toArray s 0 0 A) (F0 m 2 ls []) := by
    intro k
    induction k with
    | zero =>
      intro i G e_i hG H locs hP hD hS ls hl
      refine lv_iload_n hx hb dX0_clearSeason_2 rfl (lv_at hl 0 rfl) ?_
      refine lv_aload_n hx hb dX0_clearSeason_3 rfl (lv_at hl 1 rfl) ?_
      refine va_get (D := (dC, dI)) (ci := 0) (v := .int (nI n)) (C := RX0) (T := TX0) (N := 8) hx hb hts hinX0 hown hK hP 0 rfl rfl 7 (by decide) (hts (.fieldLink RX0 33 "WrestleBook$Roster" "size" "I") (by decide +kernel)) (fun _ h9 => h9) rfl dX0_clearSeason_4 ?_
      refine rv_icmp_ge (tgt := 30) hx hb (a := i) (b := n) (by omega) (by omega) dX0_clearSeason_7 (by decide) (fun c_7 => ?_) (fun c_7 => ?_)
      · have hP8 : va_P (dC, dI) vwCl (wR h ad cI n (s_clear n F)) H := by rw [show s_clear n F = G from by rw [hG, show i = n by omega]; rfl]; exact hP
        have hD8 : va_D A (wR h ad cI n (s_clear n F)) := by rw [show s_clear n F = G from by rw [hG, show i = n by omega]; rfl]; exact hD
        exact W.vret hx hb hr (fun t ht hW => ⟨⟨(), rfl, trivial, by rw [ht]; exact hP8, hD8⟩, hS.F ht⟩) hS.2.2 dX0_clearSeason_30
      · exact absurd c_7 (by omega)
    | succ k ih_2 =>
      intro i G e_i hG H locs hP hD hS ls hl
      refine lv_iload_n hx hb dX0_clearSeason_2 rfl (lv_at hl 0 rfl) ?_
      refine lv_aload_n hx hb dX0_clearSeason_3 rfl (lv_at hl 1 rfl) ?_
      refine va_get (D := (dC, dI)) (ci := 0) (v := .int (nI n)) (C := RX0) (T := TX0) (N := 8) hx hb hts hinX0 hown hK hP 0 rfl rfl 7 (by decide) (hts (.fieldLink RX0 33 "WrestleBook$Roster" "size" "I") (by decide +kernel)) (fun _ h9 => h9) rfl dX0_clearSeason_4 ?_
      refine rv_icmp_ge (tgt := 30) hx hb (a := i) (b := n) (by omega) (by omega) dX0_clearSeason_7 (by decide) (fun c_7 => ?_) (fun c_7 => ?_)
      · exact absurd c_7 (by omega)
      · refine lv_aload_n hx hb dX0_clearSeason_10 rfl (lv_at hl 1 rfl) ?_
        refine va_get (D := (dC, dI)) (ci := 0) (v := .ref (ad 2)) (C := RX0) (T := TX0) (N := 8) hx hb hts hinX0 hown hK hP 0 rfl rfl 2 (by decide) (hts (.fieldLink RX0 18 "WrestleBook$Roster" "points" "[I") (by decide +kernel)) (fun _ h9 => h9) rfl dX0_clearSeason_11 ?_
        refine lv_iload_n hx hb dX0_clearSeason_14 rfl (lv_at hl 0 rfl) ?_
        refine lv_iconst (v := 0) hx hb dX0_clearSeason_15 (by decide) ?_
        refine rv_iast (k := i) hx hb hK hP hD hS 3 0 rfl rfl (show i < 12 by omega) (by decide) dX0_clearSeason_16 (fun H locs hP hD hS => ?_)
        have hP : va_P (dC, dI) vwCl (wR h ad cI n (pu G 2 i 0)) H := hP
        have hD : va_D A (wR h ad cI n (pu G 2 i 0)) := hD
        refine lv_aload_n hx hb dX0_clearSeason_17 rfl (lv_at hl 1 rfl) ?_
        refine va_get (D := (dC, dI)) (ci := 0) (v := .ref (ad 4)) (C := RX0) (T := TX0) (N := 8) hx hb hts hinX0 hown hK hP 0 rfl rfl 4 (by decide) (hts (.fieldLink RX0 24 "WrestleBook$Roster" "seasonBouts" "[I") (by decide +kernel)) (fun _ h9 => h9) rfl dX0_clearSeason_18 ?_
        refine lv_iload_n hx hb dX0_clearSeason_21 rfl (lv_at hl 0 rfl) ?_
        refine lv_iconst (v := 0) hx hb dX0_clearSeason_22 (by decide) ?_
        refine rv_iast (k := i) hx hb hK hP hD hS 5 0 rfl rfl (show i < 12 by omega) (by decide) dX0_clearSeason_23 (fun H locs hP hD hS => ?_)
        have hP : va_P (dC, dI) vwCl (wR h ad cI n (pu (pu G 2 i 0) 4 i 0)) H := hP
        have hD : va_D A (wR h ad cI n (pu (pu G 2 i 0) 4 i 0)) := hD
        refine lv_iinc (v := nI (i + 1)) (lv' := [(1, .int (nI (i + 1))), (0, .ref h)]) hx hb dX0_clearSeason_24 hl (k := 0) rfl (nI_add i 1) (by decide) rfl (fun ls hl => ?_)
        refine lv_goto (tgt := 2) hx hb dX0_clearSeason_27 (by decide) ?_
        exact ih_2 (i + 1) (pu (pu G 2 i 0) 4 i 0) (by omega) (by rw [hG]; rfl) _ _ hP hD hS ls (lv_sub hl [0, 1] rfl)
  exact L_2 n 0 F (by omega) rfl _ _ hP hD hS ls (lv_sub hl [0, 1] rfl)

set_option maxHeartbeats 4000000 in
set_option maxRecDepth 100000 in
theorem c_X0_exchange (l : Launch) (dC : Nat → ClassId) (dI : Nat → Nat → Nat) (cI : ClassId) (h : Nat) (ad : Nat → Nat) (n : Nat) (F : Nat → Nat → Int32) (sz : Nat) (vp : Int32) (hn : n ≤ 12) : Met l yX0_exchange wsX0_exchange ({ frames := 3, cells := 0, slots := 0, locals := 68 } : Room) (va_Pc [.ref h, .int vp] (fun U => PW dC dI cI (wR h ad cI n F) sz U)) (va_Qi (fun r (_ : Unit) => r = bI (s_exchB n F vp)) (BW dC dI (va_A (wR h ad cI n F) sz) (wR h ad cI n (s_exch n F vp))) (va_A (wR h ad cI n F) sz)) 0 0 (va_A (wR h ad cI n F) sz) := by
  refine Met.ofW (cc := cX0_exchange) (maxL := 4) (ret := (some .boolean)) (by decide) rfl ?_
  intro p e s m args below meth c s₁ B hml hv
  obtain ⟨rfl, hsz, hP, hK, hD0, hE⟩ := hv
  have hx := B.exec
  have hb := B.bytes
  have hr := B.returns
  have hts := atoms_spec (ws := wsX0_exchange) B.pre
  have hown : s.vm.findClass RX0 = some m.cls := findClass_of_methodNamed B.named
  have hlocks := B.notSynchronized
  subst hsz
  have hD := hD0.self (sz := s.heap.size)
  generalize hAe : va_A (wR h ad cI n F) s.heap.size = A at hD hE ⊢
  have hA : ∀ q : Nat, s.heap.size ≤ q → A q := fun q h9 => by rw [← hAe]; exact Or.inr h9
  have hS : va_S A s.heap s.heap [] := va_S.rf
  have hinX0 : ∀ w ∈ wsX00, w ∈ wsX0_exchange := by decide +kernel
  have hl := lv_entry ([.ref h, .int vp]) (n := 4) (Nat.le_of_ble_eq_true rfl)
  rw [lg_entry_eq]
  generalize (lg_sl ([.ref h, .int vp]) ++ List.replicate (4 - (lg_sl ([.ref h, .int vp])).length) Slot.unset).toArray = ls at hl ⊢
  have hl : lv_has ls 4 [(0, .ref h), (1, .int vp)] := hl
  refine lv_aload_n hx hb dX0_exchange_0 rfl (lv_at hl 0 rfl) ?_
  refine lv_iload_n hx hb dX0_exchange_1 rfl (lv_at hl 1 rfl) ?_
  refine lv_aload_n hx hb dX0_exchange_2 rfl (lv_at hl 0 rfl) ?_
  refine lv_iload_n hx hb dX0_exchange_3 rfl (lv_at hl 1 rfl) ?_
  refine vp_callSi (W.runV (As := [.int vp]) (rest := [.int vp, .ref h]) ⟨hx, hb, hml, hown, hts⟩ (c_X0_sizeOf l dC dI cI h ad n F vp hn) (cwV 1 hts gX0_exchange_X0_sizeOf rfl rfl rfl (by decide +kernel) ⟨Nat.le_of_ble_eq_true rfl, Nat.le_of_ble_eq_true rfl⟩) ⟨PR.blind, va_recv hK hP (ci := 0) (q0 := 0) rfl rfl, fun U hU hW => ⟨rfl, PR.go hP hK hE hS hU hW⟩⟩ rfl rfl hl.1 rfl (lv_room (Nat.le_of_ble_eq_true rfl)) dX0_exchange_4 ⟨Nat.le_of_ble_eq_true rfl, Nat.le_of_ble_eq_true rfl⟩) (fun r hr0 => ?_)
  subst hr0
  refine vp_callSi (W.runV (As := [.int vp, .int (nI (s_many n F vp))]) (rest := []) ⟨hx, hb, hml, hown, hts⟩ (c_X0_standingAt l dC dI cI h ad n F vp (nI (s_many n F vp)) hn) (cwV 2 hts gX0_exchange_X0_standingAt rfl rfl rfl (by decide +kernel) ⟨Nat.le_of_ble_eq_true rfl, Nat.le_of_ble_eq_true rfl⟩) ⟨PR.blind, va_recv hK hP (ci := 0) (q0 := 0) rfl rfl, fun U hU hW => ⟨rfl, PR.go hP hK hE hS hU hW⟩⟩ rfl rfl hl.1 rfl (lv_room (Nat.le_of_ble_eq_true rfl)) dX0_exchange_7 ⟨Nat.le_of_ble_eq_true rfl, Nat.le_of_ble_eq_true rfl⟩) (fun r hr0 => ?_)
  subst hr0
  obtain ⟨o7, ho_7⟩ : ∃ z9 : Option Nat, s_at n F vp (nI (s_many n F vp)) = z9 := ⟨_, rfl⟩
  refine rv_top (y := oI o7) (by rw [ho_7]) ?_
  rcases o7 with _ | k7
  · refine rv_top (y := -1) rfl ?_
    refine lv_istore_n (lv' := [(2, .int (-1)), (0, .ref h), (1, .int vp)]) hx hb dX0_exchange_10 rfl hl (by decide) rfl (fun ls hl => ?_)
    refine lv_aload_n hx hb dX0_exchange_11 rfl (lv_at hl 1 rfl) ?_
    refine lv_iload_n hx hb dX0_exchange_12 rfl (lv_at hl 2 rfl) ?_
    refine lv_iconst (v := 1) hx hb dX0_exchange_13 (by decide) ?_
    refine lv_iadd hx hb dX0_exchange_14 ?_
    refine lv_iconst (v := 1) hx hb dX0_exchange_15 (by decide) ?_
    refine vp_callSi (W.runV (As := [.int (vp + 1), .int 1]) (rest := []) ⟨hx, hb, hml, hown, hts⟩ (c_X0_standingAt l dC dI cI h ad n F (vp + 1) 1 hn) (cwV 2 hts gX0_exchange_X0_standingAt rfl rfl rfl (by decide +kernel) ⟨Nat.le_of_ble_eq_true rfl, Nat.le_of_ble_eq_true rfl⟩) ⟨PR.blind, va_recv hK hP (ci := 0) (q0 := 0) rfl rfl, fun U hU hW => ⟨rfl, PR.go hP hK hE hS hU hW⟩⟩ rfl rfl hl.1 rfl (lv_room (Nat.le_of_ble_eq_true rfl)) dX0_exchange_16 ⟨Nat.le_of_ble_eq_true rfl, Nat.le_of_ble_eq_true rfl⟩) (fun r hr0 => ?_)
    subst hr0
    obtain ⟨o17, ho_17⟩ : ∃ z9 : Option Nat, s_at n F (vp + 1) 1 = z9 := ⟨_, rfl⟩
    refine rv_top (y := oI o17) (by rw [ho_17]) ?_
    rcases o17 with _ | k17
    · refine rv_top (y := -1) rfl ?_
      refine lv_istore_n (lv' := [(3, .int (-1)), (2, .int (-1)), (0, .ref h), (1, .int vp)]) hx hb dX0_exchange_19 rfl hl (by decide) rfl (fun ls hl => ?_)
      refine lv_iload_n hx hb dX0_exchange_20 rfl (lv_at hl 1 rfl) ?_
      refine lv_iconst (v := (-1)) hx hb dX0_exchange_21 (by decide) ?_
      refine lv_icmp_eq (tgt := 45) hx hb dX0_exchange_22 (by decide) (fun c_22 => ?_) (fun c_22 => ?_)
      · refine lv_iconst (v := 0) hx hb dX0_exchange_45 (by decide) ?_
        have hP8 : va_P (dC, dI) vwCl (wR h ad cI n (s_exch n F vp)) s.heap := by unfold s_exch; rw [ho_7]; exact hP
        have hD8 : va_D A (wR h ad cI n (s_exch n F vp)) := by unfold s_exch; rw [ho_7]; exact hD
        exact W.zret (v := 0) hx hb hr (by decide) (fun t ht hW => ⟨⟨_, (), rfl, (show 0 = bI (s_exchB n F vp) from by unfold s_exchB; rw [ho_7]; rfl), by rw [ht]; exact hP8, hD8⟩, hS.F ht⟩) hS.2.2 dX0_exchange_46
      · exact absurd c_22 (by decide)
    · refine rv_top (y := nI k17) rfl ?_
      have i_k17 : k17 < n := (s_at_lt n k17 ho_17).1
      refine lv_istore_n (lv' := [(3, .int (nI k17)), (2, .int (-1)), (0, .ref h), (1, .int vp)]) hx hb dX0_exchange_19 rfl hl (by decide) rfl (fun ls hl => ?_)
      refine lv_iload_n hx hb dX0_exchange_20 rfl (lv_at hl 1 rfl) ?_
      refine lv_iconst (v := (-1)) hx hb dX0_exchange_21 (by decide) ?_
      refine lv_icmp_eq (tgt := 45) hx hb dX0_exchange_22 (by decide) (fun c_22 => ?_) (fun c_22 => ?_)
      · refine lv_iconst (v := 0) hx hb dX0_exchange_45 (by decide) ?_
        have hP8 : va_P (dC, dI) vwCl (wR h ad cI n (s_exch n F vp)) s.heap := by unfold s_exch; rw [ho_7]; exact hP
        have hD8 : va_D A (wR h ad cI n (s_exch n F vp)) := by unfold s_exch; rw [ho_7]; exact hD
        exact W.zret (v := 0) hx hb hr (by decide) (fun t ht hW => ⟨⟨_, (), rfl, (show 0 = bI (s_exchB n F vp) from by unfold s_exchB; rw [ho_7]; rfl), by rw [ht]; exact hP8, hD8⟩, hS.F ht⟩) hS.2.2 dX0_exchange_46
      · exact absurd c_22 (by decide)
  · refine rv_top (y := nI k7) rfl ?_
    have i_k7 : k7 < n := (s_at_lt n k7 ho_7).1
    refine lv_istore_n (lv' := [(2, .int (nI k7)), (0, .ref h), (1, .int vp)]) hx hb dX0_exchange_10 rfl hl (by decide) rfl (fun ls hl => ?_)
    refine lv_aload_n hx hb dX0_exchange_11 rfl (lv_at hl 1 rfl) ?_
    refine lv_iload_n hx hb dX0_exchange_12 rfl (lv_at hl 2 rfl) ?_
    refine lv_iconst (v := 1) hx hb dX0_exchange_13 (by decide) ?_
    refine lv_iadd hx hb dX0_exchange_14 ?_
    refine lv_iconst (v := 1) hx hb dX0_exchange_15 (by decide) ?_
    refine vp_callSi (W.runV (As := [.int (vp + 1), .int 1]) (rest := []) ⟨hx, hb, hml, hown, hts⟩ (c_X0_standingAt l dC dI cI h ad n F (vp + 1) 1 hn) (cwV 2 hts gX0_exchange_X0_standingAt rfl rfl rfl (by decide +kernel) ⟨Nat.le_of_ble_eq_true rfl, Nat.le_of_ble_eq_true rfl⟩) ⟨PR.blind, va_recv hK hP (ci := 0) (q0 := 0) rfl rfl, fun U hU hW => ⟨rfl, PR.go hP hK hE hS hU hW⟩⟩ rfl rfl hl.1 rfl (lv_room (Nat.le_of_ble_eq_true rfl)) dX0_exchange_16 ⟨Nat.le_of_ble_eq_true rfl, Nat.le_of_ble_eq_true rfl⟩) (fun r hr0 => ?_)
    subst hr0
    obtain ⟨o17, ho_17⟩ : ∃ z9 : Option Nat, s_at n F (vp + 1) 1 = z9 := ⟨_, rfl⟩
    refine rv_top (y := oI o17) (by rw [ho_17]) ?_
    rcases o17 with _ | k17
    · refine rv_top (y := -1) rfl ?_
      refine lv_istore_n (lv' := [(3, .int (-1)), (2, .int (nI k7)), (0, .ref h), (1, .int vp)]) hx hb dX0_exchange_19 rfl hl (by decide) rfl (fun ls hl => ?_)
      refine lv_iload_n hx hb dX0_exchange_20 rfl (lv_at hl 1 rfl) ?_
      refine lv_iconst (v := (-1)) hx hb dX0_exchange_21 (by decide) ?_
      refine lv_icmp_eq (tgt := 45) hx hb dX0_exchange_22 (by decide) (fun c_22 => ?_) (fun c_22 => ?_)
      · exact absurd c_22 (nI_m1 (by omega))
      · refine lv_iload_n hx hb dX0_exchange_25 rfl (lv_at hl 0 rfl) ?_
        refine lv_iconst (v := (-1)) hx hb dX0_exchange_26 (by decide) ?_
        refine lv_icmp_eq (tgt := 45) hx hb dX0_exchange_27 (by decide) (fun c_27 => ?_) (fun c_27 => ?_)
        · refine lv_iconst (v := 0) hx hb dX0_exchange_45 (by decide) ?_
          have hP8 : va_P (dC, dI) vwCl (wR h ad cI n (s_exch n F vp)) s.heap := by unfold s_exch; rw [ho_7]; rw [ho_17]; exact hP
          have hD8 : va_D A (wR h ad cI n (s_exch n F vp)) := by unfold s_exch; rw [ho_7]; rw [ho_17]; exact hD
          exact W.zret (v := 0) hx hb hr (by decide) (fun t ht hW => ⟨⟨_, (), rfl, (show 0 = bI (s_exchB n F vp) from by unfold s_exchB; rw [ho_7]; rw [ho_17]; rfl), by rw [ht]; exact hP8, hD8⟩, hS.F ht⟩) hS.2.2 dX0_exchange_46
        · exact absurd c_27 (by decide)
    · refine rv_top (y := nI k17) rfl ?_
      have i_k17 : k17 < n := (s_at_lt n k17 ho_17).1
      refine lv_istore_n (lv' := [(3, .int (nI k17)), (2, .int (nI k7)), (0, .ref h), (1, .int vp)]) hx hb dX0_exchange_19 rfl hl (by decide) rfl (fun ls hl => ?_)
      refine lv_iload_n hx hb dX0_exchange_20 rfl (lv_at hl 1 rfl) ?_
      refine lv_iconst (v := (-1)) hx hb dX0_exchange_21 (by decide) ?_
      refine lv_icmp_eq (tgt := 45) hx hb dX0_exchange_22 (by decide) (fun c_22 => ?_) (fun c_22 => ?_)
      · exact absurd c_22 (nI_m1 (by omega))
      · refine lv_iload_n hx hb dX0_exchange_25 rfl (lv_at hl 0 rfl) ?_
        refine lv_iconst (v := (-1)) hx hb dX0_exchange_26 (by decide) ?_
        refine lv_icmp_eq (tgt := 45) hx hb dX0_exchange_27 (by decide) (fun c_27 => ?_) (fun c_27 => ?_)
        · exact absurd c_27 (nI_m1 (by omega))
        · refine lv_aload_n hx hb dX0_exchange_30 rfl (lv_at hl 2 rfl) ?_
          refine va_get (D := (dC, dI)) (ci := 0) (v := .ref (ad 2)) (C := RX0) (T := TX0) (N := 8) hx hb hts hinX0 hown hK hP 0 rfl rfl 2 (by decide) (hts (.fieldLink RX0 18 "WrestleBook$Roster" "points" "[I") (by decide +kernel)) (fun _ h9 => h9) rfl dX0_exchange_31 ?_
          refine lv_iload_n hx hb dX0_exchange_34 rfl (lv_at hl 0 rfl) ?_
          refine rv_iald (k := k17) hx hb hK hP 3 0 rfl rfl (show k17 < 12 by omega) (by decide) dX0_exchange_35 ?_
          refine lv_aload_n hx hb dX0_exchange_36 rfl (lv_at hl 2 rfl) ?_
          refine va_get (D := (dC, dI)) (ci := 0) (v := .ref (ad 2)) (C := RX0) (T := TX0) (N := 8) hx hb hts hinX0 hown hK hP 0 rfl rfl 2 (by decide) (hts (.fieldLink RX0 18 "WrestleBook$Roster" "points" "[I") (by decide +kernel)) (fun _ h9 => h9) rfl dX0_exchange_37 ?_
          refine lv_iload_n hx hb dX0_exchange_40 rfl (lv_at hl 1 rfl) ?_
          refine rv_iald (k := k7) hx hb hK hP 3 0 rfl rfl (show k7 < 12 by omega) (by decide) dX0_exchange_41 ?_
          refine lv_icmp_gt (tgt := 47) hx hb dX0_exchange_42 (by decide) (fun c_42 => ?_) (fun c_42 => ?_)
          · refine lv_aload_n hx hb dX0_exchange_47 rfl (lv_at hl 2 rfl) ?_
            refine va_get (D := (dC, dI)) (ci := 0) (v := .ref (ad 0)) (C := RX0) (T := TX0) (N := 8) hx hb hts hinX0 hown hK hP 0 rfl rfl 0 (by decide) (hts (.fieldLink RX0 9 "WrestleBook$Roster" "leagues" "[I") (by decide +kernel)) (fun _ h9 => h9) rfl dX0_exchange_48 ?_
            refine lv_iload_n hx hb dX0_exchange_51 rfl (lv_at hl 1 rfl) ?_
            refine lv_iload_n hx hb dX0_exchange_52 rfl (lv_at hl 3 rfl) ?_
            refine lv_iconst (v := 1) hx hb dX0_exchange_53 (by decide) ?_
            refine lv_iadd hx hb dX0_exchange_54 ?_
            refine rv_iast (k := k7) hx hb hK hP hD hS 1 0 rfl rfl (show k7 < 12 by omega) (by decide) dX0_exchange_55 (fun H locs hP hD hS => ?_)
            have hP : va_P (dC, dI) vwCl (wR h ad cI n (pu F 0 k7 (vp + 1))) H := hP
            have hD : va_D A (wR h ad cI n (pu F 0 k7 (vp + 1))) := hD
            refine lv_aload_n hx hb dX0_exchange_56 rfl (lv_at hl 2 rfl) ?_
            refine va_get (D := (dC, dI)) (ci := 0) (v := .ref (ad 0)) (C := RX0) (T := TX0) (N := 8) hx hb hts hinX0 hown hK hP 0 rfl rfl 0 (by decide) (hts (.fieldLink RX0 9 "WrestleBook$Roster" "leagues" "[I") (by decide +kernel)) (fun _ h9 => h9) rfl dX0_exchange_57 ?_
            refine lv_iload_n hx hb dX0_exchange_60 rfl (lv_at hl 0 rfl) ?_
            refine lv_iload_n hx hb dX0_exchange_61 rfl (lv_at hl 3 rfl) ?_
            refine rv_iast (k := k17) hx hb hK hP hD hS 1 0 rfl rfl (show k17 < 12 by omega) (by decide) dX0_exchange_62 (fun H locs hP hD hS => ?_)
            have hP : va_P (dC, dI) vwCl (wR h ad cI n (pu (pu F 0 k7 (vp + 1)) 0 k17 vp)) H := hP
            have hD : va_D A (wR h ad cI n (pu (pu F 0 k7 (vp + 1)) 0 k17 vp)) := hD
            refine lv_iconst (v := 1) hx hb dX0_exchange_63 (by decide) ?_
            have hP8 : va_P (dC, dI) vwCl (wR h ad cI n (s_exch n F vp)) H := by unfold s_exch; rw [ho_7]; rw [ho_17]; simp only [if_pos c_42]; exact hP
            have hD8 : va_D A (wR h ad cI n (s_exch n F vp)) := by unfold s_exch; rw [ho_7]; rw [ho_17]; simp only [if_pos c_42]; exact hD
            exact W.zret (v := 1) hx hb hr (by decide) (fun t ht hW => ⟨⟨_, (), rfl, (show 1 = bI (s_exchB n F vp) from by unfold s_exchB; rw [ho_7]; rw [ho_17]; simp [c_42, bI]), by rw [ht]; exact hP8, hD8⟩, hS.F ht⟩) hS.2.2 dX0_exchange_64
          · refine lv_iconst (v := 0) hx hb dX0_exchange_45 (by decide) ?_
            have hP8 : va_P (dC, dI) vwCl (wR h ad cI n (s_exch n F vp)) s.heap := by unfold s_exch; rw [ho_7]; rw [ho_17]; simp only [if_neg c_42]; exact hP
            have hD8 : va_D A (wR h ad cI n (s_exch n F vp)) := by unfold s_exch; rw [ho_7]; rw [ho_17]; simp only [if_neg c_42]; exact hD
            exact W.zret (v := 0) hx hb hr (by decide) (fun t ht hW => ⟨⟨_, (), rfl, (show 0 = bI (s_exchB n F vp) from by unfold s_exchB; rw [ho_7]; rw [ho_17]; simp [c_42, bI]), by rw [ht]; exact hP8, hD8⟩, hS.F ht⟩) hS.2.2 dX0_exchange_46

set_option maxHeartbeats 4000000 in
set_option maxRecDepth 100000 in
theorem c_X0_copyFrom (l : Launch) (dC : Nat → ClassId) (dI : Nat → Nat → Nat) (cI : ClassId) (h : Nat) (ad : Nat → Nat) (n : Nat) (F : Nat → Nat → Int32) (h2 : Nat) (ad2 : Nat → Nat) (n2 : Nat) (G : Nat → Nat → Int32) (sz : Nat) (hn2 : n2 ≤ 12) : Met l yX0_copyFrom wsX0_copyFrom ({ frames := 0, cells := 0, slots := 0, locals := 0 } : Room) (va_Pc [.ref h, .ref h2] (fun U => PW dC dI cI (wR h ad cI n F ++ wR h2 ad2 cI n2 G) sz U)) (va_Qv (fun (_ : Unit) => True) (BW dC dI (va_A (wR h ad cI n F ++ wR h2 ad2 cI n2 G) sz) (wR h ad cI n2 (s_copyU G F n2) ++ wR h2 ad2 cI n2 G)) (va_A (wR h ad cI n F ++ wR h2 ad2 cI n2 G) sz)) 0 0 (va_A (wR h ad cI n F ++ wR h2 ad2 cI n2 G) sz) := by
  refine Met.ofW (cc := cX0_copyFrom) (maxL := 3) (ret := none) (by decide) rfl ?_
  intro p e s m args below meth c s₁ B hml hv
  obtain ⟨rfl, hsz, hP, hK, hD0, hE⟩ := hv
  have hx := B.exec
  have hb := B.bytes
  have hr := B.returns
  have hts := atoms_spec (ws := wsX0_copyFrom) B.pre
  have hown : s.vm.findClass RX0 = some m.cls := findClass_of_methodNamed B.named
  have hlocks := B.notSynchronized
  subst hsz
  have hD := hD0.self (sz := s.heap.size)
  generalize hAe : va_A (wR h ad cI n F ++ wR h2 ad2 cI n2 G) s.heap.size = A at hD hE ⊢
  have hA : ∀ q : Nat, s.heap.size ≤ q → A q := fun q h9 => by rw [← hAe]; exact Or.inr h9
  have hS : va_S A s.heap s.heap [] := va_S.rf
  have hinX0 : ∀ w ∈ wsX00, w ∈ wsX0_copyFrom := by decide +kernel
  have hl := lv_entry ([.ref h, .ref h2]) (n := 3) (Nat.le_of_ble_eq_true rfl)
  rw [lg_entry_eq]
  generalize (lg_sl ([.ref h, .ref h2]) ++ List.replicate (3 - (lg_sl ([.ref h, .ref h2])).length) Slot.unset).toArray = ls at hl ⊢
  have hl : lv_has ls 3 [(0, .ref h), (1, .ref h2)] := hl
  refine lv_aload_n hx hb dX0_copyFrom_0 rfl (lv_at hl 0 rfl) ?_
  refine lv_aload_n hx hb dX0_copyFrom_1 rfl (lv_at hl 1 rfl) ?_
  refine va_get (D := (dC, dI)) (ci := 0) (v := .int (nI n2)) (C := RX0) (T := TX0) (N := 8) hx hb hts hinX0 hown hK hP 8 rfl rfl 7 (by decide) (hts (.fieldLink RX0 33 "WrestleBook$Roster" "size" "I") (by decide +kernel)) (fun _ h9 => h9) rfl dX0_copyFrom_2 ?_
  refine va_put (D := (dC, dI)) (ci := 0) (v := .int (nI n2)) (ty := .int) (C := RX0) (T := TX0) (N := 8) hx hb hts hinX0 tyX0 tyX0_ok nmX0 hown hK hP hD hS 0 rfl rfl 7 (by decide) (hts (.fieldLink RX0 33 "WrestleBook$Roster" "size" "I") (by decide +kernel)) (fun _ h9 => h9) rfl (by decide +kernel) rfl rfl (Nat.le_of_ble_eq_true rfl) dX0_copyFrom_5 (fun H locs hP hD hS => ?_)
  have hP : va_P (dC, dI) vwCl (wR h ad cI n2 F ++ wR h2 ad2 cI n2 G) H := hP
  have hD : va_D A (wR h ad cI n2 F ++ wR h2 ad2 cI n2 G) := hD
  refine lv_iconst (v := 0) hx hb dX0_copyFrom_8 (by decide) ?_
  refine lv_istore_n (lv' := [(2, .int 0), (0, .ref h), (1, .ref h2)]) hx hb dX0_copyFrom_9 rfl hl (by decide) rfl (fun ls hl => ?_)
  have L_10 : ∀ (k i : Nat) (X : Nat → Nat → Int32), i + k = n2 → X = s_copyU G F i → ∀ (H : Heap) (locs : List Loc), va_P (dC, dI) vwCl (wR h ad cI n2 X ++ wR h2 ad2 cI n2 G) H → va_D A (wR h ad cI n2 X ++ wR h2 ad2 cI n2 G) → va_S A s.heap H locs → ∀ (ls : Array Slot), lv_has ls 3 [(2, .int (nI i)), (0, .ref h), (1, .ref h2)] → W p l e (headSpec wsX0_copyFrom ({ frames := 0, cells := 0, slots := 0, locals := 0 } : Room)).room s m ([.ref h, .ref h2] : List Value).toArray below meth c H locs 0 0 (MQ below (va_Qv (fun (_ : Unit) => True) (BW dC dI A (wR h ad cI n2 (s_copyU G F n2) ++ wR h2 ad2 cI n2 G)) A) ([.ref h, .ref h2] : List Value).toArray s 0 0 A) (F0 m 10 ls []) := by
    intro k
    induction k with
    | zero =>
      intro i X e_i hX H locs hP hD hS ls hl
      refine lv_iload_n hx hb dX0_copyFrom_10 rfl (lv_at hl 0 rfl) ?_
      refine lv_aload_n hx hb dX0_copyFrom_11 rfl (lv_at hl 1 rfl) ?_
      refine va_get (D := (dC, dI)) (ci := 0) (v := .int (nI n2)) (C := RX0) (T := TX0) (N := 8) hx hb hts hinX0 hown hK hP 0 rfl rfl 7 (by decide) (hts (.fieldLink RX0 33 "WrestleBook$Roster" "size" "I") (by decide +kernel)) (fun _ h9 => h9) rfl dX0_copyFrom_12 ?_
      refine rv_icmp_ge (tgt := 108) hx hb (a := i) (b := n2) (by omega) (by omega) dX0_copyFrom_15 (by decide) (fun c_15 => ?_) (fun c_15 => ?_)
      · have hP8 : va_P (dC, dI) vwCl (wR h ad cI n2 (s_copyU G F n2) ++ wR h2 ad2 cI n2 G) H := by rw [show s_copyU G F n2 = X from by rw [hX, show i = n2 by omega]]; exact hP
        have hD8 : va_D A (wR h ad cI n2 (s_copyU G F n2) ++ wR h2 ad2 cI n2 G) := by rw [show s_copyU G F n2 = X from by rw [hX, show i = n2 by omega]]; exact hD
        exact W.vret hx hb hr (fun t ht hW => ⟨⟨(), rfl, trivial, by rw [ht]; exact hP8, hD8⟩, hS.F ht⟩) hS.2.2 dX0_copyFrom_108
      · exact absurd c_15 (by omega)
    | succ k ih_10 =>
      intro i X e_i hX H locs hP hD hS ls hl
      refine lv_iload_n hx hb dX0_copyFrom_10 rfl (lv_at hl 0 rfl) ?_
      refine lv_aload_n hx hb dX0_copyFrom_11 rfl (lv_at hl 1 rfl) ?_
      refine va_get (D := (dC, dI)) (ci := 0) (v := .int (nI n2)) (C := RX0) (T := TX0) (N := 8) hx hb hts hinX0 hown hK hP 0 rfl rfl 7 (by decide) (hts (.fieldLink RX0 33 "WrestleBook$Roster" "size" "I") (by decide +kernel)) (fun _ h9 => h9) rfl dX0_copyFrom_12 ?_
      refine rv_icmp_ge (tgt := 108) hx hb (a := i) (b := n2) (by omega) (by omega) dX0_copyFrom_15 (by decide) (fun c_15 => ?_) (fun c_15 => ?_)
      · exact absurd c_15 (by omega)
      · refine lv_aload_n hx hb dX0_copyFrom_18 rfl (lv_at hl 1 rfl) ?_
        refine va_get (D := (dC, dI)) (ci := 0) (v := .ref (ad 0)) (C := RX0) (T := TX0) (N := 8) hx hb hts hinX0 hown hK hP 0 rfl rfl 0 (by decide) (hts (.fieldLink RX0 9 "WrestleBook$Roster" "leagues" "[I") (by decide +kernel)) (fun _ h9 => h9) rfl dX0_copyFrom_19 ?_
        refine lv_iload_n hx hb dX0_copyFrom_22 rfl (lv_at hl 0 rfl) ?_
        refine lv_aload_n hx hb dX0_copyFrom_23 rfl (lv_at hl 2 rfl) ?_
        refine va_get (D := (dC, dI)) (ci := 0) (v := .ref (ad2 0)) (C := RX0) (T := TX0) (N := 8) hx hb hts hinX0 hown hK hP 8 rfl rfl 0 (by decide) (hts (.fieldLink RX0 9 "WrestleBook$Roster" "leagues" "[I") (by decide +kernel)) (fun _ h9 => h9) rfl dX0_copyFrom_24 ?_
        refine lv_iload_n hx hb dX0_copyFrom_27 rfl (lv_at hl 0 rfl) ?_
        refine rv_iald (k := i) hx hb hK hP 9 0 rfl rfl (show i < 12 by omega) (by decide) dX0_copyFrom_28 ?_
        refine rv_iast (k := i) hx hb hK hP hD hS 1 0 rfl rfl (show i < 12 by omega) (by decide) dX0_copyFrom_29 (fun H locs hP hD hS => ?_)
        have hP : va_P (dC, dI) vwCl (wR h ad cI n2 (pu X 0 i (G 0 i)) ++ wR h2 ad2 cI n2 G) H := hP
        have hD : va_D A (wR h ad cI n2 (pu X 0 i (G 0 i)) ++ wR h2 ad2 cI n2 G) := hD
        refine lv_aload_n hx hb dX0_copyFrom_30 rfl (lv_at hl 1 rfl) ?_
        refine va_get (D := (dC, dI)) (ci := 0) (v := .ref (ad 1)) (C := RX0) (T := TX0) (N := 8) hx hb hts hinX0 hown hK hP 0 rfl rfl 1 (by decide) (hts (.fieldLink RX0 15 "WrestleBook$Roster" "ratings" "[I") (by decide +kernel)) (fun _ h9 => h9) rfl dX0_copyFrom_31 ?_
        refine lv_iload_n hx hb dX0_copyFrom_34 rfl (lv_at hl 0 rfl) ?_
        refine lv_aload_n hx hb dX0_copyFrom_35 rfl (lv_at hl 2 rfl) ?_
        refine va_get (D := (dC, dI)) (ci := 0) (v := .ref (ad2 1)) (C := RX0) (T := TX0) (N := 8) hx hb hts hinX0 hown hK hP 8 rfl rfl 1 (by decide) (hts (.fieldLink RX0 15 "WrestleBook$Roster" "ratings" "[I") (by decide +kernel)) (fun _ h9 => h9) rfl dX0_copyFrom_36 ?_
        refine lv_iload_n hx hb dX0_copyFrom_39 rfl (lv_at hl 0 rfl) ?_
        refine rv_iald (k := i) hx hb hK hP 10 0 rfl rfl (show i < 12 by omega) (by decide) dX0_copyFrom_40 ?_
        refine rv_iast (k := i) hx hb hK hP hD hS 2 0 rfl rfl (show i < 12 by omega) (by decide) dX0_copyFrom_41 (fun H locs hP hD hS => ?_)
        have hP : va_P (dC, dI) vwCl (wR h ad cI n2 (pu (pu X 0 i (G 0 i)) 1 i (G 1 i)) ++ wR h2 ad2 cI n2 G) H := hP
        have hD : va_D A (wR h ad cI n2 (pu (pu X 0 i (G 0 i)) 1 i (G 1 i)) ++ wR h2 ad2 cI n2 G) := hD
        refine lv_aload_n hx hb dX0_copyFrom_42 rfl (lv_at hl 1 rfl) ?_
        refine va_get (D := (dC, dI)) (ci := 0) (v := .ref (ad 2)) (C := RX0) (T := TX0) (N := 8) hx hb hts hinX0 hown hK hP 0 rfl rfl 2 (by decide) (hts (.fieldLink RX0 18 "WrestleBook$Roster" "points" "[I") (by decide +kernel)) (fun _ h9 => h9) rfl dX0_copyFrom_43 ?_
        refine lv_iload_n hx hb dX0_copyFrom_46 rfl (lv_at hl 0 rfl) ?_
        refine lv_aload_n hx hb dX0_copyFrom_47 rfl (lv_at hl 2 rfl) ?_
        refine va_get (D := (dC, dI)) (ci := 0) (v := .ref (ad2 2)) (C := RX0) (T := TX0) (N := 8) hx hb hts hinX0 hown hK hP 8 rfl rfl 2 (by decide) (hts (.fieldLink RX0 18 "WrestleBook$Roster" "points" "[I") (by decide +kernel)) (fun _ h9 => h9) rfl dX0_copyFrom_48 ?_
        refine lv_iload_n hx hb dX0_copyFrom_51 rfl (lv_at hl 0 rfl) ?_
        refine rv_iald (k := i) hx hb hK hP 11 0 rfl rfl (show i < 12 by omega) (by decide) dX0_copyFrom_52 ?_
        refine rv_iast (k := i) hx hb hK hP hD hS 3 0 rfl rfl (show i < 12 by omega) (by decide) dX0_copyFrom_53 (fun H locs hP hD hS => ?_)
        have hP : va_P (dC, dI) vwCl (wR h ad cI n2 (pu (pu (pu X 0 i (G 0 i)) 1 i (G 1 i)) 2 i (G 2 i)) ++ wR h2 ad2 cI n2 G) H := hP
        have hD : va_D A (wR h ad cI n2 (pu (pu (pu X 0 i (G 0 i)) 1 i (G 1 i)) 2 i (G 2 i)) ++ wR h2 ad2 cI n2 G) := hD
        refine lv_aload_n hx hb dX0_copyFrom_54 rfl (lv_at hl 1 rfl) ?_
        refine va_get (D := (dC, dI)) (ci := 0) (v := .ref (ad 3)) (C := RX0) (T := TX0) (N := 8) hx hb hts hinX0 hown hK hP 0 rfl rfl 3 (by decide) (hts (.fieldLink RX0 21 "WrestleBook$Roster" "bouts" "[I") (by decide +kernel)) (fun _ h9 => h9) rfl dX0_copyFrom_55 ?_
        refine lv_iload_n hx hb dX0_copyFrom_58 rfl (lv_at hl 0 rfl) ?_
        refine lv_aload_n hx hb dX0_copyFrom_59 rfl (lv_at hl 2 rfl) ?_
        refine va_get (D := (dC, dI)) (ci := 0) (v := .ref (ad2 3)) (C := RX0) (T := TX0) (N := 8) hx hb hts hinX0 hown hK hP 8 rfl rfl 3 (by decide) (hts (.fieldLink RX0 21 "WrestleBook$Roster" "bouts" "[I") (by decide +kernel)) (fun _ h9 => h9) rfl dX0_copyFrom_60 ?_
        refine lv_iload_n hx hb dX0_copyFrom_63 rfl (lv_at hl 0 rfl) ?_
        refine rv_iald (k := i) hx hb hK hP 12 0 rfl rfl (show i < 12 by omega) (by decide) dX0_copyFrom_64 ?_
        refine rv_iast (k := i) hx hb hK hP hD hS 4 0 rfl rfl (show i < 12 by omega) (by decide) dX0_copyFrom_65 (fun H locs hP hD hS => ?_)
        have hP : va_P (dC, dI) vwCl (wR h ad cI n2 (pu (pu (pu (pu X 0 i (G 0 i)) 1 i (G 1 i)) 2 i (G 2 i)) 3 i (G 3 i)) ++ wR h2 ad2 cI n2 G) H := hP
        have hD : va_D A (wR h ad cI n2 (pu (pu (pu (pu X 0 i (G 0 i)) 1 i (G 1 i)) 2 i (G 2 i)) 3 i (G 3 i)) ++ wR h2 ad2 cI n2 G) := hD
        refine lv_aload_n hx hb dX0_copyFrom_66 rfl (lv_at hl 1 rfl) ?_
        refine va_get (D := (dC, dI)) (ci := 0) (v := .ref (ad 4)) (C := RX0) (T := TX0) (N := 8) hx hb hts hinX0 hown hK hP 0 rfl rfl 4 (by decide) (hts (.fieldLink RX0 24 "WrestleBook$Roster" "seasonBouts" "[I") (by decide +kernel)) (fun _ h9 => h9) rfl dX0_copyFrom_67 ?_
        refine lv_iload_n hx hb dX0_copyFrom_70 rfl (lv_at hl 0 rfl) ?_
        refine lv_aload_n hx hb dX0_copyFrom_71 rfl (lv_at hl 2 rfl) ?_
        refine va_get (D := (dC, dI)) (ci := 0) (v := .ref (ad2 4)) (C := RX0) (T := TX0) (N := 8) hx hb hts hinX0 hown hK hP 8 rfl rfl 4 (by decide) (hts (.fieldLink RX0 24 "WrestleBook$Roster" "seasonBouts" "[I") (by decide +kernel)) (fun _ h9 => h9) rfl dX0_copyFrom_72 ?_
        refine lv_iload_n hx hb dX0_copyFrom_75 rfl (lv_at hl 0 rfl) ?_
        refine rv_iald (k := i) hx hb hK hP 13 0 rfl rfl (show i < 12 by omega) (by decide) dX0_copyFrom_76 ?_
        refine rv_iast (k := i) hx hb hK hP hD hS 5 0 rfl rfl (show i < 12 by omega) (by decide) dX0_copyFrom_77 (fun H locs hP hD hS => ?_)
        have hP : va_P (dC, dI) vwCl (wR h ad cI n2 (pu (pu (pu (pu (pu X 0 i (G 0 i)) 1 i (G 1 i)) 2 i (G 2 i)) 3 i (G 3 i)) 4 i (G 4 i)) ++ wR h2 ad2 cI n2 G) H := hP
        have hD : va_D A (wR h ad cI n2 (pu (pu (pu (pu (pu X 0 i (G 0 i)) 1 i (G 1 i)) 2 i (G 2 i)) 3 i (G 3 i)) 4 i (G 4 i)) ++ wR h2 ad2 cI n2 G) := hD
        refine lv_aload_n hx hb dX0_copyFrom_78 rfl (lv_at hl 1 rfl) ?_
        refine va_get (D := (dC, dI)) (ci := 0) (v := .ref (ad 5)) (C := RX0) (T := TX0) (N := 8) hx hb hts hinX0 hown hK hP 0 rfl rfl 5 (by decide) (hts (.fieldLink RX0 27 "WrestleBook$Roster" "winRows" "[I") (by decide +kernel)) (fun _ h9 => h9) rfl dX0_copyFrom_79 ?_
        refine lv_iload_n hx hb dX0_copyFrom_82 rfl (lv_at hl 0 rfl) ?_
        refine lv_aload_n hx hb dX0_copyFrom_83 rfl (lv_at hl 2 rfl) ?_
        refine va_get (D := (dC, dI)) (ci := 0) (v := .ref (ad2 5)) (C := RX0) (T := TX0) (N := 8) hx hb hts hinX0 hown hK hP 8 rfl rfl 5 (by decide) (hts (.fieldLink RX0 27 "WrestleBook$Roster" "winRows" "[I") (by decide +kernel)) (fun _ h9 => h9) rfl dX0_copyFrom_84 ?_
        refine lv_iload_n hx hb dX0_copyFrom_87 rfl (lv_at hl 0 rfl) ?_
        refine rv_iald (k := i) hx hb hK hP 14 0 rfl rfl (show i < 12 by omega) (by decide) dX0_copyFrom_88 ?_
        refine rv_iast (k := i) hx hb hK hP hD hS 6 0 rfl rfl (show i < 12 by omega) (by decide) dX0_copyFrom_89 (fun H locs hP hD hS => ?_)
        have hP : va_P (dC, dI) vwCl (wR h ad cI n2 (pu (pu (pu (pu (pu (pu X 0 i (G 0 i)) 1 i (G 1 i)) 2 i (G 2 i)) 3 i (G 3 i)) 4 i (G 4 i)) 5 i (G 5 i)) ++ wR h2 ad2 cI n2 G) H := hP
        have hD : va_D A (wR h ad cI n2 (pu (pu (pu (pu (pu (pu X 0 i (G 0 i)) 1 i (G 1 i)) 2 i (G 2 i)) 3 i (G 3 i)) 4 i (G 4 i)) 5 i (G 5 i)) ++ wR h2 ad2 cI n2 G) := hD
        refine lv_aload_n hx hb dX0_copyFrom_90 rfl (lv_at hl 1 rfl) ?_
        refine va_get (D := (dC, dI)) (ci := 0) (v := .ref (ad 6)) (C := RX0) (T := TX0) (N := 8) hx hb hts hinX0 hown hK hP 0 rfl rfl 6 (by decide) (hts (.fieldLink RX0 30 "WrestleBook$Roster" "bests" "[I") (by decide +kernel)) (fun _ h9 => h9) rfl dX0_copyFrom_91 ?_
        refine lv_iload_n hx hb dX0_copyFrom_94 rfl (lv_at hl 0 rfl) ?_
        refine lv_aload_n hx hb dX0_copyFrom_95 rfl (lv_at hl 2 rfl) ?_
        refine va_get (D := (dC, dI)) (ci := 0) (v := .ref (ad2 6)) (C := RX0) (T := TX0) (N := 8) hx hb hts hinX0 hown hK hP 8 rfl rfl 6 (by decide) (hts (.fieldLink RX0 30 "WrestleBook$Roster" "bests" "[I") (by decide +kernel)) (fun _ h9 => h9) rfl dX0_copyFrom_96 ?_
        refine lv_iload_n hx hb dX0_copyFrom_99 rfl (lv_at hl 0 rfl) ?_
        refine rv_iald (k := i) hx hb hK hP 15 0 rfl rfl (show i < 12 by omega) (by decide) dX0_copyFrom_100 ?_
        refine rv_iast (k := i) hx hb hK hP hD hS 7 0 rfl rfl (show i < 12 by omega) (by decide) dX0_copyFrom_101 (fun H locs hP hD hS => ?_)
        have hP : va_P (dC, dI) vwCl (wR h ad cI n2 (pu (pu (pu (pu (pu (pu (pu X 0 i (G 0 i)) 1 i (G 1 i)) 2 i (G 2 i)) 3 i (G 3 i)) 4 i (G 4 i)) 5 i (G 5 i)) 6 i (G 6 i)) ++ wR h2 ad2 cI n2 G) H := hP
        have hD : va_D A (wR h ad cI n2 (pu (pu (pu (pu (pu (pu (pu X 0 i (G 0 i)) 1 i (G 1 i)) 2 i (G 2 i)) 3 i (G 3 i)) 4 i (G 4 i)) 5 i (G 5 i)) 6 i (G 6 i)) ++ wR h2 ad2 cI n2 G) := hD
        refine lv_iinc (v := nI (i + 1)) (lv' := [(2, .int (nI (i + 1))), (0, .ref h), (1, .ref h2)]) hx hb dX0_copyFrom_102 hl (k := 0) rfl (nI_add i 1) (by decide) rfl (fun ls hl => ?_)
        refine lv_goto (tgt := 10) hx hb dX0_copyFrom_105 (by decide) ?_
        exact ih_10 (i + 1) (pu (pu (pu (pu (pu (pu (pu X 0 i (G 0 i)) 1 i (G 1 i)) 2 i (G 2 i)) 3 i (G 3 i)) 4 i (G 4 i)) 5 i (G 5 i)) 6 i (G 6 i)) (by omega) (by rw [hX]; rfl) _ _ hP hD hS ls (lv_sub hl [0, 1, 2] rfl)
  exact L_10 n2 0 F (by omega) rfl _ _ hP hD hS ls (lv_sub hl [0, 1, 2] rfl)
end
section
/-! Pure facts for the reference's methods. -/
def dA (F : Nat → Nat → Int32) (a b : Nat) : Nat := if F 1 b ≤ F 1 a then dN (F 1 a) (F 1 b) else dN (F 1 b) (F 1 a)
theorem okR.abs {n : Nat} {F : Nat → Nat → Int32} (h : okR n F) {a b : Nat} (ha : a < n) (hb : b < n) : absI (F 1 a - F 1 b) = nI (dA F a b) ∧ dA F a b ≤ 2900 := by
  obtain ⟨x, x1, x2, ex⟩ := h a ha
  obtain ⟨y, y1, y2, ey⟩ := h b hb
  by_cases hc : F 1 b ≤ F 1 a
  · obtain ⟨h1, h2⟩ := h.le ha hb hc
    unfold dA absI
    rw [if_pos hc, h2, if_pos (nI_pos' (by omega))]
    exact ⟨rfl, h1⟩
  · have hc2 := i32_le_of_not hc
    obtain ⟨h1, h2⟩ := h.le hb ha hc2
    unfold dA absI
    rw [if_neg hc]
    have e0 : F 1 a - F 1 b < 0 := by
      rw [ex, ey]
      refine pk_sneg (by omega) ?_
      rw [ex, ey] at hc
      exact Nat.lt_of_not_le (fun q => hc ((nI_leI (by omega) (by omega)).mpr q))
    rw [if_neg (Int32.not_le.mpr e0)]
    rw [show (0 : Int32) - (F 1 a - F 1 b) = F 1 b - F 1 a from by rw [Int32.zero_sub, Int32.neg_sub]]
    exact ⟨h2, h1⟩
theorem mD_min2 {d : Nat} (hd : d ≤ 2900) : (if nI d < (800 : Int32) then nI d else (800 : Int32)) = nI (mD d) := by
  unfold mD
  show (if nI d < nI 800 then nI d else nI 800) = _
  by_cases h : d < 800
  · rw [if_pos ((nI_ltI (by omega) (by omega)).mpr h), if_neg (by omega)]
  · rw [if_neg (fun q => h ((nI_ltI (by omega) (by omega)).mp q))]
    by_cases h2 : 800 < d
    · rw [if_pos h2]
    · rw [if_neg h2, show d = 800 by omega]
theorem s_exp_ge {F : Nat → Nat → Int32} {a b : Nat} (h : F 1 b ≤ F 1 a) : s_exp F a b = exN (mD (dA F a b)) := by
  unfold s_exp dA s_eoh
  rw [if_pos h, if_pos h]
theorem s_exp_lt {F : Nat → Nat → Int32} {a b : Nat} (h : ¬ F 1 b ≤ F 1 a) : s_exp F a b = 1000 - exN (mD (dA F a b)) := by
  unfold s_exp dA s_eoh
  rw [if_neg h, if_neg h]
theorem ahead_self (F : Nat → Nat → Int32) (w : Nat) : ahead F w w = false := by simp [ahead]
theorem n500_div {q : Nat} (hq : q ≤ 2) : nI (500 * q) / 500 = nI q := by
  rw [show (500 : Int32) = nI 500 from rfl, pk_div (by omega) (by decide) (by decide), Nat.mul_div_cancel_left q (by decide)]
theorem n500_sub {q : Nat} (hq : q ≤ 2) : (1000 : Int32) - nI (500 * q) = nI (500 * (2 - q)) := by
  rw [show (1000 : Int32) = nI 1000 from rfl, pk_sub (by omega)]
  congr 1
  omega
theorem note_comm (F : Nat → Nat → Int32) (w q : Nat) : pu (pu (pu (pu F 3 w (F 3 w + 1)) 4 w (F 4 w + 1)) 2 w (F 2 w + nI q)) 5 w (if q = 2 then F 5 w + 1 else 0) = s_note F w q := by
  funext a j
  simp only [s_note, pu_app]
  by_cases h5 : a = 5 ∧ j = w
  · rw [if_pos h5, if_pos h5]
  · rw [if_neg h5, if_neg h5]
    by_cases h4 : a = 4 ∧ j = w
    · rw [if_neg (fun q => by omega), if_pos h4, if_pos h4]
    · rw [if_neg h4, if_neg h4]
      by_cases h3 : a = 3 ∧ j = w
      · rw [if_neg (fun q => by omega), if_pos h3, if_pos h3]
      · rw [if_neg h3, if_neg h3]
def s_mb (F : Nat → Nat → Int32) (a b q : Nat) : Nat → Nat → Int32 := s_note (s_note (s_set (s_set F a (s_then F a b (nI (500 * q)))) b (s_then F b a (nI (500 * (2 - q))))) a q) b (2 - q)
def s_ct (ct : Nat → Int32) (F : Nat → Nat → Int32) (a b q : Nat) : Nat → Int32 := upd (upd ct 2 (ct 2 + bI (s_up F a b (nI q)))) 1 (ct 1 + 1)
theorem upd_0 (f : Nat → Int32) (k : Nat) : upd f k (f k + 0) = f := by
  funext j
  by_cases h : j = k
  · subst h; rw [pk_us, Int32.add_zero]
  · rw [pk_un h]
/-- bouts of the season stay small -/
def okB (n : Nat) (F : Nat → Nat → Int32) : Prop := ∀ i, i < n → ∃ k : Nat, k ≤ 100000 ∧ F 4 i = nI k
theorem absI_neg {k : Nat} (hk : k < 2 ^ 31) : absI (-(nI k)) = nI k := by
  unfold absI
  by_cases h0 : k = 0
  · subst h0; rfl
  · have e : ¬ (0 : Int32) ≤ -(nI k) := by
      intro q
      have q2 := Int32.le_iff_toInt_le.mp q
      rw [sb_negT hk] at q2
      have z : (0 : Int32).toInt = 0 := rfl
      rw [z] at q2
      omega
    rw [if_neg e, Int32.zero_sub, Int32.neg_neg]
theorem tbN (k : Nat) : ∃ x : Nat, 500 ≤ x ∧ x ≤ 990 ∧ tb k = nI x := by
  match k with
  | 0 => exact ⟨500, by decide, by decide, rfl⟩
  | 1 => exact ⟨640, by decide, by decide, rfl⟩
  | 2 => exact ⟨760, by decide, by decide, rfl⟩
  | 3 => exact ⟨849, by decide, by decide, rfl⟩
  | 4 => exact ⟨909, by decide, by decide, rfl⟩
  | 5 => exact ⟨947, by decide, by decide, rfl⟩
  | 6 => exact ⟨969, by decide, by decide, rfl⟩
  | 7 => exact ⟨983, by decide, by decide, rfl⟩
  | k + 8 => exact ⟨990, by decide, by decide, rfl⟩
/-- the steps of the table -/
theorem tbS : ∀ k, k < 8 → ∃ x y : Nat, 500 ≤ x ∧ x ≤ y ∧ y ≤ 990 ∧ tb k = nI x ∧ tb (k + 1) = nI y := by
  intro k hk
  match k, hk with
  | 0, _ => exact ⟨500, 640, by decide, by decide, by decide, rfl, rfl⟩
  | 1, _ => exact ⟨640, 760, by decide, by decide, by decide, rfl, rfl⟩
  | 2, _ => exact ⟨760, 849, by decide, by decide, by decide, rfl, rfl⟩
  | 3, _ => exact ⟨849, 909, by decide, by decide, by decide, rfl, rfl⟩
  | 4, _ => exact ⟨909, 947, by decide, by decide, by decide, rfl, rfl⟩
  | 5, _ => exact ⟨947, 969, by decide, by decide, by decide, rfl, rfl⟩
  | 6, _ => exact ⟨969, 983, by decide, by decide, by decide, rfl, rfl⟩
  | 7, _ => exact ⟨983, 990, by decide, by decide, by decide, rfl, rfl⟩
/-- what is expected of the higher one, 500 to 990 -/
theorem exNN {m : Nat} (hm : m ≤ 800) : ∃ x : Nat, 500 ≤ x ∧ x ≤ 990 ∧ exN m = nI x := by
  unfold exN
  by_cases h : m = 800
  · rw [if_pos h]
    exact tbN _
  · rw [if_neg h]
    obtain ⟨x, y, h1, h2, h3, e1, e2⟩ := tbS (m / 100) (by omega)
    rw [e1, e2, pk_sub h2, pk_mul, show (100 : Int32) = nI 100 from rfl, pk_div (Nat.lt_of_le_of_lt (Nat.mul_le_mul (show y - x ≤ 490 by omega) (show m % 100 ≤ 99 by omega)) (by decide)) (by decide) (by decide), nI_add]
    have h4 : (y - x) * (m % 100) / 100 ≤ y - x := by
      refine Nat.div_le_of_le_mul ?_
      rw [Nat.mul_comm 100]
      exact Nat.mul_le_mul (Nat.le_refl _) (by omega)
    exact ⟨_, by omega, by omega, rfl⟩
theorem dA_comm {n : Nat} {F : Nat → Nat → Int32} (h : okR n F) {a b : Nat} (ha : a < n) (hb : b < n) : dA F a b = dA F b a := by
  unfold dA
  by_cases h1 : F 1 b ≤ F 1 a
  · rw [if_pos h1]
    by_cases h2 : F 1 a ≤ F 1 b
    · rw [if_pos h2]
      obtain ⟨x, x1, x2, ex⟩ := h a ha
      obtain ⟨y, y1, y2, ey⟩ := h b hb
      rw [ex, ey] at h1 h2
      have e1 := (nI_leI (by omega) (by omega)).mp h1
      have e2 := (nI_leI (by omega) (by omega)).mp h2
      rw [ex, ey, show x = y by omega]
    · rw [if_neg h2]
  · rw [if_neg h1, if_pos (i32_le_of_not h1)]
/-- what is expected as a number, and its distance from 500 -/
theorem s_offN {n : Nat} {F : Nat → Nat → Int32} (h : okR n F) {a b : Nat} (ha : a < n) (hb : b < n) : ∃ x : Nat, 500 ≤ x ∧ x ≤ 990 ∧ exN (mD (dA F a b)) = nI x ∧ s_off F a b = nI (x - 500) := by
  obtain ⟨x, h1, h2, e⟩ := exNN (mD_le (dA F a b))
  refine ⟨x, h1, h2, e, ?_⟩
  unfold s_off
  by_cases hc : F 1 b ≤ F 1 a
  · rw [s_exp_ge hc, e, show (500 : Int32) = nI 500 from rfl, pk_sub h1]
    unfold absI
    rw [if_pos (nI_pos' (by omega))]
  · rw [s_exp_lt hc, e]
    have e2 : (1000 : Int32) - nI x - 500 = -(nI (x - 500)) := by
      rw [show (1000 : Int32) = nI 1000 from rfl, show (500 : Int32) = nI 500 from rfl, pk_sub (by omega)]
      have : nI (1000 - x) - nI 500 = -(nI (x - 500)) := by
        refine Int32.toInt_inj.mp ?_
        rw [pk_sub_toInt (by omega) (by omega), sb_negT (by omega)]
        omega
      exact this
    rw [e2, absI_neg (by omega)]
theorem s_off_comm {n : Nat} {F : Nat → Nat → Int32} (h : okR n F) {a b : Nat} (ha : a < n) (hb : b < n) : s_off F a b = s_off F b a := by
  obtain ⟨x, h1, h2, e, e2⟩ := s_offN h ha hb
  obtain ⟨y, h3, h4, e3, e4⟩ := s_offN h hb ha
  rw [dA_comm h hb ha, e] at e3
  have : x = y := (nI_eq (by omega) (by omega)).mp e3
  rw [e2, e4, this]
theorem lexLt {u v u' v' : Nat} (hu : u ≤ 200000) (hv : v < 1000) (hu' : u' ≤ 200000) (hv' : v' < 1000) : ((1000 : Int32) * nI u + nI v < 1000 * nI u' + nI v') ↔ (nI u < nI u' ∨ (nI u = nI u' ∧ ¬ nI v' ≤ nI v)) := by
  rw [show (1000 : Int32) = nI 1000 from rfl, pk_mul, pk_mul, nI_add, nI_add, nI_ltI (by omega) (by omega), nI_ltI (by omega) (by omega), nI_eq (by omega) (by omega), nI_leI (by omega) (by omega)]
  omega
theorem s_loU_z {F : Nat → Nat → Int32} {z z' : Int32} : ∀ m, (∀ i, i < m → F 1 i ≤ z ∧ F 1 i ≤ z') → 0 < m → s_loU F z m = s_loU F z' m
  | 0, _, h0 => absurd h0 (by decide)
  | 1, h, _ => by
    show (if F 1 0 < z then F 1 0 else z) = (if F 1 0 < z' then F 1 0 else z')
    obtain ⟨a, b⟩ := h 0 (by decide)
    have k : ∀ y : Int32, F 1 0 ≤ y → (if F 1 0 < y then F 1 0 else y) = F 1 0 := by
      intro y hy
      by_cases hc : F 1 0 < y
      · rw [if_pos hc]
      · rw [if_neg hc]
        exact Int32.le_antisymm (Int32.not_lt.mp hc) hy
    rw [k z a, k z' b]
  | m + 2, h, _ => by
    show (if F 1 (m + 1) < s_loU F z (m + 1) then F 1 (m + 1) else s_loU F z (m + 1)) = (if F 1 (m + 1) < s_loU F z' (m + 1) then F 1 (m + 1) else s_loU F z' (m + 1))
    rw [s_loU_z (m + 1) (fun i hi => h i (by omega)) (by omega)]
theorem s_hiU_le {F : Nat → Nat → Int32} : ∀ m i, i < m → F 1 i ≤ s_hiU F m
  | 0, _, h => absurd h (by omega)
  | m + 1, i, h => by
    show F 1 i ≤ (if s_hiU F m < F 1 m then F 1 m else s_hiU F m)
    by_cases hc : s_hiU F m < F 1 m
    · rw [if_pos hc]
      rcases Nat.lt_or_ge i m with q | q
      · exact Int32.le_trans (s_hiU_le m i q) (Int32.le_of_lt hc)
      · rw [show i = m by omega]; exact Int32.le_refl _
    · rw [if_neg hc]
      rcases Nat.lt_or_ge i m with q | q
      · exact s_hiU_le m i q
      · rw [show i = m by omega]; exact Int32.not_lt.mp hc
theorem lo_eq {n : Nat} {F : Nat → Nat → Int32} (h : okR n F) : s_loU F (s_hi n F) n = s_lo n F := by
  unfold s_lo
  by_cases h0 : n = 0
  · subst h0; rfl
  · rw [if_neg h0]
    refine s_loU_z n (fun i hi => ⟨s_hiU_le n i hi, ?_⟩) (by omega)
    obtain ⟨x, x1, x2, ex⟩ := h i hi
    rw [ex]
    exact nI_le (b := 3000) x2 (by decide)
/-- a row put in another's place -/
def prow (F : Nat → Nat → Int32) (k : Nat) (f : Nat → Int32) : Nat → Nat → Int32 := fun a => cond (Nat.beq a k) f (F a)
def cpy12 (f g : Nat → Int32) : Nat → Int32 := va_cpy f g 0 0 12
def s_become (G F : Nat → Nat → Int32) : Nat → Nat → Int32 := prow (prow (prow (prow (prow (prow (prow F 1 (cpy12 (G 1) (F 1))) 0 (cpy12 (G 0) (F 0))) 2 (cpy12 (G 2) (F 2))) 3 (cpy12 (G 3) (F 3))) 4 (cpy12 (G 4) (F 4))) 5 (cpy12 (G 5) (F 5))) 6 (cpy12 (G 6) (F 6))
def s_endU (n : Nat) (F : Nat → Nat → Int32) (m : Nat) : (Nat → Nat → Int32) × Int32 := fo (fun k T => (s_exch n T.1 (nI k), if s_exchB n T.1 (nI k) = true then T.2 + 1 else T.2)) (F, 0) m
end
section
/-! WrestleBook and its reference: cells, and what their calls answer. -/
abbrev wB (h r1 : Nat) (d1 : Nat → Nat) (r2 : Nat) (d2 : Nat → Nat) (rc : Nat) (cI : ClassId) (n : Nat) (F : Nat → Nat → Int32) (n2 : Nat) (G : Nat → Nat → Int32) (ct ch : Nat → Int32) : va_W := (h, .inr (1, [.ref r1, .ref r2, .ref rc, .int (ct 0), .int (ct 1), .int (ct 2)])) :: (rc, .inl (cI, 10, .inl ch)) :: (wR r1 d1 cI n F ++ wR r2 d2 cI n2 G)
abbrev wM (h r1 : Nat) (d1 : Nat → Nat) (r2 : Nat) (d2 : Nat → Nat) (cI : ClassId) (th : Int32) (n : Nat) (F : Nat → Nat → Int32) (ct : Nat → Int32) (n2 : Nat) (G : Nat → Nat → Int32) (c2 : Nat → Int32) : va_W := (h, .inr (3, [.int th, .ref r1, .ref r2])) :: (wS r1 d1 cI n F ct ++ wS r2 d2 cI n2 G c2)
/-- the exception by its place in the order of catching (1 the first one) -/
def exE (es : List String) (k : Nat) (E : String) : Prop := 0 < k ∧ es[k - 1]? = some E
theorem PRX.blind {dC : Nat → ClassId} {dI : Nat → Nat → Nat} {cI : ClassId} {ws : va_W} {H0 : Heap} {av : List Value} : FrameBlind (va_Pc av (fun U => U.heap = H0 ∧ PR dC dI cI ws U)) := fun a U g mk q => ⟨q.1, q.2.1, (PR.blind (av := av) a U g mk ⟨q.1, q.2.2⟩).2⟩
def cl (x : Int32) : Nat := x.toNatClampNeg
theorem cl_nI {k : Nat} (h : k < 2 ^ 31) : cl (nI k) = k := nI_clamp h
theorem s_has_nat {n : Nat} {x : Int32} (hn : n ≤ 12) (h : s_has n x = true) : ∃ w, w < n ∧ x = nI w := by
  unfold s_has at h
  by_cases h0 : x < 0
  · rw [if_pos h0] at h; cases h
  · rw [if_neg h0] at h
    by_cases h1 : nI n ≤ x
    · rw [if_pos h1] at h; cases h
    · obtain ⟨j, j1, rfl⟩ := nI_of h0
      exact ⟨j, Nat.lt_of_not_le (fun q => h1 ((nI_leI (by omega) j1).mpr q)), rfl⟩
theorem s_has_nI {n w : Nat} (hn : n ≤ 12) (h : w < n) : s_has n (nI w) = true := by
  unfold s_has
  rw [if_neg (nI_pos (by omega)), if_neg (fun q => absurd ((nI_leI (by omega) (by omega)).mp q) (by omega))]
def s_lg (x : Int32) : Bool := if x < 0 then false else if 3 ≤ x then false else true
def s_08 (x : Int32) : Bool := decide (0 ≤ x.toInt) && decide (x.toInt ≤ 8)
def x_cw (n : Nat) (a : Int32) : Nat := if s_has n a = true then 0 else 1
def x_cd (a b : Int32) : Nat := if a = b then 1 else 0
def x_cr (r : Int32) : Nat := if r < 0 then 1 else if r ≤ 2 then 0 else 1
def x_join (n : Nat) (g : Int32) : Nat := if s_lg g = true then (if n < 12 then 0 else 2) else 1
def x_rate (n : Nat) (a r : Int32) : Nat := if s_has n a = true then (if r < 100 then 2 else if r ≤ 3000 then 0 else 2) else 1
def x_bout (n : Nat) (a b r : Int32) : Nat := if s_has n a = true then (if s_has n b = true then (if a = b then 2 else if x_cr r = 0 then 0 else 2) else 1) else 1
def x_exp (n : Nat) (a b : Int32) : Nat := if s_has n a = true then (if s_has n b = true then 0 else 1) else 1
def x_told (n : Nat) (a k : Int32) : Nat := if s_has n a = true then (if s_08 k = true then 0 else 1) else 1
def x_at (n : Nat) (F : Nat → Nat → Int32) (g q : Int32) : Nat := if s_lg g = true then (if s_at n F g q = none then 1 else 0) else 1
def x_cnt (k : Int32) : Nat := if s_08 k = true then 0 else 1
def x_would (n : Nat) (a b r u : Int32) : Nat := if s_has n a = true then (if s_has n b = true then (if u = 0 ∨ u = 1 then (if a = b then 2 else if x_cr r = 0 then 0 else 2) else 1) else 1) else 1
def x_chance (n : Nat) (a b k : Int32) : Nat := if s_has n a = true then (if s_has n b = true then (if a = b then 2 else if k < 1 then 2 else if k ≤ 9 then 0 else 2) else 1) else 1
def x_for (k : Int32) : Nat := if k < 1 then 1 else if k ≤ 40 then 0 else 1
def s_told (n : Nat) (F : Nat → Nat → Int32) (w : Nat) (k : Int32) : Int32 := if k = 0 then F 1 w else if k = 1 then F 0 w else if k = 2 then F 2 w else if k = 3 then F 3 w else if k = 4 then F 4 w else if k = 5 then F 5 w else if k = 6 then F 6 w else if k = 7 then nI (s_place n F w) else s_wt F w
def s_cnt (n : Nat) (F : Nat → Nat → Int32) (ct : Nat → Int32) (k : Int32) : Int32 := if k = 0 then ct 0 else if k = 1 then nI n else if k = 2 then ct 1 else if k = 3 then ct 2 else if k = 7 then s_hi n F else if k = 8 then s_lo n F else nI (s_many n F (k - 4))
theorem exE_cw {n : Nat} {a : Int32} {E : String} (h : exE ["java/lang/IndexOutOfBoundsException"] (x_cw n a) E) : s_has n a = false ∧ E = "java/lang/IndexOutOfBoundsException" := by
  unfold exE x_cw at h
  by_cases c : s_has n a = true
  · rw [if_pos c] at h; exact absurd h.1 (by decide)
  · rw [if_neg c] at h
    refine ⟨?_, ?_⟩
    · cases hh : s_has n a with
      | false => rfl
      | true => exact absurd hh c
    · have := h.2; simp at this; exact this.symm
theorem ok_cw {n : Nat} {a : Int32} (h : x_cw n a = 0) : s_has n a = true := by
  unfold x_cw at h
  by_cases c : s_has n a = true
  · exact c
  · rw [if_neg c] at h; cases h
theorem exE_cd {a b : Int32} {E : String} (h : exE ["java/lang/IllegalArgumentException"] (x_cd a b) E) : a = b ∧ E = "java/lang/IllegalArgumentException" := by
  unfold exE x_cd at h
  by_cases c : a = b
  · rw [if_pos c] at h; have := h.2; simp at this; exact ⟨c, this.symm⟩
  · rw [if_neg c] at h; exact absurd h.1 (by decide)
theorem ok_cd {a b : Int32} (h : x_cd a b = 0) : ¬ a = b := by
  unfold x_cd at h
  intro c
  rw [if_pos c] at h; cases h
theorem exE_cr {r : Int32} {E : String} (h : exE ["java/lang/IllegalArgumentException"] (x_cr r) E) : ¬ x_cr r = 0 ∧ E = "java/lang/IllegalArgumentException" := by
  refine ⟨fun q => ?_, ?_⟩
  · rw [q] at h; exact absurd h.1 (by decide)
  · have h1 : x_cr r = 0 ∨ x_cr r = 1 := by unfold x_cr; split <;> first | exact Or.inr rfl | (split <;> first | exact Or.inl rfl | exact Or.inr rfl)
    rcases h1 with q | q
    · rw [q] at h; exact absurd h.1 (by decide)
    · rw [q] at h; have := h.2; simp at this; exact this.symm
theorem ok_cr {r : Int32} (h : x_cr r = 0) : ∃ q : Nat, q ≤ 2 ∧ r = nI q := by
  unfold x_cr at h
  by_cases c : r < 0
  · rw [if_pos c] at h; cases h
  · rw [if_neg c] at h
    by_cases c2 : r ≤ 2
    · exact nI_of2 (n := 2) (by decide) c c2
    · rw [if_neg c2] at h; cases h
theorem sw9 (x : Int32) : x = 0 ∨ x = 1 ∨ x = 2 ∨ x = 3 ∨ x = 4 ∨ x = 5 ∨ x = 6 ∨ x = 7 ∨ x = 8 ∨ (x.toInt < 0 ∨ 8 < x.toInt) := by
  by_cases h1 : x.toInt < 0
  · simp [h1]
  · by_cases h2 : 8 < x.toInt
    · simp [h2]
    · have h3 : x.toInt = 0 ∨ x.toInt = 1 ∨ x.toInt = 2 ∨ x.toInt = 3 ∨ x.toInt = 4 ∨ x.toInt = 5 ∨ x.toInt = 6 ∨ x.toInt = 7 ∨ x.toInt = 8 := by omega
      rcases h3 with h | h | h | h | h | h | h | h | h
      · exact Or.inl (Int32.toInt_inj.mp h)
      · exact Or.inr (Or.inl (Int32.toInt_inj.mp h))
      · exact Or.inr (Or.inr (Or.inl (Int32.toInt_inj.mp h)))
      · exact Or.inr (Or.inr (Or.inr (Or.inl (Int32.toInt_inj.mp h))))
      · exact Or.inr (Or.inr (Or.inr (Or.inr (Or.inl (Int32.toInt_inj.mp h)))))
      · exact Or.inr (Or.inr (Or.inr (Or.inr (Or.inr (Or.inl (Int32.toInt_inj.mp h))))))
      · exact Or.inr (Or.inr (Or.inr (Or.inr (Or.inr (Or.inr (Or.inl (Int32.toInt_inj.mp h)))))))
      · exact Or.inr (Or.inr (Or.inr (Or.inr (Or.inr (Or.inr (Or.inr (Or.inl (Int32.toInt_inj.mp h))))))))
      · exact Or.inr (Or.inr (Or.inr (Or.inr (Or.inr (Or.inr (Or.inr (Or.inr (Or.inl (Int32.toInt_inj.mp h)))))))))
theorem s_08_out {x : Int32} (h : x.toInt < 0 ∨ 8 < x.toInt) : s_08 x = false := by
  unfold s_08
  rcases h with h | h
  · rw [decide_eq_false (by omega)]; rfl
  · rw [show decide (x.toInt ≤ 8) = false from decide_eq_false (by omega), Bool.and_false]
theorem tgIAE : ∀ w ∈ Cond.classLink RX1 27 "java/lang/IllegalArgumentException" :: Cond.initialized "java/lang/IllegalArgumentException" :: vx_atS RX1 31 "java/lang/IllegalArgumentException" ["java/lang/RuntimeException", "java/lang/Exception"], vx_ot w = true := by decide +kernel
theorem tgISE : ∀ w ∈ Cond.classLink RX1 38 "java/lang/IllegalStateException" :: Cond.initialized "java/lang/IllegalStateException" :: vx_atS RX1 42 "java/lang/IllegalStateException" ["java/lang/RuntimeException", "java/lang/Exception"], vx_ot w = true := by decide +kernel
theorem tgIOB : ∀ w ∈ Cond.classLink RX1 121 "java/lang/IndexOutOfBoundsException" :: Cond.initialized "java/lang/IndexOutOfBoundsException" :: vx_atS RX1 125 "java/lang/IndexOutOfBoundsException" ["java/lang/RuntimeException", "java/lang/Exception"], vx_ot w = true := by decide +kernel
theorem tnIAE : ∀ w ∈ (vx_atS RX1 31 "java/lang/IllegalArgumentException" ["java/lang/RuntimeException", "java/lang/Exception"]).filter (fun w => !goodWord w), w ∈ [Cond.castable "java/lang/IllegalArgumentException" "java/lang/IllegalArgumentException", .declares (Bundle.initS "java/lang/RuntimeException"), .declares (Bundle.initS "java/lang/Exception"), .declares (Bundle.initS Bundle.tN)] := by decide +kernel
theorem tnISE : ∀ w ∈ (vx_atS RX1 42 "java/lang/IllegalStateException" ["java/lang/RuntimeException", "java/lang/Exception"]).filter (fun w => !goodWord w), w ∈ [Cond.castable "java/lang/IllegalStateException" "java/lang/IllegalStateException", .declares (Bundle.initS "java/lang/RuntimeException"), .declares (Bundle.initS "java/lang/Exception"), .declares (Bundle.initS Bundle.tN)] := by decide +kernel
theorem tnIOB : ∀ w ∈ (vx_atS RX1 125 "java/lang/IndexOutOfBoundsException" ["java/lang/RuntimeException", "java/lang/Exception"]).filter (fun w => !goodWord w), w ∈ [Cond.castable "java/lang/IndexOutOfBoundsException" "java/lang/IndexOutOfBoundsException", .declares (Bundle.initS "java/lang/RuntimeException"), .declares (Bundle.initS "java/lang/Exception"), .declares (Bundle.initS Bundle.tN)] := by decide +kernel
end
section
/-! Pure facts: ratings stay in range, the two forms of a bout, looking ahead, agreement of states. -/
theorem clampN (y : Int32) : ∃ r : Nat, 100 ≤ r ∧ r ≤ 3000 ∧ maxI 100 (minI 3000 y) = nI r := by
  unfold maxI minI
  by_cases h1 : y < 3000
  · rw [if_pos h1]
    by_cases h2 : (100 : Int32) < y
    · rw [if_pos h2]
      exact rngI (u := 100) (v := 3000) (Int32.not_lt.mpr (Int32.le_of_lt h2)) (Int32.le_of_lt h1) rfl rfl (by decide) (by decide)
    · rw [if_neg h2]
      exact ⟨100, by decide, by decide, rfl⟩
  · rw [if_neg h1, if_pos (by decide)]
    exact ⟨3000, by decide, by decide, rfl⟩
theorem thenN (F : Nat → Nat → Int32) (w o : Nat) (sc : Int32) : ∃ r : Nat, 100 ≤ r ∧ r ≤ 3000 ∧ s_then F w o sc = nI r := clampN _
theorem set_1 (F : Nat → Nat → Int32) (w : Nat) (x : Int32) (i : Nat) : s_set F w x 1 i = if i = w then x else F 1 i := by simp [s_set, pu_app]
theorem set_4 (F : Nat → Nat → Int32) (w : Nat) (x : Int32) (i : Nat) : s_set F w x 4 i = F 4 i := by simp [s_set, pu_app]
theorem note_1 (F : Nat → Nat → Int32) (w q i : Nat) : s_note F w q 1 i = F 1 i := by simp [s_note, pu_app]
theorem note_4 (F : Nat → Nat → Int32) (w q i : Nat) : s_note F w q 4 i = if i = w then F 4 w + 1 else F 4 i := by simp [s_note, pu_app]
theorem okR_set {n : Nat} {F : Nat → Nat → Int32} {w : Nat} {x : Int32} (h : okR n F) (hx : ∃ r : Nat, 100 ≤ r ∧ r ≤ 3000 ∧ x = nI r) : okR n (s_set F w x) := by
  intro i hi
  rw [set_1]
  by_cases e : i = w
  · rw [if_pos e]; exact hx
  · rw [if_neg e]; exact h i hi
theorem okR_note {n : Nat} {F : Nat → Nat → Int32} {w q : Nat} (h : okR n F) : okR n (s_note F w q) := by
  intro i hi
  rw [note_1]; exact h i hi
theorem set_note (X : Nat → Nat → Int32) (a b q : Nat) (t : Int32) : s_set (s_note X a q) b t = s_note (s_set X b t) a q := by
  funext j k
  by_cases e1 : j = 1
  · subst e1; simp [s_set, s_note, pu_app]
  by_cases e2 : j = 2
  · subst e2; simp [s_set, s_note, pu_app]
  by_cases e3 : j = 3
  · subst e3; simp [s_set, s_note, pu_app]
  by_cases e4 : j = 4
  · subst e4; simp [s_set, s_note, pu_app]
  by_cases e5 : j = 5
  · subst e5; simp [s_set, s_note, pu_app]
  by_cases e6 : j = 6
  · subst e6; simp [s_set, s_note, pu_app]
  · simp [s_set, s_note, pu_app, e1, e2, e3, e4, e5, e6]
theorem i32_asc (x y : Int32) : x + (y - x) = y := by rw [Int32.add_comm, Int32.sub_add_cancel]
theorem q500 (q : Nat) : nI q * 500 = nI (500 * q) := by rw [show (500 : Int32) = nI 500 from rfl, pk_mul, Nat.mul_comm]
theorem hold_mb (F : Nat → Nat → Int32) {a b : Nat} (q : Nat) (h : a ≠ b) : s_hold F a b q = s_mb F a b q := by
  have e1 : s_enter F a (s_gain F a b (nI q)) q = s_note (s_set F a (s_then F a b (nI (500 * q)))) a q := by
    unfold s_enter s_gain
    rw [i32_asc, q500]
  have e2 : (s_note (s_set F a (s_then F a b (nI (500 * q)))) a q) 1 b = F 1 b := by
    rw [note_1, set_1, if_neg (fun z => h z.symm)]
  unfold s_hold
  rw [e1]
  show s_note (s_set (s_note (s_set F a (s_then F a b (nI (500 * q)))) a q) b ((s_note (s_set F a (s_then F a b (nI (500 * q)))) a q) 1 b + s_gain F b a (nI (2 - q)))) b (2 - q) = _
  rw [e2]
  unfold s_gain
  rw [i32_asc, q500, set_note]
  rfl
theorem okR_mb {n : Nat} {F : Nat → Nat → Int32} {a b q : Nat} (h : okR n F) : okR n (s_mb F a b q) := okR_note (okR_note (okR_set (okR_set h (thenN _ _ _ _)) (thenN _ _ _ _)))
theorem okR_hold {n : Nat} {F : Nat → Nat → Int32} {a b q : Nat} (hab : a ≠ b) (h : okR n F) : okR n (s_hold F a b q) := by
  rw [hold_mb F q hab]; exact okR_mb h
theorem okR_har {n : Nat} {F : Nat → Nat → Int32} {a b : Nat} (hab : a ≠ b) (h : okR n F) : okR n (s_har F a b) := okR_hold hab h
/-- bouts of the season, at most k -/
def okK (n : Nat) (F : Nat → Nat → Int32) (k : Nat) : Prop := ∀ i, i < n → ∃ x : Nat, x ≤ k ∧ F 4 i = nI x
theorem okK.B {n : Nat} {F : Nat → Nat → Int32} {k : Nat} (h : okK n F k) (hk : k ≤ 100000) : okB n F := fun i hi => (h i hi).elim fun x q => ⟨x, by omega, q.2⟩
theorem okK.mono {n : Nat} {F : Nat → Nat → Int32} {k k' : Nat} (h : okK n F k) (hk : k ≤ k') : okK n F k' := fun i hi => (h i hi).elim fun x q => ⟨x, by omega, q.2⟩
theorem okK_note {n : Nat} {F : Nat → Nat → Int32} {w q k : Nat} (h : ∀ i, i < n → ∃ x : Nat, x ≤ k ∧ F 4 i = nI x ∧ (i = w → x + 1 ≤ k)) : okK n (s_note F w q) k := by
  intro i hi
  obtain ⟨x, h1, h2, h3⟩ := h i hi
  rw [note_4]
  by_cases e : i = w
  · rw [if_pos e, ← e, h2]
    exact ⟨x + 1, h3 e, nI_1 x⟩
  · rw [if_neg e]
    exact ⟨x, h1, h2⟩
theorem okK_mb {n : Nat} {F : Nat → Nat → Int32} {a b q k : Nat} (hab : a ≠ b) (h : okK n F k) : okK n (s_mb F a b q) (k + 1) := by
  unfold s_mb
  intro i hi
  obtain ⟨x, h1, h2⟩ := h i hi
  rw [note_4, note_4, note_4, set_4, set_4, set_4, set_4, set_4, set_4]
  by_cases e1 : i = b
  · subst e1
    rw [if_pos rfl, if_neg (fun z => hab z.symm), h2]
    exact ⟨x + 1, by omega, nI_1 x⟩
  · rw [if_neg e1]
    by_cases e2 : i = a
    · subst e2
      rw [if_pos rfl, h2]
      exact ⟨x + 1, by omega, nI_1 x⟩
    · rw [if_neg e2]
      exact ⟨x, by omega, h2⟩
theorem okK_har {n : Nat} {F : Nat → Nat → Int32} {a b k : Nat} (hab : a ≠ b) (h : okK n F k) : okK n (s_har F a b) (k + 1) := by
  unfold s_har; rw [hold_mb F _ hab]; exact okK_mb hab h
/-- what next answers -/
def pN (n : Nat) (x : Int32) : Prop := x = -1 ∨ ∃ a b : Nat, a < b ∧ b < n ∧ x = nI (12 * a + b)
theorem pN_pairI {n : Nat} {F : Nat → Nat → Int32} {a : Nat} {T : Int32 × Int32 × Int32} (hT : pN n T.1) : ∀ m, m ≤ n → pN n (s_pairI F a m T).1
  | 0, _ => hT
  | m + 1, h => by
    have ih := pN_pairI (F := F) (a := a) hT m (by omega)
    show pN n (if a < m then pairB F a m (s_pairI F a m T) else s_pairI F a m T).1
    by_cases c : a < m
    · rw [if_pos c]
      unfold pairB
      by_cases c1 : F 0 a = F 0 m
      · rw [if_pos c1]
        split
        · refine Or.inr ⟨a, m, c, by omega, ?_⟩
          show nI a * 12 + nI m = _
          rw [show (12 : Int32) = nI 12 from rfl, pk_mul, nI_add, Nat.mul_comm]
        · exact ih
      · rw [if_neg c1]; exact ih
    · rw [if_neg c]; exact ih
theorem pN_next {n : Nat} (F : Nat → Nat → Int32) : pN n (s_next n F) := by
  have h : ∀ m, pN n (s_pairU n F m).1 := by
    intro m
    induction m with
    | zero => exact Or.inl rfl
    | succ m ih => exact pN_pairI ih n (Nat.le_refl n)
  exact h n
theorem div12 {a b n : Nat} (hab : a < b) (hb : b < n) (hn : n ≤ 12) : nI (12 * a + b) / 12 = nI a := by
  rw [show (12 : Int32) = nI 12 from rfl, pk_div (by omega) (by decide) (by decide)]
  congr 1; omega
theorem rem12 {a b n : Nat} (hab : a < b) (hb : b < n) (hn : n ≤ 12) : nI (12 * a + b) - nI (12 * a + b) / 12 * 12 = nI b := by
  rw [show (12 : Int32) = nI 12 from rfl, pk_rem (by omega) (by decide) (by decide)]
  congr 1; omega
def nxA (x : Int32) : Nat := cl (x / 12)
def nxB (x : Int32) : Nat := cl (x - x / 12 * 12)
theorem nxA_e {a b n : Nat} (hab : a < b) (hb : b < n) (hn : n ≤ 12) : nxA (nI (12 * a + b)) = a := by unfold nxA; rw [div12 hab hb hn, cl_nI (by omega)]
theorem nxB_e {a b n : Nat} (hab : a < b) (hb : b < n) (hn : n ≤ 12) : nxB (nI (12 * a + b)) = b := by unfold nxB; rw [rem12 hab hb hn, cl_nI (by omega)]
/-- some bouts looked ahead -/
def s_forU (n : Nat) (F : Nat → Nat → Int32) (m : Nat) : Nat → Nat → Int32 := fo (fun _ X => if s_next n X = -1 then X else s_har X (nxA (s_next n X)) (nxB (s_next n X))) F m
theorem forU_go {n : Nat} {F X : Nat → Nat → Int32} {m a b : Nat} (hX : X = s_forU n F m) (hab : a < b) (hb : b < n) (hn : n ≤ 12) (e : s_next n X = nI (12 * a + b)) : s_har X a b = s_forU n F (m + 1) := by
  show _ = (if s_next n (s_forU n F m) = -1 then s_forU n F m else s_har (s_forU n F m) (nxA (s_next n (s_forU n F m))) (nxB (s_next n (s_forU n F m))))
  rw [← hX, e, if_neg (nI_m1 (by omega)), nxA_e hab hb hn, nxB_e hab hb hn]
theorem forU_stop {n : Nat} {F : Nat → Nat → Int32} {m : Nat} (h : s_next n (s_forU n F m) = -1) : ∀ d, s_forU n F (m + d) = s_forU n F m
  | 0 => rfl
  | d + 1 => by
    have ih := forU_stop h d
    show (if s_next n (s_forU n F (m + d)) = -1 then s_forU n F (m + d) else _) = _
    rw [ih, if_pos h]
/-- states that agree on the n wrestlers -/
def AG (n : Nat) (F F' : Nat → Nat → Int32) : Prop := ∀ j i, j < 7 → i < n → F j i = F' j i
theorem ag_pu {n : Nat} {F F' : Nat → Nat → Int32} (h : AG n F F') (k i : Nat) {x x' : Int32} (hx : x = x') : AG n (pu F k i x) (pu F' k i x') := by
  intro j u hj hu
  rw [pu_app, pu_app, hx, h j u hj hu]
theorem ag_exp {n : Nat} {F F' : Nat → Nat → Int32} (h : AG n F F') {a b : Nat} (ha : a < n) (hb : b < n) : s_exp F a b = s_exp F' a b := by
  unfold s_exp
  rw [h 1 a (by decide) ha, h 1 b (by decide) hb]
theorem ag_off {n : Nat} {F F' : Nat → Nat → Int32} (h : AG n F F') {a b : Nat} (ha : a < n) (hb : b < n) : s_off F a b = s_off F' a b := by
  unfold s_off; rw [ag_exp h ha hb]
theorem ag_gain {n : Nat} {F F' : Nat → Nat → Int32} (h : AG n F F') {a b : Nat} (ha : a < n) (hb : b < n) (r : Int32) : s_gain F a b r = s_gain F' a b r := by
  unfold s_gain s_then s_wt
  rw [ag_exp h ha hb, h 1 a (by decide) ha, h 3 a (by decide) ha]
theorem ag_set {n : Nat} {F F' : Nat → Nat → Int32} (h : AG n F F') {w : Nat} (hw : w < n) {x x' : Int32} (hx : x = x') : AG n (s_set F w x) (s_set F' w x') :=
  ag_pu (ag_pu h 1 w hx) 6 w (by rw [h 6 w (by decide) hw, hx])
theorem ag_note {n : Nat} {F F' : Nat → Nat → Int32} (h : AG n F F') {w : Nat} (hw : w < n) (q : Nat) : AG n (s_note F w q) (s_note F' w q) :=
  ag_pu (ag_pu (ag_pu (ag_pu h 2 w (by rw [h 2 w (by decide) hw])) 3 w (by rw [h 3 w (by decide) hw])) 4 w (by rw [h 4 w (by decide) hw])) 5 w (by rw [h 5 w (by decide) hw])
theorem ag_enter {n : Nat} {F F' : Nat → Nat → Int32} (h : AG n F F') {w : Nat} (hw : w < n) {g g' : Int32} (hg : g = g') (q : Nat) : AG n (s_enter F w g q) (s_enter F' w g' q) :=
  ag_note (ag_set h hw (by rw [h 1 w (by decide) hw, hg])) hw q
theorem ag_har {n : Nat} {F F' : Nat → Nat → Int32} (h : AG n F F') {a b : Nat} (ha : a < n) (hb : b < n) : AG n (s_har F a b) (s_har F' a b) := by
  unfold s_har s_hold
  rw [h 1 a (by decide) ha, h 1 b (by decide) hb]
  exact ag_enter (ag_enter h ha (ag_gain h ha hb _) _) hb (ag_gain h hb ha _) _
theorem ag_pairI {n : Nat} {F F' : Nat → Nat → Int32} (h : AG n F F') {a : Nat} (ha : a < n) (T : Int32 × Int32 × Int32) (m : Nat) : m ≤ n → s_pairI F a m T = s_pairI F' a m T := by
  induction m with
  | zero =>
    intro _
    show fo _ T 0 = fo _ T 0
    rw [fo_0, fo_0]
  | succ m ih =>
    intro hm
    show (if a < m then pairB F a m (s_pairI F a m T) else s_pairI F a m T) = (if a < m then pairB F' a m (s_pairI F' a m T) else s_pairI F' a m T)
    rw [ih (by omega)]
    unfold pairB
    rw [h 0 a (by decide) ha, h 0 m (by decide) (by omega), h 4 a (by decide) ha, h 4 m (by decide) (by omega), ag_off h ha (show m < n by omega)]
theorem ag_next {n : Nat} {F F' : Nat → Nat → Int32} (h : AG n F F') : s_next n F = s_next n F' := by
  have k : ∀ m, m ≤ n → s_pairU n F m = s_pairU n F' m := by
    intro m
    induction m with
    | zero =>
      intro _
      show fo _ _ 0 = fo _ _ 0
      rw [fo_0, fo_0]
    | succ m ih =>
      intro hm
      show s_pairI F m n (s_pairU n F m) = s_pairI F' m n (s_pairU n F' m)
      rw [ih (by omega), ag_pairI h (by omega) _ n (Nat.le_refl n)]
  unfold s_next
  rw [k n (Nat.le_refl n)]
theorem ag_hi {n : Nat} {F F' : Nat → Nat → Int32} (h : AG n F F') : s_hi n F = s_hi n F' := by
  have k : ∀ m, m ≤ n → s_hiU F m = s_hiU F' m := by
    intro m
    induction m with
    | zero =>
      intro _
      show fo _ _ 0 = fo _ _ 0
      rw [fo_0, fo_0]
    | succ m ih =>
      intro hm
      show (if s_hiU F m < F 1 m then F 1 m else s_hiU F m) = (if s_hiU F' m < F' 1 m then F' 1 m else s_hiU F' m)
      rw [ih (by omega), h 1 m (by decide) (by omega)]
  exact k n (Nat.le_refl n)
theorem ag_forU {n : Nat} (hn : n ≤ 12) {F F' : Nat → Nat → Int32} (h : AG n F F') : ∀ m, AG n (s_forU n F m) (s_forU n F' m)
  | 0 => h
  | m + 1 => by
    have ih := ag_forU hn h m
    have e := ag_next ih
    rcases pN_next (n := n) (s_forU n F m) with e1 | ⟨a, b, hab, hb, e1⟩
    · show AG n (if s_next n (s_forU n F m) = -1 then s_forU n F m else _) (if s_next n (s_forU n F' m) = -1 then s_forU n F' m else _)
      rw [← e, if_pos e1, if_pos e1]
      exact ih
    · rw [← forU_go (X := s_forU n F m) rfl hab hb hn e1, ← forU_go (X := s_forU n F' m) rfl hab hb hn (e ▸ e1)]
      exact ag_har ih (by omega) hb
theorem copyU_app (G F : Nat → Nat → Int32) : ∀ m j i, s_copyU G F m j i = if j < 7 ∧ i < m then G j i else F j i
  | 0, j, i => by rw [if_neg (by omega)]; rfl
  | m + 1, j, i => by
    show (pu (pu (pu (pu (pu (pu (pu (s_copyU G F m) 0 m (G 0 m)) 1 m (G 1 m)) 2 m (G 2 m)) 3 m (G 3 m)) 4 m (G 4 m)) 5 m (G 5 m)) 6 m (G 6 m)) j i = _
    simp only [pu_app]
    rw [copyU_app G F m j i]
    by_cases hi : i = m
    · subst hi
      by_cases hj : j < 7
      · rw [if_pos (show j < 7 ∧ i < i + 1 by omega)]
        rcases (show j = 0 ∨ j = 1 ∨ j = 2 ∨ j = 3 ∨ j = 4 ∨ j = 5 ∨ j = 6 by omega) with rfl | rfl | rfl | rfl | rfl | rfl | rfl <;> simp
      · rw [if_neg (by omega), if_neg (by omega), if_neg (by omega), if_neg (by omega), if_neg (by omega), if_neg (by omega), if_neg (by omega), if_neg (by omega), if_neg (by omega)]
    · rw [if_neg (by omega), if_neg (by omega), if_neg (by omega), if_neg (by omega), if_neg (by omega), if_neg (by omega), if_neg (by omega)]
      by_cases hj : j < 7 ∧ i < m
      · rw [if_pos hj, if_pos (by omega)]
      · rw [if_neg hj, if_neg (by omega)]
theorem ag_copy (n : Nat) (G F : Nat → Nat → Int32) : AG n (s_copyU G F n) G := fun j i hj hi => by rw [copyU_app, if_pos ⟨hj, hi⟩]
theorem okR_ag {n : Nat} {F F' : Nat → Nat → Int32} (h : AG n F F') (k : okR n F') : okR n F := fun i hi => by rw [h 1 i (by decide) hi]; exact k i hi
theorem okK_ag {n : Nat} {F F' : Nat → Nat → Int32} {b : Nat} (h : AG n F F') (k : okK n F' b) : okK n F b := fun i hi => by rw [h 4 i (by decide) hi]; exact k i hi
theorem ag_become {n : Nat} (hn : n ≤ 12) (G F : Nat → Nat → Int32) : AG n (s_become G F) G := by
  intro j i hj hi
  have k : ∀ f g : Nat → Int32, cpy12 f g i = f i := by
    intro f g
    unfold cpy12
    rw [pk_cpy_in (by omega) (by omega)]
    congr 1; omega
  rcases (show j = 0 ∨ j = 1 ∨ j = 2 ∨ j = 3 ∨ j = 4 ∨ j = 5 ∨ j = 6 by omega) with rfl | rfl | rfl | rfl | rfl | rfl | rfl
  · exact k (G 0) (F 0)
  · exact k (G 1) (F 1)
  · exact k (G 2) (F 2)
  · exact k (G 3) (F 3)
  · exact k (G 4) (F 4)
  · exact k (G 5) (F 5)
  · exact k (G 6) (F 6)
/-- the reference's counts beside it -/
def s_forM (n : Nat) (F : Nat → Nat → Int32) (c : Nat → Int32) (m : Nat) : Nat → Int32 := fo (fun u X => if s_next n (s_forU n F u) = -1 then X else s_ct X (s_forU n F u) (nxA (s_next n (s_forU n F u))) (nxB (s_next n (s_forU n F u))) (if (s_forU n F u) 1 (nxA (s_next n (s_forU n F u))) < (s_forU n F u) 1 (nxB (s_next n (s_forU n F u))) then 0 else 2)) c m
theorem forM_s (n : Nat) (F : Nat → Nat → Int32) (c : Nat → Int32) (u : Nat) : s_forM n F c (u + 1) = if s_next n (s_forU n F u) = -1 then s_forM n F c u else s_ct (s_forM n F c u) (s_forU n F u) (nxA (s_next n (s_forU n F u))) (nxB (s_next n (s_forU n F u))) (if (s_forU n F u) 1 (nxA (s_next n (s_forU n F u))) < (s_forU n F u) 1 (nxB (s_next n (s_forU n F u))) then 0 else 2) := rfl
theorem forM_go {n : Nat} {F X : Nat → Nat → Int32} {c C : Nat → Int32} {m a b : Nat} (hX : X = s_forU n F m) (hC : C = s_forM n F c m) (hab : a < b) (hb : b < n) (hn : n ≤ 12) (e : s_next n X = nI (12 * a + b)) : s_ct C X a b (if X 1 a < X 1 b then 0 else 2) = s_forM n F c (m + 1) := by
  rw [forM_s, ← hX, e, if_neg (nI_m1 (by omega)), nxA_e hab hb hn, nxB_e hab hb hn, ← hC]
theorem forM_stop {n : Nat} {F : Nat → Nat → Int32} {c : Nat → Int32} {m : Nat} (h : s_next n (s_forU n F m) = -1) : ∀ d, s_forM n F c (m + d) = s_forM n F c m
  | 0 => rfl
  | d + 1 => by
    show (if s_next n (s_forU n F (m + d)) = -1 then s_forM n F c (m + d) else _) = _
    rw [forU_stop h d, if_pos h, forM_stop h d]
end
