/-! Constructors; rows of ours for arrays of rows -/
def Z0 : Nat → Nat → Int32 := fun _ _ => 0
def z0 : Nat → Int32 := fun _ => 0
def ad7 (a0 a1 a2 a3 a4 a5 a6 : Nat) : Nat → Nat := fun k => match k with | 0 => a0 | 1 => a1 | 2 => a2 | 3 => a3 | 4 => a4 | 5 => a5 | _ => a6
section ROWA
variable {p : Program} {l : Launch} {e : Env} {R : Room} {s : State} {m : MethodId} {args : Array Value} {below : List Frame} {meth : Method} {c : Code} {H : Heap} {locs : List Loc} {cells slots : Nat} {Q : State → Prop}
variable {cc : ByteArray} {pc : Nat} {ls : Array Slot} {rest : List Value} {A : Nat → Prop} {H0 : Heap} {D : va_G} {cl : List vw_C} {ws : va_W} {a : Nat} {cI cA : ClassId}
theorem rv_newqA (hexec : p.tables.exec = Jvm.exec) (hb : c.code = cc) {own : String} {index : Nat} (hown : s.vm.findClass own = some m.cls) (hclink : (Cond.classLink own index "[I").before args s = true) (hover : (Cond.arrayOver (.array .int)).before #[] s = true) (hK : va_K D cl [(cI, .int), (cA, .array .int)] s) (hP : va_P D cl ws H) (hD : va_D A ws) (hS : va_S A H0 H locs) (hA : ∀ q, H0.size ≤ q → A q)
    {n : Int32} {N' : Nat} (hn : ¬ n < 0) (hN : n.toNatClampNeg = N') (hbytes : N' * 4 ≤ 536870912) (hcells : cells + 1 ≤ R.cells) (hslots : slots + N' ≤ R.slots) (hdg : decode cc pc = .ok (.anewarray index, 3))
    (kk : ∀ (q : Nat) (H1 : Heap), va_P D cl (ws ++ [(q, .inl (cA, N', .inr (.inr (.inr (.inr (fun _ => none))))))]) H1 → va_D A (ws ++ [(q, .inl (cA, N', .inr (.inr (.inr (.inr (fun _ => none))))))]) → va_S A H0 H1 locs →
      W p l e R s m args below meth c H1 locs (cells + 1) (slots + N') Q (F0 m (pc + 3) ls (.ref q :: rest))) : W p l e R s m args below meth c H locs cells slots Q (F0 m pc ls (.int n :: rest)) := by
  subst hN
  refine W.anewA (t := .int) hexec hb hown hclink (over_moved (Vm.Alike.refl _) hover) rfl hdg rfl hn hbytes hcells hslots fun cA' kA comp f1 f2 f3 f4 => ?_
  have e0 : s.vm.findClass ("[" ++ (FieldType.array .int).toString) = some cA := (hK.2 1 (cA, .array .int) rfl).2
  have e3 : cA' = cA := Option.some.inj (f1.symm.trans e0)
  subst e3
  generalize hH1 : H.push ({ cls := cA', slots := Array.replicate n.toNatClampNeg .null, vm := .none } : Cell) = H1
  have z1 : H1.size = H.size + 1 := by rw [← hH1, Array.size_push]
  have e1 : H1[H.size]? = some (arrV cA' n.toNatClampNeg (fun _ => .null)) := by rw [← hH1, Array.getElem?_push_size, ← arrV_new]
  have o1 : ∀ q : Nat, q < H.size → H1[q]? = H[q]? := fun q hq => by rw [← hH1, Array.getElem?_push, if_neg (Nat.ne_of_lt hq)]
  have hk : ∀ (k : Nat) (x : Nat × va_E), ws[k]? = some x → H1[x.1]? = H[x.1]? := fun k x hx => o1 x.1 ((hP k x hx).lt)
  refine kk H.size H1 ((hP.kept hk).app (fun k x hx => ?_)) (hD.push hP rfl (hA _ hS.1)) ⟨Nat.le_trans hS.1 (by omega), fun x h1 h2 => (o1 x (Nat.lt_of_lt_of_le h1 hS.1)).trans (hS.2.1 x h1 h2), hS.2.2⟩
  have hz : k < 1 := (List.getElem?_eq_some_iff.mp hx).1
  rw [show k = 0 by omega] at hx
  cases hx
  exact e1
theorem asg_self (vm : Vm) (c : ClassId) : vm.assignable c c = true := by
  unfold Vm.assignable
  rw [Vm.assignableAux]
  rw [show (c == c) = true from beq_self_eq_true c, Bool.true_or]
/-- a row put into an array of rows -/
theorem rv_aast (hexec : p.tables.exec = Jvm.exec) (hb : c.code = cc) (hover : (Cond.arrayOver (.array .int)).before #[] s = true) (hK : va_K D cl [(cI, .int), (cA, .array .int)] s) (hP : va_P D cl ws H) (hD : va_D A ws) (hS : va_S A H0 H locs) (q0 qk : Nat) {n v k : Nat} {f : Nat → Option Nat} {N : Nat} {g : Nat → Int32} (ha : ws[q0]? = some (a, .inl (cA, n, .inr (.inr (.inr (.inr f)))))) (hv : ws[qk]? = some (v, .inl (cI, N, .inl g))) (hk : k < n) (hn : n < 2 ^ 31) (hdg : decode cc pc = .ok (.aastore, 1))
    (kk : ∀ (H1 : Heap) (locs1 : List Loc), va_P D cl (ws.set q0 (a, .inl (cA, n, .inr (.inr (.inr (.inr (va_up f k (some v)))))))) H1 → va_D A (ws.set q0 (a, .inl (cA, n, .inr (.inr (.inr (.inr (va_up f k (some v)))))))) → va_S A H0 H1 locs1 → W p l e R s m args below meth c H1 locs1 cells slots Q (F0 m (pc + 1) ls rest)) : W p l e R s m args below meth c H locs cells slots Q (F0 m pc ls (.ref v :: .int (nI k) :: .ref a :: rest)) := by
  have hc : (nI k).toNatClampNeg = k := nI_clamp (Nat.lt_trans hk hn)
  have hin : vp_in (nI k) n := vp_in_nI hk hn
  have hlt : (nI k).toNatClampNeg < n := by rw [hc]; exact hk
  have h0 : ¬ nI k < 0 := fun q => hin (Or.inl q)
  have e0 : s.vm.findClass ("[" ++ (FieldType.array .int).toString) = some cA := (hK.2 1 (cA, .array .int) rfl).2
  have e1 : s.vm.findClass "[I" = some cI := (hK.2 0 (cI, .int) rfl).2
  obtain ⟨comp, cA', kA, g1, g2, g3, g4, g5⟩ := arrayOverA_spec hover
  have e2 : cA' = cA := Option.some.inj (g5.symm.trans e0)
  have e3 : comp = cI := Option.some.inj (g1.symm.trans e1)
  subst e2; subst e3
  obtain ⟨kI, hkI, -⟩ := Vm.findClass_spec e1
  refine W.aast hexec hb (hP q0 _ ha) (fun q h => by cases h) (fun h => by cases h) g3 g4 rfl hkI ⟨h0, by show _ < (arrV _ _ _).slots.size; rw [arrV_size]; exact hlt⟩ (hP qk _ hv) (fun q h => by cases h) hkI (asg_self s.vm comp) rfl rfl hdg fun H1 e z oq => ?_
  refine kk H1 _ (hP.set hD ha ?_ oq) (hD.set ha) (hS.put z oq (hD.2 q0 _ ha))
  show H1[a]? = some (vp_cell _ _)
  rw [e]
  rw [vp_cell_q, vp_cell_q, arrV_store]
  congr 2
  funext q
  rw [hc]
  by_cases hq : q = k
  · subst hq
    simp [updV, va_up, va_rf]
  · simp [updV, va_up, hq]
end ROWA
set_option maxHeartbeats 4000000 in
set_option maxRecDepth 100000 in
theorem c_X0_init (l : Launch) (dC : Nat → ClassId) (dI : Nat → Nat → Nat) (cI : ClassId) (h : Nat) (sz : Nat) : Met l yX0_init wsX0_init ({ frames := 1, cells := 7, slots := 84, locals := 12 } : Room) (va_Pc [.ref h] (fun U => PW dC dI cI ([(h, .inr (0, [.null, .null, .null, .null, .null, .null, .null, .int 0]))]) sz U)) (va_Qv (fun (_ : Nat → Nat) => True) (fun u t => va_P (dC, dI) vwCl (wR h u cI 0 Z0) t.heap ∧ va_D (va_A ([(h, .inr (0, [.null, .null, .null, .null, .null, .null, .null, .int 0]))]) sz) (wR h u cI 0 Z0)) (va_A ([(h, .inr (0, [.null, .null, .null, .null, .null, .null, .null, .int 0]))]) sz)) 7 84 (va_A ([(h, .inr (0, [.null, .null, .null, .null, .null, .null, .null, .int 0]))]) sz) := by
  refine Met.ofW (cc := cX0_init) (maxL := 1) (ret := none) (by decide) rfl ?_
  intro p e s m args below meth c s₁ B hml hv
  obtain ⟨rfl, hsz, hP, hK, hD0, hE⟩ := hv
  have hx := B.exec
  have hb := B.bytes
  have hr := B.returns
  have hts := atoms_spec (ws := wsX0_init) B.pre
  have hown : s.vm.findClass RX0 = some m.cls := findClass_of_methodNamed B.named
  have hlocks := B.notSynchronized
  subst hsz
  have hD := hD0.self (sz := s.heap.size)
  generalize hAe : va_A ([(h, .inr (0, [.null, .null, .null, .null, .null, .null, .null, .int 0]))]) s.heap.size = A at hD hE ⊢
  have hA : ∀ q : Nat, s.heap.size ≤ q → A q := fun q h9 => by rw [← hAe]; exact Or.inr h9
  have hS : va_S A s.heap s.heap [] := va_S.rf
  have hinX0 : ∀ w ∈ wsX00, w ∈ wsX0_init := by decide +kernel
  have hl := lv_entry ([.ref h]) (n := 1) (Nat.le_of_ble_eq_true rfl)
  rw [lg_entry_eq]
  generalize (lg_sl ([.ref h]) ++ List.replicate (1 - (lg_sl ([.ref h])).length) Slot.unset).toArray = ls at hl ⊢
  have hl : lv_has ls 1 [(0, .ref h)] := hl
  have hin : meth.name = "<init>" := (name_of_methodNamed B.named B.method).1
  refine lv_aload_n hx hb dX0_init_0 rfl (lv_at hl 0 rfl) ?_
  refine W.objInit hx hb hown (hts (.methodLink RX0 3 objectInit) (by decide +kernel)) (hts (.instanceMethod objectInit) (by decide +kernel)) (hts (.code objectInit ⟨#[0xb1]⟩ 1 none) (by decide +kernel)) rfl (by rw [hml]; exact hl.1) rfl dX0_init_1 (Nat.le_of_ble_eq_true rfl) (Nat.le_of_ble_eq_true rfl) ?_
  refine W.eq (g2 := F0 m 4 ls []) rfl ?_
  refine lv_aload_n hx hb dX0_init_4 rfl (lv_at hl 0 rfl) ?_
  refine lv_bipush (v := 12) hx hb dX0_init_5 (by decide) ?_
  refine rv_newa (N' := 12) hx hb (hts (.arrayClass .int) (by decide +kernel)) hK hP hD hS hA (by decide) (rfl) (Nat.le_of_ble_eq_true rfl) (Nat.le_of_ble_eq_true rfl) (Nat.le_of_ble_eq_true rfl) dX0_init_7 (fun q7 H hP hD hS => ?_)
  have hP : va_P (dC, dI) vwCl ([(h, .inr (0, [.null, .null, .null, .null, .null, .null, .null, .int 0])), (q7, .inl (cI, 12, .inl (fun _ => 0)))]) H := hP
  have hD : va_D A ([(h, .inr (0, [.null, .null, .null, .null, .null, .null, .null, .int 0])), (q7, .inl (cI, 12, .inl (fun _ => 0)))]) := hD
  refine va_putF (D := (dC, dI)) (ci := 0) (v := .ref q7) (ty := .array .int) (C := RX0) (T := TX0) (N := 8) hx hb hts hinX0 tyX0 tyX0_ok nmX0 hown hK hP hD hS 0 rfl rfl 0 (by decide) (hts (.fieldLink RX0 9 "WrestleBook$Roster" "leagues" "[I") (by decide +kernel)) (fun _ h9 => h9) rfl hin rfl (by decide +kernel) rfl rfl (Nat.le_of_ble_eq_true rfl) dX0_init_9 (fun H locs hP hD hS => ?_)
  have hP : va_P (dC, dI) vwCl ([(h, .inr (0, [.ref q7, .null, .null, .null, .null, .null, .null, .int 0])), (q7, .inl (cI, 12, .inl (fun _ => 0)))]) H := hP
  have hD : va_D A ([(h, .inr (0, [.ref q7, .null, .null, .null, .null, .null, .null, .int 0])), (q7, .inl (cI, 12, .inl (fun _ => 0)))]) := hD
  refine lv_aload_n hx hb dX0_init_12 rfl (lv_at hl 0 rfl) ?_
  refine lv_bipush (v := 12) hx hb dX0_init_13 (by decide) ?_
  refine rv_newa (N' := 12) hx hb (hts (.arrayClass .int) (by decide +kernel)) hK hP hD hS hA (by decide) (rfl) (Nat.le_of_ble_eq_true rfl) (Nat.le_of_ble_eq_true rfl) (Nat.le_of_ble_eq_true rfl) dX0_init_15 (fun q15 H hP hD hS => ?_)
  have hP : va_P (dC, dI) vwCl ([(h, .inr (0, [.ref q7, .null, .null, .null, .null, .null, .null, .int 0])), (q7, .inl (cI, 12, .inl (fun _ => 0))), (q15, .inl (cI, 12, .inl (fun _ => 0)))]) H := hP
  have hD : va_D A ([(h, .inr (0, [.ref q7, .null, .null, .null, .null, .null, .null, .int 0])), (q7, .inl (cI, 12, .inl (fun _ => 0))), (q15, .inl (cI, 12, .inl (fun _ => 0)))]) := hD
  refine va_putF (D := (dC, dI)) (ci := 0) (v := .ref q15) (ty := .array .int) (C := RX0) (T := TX0) (N := 8) hx hb hts hinX0 tyX0 tyX0_ok nmX0 hown hK hP hD hS 0 rfl rfl 1 (by decide) (hts (.fieldLink RX0 15 "WrestleBook$Roster" "ratings" "[I") (by decide +kernel)) (fun _ h9 => h9) rfl hin rfl (by decide +kernel) rfl rfl (Nat.le_of_ble_eq_true rfl) dX0_init_17 (fun H locs hP hD hS => ?_)
  have hP : va_P (dC, dI) vwCl ([(h, .inr (0, [.ref q7, .ref q15, .null, .null, .null, .null, .null, .int 0])), (q7, .inl (cI, 12, .inl (fun _ => 0))), (q15, .inl (cI, 12, .inl (fun _ => 0)))]) H := hP
  have hD : va_D A ([(h, .inr (0, [.ref q7, .ref q15, .null, .null, .null, .null, .null, .int 0])), (q7, .inl (cI, 12, .inl (fun _ => 0))), (q15, .inl (cI, 12, .inl (fun _ => 0)))]) := hD
  refine lv_aload_n hx hb dX0_init_20 rfl (lv_at hl 0 rfl) ?_
  refine lv_bipush (v := 12) hx hb dX0_init_21 (by decide) ?_
  refine rv_newa (N' := 12) hx hb (hts (.arrayClass .int) (by decide +kernel)) hK hP hD hS hA (by decide) (rfl) (Nat.le_of_ble_eq_true rfl) (Nat.le_of_ble_eq_true rfl) (Nat.le_of_ble_eq_true rfl) dX0_init_23 (fun q23 H hP hD hS => ?_)
  have hP : va_P (dC, dI) vwCl ([(h, .inr (0, [.ref q7, .ref q15, .null, .null, .null, .null, .null, .int 0])), (q7, .inl (cI, 12, .inl (fun _ => 0))), (q15, .inl (cI, 12, .inl (fun _ => 0))), (q23, .inl (cI, 12, .inl (fun _ => 0)))]) H := hP
  have hD : va_D A ([(h, .inr (0, [.ref q7, .ref q15, .null, .null, .null, .null, .null, .int 0])), (q7, .inl (cI, 12, .inl (fun _ => 0))), (q15, .inl (cI, 12, .inl (fun _ => 0))), (q23, .inl (cI, 12, .inl (fun _ => 0)))]) := hD
  refine va_putF (D := (dC, dI)) (ci := 0) (v := .ref q23) (ty := .array .int) (C := RX0) (T := TX0) (N := 8) hx hb hts hinX0 tyX0 tyX0_ok nmX0 hown hK hP hD hS 0 rfl rfl 2 (by decide) (hts (.fieldLink RX0 18 "WrestleBook$Roster" "points" "[I") (by decide +kernel)) (fun _ h9 => h9) rfl hin rfl (by decide +kernel) rfl rfl (Nat.le_of_ble_eq_true rfl) dX0_init_25 (fun H locs hP hD hS => ?_)
  have hP : va_P (dC, dI) vwCl ([(h, .inr (0, [.ref q7, .ref q15, .ref q23, .null, .null, .null, .null, .int 0])), (q7, .inl (cI, 12, .inl (fun _ => 0))), (q15, .inl (cI, 12, .inl (fun _ => 0))), (q23, .inl (cI, 12, .inl (fun _ => 0)))]) H := hP
  have hD : va_D A ([(h, .inr (0, [.ref q7, .ref q15, .ref q23, .null, .null, .null, .null, .int 0])), (q7, .inl (cI, 12, .inl (fun _ => 0))), (q15, .inl (cI, 12, .inl (fun _ => 0))), (q23, .inl (cI, 12, .inl (fun _ => 0)))]) := hD
  refine lv_aload_n hx hb dX0_init_28 rfl (lv_at hl 0 rfl) ?_
  refine lv_bipush (v := 12) hx hb dX0_init_29 (by decide) ?_
  refine rv_newa (N' := 12) hx hb (hts (.arrayClass .int) (by decide +kernel)) hK hP hD hS hA (by decide) (rfl) (Nat.le_of_ble_eq_true rfl) (Nat.le_of_ble_eq_true rfl) (Nat.le_of_ble_eq_true rfl) dX0_init_31 (fun q31 H hP hD hS => ?_)
  have hP : va_P (dC, dI) vwCl ([(h, .inr (0, [.ref q7, .ref q15, .ref q23, .null, .null, .null, .null, .int 0])), (q7, .inl (cI, 12, .inl (fun _ => 0))), (q15, .inl (cI, 12, .inl (fun _ => 0))), (q23, .inl (cI, 12, .inl (fun _ => 0))), (q31, .inl (cI, 12, .inl (fun _ => 0)))]) H := hP
  have hD : va_D A ([(h, .inr (0, [.ref q7, .ref q15, .ref q23, .null, .null, .null, .null, .int 0])), (q7, .inl (cI, 12, .inl (fun _ => 0))), (q15, .inl (cI, 12, .inl (fun _ => 0))), (q23, .inl (cI, 12, .inl (fun _ => 0))), (q31, .inl (cI, 12, .inl (fun _ => 0)))]) := hD
  refine va_putF (D := (dC, dI)) (ci := 0) (v := .ref q31) (ty := .array .int) (C := RX0) (T := TX0) (N := 8) hx hb hts hinX0 tyX0 tyX0_ok nmX0 hown hK hP hD hS 0 rfl rfl 3 (by decide) (hts (.fieldLink RX0 21 "WrestleBook$Roster" "bouts" "[I") (by decide +kernel)) (fun _ h9 => h9) rfl hin rfl (by decide +kernel) rfl rfl (Nat.le_of_ble_eq_true rfl) dX0_init_33 (fun H locs hP hD hS => ?_)
  have hP : va_P (dC, dI) vwCl ([(h, .inr (0, [.ref q7, .ref q15, .ref q23, .ref q31, .null, .null, .null, .int 0])), (q7, .inl (cI, 12, .inl (fun _ => 0))), (q15, .inl (cI, 12, .inl (fun _ => 0))), (q23, .inl (cI, 12, .inl (fun _ => 0))), (q31, .inl (cI, 12, .inl (fun _ => 0)))]) H := hP
  have hD : va_D A ([(h, .inr (0, [.ref q7, .ref q15, .ref q23, .ref q31, .null, .null, .null, .int 0])), (q7, .inl (cI, 12, .inl (fun _ => 0))), (q15, .inl (cI, 12, .inl (fun _ => 0))), (q23, .inl (cI, 12, .inl (fun _ => 0))), (q31, .inl (cI, 12, .inl (fun _ => 0)))]) := hD
  refine lv_aload_n hx hb dX0_init_36 rfl (lv_at hl 0 rfl) ?_
  refine lv_bipush (v := 12) hx hb dX0_init_37 (by decide) ?_
  refine rv_newa (N' := 12) hx hb (hts (.arrayClass .int) (by decide +kernel)) hK hP hD hS hA (by decide) (rfl) (Nat.le_of_ble_eq_true rfl) (Nat.le_of_ble_eq_true rfl) (Nat.le_of_ble_eq_true rfl) dX0_init_39 (fun q39 H hP hD hS => ?_)
  have hP : va_P (dC, dI) vwCl ([(h, .inr (0, [.ref q7, .ref q15, .ref q23, .ref q31, .null, .null, .null, .int 0])), (q7, .inl (cI, 12, .inl (fun _ => 0))), (q15, .inl (cI, 12, .inl (fun _ => 0))), (q23, .inl (cI, 12, .inl (fun _ => 0))), (q31, .inl (cI, 12, .inl (fun _ => 0))), (q39, .inl (cI, 12, .inl (fun _ => 0)))]) H := hP
  have hD : va_D A ([(h, .inr (0, [.ref q7, .ref q15, .ref q23, .ref q31, .null, .null, .null, .int 0])), (q7, .inl (cI, 12, .inl (fun _ => 0))), (q15, .inl (cI, 12, .inl (fun _ => 0))), (q23, .inl (cI, 12, .inl (fun _ => 0))), (q31, .inl (cI, 12, .inl (fun _ => 0))), (q39, .inl (cI, 12, .inl (fun _ => 0)))]) := hD
  refine va_putF (D := (dC, dI)) (ci := 0) (v := .ref q39) (ty := .array .int) (C := RX0) (T := TX0) (N := 8) hx hb hts hinX0 tyX0 tyX0_ok nmX0 hown hK hP hD hS 0 rfl rfl 4 (by decide) (hts (.fieldLink RX0 24 "WrestleBook$Roster" "seasonBouts" "[I") (by decide +kernel)) (fun _ h9 => h9) rfl hin rfl (by decide +kernel) rfl rfl (Nat.le_of_ble_eq_true rfl) dX0_init_41 (fun H locs hP hD hS => ?_)
  have hP : va_P (dC, dI) vwCl ([(h, .inr (0, [.ref q7, .ref q15, .ref q23, .ref q31, .ref q39, .null, .null, .int 0])), (q7, .inl (cI, 12, .inl (fun _ => 0))), (q15, .inl (cI, 12, .inl (fun _ => 0))), (q23, .inl (cI, 12, .inl (fun _ => 0))), (q31, .inl (cI, 12, .inl (fun _ => 0))), (q39, .inl (cI, 12, .inl (fun _ => 0)))]) H := hP
  have hD : va_D A ([(h, .inr (0, [.ref q7, .ref q15, .ref q23, .ref q31, .ref q39, .null, .null, .int 0])), (q7, .inl (cI, 12, .inl (fun _ => 0))), (q15, .inl (cI, 12, .inl (fun _ => 0))), (q23, .inl (cI, 12, .inl (fun _ => 0))), (q31, .inl (cI, 12, .inl (fun _ => 0))), (q39, .inl (cI, 12, .inl (fun _ => 0)))]) := hD
  refine lv_aload_n hx hb dX0_init_44 rfl (lv_at hl 0 rfl) ?_
  refine lv_bipush (v := 12) hx hb dX0_init_45 (by decide) ?_
  refine rv_newa (N' := 12) hx hb (hts (.arrayClass .int) (by decide +kernel)) hK hP hD hS hA (by decide) (rfl) (Nat.le_of_ble_eq_true rfl) (Nat.le_of_ble_eq_true rfl) (Nat.le_of_ble_eq_true rfl) dX0_init_47 (fun q47 H hP hD hS => ?_)
  have hP : va_P (dC, dI) vwCl ([(h, .inr (0, [.ref q7, .ref q15, .ref q23, .ref q31, .ref q39, .null, .null, .int 0])), (q7, .inl (cI, 12, .inl (fun _ => 0))), (q15, .inl (cI, 12, .inl (fun _ => 0))), (q23, .inl (cI, 12, .inl (fun _ => 0))), (q31, .inl (cI, 12, .inl (fun _ => 0))), (q39, .inl (cI, 12, .inl (fun _ => 0))), (q47, .inl (cI, 12, .inl (fun _ => 0)))]) H := hP
  have hD : va_D A ([(h, .inr (0, [.ref q7, .ref q15, .ref q23, .ref q31, .ref q39, .null, .null, .int 0])), (q7, .inl (cI, 12, .inl (fun _ => 0))), (q15, .inl (cI, 12, .inl (fun _ => 0))), (q23, .inl (cI, 12, .inl (fun _ => 0))), (q31, .inl (cI, 12, .inl (fun _ => 0))), (q39, .inl (cI, 12, .inl (fun _ => 0))), (q47, .inl (cI, 12, .inl (fun _ => 0)))]) := hD
  refine va_putF (D := (dC, dI)) (ci := 0) (v := .ref q47) (ty := .array .int) (C := RX0) (T := TX0) (N := 8) hx hb hts hinX0 tyX0 tyX0_ok nmX0 hown hK hP hD hS 0 rfl rfl 5 (by decide) (hts (.fieldLink RX0 27 "WrestleBook$Roster" "winRows" "[I") (by decide +kernel)) (fun _ h9 => h9) rfl hin rfl (by decide +kernel) rfl rfl (Nat.le_of_ble_eq_true rfl) dX0_init_49 (fun H locs hP hD hS => ?_)
  have hP : va_P (dC, dI) vwCl ([(h, .inr (0, [.ref q7, .ref q15, .ref q23, .ref q31, .ref q39, .ref q47, .null, .int 0])), (q7, .inl (cI, 12, .inl (fun _ => 0))), (q15, .inl (cI, 12, .inl (fun _ => 0))), (q23, .inl (cI, 12, .inl (fun _ => 0))), (q31, .inl (cI, 12, .inl (fun _ => 0))), (q39, .inl (cI, 12, .inl (fun _ => 0))), (q47, .inl (cI, 12, .inl (fun _ => 0)))]) H := hP
  have hD : va_D A ([(h, .inr (0, [.ref q7, .ref q15, .ref q23, .ref q31, .ref q39, .ref q47, .null, .int 0])), (q7, .inl (cI, 12, .inl (fun _ => 0))), (q15, .inl (cI, 12, .inl (fun _ => 0))), (q23, .inl (cI, 12, .inl (fun _ => 0))), (q31, .inl (cI, 12, .inl (fun _ => 0))), (q39, .inl (cI, 12, .inl (fun _ => 0))), (q47, .inl (cI, 12, .inl (fun _ => 0)))]) := hD
  refine lv_aload_n hx hb dX0_init_52 rfl (lv_at hl 0 rfl) ?_
  refine lv_bipush (v := 12) hx hb dX0_init_53 (by decide) ?_
  refine rv_newa (N' := 12) hx hb (hts (.arrayClass .int) (by decide +kernel)) hK hP hD hS hA (by decide) (rfl) (Nat.le_of_ble_eq_true rfl) (Nat.le_of_ble_eq_true rfl) (Nat.le_of_ble_eq_true rfl) dX0_init_55 (fun q55 H hP hD hS => ?_)
  have hP : va_P (dC, dI) vwCl ([(h, .inr (0, [.ref q7, .ref q15, .ref q23, .ref q31, .ref q39, .ref q47, .null, .int 0])), (q7, .inl (cI, 12, .inl (fun _ => 0))), (q15, .inl (cI, 12, .inl (fun _ => 0))), (q23, .inl (cI, 12, .inl (fun _ => 0))), (q31, .inl (cI, 12, .inl (fun _ => 0))), (q39, .inl (cI, 12, .inl (fun _ => 0))), (q47, .inl (cI, 12, .inl (fun _ => 0))), (q55, .inl (cI, 12, .inl (fun _ => 0)))]) H := hP
  have hD : va_D A ([(h, .inr (0, [.ref q7, .ref q15, .ref q23, .ref q31, .ref q39, .ref q47, .null, .int 0])), (q7, .inl (cI, 12, .inl (fun _ => 0))), (q15, .inl (cI, 12, .inl (fun _ => 0))), (q23, .inl (cI, 12, .inl (fun _ => 0))), (q31, .inl (cI, 12, .inl (fun _ => 0))), (q39, .inl (cI, 12, .inl (fun _ => 0))), (q47, .inl (cI, 12, .inl (fun _ => 0))), (q55, .inl (cI, 12, .inl (fun _ => 0)))]) := hD
  refine va_putF (D := (dC, dI)) (ci := 0) (v := .ref q55) (ty := .array .int) (C := RX0) (T := TX0) (N := 8) hx hb hts hinX0 tyX0 tyX0_ok nmX0 hown hK hP hD hS 0 rfl rfl 6 (by decide) (hts (.fieldLink RX0 30 "WrestleBook$Roster" "bests" "[I") (by decide +kernel)) (fun _ h9 => h9) rfl hin rfl (by decide +kernel) rfl rfl (Nat.le_of_ble_eq_true rfl) dX0_init_57 (fun H locs hP hD hS => ?_)
  have hP : va_P (dC, dI) vwCl ([(h, .inr (0, [.ref q7, .ref q15, .ref q23, .ref q31, .ref q39, .ref q47, .ref q55, .int 0])), (q7, .inl (cI, 12, .inl (fun _ => 0))), (q15, .inl (cI, 12, .inl (fun _ => 0))), (q23, .inl (cI, 12, .inl (fun _ => 0))), (q31, .inl (cI, 12, .inl (fun _ => 0))), (q39, .inl (cI, 12, .inl (fun _ => 0))), (q47, .inl (cI, 12, .inl (fun _ => 0))), (q55, .inl (cI, 12, .inl (fun _ => 0)))]) H := hP
  have hD : va_D A ([(h, .inr (0, [.ref q7, .ref q15, .ref q23, .ref q31, .ref q39, .ref q47, .ref q55, .int 0])), (q7, .inl (cI, 12, .inl (fun _ => 0))), (q15, .inl (cI, 12, .inl (fun _ => 0))), (q23, .inl (cI, 12, .inl (fun _ => 0))), (q31, .inl (cI, 12, .inl (fun _ => 0))), (q39, .inl (cI, 12, .inl (fun _ => 0))), (q47, .inl (cI, 12, .inl (fun _ => 0))), (q55, .inl (cI, 12, .inl (fun _ => 0)))]) := hD
  refine W.widen (k := 7) (n := 84) (Nat.le_of_ble_eq_true rfl) (Nat.le_of_ble_eq_true rfl) ?_
  have hP8 : va_P (dC, dI) vwCl (wR h (ad7 q7 q15 q23 q31 q39 q47 q55) cI 0 Z0) H := hP
  have hD8 : va_D A (wR h (ad7 q7 q15 q23 q31 q39 q47 q55) cI 0 Z0) := hD
  exact W.vret hx hb hr (fun t ht hW => ⟨⟨ad7 q7 q15 q23 q31 q39 q47 q55, rfl, trivial, by rw [ht]; exact hP8, hD8⟩, hS.F ht⟩) hS.2.2 dX0_init_60

set_option maxHeartbeats 4000000 in
set_option maxRecDepth 100000 in
theorem c_X1_init (l : Launch) (dC : Nat → ClassId) (dI : Nat → Nat → Nat) (cI : ClassId) (h : Nat) (sz : Nat) : Met l yX1_init wsX1_init ({ frames := 2, cells := 17, slots := 194, locals := 32 } : Room) (va_Pc [.ref h] (fun U => PW dC dI cI ([(h, .inr (1, [.null, .null, .null, .int 0, .int 0, .int 0]))]) sz U)) (va_Qv (fun (_ : Nat × (Nat → Nat) × Nat × (Nat → Nat) × Nat) => True) (fun u t => va_P (dC, dI) vwCl (wB h u.1 u.2.1 u.2.2.1 u.2.2.2.1 u.2.2.2.2 cI 0 Z0 0 Z0 z0 z0) t.heap ∧ va_D (va_A ([(h, .inr (1, [.null, .null, .null, .int 0, .int 0, .int 0]))]) sz) (wB h u.1 u.2.1 u.2.2.1 u.2.2.2.1 u.2.2.2.2 cI 0 Z0 0 Z0 z0 z0)) (va_A ([(h, .inr (1, [.null, .null, .null, .int 0, .int 0, .int 0]))]) sz)) 17 194 (va_A ([(h, .inr (1, [.null, .null, .null, .int 0, .int 0, .int 0]))]) sz) := by
  refine Met.ofW (cc := cX1_init) (maxL := 1) (ret := none) (by decide) rfl ?_
  intro p e s m args below meth c s₁ B hml hv
  obtain ⟨rfl, hsz, hP, hK, hD0, hE⟩ := hv
  have hx := B.exec
  have hb := B.bytes
  have hr := B.returns
  have hts := atoms_spec (ws := wsX1_init) B.pre
  have hown : s.vm.findClass RX1 = some m.cls := findClass_of_methodNamed B.named
  have hlocks := B.notSynchronized
  subst hsz
  have hD := hD0.self (sz := s.heap.size)
  generalize hAe : va_A ([(h, .inr (1, [.null, .null, .null, .int 0, .int 0, .int 0]))]) s.heap.size = A at hD hE ⊢
  have hA : ∀ q : Nat, s.heap.size ≤ q → A q := fun q h9 => by rw [← hAe]; exact Or.inr h9
  have hS : va_S A s.heap s.heap [] := va_S.rf
  have hinX0 : ∀ w ∈ wsX00, w ∈ wsX1_init := by decide +kernel
  have hinX1 : ∀ w ∈ wsX10, w ∈ wsX1_init := by decide +kernel
  have hl := lv_entry ([.ref h]) (n := 1) (Nat.le_of_ble_eq_true rfl)
  rw [lg_entry_eq]
  generalize (lg_sl ([.ref h]) ++ List.replicate (1 - (lg_sl ([.ref h])).length) Slot.unset).toArray = ls at hl ⊢
  have hl : lv_has ls 1 [(0, .ref h)] := hl
  have hin : meth.name = "<init>" := (name_of_methodNamed B.named B.method).1
  refine lv_aload_n hx hb dX1_init_0 rfl (lv_at hl 0 rfl) ?_
  refine W.objInit hx hb hown (hts (.methodLink RX1 1 objectInit) (by decide +kernel)) (hts (.instanceMethod objectInit) (by decide +kernel)) (hts (.code objectInit ⟨#[0xb1]⟩ 1 none) (by decide +kernel)) rfl (by rw [hml]; exact hl.1) rfl dX1_init_1 (Nat.le_of_ble_eq_true rfl) (Nat.le_of_ble_eq_true rfl) ?_
  refine W.eq (g2 := F0 m 4 ls []) rfl ?_
  refine lv_aload_n hx hb dX1_init_4 rfl (lv_at hl 0 rfl) ?_
  refine va_new (ci := 0) (fs := [.null, .null, .null, .null, .null, .null, .null, .int 0]) (C := RX0) (T := TX0) (N := 8) hx hb hts hinX0 tyX0 tyX0_ok hown (hts (.classLink RX1 7 RX0) (by decide +kernel)) (hts (.instantiable RX0 8) (by decide +kernel)) (hts (.initialized RX0) (by decide +kernel)) hK hP hD hS hA rfl (fun j hj => by rcases (show j = 0 ∨ j = 1 ∨ j = 2 ∨ j = 3 ∨ j = 4 ∨ j = 5 ∨ j = 6 ∨ j = 7 by omega) with rfl | rfl | rfl | rfl | rfl | rfl | rfl | rfl <;> rfl) (Nat.le_of_ble_eq_true rfl) (Nat.le_of_ble_eq_true rfl) dX1_init_5 (fun q5 H hP hD hS => ?_)
  have hP : va_P (dC, dI) vwCl ([(h, .inr (1, [.null, .null, .null, .int 0, .int 0, .int 0])), (q5, .inr (0, [.null, .null, .null, .null, .null, .null, .null, .int 0]))]) H := hP
  have hD : va_D A ([(h, .inr (1, [.null, .null, .null, .int 0, .int 0, .int 0])), (q5, .inr (0, [.null, .null, .null, .null, .null, .null, .null, .int 0]))]) := hD
  refine lv_dup hx hb dX1_init_8 rfl ?_
  have hPc := hP.sub (ws' := [(q5, .inr (0, [.null, .null, .null, .null, .null, .null, .null, .int 0]))]) [1] rfl
  have hDc := hD.sub (ws' := [(q5, .inr (0, [.null, .null, .null, .null, .null, .null, .null, .int 0]))]) [1] (by decide) rfl
  have hFc := va_free (wc := [(q5, .inr (0, [.null, .null, .null, .null, .null, .null, .null, .int 0]))]) hD hS hA [1] rfl
  refine va_callv (va_runIN (As := []) (rest := [.ref q5, .ref h]) ⟨hx, hb, hml, hown, hts⟩ (c_X0_init l dC dI cI q5 H.size) ⟨va_cnB 0 hts gX1_init_X0_init_n9 rfl rfl rfl (hE.2.2.1 (.methodLinkNest RX1 9 yX0_init "WrestleBook") (by decide +kernel)) (hts (.initialized RX0) (by decide +kernel)) (by decide +kernel) ⟨Nat.le_of_ble_eq_true rfl, Nat.le_of_ble_eq_true rfl⟩, rfl, hts (.instanceMethod yX0_init) (by decide +kernel)⟩ ⟨PW.blind, fun U hU hW => ⟨rfl, PW.go hPc hK hDc hE hS hFc hU hW⟩⟩ rfl rfl hl.1 rfl (lv_room (Nat.le_of_ble_eq_true rfl)) dX1_init_9 ⟨Nat.le_of_ble_eq_true rfl, Nat.le_of_ble_eq_true rfl⟩) hS (fun q _ h9 => hFc q h9) hFc (fun u9 t9 H1 locs ht9 hvm9 hw9 hB9 hz9 hk9 hS => ?_)
  obtain ⟨hP9, hD9⟩ := hB9
  rw [ht9] at hP9
  obtain ⟨hP, hD⟩ := va_join (wr := [(h, .inr (1, [.null, .null, .null, .int 0, .int 0, .int 0]))]) (w1 := wR q5 u9 cI 0 Z0) hP hD [1] [0] rfl rfl (by decide) (by decide) hk9 hFc hP9 hD9
  generalize H1 = H at hP hS ⊢
  have hP : va_P (dC, dI) vwCl ([(h, .inr (1, [.null, .null, .null, .int 0, .int 0, .int 0])), (q5, .inr (0, [.ref (u9 0), .ref (u9 1), .ref (u9 2), .ref (u9 3), .ref (u9 4), .ref (u9 5), .ref (u9 6), .int (nI 0)])), (u9 0, .inl (cI, 12, .inl (Z0 0))), (u9 1, .inl (cI, 12, .inl (Z0 1))), (u9 2, .inl (cI, 12, .inl (Z0 2))), (u9 3, .inl (cI, 12, .inl (Z0 3))), (u9 4, .inl (cI, 12, .inl (Z0 4))), (u9 5, .inl (cI, 12, .inl (Z0 5))), (u9 6, .inl (cI, 12, .inl (Z0 6)))]) H := hP
  have hD : va_D A ([(h, .inr (1, [.null, .null, .null, .int 0, .int 0, .int 0])), (q5, .inr (0, [.ref (u9 0), .ref (u9 1), .ref (u9 2), .ref (u9 3), .ref (u9 4), .ref (u9 5), .ref (u9 6), .int (nI 0)])), (u9 0, .inl (cI, 12, .inl (Z0 0))), (u9 1, .inl (cI, 12, .inl (Z0 1))), (u9 2, .inl (cI, 12, .inl (Z0 2))), (u9 3, .inl (cI, 12, .inl (Z0 3))), (u9 4, .inl (cI, 12, .inl (Z0 4))), (u9 5, .inl (cI, 12, .inl (Z0 5))), (u9 6, .inl (cI, 12, .inl (Z0 6)))]) := hD
  refine va_putF (D := (dC, dI)) (ci := 1) (v := .ref q5) (ty := .object "WrestleBook$Roster") (C := RX1) (T := TX1) (N := 6) hx hb hts hinX1 tyX1 tyX1_ok nmX1 hown hK hP hD hS 0 rfl rfl 0 (by decide) (hts (.fieldLink RX1 10 "WrestleBook" "roster" "LWrestleBook$Roster;") (by decide +kernel)) (fun _ h9 => h9) rfl hin rfl (by decide +kernel) rfl rfl (Nat.le_of_ble_eq_true rfl) dX1_init_12 (fun H locs hP hD hS => ?_)
  have hP : va_P (dC, dI) vwCl ([(h, .inr (1, [.ref q5, .null, .null, .int 0, .int 0, .int 0])), (q5, .inr (0, [.ref (u9 0), .ref (u9 1), .ref (u9 2), .ref (u9 3), .ref (u9 4), .ref (u9 5), .ref (u9 6), .int (nI 0)])), (u9 0, .inl (cI, 12, .inl (Z0 0))), (u9 1, .inl (cI, 12, .inl (Z0 1))), (u9 2, .inl (cI, 12, .inl (Z0 2))), (u9 3, .inl (cI, 12, .inl (Z0 3))), (u9 4, .inl (cI, 12, .inl (Z0 4))), (u9 5, .inl (cI, 12, .inl (Z0 5))), (u9 6, .inl (cI, 12, .inl (Z0 6)))]) H := hP
  have hD : va_D A ([(h, .inr (1, [.ref q5, .null, .null, .int 0, .int 0, .int 0])), (q5, .inr (0, [.ref (u9 0), .ref (u9 1), .ref (u9 2), .ref (u9 3), .ref (u9 4), .ref (u9 5), .ref (u9 6), .int (nI 0)])), (u9 0, .inl (cI, 12, .inl (Z0 0))), (u9 1, .inl (cI, 12, .inl (Z0 1))), (u9 2, .inl (cI, 12, .inl (Z0 2))), (u9 3, .inl (cI, 12, .inl (Z0 3))), (u9 4, .inl (cI, 12, .inl (Z0 4))), (u9 5, .inl (cI, 12, .inl (Z0 5))), (u9 6, .inl (cI, 12, .inl (Z0 6)))]) := hD
  refine lv_aload_n hx hb dX1_init_15 rfl (lv_at hl 0 rfl) ?_
  refine va_new (ci := 0) (fs := [.null, .null, .null, .null, .null, .null, .null, .int 0]) (C := RX0) (T := TX0) (N := 8) hx hb hts hinX0 tyX0 tyX0_ok hown (hts (.classLink RX1 7 RX0) (by decide +kernel)) (hts (.instantiable RX0 8) (by decide +kernel)) (hts (.initialized RX0) (by decide +kernel)) hK hP hD hS hA rfl (fun j hj => by rcases (show j = 0 ∨ j = 1 ∨ j = 2 ∨ j = 3 ∨ j = 4 ∨ j = 5 ∨ j = 6 ∨ j = 7 by omega) with rfl | rfl | rfl | rfl | rfl | rfl | rfl | rfl <;> rfl) (Nat.le_of_ble_eq_true rfl) (Nat.le_of_ble_eq_true rfl) dX1_init_16 (fun q16 H hP hD hS => ?_)
  have hP : va_P (dC, dI) vwCl ([(h, .inr (1, [.ref q5, .null, .null, .int 0, .int 0, .int 0])), (q5, .inr (0, [.ref (u9 0), .ref (u9 1), .ref (u9 2), .ref (u9 3), .ref (u9 4), .ref (u9 5), .ref (u9 6), .int (nI 0)])), (u9 0, .inl (cI, 12, .inl (Z0 0))), (u9 1, .inl (cI, 12, .inl (Z0 1))), (u9 2, .inl (cI, 12, .inl (Z0 2))), (u9 3, .inl (cI, 12, .inl (Z0 3))), (u9 4, .inl (cI, 12, .inl (Z0 4))), (u9 5, .inl (cI, 12, .inl (Z0 5))), (u9 6, .inl (cI, 12, .inl (Z0 6))), (q16, .inr (0, [.null, .null, .null, .null, .null, .null, .null, .int 0]))]) H := hP
  have hD : va_D A ([(h, .inr (1, [.ref q5, .null, .null, .int 0, .int 0, .int 0])), (q5, .inr (0, [.ref (u9 0), .ref (u9 1), .ref (u9 2), .ref (u9 3), .ref (u9 4), .ref (u9 5), .ref (u9 6), .int (nI 0)])), (u9 0, .inl (cI, 12, .inl (Z0 0))), (u9 1, .inl (cI, 12, .inl (Z0 1))), (u9 2, .inl (cI, 12, .inl (Z0 2))), (u9 3, .inl (cI, 12, .inl (Z0 3))), (u9 4, .inl (cI, 12, .inl (Z0 4))), (u9 5, .inl (cI, 12, .inl (Z0 5))), (u9 6, .inl (cI, 12, .inl (Z0 6))), (q16, .inr (0, [.null, .null, .null, .null, .null, .null, .null, .int 0]))]) := hD
  refine lv_dup hx hb dX1_init_19 rfl ?_
  have hPc := hP.sub (ws' := [(q16, .inr (0, [.null, .null, .null, .null, .null, .null, .null, .int 0]))]) [9] rfl
  have hDc := hD.sub (ws' := [(q16, .inr (0, [.null, .null, .null, .null, .null, .null, .null, .int 0]))]) [9] (by decide) rfl
  have hFc := va_free (wc := [(q16, .inr (0, [.null, .null, .null, .null, .null, .null, .null, .int 0]))]) hD hS hA [9] rfl
  refine va_callv (va_runIN (As := []) (rest := [.ref q16, .ref h]) ⟨hx, hb, hml, hown, hts⟩ (c_X0_init l dC dI cI q16 H.size) ⟨va_cnB 0 hts gX1_init_X0_init_n9 rfl rfl rfl (hE.2.2.1 (.methodLinkNest RX1 9 yX0_init "WrestleBook") (by decide +kernel)) (hts (.initialized RX0) (by decide +kernel)) (by decide +kernel) ⟨Nat.le_of_ble_eq_true rfl, Nat.le_of_ble_eq_true rfl⟩, rfl, hts (.instanceMethod yX0_init) (by decide +kernel)⟩ ⟨PW.blind, fun U hU hW => ⟨rfl, PW.go hPc hK hDc hE hS hFc hU hW⟩⟩ rfl rfl hl.1 rfl (lv_room (Nat.le_of_ble_eq_true rfl)) dX1_init_20 ⟨Nat.le_of_ble_eq_true rfl, Nat.le_of_ble_eq_true rfl⟩) hS (fun q _ h9 => hFc q h9) hFc (fun u20 t9 H1 locs ht9 hvm9 hw9 hB9 hz9 hk9 hS => ?_)
  obtain ⟨hP9, hD9⟩ := hB9
  rw [ht9] at hP9
  obtain ⟨hP, hD⟩ := va_join (wr := [(h, .inr (1, [.ref q5, .null, .null, .int 0, .int 0, .int 0])), (q5, .inr (0, [.ref (u9 0), .ref (u9 1), .ref (u9 2), .ref (u9 3), .ref (u9 4), .ref (u9 5), .ref (u9 6), .int (nI 0)])), (u9 0, .inl (cI, 12, .inl (Z0 0))), (u9 1, .inl (cI, 12, .inl (Z0 1))), (u9 2, .inl (cI, 12, .inl (Z0 2))), (u9 3, .inl (cI, 12, .inl (Z0 3))), (u9 4, .inl (cI, 12, .inl (Z0 4))), (u9 5, .inl (cI, 12, .inl (Z0 5))), (u9 6, .inl (cI, 12, .inl (Z0 6)))]) (w1 := wR q16 u20 cI 0 Z0) hP hD [9] [0, 1, 2, 3, 4, 5, 6, 7, 8] rfl rfl (by decide) (by decide) hk9 hFc hP9 hD9
  generalize H1 = H at hP hS ⊢
  have hP : va_P (dC, dI) vwCl ([(h, .inr (1, [.ref q5, .null, .null, .int 0, .int 0, .int 0])), (q5, .inr (0, [.ref (u9 0), .ref (u9 1), .ref (u9 2), .ref (u9 3), .ref (u9 4), .ref (u9 5), .ref (u9 6), .int (nI 0)])), (u9 0, .inl (cI, 12, .inl (Z0 0))), (u9 1, .inl (cI, 12, .inl (Z0 1))), (u9 2, .inl (cI, 12, .inl (Z0 2))), (u9 3, .inl (cI, 12, .inl (Z0 3))), (u9 4, .inl (cI, 12, .inl (Z0 4))), (u9 5, .inl (cI, 12, .inl (Z0 5))), (u9 6, .inl (cI, 12, .inl (Z0 6))), (q16, .inr (0, [.ref (u20 0), .ref (u20 1), .ref (u20 2), .ref (u20 3), .ref (u20 4), .ref (u20 5), .ref (u20 6), .int (nI 0)])), (u20 0, .inl (cI, 12, .inl (Z0 0))), (u20 1, .inl (cI, 12, .inl (Z0 1))), (u20 2, .inl (cI, 12, .inl (Z0 2))), (u20 3, .inl (cI, 12, .inl (Z0 3))), (u20 4, .inl (cI, 12, .inl (Z0 4))), (u20 5, .inl (cI, 12, .inl (Z0 5))), (u20 6, .inl (cI, 12, .inl (Z0 6)))]) H := hP
  have hD : va_D A ([(h, .inr (1, [.ref q5, .null, .null, .int 0, .int 0, .int 0])), (q5, .inr (0, [.ref (u9 0), .ref (u9 1), .ref (u9 2), .ref (u9 3), .ref (u9 4), .ref (u9 5), .ref (u9 6), .int (nI 0)])), (u9 0, .inl (cI, 12, .inl (Z0 0))), (u9 1, .inl (cI, 12, .inl (Z0 1))), (u9 2, .inl (cI, 12, .inl (Z0 2))), (u9 3, .inl (cI, 12, .inl (Z0 3))), (u9 4, .inl (cI, 12, .inl (Z0 4))), (u9 5, .inl (cI, 12, .inl (Z0 5))), (u9 6, .inl (cI, 12, .inl (Z0 6))), (q16, .inr (0, [.ref (u20 0), .ref (u20 1), .ref (u20 2), .ref (u20 3), .ref (u20 4), .ref (u20 5), .ref (u20 6), .int (nI 0)])), (u20 0, .inl (cI, 12, .inl (Z0 0))), (u20 1, .inl (cI, 12, .inl (Z0 1))), (u20 2, .inl (cI, 12, .inl (Z0 2))), (u20 3, .inl (cI, 12, .inl (Z0 3))), (u20 4, .inl (cI, 12, .inl (Z0 4))), (u20 5, .inl (cI, 12, .inl (Z0 5))), (u20 6, .inl (cI, 12, .inl (Z0 6)))]) := hD
  refine va_putF (D := (dC, dI)) (ci := 1) (v := .ref q16) (ty := .object "WrestleBook$Roster") (C := RX1) (T := TX1) (N := 6) hx hb hts hinX1 tyX1 tyX1_ok nmX1 hown hK hP hD hS 0 rfl rfl 1 (by decide) (hts (.fieldLink RX1 16 "WrestleBook" "trial" "LWrestleBook$Roster;") (by decide +kernel)) (fun _ h9 => h9) rfl hin rfl (by decide +kernel) rfl rfl (Nat.le_of_ble_eq_true rfl) dX1_init_23 (fun H locs hP hD hS => ?_)
  have hP : va_P (dC, dI) vwCl ([(h, .inr (1, [.ref q5, .ref q16, .null, .int 0, .int 0, .int 0])), (q5, .inr (0, [.ref (u9 0), .ref (u9 1), .ref (u9 2), .ref (u9 3), .ref (u9 4), .ref (u9 5), .ref (u9 6), .int (nI 0)])), (u9 0, .inl (cI, 12, .inl (Z0 0))), (u9 1, .inl (cI, 12, .inl (Z0 1))), (u9 2, .inl (cI, 12, .inl (Z0 2))), (u9 3, .inl (cI, 12, .inl (Z0 3))), (u9 4, .inl (cI, 12, .inl (Z0 4))), (u9 5, .inl (cI, 12, .inl (Z0 5))), (u9 6, .inl (cI, 12, .inl (Z0 6))), (q16, .inr (0, [.ref (u20 0), .ref (u20 1), .ref (u20 2), .ref (u20 3), .ref (u20 4), .ref (u20 5), .ref (u20 6), .int (nI 0)])), (u20 0, .inl (cI, 12, .inl (Z0 0))), (u20 1, .inl (cI, 12, .inl (Z0 1))), (u20 2, .inl (cI, 12, .inl (Z0 2))), (u20 3, .inl (cI, 12, .inl (Z0 3))), (u20 4, .inl (cI, 12, .inl (Z0 4))), (u20 5, .inl (cI, 12, .inl (Z0 5))), (u20 6, .inl (cI, 12, .inl (Z0 6)))]) H := hP
  have hD : va_D A ([(h, .inr (1, [.ref q5, .ref q16, .null, .int 0, .int 0, .int 0])), (q5, .inr (0, [.ref (u9 0), .ref (u9 1), .ref (u9 2), .ref (u9 3), .ref (u9 4), .ref (u9 5), .ref (u9 6), .int (nI 0)])), (u9 0, .inl (cI, 12, .inl (Z0 0))), (u9 1, .inl (cI, 12, .inl (Z0 1))), (u9 2, .inl (cI, 12, .inl (Z0 2))), (u9 3, .inl (cI, 12, .inl (Z0 3))), (u9 4, .inl (cI, 12, .inl (Z0 4))), (u9 5, .inl (cI, 12, .inl (Z0 5))), (u9 6, .inl (cI, 12, .inl (Z0 6))), (q16, .inr (0, [.ref (u20 0), .ref (u20 1), .ref (u20 2), .ref (u20 3), .ref (u20 4), .ref (u20 5), .ref (u20 6), .int (nI 0)])), (u20 0, .inl (cI, 12, .inl (Z0 0))), (u20 1, .inl (cI, 12, .inl (Z0 1))), (u20 2, .inl (cI, 12, .inl (Z0 2))), (u20 3, .inl (cI, 12, .inl (Z0 3))), (u20 4, .inl (cI, 12, .inl (Z0 4))), (u20 5, .inl (cI, 12, .inl (Z0 5))), (u20 6, .inl (cI, 12, .inl (Z0 6)))]) := hD
  refine lv_aload_n hx hb dX1_init_26 rfl (lv_at hl 0 rfl) ?_
  refine lv_bipush (v := 10) hx hb dX1_init_27 (by decide) ?_
  refine rv_newa (N' := 10) hx hb (hts (.arrayClass .int) (by decide +kernel)) hK hP hD hS hA (by decide) (rfl) (Nat.le_of_ble_eq_true rfl) (Nat.le_of_ble_eq_true rfl) (Nat.le_of_ble_eq_true rfl) dX1_init_29 (fun q29 H hP hD hS => ?_)
  have hP : va_P (dC, dI) vwCl ([(h, .inr (1, [.ref q5, .ref q16, .null, .int 0, .int 0, .int 0])), (q5, .inr (0, [.ref (u9 0), .ref (u9 1), .ref (u9 2), .ref (u9 3), .ref (u9 4), .ref (u9 5), .ref (u9 6), .int (nI 0)])), (u9 0, .inl (cI, 12, .inl (Z0 0))), (u9 1, .inl (cI, 12, .inl (Z0 1))), (u9 2, .inl (cI, 12, .inl (Z0 2))), (u9 3, .inl (cI, 12, .inl (Z0 3))), (u9 4, .inl (cI, 12, .inl (Z0 4))), (u9 5, .inl (cI, 12, .inl (Z0 5))), (u9 6, .inl (cI, 12, .inl (Z0 6))), (q16, .inr (0, [.ref (u20 0), .ref (u20 1), .ref (u20 2), .ref (u20 3), .ref (u20 4), .ref (u20 5), .ref (u20 6), .int (nI 0)])), (u20 0, .inl (cI, 12, .inl (Z0 0))), (u20 1, .inl (cI, 12, .inl (Z0 1))), (u20 2, .inl (cI, 12, .inl (Z0 2))), (u20 3, .inl (cI, 12, .inl (Z0 3))), (u20 4, .inl (cI, 12, .inl (Z0 4))), (u20 5, .inl (cI, 12, .inl (Z0 5))), (u20 6, .inl (cI, 12, .inl (Z0 6))), (q29, .inl (cI, 10, .inl (fun _ => 0)))]) H := hP
  have hD : va_D A ([(h, .inr (1, [.ref q5, .ref q16, .null, .int 0, .int 0, .int 0])), (q5, .inr (0, [.ref (u9 0), .ref (u9 1), .ref (u9 2), .ref (u9 3), .ref (u9 4), .ref (u9 5), .ref (u9 6), .int (nI 0)])), (u9 0, .inl (cI, 12, .inl (Z0 0))), (u9 1, .inl (cI, 12, .inl (Z0 1))), (u9 2, .inl (cI, 12, .inl (Z0 2))), (u9 3, .inl (cI, 12, .inl (Z0 3))), (u9 4, .inl (cI, 12, .inl (Z0 4))), (u9 5, .inl (cI, 12, .inl (Z0 5))), (u9 6, .inl (cI, 12, .inl (Z0 6))), (q16, .inr (0, [.ref (u20 0), .ref (u20 1), .ref (u20 2), .ref (u20 3), .ref (u20 4), .ref (u20 5), .ref (u20 6), .int (nI 0)])), (u20 0, .inl (cI, 12, .inl (Z0 0))), (u20 1, .inl (cI, 12, .inl (Z0 1))), (u20 2, .inl (cI, 12, .inl (Z0 2))), (u20 3, .inl (cI, 12, .inl (Z0 3))), (u20 4, .inl (cI, 12, .inl (Z0 4))), (u20 5, .inl (cI, 12, .inl (Z0 5))), (u20 6, .inl (cI, 12, .inl (Z0 6))), (q29, .inl (cI, 10, .inl (fun _ => 0)))]) := hD
  refine va_putF (D := (dC, dI)) (ci := 1) (v := .ref q29) (ty := .array .int) (C := RX1) (T := TX1) (N := 6) hx hb hts hinX1 tyX1 tyX1_ok nmX1 hown hK hP hD hS 0 rfl rfl 2 (by decide) (hts (.fieldLink RX1 19 "WrestleBook" "chances" "[I") (by decide +kernel)) (fun _ h9 => h9) rfl hin rfl (by decide +kernel) rfl rfl (Nat.le_of_ble_eq_true rfl) dX1_init_31 (fun H locs hP hD hS => ?_)
  have hP : va_P (dC, dI) vwCl ([(h, .inr (1, [.ref q5, .ref q16, .ref q29, .int 0, .int 0, .int 0])), (q5, .inr (0, [.ref (u9 0), .ref (u9 1), .ref (u9 2), .ref (u9 3), .ref (u9 4), .ref (u9 5), .ref (u9 6), .int (nI 0)])), (u9 0, .inl (cI, 12, .inl (Z0 0))), (u9 1, .inl (cI, 12, .inl (Z0 1))), (u9 2, .inl (cI, 12, .inl (Z0 2))), (u9 3, .inl (cI, 12, .inl (Z0 3))), (u9 4, .inl (cI, 12, .inl (Z0 4))), (u9 5, .inl (cI, 12, .inl (Z0 5))), (u9 6, .inl (cI, 12, .inl (Z0 6))), (q16, .inr (0, [.ref (u20 0), .ref (u20 1), .ref (u20 2), .ref (u20 3), .ref (u20 4), .ref (u20 5), .ref (u20 6), .int (nI 0)])), (u20 0, .inl (cI, 12, .inl (Z0 0))), (u20 1, .inl (cI, 12, .inl (Z0 1))), (u20 2, .inl (cI, 12, .inl (Z0 2))), (u20 3, .inl (cI, 12, .inl (Z0 3))), (u20 4, .inl (cI, 12, .inl (Z0 4))), (u20 5, .inl (cI, 12, .inl (Z0 5))), (u20 6, .inl (cI, 12, .inl (Z0 6))), (q29, .inl (cI, 10, .inl (fun _ => 0)))]) H := hP
  have hD : va_D A ([(h, .inr (1, [.ref q5, .ref q16, .ref q29, .int 0, .int 0, .int 0])), (q5, .inr (0, [.ref (u9 0), .ref (u9 1), .ref (u9 2), .ref (u9 3), .ref (u9 4), .ref (u9 5), .ref (u9 6), .int (nI 0)])), (u9 0, .inl (cI, 12, .inl (Z0 0))), (u9 1, .inl (cI, 12, .inl (Z0 1))), (u9 2, .inl (cI, 12, .inl (Z0 2))), (u9 3, .inl (cI, 12, .inl (Z0 3))), (u9 4, .inl (cI, 12, .inl (Z0 4))), (u9 5, .inl (cI, 12, .inl (Z0 5))), (u9 6, .inl (cI, 12, .inl (Z0 6))), (q16, .inr (0, [.ref (u20 0), .ref (u20 1), .ref (u20 2), .ref (u20 3), .ref (u20 4), .ref (u20 5), .ref (u20 6), .int (nI 0)])), (u20 0, .inl (cI, 12, .inl (Z0 0))), (u20 1, .inl (cI, 12, .inl (Z0 1))), (u20 2, .inl (cI, 12, .inl (Z0 2))), (u20 3, .inl (cI, 12, .inl (Z0 3))), (u20 4, .inl (cI, 12, .inl (Z0 4))), (u20 5, .inl (cI, 12, .inl (Z0 5))), (u20 6, .inl (cI, 12, .inl (Z0 6))), (q29, .inl (cI, 10, .inl (fun _ => 0)))]) := hD
  refine W.widen (k := 17) (n := 194) (Nat.le_of_ble_eq_true rfl) (Nat.le_of_ble_eq_true rfl) ?_
  have hP8 : va_P (dC, dI) vwCl (wB h (q5, u9, q16, u20, q29).1 (q5, u9, q16, u20, q29).2.1 (q5, u9, q16, u20, q29).2.2.1 (q5, u9, q16, u20, q29).2.2.2.1 (q5, u9, q16, u20, q29).2.2.2.2 cI 0 Z0 0 Z0 z0 z0) H := hP.sub [0, 17, 1, 2, 3, 4, 5, 6, 7, 8, 9, 10, 11, 12, 13, 14, 15, 16] rfl
  have hD8 : va_D A (wB h (q5, u9, q16, u20, q29).1 (q5, u9, q16, u20, q29).2.1 (q5, u9, q16, u20, q29).2.2.1 (q5, u9, q16, u20, q29).2.2.2.1 (q5, u9, q16, u20, q29).2.2.2.2 cI 0 Z0 0 Z0 z0 z0) := hD.sub [0, 17, 1, 2, 3, 4, 5, 6, 7, 8, 9, 10, 11, 12, 13, 14, 15, 16] (by decide) rfl
  exact W.vret hx hb hr (fun t ht hW => ⟨⟨(q5, u9, q16, u20, q29), rfl, trivial, by rw [ht]; exact hP8, hD8⟩, hS.F ht⟩) hS.2.2 dX1_init_34

set_option maxHeartbeats 4000000 in
set_option maxRecDepth 100000 in
theorem c_X2_init (l : Launch) (dC : Nat → ClassId) (dI : Nat → Nat → Nat) (cI cA : ClassId) (h : Nat) (sz : Nat) : Met l yX2_init wsX2_init ({ frames := 1, cells := 1, slots := 0, locals := 12 } : Room) (va_Pc [.ref h] (fun U => PV dC dI cI cA ([(h, .inr (2, [.int 0, .int 0, .int 0, .null]))]) sz U)) (va_Qv (fun (_ : Nat) => True) (fun u t => va_P (dC, dI) vwCl (wT h u (fun _ => 0) cA cI 0 Z0 z0) t.heap ∧ va_D (va_A ([(h, .inr (2, [.int 0, .int 0, .int 0, .null]))]) sz) (wT h u (fun _ => 0) cA cI 0 Z0 z0)) (va_A ([(h, .inr (2, [.int 0, .int 0, .int 0, .null]))]) sz)) 1 0 (va_A ([(h, .inr (2, [.int 0, .int 0, .int 0, .null]))]) sz) := by
  refine Met.ofW (cc := cX2_init) (maxL := 1) (ret := none) (by decide) rfl ?_
  intro p e s m args below meth c s₁ B hml hv
  obtain ⟨rfl, hsz, hP, hK, hD0, hE⟩ := hv
  have hx := B.exec
  have hb := B.bytes
  have hr := B.returns
  have hts := atoms_spec (ws := wsX2_init) B.pre
  have hown : s.vm.findClass RX2 = some m.cls := findClass_of_methodNamed B.named
  have hlocks := B.notSynchronized
  subst hsz
  have hD := hD0.self (sz := s.heap.size)
  generalize hAe : va_A ([(h, .inr (2, [.int 0, .int 0, .int 0, .null]))]) s.heap.size = A at hD hE ⊢
  have hA : ∀ q : Nat, s.heap.size ≤ q → A q := fun q h9 => by rw [← hAe]; exact Or.inr h9
  have hS : va_S A s.heap s.heap [] := va_S.rf
  have hinX2 : ∀ w ∈ wsX20, w ∈ wsX2_init := by decide +kernel
  have hl := lv_entry ([.ref h]) (n := 1) (Nat.le_of_ble_eq_true rfl)
  rw [lg_entry_eq]
  generalize (lg_sl ([.ref h]) ++ List.replicate (1 - (lg_sl ([.ref h])).length) Slot.unset).toArray = ls at hl ⊢
  have hl : lv_has ls 1 [(0, .ref h)] := hl
  have hin : meth.name = "<init>" := (name_of_methodNamed B.named B.method).1
  refine lv_aload_n hx hb dX2_init_0 rfl (lv_at hl 0 rfl) ?_
  refine W.objInit hx hb hown (hts (.methodLink RX2 1 objectInit) (by decide +kernel)) (hts (.instanceMethod objectInit) (by decide +kernel)) (hts (.code objectInit ⟨#[0xb1]⟩ 1 none) (by decide +kernel)) rfl (by rw [hml]; exact hl.1) rfl dX2_init_1 (Nat.le_of_ble_eq_true rfl) (Nat.le_of_ble_eq_true rfl) ?_
  refine W.eq (g2 := F0 m 4 ls []) rfl ?_
  refine lv_aload_n hx hb dX2_init_4 rfl (lv_at hl 0 rfl) ?_
  refine lv_iconst (v := 0) hx hb dX2_init_5 (by decide) ?_
  refine rv_newqA (N' := 0) hx hb hown (hts (.classLink RX2 7 "[I") (by decide +kernel)) hE.2.1 hK hP hD hS hA (by decide) rfl (by decide) (Nat.le_of_ble_eq_true rfl) (Nat.le_of_ble_eq_true rfl) dX2_init_6 (fun q6 H hP hD hS => ?_)
  have hP : va_P (dC, dI) vwCl ([(h, .inr (2, [.int 0, .int 0, .int 0, .null])), (q6, .inl (cA, 0, .inr (.inr (.inr (.inr (fun _ => none))))))]) H := hP
  have hD : va_D A ([(h, .inr (2, [.int 0, .int 0, .int 0, .null])), (q6, .inl (cA, 0, .inr (.inr (.inr (.inr (fun _ => none))))))]) := hD
  refine va_put (D := (dC, dI)) (ci := 2) (v := .ref q6) (ty := .array (.array .int)) (C := RX2) (T := TX2) (N := 4) hx hb hts hinX2 tyX2 tyX2_ok nmX2 hown hK hP hD hS 0 rfl rfl 3 (by decide) (hts (.fieldLink RX2 9 "WrestleBookLaw$Sim" "all" "[[I") (by decide +kernel)) (fun _ h9 => h9) rfl (by decide +kernel) rfl rfl (Nat.le_of_ble_eq_true rfl) dX2_init_9 (fun H locs hP hD hS => ?_)
  have e0 : (q6, (.inl (cA, 0, .inr (.inr (.inr (.inr (fun _ => none))))) : va_E)) = (q6, .inl (cA, 0, .inr (.inr (.inr (.inr (ro (fun _ => 0))))))) → True := fun _ => trivial
  have hP8 : va_P (dC, dI) vwCl (wT h q6 (fun _ => 0) cA cI 0 Z0 z0) H := fun k q hq => by
    match k, hq with
    | 0, hq => cases hq; exact hP 0 _ rfl
    | 1, hq => cases hq; exact hP 1 (q6, .inl (cA, 0, .inr (.inr (.inr (.inr (fun _ => none)))))) rfl
    | k + 2, hq => simp [wT, rl] at hq
  have hD8 : va_D A (wT h q6 (fun _ => 0) cA cI 0 Z0 z0) := by
    refine ⟨fun i j p q hi hj e => ?_, fun k q hq => ?_⟩
    · match i, j, hi, hj with
      | 0, 0, _, _ => rfl
      | 1, 1, _, _ => rfl
      | 0, 1, hi, hj => cases hi; cases hj; exact hD.1 0 1 _ _ rfl rfl e
      | 1, 0, hi, hj => cases hi; cases hj; exact hD.1 1 0 _ _ rfl rfl e
      | i + 2, _, hi, _ => simp [wT, rl] at hi
      | _, j + 2, _, hj => simp [wT, rl] at hj
    · match k, hq with
      | 0, hq => cases hq; exact hD.2 0 _ rfl
      | 1, hq => cases hq; exact hD.2 1 (q6, .inl (cA, 0, .inr (.inr (.inr (.inr (fun _ => none)))))) rfl
      | k + 2, hq => simp [wT, rl] at hq
  exact W.vret hx hb hr (fun t ht hW => ⟨⟨q6, rfl, trivial, by rw [ht]; exact hP8, hD8⟩, hS.F ht⟩) hS.2.2 dX2_init_12
