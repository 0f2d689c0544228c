/-! The Sim of the law: its cells, rows of ours for them, starts. -/
theorem rl_get {X : va_W} {p n i : Nat} {rw : Nat → Nat} {cI : ClassId} {F : Nat → Nat → Int32} (hX : X.length = p) (hi : i < n) : (X ++ rl rw cI n F)[p + i]? = some (rw i, .inl (cI, 7, .inl (fun k => F (sw k) i))) := by
  subst hX
  rw [List.getElem?_append_right (by omega), Nat.add_sub_cancel_left]
  simp [rl, hi]
theorem sw_inj {a b : Nat} (h : sw a = sw b) : a = b := by
  unfold sw at h
  split at h <;> split at h <;> first | rfl | omega | simp_all
theorem rl_upd {F : Nat → Nat → Int32} {i k : Nat} {x : Int32} : upd (fun k => F (sw k) i) k x = fun k' => pu F (sw k) i x (sw k') i := by
  funext k'
  rw [pu_app]
  by_cases h : k' = k
  · subst h; rw [pk_us, if_pos ⟨rfl, rfl⟩]
  · rw [pk_un h, if_neg (fun q => h (sw_inj q.1))]
theorem rl_set {X : va_W} {p n i k : Nat} {rw : Nat → Nat} {cI : ClassId} {F : Nat → Nat → Int32} {x : Int32} (hX : X.length = p) (hi : i < n) : (X ++ rl rw cI n F).set (p + i) (rw i, .inl (cI, 7, .inl (upd (fun k => F (sw k) i) k x))) = X ++ rl rw cI n (pu F (sw k) i x) := by
  subst hX
  rw [List.set_append_right _ _ (by omega), Nat.add_sub_cancel_left]
  congr 1
  apply List.ext_getElem?
  intro j
  by_cases hj : j = i
  · subst hj
    rw [List.getElem?_set_self (by simp [rl, hi])]
    simp only [rl, List.getElem?_map, List.getElem?_range hi, Option.map_some]
    rw [rl_upd]
  · rw [List.getElem?_set_ne (Ne.symm hj)]
    simp only [rl, List.getElem?_map]
    cases hr : (List.range n)[j]? with
    | none => rfl
    | some b =>
      have hb : b = j := by
        have := (List.getElem?_eq_some_iff.mp hr).2
        rw [List.getElem_range] at this
        exact this.symm
      subst hb
      simp only [Option.map_some]
      rw [show (fun k => F (sw k) b) = (fun k' => pu F (sw k) i x (sw k') b) from funext fun k' => by rw [pu_app, if_neg (fun q => hj q.2)]]
section SIMR
variable {p : Program} {l : Launch} {e : Env} {R : Room} {s : State} {m : MethodId} {args : Array Value} {below : List Frame} {meth : Method} {c : Code} {H : Heap} {locs : List Loc} {cells slots : Nat} {Q : State → Prop}
variable {cc : ByteArray} {pc : Nat} {ls : Array Slot} {rest : List Value} {A : Nat → Prop} {H0 : Heap} {D : va_G} {cl : List vw_C} {tys : List (ClassId × FieldType)} {ws : va_W} {a : Nat}
/-- a row of a Sim -/
theorem rv_aald (hexec : p.tables.exec = Jvm.exec) (hb : c.code = cc) (hK : va_K D cl tys s) (hP : va_P D cl ws H) (q0 t0 : Nat) {cA : ClassId} {n k : Nat} {rw : Nat → Nat} (ha : ws[q0]? = some (a, .inl (cA, n, .inr (.inr (.inr (.inr (ro rw))))))) (ht : tys[t0]? = some (cA, .array .int)) (hk : k < n) (hn : n < 2 ^ 31) (hdg : decode cc pc = .ok (.aaload, 1))
    (kk : W p l e R s m args below meth c H locs cells slots Q (F0 m (pc + 1) ls (.ref (rw k) :: rest))) : W p l e R s m args below meth c H locs cells slots Q (F0 m pc ls (.int (nI k) :: .ref a :: rest)) := by
  have hin : vp_in (nI k) n := vp_in_nI hk hn
  have hc : (nI k).toNatClampNeg = k := nI_clamp (Nat.lt_trans hk hn)
  exact W.aald (v := .ref (rw k)) (ty := .array .int) hexec hb (hP q0 _ ha) ((hK.2 t0 _ ht).1 n (fun j => va_rf (ro rw j))) rfl (fun q => by cases q) (by show ¬ (nI k < 0 ∨ (arrV _ _ _).slots.size ≤ _); rw [arrV_size]; exact hin) (by show (arrV _ _ _).slots[_]? = _; rw [arrV_read _ _ (by rw [hc]; exact hk), hc]; rfl) rfl rfl hdg kk
theorem rv_rst (hexec : p.tables.exec = Jvm.exec) (hb : c.code = cc) (hK : va_K D cl tys s) {X : va_W} {q n i k : Nat} {rw : Nat → Nat} {cI : ClassId} {F : Nat → Nat → Int32} (hX : X.length = q) (hP : va_P D cl (X ++ rl rw cI n F) H) (hD : va_D A (X ++ rl rw cI n F)) (hS : va_S A H0 H locs) (t0 : Nat) (ht : tys[t0]? = some (cI, .int)) {x : Int32} (hi : i < n) (hk : k < 7) (hdg : decode cc pc = .ok (.iastore, 1))
    (kk : ∀ (H1 : Heap) (locs1 : List Loc), va_P D cl (X ++ rl rw cI n (pu F (sw k) i x)) H1 → va_D A (X ++ rl rw cI n (pu F (sw k) i x)) → va_S A H0 H1 locs1 → W p l e R s m args below meth c H1 locs1 cells slots Q (F0 m (pc + 1) ls rest)) : W p l e R s m args below meth c H locs cells slots Q (F0 m pc ls (.int x :: .int (nI k) :: .ref (rw i) :: rest)) := by
  refine rv_iast (k := k) hexec hb hK hP hD hS (q + i) t0 (rl_get hX hi) ht hk (by decide) hdg (fun H1 locs1 h1 h2 h3 => ?_)
  rw [rl_set hX hi] at h1 h2
  exact kk H1 locs1 h1 h2 h3
/-- two numbers that are one -/
theorem P_new {ws : va_W} {H1 : Heap} (hP : va_P D cl ws H) (hk : ∀ q : Nat, q < H.size → ¬ (H.size ≤ q) → H1[q]? = H[q]?) : va_P D cl ws H1 := hP.kept (fun k q hq => hk q.1 (hP k q hq).lt (Nat.not_le.mpr (hP k q hq).lt))
theorem keepS {ws : va_W} (hP : va_P D cl ws s.heap) (hAn : ∀ q : Nat, q < s.heap.size → ¬ A q) (hS : va_S A s.heap H locs) : va_P D cl ws H := hP.kept (fun k q hq => hS.2.1 q.1 (hP k q hq).lt (hAn q.1 (hP k q hq).lt))
theorem P_l {w1 w2 : va_W} (hP : va_P D cl (w1 ++ w2) H) : va_P D cl w1 H := fun k q hq => hP k q (by rw [List.getElem?_append_left (List.getElem?_eq_some_iff.mp hq).1]; exact hq)
theorem P_r {w1 w2 : va_W} (hP : va_P D cl (w1 ++ w2) H) : va_P D cl w2 H := fun k q hq => hP (w1.length + k) q (by rw [List.getElem?_append_right (by omega), Nat.add_sub_cancel_left]; exact hq)
theorem D_nil : va_D A [] := ⟨fun i j p q h => by simp at h, fun k q h => by simp at h⟩
theorem D_add {ws : va_W} {q : Nat} {e : va_E} (hD : va_D A ws) (hP : va_P D cl ws H) (hq : H.size ≤ q) (hA : A q) : va_D A (ws ++ [(q, e)]) := by
  refine hD.app ⟨fun i j p r hi hj _ => ?_, fun k p hk => ?_⟩ (fun i j p r hi hj he => ?_)
  · have h1 := (List.getElem?_eq_some_iff.mp hi).1
    have h2 := (List.getElem?_eq_some_iff.mp hj).1
    simp at h1 h2
    omega
  · have h1 := (List.getElem?_eq_some_iff.mp hk).1
    simp at h1
    subst h1
    cases hk
    exact hA
  · have h1 := (List.getElem?_eq_some_iff.mp hj).1
    simp at h1
    subst h1
    cases hj
    have h2 := (hP i p hi).lt
    have h3 : p.1 = q := he
    omega
end SIMR
/-- a start that only makes new cells -/
def PT (dC : Nat → ClassId) (dI : Nat → Nat → Nat) (cI cA : ClassId) (ws : va_W) (sz : Nat) (U : State) : Prop := U.heap.size = sz ∧ va_P (dC, dI) vwCl ws U.heap ∧ va_K (dC, dI) vwCl [(cI, .int), (cA, .array .int)] U ∧ En (fun q : Nat => sz ≤ q) U U.heap
theorem PT.blind {dC : Nat → ClassId} {dI : Nat → Nat → Nat} {cI cA : ClassId} {ws : va_W} {sz : Nat} {av : List Value} : FrameBlind (va_Pc av (fun U => PT dC dI cI cA ws sz U)) := fun a U g mk q => ⟨q.1, q.2.1, q.2.2.1, va_K.moved (u := U) (U := U.calling g mk a) (Vm.Alike.refl U.vm) q.2.2.2.1, En.blind q.2.2.2.2⟩
theorem PT.go {dC : Nat → ClassId} {dI : Nat → Nat → Nat} {cI cA : ClassId} {ws : va_W} {A : Nat → Prop} {s U : State} {H : Heap} {locs : List Loc} (hP : va_P (dC, dI) vwCl ws H) (hK : va_K (dC, dI) vwCl [(cI, .int), (cA, .array .int)] s) (hE : En A s s.heap) (hS : va_S A s.heap H locs) (hA : ∀ q, s.heap.size ≤ q → A q) (hU : U.heap = H) (hW : s.WarmedH U.vm) : PT dC dI cI cA ws H.size U :=
  ⟨by rw [hU], by rw [hU]; exact hP, va_K.moved hW.alike hK, En.go hE hS (fun q h => hA q (Nat.le_trans hS.1 h)) hU hW⟩
/-- a start that may change its cells -/
def PV (dC : Nat → ClassId) (dI : Nat → Nat → Nat) (cI cA : ClassId) (ws : va_W) (sz : Nat) (U : State) : Prop := U.heap.size = sz ∧ va_P (dC, dI) vwCl ws U.heap ∧ va_K (dC, dI) vwCl [(cI, .int), (cA, .array .int)] U ∧ va_D (fun _ => True) ws ∧ En (va_A ws sz) U U.heap
theorem PV.blind {dC : Nat → ClassId} {dI : Nat → Nat → Nat} {cI cA : ClassId} {ws : va_W} {sz : Nat} {av : List Value} : FrameBlind (va_Pc av (fun U => PV dC dI cI cA ws sz U)) := fun a U g mk q => ⟨q.1, q.2.1, q.2.2.1, va_K.moved (u := U) (U := U.calling g mk a) (Vm.Alike.refl U.vm) q.2.2.2.1, q.2.2.2.2.1, En.blind q.2.2.2.2.2⟩
theorem PV.go {dC : Nat → ClassId} {dI : Nat → Nat → Nat} {cI cA : ClassId} {ws : va_W} {A : Nat → Prop} {s U : State} {H : Heap} {locs : List Loc} (hP : va_P (dC, dI) vwCl ws H) (hK : va_K (dC, dI) vwCl [(cI, .int), (cA, .array .int)] s) (hD : va_D A ws) (hE : En A s s.heap) (hS : va_S A s.heap H locs) (hF : ∀ q, va_A ws H.size q → A q) (hU : U.heap = H) (hW : s.WarmedH U.vm) : PV dC dI cI cA ws H.size U :=
  ⟨by rw [hU], by rw [hU]; exact hP, va_K.moved hW.alike hK, hD.weaken (fun _ _ _ _ => trivial), En.go hE hS hF hU hW⟩
/-- every cell of a world is free to a caller to whom the callee's world belongs -/
theorem free_all {A : Nat → Prop} {ws : va_W} {H0 H : Heap} {locs : List Loc} (hD : va_D A ws) (hS : va_S A H0 H locs) (hA : ∀ q, H0.size ≤ q → A q) : ∀ q, va_A ws H.size q → A q := by
  intro q h
  rcases h with ⟨k, e, h⟩ | h
  · exact hD.2 k (q, e) h
  · exact hA q (Nat.le_trans hS.1 h)
