/-! Worlds of the book and the Sim side by side; the law's small helpers. -/
theorem met_ofWH {l : Launch} {y : MethodName} {ws ws' : List Cond} {rm : Room} {Pc : Array Value → State → Prop} {Qc : Array Value → State → Outcome → State → Prop} {mc ms : Nat} {free : Addr → Prop} {cc : ByteArray} {maxL : Nat} {ret : Option FieldType} {hh : List (Nat × Nat × Nat × Nat)}
    (hy : plainName y.cls = true) (hw : ws = Cond.codeWith y cc maxL ret hh :: ws')
    (body : ∀ p e s m args below meth c s₁, BodyLoose p l y (headSpec ws rm) cc maxL ret e s m args below meth c s₁ → c.maxLocals = maxL → Pc args s →
      W p l e (headSpec ws rm).room s m args below meth c s.heap [] 0 0 (MQ below Qc args s mc ms free) (entryFrame m args maxL)) : Met l y ws rm Pc Qc mc ms free := by
  refine MetFree.of_bodyS (code := cc) (maxLocals := maxL) (ret := ret) hy ?_ ?_
  · intro args s m h hn
    obtain ⟨m9, meth, c, hn9, h1, h2, h3, h4, -, h5, h6, -⟩ := Cond.codeWith_spec (atoms_spec (ws := ws) h _ (by rw [hw]; exact List.mem_cons_self))
    cases hn.symm.trans hn9
    exact ⟨meth, c, h1, h2, h3, h4, h5, h6⟩
  · intro p e s m args below meth c s₁ B hml hP _
    have hh0 : s₁.heap = s.heap := by rw [B.state]; rfl
    obtain ⟨t, a1, o, b1, b2, b3⟩ := body p e s m args below meth c s₁ B hml hP s₁ hh0 (Stand.of_body B)
    exact ⟨t, o, a1, b1, b2, b3⟩
section WLD
variable {D : va_G} {cl : List vw_C} {A : Nat → Prop} {u v w v' w' ws : va_W} {H H1 H0 : Heap} {locs : List Loc}
theorem P_iff : va_P D cl ws H ↔ ∀ q ∈ ws, va_at D cl q H := by
  constructor
  · intro h q hq
    obtain ⟨k, hk⟩ := List.getElem?_of_mem hq
    exact h k q hk
  · intro h k q hk
    exact h q (List.mem_of_getElem? hk)
theorem D_iff : va_D A ws ↔ (ws.map Prod.fst).Nodup ∧ ∀ q ∈ ws, A q.1 := by
  constructor
  · intro h
    refine ⟨?_, fun q hq => ?_⟩
    · rw [List.Nodup, List.pairwise_iff_getElem]
      intro i j hi hj hij he
      rw [List.length_map] at hi hj
      rw [List.getElem_map, List.getElem_map] at he
      have := h.1 i j ws[i] ws[j] (List.getElem?_eq_getElem hi) (List.getElem?_eq_getElem hj) he
      omega
    · obtain ⟨k, hk⟩ := List.getElem?_of_mem hq
      exact h.2 k q hk
  · intro h
    refine ⟨fun i j p q hi hj he => ?_, fun k q hk => h.2 q (List.mem_of_getElem? hk)⟩
    have h1 := h.1
    rw [List.Nodup, List.pairwise_iff_getElem] at h1
    obtain ⟨li, ei⟩ := List.getElem?_eq_some_iff.mp hi
    obtain ⟨lj, ej⟩ := List.getElem?_eq_some_iff.mp hj
    rcases Nat.lt_trichotomy i j with q1 | q1 | q1
    · exact absurd (show (ws.map Prod.fst)[i]'(by rw [List.length_map]; exact li) = (ws.map Prod.fst)[j]'(by rw [List.length_map]; exact lj) by rw [List.getElem_map, List.getElem_map, ei, ej]; exact he) (h1 i j _ _ q1)
    · exact q1
    · exact absurd (show (ws.map Prod.fst)[j]'(by rw [List.length_map]; exact lj) = (ws.map Prod.fst)[i]'(by rw [List.length_map]; exact li) by rw [List.getElem_map, List.getElem_map, ei, ej]; exact he.symm) (h1 j i _ _ q1)
theorem D_l (h : va_D A (v ++ w)) : va_D A v := by
  rw [D_iff] at h ⊢
  rw [List.map_append, List.nodup_append] at h
  exact ⟨h.1.1, fun q hq => h.2 q (List.mem_append_left _ hq)⟩
theorem D_r (h : va_D A (v ++ w)) : va_D A w := by
  rw [D_iff] at h ⊢
  rw [List.map_append, List.nodup_append] at h
  exact ⟨h.1.2.1, fun q hq => h.2 q (List.mem_append_right _ hq)⟩
theorem D_x (h : va_D A (v ++ w)) {x y : Nat × va_E} (hx : x ∈ v) (hy : y ∈ w) : x.1 ≠ y.1 := by
  rw [D_iff, List.map_append, List.nodup_append] at h
  exact h.1.2.2 x.1 (List.mem_map.mpr ⟨x, hx, rfl⟩) y.1 (List.mem_map.mpr ⟨y, hy, rfl⟩)
theorem not_A {x : Nat × va_E} (hx : va_at D cl x H) (hd : ∀ y ∈ v, y.1 ≠ x.1) : ¬ va_A v H.size x.1 := by
  intro h
  rcases h with ⟨k, e, h⟩ | h
  · exact hd (x.1, e) (List.mem_of_getElem? h) rfl
  · have := hx.lt; omega
/-- behind a call that had the middle part -/
theorem J_B (hP : va_P D cl (u ++ (v ++ w)) H) (hD : va_D A (u ++ (v ++ w))) (hk : ∀ q : Nat, q < H.size → ¬ va_A v H.size q → H1[q]? = H[q]?) (hF : ∀ q, va_A v H.size q → A q) (hP9 : va_P D cl v' H1) (hD9 : va_D (va_A v H.size) v') : va_P D cl (u ++ (v' ++ w)) H1 ∧ va_D A (u ++ (v' ++ w)) := by
  rw [P_iff] at hP hP9
  have au : ∀ x ∈ u, ¬ va_A v H.size x.1 := fun x hx => not_A (hP x (List.mem_append_left _ hx)) (fun y hy => (D_x hD hx (List.mem_append_left _ hy)).symm)
  have aw : ∀ x ∈ w, ¬ va_A v H.size x.1 := fun x hx => not_A (hP x (List.mem_append_right _ (List.mem_append_right _ hx))) (fun y hy => D_x (D_r hD) hy hx)
  constructor
  · rw [P_iff]
    intro q hq
    rcases List.mem_append.mp hq with h | h
    · have := hP q (List.mem_append_left _ h); exact this.kept (hk q.1 this.lt (au q h))
    · rcases List.mem_append.mp h with h | h
      · exact hP9 q h
      · have := hP q (List.mem_append_right _ (List.mem_append_right _ h)); exact this.kept (hk q.1 this.lt (aw q h))
  · have d0 := D_iff.mp hD
    have d9 := D_iff.mp hD9
    rw [List.map_append, List.map_append, List.nodup_append, List.nodup_append] at d0
    rw [D_iff, List.map_append, List.map_append, List.nodup_append, List.nodup_append]
    refine ⟨⟨d0.1.1, ⟨d9.1, d0.1.2.1.2.1, fun a ha b hb e => ?_⟩, fun a ha b hb e => ?_⟩, fun q hq => ?_⟩
    · obtain ⟨x, hx, rfl⟩ := List.mem_map.mp ha
      obtain ⟨y, hy, rfl⟩ := List.mem_map.mp hb
      exact aw y hy (e ▸ d9.2 x hx)
    · obtain ⟨x, hx, rfl⟩ := List.mem_map.mp ha
      rcases List.mem_append.mp hb with hb | hb
      · obtain ⟨y, hy, rfl⟩ := List.mem_map.mp hb
        exact au x hx (e ▸ d9.2 y hy)
      · exact d0.1.2.2 x.1 (List.mem_map.mpr ⟨x, hx, rfl⟩) b (List.mem_append_right _ hb) e
    · rcases List.mem_append.mp hq with h | h
      · exact d0.2 q (List.mem_append_left _ h)
      · rcases List.mem_append.mp h with h | h
        · exact hF q.1 (d9.2 q h)
        · exact d0.2 q (List.mem_append_right _ (List.mem_append_right _ h))
/-- behind a call that had the last part -/
theorem J_S (hP : va_P D cl (u ++ (v ++ w)) H) (hD : va_D A (u ++ (v ++ w))) (hk : ∀ q : Nat, q < H.size → ¬ va_A w H.size q → H1[q]? = H[q]?) (hF : ∀ q, va_A w H.size q → A q) (hP9 : va_P D cl w' H1) (hD9 : va_D (va_A w H.size) w') : va_P D cl (u ++ (v ++ w')) H1 ∧ va_D A (u ++ (v ++ w')) := by
  have hP2 : va_P D cl ((u ++ v) ++ (w ++ [])) H := by rw [List.append_nil, List.append_assoc]; exact hP
  have hD2 : va_D A ((u ++ v) ++ (w ++ [])) := by rw [List.append_nil, List.append_assoc]; exact hD
  have := J_B hP2 hD2 hk hF hP9 hD9
  rw [List.append_nil, List.append_assoc] at this
  exact this
/-- a new cell, put in front -/
theorem front {x : Nat × va_E} (hP : va_P D cl (ws ++ [x]) H) (hD : va_D A (ws ++ [x])) : va_P D cl (x :: ws) H ∧ va_D A (x :: ws) := by
  constructor
  · rw [P_iff] at hP ⊢
    intro q hq
    exact hP q (by rcases List.mem_cons.mp hq with h | h <;> simp [h])
  · have d := D_iff.mp hD
    rw [D_iff]
    refine ⟨?_, fun q hq => d.2 q (by rcases List.mem_cons.mp hq with h | h <;> simp [h])⟩
    have hp : (ws.map Prod.fst ++ [x.1]).Perm (x.1 :: ws.map Prod.fst) := List.perm_append_singleton ..
    have := d.1
    rw [List.map_append] at this
    exact (hp.nodup_iff).mp this
theorem cell_cong {cA : ClassId} {N : Nat} {f f' : Nat → Option Nat} (h : ∀ i, i < N → f i = f' i) : vp_cell cA (N, .inr (.inr (.inr (.inr f)))) = vp_cell cA (N, .inr (.inr (.inr (.inr f')))) := by
  rw [vp_cell_q, vp_cell_q]
  unfold arrV
  congr 1
  apply Array.ext
  · simp
  · intro i h1 h2
    simp at h1
    simp [h i h1]
theorem row_cong {cA : ClassId} {N : Nat} {f f' : Nat → Int32} (h : ∀ i, i < N → f i = f' i) : vp_cell cA (N, .inl f) = vp_cell cA (N, .inl f') := by
  rw [vp_cell_i, vp_cell_i]
  unfold arrV
  congr 1
  apply Array.ext
  · simp
  · intro i h1 h2
    simp at h1
    simp [h i h1]
/-- a Sim with one wrestler more: the new array a9, the new row r9 -/
theorem grow {B : va_W} {h al a9 r9 : Nat} {rw : Nat → Nat} {cA cI : ClassId} {n : Nat} {F F' : Nat → Nat → Int32} {ct : Nat → Int32} {f : Nat → Option Nat} {g : Nat → Int32} {e : va_E}
    (hP : va_P D cl (B ++ ([(h, .inr (2, [.int (ct 0), .int (ct 1), .int (ct 2), .ref a9])), (al, e)] ++ rl rw cI n F) ++ [(a9, .inl (cA, n + 1, .inr (.inr (.inr (.inr f))))), (r9, .inl (cI, 7, .inl g))]) H)
    (hD : va_D A (B ++ ([(h, .inr (2, [.int (ct 0), .int (ct 1), .int (ct 2), .ref a9])), (al, e)] ++ rl rw cI n F) ++ [(a9, .inl (cA, n + 1, .inr (.inr (.inr (.inr f))))), (r9, .inl (cI, 7, .inl g))]))
    (hf : ∀ i, i < n + 1 → f i = some (if i = n then r9 else rw i)) (hF : ∀ i k, i < n → F' k i = F k i) (hg : ∀ k, k < 7 → g k = F' (sw k) n) :
    va_P D cl (B ++ wT h a9 (fun i => if i = n then r9 else rw i) cA cI (n + 1) F' ct) H ∧ va_D A (B ++ wT h a9 (fun i => if i = n then r9 else rw i) cA cI (n + 1) F' ct) := by
  have hP' := P_iff.mp hP
  have hD' := D_iff.mp hD
  have er : rl (fun i => if i = n then r9 else rw i) cI (n + 1) F' = rl rw cI n F ++ [(r9, .inl (cI, 7, .inl (fun k => F' (sw k) n)))] := by
    unfold rl
    rw [List.range_succ, List.map_append]
    congr 1
    · apply List.map_congr_left
      intro i hi
      have hi' := List.mem_range.mp hi
      show ((if i = n then r9 else rw i), (.inl (cI, 7, .inl (fun k => F' (sw k) i)) : va_E)) = (rw i, .inl (cI, 7, .inl (fun k => F (sw k) i)))
      rw [if_neg (show ¬ i = n by omega), show (fun k => F' (sw k) i) = (fun k => F (sw k) i) from funext fun k => hF i (sw k) hi']
    · simp
  constructor
  · rw [P_iff]
    intro q hq
    rcases List.mem_append.mp hq with h1 | h1
    · exact hP' q (by simp [h1])
    · rcases List.mem_append.mp h1 with h2 | h2
      · rcases List.mem_cons.mp h2 with h3 | h3
        · rw [h3]; exact hP' _ (by simp)
        · rw [List.mem_singleton.mp h3]
          have := hP' (a9, .inl (cA, n + 1, .inr (.inr (.inr (.inr f))))) (by simp)
          show H[a9]? = some (vp_cell cA (n + 1, .inr (.inr (.inr (.inr (ro (fun i => if i = n then r9 else rw i)))))))
          exact this.trans (congrArg some (cell_cong (fun i hi => hf i hi)))
      · rw [er] at h2
        rcases List.mem_append.mp h2 with h3 | h3
        · exact hP' q (by simp only [List.mem_append]; exact Or.inl (Or.inr (Or.inr h3)))
        · rw [List.mem_singleton.mp h3]
          have := hP' (r9, .inl (cI, 7, .inl g)) (by simp)
          show H[r9]? = some (vp_cell cI (7, .inl (fun k => F' (sw k) n)))
          exact this.trans (congrArg some (row_cong hg))
  · rw [D_iff]
    have e1 : (B ++ wT h a9 (fun i => if i = n then r9 else rw i) cA cI (n + 1) F' ct).map Prod.fst = B.map Prod.fst ++ ([h, a9] ++ ((rl rw cI n F).map Prod.fst ++ [r9])) := by
      show (B ++ ([_, _] ++ rl (fun i => if i = n then r9 else rw i) cI (n + 1) F')).map Prod.fst = _
      rw [er]; simp
    have e2 : (B ++ ([(h, (.inr (2, [.int (ct 0), .int (ct 1), .int (ct 2), .ref a9]) : va_E)), (al, e)] ++ rl rw cI n F) ++ ([(a9, .inl (cA, n + 1, .inr (.inr (.inr (.inr f))))), (r9, .inl (cI, 7, .inl g))] : va_W)).map Prod.fst = B.map Prod.fst ++ ([h, al] ++ ((rl rw cI n F).map Prod.fst ++ [a9, r9])) := by simp
    have hn := hD'.1
    rw [e2] at hn
    constructor
    · rw [e1]
      generalize B.map Prod.fst = b at hn ⊢
      generalize (rl rw cI n F).map Prod.fst = r at hn ⊢
      have hsub : (b ++ ([h] ++ (r ++ [a9, r9]))).Sublist (b ++ ([h, al] ++ (r ++ [a9, r9]))) := List.Sublist.append (List.Sublist.refl _) (List.Sublist.append (List.Sublist.cons_cons h (List.nil_sublist _)) (List.Sublist.refl _))
      have hn2 := List.Nodup.sublist hsub hn
      have hp : (b ++ ([h] ++ (r ++ [a9, r9]))).Perm (b ++ ([h, a9] ++ (r ++ [r9]))) := List.Perm.append_left b (List.Perm.cons h List.perm_middle)
      exact hp.nodup_iff.mp hn2
    · intro q hq
      have hm : q.1 ∈ (B ++ wT h a9 (fun i => if i = n then r9 else rw i) cA cI (n + 1) F' ct).map Prod.fst := List.mem_map.mpr ⟨q, hq, rfl⟩
      rw [e1] at hm
      have hm2 : q.1 ∈ (B ++ ([(h, (.inr (2, [.int (ct 0), .int (ct 1), .int (ct 2), .ref a9]) : va_E)), (al, e)] ++ rl rw cI n F) ++ ([(a9, .inl (cA, n + 1, .inr (.inr (.inr (.inr f))))), (r9, .inl (cI, 7, .inl g))] : va_W)).map Prod.fst := by
        rw [e2]
        simp only [List.mem_append, List.mem_cons, List.not_mem_nil, or_false] at hm ⊢
        grind
      obtain ⟨x, hx, ex⟩ := List.mem_map.mp hm2
      rw [← ex]
      exact hD'.2 x hx
end WLD
/-- both systems in a state each -/
abbrev wW (hb r1 : Nat) (d1 : Nat → Nat) (r2 : Nat) (d2 : Nat → Nat) (rc h : Nat) (cA cI : ClassId) (n : Nat) (F : Nat → Nat → Int32) (ct : Nat → Int32) (n2 : Nat) (G : Nat → Nat → Int32) (ch : Nat → Int32) (al : Nat) (rw : Nat → Nat) : va_W := wB hb r1 d1 r2 d2 rc cI n F n2 G ct ch ++ wT h al rw cA cI n F ct
/-- the law's below: a number below n -/
def bel (x : Int32) (n : Nat) : Nat := (x &&& 2147483647).toNatClampNeg % n
theorem bel_lt (x : Int32) {n : Nat} (h : 0 < n) : bel x n < n := Nat.mod_lt _ h
theorem bel_and (x : Int32) : ∃ j : Nat, j < 2 ^ 31 ∧ x &&& 2147483647 = nI j := pk_andE x 31 (by decide)
theorem bel_rem {x : Int32} {n : Nat} (h0 : 0 < n) (h : n < 2 ^ 31) : (x &&& 2147483647) - (x &&& 2147483647) / nI n * nI n = nI (bel x n) := by
  obtain ⟨j, hj, e⟩ := bel_and x
  unfold bel
  rw [e, pk_rem hj h0 h, nI_clamp hj]
