section ERD
variable {p : Program} {l : Launch} {e : Env} {R : Room} {s : State} {m : MethodId} {args : Array Value} {below : List Frame} {meth : Method} {c : Code} {Q : State → Prop} {G : er_G} {A : Nat → Prop} {H0 : Heap} {kc ks nc ns : Nat} {σ σ' : er_S} {pc : Nat} {lv lv' : List (Option Value)} {st : List Value} {cc : ByteArray} {own : String}
theorem er_cats (G : er_G) (rest : List Value) : ((rest.map (er_cz G)).map fun v => v.category).sum = (rest.map fun v => v.category).sum := by
  induction rest with
  | nil => rfl
  | cons a r ih =>
    simp only [List.map_cons, List.sum_cons]
    rw [ih]
    congr 1
    cases a <;> rfl
theorem er_mapst (G : er_G) {As rest : List Value} (hs : st = As.reverse ++ rest) : st.map (er_cz G) = (As.map (er_cz G)).reverse ++ rest.map (er_cz G) := by
  subst hs
  rw [List.map_append, List.map_reverse]
/-- invokestatic, an int comes back -/
theorem ej_cs_i {y : MethodName} {w : Cond} {maxL n fr lo idx : Nat} {v : Int32} (C : er_C p s m c cc own G A H0) (As rest : List Value) (hM : er_Con l y w fr lo nc ns G As σ (.inl (some (.int v)), σ')) (hc : er_Cal y w maxL n) (hl : Cond.methodLink own idx y ∈ er_tbl) (hst : Cond.static y ∈ er_tbl) (hn : As.length = n) (hml : c.maxLocals = lv.length) (hd : decode cc pc = .ok (.invokestatic idx, 3)) (hR : fr + 1 ≤ R.frames ∧ 8 + (maxL + 11) + lo ≤ R.locals ∧ kc + nc ≤ R.cells ∧ ks + ns ≤ R.slots) (hcat : (rest.map fun v => v.category).sum ≤ 8) (hs : st = As.reverse ++ rest)
    (kk : er_J p l e R s m args below meth c G A H0 Q (kc + nc) (ks + ns) σ' (pc + 3) lv (.int v :: rest)) : er_J p l e R s m args below meth c G A H0 Q kc ks σ pc lv st := by
  intro H locs ls hP hD hS hl'
  rw [er_mapst G hs]
  exact er_back C hM hc rfl (er_siteS C hc hl hst (As := As.map (er_cz G)) (rest := rest.map (er_cz G)) (by rw [List.length_map]; exact hn) hd) (hml.trans hl'.1.symm) hd hR (by rw [er_cats]; exact hcat) hP hD hS (fun H1 locs1 hP1 hD1 hS1 => kk H1 locs1 ls hP1 hD1 hS1 hl')
/-- invokestatic, void -/
theorem ej_cs_v {y : MethodName} {w : Cond} {maxL n fr lo idx : Nat} (C : er_C p s m c cc own G A H0) (As rest : List Value) (hM : er_Con l y w fr lo nc ns G As σ (.inl none, σ')) (hc : er_Cal y w maxL n) (hl : Cond.methodLink own idx y ∈ er_tbl) (hst : Cond.static y ∈ er_tbl) (hn : As.length = n) (hml : c.maxLocals = lv.length) (hd : decode cc pc = .ok (.invokestatic idx, 3)) (hR : fr + 1 ≤ R.frames ∧ 8 + (maxL + 11) + lo ≤ R.locals ∧ kc + nc ≤ R.cells ∧ ks + ns ≤ R.slots) (hcat : (rest.map fun v => v.category).sum ≤ 8) (hs : st = As.reverse ++ rest)
    (kk : er_J p l e R s m args below meth c G A H0 Q (kc + nc) (ks + ns) σ' (pc + 3) lv rest) : er_J p l e R s m args below meth c G A H0 Q kc ks σ pc lv st := by
  intro H locs ls hP hD hS hl'
  rw [er_mapst G hs]
  exact er_back C hM hc rfl (er_siteS C hc hl hst (As := As.map (er_cz G)) (rest := rest.map (er_cz G)) (by rw [List.length_map]; exact hn) hd) (hml.trans hl'.1.symm) hd hR (by rw [er_cats]; exact hcat) hP hD hS (fun H1 locs1 hP1 hD1 hS1 => kk H1 locs1 ls hP1 hD1 hS1 hl')
theorem er_recv (C : er_C p s m c cc own G A H0) {H : Heap} {k ci : Nat} {fs : List (Option Nat)} {q : vw_C} (hk : k ∈ er_ks G) (hy : er_lay k = .inl (ci, fs)) (hq : er_cl[ci]? = some q) (hP : va_P G.1 er_cl (er_ws G σ) H) : ∃ cellB : Cell, H[er_ad G k]? = some cellB ∧ cellB.vm.isStatics = false ∧ s.vm.findClass q.1 = some cellB.cls := by
  obtain ⟨q0, -, hw⟩ := er_obj (G := G) hk hy
  exact va_recv C.2.2.2.2.1 hP hq (hw σ)
/-- invokevirtual on the cell k, an int comes back -/
theorem ej_cv_i {y : MethodName} {w : Cond} {maxL n fr lo idx k ci : Nat} {fs : List (Option Nat)} {q : vw_C} {v : Int32} (C : er_C p s m c cc own G A H0) (As rest : List Value) (hM : er_Con l y w fr lo nc ns G (.ref k :: As) σ (.inl (some (.int v)), σ')) (hc : er_Cal y w maxL n) (hl : Cond.methodLink own idx y ∈ er_tbl ∨ ∃ host, Cond.methodLinkNest own idx y host ∈ er_tbl) (hin : Cond.instanceMethod y ∈ er_tbl) (hk : k ∈ er_ks G) (hy : er_lay k = .inl (ci, fs)) (hq : er_cl[ci]? = some q) (hse : Cond.selects q.1 y y ∈ er_tbl) (hn : As.length = n) (hml : c.maxLocals = lv.length) (hd : decode cc pc = .ok (.invokevirtual idx, 3)) (hR : fr + 1 ≤ R.frames ∧ 8 + (maxL + 11) + lo ≤ R.locals ∧ kc + nc ≤ R.cells ∧ ks + ns ≤ R.slots) (hcat : (rest.map fun v => v.category).sum ≤ 8) (hs : st = As.reverse ++ .ref k :: rest)
    (kk : er_J p l e R s m args below meth c G A H0 Q (kc + nc) (ks + ns) σ' (pc + 3) lv (.int v :: rest)) : er_J p l e R s m args below meth c G A H0 Q kc ks σ pc lv st := by
  intro H locs ls hP hD hS hl'
  rw [er_mapst G hs]
  exact er_back C hM hc rfl (er_siteV C hc hl hin hse (er_recv C hk hy hq hP) (As := As.map (er_cz G)) (rest := rest.map (er_cz G)) (by rw [List.length_map]; exact hn) hd) (hml.trans hl'.1.symm) hd hR (by rw [er_cats]; exact hcat) hP hD hS (fun H1 locs1 hP1 hD1 hS1 => kk H1 locs1 ls hP1 hD1 hS1 hl')
/-- invokevirtual on the cell k, void -/
theorem ej_cv_v {y : MethodName} {w : Cond} {maxL n fr lo idx k ci : Nat} {fs : List (Option Nat)} {q : vw_C} (C : er_C p s m c cc own G A H0) (As rest : List Value) (hM : er_Con l y w fr lo nc ns G (.ref k :: As) σ (.inl none, σ')) (hc : er_Cal y w maxL n) (hl : Cond.methodLink own idx y ∈ er_tbl ∨ ∃ host, Cond.methodLinkNest own idx y host ∈ er_tbl) (hin : Cond.instanceMethod y ∈ er_tbl) (hk : k ∈ er_ks G) (hy : er_lay k = .inl (ci, fs)) (hq : er_cl[ci]? = some q) (hse : Cond.selects q.1 y y ∈ er_tbl) (hn : As.length = n) (hml : c.maxLocals = lv.length) (hd : decode cc pc = .ok (.invokevirtual idx, 3)) (hR : fr + 1 ≤ R.frames ∧ 8 + (maxL + 11) + lo ≤ R.locals ∧ kc + nc ≤ R.cells ∧ ks + ns ≤ R.slots) (hcat : (rest.map fun v => v.category).sum ≤ 8) (hs : st = As.reverse ++ .ref k :: rest)
    (kk : er_J p l e R s m args below meth c G A H0 Q (kc + nc) (ks + ns) σ' (pc + 3) lv rest) : er_J p l e R s m args below meth c G A H0 Q kc ks σ pc lv st := by
  intro H locs ls hP hD hS hl'
  rw [er_mapst G hs]
  exact er_back C hM hc rfl (er_siteV C hc hl hin hse (er_recv C hk hy hq hP) (As := As.map (er_cz G)) (rest := rest.map (er_cz G)) (by rw [List.length_map]; exact hn) hd) (hml.trans hl'.1.symm) hd hR (by rw [er_cats]; exact hcat) hP hD hS (fun H1 locs1 hP1 hD1 hS1 => kk H1 locs1 ls hP1 hD1 hS1 hl')
/-- a callee throws, and no handler of this method covers the call: this method throws it -/
theorem er_pass {y : MethodName} {w : Cond} {maxL n fr lo j NC NS : Nat} {As : List Value} {H : Heap} {locs : List Loc} {ls : Array Slot} {st0 rest : List Value} {a : Array Value} (C : er_C p s m c cc own G (er_A G s.heap.size) s.heap) (hM : er_Con l y w fr lo nc ns G As σ (.inr j, σ')) (hc : er_Cal y w maxL n) (ha : a = (As.map (er_cz G)).toArray) (hE : er_Ent p l e R s m args below meth c kc ks H locs (F0 m pc ls st0) rest y a)
    (hml : c.maxLocals = ls.size) {ig : Instr} (hd : decode cc pc = .ok (ig, 3)) (hR : fr + 1 ≤ R.frames ∧ 8 + (maxL + 11) + lo ≤ R.locals ∧ kc + nc ≤ R.cells ∧ ks + ns ≤ R.slots) (hcat : (rest.map fun v => v.category).sum ≤ 8) (hlocks : meth.locks = false) (hout : ∀ x ∈ c.exceptionTable.toList, covers x pc = false) (hN : kc + nc ≤ NC ∧ ks + ns ≤ NS) (hP : va_P G.1 er_cl (er_ws G σ) H) (hD : va_D (er_A G s.heap.size) (er_ws G σ)) (hS : va_S (er_A G s.heap.size) s.heap H locs) :
    W p l e R s m args below meth c H locs kc ks (er_fin below G s NC NS (.inr j, σ')) (F0 m pc ls st0) := by
  intro T hT X
  obtain ⟨T1, mk, o, t, hT1, X1, ⟨hou, hP1, ⟨hz, hk⟩, L, hW, hsm, hL⟩, hend, hgo⟩ := er_runs C hM hc ha hE hml hd hR hcat hP hD hS T hT X
  obtain ⟨x, cell, ho, hcell, hvm, hfc⟩ := hou
  subst ho
  obtain ⟨T', X', -, -, ht⟩ := X1.outOfThrown (g := F0 m pc ls rest) rfl hend hW hsm
  have hh : T'.heap = t.heap := by rw [ht, Stand.throwing_heap]
  have hz : H.size ≤ t.heap.size := by rw [← hT1]; exact hz
  have hk : ∀ q : Nat, q < H.size → ¬ er_A G H.size q → t.heap[q]? = H[q]? := fun q h1 h2 => by
    have := hk q (by show q < T1.heap.size; rw [hT1]; exact h1) h2
    rw [this]; show T1.heap[q]? = H[q]?; rw [hT1]
  have hS1 := er_S_join (sz := H.size) hS C.2.2.2.2.2.2.1 hD hz hk hL
  obtain ⟨g1, g2, g3, g4, g5⟩ := X'.leaveThrown x (g := F0 m pc ls rest) rfl rfl rfl hout hlocks
  refine ⟨T'.setFrames (.throwing x :: below), hgo _ ?_, .threw x, g2, g3, ⟨x, cell, rfl, ?_, hvm, ?_⟩, ?_, ?_, locs ++ L, g4, g5.mono hN.1 hN.2, hS1.2.2⟩
  · rw [ht]; exact g1
  · show T'.heap[x]? = some cell
    rw [hh]; exact hcell
  · have h1 : T1.vm.findClass (er_exc j) = some cell.cls := hfc
    rw [← X1.warmed.alike.findClass]
    exact h1
  · show va_P G.1 er_cl (er_ws G σ') T'.heap
    rw [hh]; exact hP1
  · refine va_S.F (H := t.heap) hS1 ?_
    show T'.heap = t.heap
    exact hh
theorem ej_cs_t {y : MethodName} {w : Cond} {maxL n fr lo idx j NC NS : Nat} (C : er_C p s m c cc own G (er_A G s.heap.size) s.heap) (As rest : List Value) (hM : er_Con l y w fr lo nc ns G As σ (.inr j, σ')) (hc : er_Cal y w maxL n) (hl : Cond.methodLink own idx y ∈ er_tbl) (hst : Cond.static y ∈ er_tbl) (hn : As.length = n) (hml : c.maxLocals = lv.length) (hd : decode cc pc = .ok (.invokestatic idx, 3)) (hR : fr + 1 ≤ R.frames ∧ 8 + (maxL + 11) + lo ≤ R.locals ∧ kc + nc ≤ R.cells ∧ ks + ns ≤ R.slots) (hcat : (rest.map fun v => v.category).sum ≤ 8) (hs : st = As.reverse ++ rest) (hlocks : meth.locks = false) (hout : ∀ x ∈ c.exceptionTable.toList, covers x pc = false) (hN : kc + nc ≤ NC ∧ ks + ns ≤ NS) :
    er_J p l e R s m args below meth c G (er_A G s.heap.size) s.heap (er_fin below G s NC NS (.inr j, σ')) kc ks σ pc lv st := by
  intro H locs ls hP hD hS hl'
  rw [er_mapst G hs]
  exact er_pass C hM hc rfl (er_siteS C hc hl hst (As := As.map (er_cz G)) (rest := rest.map (er_cz G)) (by rw [List.length_map]; exact hn) hd) (hml.trans hl'.1.symm) hd hR (by rw [er_cats]; exact hcat) hlocks hout hN hP hD hS
theorem ej_cv_t {y : MethodName} {w : Cond} {maxL n fr lo idx k ci j NC NS : Nat} {fs : List (Option Nat)} {q : vw_C} (C : er_C p s m c cc own G (er_A G s.heap.size) s.heap) (As rest : List Value) (hM : er_Con l y w fr lo nc ns G (.ref k :: As) σ (.inr j, σ')) (hc : er_Cal y w maxL n) (hl : Cond.methodLink own idx y ∈ er_tbl ∨ ∃ host, Cond.methodLinkNest own idx y host ∈ er_tbl) (hin : Cond.instanceMethod y ∈ er_tbl) (hk : k ∈ er_ks G) (hy : er_lay k = .inl (ci, fs)) (hq : er_cl[ci]? = some q) (hse : Cond.selects q.1 y y ∈ er_tbl) (hn : As.length = n) (hml : c.maxLocals = lv.length) (hd : decode cc pc = .ok (.invokevirtual idx, 3)) (hR : fr + 1 ≤ R.frames ∧ 8 + (maxL + 11) + lo ≤ R.locals ∧ kc + nc ≤ R.cells ∧ ks + ns ≤ R.slots) (hcat : (rest.map fun v => v.category).sum ≤ 8) (hs : st = As.reverse ++ .ref k :: rest) (hlocks : meth.locks = false) (hout : ∀ x ∈ c.exceptionTable.toList, covers x pc = false) (hN : kc + nc ≤ NC ∧ ks + ns ≤ NS) :
    er_J p l e R s m args below meth c G (er_A G s.heap.size) s.heap (er_fin below G s NC NS (.inr j, σ')) kc ks σ pc lv st := by
  intro H locs ls hP hD hS hl'
  rw [er_mapst G hs]
  exact er_pass C hM hc rfl (er_siteV C hc hl hin hse (er_recv C hk hy hq hP) (As := As.map (er_cz G)) (rest := rest.map (er_cz G)) (by rw [List.length_map]; exact hn) hd) (hml.trans hl'.1.symm) hd hR (by rw [er_cats]; exact hcat) hlocks hout hN hP hD hS
end ERD
/-- the cells lo .. hi-1 are there -/
def er_Pr (G : er_G) (lo hi : Nat) : Prop := ∀ k, Nat.ble lo k = true → Nat.blt k hi = true → k ∈ er_ks G
theorem er_none (G : er_G) : er_Pr G 0 0 := fun k _ h => by
  have h : k < 0 := Nat.le_of_ble_eq_true h
  omega
theorem er_sub {G : er_G} {lo hi lo' hi' : Nat} (h1 : Nat.ble lo lo' = true) (h2 : Nat.ble hi' hi = true) (h : er_Pr G lo hi) : er_Pr G lo' hi' := fun k a b => h k (Nat.ble_eq_true_of_le (Nat.le_trans (Nat.le_of_ble_eq_true h1) (Nat.le_of_ble_eq_true a))) (Nat.ble_eq_true_of_le (Nat.le_trans (Nat.le_of_ble_eq_true b) (Nat.le_of_ble_eq_true h2)))
/-- what the walk of a method without handlers stands on -/
def er_B (p : Program) (s : State) (m : MethodId) (c : Code) (meth : Method) (cc : ByteArray) (own : String) (G : er_G) (ret : Option FieldType) (maxL lo hi : Nat) : Prop :=
  er_C p s m c cc own G (er_A G s.heap.size) s.heap ∧ meth.sig.returnType = ret ∧ meth.locks = false ∧ c.maxLocals = maxL ∧ er_Pr G lo hi ∧ ∀ pc, ∀ x ∈ c.exceptionTable.toList, covers x pc = false
theorem er_at {p : Program} {s : State} {m : MethodId} {c : Code} {meth : Method} {cc : ByteArray} {own : String} {G : er_G} {ret : Option FieldType} {maxL lo hi : Nat} (B : er_B p s m c meth cc own G ret maxL lo hi) (k : Nat) (h1 : Nat.ble lo k = true) (h2 : Nat.blt k hi = true) : k ∈ er_ks G := B.2.2.2.2.1 k h1 h2
theorem er_pr {p : Program} {s : State} {m : MethodId} {c : Code} {meth : Method} {cc : ByteArray} {own : String} {G : er_G} {ret : Option FieldType} {maxL lo hi : Nat} (B : er_B p s m c meth cc own G ret maxL lo hi) : er_Pr G lo hi := B.2.2.2.2.1
theorem er_noh {y : MethodName} {cc : ByteArray} {maxL : Nat} {ret : Option FieldType} {args : Array Value} {s : State} {m : MethodId} {meth : Method} {c : Code} (hw : (Cond.code y cc maxL ret).before args s = true) (hnm : s.methodNamed? y = some m) (hm : s.vm.method? m = some meth) (hcd : meth.code = some c) : ∀ pc, ∀ x ∈ c.exceptionTable.toList, covers x pc = false := by
  obtain ⟨meth', c', h1, h2, -, -, -, -, he, -⟩ := Cond.code_spec hnm hw
  cases hm.symm.trans h1
  cases hcd.symm.trans h2
  exact fun pc => covers_of_empty he pc
def er_nc {α : Type} : α ⊕ Nat → Nat
  | .inl _ => 0
  | .inr _ => 1
def er_ns {α : Type} : α ⊕ Nat → Nat
  | .inl _ => 0
  | .inr _ => 6
def er_cvi (r : (Int32 ⊕ Nat) × er_S) : er_R := match r.1 with
  | .inl v => (.inl (some (.int v)), r.2)
  | .inr k => (.inr k, r.2)
def er_cvu (r : (Unit ⊕ Nat) × er_S) : er_R := match r.1 with
  | .inl _ => (.inl none, r.2)
  | .inr k => (.inr k, r.2)
