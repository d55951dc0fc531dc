/-! a call whose throw is caught by a handler 'astore; iconst; ireturn' of the calling method -/
section ERX
variable {p : Program} {l : Launch} {e : Env} {R : Room} {s : State} {m : MethodId} {args : Array Value} {below : List Frame} {meth : Method} {c : Code} {Q : State → Prop} {G : er_G} {A : Nat → Prop} {H0 : Heap} {kc ks nc ns : Nat} {σ σ' : er_S} {pc : Nat} {lv lv' : List (Option Value)} {st : List Value} {cc : ByteArray} {own : String}
theorem er_tab {y : MethodName} {maxL : Nat} {ret : Option FieldType} {hh : List (Nat × Nat × Nat × Nat)} (hw : (Cond.codeWith y cc maxL ret hh).before args s = true) (hnm : s.methodNamed? y = some m) (hm : s.vm.method? m = some meth) (hcd : meth.code = some c) : c.exceptionTable.toList = tableOf hh := by
  obtain ⟨m9, meth', c', hn9, h1, h2, -, -, ht, -⟩ := Cond.codeWith_spec hw
  cases hnm.symm.trans hn9
  cases hm.symm.trans h1
  cases hcd.symm.trans h2
  rw [← ht, table_eq]
/-- the handler's three instructions -/
def er_hnd (cc : ByteArray) (nL hp : Nat) (v : Int32) : Prop := ∃ (n : Int) (i a : Nat), i < nL ∧ Int32.ofInt n = v ∧ (decode cc hp = .ok (.astore i, a) ∧ a = 2 ∨ ∃ k : Fin 4, k.val = i ∧ decode cc hp = .ok (.astore_n k, a) ∧ a = 1) ∧ decode cc (hp + a) = .ok (.iconst n, 1) ∧ decode cc (hp + a + 1) = .ok (.ireturn, 1)
theorem er_hand {hp : Nat} {v : Int32} {H : Heap} {locs : List Loc} {ls : Array Slot} {q : Nat} (C : er_C p s m c cc own G (er_A G s.heap.size) s.heap) (hr : meth.sig.returnType = some .int) (hlocks : meth.locks = false) (h1 : kc ≤ nc) (h2 : ks ≤ ns) (hh : er_hnd cc lv.length hp v) (hP : va_P G.1 er_cl (er_ws G σ) H) (hS : va_S (er_A G s.heap.size) s.heap H locs) (hl : lv_has ls lv.length (er_al G 0 lv)) :
    W p l e R s m args below meth c H locs kc ks (er_fin below G s nc ns (.inl (some (.int v)), σ)) (F0 m hp ls [.ref q]) := by
  obtain ⟨n, i, a, hi, hn, hd, d1, d2⟩ := hh
  have hend : ∀ ls' : Array Slot, W p l e R s m args below meth c H locs kc ks (er_fin below G s nc ns (.inl (some (.int v)), σ)) (F0 m (hp + a) ls' []) := fun ls' =>
    lv_iconst C.1 C.2.1 d1 hn (er_wm (fun t h => er_mq (v := some (.int v)) hS hP h1 h2 t h) (W.iret C.1 C.2.1 hr (fun t ht _ => ⟨rfl, ht⟩) hS.2.2 d2 hlocks))
  rcases hd with ⟨d0, rfl⟩ | ⟨k, rfl, d0, rfl⟩
  · exact lv_astore C.1 C.2.1 d0 hl hi rfl (fun ls' _ => hend ls')
  · exact lv_astore_n C.1 C.2.1 d0 rfl hl hi rfl (fun ls' _ => hend ls')
theorem er_ctch {y : MethodName} {w : Cond} {maxL n fr lo j : Nat} {As : List Value} {H : Heap} {locs : List Loc} {ls : Array Slot} {st0 rest : List Value} {a : Array Value} (C : er_C p s m c cc own G A H0) (hM : er_Con l y w fr lo nc ns G As σ (.inr j, σ')) (hc : er_Cal y w maxL n) (ha : a = (As.map (er_cz G)).toArray) (hE : er_Ent p l e R s m args below meth c kc ks H locs (F0 m pc ls st0) rest y a)
    (hml : c.maxLocals = ls.size) {ig : Instr} (hd : decode cc pc = .ok (ig, 3)) (hR : fr + 1 ≤ R.frames ∧ 8 + (maxL + 11) + lo ≤ R.locals ∧ kc + nc ≤ R.cells ∧ ks + ns ≤ R.slots) (hcat : (rest.map fun v => v.category).sum ≤ 8) (hP : va_P G.1 er_cl (er_ws G σ) H) (hD : va_D A (er_ws G σ)) (hS : va_S A H0 H locs)
    (pre : List ExceptionTableEntry) (x : ExceptionTableEntry) (suf : List ExceptionTableEntry) (hsplit : c.exceptionTable.toList = pre ++ x :: suf) (hj : j < 4)
    (hpass : ∀ z ∈ pre, z.catchType ≠ 0 ∧ ∃ k, k < 4 ∧ j ≠ k ∧ Cond.classLink own z.catchType (er_exc k) ∈ er_tbl) (hx : covers x pc = true) (h0 : x.catchType ≠ 0) (hlink : Cond.classLink own x.catchType (er_exc j) ∈ er_tbl) (hcast : Cond.castable (er_exc j) (er_exc j) ∈ er_tbl)
    (kk : ∀ (H1 : Heap) (locs1 : List Loc) (q : Nat), va_P G.1 er_cl (er_ws G σ') H1 → va_D A (er_ws G σ') → va_S A H0 H1 locs1 → W p l e R s m args below meth c H1 locs1 (kc + nc) (ks + ns) Q (F0 m x.handlerPc ls [.ref q])) : W p l e R s m args below meth c H locs kc ks Q (F0 m pc ls st0) := by
  intro T hT X
  obtain ⟨T1, mk, o, t, hT1, X1, ⟨hou, hP1, ⟨hz, hk⟩, L, hW, hsm, hL⟩, hend, hgo⟩ := er_runs C hM hc ha hE hml hd hR hcat hP hD hS T hT X
  obtain ⟨q, cell, ho, hcell, hvm, hfc⟩ := hou
  subst ho
  obtain ⟨T', X', -, -, ht⟩ := X1.outOfThrown (g := F0 m pc ls rest) rfl hend hW hsm
  have hh : T'.heap = t.heap := by rw [ht, Stand.throwing_heap]
  have hz : H.size ≤ t.heap.size := by rw [← hT1]; exact hz
  have hk : ∀ q : Nat, q < H.size → ¬ er_A G H.size q → t.heap[q]? = H[q]? := fun q h1 h2 => by
    have := hk q (by show q < T1.heap.size; rw [hT1]; exact h1) h2
    rw [this]; show T1.heap[q]? = H[q]?; rw [hT1]
  have hS1 := er_S_join (sz := H.size) hS C.2.2.2.2.2.2.1 hD hz hk hL
  have hfs : s.vm.findClass (er_exc j) = some cell.cls := by
    have h1 : T1.vm.findClass (er_exc j) = some cell.cls := hfc
    rw [← X1.warmed.alike.findClass]
    exact h1
  have K := vx_catch (p := p) (l := l) (e := e) (R := R) (meth := meth) (below := below) (Q := Q) (H := t.heap) (locs := locs ++ L) (cells := kc + nc) (slots := ks + ns) (ls := ls) (rest := rest) (pc := pc) (args := args) C.2.2.1 pre x suf hsplit
    (fun z hz => by
      obtain ⟨h1, k, h2, h3, h4⟩ := hpass z hz
      exact Or.inr ⟨h1, _, C.2.2.2.1.use h4, C.2.2.2.1.2.2 j k hj h2 h3⟩) hx h0 (C.2.2.2.1.use hlink) (C.2.2.2.1.use hcast) hcell hvm hfs
    (kk t.heap (locs ++ L) q hP1 (er_D_ad hD (fun k hk => er_D_of hD hk) σ') hS1)
  obtain ⟨t2, a1, b1⟩ := K T' hh X'
  refine ⟨t2, hgo t2 ?_, b1⟩
  rw [ht]
  exact a1
/-- invokevirtual on the cell k, which throws; caught here -/
theorem ej_cv_c {y : MethodName} {w : Cond} {maxL n fr lo idx k ci j NC NS : Nat} {fs : List (Option Nat)} {q : vw_C} {v : Int32} (C : er_C p s m c cc own G (er_A G s.heap.size) s.heap) (As rest : List Value) (hM : er_Con l y w fr lo nc ns G (.ref k :: As) σ (.inr j, σ')) (hc : er_Cal y w maxL n) (hl : Cond.methodLink own idx y ∈ er_tbl ∨ ∃ host, Cond.methodLinkNest own idx y host ∈ er_tbl) (hin : Cond.instanceMethod y ∈ er_tbl) (hk : k ∈ er_ks G) (hy : er_lay k = .inl (ci, fs)) (hq : er_cl[ci]? = some q) (hse : Cond.selects q.1 y y ∈ er_tbl) (hn : As.length = n) (hml : c.maxLocals = lv.length) (hd : decode cc pc = .ok (.invokevirtual idx, 3)) (hR : fr + 1 ≤ R.frames ∧ 8 + (maxL + 11) + lo ≤ R.locals ∧ kc + nc ≤ R.cells ∧ ks + ns ≤ R.slots) (hcat : (rest.map fun v => v.category).sum ≤ 8) (hs : st = As.reverse ++ .ref k :: rest)
    (hr : meth.sig.returnType = some .int) (hlocks : meth.locks = false) (hN : kc + nc ≤ NC ∧ ks + ns ≤ NS) (hj : j < 4) (hh pre' suf' : List (Nat × Nat × Nat × Nat)) (x' : Nat × Nat × Nat × Nat) (htab : c.exceptionTable.toList = tableOf hh) (hsp : hh = pre' ++ x' :: suf')
    (hpass : ∀ z ∈ pre', z.2.2.2 ≠ 0 ∧ ∃ k, k < 4 ∧ j ≠ k ∧ Cond.classLink own z.2.2.2 (er_exc k) ∈ er_tbl) (hx : covers ⟨x'.1, x'.2.1, x'.2.2.1, x'.2.2.2⟩ pc = true) (h0 : x'.2.2.2 ≠ 0) (hlink : Cond.classLink own x'.2.2.2 (er_exc j) ∈ er_tbl) (hcast : Cond.castable (er_exc j) (er_exc j) ∈ er_tbl) (hnd : er_hnd cc lv.length x'.2.2.1 v) :
    er_J p l e R s m args below meth c G (er_A G s.heap.size) s.heap (er_fin below G s NC NS (.inl (some (.int v)), σ')) kc ks σ pc lv st := by
  intro H locs ls hP hD hS hl'
  rw [er_mapst G hs]
  refine er_ctch C hM hc rfl (er_siteV C hc hl hin hse (er_recv C hk hy hq hP) (As := As.map (er_cz G)) (rest := rest.map (er_cz G)) (by rw [List.length_map]; exact hn) hd) (hml.trans hl'.1.symm) hd hR (by rw [er_cats]; exact hcat) hP hD hS
    (tableOf pre') ⟨x'.1, x'.2.1, x'.2.2.1, x'.2.2.2⟩ (tableOf suf') (by rw [htab, hsp]; simp [tableOf]) hj (fun z hz => ?_) hx h0 hlink hcast (fun H1 locs1 q hP1 hD1 hS1 => er_hand C hr hlocks hN.1 hN.2 hnd hP1 hS1 hl')
  obtain ⟨z', hz', rfl⟩ := List.mem_map.mp hz
  exact hpass z' hz'
end ERX
/-- what the walk of a method with the handlers hh stands on -/
def er_BH (p : Program) (s : State) (m : MethodId) (c : Code) (meth : Method) (cc : ByteArray) (own : String) (G : er_G) (ret : Option FieldType) (maxL lo hi : Nat) (hh : List (Nat × Nat × Nat × Nat)) : Prop :=
  er_C p s m c cc own G (er_A G s.heap.size) s.heap ∧ meth.sig.returnType = ret ∧ meth.locks = false ∧ c.maxLocals = maxL ∧ er_Pr G lo hi ∧ c.exceptionTable.toList = tableOf hh
theorem er_atH {p : Program} {s : State} {m : MethodId} {c : Code} {meth : Method} {cc : ByteArray} {own : String} {G : er_G} {ret : Option FieldType} {maxL lo hi : Nat} {hh : List (Nat × Nat × Nat × Nat)} (B : er_BH p s m c meth cc own G ret maxL lo hi hh) (k : Nat) (h1 : Nat.ble lo k = true) (h2 : Nat.blt k hi = true) : k ∈ er_ks G := B.2.2.2.2.1 k h1 h2
theorem er_prH {p : Program} {s : State} {m : MethodId} {c : Code} {meth : Method} {cc : ByteArray} {own : String} {G : er_G} {ret : Option FieldType} {maxL lo hi : Nat} {hh : List (Nat × Nat × Nat × Nat)} (B : er_BH p s m c meth cc own G ret maxL lo hi hh) : er_Pr G lo hi := B.2.2.2.2.1
theorem lc_L_13 : Cond.classLink "EntryRowsLaw" 13 (er_exc 1) ∈ er_tbl := er_mt (i := 136) (by decide +kernel) rfl
theorem lc_L_15 : Cond.classLink "EntryRowsLaw" 15 (er_exc 3) ∈ er_tbl := er_mt (i := 137) (by decide +kernel) rfl
theorem lc_L_21 : Cond.classLink "EntryRowsLaw" 21 (er_exc 0) ∈ er_tbl := er_mt (i := 241) (by decide +kernel) rfl
theorem lc_L_23 : Cond.classLink "EntryRowsLaw" 23 (er_exc 2) ∈ er_tbl := er_mt (i := 242) (by decide +kernel) rfl
theorem ct_0 : Cond.castable (er_exc 0) (er_exc 0) ∈ er_tbl := er_mt (i := 260) (by decide +kernel) rfl
theorem ct_1 : Cond.castable (er_exc 1) (er_exc 1) ∈ er_tbl := er_mt (i := 147) (by decide +kernel) rfl
theorem ct_2 : Cond.castable (er_exc 2) (er_exc 2) ∈ er_tbl := er_mt (i := 289) (by decide +kernel) rfl
theorem ct_3 : Cond.castable (er_exc 3) (er_exc 3) ∈ er_tbl := er_mt (i := 220) (by decide +kernel) rfl
