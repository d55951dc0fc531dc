/-! 'throw new E("text")' in a method without a handler for it -/
theorem er_go_P {D : va_G} {cl : List vw_C} {ws : va_W} {H H1 : Heap} (h : va_P D cl ws H) (hq : ∀ q : Nat, q < H.size → H1[q]? = H[q]?) : va_P D cl ws H1 := fun k q hk => (h k q hk).kept (hq q.1 (h k q hk).lt)
theorem ej_throw {p : Program} {l : Launch} {e : Env} {R : Room} {s : State} {m : MethodId} {args : Array Value} {below : List Frame} {meth : Method} {c : Code} {G : er_G} {σ : er_S} {pc : Nat} {lv : List (Option Value)} {st : List Value} {cc : ByteArray} {own : String} (C : er_C p s m c cc own G (er_A G s.heap.size) s.heap) (hl : l.stackTraces = false) (j : Nat) {text : String} {names : List String} {ik is ic : Nat}
    (hcls : Bundle.fit (er_exc j) = true) (hnames : ∀ n ∈ names, Bundle.fit n = true) (hk : Cond.classLink own ik (er_exc j) ∈ er_tbl) (hini : Cond.initialized (er_exc j) ∈ er_tbl) (hstr : (own, is, text) ∈ er_strs) (hat : ∀ w ∈ vx_atS own ic (er_exc j) names, w ∈ er_tbl)
    (hml : c.maxLocals = lv.length) (d0 : decode cc pc = .ok (.new ik, 3)) (d3 : decode cc (pc + 3) = .ok (.dup, 1)) (d4 : decode cc (pc + 4) = .ok (.ldc is, 2)) (d6 : decode cc (pc + 6) = .ok (.invokespecial ic, 3)) (d9 : decode cc (pc + 9) = .ok (.athrow, 1))
    (hout : ∀ x ∈ c.exceptionTable.toList, covers x (pc + 9) = false) (hRframes : names.length + 3 < R.frames) (hRlocals : (st.map fun v => v.category).sum + (13 * (names.length + 1) + 43) ≤ R.locals) (hRcells : 1 ≤ R.cells) (hRslots : 6 ≤ R.slots) (hlocks : meth.locks = false) :
    er_J p l e R s m args below meth c G (er_A G s.heap.size) s.heap (er_fin below G s 1 6 (.inr j, σ)) 0 0 σ pc lv st := by
  intro H locs ls hP hD hS hl'
  obtain ⟨sa, hsa⟩ := C.2.2.2.1.2.1 _ hstr
  have hok : ∀ w ∈ er_tbl, vx_ot w = true := fun w hw => by
    have ho : er_ok w = true := (List.mem_filter.mp hw).2
    unfold er_ok at ho
    rw [Bool.and_eq_true] at ho
    unfold vx_ot
    rw [ho.1]; rfl
  have K := vx_throwS (Qc := fun _ _ _ _ => False) (XC := fun E st t => E = er_exc j ∧ H.size ≤ t.heap.size ∧ ∀ q : Nat, q < H.size → t.heap[q]? = H[q]?) (free := er_A G s.heap.size) (below := below) (args := args) (p := p) (e := e) (R := R) (locs := locs) (cells := 0) (slots := 0) (rest := st.map (er_cz G)) (mc := 1) (ms := 6)
    C.1 C.2.1 hl C.2.2.1 hcls hnames (C.2.2.2.1.use hk) (C.2.2.2.1.use hini) hsa (fun w hw => C.2.2.2.1.use (hat w hw))
    (fun w hw => by
      rcases List.mem_cons.mp hw with rfl | hw
      · exact hok _ hk
      · rcases List.mem_cons.mp hw with rfl | hw
        · exact hok _ hini
        · exact hok _ (hat w hw))
    C.2.2.2.2.2.2.2.1 C.2.2.2.2.2.2.2.2 hS (hl'.1.trans hml.symm) d0 d3 d4 d6 d9 hout hRframes (by rw [er_cats]; exact hRlocals) (by omega) (by omega) hlocks (fun t _ h1 h2 => ⟨rfl, h1, h2⟩) hS.2.2 (Nat.le_refl 1) (Nat.le_refl 6)
  refine er_wm (fun t h => ?_) K
  obtain ⟨o, a1, a2, h | ⟨q, rfl, E, ce, L, ⟨rfl, x1, x2⟩, x3, x4, x5, x6, x7, x8⟩⟩ := h
  · exact h.1.elim
  · refine ⟨.threw q, a1, a2, ⟨q, ce, rfl, x3, x4, x5⟩, er_go_P hP x2, ⟨Nat.le_trans hS.1 x1, fun z h1 h2 => ?_⟩, L, x6, x7, x8⟩
    rw [x2 z (Nat.lt_of_lt_of_le h1 hS.1)]
    exact hS.2.1 z h1 h2
