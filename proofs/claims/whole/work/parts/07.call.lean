/-! contracts of methods that return or throw; calls -/
abbrev er_R : Type := (Option Value ⊕ Nat) × er_S
/-- which cells a method may change: the world's, and new ones -/
def er_A (G : er_G) (sz : Nat) : Nat → Prop := fun q => (∃ k, k ∈ er_ks G ∧ q = er_ad G k) ∨ sz ≤ q
def er_out (r : Option Value ⊕ Nat) (st : State) (o : Outcome) (t : State) : Prop := match r with
  | .inl v => o = .returned v
  | .inr k => ∃ (a : Addr) (cell : Cell), o = .threw a ∧ t.heap[a]? = some cell ∧ cell.vm = .none ∧ st.vm.findClass (er_exc k) = some cell.cls
def er_FE (A : Nat → Prop) (st t : State) (nc ns : Nat) : Prop := ∃ L : List Loc, st.WarmedH t.vm ∧ st.sameButNew ({ t with vm := st.vm } : State) L nc ns ∧ ∀ q ∈ L, A q.base
def er_Qc (G : er_G) (sz nc ns : Nat) (r : er_R) : Array Value → State → Outcome → State → Prop := fun _ st o t =>
  er_out r.1 st o t ∧ va_P G.1 er_cl (er_ws G r.2) t.heap ∧ va_F (er_A G sz) st t ∧ er_FE (er_A G sz) st t nc ns
def er_Pc (G : er_G) (sz : Nat) (As : List Value) (σ : er_S) : Array Value → State → Prop := fun v U =>
  v = (As.map (er_cz G)).toArray ∧ U.heap.size = sz ∧ va_P G.1 er_cl (er_ws G σ) U.heap ∧ va_D (fun _ => True) (er_ws G σ) ∧ va_K G.1 er_cl (er_tys G) U ∧ er_T U ∧ (er_ks G).Nodup ∧ er_Z (er_A G sz) U U.heap
/-- THE CONTRACT: called with As in σ, y ends as r says; its room: fr frames, lo words, nc cells of ns slots -/
def er_Con (l : Launch) (y : MethodName) (w : Cond) (fr lo nc ns : Nat) (G : er_G) (As : List Value) (σ : er_S) (r : er_R) : Prop :=
  ∀ sz : Nat, MetFree l y (headSpec [w] { frames := fr, cells := nc, slots := ns, locals := lo }) (er_Pc G sz As σ) (fun _ _ _ _ _ => True) (er_Qc G sz nc ns r)
def er_fin (below : List Frame) (G : er_G) (s : State) (nc ns : Nat) (r : er_R) : State → Prop := fun t => ∃ o, t.status = .running ∧ Ended t below o ∧ er_Qc G s.heap.size nc ns r #[] s o t
theorem er_D_ad {G : er_G} {σ : er_S} {A B : Nat → Prop} (h : va_D A (er_ws G σ)) (hB : ∀ k, k ∈ er_ks G → B (er_ad G k)) (σ' : er_S) : va_D B (er_ws G σ') := by
  have key : ∀ (τ : er_S) (i : Nat) (q : Nat × va_E), (er_ws G τ)[i]? = some q → ∃ k, (er_ks G)[i]? = some k ∧ q.1 = er_ad G k := by
    intro τ i q hq
    simp only [er_ws, List.getElem?_map] at hq
    cases hz : (er_ks G)[i]? with
    | none => rw [hz] at hq; cases hq
    | some k => rw [hz] at hq; cases hq; exact ⟨k, rfl, rfl⟩
  refine ⟨fun i j x y hx hy e => ?_, fun i q hq => ?_⟩
  · obtain ⟨k1, a1, b1⟩ := key σ' i x hx
    obtain ⟨k2, a2, b2⟩ := key σ' j y hy
    refine h.1 i j (er_ad G k1, er_ent G σ k1) (er_ad G k2, er_ent G σ k2) (by simp [er_ws, a1]) (by simp [er_ws, a2]) ?_
    rw [← b1, ← b2]
    exact e
  · obtain ⟨k, a1, b1⟩ := key σ' i q hq
    rw [b1]
    exact hB k (List.mem_of_getElem? a1)
theorem er_D_of {G : er_G} {σ : er_S} {A : Nat → Prop} (h : va_D A (er_ws G σ)) {k : Nat} (hk : k ∈ er_ks G) : A (er_ad G k) := by
  obtain ⟨q0, -, hw⟩ := er_ws_at hk
  exact h.2 q0 _ (hw σ)
/-- the locals with which a method begins -/
def er_lv0 (As : List Value) (n : Nat) : List (Option Value) := As.map some ++ List.replicate (n - As.length) none
theorem er_al_none (G : er_G) : ∀ (k i : Nat), er_al G i (List.replicate k none) = [] := by
  intro k
  induction k with
  | zero => intro i; rfl
  | succ k ih => intro i; exact ih (i + 1)
theorem er_al_args (G : er_G) (k : Nat) : ∀ (As : List Value) (i : Nat), (∀ v ∈ As, v.category = 1) → er_al G i (As.map some ++ List.replicate k none) = lv_args i (As.map (er_cz G)) := by
  intro As
  induction As with
  | nil => intro i _; exact er_al_none G k i
  | cons a r ih =>
    intro i h
    have h1 : (er_cz G a).category = 1 := er_cat (h a List.mem_cons_self)
    simp only [List.map_cons, List.cons_append, er_al, lv_args]
    rw [if_neg (by rw [h1]; decide), ih (i + 1) (fun v hv => h v (List.mem_cons_of_mem _ hv))]
theorem er_sl_len (vs : List Value) (h : ∀ v ∈ vs, v.category = 1) : (lg_sl vs).length = vs.length := by
  induction vs with
  | nil => rfl
  | cons a r ih =>
    have h1 : a.category = 1 := h a List.mem_cons_self
    have h2 := ih (fun v hv => h v (List.mem_cons_of_mem _ hv))
    simp only [lg_sl, List.flatMap_cons, List.length_append, List.length_cons] at h2 ⊢
    rw [if_neg (by rw [h1]; decide)]
    simp only [List.length_cons, List.length_nil]
    omega
theorem er_entry (G : er_G) (As : List Value) {n : Nat} (h1 : ∀ v ∈ As, v.category = 1) (hn : As.length ≤ n) : lv_has ((lg_sl (As.map (er_cz G)) ++ List.replicate (n - (lg_sl (As.map (er_cz G))).length) Slot.unset).toArray) (er_lv0 As n).length (er_al G 0 (er_lv0 As n)) := by
  have hc : ∀ v ∈ As.map (er_cz G), v.category = 1 := by
    intro v hv
    obtain ⟨w, hw, rfl⟩ := List.mem_map.mp hv
    exact er_cat (h1 w hw)
  have hlen : (lg_sl (As.map (er_cz G))).length ≤ n := by rw [er_sl_len _ hc, List.length_map]; exact hn
  have h := lv_entry (As.map (er_cz G)) (n := n) hlen
  have e1 : (er_lv0 As n).length = n := by simp [er_lv0]; omega
  rw [e1, er_lv0, er_al_args G _ As 0 h1]
  exact h
/-- a contract out of the walk of the method's body -/
theorem er_ofJ {l : Launch} {y : MethodName} {cc : ByteArray} {maxL : Nat} {ret : Option FieldType} {hh : List (Nat × Nat × Nat × Nat)} {w : Cond} {fr lo nc ns : Nat} {G : er_G} {As : List Value} {σ : er_S} {r : er_R} {lv0 : List (Option Value)} (hy : plainFor y = true) (hlv : er_lv0 As maxL = lv0) (hw : w = .code y cc maxL ret ∨ w = .codeWith y cc maxL ret hh) (h1 : ∀ v ∈ As, v.category = 1) (hn : As.length ≤ maxL)
    (body : ∀ (p : Program) (e : Env) (s : State) (m : MethodId) (args : Array Value) (below : List Frame) (meth : Method) (c : Code), l.admits e → er_C p s m c cc y.cls G (er_A G s.heap.size) s.heap → meth.sig.returnType = ret → meth.locks = false → c.maxLocals = maxL → w.before args s = true → s.methodNamed? y = some m → s.vm.method? m = some meth → meth.code = some c →
      er_J p l e { frames := fr, cells := nc, slots := ns, locals := lo } s m args below meth c G (er_A G s.heap.size) s.heap (er_fin below G s nc ns r) 0 0 σ 0 lv0 []) : er_Con l y w fr lo nc ns G As σ r := by
  intro sz
  subst hlv
  refine MetFree.of_bodySF (code := cc) (maxLocals := maxL) (ret := ret) hy ?_ ?_
  · intro args s m h hn
    have hb := atoms_spec (ws := [w]) h _ List.mem_cons_self
    rcases hw with rfl | rfl
    · obtain ⟨meth, c, h1, h2, h3, h4, h5, h6, -, -⟩ := Cond.code_spec hn hb
      exact ⟨meth, c, h1, h2, h3, h4, h5, h6⟩
    · obtain ⟨m9, meth, c, hn9, h1, h2, h3, h4, -, h5, h6, -⟩ := Cond.codeWith_spec hb
      cases hn.symm.trans hn9
      exact ⟨meth, c, h1, h2, h3, h4, h5, h6⟩
  · intro p e s m args below meth c s₁ B hml hP _
    obtain ⟨rfl, hsz, hP, hD, hK, hT, hnd, hZ⟩ := hP
    subst hsz
    have hh0 : s₁.heap = s.heap := by rw [B.state]; rfl
    have X := Stand.of_body B
    have hwb := atoms_spec (ws := [w]) B.pre _ List.mem_cons_self
    have hC : er_C p s m c cc y.cls G (er_A G s.heap.size) s.heap := ⟨B.exec, B.bytes, findClass_of_methodNamed B.named, hT, hK, hnd, fun q h => Or.inr h, hZ⟩
    have hJ := body p e s m _ below meth c B.admits hC B.returns B.notSynchronized hml hwb B.named B.method X.code
    have hl := er_entry G As (n := maxL) h1 hn
    have hD2 : va_D (er_A G s.heap.size) (er_ws G σ) := er_D_ad hD (fun k hk => Or.inl ⟨k, hk, rfl⟩) σ
    have K := hJ s.heap [] _ hP hD2 va_S.rf hl
    rw [List.map_nil, ← lg_entry_eq] at K
    obtain ⟨t, a1, o, b1, b2, b3⟩ := K s₁ hh0 X
    exact ⟨t, o, a1, b1, b2, b3⟩
section ERC
variable {p : Program} {l : Launch} {e : Env} {R : Room} {s : State} {m : MethodId} {args : Array Value} {below : List Frame} {meth : Method} {c : Code} {Q : State → Prop} {G : er_G} {A : Nat → Prop} {H0 : Heap} {kc ks nc ns : Nat} {σ σ' : er_S} {pc : Nat} {lv lv' : List (Option Value)} {st : List Value} {cc : ByteArray} {own : String}
theorem er_wm {H : Heap} {locs : List Loc} {g : JFrame} {Q' : State → Prop} (h : ∀ t, Q t → Q' t) (k : W p l e R s m args below meth c H locs kc ks Q g) : W p l e R s m args below meth c H locs kc ks Q' g := by
  intro T hT X
  obtain ⟨t, a, b⟩ := k T hT X
  exact ⟨t, a, h t b⟩
theorem er_mq {H : Heap} {locs : List Loc} {v : Option Value} (hS : va_S (er_A G s.heap.size) s.heap H locs) (hP : va_P G.1 er_cl (er_ws G σ) H) (h1 : kc ≤ nc) (h2 : ks ≤ ns) (t : State) (h : MQ below (fun _ _ o t => o = .returned v ∧ t.heap = H) args s kc ks (er_A G s.heap.size) t) : er_fin below G s nc ns (.inl v, σ) t := by
  obtain ⟨o, a1, a2, ⟨rfl, a3⟩, L, ⟨-, a4, a5⟩, a6⟩ := h
  refine ⟨.returned v, a1, a2, rfl, by rw [a3]; exact hP, hS.F a3, L, a4, ?_, a6⟩
  exact a5.mono h1 h2
theorem ej_iret {v : Int32} (C : er_C p s m c cc own G (er_A G s.heap.size) s.heap) (hr : meth.sig.returnType = some .int) (hlocks : meth.locks = false) (h1 : kc ≤ nc) (h2 : ks ≤ ns) (hd : decode cc pc = .ok (.ireturn, 1)) : er_J p l e R s m args below meth c G (er_A G s.heap.size) s.heap (er_fin below G s nc ns (.inl (some (.int v)), σ)) kc ks σ pc lv [.int v] :=
  fun H locs ls hP hD hS hl => er_wm (fun t h => er_mq (v := some (.int v)) hS hP h1 h2 t h) (W.iret C.1 C.2.1 hr (fun t ht _ => ⟨rfl, ht⟩) hS.2.2 hd hlocks)
theorem ej_zret {v : Int32} (C : er_C p s m c cc own G (er_A G s.heap.size) s.heap) (hr : meth.sig.returnType = some .boolean) (hlocks : meth.locks = false) (h1 : kc ≤ nc) (h2 : ks ≤ ns) (hv : er_isb v = true) (hd : decode cc pc = .ok (.ireturn, 1)) : er_J p l e R s m args below meth c G (er_A G s.heap.size) s.heap (er_fin below G s nc ns (.inl (some (.int v)), σ)) kc ks σ pc lv [.int v] :=
  fun H locs ls hP hD hS hl => er_wm (fun t h => er_mq (v := some (.int v)) hS hP h1 h2 t h) (W.zret C.1 C.2.1 hr (by have h := of_decide_eq_true hv; rcases h with rfl | rfl <;> rfl) (fun t ht _ => ⟨rfl, ht⟩) hS.2.2 hd hlocks)
theorem ej_vret (C : er_C p s m c cc own G (er_A G s.heap.size) s.heap) (hr : meth.sig.returnType = none) (hlocks : meth.locks = false) (h1 : kc ≤ nc) (h2 : ks ≤ ns) (hd : decode cc pc = .ok (.return_, 1)) : er_J p l e R s m args below meth c G (er_A G s.heap.size) s.heap (er_fin below G s nc ns (.inl none, σ)) kc ks σ pc lv [] :=
  fun H locs ls hP hD hS hl => er_wm (fun t h => er_mq (v := none) hS hP h1 h2 t h) (W.vret C.1 C.2.1 hr (fun t ht _ => ⟨rfl, ht⟩) hS.2.2 hd hlocks)
/-- the call instruction enters y with the arguments a -/
def er_Ent (p : Program) (l : Launch) (e : Env) (R : Room) (s : State) (m : MethodId) (args : Array Value) (below : List Frame) (meth : Method) (c : Code) (kc ks : Nat) (H : Heap) (locs : List Loc) (g : JFrame) (rest : List Value) (y : MethodName) (a : Array Value) : Prop :=
  ∀ T : State, T.heap = H → Stand p l e R s m args below meth c T locs kc ks → ∃ (vm₁ : Vm) (mk : MethodId), Stand p l e R s m args below meth c (T.setVm vm₁) locs kc ks ∧ s.methodNamed? y = some mk ∧ ∀ target, (∀ acts, Steps p.tables e below (doInvoke e ((T.setVm vm₁).setTop { g with stack := rest }) acts mk a).1 target) → Steps p.tables e below (T.setTop g) target
/-- what the tables say of a callee -/
def er_Cal (y : MethodName) (w : Cond) (maxL n : Nat) : Prop := w ∈ er_tbl ∧ Cond.initialized y.cls ∈ er_tbl ∧ (y.cls ≠ "java/lang/invoke/MethodHandle" ∧ y.cls ≠ "java/lang/invoke/VarHandle") ∧ (parseMethodDescriptor y.desc).map (fun d => d.parameters.length) = some n ∧ ∃ (bytes : ByteArray) (ret : Option FieldType) (hh : List (Nat × Nat × Nat × Nat)), w = .code y bytes maxL ret ∨ w = .codeWith y bytes maxL ret hh
theorem er_Cal.spec {y : MethodName} {w : Cond} {maxL n : Nat} (h : er_Cal y w maxL n) {a : Array Value} {U : State} (hb : w.before a U = true) : ∃ (mk : MethodId) (methY : Method) (cY : Code), U.methodNamed? y = some mk ∧ U.vm.method? mk = some methY ∧ methY.code = some cY ∧ cY.maxLocals = maxL ∧ parseMethodDescriptor y.desc = some methY.sig := by
  obtain ⟨-, -, -, -, bytes, ret, hh, rfl | rfl⟩ := h
  · obtain ⟨mk, hn⟩ := Cond.code_named hb
    obtain ⟨meth, c, h1, h2, h3, h4, h5, h6, -, h8⟩ := Cond.code_spec hn hb
    exact ⟨mk, meth, c, hn, h1, h2, h4, h8⟩
  · obtain ⟨m9, meth, c, hn9, h1, h2, h3, h4, -, h5, h6, h8⟩ := Cond.codeWith_spec hb
    exact ⟨m9, meth, c, hn9, h1, h2, h4, h8⟩
theorem er_siteS (C : er_C p s m c cc own G A H0) {y : MethodName} {w : Cond} {maxL n idx : Nat} (hc : er_Cal y w maxL n) (hl : Cond.methodLink own idx y ∈ er_tbl) (hst : Cond.static y ∈ er_tbl) {H : Heap} {locs : List Loc} {ls : Array Slot} {As rest : List Value} (hn : As.length = n) (hd : decode cc pc = .ok (.invokestatic idx, 3)) :
    er_Ent p l e R s m args below meth c kc ks H locs (F0 m pc ls (As.reverse ++ rest)) rest y As.toArray := by
  intro T hT X
  obtain ⟨mk, methY, cY, h1, h2, h3, h4, h5⟩ := hc.spec (a := args) (C.2.2.2.1.use hc.1)
  have hstatic : methY.isStatic = true := Cond.static_spec h1 h2 (C.2.2.2.1.use (args := args) hst)
  obtain ⟨kP, hkP, -⟩ := className_of_methodNamed h1
  have hinitP : kP.init = .initialized := Cond.initialized_spec (findClass_of_methodNamed h1) hkP (C.2.2.2.1.use (args := args) hc.2.1)
  have hlen : As.length = methY.sig.parameters.length := by
    have h := hc.2.2.2.1
    rw [h5] at h
    rw [hn]
    exact (Option.some.inj h).symm
  obtain ⟨vm₁, X₁, hstep₁⟩ := X.invokestatic C.1 C.2.2.1 (C.2.2.2.1.use hl) h1 h2 hstatic hkP hinitP hc.2.2.1 (g := F0 m pc ls (As.reverse ++ rest)) rfl (argsL := As) (rest := rest) hlen rfl (by rw [C.2.1]; exact hd)
  exact ⟨vm₁, mk, X₁, h1, hstep₁⟩
theorem er_siteV (C : er_C p s m c cc own G A H0) {y : MethodName} {w : Cond} {maxL n idx : Nat} {K : String} (hc : er_Cal y w maxL n) (hl : Cond.methodLink own idx y ∈ er_tbl ∨ ∃ host, Cond.methodLinkNest own idx y host ∈ er_tbl) (hin : Cond.instanceMethod y ∈ er_tbl) (hse : Cond.selects K y y ∈ er_tbl) {H : Heap} {locs : List Loc} {ls : Array Slot} {b : Nat} (hcell : ∃ cellB : Cell, H[b]? = some cellB ∧ cellB.vm.isStatics = false ∧ s.vm.findClass K = some cellB.cls) {As rest : List Value} (hn : As.length = n) (hd : decode cc pc = .ok (.invokevirtual idx, 3)) :
    er_Ent p l e R s m args below meth c kc ks H locs (F0 m pc ls (As.reverse ++ .ref b :: rest)) rest y (Value.ref b :: As).toArray := by
  intro T hT X
  obtain ⟨cellB, hcB, hoB, hclB⟩ := hcell
  obtain ⟨mk, methY, cY, h1, h2, h3, h4, h5⟩ := hc.spec (a := args) (C.2.2.2.1.use hc.1)
  obtain ⟨mk', methM, hnamed, hmethM, hstM, habM⟩ := Cond.instanceMethod_spec (C.2.2.2.1.use (args := args) hin)
  cases h1.symm.trans hnamed
  cases h2.symm.trans hmethM
  obtain ⟨c2, r2, m2, q1, q2, q3, q4, kP, hkP, hkPi⟩ := Cond.selects_spec (C.2.2.2.1.use (args := args) hse)
  cases hclB.symm.trans q1
  cases (State.methodFound?_of_named hnamed hc.2.2.1).symm.trans q2
  cases hnamed.symm.trans q3
  have hselP : selectMethod e.platform s.vm cellB.cls mk = .method mk := by rw [Launch.admits_selectMethod X.admits]; exact q4
  have hlen : As.length = methY.sig.parameters.length := by
    have h := hc.2.2.2.1
    rw [h5] at h
    rw [hn]
    exact (Option.some.inj h).symm
  rcases hl with hl | ⟨host, hl⟩
  · obtain ⟨vm₁, X₁, hstep₁⟩ := X.invokevirtual C.1 C.2.2.1 (C.2.2.2.1.use hl) hnamed hmethM hstM hkP hkPi hc.2.2.1 (a := b) (cell := cellB) (by rw [hT]; exact hcB)
      (fun z h => by rw [h] at hoB; cases hoB) hselP hmethM habM hkP hkPi (g := F0 m pc ls (As.reverse ++ .ref b :: rest)) rfl (argsL := As) (rest := rest) hlen rfl (by rw [C.2.1]; exact hd)
    exact ⟨vm₁, mk, X₁, h1, hstep₁⟩
  · obtain ⟨vm₁, X₁, hstep₁⟩ := X.invokevirtualNest C.1 C.2.2.1 (C.2.2.2.1.use hl) hnamed hmethM hstM hkP hkPi hc.2.2.1 (a := b) (cell := cellB) (by rw [hT]; exact hcB)
      (fun z h => by rw [h] at hoB; cases hoB) hselP hmethM habM hkP hkPi (g := F0 m pc ls (As.reverse ++ .ref b :: rest)) rfl (argsL := As) (rest := rest) hlen rfl (by rw [C.2.1]; exact hd)
    exact ⟨vm₁, mk, X₁, h1, hstep₁⟩
/-- the callee runs: its end, whatever it is -/
theorem er_runs {y : MethodName} {w : Cond} {maxL n fr lo : Nat} {As : List Value} {r : er_R} {H : Heap} {locs : List Loc} {ls : Array Slot} {st0 rest : List Value} {a : Array Value} (C : er_C p s m c cc own G A H0) (hM : er_Con l y w fr lo nc ns G As σ r) (hc : er_Cal y w maxL n) (ha : a = (As.map (er_cz G)).toArray) (hE : er_Ent p l e R s m args below meth c kc ks H locs (F0 m pc ls st0) rest y a)
    (hml : c.maxLocals = ls.size) {ig : Instr} (hd : decode cc pc = .ok (ig, 3)) (hR : fr + 1 ≤ R.frames ∧ 8 + (maxL + 11) + lo ≤ R.locals ∧ kc + nc ≤ R.cells ∧ ks + ns ≤ R.slots) (hcat : (rest.map fun v => v.category).sum ≤ 8) (hP : va_P G.1 er_cl (er_ws G σ) H) (hD : va_D A (er_ws G σ)) (hS : va_S A H0 H locs) :
    ∀ T : State, T.heap = H → Stand p l e R s m args below meth c T locs kc ks → ∃ (T1 : State) (mk : MethodId) (o : Outcome) (t : State), T1.heap = H ∧ Stand p l e R s m args below meth c T1 locs kc ks ∧ er_Qc G H.size nc ns r a (T1.calling (F0 m pc ls rest) mk a) o t ∧ Ended t (.java (F0 m pc ls rest) :: below) o ∧ ∀ target, Steps p.tables e below t target → Steps p.tables e below (T.setTop (F0 m pc ls st0)) target := by
  intro T hT X
  obtain ⟨vm₁, mk, X₁, hnm, hgo⟩ := hE T hT X
  have hT1 : er_T (T.setVm vm₁) := C.2.2.2.1.warm X₁.warmed
  obtain ⟨mk', methY, cY, h1, h2, h3, h4, h5⟩ := hc.spec (a := a) (U := T.setVm vm₁) (hT1.use hc.1)
  have hn2 := X₁.named hnm
  cases h1.symm.trans hn2
  obtain ⟨kY, hkY, -⟩ := className_of_methodNamed h1
  have hinitY : kY.init = .initialized := Cond.initialized_spec (findClass_of_methodNamed h1) hkY (hT1.use (args := a) hc.2.1)
  have hmon : (F0 m pc ls rest).monitorRoom = 0 := rfl
  have happ : (headSpec [w] { frames := fr, cells := nc, slots := ns, locals := lo }).appliesLoose y e.platform ((T.setVm vm₁).calling (F0 m pc ls rest) mk a) = true :=
    Spec.appliesLoose_calling (g := F0 m pc ls rest) X₁.here (by rw [C.2.1]; exact hd) h1 hkY hinitY
      (X₁.room_calling (g := F0 m pc ls rest) (R' := { frames := fr, cells := nc, slots := ns, locals := lo }) hml.symm h2 h3 hR.1 (by
        show 2 * (F0 m pc ls rest).monitorRoom + (rest.map fun v => v.category).sum + (cY.maxLocals + 11) + lo ≤ R.locals
        rw [h4, hmon]; have := hR.2.1; omega) hR.2.2.1 hR.2.2.2) (atoms_intro (ws := [w]) (fun z hz => by rw [List.mem_singleton.mp hz]; exact hT1.use hc.1))
  obtain ⟨mid, hmid⟩ := X₁.here.above
  have hfr : ((T.setVm vm₁).setTop (F0 m pc ls rest)).frames = (.java (F0 m pc ls rest) :: mid) ++ below := by rw [State.frames_setTop' _ X₁.here.top, hmid]; rfl
  have hZ : er_Z (er_A G H.size) ((T.setVm vm₁).calling (F0 m pc ls rest) mk a) ((T.setVm vm₁).calling (F0 m pc ls rest) mk a).heap := by
    have h1 : er_Z A s H := C.2.2.2.2.2.2.2.kept hS.2.1
    have h2 : er_Z (er_A G H.size) s H := h1.narrow (fun q h => by
      rcases h with ⟨k, hk, rfl⟩ | h
      · exact er_D_of hD hk
      · exact C.2.2.2.2.2.2.1 q (Nat.le_trans hS.1 h))
    have h3 : ((T.setVm vm₁).calling (F0 m pc ls rest) mk a).heap = H := hT
    rw [h3]
    exact er_Z.moved (u := s) (U := (T.setVm vm₁).calling (F0 m pc ls rest) mk a) X₁.warmed.alike h2
  have hPc : er_Pc G H.size As σ a ((T.setVm vm₁).calling (F0 m pc ls rest) mk a) :=
    ⟨ha, by show T.heap.size = H.size; rw [hT], by show va_P G.1 er_cl (er_ws G σ) T.heap; rw [hT]; exact hP, er_D_ad hD (fun _ _ => trivial) σ, va_K.moved (u := s) (U := (T.setVm vm₁).calling (F0 m pc ls rest) mk a) X₁.warmed.alike C.2.2.2.2.1, hT1.same rfl, C.2.2.2.2.2.1, hZ⟩
  obtain ⟨o, t, hsteps, -, hend, hq⟩ := Steps.callFree (hM H.size) p X₁.admits X₁.cas X₁.clock (acts := []) hfr happ hPc trivial
  rw [State.frames_setTop' _ X₁.here.top, X₁.tail] at hend
  exact ⟨T.setVm vm₁, mk, o, t, hT, X₁, hq, hend, fun target h => hgo _ (fun acts => by rw [doInvoke_state]; exact hsteps.trans h)⟩
theorem er_S_join {H H1 : Heap} {locs L : List Loc} {sz : Nat} (hS : va_S A H0 H locs) (hA : ∀ q, H0.size ≤ q → A q) (hD : va_D A (er_ws G σ)) (hF1 : H.size ≤ H1.size) (hF2 : ∀ q : Nat, q < H.size → ¬ er_A G H.size q → H1[q]? = H[q]?) (hL : ∀ q ∈ L, er_A G H.size q.base) : va_S A H0 H1 (locs ++ L) := by
  have hin : ∀ q, er_A G H.size q → A q := by
    intro q h
    rcases h with ⟨k, hk, rfl⟩ | h
    · exact er_D_of hD hk
    · exact hA q (Nat.le_trans hS.1 h)
  refine ⟨Nat.le_trans hS.1 hF1, fun q h1 h2 => ?_, fun q hq => ?_⟩
  · rw [hF2 q (Nat.lt_of_lt_of_le h1 hS.1) (fun h => h2 (hin q h))]
    exact hS.2.1 q h1 h2
  · rcases List.mem_append.mp hq with h | h
    · exact hS.2.2 q h
    · exact hin _ (hL q h)
/-- a call that comes back -/
theorem er_back {y : MethodName} {w : Cond} {maxL n fr lo : Nat} {As : List Value} {v : Option Value} {H : Heap} {locs : List Loc} {ls : Array Slot} {st0 rest : List Value} {a : Array Value} (C : er_C p s m c cc own G A H0) (hM : er_Con l y w fr lo nc ns G As σ (.inl v, σ')) (hc : er_Cal y w maxL n) (ha : a = (As.map (er_cz G)).toArray) (hE : er_Ent p l e R s m args below meth c kc ks H locs (F0 m pc ls st0) rest y a)
    (hml : c.maxLocals = ls.size) {ig : Instr} (hd : decode cc pc = .ok (ig, 3)) (hR : fr + 1 ≤ R.frames ∧ 8 + (maxL + 11) + lo ≤ R.locals ∧ kc + nc ≤ R.cells ∧ ks + ns ≤ R.slots) (hcat : (rest.map fun v => v.category).sum ≤ 8) (hP : va_P G.1 er_cl (er_ws G σ) H) (hD : va_D A (er_ws G σ)) (hS : va_S A H0 H locs)
    (kk : ∀ (H1 : Heap) (locs1 : List Loc), va_P G.1 er_cl (er_ws G σ') H1 → va_D A (er_ws G σ') → va_S A H0 H1 locs1 → W p l e R s m args below meth c H1 locs1 (kc + nc) (ks + ns) Q (F0 m (pc + 3) ls (v.toList ++ rest))) : W p l e R s m args below meth c H locs kc ks Q (F0 m pc ls st0) := by
  intro T hT X
  obtain ⟨T1, mk, o, t, hT1, X1, ⟨hout, hP1, ⟨hz, hk⟩, L, hW, hsm, hL⟩, hend, hgo⟩ := er_runs C hM hc ha hE hml hd hR hcat hP hD hS T hT X
  have hout : o = .returned v := hout
  subst hout
  obtain ⟨T', X', -, -, ht⟩ := X1.outOf (g := F0 m pc ls rest) rfl (by rw [C.2.1]; exact hd) hend hW hsm
  have hh : T'.heap = t.heap := by rw [ht]; rfl
  have hz : H.size ≤ t.heap.size := by rw [← hT1]; exact hz
  have hk : ∀ q : Nat, q < H.size → ¬ er_A G H.size q → t.heap[q]? = H[q]? := fun q h1 h2 => by
    have := hk q (by show q < T1.heap.size; rw [hT1]; exact h1) h2
    rw [this]; show T1.heap[q]? = H[q]?; rw [hT1]
  obtain ⟨t2, a1, b1⟩ := kk t.heap (locs ++ L) hP1 (er_D_ad hD (fun k hk => er_D_of hD hk) σ') (er_S_join (sz := H.size) hS C.2.2.2.2.2.2.1 hD hz hk hL) T' hh X'
  refine ⟨t2, hgo t2 ?_, b1⟩
  rw [ht]
  exact a1
end ERC
