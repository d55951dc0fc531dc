/-! constructors: cells are made; the object under construction stands first in the list -/
def er_AC (U : State) : Prop := (Cond.arrayClass .int).before #[] U = true ∧ (Cond.arrayClass .boolean).before #[] U = true ∧ (Cond.arrayClass .long).before #[] U = true
theorem er_AC.warm {s U : State} (hW : s.WarmedH U.vm) (h : er_AC s) : er_AC U := ⟨word_at hW (Or.inr ⟨_, rfl⟩) h.1, word_at hW (Or.inr ⟨_, rfl⟩) h.2.1, word_at hW (Or.inr ⟨_, rfl⟩) h.2.2⟩
theorem er_ac {ty : FieldType} {s : State} {args : Array Value} (h : (Cond.arrayClass ty).before #[] s = true) : (Cond.arrayClass ty).before args s = true := word_at (c := .arrayClass ty) (State.WarmedH.refl s) (Or.inr ⟨ty, rfl⟩) h
def er_tyc (cs : ClassId × ClassId × ClassId) : List (ClassId × FieldType) := [(cs.1, .int), (cs.2.1, .boolean), (cs.2.2, .long)]
/-- what the walk of a constructor (or of the law's beginning) stands on -/
def er_D (p : Program) (s : State) (m : MethodId) (c : Code) (cc : ByteArray) (own : String) (D : va_G) (cs : ClassId × ClassId × ClassId) (A : Nat → Prop) : Prop :=
  p.tables.exec = Jvm.exec ∧ c.code = cc ∧ s.vm.findClass own = some m.cls ∧ er_T s ∧ va_K D er_cl (er_tyc cs) s ∧ er_AC s ∧ ∀ q, s.heap.size ≤ q → A q
/-- the pool's entry idx of the class own is its final field k, a reference -/
def er_FF (own : String) (idx ci k : Nat) : Prop := ∃ (T : u_T) (N : Nat) (ty : Nat → FieldType) (tv : FieldType), er_cl[ci]? = some (own, T, N) ∧ k < N ∧ (∀ w ∈ u_ws own T N, w ∈ er_tbl) ∧ (T k).1 = own ∧ Cond.fieldLink own idx own (T k).2.1 (T k).2.2.1 ∈ er_tbl ∧ (T k).2.2.2 = true ∧ parseFieldDescriptor (T k).2.2.1 = some tv ∧ (∀ q : Nat, narrow tv (.ref q) = .ref q ∧ fits tv (.ref q) = true) ∧ (∀ k, k < N → parseFieldDescriptor (T k).2.2.1 = some (ty k)) ∧ (∀ a, a < N → ∀ b, b < N → a ≠ b → (T a).2.1 ≠ (T b).2.1)
section ERI
variable {p : Program} {l : Launch} {e : Env} {R : Room} {s : State} {m : MethodId} {args : Array Value} {below : List Frame} {meth : Method} {c : Code} {Q : State → Prop} {H : Heap} {locs : List Loc} {cells slots pc : Nat} {ls : Array Slot} {rest : List Value} {D : va_G} {cs : ClassId × ClassId × ClassId} {A : Nat → Prop} {cc : ByteArray} {own : String} {ws tl : va_W}
theorem ei_newi (C : er_D p s m c cc own D cs A) (hP : va_P D er_cl ws H) (hD : va_D A ws) (hS : va_S A s.heap H locs) {n : Int32} (N : Nat) (hn : ¬ n < 0) (hN : n.toNatClampNeg = N) (hb : N * 4 ≤ 536870912) (hcells : cells + 1 ≤ R.cells) (hslots : slots + N ≤ R.slots) (hd : decode cc pc = .ok (.newarray .int, 2))
    (kk : ∀ (q : Nat) (H1 : Heap), va_P D er_cl (ws ++ [(q, .inl (cs.1, N, .inl (fun _ => 0)))]) H1 → va_D A (ws ++ [(q, .inl (cs.1, N, .inl (fun _ => 0)))]) → va_S A s.heap H1 locs → W p l e R s m args below meth c H1 locs (cells + 1) (slots + N) Q (F0 m (pc + 2) ls (.ref q :: rest))) : W p l e R s m args below meth c H locs cells slots Q (F0 m pc ls (.int n :: rest)) := by
  have hac : (Cond.arrayClass (newarray.typeOf .int)).before args s = true := er_ac (ty := .int) C.2.2.2.2.2.1.1
  refine va_newa (atype := .int) (ty := .int) (a0 := (N, .inl (fun _ => 0))) C.1 C.2.1 hac rfl C.2.2.2.2.1 hP hD hS C.2.2.2.2.2.2 (fun _ => rfl) hn hN hb hcells hslots hd (fun q cA H1 hK hP1 hD1 hS1 => ?_)
  have e1 : s.vm.findClass ("[" ++ (FieldType.int).toString) = some cA := (hK.2 3 _ rfl).2
  have e2 : s.vm.findClass ("[" ++ (FieldType.int).toString) = some cs.1 := (hK.2 0 _ rfl).2
  cases Option.some.inj (e1.symm.trans e2)
  exact kk q H1 hP1 hD1 hS1
theorem ei_newz (C : er_D p s m c cc own D cs A) (hP : va_P D er_cl ws H) (hD : va_D A ws) (hS : va_S A s.heap H locs) {n : Int32} (N : Nat) (hn : ¬ n < 0) (hN : n.toNatClampNeg = N) (hb : N * 1 ≤ 536870912) (hcells : cells + 1 ≤ R.cells) (hslots : slots + N ≤ R.slots) (hd : decode cc pc = .ok (.newarray .boolean, 2))
    (kk : ∀ (q : Nat) (H1 : Heap), va_P D er_cl (ws ++ [(q, .inl (cs.2.1, N, .inl (fun _ => 0)))]) H1 → va_D A (ws ++ [(q, .inl (cs.2.1, N, .inl (fun _ => 0)))]) → va_S A s.heap H1 locs → W p l e R s m args below meth c H1 locs (cells + 1) (slots + N) Q (F0 m (pc + 2) ls (.ref q :: rest))) : W p l e R s m args below meth c H locs cells slots Q (F0 m pc ls (.int n :: rest)) := by
  have hac : (Cond.arrayClass (newarray.typeOf .boolean)).before args s = true := er_ac (ty := .boolean) C.2.2.2.2.2.1.2.1
  refine va_newa (atype := .boolean) (ty := .boolean) (a0 := (N, .inl (fun _ => 0))) C.1 C.2.1 hac rfl C.2.2.2.2.1 hP hD hS C.2.2.2.2.2.2 (fun _ => rfl) hn hN hb hcells hslots hd (fun q cA H1 hK hP1 hD1 hS1 => ?_)
  have e1 : s.vm.findClass ("[" ++ (FieldType.boolean).toString) = some cA := (hK.2 3 _ rfl).2
  have e2 : s.vm.findClass ("[" ++ (FieldType.boolean).toString) = some cs.2.1 := (hK.2 1 _ rfl).2
  cases Option.some.inj (e1.symm.trans e2)
  exact kk q H1 hP1 hD1 hS1
theorem ei_newl (C : er_D p s m c cc own D cs A) (hP : va_P D er_cl ws H) (hD : va_D A ws) (hS : va_S A s.heap H locs) {n : Int32} (N : Nat) (hn : ¬ n < 0) (hN : n.toNatClampNeg = N) (hb : N * 8 ≤ 536870912) (hcells : cells + 1 ≤ R.cells) (hslots : slots + N ≤ R.slots) (hd : decode cc pc = .ok (.newarray .long, 2))
    (kk : ∀ (q : Nat) (H1 : Heap), va_P D er_cl (ws ++ [(q, .inl (cs.2.2, N, .inr (.inl (fun _ => (0 : Int32).toInt64))))]) H1 → va_D A (ws ++ [(q, .inl (cs.2.2, N, .inr (.inl (fun _ => (0 : Int32).toInt64))))]) → va_S A s.heap H1 locs → W p l e R s m args below meth c H1 locs (cells + 1) (slots + N) Q (F0 m (pc + 2) ls (.ref q :: rest))) : W p l e R s m args below meth c H locs cells slots Q (F0 m pc ls (.int n :: rest)) := by
  have hac : (Cond.arrayClass (newarray.typeOf .long)).before args s = true := er_ac (ty := .long) C.2.2.2.2.2.1.2.2
  refine va_newa (atype := .long) (ty := .long) (a0 := (N, .inr (.inl (fun _ => (0 : Int32).toInt64)))) C.1 C.2.1 hac rfl C.2.2.2.2.1 hP hD hS C.2.2.2.2.2.2 (fun _ => by rw [show (0 : Int32).toInt64 = 0 by decide]; rfl) hn hN hb hcells hslots hd (fun q cA H1 hK hP1 hD1 hS1 => ?_)
  have e1 : s.vm.findClass ("[" ++ (FieldType.long).toString) = some cA := (hK.2 3 _ rfl).2
  have e2 : s.vm.findClass ("[" ++ (FieldType.long).toString) = some cs.2.2 := (hK.2 2 _ rfl).2
  cases Option.some.inj (e1.symm.trans e2)
  exact kk q H1 hP1 hD1 hS1
theorem ei_putF (C : er_D p s m c cc own D cs A) (hin : meth.name = "<init>") {h0 ci k idx q : Nat} {fs : List Value} (hP : va_P D er_cl ((h0, .inr (ci, fs)) :: tl) H) (hD : va_D A ((h0, .inr (ci, fs)) :: tl)) (hS : va_S A s.heap H locs) (hF : er_FF own idx ci k) (hl : Nat.blt k fs.length = true) (hd : decode cc pc = .ok (.putfield idx, 3))
    (kk : ∀ (H1 : Heap) (locs1 : List Loc), va_P D er_cl ((h0, .inr (ci, fs.set k (.ref q))) :: tl) H1 → va_D A ((h0, .inr (ci, fs.set k (.ref q))) :: tl) → va_S A s.heap H1 locs1 → W p l e R s m args below meth c H1 locs1 cells slots Q (F0 m (pc + 3) ls rest)) : W p l e R s m args below meth c H locs cells slots Q (F0 m pc ls (.ref q :: .ref h0 :: rest)) := by
  obtain ⟨T, N, ty, tv, h1, h2, h3, h4, h5, h6, h7, h8, h9, h10⟩ := hF
  exact va_putF (D := D) (ci := ci) (C := own) (T := T) (N := N) (ref := own) (ty := tv) (v := .ref q) C.1 C.2.1 (fun w hw => C.2.2.2.1.use hw) h3 ty h9 h10 C.2.2.1 C.2.2.2.2.1 hP hD hS 0 rfl h1 k h2 (C.2.2.2.1.use h5) (fun x hx => by rw [h4] at hx; exact hx) h6 hin h4 h7 (h8 q).1 (h8 q).2 (Nat.le_of_ble_eq_true hl) hd (fun H1 locs1 hP1 hD1 hS1 => kk H1 locs1 hP1 hD1 hS1)
theorem ei_puti (C : er_D p s m c cc own D cs A) {h0 ci k idx : Nat} {v : Int32} {fs : List Value} (hP : va_P D er_cl ((h0, .inr (ci, fs)) :: tl) H) (hD : va_D A ((h0, .inr (ci, fs)) :: tl)) (hS : va_S A s.heap H locs) (hF : er_Fp own idx ci k) (hl : Nat.blt k fs.length = true) (hd : decode cc pc = .ok (.putfield idx, 3))
    (kk : ∀ (H1 : Heap) (locs1 : List Loc), va_P D er_cl ((h0, .inr (ci, fs.set k (.int v))) :: tl) H1 → va_D A ((h0, .inr (ci, fs.set k (.int v))) :: tl) → va_S A s.heap H1 locs1 → W p l e R s m args below meth c H1 locs1 cells slots Q (F0 m (pc + 3) ls rest)) : W p l e R s m args below meth c H locs cells slots Q (F0 m pc ls (.int v :: .ref h0 :: rest)) := by
  obtain ⟨C0, T, N, ty, h1, h2, h3, h4, h5, h6, h7, h8, h9⟩ := hF
  exact va_put (D := D) (ci := ci) (C := C0) (T := T) (N := N) (ref := C0) (ty := .int) (v := .int v) C.1 C.2.1 (fun w hw => C.2.2.2.1.use hw) h3 ty h8 h9 C.2.2.1 C.2.2.2.2.1 hP hD hS 0 rfl h1 k h2 (C.2.2.2.1.use h5) (fun x hx => by rw [h4] at hx; exact hx) h6 h7 rfl rfl (Nat.le_of_ble_eq_true hl) hd (fun H1 locs1 hP1 hD1 hS1 => kk H1 locs1 hP1 hD1 hS1)
/-- Object.<init> -/
theorem ei_obj (C : er_D p s m c cc own D cs A) {idx h0 : Nat} (hl : Cond.methodLink own idx objectInit ∈ er_tbl) (hi : Cond.instanceMethod objectInit ∈ er_tbl) (hc : Cond.code objectInit ⟨#[0xb1]⟩ 1 none ∈ er_tbl) (hsize : ls.size = c.maxLocals) (hd : decode cc pc = .ok (.invokespecial idx, 3)) (hf : 1 ≤ R.frames) (hlo : (rest.map fun v => v.category).sum + 12 ≤ R.locals)
    (kk : W p l e R s m args below meth c H locs cells slots Q (F0 m (pc + 3) ls rest)) : W p l e R s m args below meth c H locs cells slots Q (F0 m pc ls (.ref h0 :: rest)) :=
  W.objInit C.1 C.2.1 C.2.2.1 (C.2.2.2.1.use hl) (C.2.2.2.1.use hi) (C.2.2.2.1.use hc) rfl hsize rfl hd hf (by show 2 * (F0 m pc ls (.ref h0 :: rest)).monitorRoom + _ + 12 ≤ _; have : (F0 m pc ls (Value.ref h0 :: rest)).monitorRoom = 0 := rfl; rw [this]; omega) kk
/-- new: an object of the class number ci, its fields the defaults -/
def er_Nw (own : String) (idx ci : Nat) (fs : List Value) : Prop := ∃ (C : String) (T : u_T) (ty : Nat → FieldType), er_cl[ci]? = some (C, T, fs.length) ∧ (∀ w ∈ u_ws C T fs.length, w ∈ er_tbl) ∧ (∀ k, k < fs.length → parseFieldDescriptor (T k).2.2.1 = some (ty k)) ∧ Cond.classLink own idx C ∈ er_tbl ∧ Cond.instantiable C fs.length ∈ er_tbl ∧ Cond.initialized C ∈ er_tbl ∧ ∀ j, j < fs.length → defaultValue (ty j) = vp_V fs j
theorem ei_new (C : er_D p s m c cc own D cs A) (hP : va_P D er_cl ws H) (hD : va_D A ws) (hS : va_S A s.heap H locs) {idx ci : Nat} {fs : List Value} (hN : er_Nw own idx ci fs) (hcells : cells + 1 ≤ R.cells) (hslots : slots + fs.length ≤ R.slots) (hd : decode cc pc = .ok (.new idx, 3))
    (kk : ∀ (q : Nat) (H1 : Heap), va_P D er_cl (ws ++ [(q, .inr (ci, fs))]) H1 → va_D A (ws ++ [(q, .inr (ci, fs))]) → va_S A s.heap H1 locs → W p l e R s m args below meth c H1 locs (cells + 1) (slots + fs.length) Q (F0 m (pc + 3) ls (.ref q :: rest))) : W p l e R s m args below meth c H locs cells slots Q (F0 m pc ls rest) := by
  obtain ⟨C0, T, ty, h1, h2, h3, h4, h5, h6, h7⟩ := hN
  exact va_new (ci := ci) (fs := fs) (C := C0) (T := T) (N := fs.length) C.1 C.2.1 (fun w hw => C.2.2.2.1.use hw) h2 ty h3 C.2.2.1 (C.2.2.2.1.use h4) (C.2.2.2.1.use h5) (C.2.2.2.1.use h6) C.2.2.2.2.1 hP hD hS C.2.2.2.2.2.2 h1 h7 hcells hslots hd (fun q H1 hP1 hD1 hS1 => kk q H1 hP1 hD1 hS1)
/-- THE CONTRACT of a constructor: from its fresh object (class number ci, fields fs) it makes the cells ks (its own number k0) with the contents σ0 -/
def er_A1 (h0 sz : Nat) : Nat → Prop := fun q => q = h0 ∨ sz ≤ q
def er_PI (D : va_G) (cs : ClassId × ClassId × ClassId) (h0 sz ci : Nat) (fs : List Value) : Array Value → State → Prop := fun v U =>
  v = #[Value.ref h0] ∧ U.heap.size = sz ∧ va_P D er_cl [(h0, .inr (ci, fs))] U.heap ∧ va_K D er_cl (er_tyc cs) U ∧ er_T U ∧ er_AC U ∧ er_Z (er_A1 h0 sz) U U.heap
def er_QI (D : va_G) (cs : ClassId × ClassId × ClassId) (h0 sz k0 nc ns : Nat) (ks : List Nat) (σ0 : er_S) : Array Value → State → Outcome → State → Prop := fun _ st o t =>
  o = .returned none ∧ (∃ ad : Nat → Nat, ad k0 = h0 ∧ va_P D er_cl (er_ws (D, cs, ad, ks) σ0) t.heap ∧ va_D (er_A1 h0 sz) (er_ws (D, cs, ad, ks) σ0)) ∧ va_F (er_A1 h0 sz) st t ∧ er_FE (er_A1 h0 sz) st t nc ns
def er_CI (l : Launch) (y : MethodName) (w : Cond) (fr lo nc ns ci k0 : Nat) (fs : List Value) (ks : List Nat) (σ0 : er_S) : Prop :=
  ∀ (D : va_G) (cs : ClassId × ClassId × ClassId) (h0 sz : Nat), MetFree l y (headSpec [w] { frames := fr, cells := nc, slots := ns, locals := lo }) (er_PI D cs h0 sz ci fs) (fun _ _ _ _ _ => True) (er_QI D cs h0 sz k0 nc ns ks σ0)
end ERI
