/-! the call of a constructor on the object that was just made (the last cell of the list) -/
section ERK
variable {p : Program} {l : Launch} {e : Env} {R : Room} {s : State} {m : MethodId} {args : Array Value} {below : List Frame} {meth : Method} {c : Code} {Q : State → Prop} {H : Heap} {locs : List Loc} {cells slots pc : Nat} {ls : Array Slot} {rest : List Value} {D : va_G} {cs : ClassId × ClassId × ClassId} {A : Nat → Prop} {cc : ByteArray} {own : String} {ws : va_W}
theorem er_siteI (C : er_D p s m c cc own D cs A) {y : MethodName} {bytes : ByteArray} {maxL idx : Nat} (hyn : y.name = "<init>") (hyd : (parseMethodDescriptor y.desc).map (fun d => d.parameters.length) = some 0) (hy : y.cls ≠ "java/lang/invoke/MethodHandle" ∧ y.cls ≠ "java/lang/invoke/VarHandle") (hl : Cond.methodLink own idx y ∈ er_tbl ∨ ∃ host, Cond.methodLinkNest own idx y host ∈ er_tbl) (hin : Cond.instanceMethod y ∈ er_tbl) (hc : Cond.code y bytes maxL none ∈ er_tbl) {h1 : Nat} (hd : decode cc pc = .ok (.invokespecial idx, 3)) :
    er_Ent p l e R s m args below meth c cells slots H locs (F0 m pc ls (.ref h1 :: rest)) rest y #[Value.ref h1] := by
  intro T hT X
  have hpl : e.platform.magicAccessors = ({} : Platform).magicAccessors := by rw [X.admits.platform]
  have hlen : ∀ sig, parseMethodDescriptor y.desc = some sig → ([] : List Value).length = sig.parameters.length := fun sig h => by
    rw [h] at hyd
    exact (Option.some.inj hyd).symm
  rcases hl with hl | ⟨host, hl⟩
  · obtain ⟨mk, methM, cM, kP, vm₁, hnamed, -, -, -, -, -, -, -, hW₁, hstep₁⟩ := Steps.initColdArgs (e := e) X.here C.1 X.warmed hpl C.2.2.1 hyn hy (C.2.2.2.1.use (args := args) hl) (C.2.2.2.1.use hin) (C.2.2.2.1.use hc) (f := F0 m pc ls (.ref h1 :: rest)) rfl (argsL := []) (a := h1) (rest := rest) hlen rfl (by rw [C.2.1]; exact hd)
    exact ⟨vm₁, mk, X.noted hW₁, hnamed, hstep₁⟩
  · obtain ⟨mk, methM, cM, kP, vm₁, hnamed, -, -, -, -, -, -, -, hW₁, hstep₁⟩ := Steps.initColdArgsNest (e := e) X.here C.1 X.warmed hpl C.2.2.1 hyn hy (C.2.2.2.1.use (args := args) hl) (C.2.2.2.1.use hin) (C.2.2.2.1.use hc) (f := F0 m pc ls (.ref h1 :: rest)) rfl (argsL := []) (a := h1) (rest := rest) hlen rfl (by rw [C.2.1]; exact hd)
    exact ⟨vm₁, mk, X.noted hW₁, hnamed, hstep₁⟩
theorem ei_ctor (C : er_D p s m c cc own D cs A) (hZ : er_Z A s s.heap) {y : MethodName} {bytes : ByteArray} {maxL idx fr lo nc ns ci k0 : Nat} {fs : List Value} {kl : List Nat} {σ0 : er_S} (hM : er_CI l y (.code y bytes maxL none) fr lo nc ns ci k0 fs kl σ0) (hyn : y.name = "<init>") (hyd : (parseMethodDescriptor y.desc).map (fun d => d.parameters.length) = some 0) (hy : y.cls ≠ "java/lang/invoke/MethodHandle" ∧ y.cls ≠ "java/lang/invoke/VarHandle") (hl : Cond.methodLink own idx y ∈ er_tbl ∨ ∃ host, Cond.methodLinkNest own idx y host ∈ er_tbl) (hin : Cond.instanceMethod y ∈ er_tbl) (hc : Cond.code y bytes maxL none ∈ er_tbl) (hini : Cond.initialized y.cls ∈ er_tbl) {h1 : Nat} (hd : decode cc pc = .ok (.invokespecial idx, 3))
    (hml : c.maxLocals = ls.size) (hR : fr + 1 ≤ R.frames ∧ 8 + (maxL + 11) + lo ≤ R.locals ∧ cells + nc ≤ R.cells ∧ slots + ns ≤ R.slots) (hcat : (rest.map fun v => v.category).sum ≤ 8)
    (hP : va_P D er_cl (ws ++ [(h1, .inr (ci, fs))]) H) (hD : va_D A (ws ++ [(h1, .inr (ci, fs))])) (hS : va_S A s.heap H locs)
    (kk : ∀ (ad : Nat → Nat) (H1 : Heap) (locs1 : List Loc), ad k0 = h1 → va_P D er_cl (ws ++ er_ws (D, cs, ad, kl) σ0) H1 → va_D A (ws ++ er_ws (D, cs, ad, kl) σ0) → va_S A s.heap H1 locs1 → W p l e R s m args below meth c H1 locs1 (cells + nc) (slots + ns) Q (F0 m (pc + 3) ls rest)) : W p l e R s m args below meth c H locs cells slots Q (F0 m pc ls (.ref h1 :: rest)) := by
  intro T hT X
  obtain ⟨vm₁, mk, X₁, hnm, hgo⟩ := er_siteI (l := l) (e := e) (R := R) (H := H) (locs := locs) (cells := cells) (slots := slots) (below := below) (meth := meth) (args := args) (ls := ls) (rest := rest) C hyn hyd hy hl hin hc (h1 := h1) hd T hT X
  have hlast : (ws ++ [(h1, (Sum.inr (ci, fs) : va_E))])[ws.length]? = some (h1, .inr (ci, fs)) := by simp
  have hAh : A h1 := hD.2 _ _ hlast
  have hin1 : ∀ q, er_A1 h1 H.size q → A q := fun q h => by
    rcases h with rfl | h
    · exact hAh
    · exact C.2.2.2.2.2.2 q (Nat.le_trans hS.1 h)
  have hT1 : er_T (T.setVm vm₁) := C.2.2.2.1.warm X₁.warmed
  have hn2 := X₁.named hnm
  have hcb : (Cond.code y bytes maxL none).before #[Value.ref h1] (T.setVm vm₁) = true := hT1.use hc
  obtain ⟨methY, cY, hmY, hcY, -, hlY, -, -, -, -⟩ := Cond.code_spec hn2 hcb
  obtain ⟨kY, hkY, -⟩ := className_of_methodNamed hn2
  have hinitY : kY.init = .initialized := Cond.initialized_spec (findClass_of_methodNamed hn2) hkY (hT1.use (args := #[Value.ref h1]) hini)
  have hmon : (F0 m pc ls rest).monitorRoom = 0 := rfl
  have happ : (headSpec [.code y bytes maxL none] { frames := fr, cells := nc, slots := ns, locals := lo }).appliesLoose y e.platform ((T.setVm vm₁).calling (F0 m pc ls rest) mk #[Value.ref h1]) = true :=
    Spec.appliesLoose_calling (g := F0 m pc ls rest) X₁.here (by rw [C.2.1]; exact hd) hn2 hkY hinitY
      (X₁.room_calling (g := F0 m pc ls rest) (R' := { frames := fr, cells := nc, slots := ns, locals := lo }) hml.symm hmY hcY hR.1 (by
        show 2 * (F0 m pc ls rest).monitorRoom + (rest.map fun v => v.category).sum + (cY.maxLocals + 11) + lo ≤ R.locals
        rw [hlY, hmon]; have := hR.2.1; omega) hR.2.2.1 hR.2.2.2) (atoms_intro (ws := [.code y bytes maxL none]) (fun z hz => by rw [List.mem_singleton.mp hz]; exact hcb))
  obtain ⟨mid, hmid⟩ := X₁.here.above
  have hfr : ((T.setVm vm₁).setTop (F0 m pc ls rest)).frames = (.java (F0 m pc ls rest) :: mid) ++ below := by rw [State.frames_setTop' _ X₁.here.top, hmid]; rfl
  have hP1 : va_P D er_cl [(h1, .inr (ci, fs))] H := fun k q hk => by
    match k, hk with
    | 0, hk => cases hk; exact hP _ _ hlast
    | k + 1, hk => simp at hk
  have hZ1 : er_Z (er_A1 h1 H.size) ((T.setVm vm₁).calling (F0 m pc ls rest) mk #[Value.ref h1]) ((T.setVm vm₁).calling (F0 m pc ls rest) mk #[Value.ref h1]).heap := by
    have h3 : ((T.setVm vm₁).calling (F0 m pc ls rest) mk #[Value.ref h1]).heap = H := hT
    rw [h3]
    exact er_Z.moved (u := s) (U := (T.setVm vm₁).calling (F0 m pc ls rest) mk #[Value.ref h1]) X₁.warmed.alike ((hZ.kept hS.2.1).narrow hin1)
  have hPI : er_PI D cs h1 H.size ci fs #[Value.ref h1] ((T.setVm vm₁).calling (F0 m pc ls rest) mk #[Value.ref h1]) :=
    ⟨rfl, by show T.heap.size = H.size; rw [hT], by show va_P D er_cl _ T.heap; rw [hT]; exact hP1, va_K.moved (u := s) (U := (T.setVm vm₁).calling (F0 m pc ls rest) mk #[Value.ref h1]) X₁.warmed.alike C.2.2.2.2.1, hT1.same rfl, er_AC.warm (s := s) (U := (T.setVm vm₁).calling (F0 m pc ls rest) mk #[Value.ref h1]) X₁.warmed C.2.2.2.2.2.1, hZ1⟩
  obtain ⟨o, t, hsteps, -, hend, hou, ⟨ad, had, hPw, hDw⟩, ⟨hz, hk⟩, L, hW, hsm, hL⟩ := Steps.callFree (hM D cs h1 H.size) p X₁.admits X₁.cas X₁.clock (acts := []) hfr happ hPI trivial
  rw [State.frames_setTop' _ X₁.here.top, X₁.tail] at hend
  subst hou
  obtain ⟨T', X', -, -, ht⟩ := X₁.outOf (g := F0 m pc ls rest) rfl (by rw [C.2.1]; exact hd) hend hW hsm
  have hh : T'.heap = t.heap := by rw [ht]; rfl
  have hz : H.size ≤ t.heap.size := by rw [← hT]; exact hz
  have hk : ∀ q : Nat, q < H.size → ¬ er_A1 h1 H.size q → t.heap[q]? = H[q]? := fun q a1 a2 => by
    have := hk q (by show q < T.heap.size; rw [hT]; exact a1) a2
    rw [this]; show T.heap[q]? = H[q]?; rw [hT]
  have hpre : ∀ (k : Nat) (q : Nat × va_E), ws[k]? = some q → (ws ++ [(h1, (Sum.inr (ci, fs) : va_E))])[k]? = some q := fun k q hq => by
    rw [List.getElem?_append_left (List.getElem?_eq_some_iff.mp hq).1]; exact hq
  have hne : ∀ (k : Nat) (q : Nat × va_E), ws[k]? = some q → ¬ er_A1 h1 H.size q.1 := fun k q hq h => by
    rcases h with h | h
    · have := hD.1 k ws.length q _ (hpre k q hq) hlast h
      have := (List.getElem?_eq_some_iff.mp hq).1
      omega
    · have := (hP k q (hpre k q hq)).lt
      omega
  have hPf : va_P D er_cl (ws ++ er_ws (D, cs, ad, kl) σ0) t.heap := va_P.app (fun k q hq => (hP k q (hpre k q hq)).kept (hk q.1 (hP k q (hpre k q hq)).lt (hne k q hq))) hPw
  have hDf : va_D A (ws ++ er_ws (D, cs, ad, kl) σ0) := va_D.app ⟨fun i j x y hx hy e => hD.1 i j x y (hpre i x hx) (hpre j y hy) e, fun k q hq => hD.2 k q (hpre k q hq)⟩ (hDw.weaken (fun k q _ h => hin1 q.1 h)) (fun i j x y hx hy e => hne i x hx (by rw [e]; exact hDw.2 j y hy))
  have hS1 : va_S A s.heap t.heap (locs ++ L) := by
    refine ⟨Nat.le_trans hS.1 hz, fun q a1 a2 => ?_, fun q hq => ?_⟩
    · rw [hk q (Nat.lt_of_lt_of_le a1 hS.1) (fun h => a2 (hin1 q h))]
      exact hS.2.1 q a1 a2
    · rcases List.mem_append.mp hq with h | h
      · exact hS.2.2 q h
      · exact hin1 _ (hL q h)
  obtain ⟨t2, a1, b1⟩ := kk ad t.heap (locs ++ L) had hPf hDf hS1 T' hh X'
  refine ⟨t2, hgo t2 (fun acts => ?_), b1⟩
  rw [doInvoke_state]
  refine hsteps.trans ?_
  rw [ht]
  exact a1
end ERK
