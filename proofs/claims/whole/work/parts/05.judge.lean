/-! WORDS: those of the tables that ride on warmer tables -/
def er_nest : Cond → Bool
  | .fieldLinkNest .. => true
  | .methodLinkNest .. => true
  | .declares .. => true
  | .castable .. => true
  | _ => false
def er_ok (w : Cond) : Bool := w.onTables && (w.keeps || er_nest w)
def er_tbl : List Cond := lw_tbl.filter er_ok
def er_exc : Nat → String
  | 0 => "java/lang/IllegalArgumentException"
  | 1 => "java/lang/IndexOutOfBoundsException"
  | 2 => "java/lang/IllegalStateException"
  | _ => "java/lang/UnsupportedOperationException"
/-- the texts of the throws -/
def er_strs : List (String × Nat × String) := [("EntryRows", 216, "a number outside its range"), ("EntryRows", 56, "there are as many boards as may be"), ("EntryRows", 209, "an unknown number"), ("EntryRows", 224, "not in this state"), ("EntryRows", 112, "the team has as many members as may be"), ("EntryRows", 193, "no such what")]
def er_T (U : State) : Prop := (∀ w ∈ er_tbl, va_Nw w U) ∧ (∀ q ∈ er_strs, ∃ a, vk_R q.1 q.2.1 q.2.2 a U) ∧ ∀ j k, j < 4 → k < 4 → j ≠ k → va_Nc (er_exc j) (er_exc k) U
theorem er_T.warm {s U : State} (hW : s.WarmedH U.vm) (h : er_T s) : er_T U := by
  refine ⟨?_, fun q hq => by obtain ⟨a, ha⟩ := h.2.1 q hq; exact ⟨a, vk_R.warm hW ha⟩, fun j k a b c => va_Nc.moved hW.alike (h.2.2 j k a b c)⟩
  intro w hw
  have ho : er_ok w = true := (List.mem_filter.mp hw).2
  have hz := h.1 w hw
  unfold er_ok at ho
  rw [Bool.and_eq_true, Bool.or_eq_true] at ho
  obtain ⟨h1, h2⟩ := ho
  rcases h2 with h2 | h2
  · exact va_Nw.of (A := #[]) h1 (word_at hW (Or.inl (by rw [h1, h2]; rfl)) (va_Nw.use (A := #[]) h1 hz))
  · unfold er_nest at h2
    split at h2
    · exact va_Nw.warmF hW hz
    · exact va_Nw.warmM hW hz
    · exact va_Nw.warmD hW hz
    · obtain ⟨c3, c4, h3, h4, h5⟩ := Cond.castable_spec hz
      have al := hW.alike
      rw [← al.findClass] at h3 h4
      rw [← al.assignable] at h5
      simp [va_Nw, Cond.before, Cond.holds, Cond.value, h3, h4, h5]
    · cases h2
theorem er_T.use {s : State} (h : er_T s) {w : Cond} (hw : w ∈ er_tbl) {args : Array Value} : w.before args s = true := by
  have ho : er_ok w = true := (List.mem_filter.mp hw).2
  unfold er_ok at ho
  rw [Bool.and_eq_true] at ho
  exact va_Nw.use ho.1 (h.1 w hw)
theorem er_T.same {s U : State} (h : er_T s) (e : s.vm = U.vm) : er_T U := by
  refine ⟨?_, fun q hq => by obtain ⟨a, ha⟩ := h.2.1 q hq; exact ⟨a, vk_R.same e.symm ha⟩, fun j k a b c => va_Nc.moved (by rw [← e]; exact Vm.Alike.refl _) (h.2.2 j k a b c)⟩
  intro w hw
  have ho : er_ok w = true := (List.mem_filter.mp hw).2
  unfold er_ok at ho
  rw [Bool.and_eq_true] at ho
  exact va_Nw.same ho.1 e (h.1 w hw)
/-- the two statics that a Throwable's making reads lie outside A -/
def er_Z (A : Nat → Prop) (U : State) (H : Heap) : Prop := vx_Zq Bundle.tN "UNASSIGNED_STACK" Bundle.steD A U H ∧ vx_Zq Bundle.tN "SUPPRESSED_SENTINEL" Bundle.listD A U H
theorem er_Z.moved {A : Nat → Prop} {u U : State} {H : Heap} (hvm : u.vm.Alike U.vm) (h : er_Z A u H) : er_Z A U H := ⟨vx_Zq.moved hvm h.1, vx_Zq.moved hvm h.2⟩
theorem er_Z.kept {A : Nat → Prop} {U : State} {H H1 : Heap} (h : er_Z A U H) (hq : ∀ a : Nat, a < H.size → ¬ A a → H1[a]? = H[a]?) : er_Z A U H1 := ⟨h.1.kept hq, h.2.kept hq⟩
theorem er_Z.narrow {A B : Nat → Prop} {U : State} {H : Heap} (h : er_Z A U H) (hAB : ∀ q, B q → A q) : er_Z B U H := ⟨h.1.narrow hAB, h.2.narrow hAB⟩
/-- what a walk of one method stands on -/
def er_C (p : Program) (s : State) (m : MethodId) (c : Code) (cc : ByteArray) (own : String) (G : er_G) (A : Nat → Prop) (H0 : Heap) : Prop :=
  p.tables.exec = Jvm.exec ∧ c.code = cc ∧ s.vm.findClass own = some m.cls ∧ er_T s ∧ va_K G.1 er_cl (er_tys G) s ∧ (er_ks G).Nodup ∧ (∀ q, H0.size ≤ q → A q) ∧ er_Z A s H0
def er_al (G : er_G) : Nat → List (Option Value) → List (Nat × Value)
  | _, [] => []
  | i, none :: r => er_al G (i + 1) r
  | i, some v :: r => (i, er_cz G v) :: er_al G (i + 1) r
def er_lk : List (Option Value) → Nat → Option Value
  | [], _ => none
  | a :: _, 0 => a
  | _ :: r, i + 1 => er_lk r i
def er_st : List (Option Value) → Nat → Value → List (Option Value)
  | [], _, _ => []
  | _ :: r, 0, v => some v :: r
  | a :: r, i + 1, v => a :: er_st r i v
theorem er_al_mem (G : er_G) : ∀ (lv : List (Option Value)) (i j : Nat) (v : Value), er_lk lv j = some v → (i + j, er_cz G v) ∈ er_al G i lv := by
  intro lv
  induction lv with
  | nil => intro i j v h; cases h
  | cons a r ih =>
    intro i j v h
    cases j with
    | zero =>
      have h : a = some v := h
      subst h
      exact List.mem_cons_self
    | succ j =>
      have h2 := ih (i + 1) j v h
      rw [show i + 1 + j = i + (j + 1) by omega] at h2
      cases a with
      | none => exact h2
      | some w => exact List.mem_cons_of_mem _ h2
theorem er_al_inv (G : er_G) : ∀ (lv : List (Option Value)) (i : Nat) (q : Nat × Value), q ∈ er_al G i lv → ∃ j v, q = (i + j, er_cz G v) ∧ er_lk lv j = some v := by
  intro lv
  induction lv with
  | nil => intro i q h; cases h
  | cons a r ih =>
    intro i q h
    cases a with
    | none =>
      obtain ⟨j, v, e, h2⟩ := ih (i + 1) q h
      exact ⟨j + 1, v, by rw [e]; congr 1; omega, h2⟩
    | some w =>
      rcases List.mem_cons.mp h with h | h
      · exact ⟨0, w, h, rfl⟩
      · obtain ⟨j, v, e, h2⟩ := ih (i + 1) q h
        exact ⟨j + 1, v, by rw [e]; congr 1; omega, h2⟩
theorem er_lk_st : ∀ (lv : List (Option Value)) (i j : Nat) (v w : Value), er_lk (er_st lv i v) j = some w → (j = i ∧ w = v) ∨ (j ≠ i ∧ er_lk lv j = some w) := by
  intro lv
  induction lv with
  | nil => intro i j v w h; cases h
  | cons a r ih =>
    intro i j v w h
    cases i with
    | zero =>
      cases j with
      | zero => exact Or.inl ⟨rfl, (Option.some.inj h).symm⟩
      | succ j => exact Or.inr ⟨by omega, h⟩
    | succ i =>
      cases j with
      | zero => exact Or.inr ⟨by omega, h⟩
      | succ j =>
        rcases ih i j v w h with ⟨e1, e2⟩ | ⟨e1, e2⟩
        · exact Or.inl ⟨by omega, e2⟩
        · exact Or.inr ⟨by omega, e2⟩
theorem er_st_len : ∀ (lv : List (Option Value)) (i : Nat) (v : Value), (er_st lv i v).length = lv.length := by
  intro lv
  induction lv with
  | nil => intro i v; rfl
  | cons a r ih =>
    intro i v
    cases i with
    | zero => rfl
    | succ i => simp [er_st, ih]
/-- fewer locals are told -/
def er_le : List (Option Value) → List (Option Value) → Prop
  | [], [] => True
  | none :: r, _ :: t => er_le r t
  | some v :: r, some w :: t => v = w ∧ er_le r t
  | _, _ => False
theorem er_le_len : ∀ (a b : List (Option Value)), er_le a b → a.length = b.length := by
  intro a
  induction a with
  | nil => intro b h; cases b with | nil => rfl | cons => cases h
  | cons x r ih =>
    intro b h
    cases b with
    | nil => cases x <;> cases h
    | cons y t =>
      cases x with
      | none => simp [ih t h]
      | some v =>
        cases y with
        | none => cases h
        | some w => simp [ih t h.2]
theorem er_le_lk : ∀ (a b : List (Option Value)), er_le a b → ∀ (j : Nat) (v : Value), er_lk a j = some v → er_lk b j = some v := by
  intro a
  induction a with
  | nil => intro b _ j v h; cases h
  | cons x r ih =>
    intro b h j v hj
    cases b with
    | nil => cases x <;> cases h
    | cons y t =>
      cases x with
      | none =>
        cases j with
        | zero => cases hj
        | succ j => exact ih t h j v hj
      | some v' =>
        cases y with
        | none => cases h
        | some w =>
          cases j with
          | zero =>
            have hj : some v' = some v := hj
            show some w = some v
            rw [← h.1]
            exact hj
          | succ j => exact ih t h.2 j v hj
theorem er_has_le {G : er_G} {ls : Array Slot} {a b : List (Option Value)} (h : er_le a b) (hl : lv_has ls b.length (er_al G 0 b)) : lv_has ls a.length (er_al G 0 a) := by
  obtain ⟨h1, h2, h3⟩ := hl
  refine ⟨by rw [er_le_len a b h]; exact h1, h2, fun q hq => ?_⟩
  obtain ⟨j, v, e, hj⟩ := er_al_inv G a 0 q hq
  subst e
  exact h3 _ (er_al_mem G b 0 j v (er_le_lk a b h j v hj))
theorem er_cat {G : er_G} {v : Value} (h : v.category = 1) : (er_cz G v).category = 1 := by
  cases v <;> first | exact h | rfl
theorem er_has_st {G : er_G} {ls : Array Slot} {lv lv' : List (Option Value)} {i : Nat} {v : Value} (hl : lv_has ls lv.length (er_al G 0 lv)) (hc : ∀ j w, er_lk lv j = some w → w.category = 1) (hi : i < lv.length) (hv : v.category = 1) (hs : er_st lv i v = lv') :
    ∃ ls', storeLocals ls i (er_cz G v) = some ls' ∧ lv_has ls' lv'.length (er_al G 0 lv') := by
  subst hs
  obtain ⟨ls', e, h1, h2, h3⟩ := lv_store1 (v := er_cz G v) hl hi (er_cat hv)
  refine ⟨ls', e, by rw [er_st_len]; exact h1, h2, fun q hq => ?_⟩
  obtain ⟨j, w, e2, hj⟩ := er_al_inv G _ 0 q hq
  subst e2
  rcases er_lk_st lv i j v w hj with ⟨a1, a2⟩ | ⟨a1, a2⟩
  · subst a1; subst a2
    simpa using h3 (j, er_cz G w) List.mem_cons_self
  · refine h3 _ (List.mem_cons_of_mem _ (List.mem_filter.mpr ⟨er_al_mem G lv 0 j w a2, ?_⟩))
    have : (er_cz G w).category = 1 := er_cat (hc j w a2)
    simp [this, a1]
/-- no local takes two slots -/
def er_c1 : List (Option Value) → Bool
  | [] => true
  | none :: r => er_c1 r
  | some v :: r => (v.category == 1) && er_c1 r
theorem er_c1_lk : ∀ (lv : List (Option Value)), er_c1 lv = true → ∀ (j : Nat) (w : Value), er_lk lv j = some w → w.category = 1 := by
  intro lv
  induction lv with
  | nil => intro _ j w h; cases h
  | cons a r ih =>
    intro h j w hj
    cases a with
    | none =>
      cases j with
      | zero => cases hj
      | succ j => exact ih h j w hj
    | some v =>
      have h : ((v.category == 1) && er_c1 r) = true := h
      rw [Bool.and_eq_true] at h
      cases j with
      | zero =>
        have hj : some v = some w := hj
        cases hj
        exact eq_of_beq h.1
      | succ j => exact ih h.2 j w hj
section ERJ
variable {p : Program} {l : Launch} {e : Env} {R : Room} {s : State} {m : MethodId} {args : Array Value} {below : List Frame} {meth : Method} {c : Code} {Q : State → Prop} {G : er_G} {A : Nat → Prop} {H0 : Heap} {kc ks : Nat} {σ : er_S} {pc : Nat} {lv lv' : List (Option Value)} {st : List Value} {cc : ByteArray} {own : String}
/-- THE JUDGEMENT: from every heap that holds σ, with the locals lv (where told) and the stack st, the machine comes to Q -/
def er_J (p : Program) (l : Launch) (e : Env) (R : Room) (s : State) (m : MethodId) (args : Array Value) (below : List Frame) (meth : Method) (c : Code) (G : er_G) (A : Nat → Prop) (H0 : Heap) (Q : State → Prop) (kc ks : Nat) (σ : er_S) (pc : Nat) (lv : List (Option Value)) (st : List Value) : Prop :=
  ∀ (H : Heap) (locs : List Loc) (ls : Array Slot), va_P G.1 er_cl (er_ws G σ) H → va_D A (er_ws G σ) → va_S A H0 H locs → lv_has ls lv.length (er_al G 0 lv) → W p l e R s m args below meth c H locs kc ks Q (F0 m pc ls (st.map (er_cz G)))
theorem ej_le (h : er_le lv' lv) (k : er_J p l e R s m args below meth c G A H0 Q kc ks σ pc lv' st) : er_J p l e R s m args below meth c G A H0 Q kc ks σ pc lv st :=
  fun H locs ls hP hD hS hl => k H locs ls hP hD hS (er_has_le h hl)
theorem ej_iconst (C : er_C p s m c cc own G A H0) {n : Int} {v : Int32} (hd : decode cc pc = .ok (.iconst n, 1)) (hv : Int32.ofInt n = v) (k : er_J p l e R s m args below meth c G A H0 Q kc ks σ (pc + 1) lv (.int v :: st)) : er_J p l e R s m args below meth c G A H0 Q kc ks σ pc lv st :=
  fun H locs ls hP hD hS hl => lv_iconst C.1 C.2.1 hd hv (k H locs ls hP hD hS hl)
theorem ej_bipush (C : er_C p s m c cc own G A H0) {n : Int} {v : Int32} (hd : decode cc pc = .ok (.bipush n, 2)) (hv : (Int8.ofInt n).toInt32 = v) (k : er_J p l e R s m args below meth c G A H0 Q kc ks σ (pc + 2) lv (.int v :: st)) : er_J p l e R s m args below meth c G A H0 Q kc ks σ pc lv st :=
  fun H locs ls hP hD hS hl => lv_bipush C.1 C.2.1 hd hv (k H locs ls hP hD hS hl)
theorem ej_sipush (C : er_C p s m c cc own G A H0) {n : Int} {v : Int32} (hd : decode cc pc = .ok (.sipush n, 3)) (hv : (Int16.ofInt n).toInt32 = v) (k : er_J p l e R s m args below meth c G A H0 Q kc ks σ (pc + 3) lv (.int v :: st)) : er_J p l e R s m args below meth c G A H0 Q kc ks σ pc lv st :=
  fun H locs ls hP hD hS hl => lv_sipush C.1 C.2.1 hd hv (k H locs ls hP hD hS hl)
theorem ej_ldc (C : er_C p s m c cc own G A H0) {index : Nat} {v : Int32} (hw : Cond.constant own index v ∈ er_tbl) (hd : decode cc pc = .ok (.ldc index, 2)) (k : er_J p l e R s m args below meth c G A H0 Q kc ks σ (pc + 2) lv (.int v :: st)) : er_J p l e R s m args below meth c G A H0 Q kc ks σ pc lv st :=
  fun H locs ls hP hD hS hl => lv_ldc C.1 C.2.1 C.2.2.1 (C.2.2.2.1.use hw) hd (k H locs ls hP hD hS hl)
theorem er_has_lk {ls : Array Slot} (hl : lv_has ls lv.length (er_al G 0 lv)) {i : Nat} {v : Value} (hv : er_lk lv i = some v) : ls[i]? = some (.val (er_cz G v)) := by
  have h := hl.2.2 _ (er_al_mem G lv 0 i v hv)
  simpa using h
theorem ej_iload_n (C : er_C p s m c cc own G A H0) {i : Fin 4} {x : Int32} (hd : decode cc pc = .ok (.iload_n i, 1)) (hv : er_lk lv i.val = some (.int x)) (k : er_J p l e R s m args below meth c G A H0 Q kc ks σ (pc + 1) lv (.int x :: st)) : er_J p l e R s m args below meth c G A H0 Q kc ks σ pc lv st :=
  fun H locs ls hP hD hS hl => lv_iload_n C.1 C.2.1 hd rfl (er_has_lk hl hv) (k H locs ls hP hD hS hl)
theorem ej_iload (C : er_C p s m c cc own G A H0) {i : Nat} {x : Int32} (hd : decode cc pc = .ok (.iload i, 2)) (hv : er_lk lv i = some (.int x)) (k : er_J p l e R s m args below meth c G A H0 Q kc ks σ (pc + 2) lv (.int x :: st)) : er_J p l e R s m args below meth c G A H0 Q kc ks σ pc lv st :=
  fun H locs ls hP hD hS hl => lv_iload C.1 C.2.1 hd (er_has_lk hl hv) (k H locs ls hP hD hS hl)
theorem ej_aload_n (C : er_C p s m c cc own G A H0) {i : Fin 4} {x : Nat} (hd : decode cc pc = .ok (.aload_n i, 1)) (hv : er_lk lv i.val = some (.ref x)) (k : er_J p l e R s m args below meth c G A H0 Q kc ks σ (pc + 1) lv (.ref x :: st)) : er_J p l e R s m args below meth c G A H0 Q kc ks σ pc lv st :=
  fun H locs ls hP hD hS hl => lv_aload_n C.1 C.2.1 hd rfl (er_has_lk hl hv) (k H locs ls hP hD hS hl)
theorem ej_aload (C : er_C p s m c cc own G A H0) {i : Nat} {x : Nat} (hd : decode cc pc = .ok (.aload i, 2)) (hv : er_lk lv i = some (.ref x)) (k : er_J p l e R s m args below meth c G A H0 Q kc ks σ (pc + 2) lv (.ref x :: st)) : er_J p l e R s m args below meth c G A H0 Q kc ks σ pc lv st :=
  fun H locs ls hP hD hS hl => lv_aload C.1 C.2.1 hd (er_has_lk hl hv) (k H locs ls hP hD hS hl)
theorem er_al_int (hc : er_c1 lv = true) {ls : Array Slot} {i : Nat} {x : Int32} (hl : lv_has ls lv.length (er_al G 0 lv)) (hs : er_st lv i (.int x) = lv') (q : Nat × Value) (hq : q ∈ er_al G 0 lv') : q ∈ (i, Value.int x) :: (er_al G 0 lv).filter (fun q => !(q.1 == i) && !(q.1 + 1 == i && q.2.category == 2)) := by
  subst hs
  obtain ⟨j, w, e2, hj⟩ := er_al_inv G _ 0 q hq
  subst e2
  rcases er_lk_st lv i j (.int x) w hj with ⟨a1, a2⟩ | ⟨a1, a2⟩
  · subst a1; subst a2
    have : (0 + j, er_cz G (Value.int x)) = (j, Value.int x) := by rw [Nat.zero_add]; rfl
    rw [this]
    exact List.mem_cons_self
  · refine List.mem_cons_of_mem _ (List.mem_filter.mpr ⟨er_al_mem G lv 0 j w a2, ?_⟩)
    have : (er_cz G w).category = 1 := er_cat (er_c1_lk lv hc j w a2)
    simp [this, a1]
theorem er_keep (hc : er_c1 lv = true) {ls ls' : Array Slot} {i : Nat} {x : Int32} (hl : lv_has ls lv.length (er_al G 0 lv)) (hs : er_st lv i (.int x) = lv') (h : lv_has ls' lv.length ((i, Value.int x) :: (er_al G 0 lv).filter (fun q => !(q.1 == i) && !(q.1 + 1 == i && q.2.category == 2)))) : lv_has ls' lv'.length (er_al G 0 lv') := by
  refine ⟨by rw [← hs, er_st_len]; exact h.1, h.2.1, fun q hq => h.2.2 q (er_al_int hc hl hs q hq)⟩
theorem ej_istore_n (C : er_C p s m c cc own G A H0) {i : Fin 4} {x : Int32} (hd : decode cc pc = .ok (.istore_n i, 1)) (hc : er_c1 lv = true) (hi : Nat.blt i.val lv.length = true) (hs : er_st lv i.val (.int x) = lv') (k : er_J p l e R s m args below meth c G A H0 Q kc ks σ (pc + 1) lv' st) : er_J p l e R s m args below meth c G A H0 Q kc ks σ pc lv (.int x :: st) :=
  fun H locs ls hP hD hS hl => lv_istore_n C.1 C.2.1 hd rfl hl (Nat.le_of_ble_eq_true hi) rfl (fun ls' hl' => k H locs ls' hP hD hS (er_keep hc hl hs hl'))
theorem ej_istore (C : er_C p s m c cc own G A H0) {i : Nat} {x : Int32} (hd : decode cc pc = .ok (.istore i, 2)) (hc : er_c1 lv = true) (hi : Nat.blt i lv.length = true) (hs : er_st lv i (.int x) = lv') (k : er_J p l e R s m args below meth c G A H0 Q kc ks σ (pc + 2) lv' st) : er_J p l e R s m args below meth c G A H0 Q kc ks σ pc lv (.int x :: st) :=
  fun H locs ls hP hD hS hl => lv_istore C.1 C.2.1 hd hl (Nat.le_of_ble_eq_true hi) rfl (fun ls' hl' => k H locs ls' hP hD hS (er_keep hc hl hs hl'))
theorem ej_iinc (C : er_C p s m c cc own G A H0) {i : Nat} {n : Int} {x v : Int32} (hd : decode cc pc = .ok (.iinc i n, 3)) (hc : er_c1 lv = true) (hi : Nat.blt i lv.length = true) (hx : er_lk lv i = some (.int x)) (hv : x + Int32.ofInt n = v) (hs : er_st lv i (.int v) = lv') (k : er_J p l e R s m args below meth c G A H0 Q kc ks σ (pc + 3) lv' st) : er_J p l e R s m args below meth c G A H0 Q kc ks σ pc lv st :=
  fun H locs ls hP hD hS hl => by
    obtain ⟨q, hq⟩ := List.getElem?_of_mem (er_al_mem G lv 0 i (.int x) hx)
    rw [Nat.zero_add] at hq
    exact lv_iinc C.1 C.2.1 hd hl (k := q) (x := x) hq hv (Nat.le_of_ble_eq_true hi) rfl (fun ls' hl' => k H locs ls' hP hD hS (er_keep hc hl hs hl'))
theorem ej_iadd (C : er_C p s m c cc own G A H0) {x y : Int32} (hd : decode cc pc = .ok (.iadd, 1)) (k : er_J p l e R s m args below meth c G A H0 Q kc ks σ (pc + 1) lv (.int (x + y) :: st)) : er_J p l e R s m args below meth c G A H0 Q kc ks σ pc lv (.int y :: .int x :: st) :=
  fun H locs ls hP hD hS hl => lv_iadd C.1 C.2.1 hd (k H locs ls hP hD hS hl)
theorem ej_isub (C : er_C p s m c cc own G A H0) {x y : Int32} (hd : decode cc pc = .ok (.isub, 1)) (k : er_J p l e R s m args below meth c G A H0 Q kc ks σ (pc + 1) lv (.int (x - y) :: st)) : er_J p l e R s m args below meth c G A H0 Q kc ks σ pc lv (.int y :: .int x :: st) :=
  fun H locs ls hP hD hS hl => lv_isub C.1 C.2.1 hd (k H locs ls hP hD hS hl)
theorem ej_imul (C : er_C p s m c cc own G A H0) {x y : Int32} (hd : decode cc pc = .ok (.imul, 1)) (k : er_J p l e R s m args below meth c G A H0 Q kc ks σ (pc + 1) lv (.int (x * y) :: st)) : er_J p l e R s m args below meth c G A H0 Q kc ks σ pc lv (.int y :: .int x :: st) :=
  fun H locs ls hP hD hS hl => lv_imul C.1 C.2.1 hd (k H locs ls hP hD hS hl)
theorem ej_iand (C : er_C p s m c cc own G A H0) {x y : Int32} (hd : decode cc pc = .ok (.iand, 1)) (k : er_J p l e R s m args below meth c G A H0 Q kc ks σ (pc + 1) lv (.int (x &&& y) :: st)) : er_J p l e R s m args below meth c G A H0 Q kc ks σ pc lv (.int y :: .int x :: st) :=
  fun H locs ls hP hD hS hl => lv_iand C.1 C.2.1 hd (k H locs ls hP hD hS hl)
theorem ej_ior (C : er_C p s m c cc own G A H0) {x y : Int32} (hd : decode cc pc = .ok (.ior, 1)) (k : er_J p l e R s m args below meth c G A H0 Q kc ks σ (pc + 1) lv (.int (x ||| y) :: st)) : er_J p l e R s m args below meth c G A H0 Q kc ks σ pc lv (.int y :: .int x :: st) :=
  fun H locs ls hP hD hS hl => lv_ior C.1 C.2.1 hd (k H locs ls hP hD hS hl)
theorem ej_ixor (C : er_C p s m c cc own G A H0) {x y : Int32} (hd : decode cc pc = .ok (.ixor, 1)) (k : er_J p l e R s m args below meth c G A H0 Q kc ks σ (pc + 1) lv (.int (x ^^^ y) :: st)) : er_J p l e R s m args below meth c G A H0 Q kc ks σ pc lv (.int y :: .int x :: st) :=
  fun H locs ls hP hD hS hl => lv_ixor C.1 C.2.1 hd (k H locs ls hP hD hS hl)
theorem ej_irem (C : er_C p s m c cc own G A H0) {x y : Int32} (hd : decode cc pc = .ok (.irem, 1)) (hne : ¬ y = 0) (k : er_J p l e R s m args below meth c G A H0 Q kc ks σ (pc + 1) lv (.int (x - x / y * y) :: st)) : er_J p l e R s m args below meth c G A H0 Q kc ks σ pc lv (.int y :: .int x :: st) :=
  fun H locs ls hP hD hS hl => lv_irem C.1 C.2.1 hd hne (k H locs ls hP hD hS hl)
theorem ej_ineg (C : er_C p s m c cc own G A H0) {x : Int32} (hd : decode cc pc = .ok (.ineg, 1)) (k : er_J p l e R s m args below meth c G A H0 Q kc ks σ (pc + 1) lv (.int (-x) :: st)) : er_J p l e R s m args below meth c G A H0 Q kc ks σ pc lv (.int x :: st) :=
  fun H locs ls hP hD hS hl => lv_ineg C.1 C.2.1 hd (k H locs ls hP hD hS hl)
theorem ej_ishl (C : er_C p s m c cc own G A H0) {x y : Int32} (hd : decode cc pc = .ok (.ishl, 1)) (k : er_J p l e R s m args below meth c G A H0 Q kc ks σ (pc + 1) lv (.int (x <<< (y &&& 31)) :: st)) : er_J p l e R s m args below meth c G A H0 Q kc ks σ pc lv (.int y :: .int x :: st) :=
  fun H locs ls hP hD hS hl => lv_ishl C.1 C.2.1 hd (k H locs ls hP hD hS hl)
theorem ej_iushr (C : er_C p s m c cc own G A H0) {x y : Int32} (hd : decode cc pc = .ok (.iushr, 1)) (k : er_J p l e R s m args below meth c G A H0 Q kc ks σ (pc + 1) lv (.int ((x.toUInt32 >>> (y.toUInt32 &&& Int32.toUInt32 31)).toInt32) :: st)) : er_J p l e R s m args below meth c G A H0 Q kc ks σ pc lv (.int y :: .int x :: st) :=
  fun H locs ls hP hD hS hl => lv_iushr C.1 C.2.1 hd rfl (k H locs ls hP hD hS hl)
theorem ej_i2l (C : er_C p s m c cc own G A H0) {x : Int32} (hd : decode cc pc = .ok (.i2l, 1)) (k : er_J p l e R s m args below meth c G A H0 Q kc ks σ (pc + 1) lv (.long x.toInt64 :: st)) : er_J p l e R s m args below meth c G A H0 Q kc ks σ pc lv (.int x :: st) :=
  fun H locs ls hP hD hS hl => lv_i2l C.1 C.2.1 hd rfl (k H locs ls hP hD hS hl)
theorem ej_lcmp (C : er_C p s m c cc own G A H0) {x y : Int64} (hd : decode cc pc = .ok (.lcmp, 1)) (k : er_J p l e R s m args below meth c G A H0 Q kc ks σ (pc + 1) lv (.int (lg_cmp x y) :: st)) : er_J p l e R s m args below meth c G A H0 Q kc ks σ pc lv (.long y :: .long x :: st) :=
  fun H locs ls hP hD hS hl => W.lcmp C.1 C.2.1 hd (k H locs ls hP hD hS hl)
theorem ej_dup (C : er_C p s m c cc own G A H0) {v : Value} (hd : decode cc pc = .ok (.dup, 1)) (hv : v.category = 1) (k : er_J p l e R s m args below meth c G A H0 Q kc ks σ (pc + 1) lv (v :: v :: st)) : er_J p l e R s m args below meth c G A H0 Q kc ks σ pc lv (v :: st) :=
  fun H locs ls hP hD hS hl => lv_dup C.1 C.2.1 hd (er_cat hv) (k H locs ls hP hD hS hl)
theorem ej_dup2 (C : er_C p s m c cc own G A H0) {v w : Value} (hd : decode cc pc = .ok (.dup2, 1)) (hv : v.category = 1) (hw : w.category = 1) (k : er_J p l e R s m args below meth c G A H0 Q kc ks σ (pc + 1) lv (v :: w :: v :: w :: st)) : er_J p l e R s m args below meth c G A H0 Q kc ks σ pc lv (v :: w :: st) :=
  fun H locs ls hP hD hS hl => lv_dup2_11 C.1 C.2.1 hd (er_cat hv) (er_cat hw) (k H locs ls hP hD hS hl)
theorem ej_goto (C : er_C p s m c cc own G A H0) {off : Int} {tgt : Nat} (hd : decode cc pc = .ok (.goto off, 3)) (ht : (pc : Int) + off = (tgt : Int)) (k : er_J p l e R s m args below meth c G A H0 Q kc ks σ tgt lv st) : er_J p l e R s m args below meth c G A H0 Q kc ks σ pc lv st :=
  fun H locs ls hP hD hS hl => lv_goto C.1 C.2.1 hd ht (k H locs ls hP hD hS hl)
theorem ej_if_eq (C : er_C p s m c cc own G A H0) {x : Int32} {off : Int} {tgt : Nat} (hd : decode cc pc = .ok (.ifCond .eq off, 3)) (ht : (pc : Int) + off = (tgt : Int)) (kt : x = 0 → er_J p l e R s m args below meth c G A H0 Q kc ks σ tgt lv st) (kf : ¬ x = 0 → er_J p l e R s m args below meth c G A H0 Q kc ks σ (pc + 3) lv st) : er_J p l e R s m args below meth c G A H0 Q kc ks σ pc lv (.int x :: st) :=
  fun H locs ls hP hD hS hl => lv_if_eq C.1 C.2.1 hd ht (fun q => kt q H locs ls hP hD hS hl) (fun q => kf q H locs ls hP hD hS hl)
theorem ej_icmp_eq (C : er_C p s m c cc own G A H0) {x y : Int32} {off : Int} {tgt : Nat} (hd : decode cc pc = .ok (.if_icmp .eq off, 3)) (ht : (pc : Int) + off = (tgt : Int)) (kt : x = y → er_J p l e R s m args below meth c G A H0 Q kc ks σ tgt lv st) (kf : ¬ x = y → er_J p l e R s m args below meth c G A H0 Q kc ks σ (pc + 3) lv st) : er_J p l e R s m args below meth c G A H0 Q kc ks σ pc lv (.int y :: .int x :: st) :=
  fun H locs ls hP hD hS hl => lv_icmp_eq C.1 C.2.1 hd ht (fun q => kt q H locs ls hP hD hS hl) (fun q => kf q H locs ls hP hD hS hl)
theorem ej_if_ne (C : er_C p s m c cc own G A H0) {x : Int32} {off : Int} {tgt : Nat} (hd : decode cc pc = .ok (.ifCond .ne off, 3)) (ht : (pc : Int) + off = (tgt : Int)) (kt : ¬ x = 0 → er_J p l e R s m args below meth c G A H0 Q kc ks σ tgt lv st) (kf : x = 0 → er_J p l e R s m args below meth c G A H0 Q kc ks σ (pc + 3) lv st) : er_J p l e R s m args below meth c G A H0 Q kc ks σ pc lv (.int x :: st) :=
  fun H locs ls hP hD hS hl => lv_if_ne C.1 C.2.1 hd ht (fun q => kt q H locs ls hP hD hS hl) (fun q => kf q H locs ls hP hD hS hl)
theorem ej_icmp_ne (C : er_C p s m c cc own G A H0) {x y : Int32} {off : Int} {tgt : Nat} (hd : decode cc pc = .ok (.if_icmp .ne off, 3)) (ht : (pc : Int) + off = (tgt : Int)) (kt : ¬ x = y → er_J p l e R s m args below meth c G A H0 Q kc ks σ tgt lv st) (kf : x = y → er_J p l e R s m args below meth c G A H0 Q kc ks σ (pc + 3) lv st) : er_J p l e R s m args below meth c G A H0 Q kc ks σ pc lv (.int y :: .int x :: st) :=
  fun H locs ls hP hD hS hl => lv_icmp_ne C.1 C.2.1 hd ht (fun q => kt q H locs ls hP hD hS hl) (fun q => kf q H locs ls hP hD hS hl)
theorem ej_if_lt (C : er_C p s m c cc own G A H0) {x : Int32} {off : Int} {tgt : Nat} (hd : decode cc pc = .ok (.ifCond .lt off, 3)) (ht : (pc : Int) + off = (tgt : Int)) (kt : x < 0 → er_J p l e R s m args below meth c G A H0 Q kc ks σ tgt lv st) (kf : ¬ x < 0 → er_J p l e R s m args below meth c G A H0 Q kc ks σ (pc + 3) lv st) : er_J p l e R s m args below meth c G A H0 Q kc ks σ pc lv (.int x :: st) :=
  fun H locs ls hP hD hS hl => lv_if_lt C.1 C.2.1 hd ht (fun q => kt q H locs ls hP hD hS hl) (fun q => kf q H locs ls hP hD hS hl)
theorem ej_icmp_lt (C : er_C p s m c cc own G A H0) {x y : Int32} {off : Int} {tgt : Nat} (hd : decode cc pc = .ok (.if_icmp .lt off, 3)) (ht : (pc : Int) + off = (tgt : Int)) (kt : x < y → er_J p l e R s m args below meth c G A H0 Q kc ks σ tgt lv st) (kf : ¬ x < y → er_J p l e R s m args below meth c G A H0 Q kc ks σ (pc + 3) lv st) : er_J p l e R s m args below meth c G A H0 Q kc ks σ pc lv (.int y :: .int x :: st) :=
  fun H locs ls hP hD hS hl => lv_icmp_lt C.1 C.2.1 hd ht (fun q => kt q H locs ls hP hD hS hl) (fun q => kf q H locs ls hP hD hS hl)
theorem ej_if_ge (C : er_C p s m c cc own G A H0) {x : Int32} {off : Int} {tgt : Nat} (hd : decode cc pc = .ok (.ifCond .ge off, 3)) (ht : (pc : Int) + off = (tgt : Int)) (kt : 0 ≤ x → er_J p l e R s m args below meth c G A H0 Q kc ks σ tgt lv st) (kf : ¬ 0 ≤ x → er_J p l e R s m args below meth c G A H0 Q kc ks σ (pc + 3) lv st) : er_J p l e R s m args below meth c G A H0 Q kc ks σ pc lv (.int x :: st) :=
  fun H locs ls hP hD hS hl => lv_if_ge C.1 C.2.1 hd ht (fun q => kt q H locs ls hP hD hS hl) (fun q => kf q H locs ls hP hD hS hl)
theorem ej_icmp_ge (C : er_C p s m c cc own G A H0) {x y : Int32} {off : Int} {tgt : Nat} (hd : decode cc pc = .ok (.if_icmp .ge off, 3)) (ht : (pc : Int) + off = (tgt : Int)) (kt : y ≤ x → er_J p l e R s m args below meth c G A H0 Q kc ks σ tgt lv st) (kf : ¬ y ≤ x → er_J p l e R s m args below meth c G A H0 Q kc ks σ (pc + 3) lv st) : er_J p l e R s m args below meth c G A H0 Q kc ks σ pc lv (.int y :: .int x :: st) :=
  fun H locs ls hP hD hS hl => lv_icmp_ge C.1 C.2.1 hd ht (fun q => kt q H locs ls hP hD hS hl) (fun q => kf q H locs ls hP hD hS hl)
theorem ej_if_gt (C : er_C p s m c cc own G A H0) {x : Int32} {off : Int} {tgt : Nat} (hd : decode cc pc = .ok (.ifCond .gt off, 3)) (ht : (pc : Int) + off = (tgt : Int)) (kt : 0 < x → er_J p l e R s m args below meth c G A H0 Q kc ks σ tgt lv st) (kf : ¬ 0 < x → er_J p l e R s m args below meth c G A H0 Q kc ks σ (pc + 3) lv st) : er_J p l e R s m args below meth c G A H0 Q kc ks σ pc lv (.int x :: st) :=
  fun H locs ls hP hD hS hl => lv_if_gt C.1 C.2.1 hd ht (fun q => kt q H locs ls hP hD hS hl) (fun q => kf q H locs ls hP hD hS hl)
theorem ej_icmp_gt (C : er_C p s m c cc own G A H0) {x y : Int32} {off : Int} {tgt : Nat} (hd : decode cc pc = .ok (.if_icmp .gt off, 3)) (ht : (pc : Int) + off = (tgt : Int)) (kt : y < x → er_J p l e R s m args below meth c G A H0 Q kc ks σ tgt lv st) (kf : ¬ y < x → er_J p l e R s m args below meth c G A H0 Q kc ks σ (pc + 3) lv st) : er_J p l e R s m args below meth c G A H0 Q kc ks σ pc lv (.int y :: .int x :: st) :=
  fun H locs ls hP hD hS hl => lv_icmp_gt C.1 C.2.1 hd ht (fun q => kt q H locs ls hP hD hS hl) (fun q => kf q H locs ls hP hD hS hl)
theorem ej_if_le (C : er_C p s m c cc own G A H0) {x : Int32} {off : Int} {tgt : Nat} (hd : decode cc pc = .ok (.ifCond .le off, 3)) (ht : (pc : Int) + off = (tgt : Int)) (kt : x ≤ 0 → er_J p l e R s m args below meth c G A H0 Q kc ks σ tgt lv st) (kf : ¬ x ≤ 0 → er_J p l e R s m args below meth c G A H0 Q kc ks σ (pc + 3) lv st) : er_J p l e R s m args below meth c G A H0 Q kc ks σ pc lv (.int x :: st) :=
  fun H locs ls hP hD hS hl => lv_if_le C.1 C.2.1 hd ht (fun q => kt q H locs ls hP hD hS hl) (fun q => kf q H locs ls hP hD hS hl)
theorem ej_icmp_le (C : er_C p s m c cc own G A H0) {x y : Int32} {off : Int} {tgt : Nat} (hd : decode cc pc = .ok (.if_icmp .le off, 3)) (ht : (pc : Int) + off = (tgt : Int)) (kt : x ≤ y → er_J p l e R s m args below meth c G A H0 Q kc ks σ tgt lv st) (kf : ¬ x ≤ y → er_J p l e R s m args below meth c G A H0 Q kc ks σ (pc + 3) lv st) : er_J p l e R s m args below meth c G A H0 Q kc ks σ pc lv (.int y :: .int x :: st) :=
  fun H locs ls hP hD hS hl => lv_icmp_le C.1 C.2.1 hd ht (fun q => kt q H locs ls hP hD hS hl) (fun q => kf q H locs ls hP hD hS hl)
end ERJ
