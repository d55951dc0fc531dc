/-! THE STATE as numbers: cell k's entry j (an object's int field j, an array's place j); pure words for the decompiled methods -/
abbrev er_S : Type := Nat → Nat → Int32
def er_up (σ : er_S) (k j : Nat) (v : Int32) : er_S := fun a b => if a = k ∧ b = j then v else σ a b
def er_ix (j : Int32) : Nat := j.toNatClampNeg
def er_inb (j : Int32) (n : Nat) : Bool := decide (¬ (j < 0 ∨ n ≤ j.toNatClampNeg))
def er_isb (v : Int32) : Bool := decide (v = 0 ∨ v = 1)
def er_gd {α : Type} (b : Bool) (x : Option α) : Option α := match b with
  | true => x
  | false => none
def er_bd {α β : Type} (x : Option α) (k : α → Option β) : Option β := match x with
  | some a => k a
  | none => none
def er_bw {α β : Type} (x : Option (α × er_S)) (k : α → er_S → Option β) : Option β := match x with
  | some (a, σ) => k a σ
  | none => none
def er_tb {α β : Type} (x : Option ((α ⊕ Nat) × er_S)) (k : α → er_S → Option ((β ⊕ Nat) × er_S)) : Option ((β ⊕ Nat) × er_S) := match x with
  | some (.inl a, σ) => k a σ
  | some (.inr e, σ) => some (.inr e, σ)
  | none => none
def er_tc {α β : Type} (x : Option ((α ⊕ Nat) × er_S)) (k : α → er_S → Option β) (h : Nat → er_S → Option β) : Option β := match x with
  | some (.inl a, σ) => k a σ
  | some (.inr e, σ) => h e σ
  | none => none
theorem er_gd_some {α : Type} {b : Bool} {x : Option α} {r : α} (h : er_gd b x = some r) : b = true ∧ x = some r := by
  cases b with
  | true => exact ⟨rfl, h⟩
  | false => cases h
theorem er_bd_some {α β : Type} {x : Option α} {k : α → Option β} {r : β} (h : er_bd x k = some r) : ∃ a, x = some a ∧ k a = some r := by
  cases x with
  | some a => exact ⟨a, rfl, h⟩
  | none => cases h
theorem er_bw_some {α β : Type} {x : Option (α × er_S)} {k : α → er_S → Option β} {r : β} (h : er_bw x k = some r) : ∃ a σ, x = some (a, σ) ∧ k a σ = some r := by
  cases x with
  | some q => exact ⟨q.1, q.2, rfl, h⟩
  | none => cases h
theorem er_tb_some {α β : Type} {x : Option ((α ⊕ Nat) × er_S)} {k : α → er_S → Option ((β ⊕ Nat) × er_S)} {r : (β ⊕ Nat) × er_S} (h : er_tb x k = some r) :
    (∃ a σ, x = some (.inl a, σ) ∧ k a σ = some r) ∨ ∃ e σ, x = some (.inr e, σ) ∧ r = (.inr e, σ) := by
  cases x with
  | some q =>
    obtain ⟨q1, q2⟩ := q
    cases q1 with
    | inl a => exact Or.inl ⟨a, q2, rfl, h⟩
    | inr e => exact Or.inr ⟨e, q2, rfl, (Option.some.inj h).symm⟩
  | none => cases h
theorem er_tc_some {α β : Type} {x : Option ((α ⊕ Nat) × er_S)} {k : α → er_S → Option β} {hh : Nat → er_S → Option β} {r : β} (h : er_tc x k hh = some r) :
    (∃ a σ, x = some (.inl a, σ) ∧ k a σ = some r) ∨ ∃ e σ, x = some (.inr e, σ) ∧ hh e σ = some r := by
  cases x with
  | some q =>
    obtain ⟨q1, q2⟩ := q
    cases q1 with
    | inl a => exact Or.inl ⟨a, q2, rfl, h⟩
    | inr e => exact Or.inr ⟨e, q2, rfl, h⟩
  | none => cases h
theorem er_it {α : Type} {c : Prop} {hc : Decidable c} {a b x : α} (h : (@ite α c hc a b) = x) (q : c) : a = x := by rw [if_pos q] at h; exact h
theorem er_if {α : Type} {c : Prop} {hc : Decidable c} {a b x : α} (h : (@ite α c hc a b) = x) (q : ¬ c) : b = x := by rw [if_neg q] at h; exact h
theorem er_inb_in {j : Int32} {n : Nat} (h : er_inb j n = true) : vp_in j n := of_decide_eq_true (p := ¬ (j < 0 ∨ n ≤ j.toNatClampNeg)) h
theorem er_isb_z {v : Int32} (h : er_isb v = true) : vp_nar .boolean v = v := by
  have h := of_decide_eq_true h
  rcases h with rfl | rfl <;> decide
theorem er_up_same (σ : er_S) (k j : Nat) (v : Int32) : er_up σ k j v k = upd (σ k) j v := by
  funext b
  simp [er_up, upd]
theorem er_up_other (σ : er_S) {k a : Nat} (j : Nat) (v : Int32) (h : a ≠ k) : er_up σ k j v a = σ a := by
  funext b
  simp [er_up, h]
/-! THE CELLS: 0 EntryRows, 1 Persons, 2 Boards, 3 .. 20 their rows; 21 the model, 22 .. 38 its rows; 39 the law's out; 40 the script (read apart) -/
def er_lay : Nat → (Nat × List (Option Nat)) ⊕ (Nat × Nat)
  | 0 => .inl (0, [some 1, some 2, some 3, some 4, none, none, none])
  | 1 => .inl (1, [some 5, some 6, some 7, some 8, some 9, some 10, some 11, some 12, some 13, some 14, some 15])
  | 2 => .inl (2, [some 16, some 17, some 18, some 19, some 20, none])
  | 3 => .inr (0, 16)
  | 4 => .inr (0, 6)
  | 5 => .inr (0, 40)
  | 6 => .inr (0, 40)
  | 7 => .inr (0, 40)
  | 8 => .inr (0, 40)
  | 9 => .inr (0, 40)
  | 10 => .inr (0, 40)
  | 11 => .inr (0, 40)
  | 12 => .inr (0, 40)
  | 13 => .inr (0, 40)
  | 14 => .inr (0, 40)
  | 15 => .inr (1, 40)
  | 16 => .inr (1, 8)
  | 17 => .inr (0, 8)
  | 18 => .inr (0, 8)
  | 19 => .inr (0, 8)
  | 20 => .inr (0, 8)
  | 21 => .inl (3, [none, none, none, none, some 22, none, some 23, some 24, some 25, some 26, some 27, some 28, some 29, some 30, some 31, some 32, some 33, some 34, some 35, some 36, some 37, some 38])
  | 22 => .inr (0, 6)
  | 23 => .inr (1, 8)
  | 24 => .inr (0, 8)
  | 25 => .inr (0, 8)
  | 26 => .inr (0, 8)
  | 27 => .inr (0, 8)
  | 28 => .inr (0, 16)
  | 29 => .inr (0, 40)
  | 30 => .inr (1, 40)
  | 31 => .inr (0, 40)
  | 32 => .inr (0, 40)
  | 33 => .inr (0, 40)
  | 34 => .inr (0, 40)
  | 35 => .inr (0, 40)
  | 36 => .inr (0, 40)
  | 37 => .inr (0, 40)
  | 38 => .inr (0, 40)
  | _ => .inr (2, 1)
/-- the geometry: classes' numbers and slots; the numbers of int[], boolean[], long[]; addresses; which cells are there -/
abbrev er_G : Type := va_G × (ClassId × ClassId × ClassId) × (Nat → Nat) × List Nat
abbrev er_ad (G : er_G) (k : Nat) : Nat := G.2.2.1 k
abbrev er_ks (G : er_G) : List Nat := G.2.2.2
def er_tys (G : er_G) : List (ClassId × FieldType) := [(G.2.1.1, .int), (G.2.1.2.1, .boolean), (G.2.1.2.2, .long)]
def er_cz (G : er_G) : Value → Value
  | .ref k => .ref (er_ad G k)
  | v => v
def er_fs (G : er_G) (σ : er_S) (k : Nat) : Nat → List (Option Nat) → List Value
  | _, [] => []
  | i, some t :: r => .ref (er_ad G t) :: er_fs G σ k (i + 1) r
  | i, none :: r => .int (σ k i) :: er_fs G σ k (i + 1) r
def er_ent (G : er_G) (σ : er_S) (k : Nat) : va_E := match er_lay k with
  | .inl (ci, fs) => .inr (ci, er_fs G σ k 0 fs)
  | .inr (0, n) => .inl (G.2.1.1, n, .inl (σ k))
  | .inr (1, n) => .inl (G.2.1.2.1, n, .inl (σ k))
  | .inr (_, n) => .inl (G.2.1.2.2, n, .inr (.inl (fun j => (σ k j).toInt64)))
def er_ws (G : er_G) (σ : er_S) : va_W := (er_ks G).map fun k => (er_ad G k, er_ent G σ k)
theorem er_fs_get (G : er_G) (σ : er_S) (k : Nat) : ∀ (fs : List (Option Nat)) (i j : Nat) (o : Option Nat), fs[j]? = some o → (er_fs G σ k i fs)[j]? = some (match o with | some t => .ref (er_ad G t) | none => .int (σ k (i + j))) := by
  intro fs
  induction fs with
  | nil => intro i j o h; simp at h
  | cons a r ih =>
    intro i j o h
    cases j with
    | zero =>
      simp at h
      subst h
      cases a <;> rfl
    | succ j =>
      simp at h
      have h2 := ih (i + 1) j o h
      rw [show i + 1 + j = i + (j + 1) by omega] at h2
      cases a <;> simpa [er_fs] using h2
theorem er_fs_len (G : er_G) (σ : er_S) (k : Nat) : ∀ (fs : List (Option Nat)) (i : Nat), (er_fs G σ k i fs).length = fs.length := by
  intro fs
  induction fs with
  | nil => intro i; rfl
  | cons a r ih => intro i; cases a <;> simp [er_fs, ih]
theorem er_fs_congr (G : er_G) {σ σ' : er_S} (k : Nat) : ∀ (fs : List (Option Nat)) (i : Nat), (∀ j, i ≤ j → σ k j = σ' k j) → er_fs G σ k i fs = er_fs G σ' k i fs := by
  intro fs
  induction fs with
  | nil => intro i _; rfl
  | cons a r ih =>
    intro i h
    cases a with
    | none => simp only [er_fs]; rw [h i (Nat.le_refl i), ih (i + 1) (fun j hj => h j (by omega))]
    | some t => simp only [er_fs]; rw [ih (i + 1) (fun j hj => h j (by omega))]
theorem er_fs_set (G : er_G) (σ : er_S) (k : Nat) (v : Int32) : ∀ (fs : List (Option Nat)) (i j : Nat), fs[j]? = some none → (er_fs G σ k i fs).set j (.int v) = er_fs G (er_up σ k (i + j) v) k i fs := by
  intro fs
  induction fs with
  | nil => intro i j h; simp at h
  | cons a r ih =>
    intro i j h
    cases j with
    | zero =>
      simp at h
      subst h
      simp only [er_fs, List.set_cons_zero, Nat.add_zero]
      rw [show er_up σ k i v k i = v by simp [er_up]]
      rw [er_fs_congr G k (σ := σ) (σ' := er_up σ k i v) r (i + 1) (fun j hj => by simp [er_up]; intro e; omega)]
    | succ j =>
      simp at h
      have h2 := ih (i + 1) j h
      rw [show i + 1 + j = i + (j + 1) by omega] at h2
      cases a with
      | none =>
        simp only [er_fs, List.set_cons_succ]
        rw [h2, show er_up σ k (i + (j + 1)) v k i = σ k i by simp [er_up]]
      | some t =>
        simp only [er_fs, List.set_cons_succ]
        rw [h2]
theorem er_ent_congr (G : er_G) {σ σ' : er_S} {k : Nat} (h : σ k = σ' k) : er_ent G σ k = er_ent G σ' k := by
  unfold er_ent
  split
  · rw [er_fs_congr G k _ 0 (fun j _ => by rw [h])]
  · rw [h]
  · rw [h]
  · rw [h]
theorem er_ws_at {G : er_G} {k : Nat} (hk : k ∈ er_ks G) : ∃ q0 : Nat, (er_ks G)[q0]? = some k ∧ ∀ σ : er_S, (er_ws G σ)[q0]? = some (er_ad G k, er_ent G σ k) := by
  obtain ⟨q0, h⟩ := List.getElem?_of_mem hk
  exact ⟨q0, h, fun σ => by simp [er_ws, h]⟩
theorem er_ws_set {G : er_G} (hn : (er_ks G).Nodup) {k q0 : Nat} (hq : (er_ks G)[q0]? = some k) {σ σ' : er_S} (ho : ∀ j, j ≠ k → σ' j = σ j) : (er_ws G σ).set q0 (er_ad G k, er_ent G σ' k) = er_ws G σ' := by
  apply List.ext_getElem?
  intro i
  rw [List.getElem?_set]
  by_cases hi : q0 = i
  · subst hi
    have hl : q0 < (er_ks G).length := (List.getElem?_eq_some_iff.mp hq).1
    have e2 : (er_ks G)[q0] = k := (List.getElem?_eq_some_iff.mp hq).2
    simp [er_ws, hl, e2]
  · rw [if_neg hi]
    simp only [er_ws, List.getElem?_map]
    cases hz : (er_ks G)[i]? with
    | none => rfl
    | some j =>
      have hj : j ≠ k := by
        intro e
        subst e
        have hil : i < (er_ks G).length := (List.getElem?_eq_some_iff.mp hz).1
        have hql : q0 < (er_ks G).length := (List.getElem?_eq_some_iff.mp hq).1
        have e1 : (er_ks G)[q0] = j := (List.getElem?_eq_some_iff.mp hq).2
        have e2 : (er_ks G)[i] = j := (List.getElem?_eq_some_iff.mp hz).2
        have hp := List.pairwise_iff_getElem.mp hn
        rcases Nat.lt_or_gt_of_ne hi with h | h
        · exact hp q0 i hql hil h (e1.trans e2.symm)
        · exact hp i q0 hil hql h (e2.trans e1.symm)
      simp only [Option.map_some]
      rw [er_ent_congr G (ho j hj).symm]
