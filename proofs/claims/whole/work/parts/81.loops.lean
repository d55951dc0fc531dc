/-! pure: loops that count, loops that ask, loops that find -/
def er_cnt (P : Nat → Bool) : Nat → Nat → Nat
  | _, 0 => 0
  | i, k + 1 => (if P i = true then 1 else 0) + er_cnt P (i + 1) k
theorem er_cnt_le (P : Nat → Bool) : ∀ (k i : Nat), er_cnt P i k ≤ k := by
  intro k
  induction k with
  | zero => intro i; exact Nat.le_refl 0
  | succ k ih =>
    intro i
    have := ih (i + 1)
    simp only [er_cnt]
    split <;> omega
theorem er_cnt_congr {P P' : Nat → Bool} : ∀ (k i : Nat), (∀ j, i ≤ j → j < i + k → P j = P' j) → er_cnt P i k = er_cnt P' i k := by
  intro k
  induction k with
  | zero => intro i _; rfl
  | succ k ih =>
    intro i h
    simp only [er_cnt]
    rw [h i (Nat.le_refl i) (by omega), ih (i + 1) (fun j h1 h2 => h j (by omega) (by omega))]
theorem er_cnt_mono {P P' : Nat → Bool} : ∀ (k i : Nat), (∀ j, i ≤ j → j < i + k → P j = true → P' j = true) → er_cnt P i k ≤ er_cnt P' i k := by
  intro k
  induction k with
  | zero => intro i _; exact Nat.le_refl 0
  | succ k ih =>
    intro i h
    have h1 := ih (i + 1) (fun j h1 h2 => h j (by omega) (by omega))
    have h2 := h i (Nat.le_refl i) (by omega)
    simp only [er_cnt]
    by_cases hp : P i = true
    · rw [if_pos hp, if_pos (h2 hp)]; omega
    · rw [if_neg hp]; omega
/-- one more -/
theorem er_cnt_ins {P Q : Nat → Bool} {p : Nat} : ∀ (k i : Nat), i ≤ p → p < i + k → P p = false → Q p = true → (∀ j, i ≤ j → j < i + k → j ≠ p → P j = Q j) → er_cnt Q i k = er_cnt P i k + 1 := by
  intro k
  induction k with
  | zero => intro i h1 h2; omega
  | succ k ih =>
    intro i h1 h2 h3 h4 h5
    simp only [er_cnt]
    by_cases e : i = p
    · subst e
      rw [h3, h4, er_cnt_congr k (i + 1) (fun j a b => (h5 j (by omega) (by omega) (by omega)).symm)]
      simp only [if_true, Bool.false_eq_true, if_false]
      omega
    · rw [ih (i + 1) (by omega) (by omega) h3 h4 (fun j a b c => h5 j (by omega) (by omega) c), h5 i (Nat.le_refl i) (by omega) e]
      omega
theorem er_cnt_snoc (P : Nat → Bool) : ∀ (k i : Nat), er_cnt P i (k + 1) = er_cnt P i k + (if P (i + k) = true then 1 else 0) := by
  intro k
  induction k with
  | zero => intro i; simp [er_cnt]
  | succ k ih =>
    intro i
    have h := ih (i + 1)
    rw [er_cnt, h, er_cnt, show i + 1 + k = i + (k + 1) by omega]
    omega
theorem er_cnt_strict {P Q : Nat → Bool} {p k i : Nat} (h1 : i ≤ p) (h2 : p < i + k) (h3 : P p = false) (h4 : Q p = true) (h5 : ∀ j, i ≤ j → j < i + k → P j = true → Q j = true) : er_cnt P i k + 1 ≤ er_cnt Q i k := by
  rw [← er_cnt_ins (P := P) (Q := fun j => P j || decide (j = p)) k i h1 h2 h3 (by simp) (fun j _ _ h => by simp [h])]
  refine er_cnt_mono k i (fun j a b h => ?_)
  simp only [Bool.or_eq_true, decide_eq_true_eq] at h
  rcases h with h | rfl
  · exact h5 j a b h
  · exact h4
theorem er_gdt {α : Type} (x : Option α) : er_gd true x = x := rfl
theorem er_gdi {α : Type} {i n : Nat} (h : i < n) (hn : n < 2 ^ 31) (x : Option α) : er_gd (er_inb (nI i) n) x = x := by rw [er_inn h hn]; rfl
theorem er_ge {i N : Nat} (h : i < N) (hN : N < 2 ^ 31) : ¬ nI N ≤ nI i := by rw [nI_leI hN (by omega)]; omega
theorem er_40 : (40 : Int32) = nI 40 := by decide
theorem er_16 : (16 : Int32) = nI 16 := by decide
theorem er_8 : (8 : Int32) = nI 8 := by decide
theorem er_p1 (i : Nat) : nI i + 1 = nI (i + 1) := nI_1 i
theorem er_a0 (a : Int32) : a + 0 = a := Int32.add_zero a
/-- a loop that counts -/
theorem er_cln {β : Type} (F : Nat → Int32 → Int32 → β) (E : Int32 → β) (P : Nat → Bool) (N : Nat) (hx : ∀ n a, F (n + 1) a (nI N) = E a)
    (hs : ∀ n a i, i < N → F (n + 1) a (nI i) = if P i = true then F n (a + 1) (nI (i + 1)) else F n a (nI (i + 1))) :
    ∀ (k i : Nat) (a : Int32) (n : Nat), i + k = N → k < n → F n a (nI i) = E (a + nI (er_cnt P i k)) := by
  intro k
  induction k with
  | zero =>
    intro i a n h1 h2
    obtain ⟨n, rfl⟩ : ∃ z, n = z + 1 := ⟨n - 1, by omega⟩
    have : i = N := by omega
    subst this
    rw [hx]
    congr 1
    show a = a + nI 0
    rw [nI_0]
    exact (Int32.add_zero a).symm
  | succ k ih =>
    intro i a n h1 h2
    obtain ⟨n, rfl⟩ : ∃ z, n = z + 1 := ⟨n - 1, by omega⟩
    rw [hs n a i (by omega)]
    simp only [er_cnt]
    by_cases hp : P i = true
    · rw [if_pos hp, if_pos hp, ih (i + 1) (a + 1) n (by omega) (by omega)]
      congr 1
      rw [← nI_add, Int32.add_assoc]
      congr 1
    · rw [if_neg hp, if_neg hp, ih (i + 1) a n (by omega) (by omega), Nat.zero_add]
theorem er_cl0 {β : Type} (F : Nat → Int32 → Int32 → β) (E : Int32 → β) (P : Nat → Bool) (N : Nat) (hx : ∀ n a, F (n + 1) a (nI N) = E a)
    (hs : ∀ n a i, i < N → F (n + 1) a (nI i) = if P i = true then F n (a + 1) (nI (i + 1)) else F n a (nI (i + 1))) {n : Nat} (hn : N < n) : F n 0 0 = E (nI (er_cnt P 0 N)) := by
  have h := er_cln F E P N hx hs N 0 0 n (by omega) hn
  rw [nI_0, Int32.zero_add] at h
  exact h
def er_any (P : Nat → Bool) : Nat → Nat → Bool
  | _, 0 => false
  | i, k + 1 => P i || er_any P (i + 1) k
theorem er_any_congr {P P' : Nat → Bool} : ∀ (k i : Nat), (∀ j, i ≤ j → j < i + k → P j = P' j) → er_any P i k = er_any P' i k := by
  intro k
  induction k with
  | zero => intro i _; rfl
  | succ k ih =>
    intro i h
    simp only [er_any]
    rw [h i (Nat.le_refl i) (by omega), ih (i + 1) (fun j h1 h2 => h j (by omega) (by omega))]
theorem er_any_iff (P : Nat → Bool) : ∀ (k i : Nat), er_any P i k = true ↔ ∃ j, i ≤ j ∧ j < i + k ∧ P j = true := by
  intro k
  induction k with
  | zero =>
    intro i
    constructor
    · intro h; cases h
    · rintro ⟨j, h1, h2, _⟩; omega
  | succ k ih =>
    intro i
    simp only [er_any, Bool.or_eq_true, ih (i + 1)]
    constructor
    · rintro (h | ⟨j, h1, h2, h3⟩)
      · exact ⟨i, Nat.le_refl i, by omega, h⟩
      · exact ⟨j, by omega, by omega, h3⟩
    · rintro ⟨j, h1, h2, h3⟩
      by_cases e : j = i
      · subst e; exact Or.inl h3
      · exact Or.inr ⟨j, by omega, by omega, h3⟩
theorem er_any_s (P : Nat → Bool) (i k : Nat) : er_any P i (k + 1) = (P i || er_any P (i + 1) k) := rfl
/-- a loop that leaves at the first hit -/
theorem er_fl {β : Type} (F : Nat → Int32 → β) (E0 E1 : β) (P : Nat → Bool) (N : Nat) (hx : ∀ n, F (n + 1) (nI N) = E1)
    (hs : ∀ n i, i < N → F (n + 1) (nI i) = if P i = true then E0 else F n (nI (i + 1))) :
    ∀ (k i : Nat) (n : Nat), i + k = N → k < n → F n (nI i) = if er_any P i k = true then E0 else E1 := by
  intro k
  induction k with
  | zero =>
    intro i n h1 h2
    obtain ⟨n, rfl⟩ : ∃ z, n = z + 1 := ⟨n - 1, by omega⟩
    have : i = N := by omega
    subst this
    rw [hx]
    rfl
  | succ k ih =>
    intro i n h1 h2
    obtain ⟨n, rfl⟩ : ∃ z, n = z + 1 := ⟨n - 1, by omega⟩
    rw [hs n i (by omega)]
    rw [er_any_s]
    by_cases hp : P i = true
    · rw [if_pos hp, hp, Bool.true_or]
      rfl
    · rw [if_neg hp, ih (i + 1) n (by omega) (by omega)]
      have : P i = false := by cases h : P i with | true => exact absurd h hp | false => rfl
      rw [this, Bool.false_or]
theorem er_fl0 {β : Type} (F : Nat → Int32 → β) (E0 E1 : β) (P : Nat → Bool) (N : Nat) (hx : ∀ n, F (n + 1) (nI N) = E1)
    (hs : ∀ n i, i < N → F (n + 1) (nI i) = if P i = true then E0 else F n (nI (i + 1))) {n : Nat} (hn : N < n) : F n 0 = if er_any P 0 N = true then E0 else E1 := by
  have h := er_fl F E0 E1 P N hx hs N 0 n (by omega) hn
  rw [nI_0] at h
  exact h
/-- a loop that sets a mark to 0 at a hit -/
theorem er_zl {β : Type} (F : Nat → Int32 → Int32 → β) (E : Int32 → β) (P : Nat → Bool) (N : Nat) (hx : ∀ n a, F (n + 1) a (nI N) = E a)
    (hs : ∀ n a i, i < N → F (n + 1) a (nI i) = if P i = true then F n 0 (nI (i + 1)) else F n a (nI (i + 1))) :
    ∀ (k i : Nat) (a : Int32) (n : Nat), i + k = N → k < n → F n a (nI i) = E (if er_any P i k = true then 0 else a) := by
  intro k
  induction k with
  | zero =>
    intro i a n h1 h2
    obtain ⟨n, rfl⟩ : ∃ z, n = z + 1 := ⟨n - 1, by omega⟩
    have : i = N := by omega
    subst this
    rw [hx]
    rfl
  | succ k ih =>
    intro i a n h1 h2
    obtain ⟨n, rfl⟩ : ∃ z, n = z + 1 := ⟨n - 1, by omega⟩
    rw [hs n a i (by omega)]
    rw [er_any_s]
    by_cases hp : P i = true
    · rw [if_pos hp, ih (i + 1) 0 n (by omega) (by omega), hp, Bool.true_or]
      congr 1
      split <;> rfl
    · rw [if_neg hp, ih (i + 1) a n (by omega) (by omega)]
      have : P i = false := by cases h : P i with | true => exact absurd h hp | false => rfl
      rw [this, Bool.false_or]
/-- a loop that gives the first hit's number -/
def er_find (P : Nat → Bool) : Nat → Nat → Int32
  | _, 0 => -1
  | i, k + 1 => if P i = true then nI i else er_find P (i + 1) k
theorem er_find_none (P : Nat → Bool) : ∀ (k i : Nat), (∀ j, i ≤ j → j < i + k → P j = false) → er_find P i k = -1 := by
  intro k
  induction k with
  | zero => intro i _; rfl
  | succ k ih =>
    intro i h
    simp only [er_find]
    rw [h i (Nat.le_refl i) (by omega)]
    exact ih (i + 1) (fun j h1 h2 => h j (by omega) (by omega))
theorem er_find_one (P : Nat → Bool) {p : Nat} : ∀ (k i : Nat), i ≤ p → p < i + k → P p = true → (∀ j, i ≤ j → j < i + k → j ≠ p → P j = false) → er_find P i k = nI p := by
  intro k
  induction k with
  | zero => intro i h1 h2; omega
  | succ k ih =>
    intro i h1 h2 h3 h4
    simp only [er_find]
    by_cases e : i = p
    · subst e
      rw [h3]
      rfl
    · rw [h4 i (Nat.le_refl i) (by omega) e]
      exact ih (i + 1) (by omega) (by omega) h3 (fun j a b c => h4 j (by omega) (by omega) c)
theorem er_ffl {β : Type} (F : Nat → Int32 → β) (E : Int32 → β) (P : Nat → Bool) (N : Nat) (hx : ∀ n, F (n + 1) (nI N) = E (-1))
    (hs : ∀ n i, i < N → F (n + 1) (nI i) = if P i = true then E (nI i) else F n (nI (i + 1))) :
    ∀ (k i : Nat) (n : Nat), i + k = N → k < n → F n (nI i) = E (er_find P i k) := by
  intro k
  induction k with
  | zero =>
    intro i n h1 h2
    obtain ⟨n, rfl⟩ : ∃ z, n = z + 1 := ⟨n - 1, by omega⟩
    have : i = N := by omega
    subst this
    rw [hx]
    rfl
  | succ k ih =>
    intro i n h1 h2
    obtain ⟨n, rfl⟩ : ∃ z, n = z + 1 := ⟨n - 1, by omega⟩
    rw [hs n i (by omega)]
    simp only [er_find]
    by_cases hp : P i = true
    · rw [if_pos hp, if_pos hp]
    · rw [if_neg hp, ih (i + 1) n (by omega) (by omega), if_neg hp]
theorem er_ffl0 {β : Type} (F : Nat → Int32 → β) (E : Int32 → β) (P : Nat → Bool) (N : Nat) (hx : ∀ n, F (n + 1) (nI N) = E (-1))
    (hs : ∀ n i, i < N → F (n + 1) (nI i) = if P i = true then E (nI i) else F n (nI (i + 1))) {n : Nat} (hn : N < n) : F n 0 = E (er_find P 0 N) := by
  have h := er_ffl F E P N hx hs N 0 n (by omega) hn
  rw [nI_0] at h
  exact h
/-- a loop that changes the state -/
theorem er_sl {β : Type} (F : Nat → Int32 → er_S → β) (E : er_S → β) (Φ : Nat → er_S) (N : Nat) (hx : ∀ n, F (n + 1) (nI N) (Φ N) = E (Φ N))
    (hs : ∀ n i, i < N → F (n + 1) (nI i) (Φ i) = F n (nI (i + 1)) (Φ (i + 1))) :
    ∀ (k i : Nat) (n : Nat), i + k = N → k < n → F n (nI i) (Φ i) = E (Φ N) := by
  intro k
  induction k with
  | zero =>
    intro i n h1 h2
    obtain ⟨n, rfl⟩ : ∃ z, n = z + 1 := ⟨n - 1, by omega⟩
    have : i = N := by omega
    subst this
    exact hx n
  | succ k ih =>
    intro i n h1 h2
    obtain ⟨n, rfl⟩ : ∃ z, n = z + 1 := ⟨n - 1, by omega⟩
    rw [hs n i (by omega)]
    exact ih (i + 1) n (by omega) (by omega)
theorem er_sl0 {β : Type} (F : Nat → Int32 → er_S → β) (E : er_S → β) (Φ : Nat → er_S) (N : Nat) (hx : ∀ n, F (n + 1) (nI N) (Φ N) = E (Φ N))
    (hs : ∀ n i, i < N → F (n + 1) (nI i) (Φ i) = F n (nI (i + 1)) (Φ (i + 1))) {n : Nat} (hn : N < n) : F n 0 (Φ 0) = E (Φ N) := by
  have h := er_sl F E Φ N hx hs N 0 n (by omega) hn
  rw [nI_0] at h
  exact h
