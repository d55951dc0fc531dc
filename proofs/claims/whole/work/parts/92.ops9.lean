/-! pure: on, the board's sum, boardAt: ranks by tally -/
theorem er_cnt_zero {P : Nat → Bool} : ∀ (k i : Nat), (∀ j, i ≤ j → j < i + k → P j = false) → er_cnt P i k = 0 := by
  intro k
  induction k with
  | zero => intro i _; rfl
  | succ k ih =>
    intro i h
    simp only [er_cnt]
    rw [h i (Nat.le_refl i) (by omega), ih (i + 1) (fun j h1 h2 => h j (by omega) (by omega))]
    rfl
def er_nxl (f5 f6 : Nat → Int32) (x a : Int32) : Int32 → Int32 → Nat → Nat → Int32
  | nx, _, _, 0 => nx
  | nx, nt, i, k + 1 => if f5 i = x ∧ ¬ f6 i ≤ a ∧ ¬ nt ≤ f6 i then er_nxl f5 f6 x a (nI i) (f6 i) (i + 1) k else er_nxl f5 f6 x a nx nt (i + 1) k
/-- the persons of x have tallies, each another -/
def er_Ty (f5 f6 : Nat → Int32) (x : Int32) : Prop := (∀ p, p < 40 → f5 p = x → ∃ y, y < 20481 ∧ f6 p = nI y) ∧ ∀ p, p < 40 → ∀ q, q < 40 → f5 p = x → f5 q = x → f6 p = f6 q → p = q
def er_Nx (f5 f6 : Nat → Int32) (x a : Int32) (r : Int32) : Prop := (r = -1 ∧ ∀ p, p < 40 → f5 p = x → f6 p ≤ a) ∨ ∃ p, p < 40 ∧ f5 p = x ∧ r = nI p ∧ ¬ f6 p ≤ a ∧ ∀ q, q < 40 → f5 q = x → ¬ f6 q ≤ a → f6 p ≤ f6 q
theorem er_le_tr {a b c : Int32} (h1 : a ≤ b) (h2 : b ≤ c) : a ≤ c := Int32.le_trans h1 h2
theorem er_nxl_spec {f5 f6 : Nat → Int32} {x a : Int32} (hT : er_Ty f5 f6 x) : ∀ (k i : Nat) (nx nt : Int32), i + k = 40 →
    ((nx = -1 ∧ nt = 2147483647 ∧ ∀ p, p < i → f5 p = x → f6 p ≤ a) ∨ ∃ p, p < i ∧ f5 p = x ∧ nx = nI p ∧ nt = f6 p ∧ ¬ f6 p ≤ a ∧ ∀ q, q < i → f5 q = x → ¬ f6 q ≤ a → f6 p ≤ f6 q) →
    er_Nx f5 f6 x a (er_nxl f5 f6 x a nx nt i k) := by
  intro k
  induction k with
  | zero =>
    intro i nx nt hi h
    have : i = 40 := by omega
    subst this
    rcases h with ⟨h1, -, h3⟩ | ⟨p, h1, h2, h3, -, h5, h6⟩
    · exact Or.inl ⟨h1, h3⟩
    · exact Or.inr ⟨p, h1, h2, h3, h5, h6⟩
  | succ k ih =>
    intro i nx nt hi h
    simp only [er_nxl]
    by_cases hh : f5 i = x ∧ ¬ f6 i ≤ a ∧ ¬ nt ≤ f6 i
    · rw [if_pos hh]
      refine ih (i + 1) _ _ (by omega) (Or.inr ⟨i, by omega, hh.1, rfl, rfl, hh.2.1, fun q hq e1 e2 => ?_⟩)
      by_cases e : q = i
      · subst e; exact Int32.le_refl _
      · rcases h with ⟨-, -, h3⟩ | ⟨p, h1, h2, h3, h4, h5, h6⟩
        · exact absurd (h3 q (by omega) e1) e2
        · have h7 := h6 q (by omega) e1 e2
          have h8 : f6 i ≤ f6 p := by
            rw [← h4]
            exact Int32.le_of_lt (Int32.not_le.mp hh.2.2)
          exact er_le_tr h8 h7
    · rw [if_neg hh]
      refine ih (i + 1) _ _ (by omega) ?_
      rcases h with ⟨h1, h2, h3⟩ | ⟨p, h1, h2, h3, h4, h5, h6⟩
      · refine Or.inl ⟨h1, h2, fun p hp e => ?_⟩
        by_cases e' : p = i
        · subst e'
          by_cases h9 : f6 p ≤ a
          · exact h9
          · exfalso
            apply hh
            refine ⟨e, h9, ?_⟩
            obtain ⟨y, hy, hy2⟩ := hT.1 p (by omega) e
            rw [h2, hy2, er_leI, nI_toInt (by omega), show (2147483647 : Int32).toInt = 2147483647 by decide]
            omega
        · exact h3 p (by omega) e
      · refine Or.inr ⟨p, by omega, h2, h3, h4, h5, fun q hq e1 e2 => ?_⟩
        by_cases e : q = i
        · subst e
          by_cases h9 : nt ≤ f6 q
          · rw [← h4]; exact h9
          · exact absurd ⟨e1, e2, h9⟩ hh
        · exact h6 q (by omega) e1 e2
def er_rk (f5 f6 : Nat → Int32) (x : Int32) (p : Nat) : Nat := er_cnt (fun q => decide (f5 q = x) && decide (f6 q < f6 p)) 0 40
def er_sz (f5 : Nat → Int32) (x : Int32) : Nat := er_cnt (fun q => decide (f5 q = x)) 0 40
/-- r stands for the i-th person of x by tally, or there are at most i -/
def er_Ch (f5 f6 : Nat → Int32) (x : Int32) (i : Nat) (r : Int32) : Prop := (∃ p, p < 40 ∧ f5 p = x ∧ r = nI p ∧ er_rk f5 f6 x p = i) ∨ (r = -1 ∧ er_sz f5 x ≤ i)
section ERQ
variable {f5 f6 : Nat → Int32} {x : Int32}
theorem er_lt_irr (a : Int32) : ¬ a < a := by
  rw [er_ltI]
  exact Int.lt_irrefl _
theorem er_sz_le : er_sz f5 x ≤ 40 := er_cnt_le _ 40 0
theorem er_rk_lt {p : Nat} (hp : p < 40) (e : f5 p = x) : er_rk f5 f6 x p + 1 ≤ er_sz f5 x :=
  er_cnt_strict (p := p) (Nat.zero_le p) (by omega) (by simp [er_lt_irr]) (decide_eq_true e) (fun j _ _ h => by
    rw [Bool.and_eq_true] at h
    exact h.1)
theorem er_rk_mono {p q : Nat} (hp : p < 40) (e : f5 p = x) (h : f6 p < f6 q) : er_rk f5 f6 x p + 1 ≤ er_rk f5 f6 x q :=
  er_cnt_strict (p := p) (Nat.zero_le p) (by omega) (by simp [er_lt_irr]) (by simp [e, h]) (fun j _ _ h' => by
    rw [Bool.and_eq_true, decide_eq_true_eq, decide_eq_true_eq] at h' ⊢
    exact ⟨h'.1, Int32.lt_trans h'.2 h⟩)
theorem er_rk_inj (hT : er_Ty f5 f6 x) {p q : Nat} (hp : p < 40) (hq : q < 40) (e : f5 p = x) (e' : f5 q = x) (h : er_rk f5 f6 x p = er_rk f5 f6 x q) : p = q := by
  refine hT.2 p hp q hq e e' ?_
  by_cases h1 : f6 p < f6 q
  · have := er_rk_mono (f6 := f6) hp e h1
    omega
  · by_cases h2 : f6 q < f6 p
    · have := er_rk_mono (f6 := f6) hq e' h2
      omega
    · exact Int32.le_antisymm (Int32.not_lt.mp h2) (Int32.not_lt.mp h1)
theorem er_Ch_0 (hT : er_Ty f5 f6 x) {r : Int32} (h : er_Nx f5 f6 x (-1) r) : er_Ch f5 f6 x 0 r := by
  have hpos : ∀ p, p < 40 → f5 p = x → ¬ f6 p ≤ -1 := by
    intro p hp e
    obtain ⟨y, hy, hy2⟩ := hT.1 p hp e
    rw [hy2, er_leI, nI_toInt (by omega), er_m1t]
    omega
  rcases h with ⟨h1, h2⟩ | ⟨p, h1, h2, h3, h4, h5⟩
  · refine Or.inr ⟨h1, Nat.le_of_eq (er_cnt_zero 40 0 (fun j _ hj => decide_eq_false (fun e => ?_)))⟩
    exact hpos j (by omega) e (h2 j (by omega) e)
  · refine Or.inl ⟨p, h1, h2, h3, er_cnt_zero 40 0 (fun j _ hj => ?_)⟩
    rw [Bool.and_eq_false_iff]
    by_cases e : f5 j = x
    · right
      exact decide_eq_false (Int32.not_lt.mpr (h5 j (by omega) e (hpos j (by omega) e)))
    · left
      exact decide_eq_false e
theorem er_Ch_s (hT : er_Ty f5 f6 x) {p i : Nat} {r : Int32} (hp : p < 40) (e : f5 p = x) (hk : er_rk f5 f6 x p = i) (h : er_Nx f5 f6 x (f6 p) r) : er_Ch f5 f6 x (i + 1) r := by
  rcases h with ⟨h1, h2⟩ | ⟨p', h1, h2, h3, h4, h5⟩
  · refine Or.inr ⟨h1, Nat.le_of_eq ?_⟩
    rw [← hk]
    refine er_cnt_ins (p := p) 40 0 (Nat.zero_le p) (by omega) (by simp [er_lt_irr]) (decide_eq_true e) (fun j _ hj hne => ?_)
    by_cases ej : f5 j = x
    · have h6 : f6 j < f6 p := by
        rw [← Int32.not_le]
        intro h7
        exact hne (hT.2 j (by omega) p hp ej e (Int32.le_antisymm (h2 j (by omega) ej) h7))
      simp [ej, h6]
    · simp [ej]
  · refine Or.inl ⟨p', h1, h2, h3, ?_⟩
    rw [← hk]
    have hlt : f6 p < f6 p' := Int32.not_le.mp h4
    refine er_cnt_ins (p := p) 40 0 (Nat.zero_le p) (by omega) (by simp [er_lt_irr]) (by simp [e, hlt]) (fun j _ hj hne => ?_)
    by_cases ej : f5 j = x
    · by_cases h6 : f6 j < f6 p
      · simp [ej, h6, Int32.lt_trans h6 hlt]
      · have h7 : ¬ f6 j < f6 p' := by
          intro h8
          by_cases h9 : f6 j ≤ f6 p
          · exact hne (hT.2 j (by omega) p hp ej e (Int32.le_antisymm h9 (Int32.not_lt.mp h6)))
          · exact absurd (h5 j (by omega) ej h9) (Int32.not_le.mpr h8)
        simp [ej, h6, h7]
    · simp [ej]
/-- the reference's word for the i-th -/
def er_bh (f5 f6 : Nat → Int32) (x y : Int32) : Int32 := er_find (fun p => decide (f5 p = x) && decide (nI (er_rk f5 f6 x p) = y)) 0 40
theorem er_rk_40 {p : Nat} : er_rk f5 f6 x p ≤ 40 := er_cnt_le _ 40 0
theorem er_bh_Ch (hT : er_Ty f5 f6 x) {i : Nat} {r : Int32} (hi : i < 2 ^ 31) (h : er_Ch f5 f6 x i r) : er_bh f5 f6 x (nI i) = r := by
  rcases h with ⟨p, h1, h2, h3, h4⟩ | ⟨h1, h2⟩
  · rw [h3]
    refine er_find_one _ 40 0 (Nat.zero_le p) (by omega) (by rw [h2, h4]; simp) (fun j _ hj hne => ?_)
    rw [Bool.and_eq_false_iff]
    by_cases ej : f5 j = x
    · right
      refine decide_eq_false (fun q => hne ?_)
      have hle := er_rk_40 (f5 := f5) (f6 := f6) (x := x) (p := j)
      rw [nI_eq (by omega) hi] at q
      exact er_rk_inj hT (by omega) h1 ej h2 (q.trans h4.symm)
    · left
      exact decide_eq_false ej
  · rw [h1]
    refine er_find_none _ 40 0 (fun j _ hj => ?_)
    rw [Bool.and_eq_false_iff]
    by_cases ej : f5 j = x
    · right
      refine decide_eq_false (fun q => ?_)
      have h3 := er_rk_lt (f6 := f6) (p := j) (by omega) ej
      have hle := er_rk_40 (f5 := f5) (f6 := f6) (x := x) (p := j)
      rw [nI_eq (by omega) hi] at q
      omega
    · left
      exact decide_eq_false ej
end ERQ
section ERO9
variable {σ : er_S} {m n τ t b : Nat} {x : Int32}
theorem er_nextOn (x a : Int32) (σ : er_S) : ef_P_nextOn x a σ = some (er_nxl (σ 5) (σ 6) x a (-1) 2147483647 0 40) := by
  have h : ∀ (k i n : Nat) (nx nt : Int32), i + k = 40 → k < n → ef_P_nextOn_9 n x a nx nt (nI i) σ = some (er_nxl (σ 5) (σ 6) x a nx nt i k) := by
    intro k
    induction k with
    | zero =>
      intro i n nx nt h1 h2
      obtain ⟨n, rfl⟩ : ∃ z, n = z + 1 := ⟨n - 1, by omega⟩
      have : i = 40 := by omega
      subst this
      simp only [ef_P_nextOn_9]
      rw [if_pos (by decide)]
      rfl
    | succ k ih =>
      intro i n nx nt h1 h2
      obtain ⟨n, rfl⟩ : ∃ z, n = z + 1 := ⟨n - 1, by omega⟩
      have hi : i < 40 := by omega
      simp only [ef_P_nextOn_9]
      rw [er_40, if_neg (er_ge hi (by decide)), er_ixn (by omega), er_p1]
      simp only [er_gdi hi (show 40 < 2 ^ 31 by decide)]
      rw [ih (i + 1) n nx nt (by omega) (by omega), ih (i + 1) n (nI i) (σ 6 i) (by omega) (by omega)]
      simp only [er_nxl]
      by_cases c1 : σ 5 i = x
      · rw [if_pos c1]
        by_cases c2 : σ 6 i ≤ a
        · rw [if_pos c2, if_neg (fun q => q.2.1 c2)]
        · rw [if_neg c2]
          by_cases c3 : nt ≤ σ 6 i
          · rw [if_pos c3, if_neg (fun q => q.2.2 c3)]
          · rw [if_neg c3, if_pos ⟨c1, c2, c3⟩]
      · rw [if_neg c1, if_neg (fun q => c1 q.1)]
  have h2 := h 40 0 64 (-1) 2147483647 (by decide) (by decide)
  rw [nI_0] at h2
  exact h2
theorem er_nextS (hT : er_Ty (σ 5) (σ 6) x) (a : Int32) : ∃ r, ef_P_nextOn x a σ = some r ∧ er_Nx (σ 5) (σ 6) x a r :=
  ⟨_, er_nextOn x a σ, er_nxl_spec hT 40 0 (-1) 2147483647 (by decide) (Or.inl ⟨rfl, rfl, fun p hp => absurd hp (Nat.not_lt_zero p)⟩)⟩
theorem er_behind (x y : Int32) (σ : er_S) : ef_M_behind x y σ = some (er_bh (σ 31) (σ 32) x y) := by
  refine er_ffl0 (fun n i => ef_M_behind_2 n x y i σ) (fun v => some v) (fun p => decide (σ 31 p = x) && decide (nI (er_rk (σ 31) (σ 32) x p) = y)) 40
    (by intro n; simp only [ef_M_behind_2]; rw [if_pos (by decide)]) ?_ (by decide)
  intro n i hi
  have h := er_cl0 (fun k a q => ef_M_behind_14 (ef_M_behind_2 n) k x y (nI i) a q σ) (fun a => if σ 31 i = x then if a = y then some (nI i) else ef_M_behind_2 n x y (nI (i + 1)) σ else ef_M_behind_2 n x y (nI (i + 1)) σ) (fun q => decide (σ 31 q = x) && decide (σ 32 q < σ 32 i)) 40
    (by
      intro k a
      simp only [ef_M_behind_14]
      rw [if_pos (by decide), er_gdi hi (by decide), er_ixn (by omega), er_p1])
    (by
      intro k a q hq
      simp only [ef_M_behind_14]
      rw [er_40, if_neg (er_ge hq (by decide)), er_gdi hq (by decide), er_gdi hq (by decide), er_gdi hi (by decide), er_ixn (show q < 2 ^ 31 by omega), er_ixn (show i < 2 ^ 31 by omega), er_p1, er_a0]
      by_cases c1 : σ 31 q = x
      · rw [if_pos c1]
        by_cases c2 : σ 32 i ≤ σ 32 q
        · rw [if_pos c2]; simp [c1, Int32.not_lt.mpr c2]
        · rw [if_neg c2]; simp [c1, Int32.not_le.mp c2]
      · rw [if_neg c1]; simp [c1]) (n := 64) (by decide)
  simp only [ef_M_behind_2]
  rw [er_40, if_neg (er_ge hi (by decide)), h]
  show (if σ 31 i = x then if nI (er_rk (σ 31) (σ 32) x i) = y then some (nI i) else ef_M_behind_2 n x y (nI (i + 1)) σ else ef_M_behind_2 n x y (nI (i + 1)) σ) = _
  by_cases c1 : σ 31 i = x
  · rw [if_pos c1]
    by_cases c2 : nI (er_rk (σ 31) (σ 32) x i) = y
    · rw [if_pos c2]; simp [c1, c2]
    · rw [if_neg c2]; simp [c2]
  · rw [if_neg c1]; simp [c1]
theorem er_Ty_of (h : er_Pt τ (σ 5) (σ 6)) (hτ : τ ≤ 20480) (hb : b < 8) : er_Ty (σ 5) (σ 6) (nI b) := by
  have hne : ∀ p, σ 5 p = nI b → σ 5 p ≠ -1 := fun p e => by rw [e]; exact er_m1n (by omega)
  refine ⟨fun p hp e => ?_, fun p hp q hq e e' h6 => ?_⟩
  · obtain ⟨y, h1, h2⟩ := h.1 p hp (hne p e)
    exact ⟨y, by omega, h2⟩
  · by_cases k : p = q
    · exact k
    · exact absurd h6 (h.2 p hp q hq k (hne p e) (hne q e'))
theorem er_onC (hT : er_Ty (σ 5) (σ 6) x) {s : Nat} (hs : s ≤ 40) : ∀ (k i n : Nat) (r : Int32), i + k = s → k < n → er_Ch (σ 5) (σ 6) x i r → ∃ v, ef_E_on_30 n x (nI s) r (nI i) σ = some (.inl v, σ) ∧ er_Ch (σ 5) (σ 6) x s v := by
  intro k
  induction k with
  | zero =>
    intro i n r h1 h2 h3
    obtain ⟨n, rfl⟩ : ∃ z, n = z + 1 := ⟨n - 1, by omega⟩
    have : i = s := by omega
    subst this
    refine ⟨r, ?_, h3⟩
    simp only [ef_E_on_30]
    rw [if_pos (nI_le (Nat.le_refl i) (by omega))]
    rfl
  | succ k ih =>
    intro i n r h1 h2 h3
    obtain ⟨n, rfl⟩ : ∃ z, n = z + 1 := ⟨n - 1, by omega⟩
    have hlt : ¬ nI s ≤ nI i := er_ge (by omega) (by omega)
    rcases h3 with ⟨p, q1, q2, q3, q4⟩ | ⟨q1, q2⟩
    · obtain ⟨r', c1, c2⟩ := er_nextS hT (σ 6 p)
      obtain ⟨v, d1, d2⟩ := ih (i + 1) n r' (by omega) (by omega) (er_Ch_s hT q1 q2 q4 c2)
      refine ⟨v, ?_, d2⟩
      simp only [ef_E_on_30]
      rw [if_neg hlt, q3, er_ip_y q1, er_bd_s, er_q1, er_gdi q1 (by decide), er_ixn (by omega), c1, er_bd_s, er_p1, d1]
    · refine ⟨r, ?_, Or.inr ⟨q1, by omega⟩⟩
      simp only [ef_E_on_30]
      rw [if_neg hlt, q1, er_ip_m, er_bd_s, er_q0]
      rfl
theorem eo_on (hI : er_I m n τ σ) (hτ : τ ≤ 40 * t) (ht : t ≤ 512) (x y : Int32) : er_Gi t (ef_L_on x y σ) (ef_M_on x y) := by
  have hI0 := hI
  obtain ⟨⟨h8, hn9, a1, a2, a3, a4, a5, a6, a7⟩, ⟨e1, e2, e3, e4, e5, e6, e7, e8, e9, e10, e11, e12, e13, e14, e15, e16⟩, hPb, hPp, hPt, hSf, hTm, hKp⟩ := hI
  rcases er_split x (n := m) (by omega) with hx | ⟨b, hb, rfl⟩
  · refine er_Gi_t hI0 hτ 1 0 (by decide) ?_ ?_
    · simp only [ef_L_on, ef_E_on, er_rb_n a1 hx, er_tb_r, er_tc_r, reduceIte]
    · unfold ef_M_on ef_M_on_14 ef_M_on_23
      rw [er_mb_n a2 h8 hx, er_bd_s, er_q0, er_th1, er_bw_s, er_q1, er_th1, er_bw_s, er_q1, ite_self]
  by_cases hy : y < 0
  · have hy' : ¬ 0 ≤ y := Int32.not_le.mpr hy
    refine er_Gi_t hI0 hτ 2 0 (by decide) ?_ ?_
    · simp only [ef_L_on, ef_E_on, ef_E_requireNotNegative, er_rb_y a1 h8 hb, er_rr_n (hi := 2147483647) (Or.inl hy), er_tb_l, er_tb_r, er_tc_r, reduceIte, Nat.reduceEqDiff]
    · unfold ef_M_on ef_M_on_14 ef_M_on_23
      rw [er_mb_y a2 h8 hb, er_bd_s, er_q1, if_neg hy', er_th2, er_bw_s, er_q1]
  obtain ⟨j, hj, rfl⟩ := nI_of hy
  have hy' : 0 ≤ nI j := er_n0 hj
  have hmx : ¬ 2147483647 < nI j := by
    rw [er_ltI, nI_toInt hj, show (2147483647 : Int32).toInt = 2147483647 by decide]
    omega
  have hT := er_Ty_of (b := b) hPt (by omega) (by omega)
  have hmin : ef_J_min (nI j) 40 σ = some (nI (min j 40)) := by
    unfold ef_J_min
    by_cases h : 40 < j
    · rw [if_pos (by rw [er_40]; exact nI_lt h hj), Nat.min_eq_right (by omega), ← er_40]
      rfl
    · rw [if_neg (by rw [er_40]; exact nI_nlt (by omega) (by omega)), Nat.min_eq_left (by omega)]
      rfl
  obtain ⟨r, c1, c2⟩ := er_nextS hT (-1)
  obtain ⟨v, d1, d2⟩ := er_onC hT (s := min j 40) (Nat.min_le_right j 40) (min j 40) 0 64 r (by omega) (by omega) (er_Ch_0 hT c2)
  rw [nI_0] at d1
  have hbh : er_bh (σ 5) (σ 6) (nI b) (nI j) = v := by
    refine er_bh_Ch hT hj ?_
    by_cases h : j ≤ 40
    · rw [Nat.min_eq_left h] at d2
      exact d2
    · rw [Nat.min_eq_right (by omega)] at d2
      rcases d2 with ⟨p, q1, q2, q3, q4⟩ | ⟨q1, q2⟩
      · have h3 := er_rk_lt (f6 := σ 6) q1 q2
        have h4 := er_sz_le (f5 := σ 5) (x := nI b)
        omega
      · exact Or.inr ⟨q1, by omega⟩
  refine er_Gi_r hI0 hτ v ?_ ?_
  · simp only [ef_L_on, ef_E_on, ef_E_requireNotNegative, er_rb_y a1 h8 hb, er_rr_y hy hmx, er_tb_l, hmin, er_bd_s, c1, d1, er_tc_l, er_gz, er_iz]
  · have hm2 : (er_up σ 39 0 v) 21 5 = nI m := by simpa [er_up] using a2
    have r31 : (er_up (er_up σ 39 0 v) 21 0 0) 31 = σ 5 := by simp only [er_upr, Nat.reduceEqDiff, reduceIte]; exact e3
    have r32 : (er_up (er_up σ 39 0 v) 21 0 0) 32 = σ 6 := by simp only [er_upr, Nat.reduceEqDiff, reduceIte]; exact e4
    unfold ef_M_on ef_M_on_14 ef_M_on_23
    rw [er_mb_y hm2 h8 hb, er_bd_s, er_q1, if_pos hy', er_th0, er_bw_s, er_q0, er_behind, er_bd_s, r31, r32, hbh]
theorem er_rot (v : Int32) : ef_I_rotateLeft v 5 σ = some ((v <<< (5 &&& 31)) ||| ((v.toUInt32 >>> (Int32.toUInt32 27 &&& Int32.toUInt32 31)).toInt32)) := by
  unfold ef_I_rotateLeft
  rw [show Int32.toUInt32 (-5) &&& Int32.toUInt32 31 = Int32.toUInt32 27 &&& Int32.toUInt32 31 by decide]
theorem er_sums (hT : er_Ty (σ 5) (σ 6) x) {g : er_S} (g31 : g 31 = σ 5) (g32 : g 32 = σ 6) : ∀ (k i n n' : Nat) (s r : Int32), i + k = 40 → k < n → k < n' → er_Ch (σ 5) (σ 6) x i r → ∃ v, ef_E_sumOf_15 n x s r (nI i) σ = some v ∧ ef_M_sumOf_4 n' x s (nI i) g = some v := by
  have hon : ef_M_onBoard x g = some (nI (er_sz (σ 5) x)) := by
    rw [er_mcon, g31]
    rfl
  have h40 := er_sz_le (f5 := σ 5) (x := x)
  intro k
  induction k with
  | zero =>
    intro i n n' s r h1 h2 h3 h4
    obtain ⟨n, rfl⟩ : ∃ z, n = z + 1 := ⟨n - 1, by omega⟩
    obtain ⟨n', rfl⟩ : ∃ z, n' = z + 1 := ⟨n' - 1, by omega⟩
    have : i = 40 := by omega
    subst this
    refine ⟨s, ?_, ?_⟩
    · simp only [ef_E_sumOf_15]
      rw [if_pos (by decide)]
      rfl
    · simp only [ef_M_sumOf_4]
      rw [hon, er_bd_s, if_pos (nI_le h40 (by decide))]
  | succ k ih =>
    intro i n n' s r h1 h2 h3 h4
    obtain ⟨n, rfl⟩ : ∃ z, n = z + 1 := ⟨n - 1, by omega⟩
    obtain ⟨n', rfl⟩ : ∃ z, n' = z + 1 := ⟨n' - 1, by omega⟩
    have hi : i < 40 := by omega
    rcases h4 with ⟨p, q1, q2, q3, q4⟩ | ⟨q1, q2⟩
    · obtain ⟨r', c1, c2⟩ := er_nextS hT (σ 6 p)
      have h5 := er_rk_lt (f6 := σ 6) q1 q2
      have hbh : er_bh (σ 5) (σ 6) x (nI i) = nI p := er_bh_Ch hT (by omega) (Or.inl ⟨p, q1, q2, rfl, q4⟩)
      obtain ⟨v, d1, d2⟩ := ih (i + 1) n n' ((((s ^^^ ((1000 * nI p) + ((σ 6 p) - (σ 6 p) / 1000 * 1000))) <<< (5 &&& 31)) ||| (((s ^^^ ((1000 * nI p) + ((σ 6 p) - (σ 6 p) / 1000 * 1000))).toUInt32 >>> (Int32.toUInt32 27 &&& Int32.toUInt32 31)).toInt32)) * (-2048144789)) r' (by omega) (by omega) (by omega) (er_Ch_s hT q1 q2 q4 c2)
      refine ⟨v, ?_, ?_⟩
      · simp only [ef_E_sumOf_15]
        rw [er_40, if_neg (er_ge hi (by decide)), q3, er_ip_y q1, er_bd_s, er_q1, er_gdi q1 (by decide), er_ixn (by omega), er_rot, er_bd_s, c1, er_bd_s, er_p1, d1]
      · simp only [ef_M_sumOf_4]
        rw [hon, er_bd_s, if_neg (er_ge (by omega) (by omega)), er_behind, g31, g32, hbh, er_bd_s, er_gdi q1 (by decide), er_ixn (by omega), er_p1, d2]
    · refine ⟨s, ?_, ?_⟩
      · simp only [ef_E_sumOf_15]
        rw [er_40, if_neg (er_ge hi (by decide)), q1, er_ip_m, er_bd_s, er_q0]
        rfl
      · simp only [ef_M_sumOf_4]
        rw [hon, er_bd_s, if_pos (nI_le q2 (by omega))]
theorem er_sumOf (hT : er_Ty (σ 5) (σ 6) x) : ∃ v, ef_E_sumOf x σ = some v ∧ ∀ g : er_S, g 31 = σ 5 → g 32 = σ 6 → ef_M_sumOf x g = some v := by
  obtain ⟨r, c1, c2⟩ := er_nextS hT (-1)
  have key : ∀ g : er_S, g 31 = σ 5 → g 32 = σ 6 → ∃ v, ef_E_sumOf x σ = some v ∧ ef_M_sumOf x g = some v := by
    intro g g31 g32
    obtain ⟨v, d1, d2⟩ := er_sums hT g31 g32 40 0 64 64 0 r (by decide) (by decide) (by decide) (er_Ch_0 hT c2)
    rw [nI_0] at d1 d2
    refine ⟨v, ?_, d2⟩
    unfold ef_E_sumOf
    rw [c1, er_bd_s, d1]
  obtain ⟨v, d1, -⟩ := key (fun k => if k = 31 then σ 5 else σ 6) rfl rfl
  refine ⟨v, d1, fun g g31 g32 => ?_⟩
  obtain ⟨v', d1', d2'⟩ := key g g31 g32
  rw [d1] at d1'
  cases d1'
  exact d2'
theorem eo_boardAt (hI : er_I m n τ σ) (hτ : τ ≤ 40 * t) (ht : t ≤ 512) (x y : Int32) : er_Gi t (ef_L_boardAt x y σ) (ef_M_boardAt x y) := by
  have hI0 := hI
  obtain ⟨⟨h8, hn9, a1, a2, a3, a4, a5, a6, a7⟩, ⟨e1, e2, e3, e4, e5, e6, e7, e8, e9, e10, e11, e12, e13, e14, e15, e16⟩, hPb, hPp, hPt, hSf, hTm, hKp⟩ := hI
  have hM1 : ef_M_boardAt_18 x y σ = some (0, er_up σ 21 0 1) := by
    unfold ef_M_boardAt_18 ef_M_boardAt_23
    rw [er_th1, er_bw_s, er_q1]
  rcases er_split x (n := m) (by omega) with hx | ⟨b, hb, rfl⟩
  · refine er_Gi_t hI0 hτ 1 0 (by decide) ?_ ?_
    · simp only [ef_L_boardAt, ef_E_boardAt, er_rb_n a1 hx, er_tb_r, er_tc_r, reduceIte]
    · unfold ef_M_boardAt
      rw [er_mb_n a2 h8 hx, er_bd_s, er_q0, hM1]
  have hb8 : b < 8 := by omega
  rcases er_split y (n := 5) (by decide) with hy | ⟨j, hj, rfl⟩
  · have hne : ∀ i, i < 5 → ¬ y = nI i := by
      rintro i hi rfl
      rcases hy with h | h
      · exact nI_pos (by omega) h
      · exact er_ge hi (by decide) h
    have hy' : y < 0 ∨ 4 < y := by rw [show (4 : Int32) = nI 4 by decide]; exact er_badI (by decide) hy
    refine er_Gi_t hI0 hτ 1 0 (by decide) ?_ ?_
    · simp only [ef_L_boardAt, ef_E_boardAt, er_rb_y a1 h8 hb, er_tb_l, if_neg (show ¬ y = 0 from hne 0 (by decide)), if_neg (show ¬ y = 1 from hne 1 (by decide)), if_neg (show ¬ y = 2 from hne 2 (by decide)), if_neg (show ¬ y = 3 from hne 3 (by decide)), if_neg (show ¬ y = 4 from hne 4 (by decide)), er_tc_r, reduceIte]
    · unfold ef_M_boardAt
      rw [er_mb_y a2 h8 hb, er_bd_s, er_q1, er_mi_n hy', er_bd_s, er_q0, hM1]
  have hM : ∀ (v z : Int32), ¬ z < 0 → ¬ 4 < z → ef_M_boardAt (nI b) z (er_up σ 39 0 v) = ef_M_boardAt_23 (nI b) z 0 (er_up σ 39 0 v) := by
    intro v z h1 h2
    unfold ef_M_boardAt
    rw [er_mb_y (show (er_up σ 39 0 v) 21 5 = nI m by simpa [er_up] using a2) h8 hb, er_bd_s, er_q1, er_mi_y h1 h2, er_bd_s, er_q1]
  have rw23 : ∀ v : Int32, (er_up (er_up σ 39 0 v) 21 0 0) 23 = σ 16 := fun v => by simp only [er_upr, Nat.reduceEqDiff, reduceIte]; exact e13
  have rw27 : ∀ v : Int32, (er_up (er_up σ 39 0 v) 21 0 0) 27 = σ 27 := fun v => by simp only [er_upr, Nat.reduceEqDiff, reduceIte]
  have rw31 : ∀ v : Int32, (er_up (er_up σ 39 0 v) 21 0 0) 31 = σ 5 := fun v => by simp only [er_upr, Nat.reduceEqDiff, reduceIte]; exact e3
  have rw32 : ∀ v : Int32, (er_up (er_up σ 39 0 v) 21 0 0) 32 = σ 6 := fun v => by simp only [er_upr, Nat.reduceEqDiff, reduceIte]; exact e4
  rcases (show j = 0 ∨ j = 1 ∨ j = 2 ∨ j = 3 ∨ j = 4 by omega) with rfl | rfl | rfl | rfl | rfl
  · rw [show nI 0 = (0 : Int32) by decide]
    refine er_Gi_r hI0 hτ (if σ 16 b = 0 then 0 else 1) ?_ ?_
    · simp only [ef_L_boardAt, ef_E_boardAt, ef_E_boardAt_57, er_rb_y a1 h8 hb, er_tb_l, er_gdi hb8 (show 8 < 2 ^ 31 by decide), er_ixn (show b < 2 ^ 31 by omega), reduceIte]
      by_cases h : σ 16 b = 0
      · simp only [if_pos h, er_tc_l, er_gz, er_iz]
      · simp only [if_neg h, er_tc_l, er_gz, er_iz]
    · rw [hM _ _ (by decide) (by decide)]
      unfold ef_M_boardAt_23 ef_M_boardAt_78
      rw [er_th0, er_bw_s, er_q0, er_q0, er_gdi hb8 (by decide), er_ixn (by omega), rw23]
      by_cases h : σ 16 b = 0
      · rw [if_pos h, if_pos h]
      · rw [if_neg h, if_neg h]
  · rw [show nI 1 = (1 : Int32) by decide]
    refine er_Gi_r hI0 hτ (σ 20 b) ?_ ?_
    · simp only [ef_L_boardAt, ef_E_boardAt, er_rb_y a1 h8 hb, er_tb_l, if_neg (show ¬ (1 : Int32) = 0 by decide), er_gdi hb8 (show 8 < 2 ^ 31 by decide), er_ixn (show b < 2 ^ 31 by omega), er_tc_l, er_gz, er_iz, reduceIte]
    · rw [hM _ _ (by decide) (by decide)]
      unfold ef_M_boardAt_23
      rw [er_th0, er_bw_s, er_q0, if_neg (show ¬ (1 : Int32) = 0 by decide), if_pos rfl, er_gdi hb8 (by decide), er_ixn (by omega), rw27, ← hKp.1 b hb]
  · rw [show nI 2 = (2 : Int32) by decide]
    refine er_Gi_r hI0 hτ (nI (er_cnt (fun p => decide (σ 5 p = nI b)) 0 40)) ?_ ?_
    · simp only [ef_L_boardAt, ef_E_boardAt, er_rb_y a1 h8 hb, er_tb_l, if_neg (show ¬ (2 : Int32) = 0 by decide), if_neg (show ¬ (2 : Int32) = 1 by decide), er_con, er_bd_s, er_tc_l, er_gz, er_iz, reduceIte]
    · rw [hM _ _ (by decide) (by decide)]
      unfold ef_M_boardAt_23
      rw [er_th0, er_bw_s, er_q0, if_neg (show ¬ (2 : Int32) = 0 by decide), if_neg (show ¬ (2 : Int32) = 1 by decide), if_pos rfl, er_mcon, er_bd_s, rw31]
  · rw [show nI 3 = (3 : Int32) by decide]
    generalize hV : er_saf (σ 3) (σ 13) (σ 5) (σ 10) (σ 14) (σ 0 4) (σ 17 b) (nI b) (-1) = V
    have hrst := er_rst (σ := σ) hb8 (-1)
    rw [hV] at hrst
    refine er_Gi_r hI0 hτ V ?_ ?_
    · simp only [ef_L_boardAt, ef_E_boardAt, er_rb_y a1 h8 hb, er_tb_l, if_neg (show ¬ (3 : Int32) = 0 by decide), if_neg (show ¬ (3 : Int32) = 1 by decide), if_neg (show ¬ (3 : Int32) = 2 by decide), hrst, er_bd_s, er_tc_l, er_gz, er_iz, reduceIte]
    · rw [hM _ _ (by decide) (by decide)]
      generalize hG : er_up (er_up σ 39 0 V) 21 0 0 = g
      have r28 : g 28 = σ 28 := by rw [← hG]; simp only [er_upr, Nat.reduceEqDiff, reduceIte]
      have r29 : g 29 = σ 29 := by rw [← hG]; simp only [er_upr, Nat.reduceEqDiff, reduceIte]
      have r31 : g 31 = σ 31 := by rw [← hG]; simp only [er_upr, Nat.reduceEqDiff, reduceIte]
      have r36 : g 36 = σ 36 := by rw [← hG]; simp only [er_upr, Nat.reduceEqDiff, reduceIte]
      have r24 : g 24 = σ 24 := by rw [← hG]; simp only [er_upr, Nat.reduceEqDiff, reduceIte]
      have r27 : g 27 = σ 27 := by rw [← hG]; simp only [er_upr, Nat.reduceEqDiff, reduceIte]
      have r1 : g 21 1 = σ 21 1 := by rw [← hG]; simp [er_up]
      have r5 : g 21 5 = nI m := by rw [← hG]; simpa [er_up] using a2
      have hs := er_msafe (σ := g) (f20 := σ 20) (f14 := σ 14) r5 h8 (by rw [r27]; exact hKp) (by rw [r31, e3]; exact hPb) hb8 (-1)
      rw [r28, r29, r31, r36, r24, r1, e1, e3, e8, e11, e14, a4, ← a3, hV] at hs
      unfold ef_M_boardAt_23
      rw [er_th0, er_bw_s, er_q0, if_neg (show ¬ (3 : Int32) = 0 by decide), if_neg (show ¬ (3 : Int32) = 1 by decide), if_neg (show ¬ (3 : Int32) = 2 by decide), if_pos rfl, hG, hs, er_bd_s]
  · rw [show nI 4 = (4 : Int32) by decide]
    obtain ⟨V, hC, hMs⟩ := er_sumOf (σ := σ) (x := nI b) (er_Ty_of hPt (by omega) hb8)
    refine er_Gi_r hI0 hτ V ?_ ?_
    · simp only [ef_L_boardAt, ef_E_boardAt, er_rb_y a1 h8 hb, er_tb_l, if_neg (show ¬ (4 : Int32) = 0 by decide), if_neg (show ¬ (4 : Int32) = 1 by decide), if_neg (show ¬ (4 : Int32) = 2 by decide), if_neg (show ¬ (4 : Int32) = 3 by decide), hC, er_bd_s, er_tc_l, er_gz, er_iz, reduceIte]
    · rw [hM _ _ (by decide) (by decide)]
      unfold ef_M_boardAt_23
      rw [er_th0, er_bw_s, er_q0, if_neg (show ¬ (4 : Int32) = 0 by decide), if_neg (show ¬ (4 : Int32) = 1 by decide), if_neg (show ¬ (4 : Int32) = 2 by decide), if_neg (show ¬ (4 : Int32) = 3 by decide), hMs _ (rw31 V) (rw32 V), er_bd_s]
end ERO9
