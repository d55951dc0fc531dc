/-! pure: enter -/
theorem er_cnt_len (P : Nat → Bool) : ∀ (k j : Nat), j ≤ k → er_cnt P 0 j ≤ er_cnt P 0 k := by
  intro k
  induction k with
  | zero => intro j h; rw [Nat.le_zero.mp h]; exact Nat.le_refl _
  | succ k ih =>
    intro j h
    by_cases e : j = k + 1
    · rw [e]; exact Nat.le_refl _
    · have := ih j (by omega)
      rw [er_cnt_snoc]
      omega
theorem er_cnt_lt {P : Nat → Bool} {p q : Nat} (h : P p = true) (hp : p < q) : er_cnt P 0 p + 1 ≤ er_cnt P 0 q := by
  have h1 := er_cnt_len P q (p + 1) hp
  rw [er_cnt_snoc, Nat.zero_add, h, if_pos rfl] at h1
  exact h1
def er_hw (f : Nat → Int32) (x : Int32) (i : Nat) (v g : Nat → Int32) : Nat → Int32 := fun b => if b < i ∧ f b = x then v b else g b
theorem er_hw_0 (f : Nat → Int32) (x : Int32) (v g : Nat → Int32) : er_hw f x 0 v g = g := by
  funext b
  simp [er_hw]
theorem er_hw_y {f : Nat → Int32} {x : Int32} {i : Nat} (v g : Nat → Int32) {w : Int32} (h : f i = x) (hw : w = v i) : upd (er_hw f x i v g) i w = er_hw f x (i + 1) v g := by
  funext b
  subst hw
  by_cases hb : b = i
  · subst hb
    rw [er_us]
    simp [er_hw, h]
  · have : (b < i + 1) = (b < i) := by
      apply propext
      omega
    rw [er_uo _ _ hb]
    simp [er_hw, this]
theorem er_hw_n {f : Nat → Int32} {x : Int32} {i : Nat} (v g : Nat → Int32) (h : ¬ f i = x) : er_hw f x i v g = er_hw f x (i + 1) v g := by
  funext b
  by_cases hb : b = i
  · subst hb
    simp [er_hw, h]
  · have : (b < i + 1) = (b < i) := by
      apply propext
      omega
    simp [er_hw, this]
abbrev er_tn (f : Nat → Int32) (x : Int32) (i : Nat) : Nat := er_cnt (fun p => decide (f p = x)) 0 i
def er_eC (σ : er_S) (x1 x2 x3 x4 : Int32) (i : Nat) : er_S := fun k =>
  if k = 5 then er_hw (σ 13) x2 i (fun _ => x1) (σ 5) else
  if k = 6 then er_hw (σ 13) x2 i (fun b => σ 0 5 + nI (er_tn (σ 13) x2 b)) (σ 6) else
  if k = 7 then er_hw (σ 13) x2 i (fun _ => x4) (σ 7) else
  if k = 8 then er_hw (σ 13) x2 i (fun _ => x3) (σ 8) else
  if k = 9 then er_hw (σ 13) x2 i (fun _ => σ 0 4) (σ 9) else
  if k = 0 then upd (σ 0) 5 (σ 0 5 + nI (er_tn (σ 13) x2 i)) else σ k
theorem er_eC_0 (σ : er_S) (x1 x2 x3 x4 : Int32) : er_eC σ x1 x2 x3 x4 0 = σ := by
  funext k
  unfold er_eC
  by_cases h5 : k = 5
  · rw [if_pos h5, er_hw_0, h5]
  rw [if_neg h5]
  by_cases h6 : k = 6
  · rw [if_pos h6, er_hw_0, h6]
  rw [if_neg h6]
  by_cases h7 : k = 7
  · rw [if_pos h7, er_hw_0, h7]
  rw [if_neg h7]
  by_cases h8 : k = 8
  · rw [if_pos h8, er_hw_0, h8]
  rw [if_neg h8]
  by_cases h9 : k = 9
  · rw [if_pos h9, er_hw_0, h9]
  rw [if_neg h9]
  by_cases h0 : k = 0
  · rw [if_pos h0, h0]
    funext b
    by_cases hb : b = 5
    · rw [hb, er_us]
      show σ 0 5 + nI 0 = σ 0 5
      rw [nI_0]
      exact Int32.add_zero _
    · rw [er_uo _ _ hb]
  rw [if_neg h0]
theorem er_eC_c (σ : er_S) (x1 x2 x3 x4 : Int32) (i : Nat) : er_eC σ x1 x2 x3 x4 i 0 5 = σ 0 5 + nI (er_tn (σ 13) x2 i) ∧ er_eC σ x1 x2 x3 x4 i 0 4 = σ 0 4 ∧ er_eC σ x1 x2 x3 x4 i 13 = σ 13 := by
  refine ⟨?_, ?_, ?_⟩
  · simp only [er_eC, Nat.reduceEqDiff, reduceIte]
    exact er_us _ _ _
  · simp only [er_eC, Nat.reduceEqDiff, reduceIte]
    exact er_uo _ _ (by decide)
  · simp only [er_eC, Nat.reduceEqDiff, reduceIte]
theorem er_eC_n {σ : er_S} {x1 x2 x3 x4 : Int32} {i : Nat} (h : ¬ σ 13 i = x2) : er_eC σ x1 x2 x3 x4 i = er_eC σ x1 x2 x3 x4 (i + 1) := by
  have hc : er_tn (σ 13) x2 (i + 1) = er_tn (σ 13) x2 i := by
    unfold er_tn
    rw [er_cnt_snoc, Nat.zero_add]
    simp [h]
  unfold er_eC
  rw [hc, er_hw_n _ _ h, er_hw_n _ _ h, er_hw_n _ _ h, er_hw_n _ _ h, er_hw_n _ _ h]
theorem er_eC_y {σ : er_S} {x1 x2 x3 x4 u w : Int32} {i : Nat} (h : σ 13 i = x2) (hu : u = σ 0 5 + nI (er_tn (σ 13) x2 i)) (hw : w = σ 0 4) : er_up (er_up (er_up (er_up (er_up (er_up (er_eC σ x1 x2 x3 x4 i) 5 i x1) 6 i u) 8 i x3) 7 i x4) 9 i w) 0 5 (u + 1) = er_eC σ x1 x2 x3 x4 (i + 1) := by
  have hc : er_tn (σ 13) x2 (i + 1) = er_tn (σ 13) x2 i + 1 := by
    unfold er_tn
    rw [er_cnt_snoc, Nat.zero_add]
    simp [h]
  subst hw
  funext k
  by_cases h5 : k = 5
  · subst h5
    simp only [er_upr, er_eC, Nat.reduceEqDiff, reduceIte]
    exact er_hw_y _ _ h rfl
  by_cases h6 : k = 6
  · subst h6
    simp only [er_upr, er_eC, Nat.reduceEqDiff, reduceIte]
    exact er_hw_y _ _ h hu
  by_cases h7 : k = 7
  · subst h7
    simp only [er_upr, er_eC, Nat.reduceEqDiff, reduceIte]
    exact er_hw_y _ _ h rfl
  by_cases h8 : k = 8
  · subst h8
    simp only [er_upr, er_eC, Nat.reduceEqDiff, reduceIte]
    exact er_hw_y _ _ h rfl
  by_cases h9 : k = 9
  · subst h9
    simp only [er_upr, er_eC, Nat.reduceEqDiff, reduceIte]
    exact er_hw_y _ _ h rfl
  by_cases h0 : k = 0
  · subst h0
    simp only [er_upr, er_eC, Nat.reduceEqDiff, reduceIte]
    rw [er_uu, hc, hu, Int32.add_assoc, nI_1]
  · simp only [er_upr, er_eC, if_neg h5, if_neg h6, if_neg h7, if_neg h8, if_neg h9, if_neg h0]
def er_eM (σ : er_S) (x1 x2 x3 x4 : Int32) (i : Nat) : er_S := fun k =>
  if k = 31 then er_hw (σ 29) x2 i (fun _ => x1) (σ 31) else
  if k = 32 then er_hw (σ 29) x2 i (fun b => σ 21 3 + nI (er_tn (σ 29) x2 b)) (σ 32) else
  if k = 33 then er_hw (σ 29) x2 i (fun _ => x4) (σ 33) else
  if k = 34 then er_hw (σ 29) x2 i (fun _ => x3) (σ 34) else
  if k = 35 then er_hw (σ 29) x2 i (fun _ => σ 21 1) (σ 35) else
  if k = 21 then upd (σ 21) 3 (σ 21 3 + nI (er_tn (σ 29) x2 i)) else σ k
theorem er_eM_0 (σ : er_S) (x1 x2 x3 x4 : Int32) : er_eM σ x1 x2 x3 x4 0 = σ := by
  funext k
  unfold er_eM
  by_cases h5 : k = 31
  · rw [if_pos h5, er_hw_0, h5]
  rw [if_neg h5]
  by_cases h6 : k = 32
  · rw [if_pos h6, er_hw_0, h6]
  rw [if_neg h6]
  by_cases h7 : k = 33
  · rw [if_pos h7, er_hw_0, h7]
  rw [if_neg h7]
  by_cases h8 : k = 34
  · rw [if_pos h8, er_hw_0, h8]
  rw [if_neg h8]
  by_cases h9 : k = 35
  · rw [if_pos h9, er_hw_0, h9]
  rw [if_neg h9]
  by_cases h0 : k = 21
  · rw [if_pos h0, h0]
    funext b
    by_cases hb : b = 3
    · rw [hb, er_us]
      show σ 21 3 + nI 0 = σ 21 3
      rw [nI_0]
      exact Int32.add_zero _
    · rw [er_uo _ _ hb]
  rw [if_neg h0]
theorem er_eM_c (σ : er_S) (x1 x2 x3 x4 : Int32) (i : Nat) : er_eM σ x1 x2 x3 x4 i 21 3 = σ 21 3 + nI (er_tn (σ 29) x2 i) ∧ er_eM σ x1 x2 x3 x4 i 21 1 = σ 21 1 ∧ er_eM σ x1 x2 x3 x4 i 29 = σ 29 := by
  refine ⟨?_, ?_, ?_⟩
  · simp only [er_eM, Nat.reduceEqDiff, reduceIte]
    exact er_us _ _ _
  · simp only [er_eM, Nat.reduceEqDiff, reduceIte]
    exact er_uo _ _ (by decide)
  · simp only [er_eM, Nat.reduceEqDiff, reduceIte]
theorem er_eM_n {σ : er_S} {x1 x2 x3 x4 : Int32} {i : Nat} (h : ¬ σ 29 i = x2) : er_eM σ x1 x2 x3 x4 i = er_eM σ x1 x2 x3 x4 (i + 1) := by
  have hc : er_tn (σ 29) x2 (i + 1) = er_tn (σ 29) x2 i := by
    unfold er_tn
    rw [er_cnt_snoc, Nat.zero_add]
    simp [h]
  unfold er_eM
  rw [hc, er_hw_n _ _ h, er_hw_n _ _ h, er_hw_n _ _ h, er_hw_n _ _ h, er_hw_n _ _ h]
theorem er_eM_y {σ : er_S} {x1 x2 x3 x4 u w : Int32} {i : Nat} (h : σ 29 i = x2) (hu : u = σ 21 3 + nI (er_tn (σ 29) x2 i)) (hw : w = σ 21 1) : er_up (er_up (er_up (er_up (er_up (er_up (er_eM σ x1 x2 x3 x4 i) 31 i x1) 32 i u) 33 i x4) 34 i x3) 35 i w) 21 3 (u + 1) = er_eM σ x1 x2 x3 x4 (i + 1) := by
  have hc : er_tn (σ 29) x2 (i + 1) = er_tn (σ 29) x2 i + 1 := by
    unfold er_tn
    rw [er_cnt_snoc, Nat.zero_add]
    simp [h]
  subst hw
  funext k
  by_cases h5 : k = 31
  · subst h5
    simp only [er_upr, er_eM, Nat.reduceEqDiff, reduceIte]
    exact er_hw_y _ _ h rfl
  by_cases h6 : k = 32
  · subst h6
    simp only [er_upr, er_eM, Nat.reduceEqDiff, reduceIte]
    exact er_hw_y _ _ h hu
  by_cases h7 : k = 33
  · subst h7
    simp only [er_upr, er_eM, Nat.reduceEqDiff, reduceIte]
    exact er_hw_y _ _ h rfl
  by_cases h8 : k = 34
  · subst h8
    simp only [er_upr, er_eM, Nat.reduceEqDiff, reduceIte]
    exact er_hw_y _ _ h rfl
  by_cases h9 : k = 35
  · subst h9
    simp only [er_upr, er_eM, Nat.reduceEqDiff, reduceIte]
    exact er_hw_y _ _ h rfl
  by_cases h0 : k = 21
  · subst h0
    simp only [er_upr, er_eM, Nat.reduceEqDiff, reduceIte]
    rw [er_uu, hc, hu, Int32.add_assoc, nI_1]
  · simp only [er_upr, er_eM, if_neg h5, if_neg h6, if_neg h7, if_neg h8, if_neg h9, if_neg h0]
section ERO8
variable {σ : er_S} {m n τ t b k : Nat} {x1 x2 x3 x4 x5 x6 x7 : Int32} {f20 f14 : Nat → Int32}
theorem er_setE {p : Nat} (hp : p < 40) (a b c d e : Int32) : ef_P_setEntry (nI p) a b c d e σ = some ((), er_up (er_up (er_up (er_up (er_up σ 5 p a) 6 p b) 8 p c) 7 p d) 9 p e) := by
  unfold ef_P_setEntry
  simp only [er_gdi hp (show 40 < 2 ^ 31 by decide), er_ixn (show p < 2 ^ 31 by omega)]
theorem er_enterC (x1 x2 x3 x4 x6 : Int32) (σ : er_S) : ef_E_enter_97 64 x1 x2 x3 x4 x6 0 σ = some (.inl x6, er_eC σ x1 x2 x3 x4 40) := by
  have h := er_sl0 (fun n i s => ef_E_enter_97 n x1 x2 x3 x4 x6 i s) (fun s => some (.inl x6, s)) (er_eC σ x1 x2 x3 x4) 40
    (by intro n; simp only [ef_E_enter_97]; rw [if_pos (by decide)])
    (by
      intro n i hi
      obtain ⟨c1, c2, c3⟩ := er_eC_c σ x1 x2 x3 x4 i
      simp only [ef_E_enter_97]
      rw [er_40, if_neg (er_ge hi (by decide)), er_gdi hi (by decide), er_ixn (by omega), er_p1, c3]
      by_cases h : σ 13 i = x2
      · rw [if_pos h, er_setE hi, er_bw_s]
        have r : (er_up (er_up (er_up (er_up (er_up (er_eC σ x1 x2 x3 x4 i) 5 i x1) 6 i (er_eC σ x1 x2 x3 x4 i 0 5)) 8 i x3) 7 i x4) 9 i (er_eC σ x1 x2 x3 x4 i 0 4)) 0 5 = er_eC σ x1 x2 x3 x4 i 0 5 := by simp only [er_upr, Nat.reduceEqDiff, reduceIte]
        rw [r, er_eC_y h c1 c2]
      · rw [if_neg h, er_eC_n h]) (n := 64) (by decide)
  rw [er_eC_0] at h
  exact h
theorem er_enterM (x1 x2 x3 x4 x6 : Int32) (σ : er_S) : ef_M_enter_158 64 x1 x2 x3 x4 x6 0 σ = some (x6, er_eM σ x1 x2 x3 x4 40) := by
  have h := er_sl0 (fun n i s => ef_M_enter_158 n x1 x2 x3 x4 x6 i s) (fun s => some (x6, s)) (er_eM σ x1 x2 x3 x4) 40
    (by intro n; simp only [ef_M_enter_158]; rw [if_pos (by decide)])
    (by
      intro n i hi
      obtain ⟨c1, c2, c3⟩ := er_eM_c σ x1 x2 x3 x4 i
      simp only [ef_M_enter_158]
      rw [er_40, if_neg (er_ge hi (by decide)), er_ixn (by omega), er_p1, c3]
      simp only [er_gdi hi (show 40 < 2 ^ 31 by decide)]
      by_cases h : σ 29 i = x2
      · rw [if_pos h]
        have r1 : (er_up (er_eM σ x1 x2 x3 x4 i) 31 i x1) 21 3 = er_eM σ x1 x2 x3 x4 i 21 3 := by simp only [er_upr, Nat.reduceEqDiff, reduceIte]
        rw [r1]
        have r2 : (er_up (er_up (er_up (er_up (er_eM σ x1 x2 x3 x4 i) 31 i x1) 32 i (er_eM σ x1 x2 x3 x4 i 21 3)) 33 i x4) 34 i x3) 21 1 = er_eM σ x1 x2 x3 x4 i 21 1 := by simp only [er_upr, Nat.reduceEqDiff, reduceIte]
        rw [r2]
        have r3 : (er_up (er_up (er_up (er_up (er_up (er_eM σ x1 x2 x3 x4 i) 31 i x1) 32 i (er_eM σ x1 x2 x3 x4 i 21 3)) 33 i x4) 34 i x3) 35 i (er_eM σ x1 x2 x3 x4 i 21 1)) 21 3 = er_eM σ x1 x2 x3 x4 i 21 3 := by simp only [er_upr, Nat.reduceEqDiff, reduceIte]
        rw [r3, er_eM_y h c1 c2]
      · rw [if_neg h, er_eM_n h]) (n := 64) (by decide)
  rw [er_eM_0] at h
  exact h
def er_go (o kp : Int32) (A : Bool) (V nd x5 mk : Int32) : Bool := !decide (o = 0) && (!decide (kp = -1) && (A && (!decide (V < nd) || (!decide (x5 = 0) && !decide (mk = 0)))))
theorem er_m47 (hm : σ 21 5 = nI m) (h8 : m ≤ 8) (hK : er_Kp m f20 (σ 27) f14) (hP : er_Pb m (σ 31)) (hb : b < m) (x7 : Int32) : ef_M_enter_47 (nI b) x2 x3 x4 x5 0 x7 σ =
    ef_M_enter_132 (nI b) x2 x3 x4 0 x7 (er_b01 (!er_go (σ 23 b) (σ 27 b) (er_rdy (σ 29) (σ 31) (σ 36) f14 (σ 21 1) (σ 24 b) x2) (er_saf (σ 28) (σ 29) (σ 31) (σ 36) f14 (σ 21 1) (σ 24 b) (nI b) x2) (σ 26 b) x5 (σ 30 (er_ix (σ 27 b))))) σ := by
  have hb8 : b < 8 := by omega
  unfold ef_M_enter_47 ef_M_enter_81 ef_M_enter_86 ef_M_enter_127 ef_M_enter_131
  rw [er_q0, er_gdi hb8 (by decide), er_gdi hb8 (by decide), er_ixn (by omega), er_mready hm h8 hK hP hb8, er_bd_s, er_msafe hm h8 hK hP hb8, er_q1, er_q0, er_bd_s, er_gdi hb8 (by decide), er_gdi hb8 (by decide)]
  generalize er_rdy (σ 29) (σ 31) (σ 36) f14 (σ 21 1) (σ 24 b) x2 = A
  generalize er_saf (σ 28) (σ 29) (σ 31) (σ 36) f14 (σ 21 1) (σ 24 b) (nI b) x2 = V
  unfold er_go
  by_cases h1 : σ 23 b = 0
  · rw [if_pos h1]; simp [h1, er_bt]
  rw [if_neg h1]
  have hk : σ 27 b = -1 ∨ ∃ p, p < 40 ∧ σ 27 b = nI p := by
    rw [← hK.1 b hb]
    rcases hK.2.1 b hb8 with h | ⟨-, h⟩
    · exact Or.inl h
    · exact Or.inr h
  rcases hk with h2 | ⟨p, hp, h2⟩
  · rw [if_pos (show σ 27 b < 0 by rw [h2]; decide)]; simp [h2, er_bt]
  have h3 : ¬ σ 27 b = -1 := by rw [h2]; exact er_m1n (by omega)
  rw [if_neg (show ¬ σ 27 b < 0 by rw [h2]; exact nI_pos (by omega))]
  cases A
  · simp [er_bf, er_bt]
  rw [er_bt, er_q1]
  by_cases h4 : V < σ 26 b
  · rw [if_neg (Int32.not_le.mpr h4)]
    by_cases h5 : x5 = 0
    · rw [if_pos h5]; simp [h4, h5, er_bt]
    · rw [if_neg h5, h2, er_gdi hp (by decide), er_ixn (by omega)]
      have h3' : ¬ nI p = -1 := er_m1n (by omega)
      by_cases h6 : σ 30 p = 0
      · rw [if_pos h6]; simp [h4, h6, er_bt]
      · rw [if_neg h6]; simp [h1, h3', h5, h6, er_bf]
  · rw [if_pos (Int32.not_lt.mp h4)]; simp [h1, h3, h4, er_bf]
theorem er_Pt_enter {f5 f6 f13 : Nat → Int32} {x2 : Int32} (h : er_Pt τ f5 f6) (hτ : τ ≤ 20480) (hb : b < 8) : er_Pt (τ + er_tn f13 x2 40) (er_hw f13 x2 40 (fun _ => nI b) f5) (er_hw f13 x2 40 (fun p => nI τ + nI (er_tn f13 x2 p)) f6) := by
  have hle : ∀ p, er_tn f13 x2 p ≤ p := fun p => er_cnt_le _ p 0
  have h40 := hle 40
  have hy : ∀ p, p < 40 → f13 p = x2 → er_hw f13 x2 40 (fun p => nI τ + nI (er_tn f13 x2 p)) f6 p = nI (τ + er_tn f13 x2 p) := by
    intro p hp e
    unfold er_hw
    rw [if_pos ⟨hp, e⟩]
    exact nI_add _ _
  have hn : ∀ (v g : Nat → Int32) p, ¬ f13 p = x2 → er_hw f13 x2 40 v g p = g p := by
    intro v g p e
    unfold er_hw
    rw [if_neg (fun q => e q.2)]
  have hlt : ∀ p q, p < q → f13 p = x2 → er_tn f13 x2 p + 1 ≤ er_tn f13 x2 q := fun p q hpq e => er_cnt_lt (P := fun p => decide (f13 p = x2)) (decide_eq_true e) hpq
  refine ⟨fun p hp hin => ?_, fun p hp q hq hne hp' hq' => ?_⟩
  · by_cases e : f13 p = x2
    · have := hlt p 40 hp e
      exact ⟨τ + er_tn f13 x2 p, by omega, hy p hp e⟩
    · rw [hn _ _ p e] at hin ⊢
      obtain ⟨y, h1, h2⟩ := h.1 p hp hin
      exact ⟨y, by omega, h2⟩
  · by_cases e : f13 p = x2
    · rw [hy p hp e]
      have lp := hle p
      by_cases e' : f13 q = x2
      · rw [hy q hq e']
        have lq := hle q
        rw [Ne, nI_eq (by omega) (by omega)]
        rcases Nat.lt_or_gt_of_ne hne with k | k
        · have := hlt p q k e
          omega
        · have := hlt q p k e'
          omega
      · rw [hn _ _ q e'] at hq' ⊢
        obtain ⟨y, h1, h2⟩ := h.1 q hq hq'
        rw [h2, Ne, nI_eq (by omega) (by omega)]
        omega
    · rw [hn _ _ p e] at hp' ⊢
      by_cases e' : f13 q = x2
      · rw [hy q hq e']
        have lq := hle q
        obtain ⟨y, h1, h2⟩ := h.1 p hp hp'
        rw [h2, Ne, nI_eq (by omega) (by omega)]
        omega
      · rw [hn _ _ q e'] at hq' ⊢
        exact h.2 p hp q hq hne hp' hq'
theorem eo_enter (hI : er_I m n τ σ) (hτ : τ ≤ 40 * t) (ht : t ≤ 512) (x y z w r : Int32) (hr : r = 0 ∨ r = 1) : er_Gi t (ef_L_enter x y z w r σ) (ef_M_enter x y z w r) := by
  have hI0 := hI
  obtain ⟨⟨h8, hn9, a1, a2, a3, a4, a5, a6, a7⟩, ⟨e1, e2, e3, e4, e5, e6, e7, e8, e9, e10, e11, e12, e13, e14, e15, e16⟩, hPb, hPp, hPt, hSf, hTm, hKp⟩ := hI
  have hM1 : ef_M_enter_15 x y z w r σ = some (0, er_up σ 21 0 1) := by
    have h47 : ∀ v, ef_M_enter_47 x y z w r 1 v σ = some (0, er_up σ 21 0 1) := by
      intro v
      simp only [ef_M_enter_47, ef_M_enter_81, ef_M_enter_86, ef_M_enter_127, ef_M_enter_132, er_q1, er_th1, er_bw_s]
    unfold ef_M_enter_15 ef_M_enter_20 ef_M_enter_42
    by_cases hz : z < 0 ∨ 9 < z
    · rw [er_mi_n hz, er_bd_s, er_q0, h47]
    · rw [er_mi_y (fun q => hz (Or.inl q)) (fun q => hz (Or.inr q)), er_bd_s, er_q1]
      by_cases hw : w < 0 ∨ 5 < w
      · rw [er_mi_n hw, er_bd_s, er_q0, h47]
      · rw [er_mi_y (fun q => hw (Or.inl q)) (fun q => hw (Or.inr q)), er_bd_s, er_q1, h47]
  rcases er_split x (n := m) (by omega) with hx | ⟨b, hb, rfl⟩
  · refine er_Gi_t hI0 hτ 1 0 (by decide) ?_ ?_
    · simp only [ef_L_enter, ef_E_enter, er_rb_n a1 hx, er_tb_r, er_tc_r, reduceIte]
    · unfold ef_M_enter
      rw [er_mb_n a2 h8 hx, er_bd_s, er_q0, hM1]
  rcases er_split y (n := 16) (by decide) with hy | ⟨k, hk, rfl⟩
  · refine er_Gi_t hI0 hτ 1 0 (by decide) ?_ ?_
    · simp only [ef_L_enter, ef_E_enter, er_rb_y a1 h8 hb, er_rt_n hy, er_tb_l, er_tb_r, er_tc_r, reduceIte]
    · unfold ef_M_enter
      rw [er_mb_y a2 h8 hb, er_bd_s, er_q1, er_mt_n hy, er_bd_s, er_q0, hM1]
  have hb8 : b < 8 := by omega
  have hM2 : ∀ σ1 : er_S, σ1 21 5 = nI m → ef_M_enter (nI b) (nI k) z w r σ1 = ef_M_enter_20 (nI b) (nI k) z w r 0 σ1 := by
    intro σ1 h
    unfold ef_M_enter
    rw [er_mb_y h h8 hb, er_bd_s, er_q1, er_mt_y hk, er_bd_s, er_q1]
  have hK27 : er_Kp m (σ 20) (σ 27) (σ 14) := hKp
  have hP31 : er_Pb m (σ 31) := by rw [e3]; exact hPb
  have h132 : ∀ v : Int32, ef_M_enter_132 (nI b) (nI k) z w 0 1 v σ = some (0, er_up σ 21 0 2) := by
    intro v
    unfold ef_M_enter_132
    rw [er_th2, er_bw_s, er_q1]
  by_cases hz : z < 0 ∨ 9 < z
  · refine er_Gi_t hI0 hτ 2 0 (by decide) ?_ ?_
    · simp only [ef_L_enter, ef_E_enter, er_rb_y a1 h8 hb, er_rt_y hk, er_rr_n hz, er_tb_l, er_tb_r, er_tc_r, reduceIte, Nat.reduceEqDiff]
    · rw [hM2 σ a2]
      unfold ef_M_enter_20 ef_M_enter_42
      rw [er_mi_n hz, er_bd_s, er_q0, er_m47 a2 h8 hK27 hP31 hb, h132]
  have z1 : ¬ z < 0 := fun q => hz (Or.inl q)
  have z2 : ¬ 9 < z := fun q => hz (Or.inr q)
  by_cases hw : w < 0 ∨ 5 < w
  · refine er_Gi_t hI0 hτ 2 0 (by decide) ?_ ?_
    · simp only [ef_L_enter, ef_E_enter, er_rb_y a1 h8 hb, er_rt_y hk, er_rr_y z1 z2, er_rr_n hw, er_tb_l, er_tb_r, er_tc_r, reduceIte, Nat.reduceEqDiff]
    · rw [hM2 σ a2]
      unfold ef_M_enter_20 ef_M_enter_42
      rw [er_mi_y z1 z2, er_bd_s, er_q1, er_mi_n hw, er_bd_s, er_q0, er_m47 a2 h8 hK27 hP31 hb, h132]
  have w1 : ¬ w < 0 := fun q => hw (Or.inl q)
  have w2 : ¬ 5 < w := fun q => hw (Or.inr q)
  have hM5 : ∀ σ1 : er_S, σ1 21 5 = nI m → ef_M_enter (nI b) (nI k) z w r σ1 = ef_M_enter_47 (nI b) (nI k) z w r 0 0 σ1 := by
    intro σ1 h
    rw [hM2 σ1 h]
    unfold ef_M_enter_20
    rw [er_mi_y z1 z2, er_bd_s, er_q1, er_mi_y w1 w2, er_bd_s, er_q1]
  have hk27 : σ 27 b = σ 20 b := (hKp.1 b hb).symm
  generalize hA : er_rdy (σ 13) (σ 5) (σ 10) (σ 14) (σ 0 4) (σ 17 b) (nI k) = A
  generalize hV : er_saf (σ 3) (σ 13) (σ 5) (σ 10) (σ 14) (σ 0 4) (σ 17 b) (nI b) (nI k) = V
  have h47 : ∀ σ1 : er_S, (∀ j, 20 < j → j < 39 → σ1 j = σ j) → ef_M_enter (nI b) (nI k) z w r σ1 = ef_M_enter_132 (nI b) (nI k) z w 0 0 (er_b01 (!er_go (σ 16 b) (σ 20 b) A V (σ 19 b) r (σ 15 (er_ix (σ 20 b))))) σ1 := by
    intro σ1 hj
    have q : ∀ j, 20 < j → j < 39 → σ1 j = σ j := hj
    have hm1 : σ1 21 5 = nI m := by rw [q 21 (by decide) (by decide)]; exact a2
    rw [hM5 σ1 hm1, er_m47 (f20 := σ 20) (f14 := σ 14) hm1 h8 (by rw [q 27 (by decide) (by decide)]; exact hKp) (by rw [q 31 (by decide) (by decide)]; exact hP31) hb]
    rw [q 21 (by decide) (by decide), q 23 (by decide) (by decide), q 24 (by decide) (by decide), q 26 (by decide) (by decide), q 27 (by decide) (by decide), q 28 (by decide) (by decide), q 29 (by decide) (by decide), q 30 (by decide) (by decide), q 31 (by decide) (by decide), q 36 (by decide) (by decide), hk27, a4, ← a3, e1, e3, e8, e11, e12, e13, e14, e16, hA, hV]
  have hMf : er_go (σ 16 b) (σ 20 b) A V (σ 19 b) r (σ 15 (er_ix (σ 20 b))) = false → ef_M_enter (nI b) (nI k) z w r σ = some (0, er_up σ 21 0 3) := by
    intro h
    rw [h47 σ (fun _ _ _ => rfl), h]
    unfold ef_M_enter_132
    rw [Bool.not_false, er_bt, er_th3, er_bw_s, er_q1]
  by_cases ho : σ 16 b = 0
  · refine er_Gi_t hI0 hτ 3 0 (by decide) ?_ (hMf (by unfold er_go; simp [ho]))
    simp only [ef_L_enter, ef_E_enter, er_rb_y a1 h8 hb, er_rt_y hk, er_rr_y z1 z2, er_rr_y w1 w2, er_ro_n hb8 ho, er_tb_l, er_tb_r, er_tc_r, reduceIte, Nat.reduceEqDiff]
  by_cases hkp : σ 20 b = -1
  · refine er_Gi_t hI0 hτ 3 0 (by decide) ?_ (hMf (by unfold er_go; simp [hkp]))
    simp only [ef_L_enter, ef_E_enter, ef_E_enter_46, er_rb_y a1 h8 hb, er_rt_y hk, er_rr_y z1 z2, er_rr_y w1 w2, er_ro_y hb8 ho, er_gdi hb8 (show 8 < 2 ^ 31 by decide), er_ixn (show b < 2 ^ 31 by omega), if_pos hkp, er_rs_n, er_tb_l, er_tb_r, er_tc_r, reduceIte, Nat.reduceEqDiff]
  obtain ⟨p, hp, hkq⟩ : ∃ p, p < 40 ∧ σ 20 b = nI p := by
    rcases hKp.2.1 b hb8 with h | ⟨-, h⟩
    · exact absurd h hkp
    · exact h
  have hrdy := er_ready (σ := σ) hb8 (nI k)
  rw [hA] at hrdy
  have hrst := er_rst (σ := σ) hb8 (nI k)
  rw [hV] at hrst
  cases A with
  | false =>
    refine er_Gi_t hI0 hτ 3 0 (by decide) ?_ (hMf (by unfold er_go; simp))
    simp only [ef_L_enter, ef_E_enter, ef_E_enter_46, er_rb_y a1 h8 hb, er_rt_y hk, er_rr_y z1 z2, er_rr_y w1 w2, er_ro_y hb8 ho, er_gdi hb8 (show 8 < 2 ^ 31 by decide), er_ixn (show b < 2 ^ 31 by omega), if_neg hkp, er_rs_y, hrdy, er_bd_s, er_bf, er_rs_n, er_tb_l, er_tb_r, er_tc_r, reduceIte, Nat.reduceEqDiff]
  | true =>
    have hcv : ef_E_isCovered (nI b) (nI k) σ = some (er_b01 (!decide (V < σ 19 b))) := by
      unfold ef_E_isCovered
      rw [hrst, er_bd_s, er_gdi hb8 (by decide), er_ixn (by omega)]
      by_cases h : V < σ 19 b
      · rw [if_pos h]; simp [h]; rfl
      · rw [if_neg h]; simp [h]; rfl
    have hmr : ef_E_keeperMayLetRescue (nI b) σ = some (er_b01 (!decide (σ 15 p = 0))) := by
      unfold ef_E_keeperMayLetRescue
      rw [er_gdi hb8 (by decide), er_ixn (show b < 2 ^ 31 by omega), hkq, er_ip_y hp, er_bd_s, er_q1, er_gdi hp (by decide), er_ixn (by omega)]
      by_cases h : σ 15 p = 0
      · rw [if_pos h]; simp [h]; rfl
      · rw [if_neg h]; simp [h]; rfl
    have hE46 : ∀ q : Option ((Int32 ⊕ Nat) × er_S), ef_E_enter_46 (nI b) (nI k) z w r 1 σ = q → ef_L_enter (nI b) (nI k) z w r σ = er_tc q (fun v1 g3 => er_gd (er_inb 0 1) (some (0, er_up g3 39 (er_ix 0) v1))) (fun e g3 => if e = 0 then some (1, g3) else if e = 1 then some (2, g3) else if e = 2 then some (3, g3) else none) := by
      intro q hq
      simp only [ef_L_enter, ef_E_enter, er_rb_y a1 h8 hb, er_rt_y hk, er_rr_y z1 z2, er_rr_y w1 w2, er_ro_y hb8 ho, er_gdi hb8 (show 8 < 2 ^ 31 by decide), er_ixn (show b < 2 ^ 31 by omega), if_neg hkp, er_tb_l, hq]
    by_cases hgo : er_go (σ 16 b) (σ 20 b) true V (σ 19 b) r (σ 15 (er_ix (σ 20 b))) = true
    · have hC : ef_E_enter_46 (nI b) (nI k) z w r 1 σ = some (.inl (σ 0 5), er_eC σ (nI b) (nI k) z w 40) := by
        have h85 : ef_E_enter_80 (nI b) (nI k) z w σ = some (.inl (σ 0 5), er_eC σ (nI b) (nI k) z w 40) := by
          unfold ef_E_enter_80 ef_E_enter_85
          rw [er_rs_y, er_tb_l, er_enterC]
        unfold ef_E_enter_46
        rw [er_rs_y, er_tb_l, hrdy, er_bd_s, er_bt, er_rs_y, er_tb_l, hcv, er_bd_s]
        by_cases h4 : V < σ 19 b
        · unfold er_go at hgo
          rw [hkq, er_ixn (by omega)] at hgo
          have hne : ¬ r = 0 := by
            intro e
            simp [h4, e] at hgo
          have hmy : ¬ σ 15 p = 0 := by
            intro e
            simp [h4, e] at hgo
          have c1 : er_b01 (!decide (V < σ 19 b)) = 0 := by simp [h4, er_bf]
          have c2 : er_b01 (!decide (σ 15 p = 0)) = 1 := by simp [hmy, er_bt]
          rw [c1, er_q0, if_neg hne, hmr, er_bd_s, c2, er_q1, h85]
        · have c1 : er_b01 (!decide (V < σ 19 b)) = 1 := by simp [h4, er_bt]
          rw [c1, er_q1, h85]
      obtain ⟨d1, d2, d3⟩ := er_eC_c σ (nI b) (nI k) z w 40
      have hle : er_tn (σ 13) (nI k) 40 ≤ 40 := er_cnt_le _ 40 0
      generalize hS0 : er_up (er_eC σ (nI b) (nI k) z w 40) 39 0 (σ 0 5) = σ1
      have rr : ∀ j, 20 < j → j < 39 → σ1 j = σ j := by
        intro j h1 h2
        rw [← hS0, er_upr, if_neg (by omega)]
        unfold er_eC
        rw [if_neg (by omega), if_neg (by omega), if_neg (by omega), if_neg (by omega), if_neg (by omega), if_neg (by omega)]
      have q3 : (er_up σ1 21 0 0) 21 3 = σ 0 5 := by
        rw [er_upr, if_pos rfl, er_uo _ _ (by decide), rr 21 (by decide) (by decide), a6, a5]
      have q1 : (er_up σ1 21 0 0) 21 1 = σ 0 4 := by
        rw [er_upr, if_pos rfl, er_uo _ _ (by decide), rr 21 (by decide) (by decide), a4, a3]
      have q29 : (er_up σ1 21 0 0) 29 = σ 13 := by rw [er_upr, if_neg (by decide), rr 29 (by decide) (by decide), e11]
      refine ⟨0, σ1, σ 0 5, er_eM (er_up σ1 21 0 0) (nI b) (nI k) z w 40, ?_, ?_, ?_, ?_, m, n, τ + er_tn (σ 13) (nI k) 40, by omega, ?_⟩
      · rw [hE46 _ hC, er_tc_l, er_gz, er_iz, hS0]
      · rw [h47 σ1 rr, hgo]
        unfold ef_M_enter_132
        rw [Bool.not_true, er_bf, er_th0, er_bw_s, er_q0, q3, er_enterM]
      · simp only [er_eM, Nat.reduceEqDiff, reduceIte]
        rw [er_uo _ _ (by decide)]
        exact er_u21 σ1 0
      · intro _
        simp only [er_eM, Nat.reduceEqDiff, reduceIte]
        rw [← hS0]
        simp [er_up]
      · have s1 : ∀ j, j ≤ 20 → σ1 j = er_eC σ (nI b) (nI k) z w 40 j := by
          intro j hj
          rw [← hS0, er_upr, if_neg (by omega)]
        simp only [er_I, er_Nu, er_Eq, er_eM, Nat.reduceEqDiff, reduceIte]
        rw [q3, q1, q29]
        simp only [er_upr, Nat.reduceEqDiff, reduceIte]
        simp only [s1 0 (by decide), s1 2 (by decide), s1 3 (by decide), s1 4 (by decide), s1 5 (by decide), s1 6 (by decide), s1 7 (by decide), s1 8 (by decide), s1 9 (by decide), s1 10 (by decide), s1 11 (by decide), s1 12 (by decide), s1 13 (by decide), s1 14 (by decide), s1 15 (by decide), s1 16 (by decide), s1 17 (by decide), s1 18 (by decide), s1 19 (by decide), s1 20 (by decide), rr 21 (by decide) (by decide), rr 22 (by decide) (by decide), rr 23 (by decide) (by decide), rr 24 (by decide) (by decide), rr 25 (by decide) (by decide), rr 26 (by decide) (by decide), rr 27 (by decide) (by decide), rr 28 (by decide) (by decide), rr 29 (by decide) (by decide), rr 30 (by decide) (by decide), rr 31 (by decide) (by decide), rr 32 (by decide) (by decide), rr 33 (by decide) (by decide), rr 34 (by decide) (by decide), rr 35 (by decide) (by decide), rr 36 (by decide) (by decide), rr 37 (by decide) (by decide), rr 38 (by decide) (by decide)]
        simp only [er_eC, Nat.reduceEqDiff, reduceIte]
        rw [a5, nI_add]
        obtain ⟨wq, hwq, rfl⟩ : ∃ q, q < 6 ∧ w = nI q := by
          rcases er_split w (n := 6) (by decide) with h | ⟨q, h1, h2⟩
          · exact absurd (show w < 0 ∨ 5 < w by rw [show (5 : Int32) = nI 5 by decide]; exact er_badI (by decide) h) hw
          · exact ⟨q, h1, h2⟩
        refine ⟨⟨h8, hn9, a1, ?_, ?_, ?_, er_us _ _ _, er_us _ _ _, ?_⟩, ⟨e1, e2, by rw [e3], by rw [e4], by rw [e5], by rw [e6], by rw [e7], e8, e9, e10, trivial, e12, e13, e14, e15, e16⟩, ?_, ?_, er_Pt_enter hPt (by omega) hb8, hSf, hTm, hKp⟩
        · rw [er_uo _ _ (by decide), er_uo _ _ (by decide)]; exact a2
        · rw [er_uo _ _ (by decide)]; exact a3
        · rw [er_uo _ _ (by decide), er_uo _ _ (by decide)]; exact a4
        · rw [er_uo _ _ (by decide), er_uo _ _ (by decide), er_uo _ _ (by decide)]; exact a7
        · intro j hj
          unfold er_hw
          by_cases h : j < 40 ∧ σ 13 j = nI k
          · rw [if_pos h]; exact Or.inr ⟨b, hb, rfl⟩
          · rw [if_neg h]; exact hPb j hj
        · intro j hj hin
          unfold er_hw at hin ⊢
          by_cases h : j < 40 ∧ σ 13 j = nI k
          · rw [if_pos h]; exact ⟨wq, hwq, rfl⟩
          · rw [if_neg h] at hin ⊢; exact hPp j hj hin
    · rw [Bool.not_eq_true] at hgo
      refine er_Gi_t hI0 hτ 3 0 (by decide) ?_ (hMf hgo)
      have hC : ef_E_enter_46 (nI b) (nI k) z w r 1 σ = some (.inr 2, σ) := by
        have h84 : ef_E_enter_84 (nI b) (nI k) z w σ = some (.inr 2, σ) := by
          unfold ef_E_enter_84 ef_E_enter_85
          rw [er_rs_n, er_tb_r]
        have h4 : V < σ 19 b := by
          by_cases h : V < σ 19 b
          · exact h
          · unfold er_go at hgo
            simp [ho, hkp, h] at hgo
        unfold ef_E_enter_46
        rw [er_rs_y, er_tb_l, hrdy, er_bd_s, er_bt, er_rs_y, er_tb_l, hcv, er_bd_s]
        have c1 : er_b01 (!decide (V < σ 19 b)) = 0 := by simp [h4, er_bf]
        rw [c1, er_q0]
        by_cases h5 : r = 0
        · rw [if_pos h5, h84]
        · rw [if_neg h5, hmr, er_bd_s]
          have h6 : σ 15 p = 0 := by
            by_cases h : σ 15 p = 0
            · exact h
            · unfold er_go at hgo
              rw [hkq, er_ixn (by omega)] at hgo
              have h3' : ¬ nI p = -1 := er_m1n (by omega)
              simp [ho, h3', h5, h] at hgo
          have c2 : er_b01 (!decide (σ 15 p = 0)) = 0 := by simp [h6, er_bf]
          rw [c2, er_q0, h84]
      rw [hE46 _ hC, er_tc_r]
      rfl
end ERO8
