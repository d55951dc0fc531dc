/-! pure: the invariant between class and reference; what the small methods answer -/
theorem er_upr (σ : er_S) (k j : Nat) (v : Int32) (a : Nat) : er_up σ k j v a = if a = k then upd (σ k) j v else σ a := by
  by_cases h : a = k
  · subst h; rw [if_pos rfl]; exact er_up_same σ a j v
  · rw [if_neg h]; exact er_up_other σ j v h
def er_b01 (b : Bool) : Int32 := if b = true then 1 else 0
theorem er_b0 (b : Bool) : er_b01 b = 0 ↔ b = false := by cases b <;> decide
theorem er_bt : er_b01 true = 1 := rfl
theorem er_bf : er_b01 false = 0 := rfl
def er_bad (x : Int32) (n : Nat) : Prop := x < 0 ∨ nI n ≤ x
theorem er_split (x : Int32) {n : Nat} (hn : n < 2 ^ 31) : er_bad x n ∨ ∃ j, j < n ∧ x = nI j := by
  rcases pk_ix x hn with h | h | h
  · exact Or.inl (Or.inl h)
  · exact Or.inl (Or.inr h)
  · exact Or.inr h
theorem er_ltI {x y : Int32} : x < y ↔ x.toInt < y.toInt := Int32.lt_iff_toInt_lt
theorem er_leI {x y : Int32} : x ≤ y ↔ x.toInt ≤ y.toInt := Int32.le_iff_toInt_le
theorem er_m1t : (-1 : Int32).toInt = -1 := by decide
theorem er_m1n {b : Nat} (h : b < 2 ^ 31) : nI b ≠ -1 := by
  intro e
  have := congrArg Int32.toInt e
  rw [nI_toInt h, er_m1t] at this
  omega
theorem er_n0 {b : Nat} (h : b < 2 ^ 31) : 0 ≤ nI b := by
  rw [er_leI, nI_toInt h]
  exact Int.natCast_nonneg b
theorem er_bd_s {α β : Type} (a : α) (k : α → Option β) : er_bd (some a) k = k a := rfl
theorem er_bw_s {α β : Type} (a : α) (σ : er_S) (k : α → er_S → Option β) : er_bw (some (a, σ)) k = k a σ := rfl
theorem er_tb_l {α β : Type} (a : α) (σ : er_S) (k : α → er_S → Option ((β ⊕ Nat) × er_S)) : er_tb (some (.inl a, σ)) k = k a σ := rfl
theorem er_tb_r {α β : Type} (e : Nat) (σ : er_S) (k : α → er_S → Option ((β ⊕ Nat) × er_S)) : er_tb (some (.inr e, σ)) k = some (.inr e, σ) := rfl
theorem er_tc_l {α β : Type} (a : α) (σ : er_S) (k : α → er_S → Option β) (h : Nat → er_S → Option β) : er_tc (some (.inl a, σ)) k h = k a σ := rfl
theorem er_tc_r {α β : Type} (e : Nat) (σ : er_S) (k : α → er_S → Option β) (h : Nat → er_S → Option β) : er_tc (some (.inr e, σ)) k h = h e σ := rfl
theorem er_g1 {α : Type} (x : Option α) : er_gd (er_isb 1) x = x := rfl
theorem er_g0 {α : Type} (x : Option α) : er_gd (er_isb 0) x = x := rfl
theorem er_gb {α : Type} (b : Bool) (x : Option α) : er_gd (er_isb (er_b01 b)) x = x := by cases b <;> rfl
theorem er_gz {α : Type} (x : Option α) : er_gd (er_inb 0 1) x = x := rfl
theorem er_iz : er_ix 0 = 0 := rfl
theorem er_q1 {α : Type} (a b : α) : (if (1 : Int32) = 0 then a else b) = b := if_neg (by decide)
theorem er_q0 {α : Type} (a b : α) : (if (0 : Int32) = 0 then a else b) = a := if_pos rfl
/-! the rows -/
def er_Pb (m : Nat) (f : Nat → Int32) : Prop := ∀ p, p < 40 → f p = -1 ∨ ∃ b, b < m ∧ f p = nI b
def er_Sf (m : Nat) (f : Nat → Int32) : Prop := ∀ p, p < 16 → f p = -1 ∨ ∃ b, b < m ∧ f p = nI b
def er_Pp (f5 f7 : Nat → Int32) : Prop := ∀ p, p < 40 → f5 p ≠ -1 → ∃ q, q < 6 ∧ f7 p = nI q
def er_Pt (τ : Nat) (f5 f6 : Nat → Int32) : Prop := (∀ p, p < 40 → f5 p ≠ -1 → ∃ y, y < τ ∧ f6 p = nI y) ∧ ∀ p, p < 40 → ∀ q, q < 40 → p ≠ q → f5 p ≠ -1 → f5 q ≠ -1 → f6 p ≠ f6 q
def er_Tm (f : Nat → Int32) : Prop := (∀ p, p < 40 → f p = -1 ∨ ∃ k, k < 16 ∧ f p = nI k) ∧ ∀ k, k < 16 → er_cnt (fun p => decide (f p = nI k)) 0 40 ≤ 6
def er_Kp (m : Nat) (f20 f27 f14 : Nat → Int32) : Prop := (∀ b, b < m → f20 b = f27 b) ∧ (∀ b, b < 8 → f20 b = -1 ∨ (b < m ∧ ∃ p, p < 40 ∧ f20 b = nI p)) ∧ ∀ p, p < 40 → (f14 p = -1 ∧ ∀ b, b < m → f20 b ≠ nI p) ∨ ∃ b, b < m ∧ f14 p = nI b ∧ f20 b = nI p ∧ ∀ b', b' < m → f20 b' = nI p → b' = b
def er_Nu (m n τ : Nat) (σ : er_S) : Prop := m ≤ 8 ∧ n ≤ 999999 ∧ σ 2 5 = nI m ∧ σ 21 5 = nI m ∧ σ 0 4 = nI n ∧ σ 21 1 = nI n ∧ σ 0 5 = nI τ ∧ σ 21 3 = nI τ ∧ σ 21 2 = σ 0 6
def er_Eq (σ : er_S) : Prop := σ 28 = σ 3 ∧ σ 22 = σ 4 ∧ σ 31 = σ 5 ∧ σ 32 = σ 6 ∧ σ 33 = σ 7 ∧ σ 34 = σ 8 ∧ σ 35 = σ 9 ∧ σ 36 = σ 10 ∧ σ 37 = σ 11 ∧ σ 38 = σ 12 ∧ σ 29 = σ 13 ∧ σ 30 = σ 15 ∧ σ 23 = σ 16 ∧ σ 24 = σ 17 ∧ σ 25 = σ 18 ∧ σ 26 = σ 19
def er_I (m n τ : Nat) (σ : er_S) : Prop := er_Nu m n τ σ ∧ er_Eq σ ∧ er_Pb m (σ 5) ∧ er_Pp (σ 5) (σ 7) ∧ er_Pt τ (σ 5) (σ 6) ∧ er_Sf m (σ 3) ∧ er_Tm (σ 13) ∧ er_Kp m (σ 20) (σ 27) (σ 14)
def er_Iv (t : Nat) (σ : er_S) : Prop := ∃ m n τ, τ ≤ 40 * t ∧ er_I m n τ σ
/-! the class's small methods -/
section ERP
variable {σ : er_S} {m n τ b p : Nat} {x lo hi : Int32} {f20 f14 : Nat → Int32}
theorem er_has_y (hm : σ 2 5 = nI m) (h8 : m ≤ 8) (hb : b < m) : ef_B_has (nI b) σ = some 1 := by
  unfold ef_B_has
  rw [if_neg (nI_pos (by omega)), hm, if_neg (er_ge hb (by omega))]
  rfl
theorem er_has_n (hm : σ 2 5 = nI m) (h : er_bad x m) : ef_B_has x σ = some 0 := by
  unfold ef_B_has
  by_cases hx : x < 0
  · rw [if_pos hx]; rfl
  · rw [if_neg hx, hm, if_pos (h.resolve_left hx)]; rfl
theorem er_rb_y (hm : σ 2 5 = nI m) (h8 : m ≤ 8) (hb : b < m) : ef_E_requireBoard (nI b) σ = some (.inl (), σ) := by
  unfold ef_E_requireBoard
  rw [er_has_y hm h8 hb]
  rfl
theorem er_rb_n (hm : σ 2 5 = nI m) (h : er_bad x m) : ef_E_requireBoard x σ = some (.inr 0, σ) := by
  unfold ef_E_requireBoard
  rw [er_has_n hm h]
  rfl
theorem er_ip_y (hp : p < 40) : ef_E_isPerson (nI p) σ = some 1 := by
  unfold ef_E_isPerson
  rw [if_neg (nI_pos (by omega)), er_40, if_neg (er_ge hp (by decide))]
  rfl
theorem er_ip_n (h : er_bad x 40) : ef_E_isPerson x σ = some 0 := by
  unfold ef_E_isPerson
  by_cases hx : x < 0
  · rw [if_pos hx]; rfl
  · rw [if_neg hx, er_40, if_pos (h.resolve_left hx)]; rfl
theorem er_ip_m : ef_E_isPerson (-1) σ = some 0 := er_ip_n (Or.inl (by decide))
theorem er_rp_y (hp : p < 40) : ef_E_requirePerson (nI p) σ = some (.inl (), σ) := by
  unfold ef_E_requirePerson
  rw [er_ip_y hp]
  rfl
theorem er_rp_n (h : er_bad x 40) : ef_E_requirePerson x σ = some (.inr 0, σ) := by
  unfold ef_E_requirePerson
  rw [er_ip_n h]
  rfl
theorem er_rt_y (hp : p < 16) : ef_E_requireTeam (nI p) σ = some (.inl (), σ) := by
  unfold ef_E_requireTeam
  rw [if_neg (nI_pos (by omega)), er_16, if_neg (er_ge hp (by decide))]
  rfl
theorem er_rt_n (h : er_bad x 16) : ef_E_requireTeam x σ = some (.inr 0, σ) := by
  unfold ef_E_requireTeam
  by_cases hx : x < 0
  · rw [if_pos hx]; rfl
  · rw [if_neg hx, er_16, if_pos (h.resolve_left hx)]; rfl
theorem er_pl_y (hp : p < 6) : ef_E_isPlace (nI p) σ = some 1 := by
  unfold ef_E_isPlace
  rw [if_neg (nI_pos (by omega)), show (6 : Int32) = nI 6 by decide, if_neg (er_ge hp (by decide))]
  rfl
theorem er_pl_n (h : er_bad x 6) : ef_E_isPlace x σ = some 0 := by
  unfold ef_E_isPlace
  by_cases hx : x < 0
  · rw [if_pos hx]; rfl
  · rw [if_neg hx, show (6 : Int32) = nI 6 by decide, if_pos (h.resolve_left hx)]; rfl
theorem er_rr_y (h1 : ¬ x < lo) (h2 : ¬ hi < x) : ef_E_requireRange x lo hi σ = some (.inl (), σ) := by
  unfold ef_E_requireRange
  rw [if_neg h1, if_pos (Int32.not_lt.mp h2)]
theorem er_rr_n (h : x < lo ∨ hi < x) : ef_E_requireRange x lo hi σ = some (.inr 1, σ) := by
  unfold ef_E_requireRange
  by_cases h1 : x < lo
  · rw [if_pos h1]; rfl
  · rw [if_neg h1, if_neg (Int32.not_le.mpr (h.resolve_left h1))]; rfl
theorem er_ro_y (hb : b < 8) (h : σ 16 b ≠ 0) : ef_E_requireOpen (nI b) σ = some (.inl (), σ) := by
  unfold ef_E_requireOpen ef_E_requireState
  rw [er_gdi hb (by decide), er_ixn (by omega), if_neg h]
  rfl
theorem er_ro_n (hb : b < 8) (h : σ 16 b = 0) : ef_E_requireOpen (nI b) σ = some (.inr 2, σ) := by
  unfold ef_E_requireOpen ef_E_requireState
  rw [er_gdi hb (by decide), er_ixn (by omega), if_pos h]
  rfl
theorem er_in_y (hp : p < 40) (h : σ 5 p ≠ -1) : ef_P_isInside (nI p) σ = some 1 := by
  unfold ef_P_isInside
  rw [er_gdi hp (by decide), er_ixn (by omega), if_neg h]
  rfl
theorem er_in_n (hp : p < 40) (h : σ 5 p = -1) : ef_P_isInside (nI p) σ = some 0 := by
  unfold ef_P_isInside
  rw [er_gdi hp (by decide), er_ixn (by omega), if_pos h]
  rfl
theorem er_rs_y : ef_E_requireState 1 σ = some (.inl (), σ) := by
  unfold ef_E_requireState
  rw [if_neg (by decide)]
theorem er_rs_n : ef_E_requireState 0 σ = some (.inr 2, σ) := by
  unfold ef_E_requireState
  rw [if_pos rfl]
theorem er_out_y (hp : p < 40) (h : σ 5 p = -1) : ef_E_requireOutside (nI p) σ = some (.inl (), σ) := by
  unfold ef_E_requireOutside ef_E_requireOutside_16
  rw [er_in_n hp h, er_bd_s, er_q0, er_rs_y]
  rfl
theorem er_out_n (hp : p < 40) (h : σ 5 p ≠ -1) : ef_E_requireOutside (nI p) σ = some (.inr 2, σ) := by
  unfold ef_E_requireOutside ef_E_requireOutside_16
  rw [er_in_y hp h, er_bd_s, er_q1, er_rs_n]
  rfl
theorem er_dk_y (hb : b < 8) (hp : p < 40) (h : σ 20 b = nI p) : ef_E_dropKeeper (nI b) σ = some ((), er_up (er_up σ 14 p (-1)) 20 b (-1)) := by
  unfold ef_E_dropKeeper ef_E_dropKeeper_27
  rw [er_gdi hb (by decide), er_ixn (show b < 2 ^ 31 by omega), h, er_ip_y hp, er_bd_s, er_q1, er_gdi hp (by decide), er_gdi hb (by decide), er_ixn (show p < 2 ^ 31 by omega)]
theorem er_dk_n (hb : b < 8) (h : σ 20 b = -1) : ef_E_dropKeeper (nI b) σ = some ((), er_up σ 20 b (-1)) := by
  unfold ef_E_dropKeeper ef_E_dropKeeper_27
  rw [er_gdi hb (by decide), er_ixn (show b < 2 ^ 31 by omega), h, er_ip_m, er_bd_s, er_q0, er_gdi hb (by decide)]
/-! the reference's -/
theorem er_mi_y (h1 : ¬ x < lo) (h2 : ¬ hi < x) : ef_M_in x lo hi σ = some 1 := by
  unfold ef_M_in
  rw [if_neg h1, if_neg h2]
  rfl
theorem er_mi_n (h : x < lo ∨ hi < x) : ef_M_in x lo hi σ = some 0 := by
  unfold ef_M_in
  by_cases h1 : x < lo
  · rw [if_pos h1]; rfl
  · rw [if_neg h1, if_pos (h.resolve_left h1)]; rfl
theorem er_badI {n : Nat} (hn : n + 1 < 2 ^ 31) (h : er_bad x (n + 1)) : x < 0 ∨ nI n < x := by
  rcases h with h | h
  · exact Or.inl h
  · right
    rw [er_ltI, nI_toInt (by omega)]
    rw [er_leI, nI_toInt hn] at h
    omega
theorem er_mp_y (hp : p < 40) : ef_M_isPerson (nI p) σ = some 1 := by
  unfold ef_M_isPerson
  rw [er_mi_y (nI_pos (by omega)) (by rw [show (39 : Int32) = nI 39 by decide, nI_ltI (by omega) (by omega)]; omega)]
  rfl
theorem er_mp_n (h : er_bad x 40) : ef_M_isPerson x σ = some 0 := by
  unfold ef_M_isPerson
  rw [er_mi_n (show x < 0 ∨ 39 < x by rw [show (39 : Int32) = nI 39 by decide]; exact er_badI (by decide) h)]
  rfl
theorem er_mt_y (hp : p < 16) : ef_M_isTeam (nI p) σ = some 1 := by
  unfold ef_M_isTeam
  rw [er_mi_y (nI_pos (by omega)) (by rw [show (15 : Int32) = nI 15 by decide, nI_ltI (by omega) (by omega)]; omega)]
  rfl
theorem er_mt_n (h : er_bad x 16) : ef_M_isTeam x σ = some 0 := by
  unfold ef_M_isTeam
  rw [er_mi_n (show x < 0 ∨ 15 < x by rw [show (15 : Int32) = nI 15 by decide]; exact er_badI (by decide) h)]
  rfl
theorem er_sub1 {m : Nat} (h : m ≤ 8) : (nI m - 1).toInt = (m : Int) - 1 := by
  rw [show (1 : Int32) = nI 1 by decide, pk_sub_toInt (by omega) (by omega)]
  rfl
theorem er_mb_y (hm : σ 21 5 = nI m) (h8 : m ≤ 8) (hb : b < m) : ef_M_isBoard (nI b) σ = some 1 := by
  unfold ef_M_isBoard
  rw [hm, er_mi_y (nI_pos (by omega)) (by rw [er_ltI, er_sub1 h8, nI_toInt (by omega)]; omega)]
  rfl
theorem er_mb_n (hm : σ 21 5 = nI m) (h8 : m ≤ 8) (h : er_bad x m) : ef_M_isBoard x σ = some 0 := by
  unfold ef_M_isBoard
  rw [hm, er_mi_n (show x < 0 ∨ nI m - 1 < x from by
    rcases h with h | h
    · exact Or.inl h
    · right
      rw [er_leI, nI_toInt (by omega)] at h
      rw [er_ltI, er_sub1 h8]
      omega)]
  rfl
theorem er_ms_o (hm : σ 21 5 = nI m) (h8 : m ≤ 8) (hb : b < m) (h : σ 23 b ≠ 0) : ef_M_isShut (nI b) σ = some 0 := by
  unfold ef_M_isShut
  rw [er_mb_y hm h8 hb, er_bd_s, er_q1, er_gdi (show b < 8 by omega) (by decide), er_ixn (by omega), if_neg h]
  rfl
theorem er_ms_c (hm : σ 21 5 = nI m) (h8 : m ≤ 8) (hb : b < m) (h : σ 23 b = 0) : ef_M_isShut (nI b) σ = some 1 := by
  unfold ef_M_isShut
  rw [er_mb_y hm h8 hb, er_bd_s, er_q1, er_gdi (show b < 8 by omega) (by decide), er_ixn (by omega), if_pos h]
  rfl
theorem er_ms_b (hm : σ 21 5 = nI m) (h8 : m ≤ 8) (h : er_bad x m) : ef_M_isShut x σ = some 0 := by
  unfold ef_M_isShut
  rw [er_mb_n hm h8 h, er_bd_s, er_q0]
  rfl
theorem er_th0 : ef_M_throwing 0 0 0 σ = some (0, er_up σ 21 0 0) := by
  unfold ef_M_throwing ef_M_throwing_26
  rw [er_q0, er_q0, er_q0, if_pos (by rw [er_upr, if_pos rfl]; show (0 : Int32) ≤ 0; decide)]
  rfl
theorem er_th1 (y z : Int32) : ef_M_throwing 1 y z σ = some (1, er_up σ 21 0 1) := by
  unfold ef_M_throwing ef_M_throwing_26
  rw [er_q1, if_neg (by rw [er_upr, if_pos rfl]; show ¬ (1 : Int32) ≤ 0; decide)]
  rfl
theorem er_th2 (z : Int32) : ef_M_throwing 0 1 z σ = some (1, er_up σ 21 0 2) := by
  unfold ef_M_throwing ef_M_throwing_26
  rw [er_q0, er_q1, if_neg (by rw [er_upr, if_pos rfl]; show ¬ (2 : Int32) ≤ 0; decide)]
  rfl
theorem er_th3 : ef_M_throwing 0 0 1 σ = some (1, er_up σ 21 0 3) := by
  unfold ef_M_throwing ef_M_throwing_26
  rw [er_q0, er_q0, er_q1, if_neg (by rw [er_upr, if_pos rfl]; show ¬ (3 : Int32) ≤ 0; decide)]
  rfl
/-! counts -/
theorem er_size (x : Int32) (σ : er_S) : ef_P_sizeOfTeam x σ = some (nI (er_cnt (fun p => decide (σ 13 p = x)) 0 40)) :=
  er_cl0 (fun n a i => ef_P_sizeOfTeam_4 n x a i σ) (fun a => some a) (fun p => decide (σ 13 p = x)) 40 (by intro n a; simp only [ef_P_sizeOfTeam_4]; rw [if_pos (by decide)])
    (by intro n a i hi; simp only [ef_P_sizeOfTeam_4]; rw [er_40, if_neg (er_ge hi (by decide)), er_gdi hi (by decide), er_ixn (by omega), er_p1]; by_cases h : σ 13 i = x <;> simp [h]) (by decide)
theorem er_msize (x : Int32) (σ : er_S) : ef_M_sizeOf x σ = some (nI (er_cnt (fun p => decide (σ 29 p = x)) 0 40)) :=
  er_cl0 (fun n a i => ef_M_sizeOf_4 n x a i σ) (fun a => some a) (fun p => decide (σ 29 p = x)) 40 (by intro n a; simp only [ef_M_sizeOf_4]; rw [if_pos (by decide)])
    (by intro n a i hi; simp only [ef_M_sizeOf_4]; rw [er_40, if_neg (er_ge hi (by decide)), er_gdi hi (by decide), er_ixn (by omega), er_p1, er_a0]; by_cases h : σ 29 i = x <;> simp [h]) (by decide)
theorem er_con (x : Int32) (σ : er_S) : ef_P_countOn x σ = some (nI (er_cnt (fun p => decide (σ 5 p = x)) 0 40)) :=
  er_cl0 (fun n a i => ef_P_countOn_4 n x a i σ) (fun a => some a) (fun p => decide (σ 5 p = x)) 40 (by intro n a; simp only [ef_P_countOn_4]; rw [if_pos (by decide)])
    (by intro n a i hi; simp only [ef_P_countOn_4]; rw [er_40, if_neg (er_ge hi (by decide)), er_gdi hi (by decide), er_ixn (by omega), er_p1]; by_cases h : σ 5 i = x <;> simp [h]) (by decide)
theorem er_mcon (x : Int32) (σ : er_S) : ef_M_onBoard x σ = some (nI (er_cnt (fun p => decide (σ 31 p = x)) 0 40)) :=
  er_cl0 (fun n a i => ef_M_onBoard_4 n x a i σ) (fun a => some a) (fun p => decide (σ 31 p = x)) 40 (by intro n a; simp only [ef_M_onBoard_4]; rw [if_pos (by decide)])
    (by intro n a i hi; simp only [ef_M_onBoard_4]; rw [er_40, if_neg (er_ge hi (by decide)), er_gdi hi (by decide), er_ixn (by omega), er_p1, er_a0]; by_cases h : σ 31 i = x <;> simp [h]) (by decide)
theorem er_copen (hm : σ 2 5 = nI m) (h8 : m ≤ 8) : ef_B_countOpen σ = some (nI (er_cnt (fun b => !decide (σ 16 b = 0)) 0 m)) :=
  er_cl0 (fun n a i => ef_B_countOpen_4 n a i σ) (fun a => some a) (fun b => !decide (σ 16 b = 0)) m (by intro n a; simp only [ef_B_countOpen_4]; rw [hm, if_pos (nI_le (Nat.le_refl m) (by omega))])
    (by intro n a i hi; simp only [ef_B_countOpen_4]; rw [hm, if_neg (er_ge hi (by omega)), er_gdi (show i < 8 by omega) (by decide), er_ixn (by omega), er_p1]; by_cases h : σ 16 i = 0 <;> simp [h]) (by omega)
/-! keeps -/
def er_last (P : Nat → Bool) : Int32 → Nat → Nat → Int32
  | a, _, 0 => a
  | a, i, k + 1 => er_last P (if P i = true then nI i else a) (i + 1) k
theorem er_last_none (P : Nat → Bool) : ∀ (k i : Nat) (a : Int32), (∀ j, i ≤ j → j < i + k → P j = false) → er_last P a i k = a := by
  intro k
  induction k with
  | zero => intro i a _; rfl
  | succ k ih =>
    intro i a h
    simp only [er_last]
    rw [h i (Nat.le_refl i) (by omega)]
    exact ih (i + 1) a (fun j h1 h2 => h j (by omega) (by omega))
theorem er_last_one (P : Nat → Bool) {p : Nat} : ∀ (k i : Nat) (a : Int32), i ≤ p → p < i + k → P p = true → (∀ j, i ≤ j → j < i + k → j ≠ p → P j = false) → er_last P a i k = nI p := by
  intro k
  induction k with
  | zero => intro i a h1 h2; omega
  | succ k ih =>
    intro i a h1 h2 h3 h4
    simp only [er_last]
    by_cases e : i = p
    · subst e
      rw [h3]
      exact er_last_none P k (i + 1) (nI i) (fun j a b => h4 j (by omega) (by omega) (by omega))
    · rw [h4 i (Nat.le_refl i) (by omega) e]
      exact ih (i + 1) a (by omega) (by omega) h3 (fun j a b c => h4 j (by omega) (by omega) c)
theorem er_keeps0 (hm : σ 21 5 = nI m) (h8 : m ≤ 8) (x : Int32) : ∀ (k i : Nat) (a : Int32) (n : Nat), i + k = m → k < n → ef_M_keeps_4 n x a (nI i) σ = some (er_last (fun b => decide (σ 27 b = x)) a i k) := by
  intro k
  induction k with
  | zero =>
    intro i a n h1 h2
    obtain ⟨n, rfl⟩ : ∃ z, n = z + 1 := ⟨n - 1, by omega⟩
    have : i = m := by omega
    subst this
    simp only [ef_M_keeps_4]
    rw [hm, if_pos (nI_le (Nat.le_refl i) (by omega))]
    rfl
  | succ k ih =>
    intro i a n h1 h2
    obtain ⟨n, rfl⟩ : ∃ z, n = z + 1 := ⟨n - 1, by omega⟩
    simp only [ef_M_keeps_4]
    rw [hm, if_neg (er_ge (by omega) (by omega)), er_gdi (show i < 8 by omega) (by decide), er_ixn (by omega), er_p1]
    by_cases h : σ 27 i = x
    · rw [if_pos h, ih (i + 1) (nI i) n (by omega) (by omega)]
      simp only [er_last, h, decide_true, if_true]
    · rw [if_neg h, ih (i + 1) a n (by omega) (by omega)]
      simp only [er_last, h, decide_false, Bool.false_eq_true, if_false]
theorem er_keeps (hm : σ 21 5 = nI m) (h8 : m ≤ 8) (hK : er_Kp m f20 (σ 27) f14) (hp : p < 40) : ef_M_keeps (nI p) σ = some (f14 p) := by
  unfold ef_M_keeps
  have h := er_keeps0 hm h8 (nI p) m 0 (-1) 64 (by omega) (by omega)
  rw [nI_0] at h
  rw [h]
  congr 1
  rcases hK.2.2 p hp with ⟨h1, h2⟩ | ⟨b, h1, h2, h3, h4⟩
  · rw [h1]
    refine er_last_none _ m 0 (-1) (fun j _ hj => ?_)
    rw [← hK.1 j (by omega)]
    exact decide_eq_false (h2 j (by omega))
  · rw [h2]
    refine er_last_one _ m 0 (-1) (Nat.zero_le b) (by omega) (by rw [← hK.1 b h1]; exact decide_eq_true h3) (fun j _ hj hne => ?_)
    rw [← hK.1 j (by omega)]
    exact decide_eq_false (fun e => hne (h4 j (by omega) e))
theorem er_f14 (hK : er_Kp m f20 (σ 27) f14) (h8 : m ≤ 8) (hp : p < 40) : f14 p < 0 ↔ f14 p = -1 := by
  rcases hK.2.2 p hp with ⟨h1, -⟩ | ⟨b, h1, h2, -, -⟩
  · rw [h1]; decide
  · rw [h2]
    exact ⟨fun h => absurd h (nI_pos (by omega)), fun h => absurd h (er_m1n (by omega))⟩
theorem er_pbn {f : Nat → Int32} (h : er_Pb m f) (h8 : m ≤ 8) (hp : p < 40) : 0 ≤ f p ↔ f p ≠ -1 := by
  rcases h p hp with h1 | ⟨b, h1, h2⟩
  · rw [h1]; decide
  · rw [h2]
    exact ⟨fun _ => er_m1n (by omega), fun _ => er_n0 (by omega)⟩
theorem er_pbl {f : Nat → Int32} (h : er_Pb m f) (h8 : m ≤ 8) (hp : p < 40) : f p < 0 ↔ f p = -1 := by
  rcases h p hp with h1 | ⟨b, h1, h2⟩
  · rw [h1]; decide
  · rw [h2]
    exact ⟨fun q => absurd q (nI_pos (by omega)), fun q => absurd q (er_m1n (by omega))⟩
end ERP
