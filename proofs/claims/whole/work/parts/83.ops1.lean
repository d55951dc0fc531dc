/-! pure: a call of the class and the same call of the reference -/
def er_Gi (t : Nat) (a : Option (Int32 × er_S)) (f : er_S → Option (Int32 × er_S)) : Prop := ∃ k σ1 v σ2, a = some (k, σ1) ∧ f σ1 = some (v, σ2) ∧ σ2 21 0 = k ∧ (k = 0 → σ2 39 0 = v) ∧ er_Iv (t + 1) σ2
def er_Gv (t : Nat) (a : Option (Int32 × er_S)) (f : er_S → Option (Unit × er_S)) : Prop := ∃ k σ1 v σ2, a = some (k, σ1) ∧ f σ1 = some (v, σ2) ∧ σ2 21 0 = k ∧ er_Iv (t + 1) σ2
theorem er_u21 (σ : er_S) (v : Int32) : er_up σ 21 0 v 21 0 = v := by simp [er_up]
theorem er_u39 (σ : er_S) (v : Int32) : er_up σ 39 0 v 39 0 = v := by simp [er_up]
section ERO
variable {σ : er_S} {m n τ t : Nat} {f : er_S → Option (Int32 × er_S)} {g : er_S → Option (Unit × er_S)} {a : Option (Int32 × er_S)}
theorem er_I21 (h : er_I m n τ σ) (c : Int32) : er_I m n τ (er_up σ 21 0 c) := by
  simp only [er_I, er_Nu, er_Eq, er_upr, upd, Nat.reduceEqDiff, reduceIte] at h ⊢
  exact h
theorem er_I39 (h : er_I m n τ σ) (c : Int32) : er_I m n τ (er_up σ 39 0 c) := by
  simp only [er_I, er_Nu, er_Eq, er_upr, upd, Nat.reduceEqDiff, reduceIte] at h ⊢
  exact h
theorem er_Gi_t (hI : er_I m n τ σ) (hτ : τ ≤ 40 * t) (k v : Int32) (hk : k ≠ 0) (ha : a = some (k, σ)) (hf : f σ = some (v, er_up σ 21 0 k)) : er_Gi t a f :=
  ⟨k, σ, v, _, ha, hf, er_u21 σ k, fun h => absurd h hk, m, n, τ, by omega, er_I21 hI k⟩
theorem er_Gv_t (hI : er_I m n τ σ) (hτ : τ ≤ 40 * t) (k : Int32) (ha : a = some (k, σ)) (hf : g σ = some ((), er_up σ 21 0 k)) : er_Gv t a g :=
  ⟨k, σ, (), _, ha, hf, er_u21 σ k, m, n, τ, by omega, er_I21 hI k⟩
theorem er_Gi_r (hI : er_I m n τ σ) (hτ : τ ≤ 40 * t) (v : Int32) (ha : a = some (0, er_up σ 39 0 v)) (hf : f (er_up σ 39 0 v) = some (v, er_up (er_up σ 39 0 v) 21 0 0)) : er_Gi t a f :=
  ⟨0, _, v, _, ha, hf, er_u21 _ 0, fun _ => er_u39 σ v, m, n, τ, by omega, er_I21 (er_I39 hI v) 0⟩
/-! rest -/
theorem eo_rest (hI : er_I m n τ σ) (hτ : τ ≤ 40 * t) (x : Int32) : er_Gv t (ef_L_rest x σ) (ef_M_rest x) := by
  by_cases h : x < 0 ∨ 10000 < x
  · refine er_Gv_t hI hτ 1 ?_ ?_
    · simp only [ef_L_rest, ef_E_rest, er_rr_n h, er_tb_r, er_tc_r, reduceIte]
    · simp only [ef_M_rest, ef_M_rest_17, er_mi_n h, er_bd_s, er_q0, er_th1, er_bw_s, er_q1, reduceIte]
  · have h1 : ¬ x < 0 := fun q => h (Or.inl q)
    have h2 : ¬ 10000 < x := fun q => h (Or.inr q)
    refine ⟨0, er_up σ 0 6 x, (), er_up (er_up (er_up σ 0 6 x) 21 0 0) 21 2 x, ?_, ?_, ?_, m, n, τ, by omega, ?_⟩
    · simp only [ef_L_rest, ef_E_rest, er_rr_y h1 h2, er_tb_l, er_tc_l, reduceIte]
    · simp only [ef_M_rest, ef_M_rest_17, er_mi_y h1 h2, er_bd_s, er_q0, er_th0, er_bw_s, er_q1, reduceIte]
    · simp [er_up]
    · simp only [er_I, er_Nu, er_Eq, er_upr, upd, Nat.reduceEqDiff, reduceIte] at hI ⊢
      exact ⟨⟨hI.1.1, hI.1.2.1, hI.1.2.2.1, hI.1.2.2.2.1, hI.1.2.2.2.2.1, hI.1.2.2.2.2.2.1, hI.1.2.2.2.2.2.2.1, hI.1.2.2.2.2.2.2.2.1, trivial⟩, hI.2⟩
/-! right -/
theorem eo_right (hI : er_I m n τ σ) (hτ : τ ≤ 40 * t) (x y : Int32) (hy : er_isb y = true) : er_Gv t (ef_L_right x y σ) (ef_M_right x y) := by
  rcases er_split x (n := 40) (by decide) with h | ⟨p, hp, rfl⟩
  · refine er_Gv_t hI hτ 1 ?_ ?_
    · simp only [ef_L_right, ef_E_right, er_rp_n h, er_tb_r, er_tc_r, reduceIte]
    · simp only [ef_M_right, ef_M_right_13, er_mp_n h, er_bd_s, er_q0, er_th1, er_bw_s, er_q1, reduceIte]
  · refine ⟨0, er_up σ 15 p y, (), er_up (er_up (er_up σ 15 p y) 21 0 0) 30 p y, ?_, ?_, ?_, m, n, τ, by omega, ?_⟩
    · simp only [ef_L_right, ef_E_right, er_rp_y hp, er_tb_l, er_tc_l, er_gdi hp (show 40 < 2 ^ 31 by decide), hy, er_gdt, er_ixn (show p < 2 ^ 31 by omega), reduceIte]
    · simp only [ef_M_right, ef_M_right_13, er_mp_y hp, er_bd_s, er_q0, er_th0, er_bw_s, er_q1, er_gdi hp (show 40 < 2 ^ 31 by decide), hy, er_gdt, er_ixn (show p < 2 ^ 31 by omega), reduceIte]
    · simp [er_up]
    · simp only [er_I, er_Nu, er_Eq, er_upr, Nat.reduceEqDiff, reduceIte] at hI ⊢
      obtain ⟨hN, ⟨e1, e2, e3, e4, e5, e6, e7, e8, e9, e10, e11, e12, e13, e14, e15, e16⟩, hR⟩ := hI
      simp only [upd, Nat.reduceEqDiff, reduceIte] at hN ⊢
      exact ⟨hN, ⟨e1, e2, e3, e4, e5, e6, e7, e8, e9, e10, e11, by rw [e12], e13, e14, e15, e16⟩, hR⟩
/-! heat -/
theorem eo_heat (hI : er_I m n τ σ) (hτ : τ ≤ 40 * t) (x y : Int32) : er_Gv t (ef_L_heat x y σ) (ef_M_heat x y) := by
  rcases er_split x (n := 6) (by decide) with h | ⟨p, hp, rfl⟩
  · refine er_Gv_t hI hτ 1 ?_ ?_
    · simp only [ef_L_heat, ef_E_heat, ef_E_requireKnown, er_pl_n h, er_bd_s, er_q0, er_tb_r, er_tc_r, reduceIte]
    · have h' : x < 0 ∨ 5 < x := by rw [show (5 : Int32) = nI 5 by decide]; exact er_badI (by decide) h
      by_cases hy : y < 0 ∨ 100 < y
      · simp only [ef_M_heat, ef_M_heat_15, ef_M_heat_30, er_mi_n h', er_mi_n hy, er_bd_s, er_q0, er_th1, er_bw_s, er_q1, reduceIte]
      · simp only [ef_M_heat, ef_M_heat_15, ef_M_heat_30, er_mi_n h', er_mi_y (fun q => hy (Or.inl q)) (fun q => hy (Or.inr q)), er_bd_s, er_q0, er_th1, er_bw_s, er_q1, reduceIte]
  · have k1 : ¬ nI p < 0 := nI_pos (by omega)
    have k2 : ¬ 5 < nI p := by rw [show (5 : Int32) = nI 5 by decide, nI_ltI (by omega) (by omega)]; omega
    by_cases hy : y < 0 ∨ 100 < y
    · refine er_Gv_t hI hτ 2 ?_ ?_
      · simp only [ef_L_heat, ef_E_heat, ef_E_requireKnown, er_pl_y hp, er_bd_s, er_q1, er_rr_n hy, er_tb_l, er_tb_r, er_tc_r, reduceIte, Nat.reduceEqDiff]
      · simp only [ef_M_heat, ef_M_heat_15, ef_M_heat_30, er_mi_y k1 k2, er_mi_n hy, er_bd_s, er_q0, er_q1, er_th2, er_bw_s, reduceIte]
    · have y1 : ¬ y < 0 := fun q => hy (Or.inl q)
      have y2 : ¬ 100 < y := fun q => hy (Or.inr q)
      refine ⟨0, er_up σ 4 p y, (), er_up (er_up (er_up σ 4 p y) 21 0 0) 22 p y, ?_, ?_, ?_, m, n, τ, by omega, ?_⟩
      · simp only [ef_L_heat, ef_E_heat, ef_E_requireKnown, er_pl_y hp, er_bd_s, er_q1, er_rr_y y1 y2, er_tb_l, er_tc_l, er_gdi hp (show 6 < 2 ^ 31 by decide), er_ixn (show p < 2 ^ 31 by omega), reduceIte]
      · simp only [ef_M_heat, ef_M_heat_15, ef_M_heat_30, er_mi_y k1 k2, er_mi_y y1 y2, er_bd_s, er_q0, er_q1, er_th0, er_bw_s, er_gdi hp (show 6 < 2 ^ 31 by decide), er_ixn (show p < 2 ^ 31 by omega), reduceIte]
      · simp [er_up]
      · simp only [er_I, er_Nu, er_Eq, er_upr, Nat.reduceEqDiff, reduceIte] at hI ⊢
        obtain ⟨hN, ⟨e1, e2, e3, e4, e5, e6, e7, e8, e9, e10, e11, e12, e13, e14, e15, e16⟩, hR⟩ := hI
        simp only [upd, Nat.reduceEqDiff, reduceIte] at hN ⊢
        exact ⟨hN, ⟨e1, by rw [e2], e3, e4, e5, e6, e7, e8, e9, e10, e11, e12, e13, e14, e15, e16⟩, hR⟩
end ERO
