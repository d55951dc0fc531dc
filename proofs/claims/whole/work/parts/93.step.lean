/-! pure: one turn of the law's loop; the start -/
theorem er_lcm (a : Int64) : lg_cmp a a = 0 := by
  simp [lg_cmp]
theorem er_fnl {k v : Int32} {σ2 : er_S} (h : k = 0 → σ2 39 0 = v) : (if k = 0 then er_gd (er_inb 0 1) (if (lg_cmp (σ2 39 (er_ix 0)).toInt64 v.toInt64) = 0 then some (some σ2) else some none) else some (some σ2)) = some (some σ2) := by
  by_cases hk : k = 0
  · rw [if_pos hk, er_gz, er_iz, h hk, if_pos (er_lcm _)]
  · rw [if_neg hk]
theorem er_xin {L t j : Nat} {v : Int32} (hL : L ≤ 3072) (h : 6 * t + 6 ≤ L) (hj : j < 6) (hv : v = nI j) : er_inb (nI (6 * t) + v) L = true := by
  rw [hv, nI_add]
  exact er_inn (by omega) (by omega)
section ERZ
variable {σ : er_S} {m n τ t L : Nat} {xs : Nat → Int32}
theorem ek_c0 (h1 : er_inb (nI (6 * t) + 1) L = true) (h2 : er_inb (nI (6 * t) + 2) L = true) (h3 : er_inb (nI (6 * t) + 3) L = true) (h : er_Gi t (ef_L_board (xs (er_ix (nI (6 * t) + 1))) (xs (er_ix (nI (6 * t) + 2))) (xs (er_ix (nI (6 * t) + 3))) σ) (ef_M_board (xs (er_ix (nI (6 * t) + 1))) (xs (er_ix (nI (6 * t) + 2))) (xs (er_ix (nI (6 * t) + 3))))) : ∃ σ', el_c0 L xs (nI (6 * t)) σ = some (some σ') ∧ er_Iv (t + 1) σ' := by
  obtain ⟨k, σ1, v, σ2, e1, e2, e3, e4, e5⟩ := h
  refine ⟨σ2, ?_, e5⟩
  unfold el_c0 ef_M_thrown
  simp only [h1, h2, h3, er_gdt, e1, er_bw_s, e2, er_bd_s, e3, reduceIte]
  exact er_fnl e4
theorem ek_c1 (h1 : er_inb (nI (6 * t) + 1) L = true) (h2 : er_inb (nI (6 * t) + 2) L = true) (h : er_Gv t (ef_L_keep (xs (er_ix (nI (6 * t) + 1))) (xs (er_ix (nI (6 * t) + 2))) σ) (ef_M_keep (xs (er_ix (nI (6 * t) + 1))) (xs (er_ix (nI (6 * t) + 2))))) : ∃ σ', el_c1 L xs (nI (6 * t)) σ = some (some σ') ∧ er_Iv (t + 1) σ' := by
  obtain ⟨k, σ1, v, σ2, e1, e2, e3, e5⟩ := h
  refine ⟨σ2, ?_, e5⟩
  unfold el_c1 ef_M_thrown
  simp only [h1, h2, er_gdt, e1, er_bw_s, e2, er_bd_s, e3, reduceIte]
theorem ek_c2 (h1 : er_inb (nI (6 * t) + 1) L = true) (h2 : er_inb (nI (6 * t) + 2) L = true) (h : ∀ r : Int32, r = 0 ∨ r = 1 → er_Gv t (ef_L_right (xs (er_ix (nI (6 * t) + 1))) r σ) (ef_M_right (xs (er_ix (nI (6 * t) + 1))) r)) : ∃ σ', el_c2 L xs (nI (6 * t)) σ = some (some σ') ∧ er_Iv (t + 1) σ' := by
  unfold el_c2 ef_M_thrown
  by_cases hb : xs (er_ix (nI (6 * t) + 2)) = 0
  · obtain ⟨k, σ1, v, σ2, e1, e2, e3, e5⟩ := h 0 (Or.inl rfl)
    refine ⟨σ2, ?_, e5⟩
    simp only [h1, h2, er_gdt, if_pos hb, e1, er_bw_s, e2, er_bd_s, e3, reduceIte]
  · obtain ⟨k, σ1, v, σ2, e1, e2, e3, e5⟩ := h 1 (Or.inr rfl)
    refine ⟨σ2, ?_, e5⟩
    simp only [h1, h2, er_gdt, if_neg hb, e1, er_bw_s, e2, er_bd_s, e3, reduceIte]
theorem ek_c3 (h1 : er_inb (nI (6 * t) + 1) L = true) (h : er_Gv t (ef_L_rest (xs (er_ix (nI (6 * t) + 1))) σ) (ef_M_rest (xs (er_ix (nI (6 * t) + 1))))) : ∃ σ', el_c3 L xs (nI (6 * t)) σ = some (some σ') ∧ er_Iv (t + 1) σ' := by
  obtain ⟨k, σ1, v, σ2, e1, e2, e3, e5⟩ := h
  refine ⟨σ2, ?_, e5⟩
  unfold el_c3 ef_M_thrown
  simp only [h1, er_gdt, e1, er_bw_s, e2, er_bd_s, e3, reduceIte]
theorem ek_c4 (h1 : er_inb (nI (6 * t) + 1) L = true) (h2 : er_inb (nI (6 * t) + 2) L = true) (h : er_Gv t (ef_L_heat (xs (er_ix (nI (6 * t) + 1))) (xs (er_ix (nI (6 * t) + 2))) σ) (ef_M_heat (xs (er_ix (nI (6 * t) + 1))) (xs (er_ix (nI (6 * t) + 2))))) : ∃ σ', el_c4 L xs (nI (6 * t)) σ = some (some σ') ∧ er_Iv (t + 1) σ' := by
  obtain ⟨k, σ1, v, σ2, e1, e2, e3, e5⟩ := h
  refine ⟨σ2, ?_, e5⟩
  unfold el_c4 ef_M_thrown
  simp only [h1, h2, er_gdt, e1, er_bw_s, e2, er_bd_s, e3, reduceIte]
theorem ek_c5 (h1 : er_inb (nI (6 * t) + 1) L = true) (h2 : er_inb (nI (6 * t) + 2) L = true) (h3 : er_inb (nI (6 * t) + 3) L = true) (h : ∀ r : Int32, r = 0 ∨ r = 1 → er_Gi t (ef_L_member (xs (er_ix (nI (6 * t) + 1))) (xs (er_ix (nI (6 * t) + 2))) r σ) (ef_M_member (xs (er_ix (nI (6 * t) + 1))) (xs (er_ix (nI (6 * t) + 2))) r)) : ∃ σ', el_c5 L xs (nI (6 * t)) σ = some (some σ') ∧ er_Iv (t + 1) σ' := by
  unfold el_c5 ef_M_thrown
  by_cases hb : xs (er_ix (nI (6 * t) + 3)) = 0
  · obtain ⟨k, σ1, v, σ2, e1, e2, e3, e4, e5⟩ := h 0 (Or.inl rfl)
    refine ⟨σ2, ?_, e5⟩
    simp only [h1, h2, h3, er_gdt, if_pos hb, e1, er_bw_s, e2, er_bd_s, e3, reduceIte]
    exact er_fnl e4
  · obtain ⟨k, σ1, v, σ2, e1, e2, e3, e4, e5⟩ := h 1 (Or.inr rfl)
    refine ⟨σ2, ?_, e5⟩
    simp only [h1, h2, h3, er_gdt, if_neg hb, e1, er_bw_s, e2, er_bd_s, e3, reduceIte]
    exact er_fnl e4
theorem ek_c6 (h1 : er_inb (nI (6 * t) + 1) L = true) (h2 : er_inb (nI (6 * t) + 2) L = true) (h3 : er_inb (nI (6 * t) + 3) L = true) (h : ∀ r : Int32, r = 0 ∨ r = 1 → er_Gi t (ef_L_safety (xs (er_ix (nI (6 * t) + 1))) (xs (er_ix (nI (6 * t) + 2))) r σ) (ef_M_safety (xs (er_ix (nI (6 * t) + 1))) (xs (er_ix (nI (6 * t) + 2))) r)) : ∃ σ', el_c6 L xs (nI (6 * t)) σ = some (some σ') ∧ er_Iv (t + 1) σ' := by
  unfold el_c6 ef_M_thrown
  by_cases hb : xs (er_ix (nI (6 * t) + 3)) = 0
  · obtain ⟨k, σ1, v, σ2, e1, e2, e3, e4, e5⟩ := h 0 (Or.inl rfl)
    refine ⟨σ2, ?_, e5⟩
    simp only [h1, h2, h3, er_gdt, if_pos hb, e1, er_bw_s, e2, er_bd_s, e3, reduceIte]
    exact er_fnl e4
  · obtain ⟨k, σ1, v, σ2, e1, e2, e3, e4, e5⟩ := h 1 (Or.inr rfl)
    refine ⟨σ2, ?_, e5⟩
    simp only [h1, h2, h3, er_gdt, if_neg hb, e1, er_bw_s, e2, er_bd_s, e3, reduceIte]
    exact er_fnl e4
theorem ek_c7 (h1 : er_inb (nI (6 * t) + 1) L = true) (h2 : er_inb (nI (6 * t) + 2) L = true) (h3 : er_inb (nI (6 * t) + 3) L = true) (h4 : er_inb (nI (6 * t) + 4) L = true) (h5 : er_inb (nI (6 * t) + 5) L = true) (h : ∀ r : Int32, r = 0 ∨ r = 1 → er_Gi t (ef_L_enter (xs (er_ix (nI (6 * t) + 1))) (xs (er_ix (nI (6 * t) + 2))) (xs (er_ix (nI (6 * t) + 3))) (xs (er_ix (nI (6 * t) + 4))) r σ) (ef_M_enter (xs (er_ix (nI (6 * t) + 1))) (xs (er_ix (nI (6 * t) + 2))) (xs (er_ix (nI (6 * t) + 3))) (xs (er_ix (nI (6 * t) + 4))) r)) : ∃ σ', el_c7 L xs (nI (6 * t)) σ = some (some σ') ∧ er_Iv (t + 1) σ' := by
  unfold el_c7 ef_M_thrown
  by_cases hb : xs (er_ix (nI (6 * t) + 5)) = 0
  · obtain ⟨k, σ1, v, σ2, e1, e2, e3, e4, e5⟩ := h 0 (Or.inl rfl)
    refine ⟨σ2, ?_, e5⟩
    simp only [h1, h2, h3, h4, h5, er_gdt, if_pos hb, e1, er_bw_s, e2, er_bd_s, e3, reduceIte]
    exact er_fnl e4
  · obtain ⟨k, σ1, v, σ2, e1, e2, e3, e4, e5⟩ := h 1 (Or.inr rfl)
    refine ⟨σ2, ?_, e5⟩
    simp only [h1, h2, h3, h4, h5, er_gdt, if_neg hb, e1, er_bw_s, e2, er_bd_s, e3, reduceIte]
    exact er_fnl e4
theorem ek_c8 (h1 : er_inb (nI (6 * t) + 1) L = true) (h2 : er_inb (nI (6 * t) + 2) L = true) (h : er_Gi t (ef_L_out (xs (er_ix (nI (6 * t) + 1))) (xs (er_ix (nI (6 * t) + 2))) σ) (ef_M_out (xs (er_ix (nI (6 * t) + 1))) (xs (er_ix (nI (6 * t) + 2))))) : ∃ σ', el_c8 L xs (nI (6 * t)) σ = some (some σ') ∧ er_Iv (t + 1) σ' := by
  obtain ⟨k, σ1, v, σ2, e1, e2, e3, e4, e5⟩ := h
  refine ⟨σ2, ?_, e5⟩
  unfold el_c8 ef_M_thrown
  simp only [h1, h2, er_gdt, e1, er_bw_s, e2, er_bd_s, e3, reduceIte]
  exact er_fnl e4
theorem ek_c9 (h1 : er_inb (nI (6 * t) + 1) L = true) (h2 : er_inb (nI (6 * t) + 2) L = true) (h : er_Gv t (ef_L_swap (xs (er_ix (nI (6 * t) + 1))) (xs (er_ix (nI (6 * t) + 2))) σ) (ef_M_swap (xs (er_ix (nI (6 * t) + 1))) (xs (er_ix (nI (6 * t) + 2))))) : ∃ σ', el_c9 L xs (nI (6 * t)) σ = some (some σ') ∧ er_Iv (t + 1) σ' := by
  obtain ⟨k, σ1, v, σ2, e1, e2, e3, e5⟩ := h
  refine ⟨σ2, ?_, e5⟩
  unfold el_c9 ef_M_thrown
  simp only [h1, h2, er_gdt, e1, er_bw_s, e2, er_bd_s, e3, reduceIte]
theorem ek_c10 (h1 : er_inb (nI (6 * t) + 1) L = true) (h2 : er_inb (nI (6 * t) + 2) L = true) (h : er_Gi t (ef_L_join (xs (er_ix (nI (6 * t) + 1))) (xs (er_ix (nI (6 * t) + 2))) σ) (ef_M_join (xs (er_ix (nI (6 * t) + 1))) (xs (er_ix (nI (6 * t) + 2))))) : ∃ σ', el_c10 L xs (nI (6 * t)) σ = some (some σ') ∧ er_Iv (t + 1) σ' := by
  obtain ⟨k, σ1, v, σ2, e1, e2, e3, e4, e5⟩ := h
  refine ⟨σ2, ?_, e5⟩
  unfold el_c10 ef_M_thrown
  simp only [h1, h2, er_gdt, e1, er_bw_s, e2, er_bd_s, e3, reduceIte]
  exact er_fnl e4
theorem ek_c11 (h1 : er_inb (nI (6 * t) + 1) L = true) (h : er_Gv t (ef_L_close (xs (er_ix (nI (6 * t) + 1))) σ) (ef_M_close (xs (er_ix (nI (6 * t) + 1))))) : ∃ σ', el_c11 L xs (nI (6 * t)) σ = some (some σ') ∧ er_Iv (t + 1) σ' := by
  obtain ⟨k, σ1, v, σ2, e1, e2, e3, e5⟩ := h
  refine ⟨σ2, ?_, e5⟩
  unfold el_c11 ef_M_thrown
  simp only [h1, er_gdt, e1, er_bw_s, e2, er_bd_s, e3, reduceIte]
theorem ek_c12 (h1 : er_inb (nI (6 * t) + 1) L = true) (h : er_Gi t (ef_L_tick (xs (er_ix (nI (6 * t) + 1))) σ) (ef_M_tick (xs (er_ix (nI (6 * t) + 1))))) : ∃ σ', el_c12 L xs (nI (6 * t)) σ = some (some σ') ∧ er_Iv (t + 1) σ' := by
  obtain ⟨k, σ1, v, σ2, e1, e2, e3, e4, e5⟩ := h
  refine ⟨σ2, ?_, e5⟩
  unfold el_c12 ef_M_thrown
  simp only [h1, er_gdt, e1, er_bw_s, e2, er_bd_s, e3, reduceIte]
  exact er_fnl e4
theorem ek_c13 (h1 : er_inb (nI (6 * t) + 1) L = true) (h2 : er_inb (nI (6 * t) + 2) L = true) (h : er_Gi t (ef_L_on (xs (er_ix (nI (6 * t) + 1))) (xs (er_ix (nI (6 * t) + 2))) σ) (ef_M_on (xs (er_ix (nI (6 * t) + 1))) (xs (er_ix (nI (6 * t) + 2))))) : ∃ σ', el_c13 L xs (nI (6 * t)) σ = some (some σ') ∧ er_Iv (t + 1) σ' := by
  obtain ⟨k, σ1, v, σ2, e1, e2, e3, e4, e5⟩ := h
  refine ⟨σ2, ?_, e5⟩
  unfold el_c13 ef_M_thrown
  simp only [h1, h2, er_gdt, e1, er_bw_s, e2, er_bd_s, e3, reduceIte]
  exact er_fnl e4
theorem ek_c14 (h1 : er_inb (nI (6 * t) + 1) L = true) (h : er_Gi t (ef_L_late (xs (er_ix (nI (6 * t) + 1))) σ) (ef_M_late (xs (er_ix (nI (6 * t) + 1))))) : ∃ σ', el_c14 L xs (nI (6 * t)) σ = some (some σ') ∧ er_Iv (t + 1) σ' := by
  obtain ⟨k, σ1, v, σ2, e1, e2, e3, e4, e5⟩ := h
  refine ⟨σ2, ?_, e5⟩
  unfold el_c14 ef_M_thrown
  simp only [h1, er_gdt, e1, er_bw_s, e2, er_bd_s, e3, reduceIte]
  exact er_fnl e4
theorem ek_c15 (h1 : er_inb (nI (6 * t) + 1) L = true) (h2 : er_inb (nI (6 * t) + 2) L = true) (h : er_Gi t (ef_L_person (xs (er_ix (nI (6 * t) + 1))) (xs (er_ix (nI (6 * t) + 2))) σ) (ef_M_person (xs (er_ix (nI (6 * t) + 1))) (xs (er_ix (nI (6 * t) + 2))))) : ∃ σ', el_c15 L xs (nI (6 * t)) σ = some (some σ') ∧ er_Iv (t + 1) σ' := by
  obtain ⟨k, σ1, v, σ2, e1, e2, e3, e4, e5⟩ := h
  refine ⟨σ2, ?_, e5⟩
  unfold el_c15 ef_M_thrown
  simp only [h1, h2, er_gdt, e1, er_bw_s, e2, er_bd_s, e3, reduceIte]
  exact er_fnl e4
theorem ek_c16 (h1 : er_inb (nI (6 * t) + 1) L = true) (h2 : er_inb (nI (6 * t) + 2) L = true) (h : er_Gi t (ef_L_boardAt (xs (er_ix (nI (6 * t) + 1))) (xs (er_ix (nI (6 * t) + 2))) σ) (ef_M_boardAt (xs (er_ix (nI (6 * t) + 1))) (xs (er_ix (nI (6 * t) + 2))))) : ∃ σ', el_c16 L xs (nI (6 * t)) σ = some (some σ') ∧ er_Iv (t + 1) σ' := by
  obtain ⟨k, σ1, v, σ2, e1, e2, e3, e4, e5⟩ := h
  refine ⟨σ2, ?_, e5⟩
  unfold el_c16 ef_M_thrown
  simp only [h1, h2, er_gdt, e1, er_bw_s, e2, er_bd_s, e3, reduceIte]
  exact er_fnl e4
theorem ek_c17 (h1 : er_inb (nI (6 * t) + 1) L = true) (h : er_Gi t (ef_L_count (xs (er_ix (nI (6 * t) + 1))) σ) (ef_M_count (xs (er_ix (nI (6 * t) + 1))))) : ∃ σ', el_c17 L xs (nI (6 * t)) σ = some (some σ') ∧ er_Iv (t + 1) σ' := by
  obtain ⟨k, σ1, v, σ2, e1, e2, e3, e4, e5⟩ := h
  refine ⟨σ2, ?_, e5⟩
  unfold el_c17 ef_M_thrown
  simp only [h1, er_gdt, e1, er_bw_s, e2, er_bd_s, e3, reduceIte]
  exact er_fnl e4
theorem er_step (hL : L ≤ 3072) (t : Nat) (σ : er_S) (ht : t ≤ 512) (h : 6 * t + 6 ≤ L) (hI : er_Iv t σ) : ∃ σ', el_step L xs (nI (6 * t)) σ = some (some σ') ∧ er_Iv (t + 1) σ' := by
  obtain ⟨m, n, τ, hτ, hI⟩ := hI
  have h0 : er_inb (nI (6 * t)) L = true := er_inn (by omega) (by omega)
  have h1 : er_inb (nI (6 * t) + 1) L = true := er_xin (j := 1) hL h (by decide) (by decide)
  have h2 : er_inb (nI (6 * t) + 2) L = true := er_xin (j := 2) hL h (by decide) (by decide)
  have h3 : er_inb (nI (6 * t) + 3) L = true := er_xin (j := 3) hL h (by decide) (by decide)
  have h4 : er_inb (nI (6 * t) + 4) L = true := er_xin (j := 4) hL h (by decide) (by decide)
  have h5 : er_inb (nI (6 * t) + 5) L = true := er_xin (j := 5) hL h (by decide) (by decide)
  unfold el_step
  rw [h0, er_gdt]
  generalize (xs (er_ix (nI (6 * t)))) &&& 31 = w
  by_cases c0 : w = 0
  · rw [if_pos c0]; exact ek_c0 h1 h2 h3 (eo_board hI hτ _ _ _)
  rw [if_neg c0]
  by_cases c1 : w = 1
  · rw [if_pos c1]; exact ek_c1 h1 h2 (eo_keep hI hτ _ _)
  rw [if_neg c1]
  by_cases c2 : w = 2
  · rw [if_pos c2]; exact ek_c2 h1 h2 (fun r hr => eo_right hI hτ _ r (by rcases hr with rfl | rfl <;> decide))
  rw [if_neg c2]
  by_cases c3 : w = 3
  · rw [if_pos c3]; exact ek_c3 h1 (eo_rest hI hτ _)
  rw [if_neg c3]
  by_cases c4 : w = 4
  · rw [if_pos c4]; exact ek_c4 h1 h2 (eo_heat hI hτ _ _)
  rw [if_neg c4]
  by_cases c5 : w = 5
  · rw [if_pos c5]; exact ek_c5 h1 h2 h3 (fun r hr => eo_member hI hτ _ _ r hr)
  rw [if_neg c5]
  by_cases c6 : w = 6
  · rw [if_pos c6]; exact ek_c6 h1 h2 h3 (fun r hr => eo_safety hI hτ _ _ r hr)
  rw [if_neg c6]
  by_cases c7 : w = 7
  · rw [if_pos c7]; exact ek_c7 h1 h2 h3 h4 h5 (fun r hr => eo_enter hI hτ ht _ _ _ _ r hr)
  rw [if_neg c7]
  by_cases c8 : w = 8
  · rw [if_pos c8]; exact ek_c8 h1 h2 (eo_out hI hτ _ _)
  rw [if_neg c8]
  by_cases c9 : w = 9
  · rw [if_pos c9]; exact ek_c9 h1 h2 (eo_swap hI hτ _ _)
  rw [if_neg c9]
  by_cases c10 : w = 10
  · rw [if_pos c10]; exact ek_c10 h1 h2 (eo_join hI hτ _ _)
  rw [if_neg c10]
  by_cases c11 : w = 11
  · rw [if_pos c11]; exact ek_c11 h1 (eo_close hI hτ _)
  rw [if_neg c11]
  by_cases c12 : w = 12
  · rw [if_pos c12]; exact ek_c12 h1 (eo_tick hI hτ _)
  rw [if_neg c12]
  by_cases c13 : w = 13
  · rw [if_pos c13]; exact ek_c13 h1 h2 (eo_on hI hτ ht _ _)
  rw [if_neg c13]
  by_cases c14 : w = 14
  · rw [if_pos c14]; exact ek_c14 h1 (eo_late hI hτ _)
  rw [if_neg c14]
  by_cases c15 : w = 15
  · rw [if_pos c15]; exact ek_c15 h1 h2 (eo_person hI hτ _ _)
  rw [if_neg c15]
  by_cases c16 : w = 16
  · rw [if_pos c16]; exact ek_c16 h1 h2 (eo_boardAt hI hτ ht _ _)
  rw [if_neg c16]
  by_cases c17 : w = 17
  · rw [if_pos c17]; exact ek_c17 h1 (eo_count hI hτ _)
  rw [if_neg c17]
  exact ⟨σ, rfl, m, n, τ, by omega, hI⟩
end ERZ
theorem er_s5 {p : Nat} (h : p < 40) (k : Nat) (hk : er_m1 k = 40) : er_s0 k p = -1 := by
  unfold er_s0
  rw [hk, if_pos h]
theorem er_Iv0 : er_Iv 0 er_s0 := by
  refine ⟨0, 0, 0, Nat.le_refl _, ⟨by decide, by decide, rfl, rfl, rfl, rfl, rfl, rfl, rfl⟩, ?_, ?_, ?_, ?_, ?_, ?_, ?_⟩
  · refine ⟨?_, ?_, ?_, ?_, ?_, ?_, ?_, ?_, ?_, ?_, ?_, ?_, ?_, ?_, ?_, ?_⟩ <;> (funext b; simp [er_s0, er_m1])
  · exact fun p hp => Or.inl (er_s5 hp 5 rfl)
  · exact fun p hp h => absurd (er_s5 hp 5 rfl) h
  · exact ⟨fun p hp h => absurd (er_s5 hp 5 rfl) h, fun p hp q hq _ h => absurd (er_s5 hp 5 rfl) h⟩
  · intro p hp
    left
    unfold er_s0
    rw [show er_m1 3 = 16 from rfl, if_pos hp]
  · refine ⟨fun p hp => Or.inl (er_s5 hp 13 rfl), fun k hk => ?_⟩
    rw [er_cnt_zero 40 0 (fun j _ hj => decide_eq_false (by rw [er_s5 (by omega) 13 rfl]; exact fun q => er_m1n (by omega) q.symm))]
    omega
  · refine ⟨fun b hb => absurd hb (Nat.not_lt_zero b), fun b hb => ?_, fun p hp => Or.inl ⟨er_s5 hp 14 rfl, fun b hb => absurd hb (Nat.not_lt_zero b)⟩⟩
    left
    unfold er_s0
    rw [show er_m1 20 = 8 from rfl, if_pos hb]
