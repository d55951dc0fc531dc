/-! pure: person, count, join, close -/
theorem er_cnt_not (P : Nat → Bool) : ∀ (k i : Nat), er_cnt P i k + er_cnt (fun j => !P j) i k = k := by
  intro k
  induction k with
  | zero => intro i; rfl
  | succ k ih =>
    intro i
    have h := ih (i + 1)
    simp only [er_cnt]
    by_cases hp : P i = true
    · simp only [hp, Bool.not_true, Bool.false_eq_true, if_true, if_false]
      omega
    · rw [Bool.not_eq_true] at hp
      simp only [hp, Bool.not_false, Bool.false_eq_true, if_true, if_false]
      omega
section ERO6
variable {σ : er_S} {m n τ t : Nat}
theorem eo_person (hI : er_I m n τ σ) (hτ : τ ≤ 40 * t) (x y : Int32) : er_Gi t (ef_L_person x y σ) (ef_M_person x y) := by
  have hI0 := hI
  obtain ⟨⟨h8, hn9, a1, a2, a3, a4, a5, a6, a7⟩, ⟨e1, e2, e3, e4, e5, e6, e7, e8, e9, e10, e11, e12, e13, e14, e15, e16⟩, hPb, hPp, hPt, hSf, hTm, hKp⟩ := hI
  have hM1 : ef_M_person_18 x y σ = some (0, er_up σ 21 0 1) := by
    simp only [ef_M_person_18, ef_M_person_23, er_q1, er_th1, er_bw_s]
  rcases er_split x (n := 40) (by decide) with hx | ⟨p, hp, rfl⟩
  · refine er_Gi_t hI0 hτ 1 0 (by decide) ?_ ?_
    · simp only [ef_L_person, ef_E_person, er_rp_n hx, er_tb_r, er_tc_r, reduceIte]
    · simp only [ef_M_person, er_mp_n hx, er_bd_s, hM1, reduceIte]
  rcases er_split y (n := 10) (by decide) with hy | ⟨j, hj, rfl⟩
  · have hne : ∀ i, i < 10 → ¬ y = nI i := by
      rintro i hi rfl
      rcases hy with h | h
      · exact nI_pos (by omega) h
      · exact er_ge hi (by decide) h
    have hy' : y < 0 ∨ 9 < y := by rw [show (9 : Int32) = nI 9 by decide]; exact er_badI (by decide) hy
    refine er_Gi_t hI0 hτ 1 0 (by decide) ?_ ?_
    · simp only [ef_L_person, ef_E_person, er_rp_y hp, er_tb_l, if_neg (show ¬ y = 0 from hne 0 (by decide)), if_neg (show ¬ y = 1 from hne 1 (by decide)), if_neg (show ¬ y = 2 from hne 2 (by decide)), if_neg (show ¬ y = 3 from hne 3 (by decide)), if_neg (show ¬ y = 4 from hne 4 (by decide)), if_neg (show ¬ y = 5 from hne 5 (by decide)), if_neg (show ¬ y = 6 from hne 6 (by decide)), if_neg (show ¬ y = 7 from hne 7 (by decide)), if_neg (show ¬ y = 8 from hne 8 (by decide)), if_neg (show ¬ y = 9 from hne 9 (by decide)), er_tc_r, reduceIte]
    · simp only [ef_M_person, er_mp_y hp, er_mi_n hy', er_bd_s, er_q1, hM1, reduceIte]
  rcases (show j = 0 ∨ j = 1 ∨ j = 2 ∨ j = 3 ∨ j = 4 ∨ j = 5 ∨ j = 6 ∨ j = 7 ∨ j = 8 ∨ j = 9 by omega) with rfl | rfl | rfl | rfl | rfl | rfl | rfl | rfl | rfl | rfl
  · rw [show nI 0 = (0 : Int32) by decide]
    refine er_Gi_r hI0 hτ (σ 5 p) ?_ ?_
    · simp only [ef_L_person, ef_E_person, er_rp_y hp, er_tb_l, er_gdi hp (show 40 < 2 ^ 31 by decide), er_ixn (show p < 2 ^ 31 by omega), er_tc_l, er_gz, er_iz, reduceIte]
    · have r : (er_up (er_up σ 39 0 (σ 5 p)) 21 0 0) 31 = σ 5 := by simp only [er_upr, Nat.reduceEqDiff, reduceIte]; exact e3
      simp only [ef_M_person, ef_M_person_23, er_mp_y hp, er_mi_y (show ¬ (0 : Int32) < 0 by decide) (show ¬ (9 : Int32) < 0 by decide), er_bd_s, er_q1, er_th0, er_bw_s, er_gdi hp (show 40 < 2 ^ 31 by decide), er_ixn (show p < 2 ^ 31 by omega), r, reduceIte]
  · rw [show nI 1 = (1 : Int32) by decide]
    refine er_Gi_r hI0 hτ (σ 6 p) ?_ ?_
    · simp only [ef_L_person, ef_E_person, er_rp_y hp, er_tb_l, if_neg (show ¬ (1 : Int32) = 0 by decide), er_gdi hp (show 40 < 2 ^ 31 by decide), er_ixn (show p < 2 ^ 31 by omega), er_tc_l, er_gz, er_iz, reduceIte]
    · have r : (er_up (er_up σ 39 0 (σ 6 p)) 21 0 0) 32 = σ 6 := by simp only [er_upr, Nat.reduceEqDiff, reduceIte]; exact e4
      simp only [ef_M_person, ef_M_person_23, er_mp_y hp, er_mi_y (show ¬ (1 : Int32) < 0 by decide) (show ¬ (9 : Int32) < 1 by decide), er_bd_s, er_q1, er_th0, er_bw_s, if_neg (show ¬ (1 : Int32) = 0 by decide), er_gdi hp (show 40 < 2 ^ 31 by decide), er_ixn (show p < 2 ^ 31 by omega), r, reduceIte]
  · rw [show nI 2 = (2 : Int32) by decide]
    refine er_Gi_r hI0 hτ (σ 7 p) ?_ ?_
    · simp only [ef_L_person, ef_E_person, er_rp_y hp, er_tb_l, if_neg (show ¬ (2 : Int32) = 0 by decide), if_neg (show ¬ (2 : Int32) = 1 by decide), er_gdi hp (show 40 < 2 ^ 31 by decide), er_ixn (show p < 2 ^ 31 by omega), er_tc_l, er_gz, er_iz, reduceIte]
    · have r : (er_up (er_up σ 39 0 (σ 7 p)) 21 0 0) 33 = σ 7 := by simp only [er_upr, Nat.reduceEqDiff, reduceIte]; exact e5
      simp only [ef_M_person, ef_M_person_23, er_mp_y hp, er_mi_y (show ¬ (2 : Int32) < 0 by decide) (show ¬ (9 : Int32) < 2 by decide), er_bd_s, er_q1, er_th0, er_bw_s, if_neg (show ¬ (2 : Int32) = 0 by decide), if_neg (show ¬ (2 : Int32) = 1 by decide), er_gdi hp (show 40 < 2 ^ 31 by decide), er_ixn (show p < 2 ^ 31 by omega), r, reduceIte]
  · rw [show nI 3 = (3 : Int32) by decide]
    refine er_Gi_r hI0 hτ (σ 8 p) ?_ ?_
    · simp only [ef_L_person, ef_E_person, er_rp_y hp, er_tb_l, if_neg (show ¬ (3 : Int32) = 0 by decide), if_neg (show ¬ (3 : Int32) = 1 by decide), if_neg (show ¬ (3 : Int32) = 2 by decide), er_gdi hp (show 40 < 2 ^ 31 by decide), er_ixn (show p < 2 ^ 31 by omega), er_tc_l, er_gz, er_iz, reduceIte]
    · have r : (er_up (er_up σ 39 0 (σ 8 p)) 21 0 0) 34 = σ 8 := by simp only [er_upr, Nat.reduceEqDiff, reduceIte]; exact e6
      simp only [ef_M_person, ef_M_person_23, er_mp_y hp, er_mi_y (show ¬ (3 : Int32) < 0 by decide) (show ¬ (9 : Int32) < 3 by decide), er_bd_s, er_q1, er_th0, er_bw_s, if_neg (show ¬ (3 : Int32) = 0 by decide), if_neg (show ¬ (3 : Int32) = 1 by decide), if_neg (show ¬ (3 : Int32) = 2 by decide), er_gdi hp (show 40 < 2 ^ 31 by decide), er_ixn (show p < 2 ^ 31 by omega), r, reduceIte]
  · rw [show nI 4 = (4 : Int32) by decide]
    refine er_Gi_r hI0 hτ (σ 9 p) ?_ ?_
    · simp only [ef_L_person, ef_E_person, er_rp_y hp, er_tb_l, if_neg (show ¬ (4 : Int32) = 0 by decide), if_neg (show ¬ (4 : Int32) = 1 by decide), if_neg (show ¬ (4 : Int32) = 2 by decide), if_neg (show ¬ (4 : Int32) = 3 by decide), er_gdi hp (show 40 < 2 ^ 31 by decide), er_ixn (show p < 2 ^ 31 by omega), er_tc_l, er_gz, er_iz, reduceIte]
    · have r : (er_up (er_up σ 39 0 (σ 9 p)) 21 0 0) 35 = σ 9 := by simp only [er_upr, Nat.reduceEqDiff, reduceIte]; exact e7
      simp only [ef_M_person, ef_M_person_23, er_mp_y hp, er_mi_y (show ¬ (4 : Int32) < 0 by decide) (show ¬ (9 : Int32) < 4 by decide), er_bd_s, er_q1, er_th0, er_bw_s, if_neg (show ¬ (4 : Int32) = 0 by decide), if_neg (show ¬ (4 : Int32) = 1 by decide), if_neg (show ¬ (4 : Int32) = 2 by decide), if_neg (show ¬ (4 : Int32) = 3 by decide), er_gdi hp (show 40 < 2 ^ 31 by decide), er_ixn (show p < 2 ^ 31 by omega), r, reduceIte]
  · rw [show nI 5 = (5 : Int32) by decide]
    refine er_Gi_r hI0 hτ (σ 10 p) ?_ ?_
    · simp only [ef_L_person, ef_E_person, er_rp_y hp, er_tb_l, if_neg (show ¬ (5 : Int32) = 0 by decide), if_neg (show ¬ (5 : Int32) = 1 by decide), if_neg (show ¬ (5 : Int32) = 2 by decide), if_neg (show ¬ (5 : Int32) = 3 by decide), if_neg (show ¬ (5 : Int32) = 4 by decide), er_gdi hp (show 40 < 2 ^ 31 by decide), er_ixn (show p < 2 ^ 31 by omega), er_tc_l, er_gz, er_iz, reduceIte]
    · have r : (er_up (er_up σ 39 0 (σ 10 p)) 21 0 0) 36 = σ 10 := by simp only [er_upr, Nat.reduceEqDiff, reduceIte]; exact e8
      simp only [ef_M_person, ef_M_person_23, er_mp_y hp, er_mi_y (show ¬ (5 : Int32) < 0 by decide) (show ¬ (9 : Int32) < 5 by decide), er_bd_s, er_q1, er_th0, er_bw_s, if_neg (show ¬ (5 : Int32) = 0 by decide), if_neg (show ¬ (5 : Int32) = 1 by decide), if_neg (show ¬ (5 : Int32) = 2 by decide), if_neg (show ¬ (5 : Int32) = 3 by decide), if_neg (show ¬ (5 : Int32) = 4 by decide), er_gdi hp (show 40 < 2 ^ 31 by decide), er_ixn (show p < 2 ^ 31 by omega), r, reduceIte]
  · rw [show nI 6 = (6 : Int32) by decide]
    refine er_Gi_r hI0 hτ (σ 11 p) ?_ ?_
    · simp only [ef_L_person, ef_E_person, er_rp_y hp, er_tb_l, if_neg (show ¬ (6 : Int32) = 0 by decide), if_neg (show ¬ (6 : Int32) = 1 by decide), if_neg (show ¬ (6 : Int32) = 2 by decide), if_neg (show ¬ (6 : Int32) = 3 by decide), if_neg (show ¬ (6 : Int32) = 4 by decide), if_neg (show ¬ (6 : Int32) = 5 by decide), er_gdi hp (show 40 < 2 ^ 31 by decide), er_ixn (show p < 2 ^ 31 by omega), er_tc_l, er_gz, er_iz, reduceIte]
    · have r : (er_up (er_up σ 39 0 (σ 11 p)) 21 0 0) 37 = σ 11 := by simp only [er_upr, Nat.reduceEqDiff, reduceIte]; exact e9
      simp only [ef_M_person, ef_M_person_23, er_mp_y hp, er_mi_y (show ¬ (6 : Int32) < 0 by decide) (show ¬ (9 : Int32) < 6 by decide), er_bd_s, er_q1, er_th0, er_bw_s, if_neg (show ¬ (6 : Int32) = 0 by decide), if_neg (show ¬ (6 : Int32) = 1 by decide), if_neg (show ¬ (6 : Int32) = 2 by decide), if_neg (show ¬ (6 : Int32) = 3 by decide), if_neg (show ¬ (6 : Int32) = 4 by decide), if_neg (show ¬ (6 : Int32) = 5 by decide), er_gdi hp (show 40 < 2 ^ 31 by decide), er_ixn (show p < 2 ^ 31 by omega), r, reduceIte]
  · rw [show nI 7 = (7 : Int32) by decide]
    refine er_Gi_r hI0 hτ (σ 12 p) ?_ ?_
    · simp only [ef_L_person, ef_E_person, er_rp_y hp, er_tb_l, if_neg (show ¬ (7 : Int32) = 0 by decide), if_neg (show ¬ (7 : Int32) = 1 by decide), if_neg (show ¬ (7 : Int32) = 2 by decide), if_neg (show ¬ (7 : Int32) = 3 by decide), if_neg (show ¬ (7 : Int32) = 4 by decide), if_neg (show ¬ (7 : Int32) = 5 by decide), if_neg (show ¬ (7 : Int32) = 6 by decide), er_gdi hp (show 40 < 2 ^ 31 by decide), er_ixn (show p < 2 ^ 31 by omega), er_tc_l, er_gz, er_iz, reduceIte]
    · have r : (er_up (er_up σ 39 0 (σ 12 p)) 21 0 0) 38 = σ 12 := by simp only [er_upr, Nat.reduceEqDiff, reduceIte]; exact e10
      simp only [ef_M_person, ef_M_person_23, er_mp_y hp, er_mi_y (show ¬ (7 : Int32) < 0 by decide) (show ¬ (9 : Int32) < 7 by decide), er_bd_s, er_q1, er_th0, er_bw_s, if_neg (show ¬ (7 : Int32) = 0 by decide), if_neg (show ¬ (7 : Int32) = 1 by decide), if_neg (show ¬ (7 : Int32) = 2 by decide), if_neg (show ¬ (7 : Int32) = 3 by decide), if_neg (show ¬ (7 : Int32) = 4 by decide), if_neg (show ¬ (7 : Int32) = 5 by decide), if_neg (show ¬ (7 : Int32) = 6 by decide), er_gdi hp (show 40 < 2 ^ 31 by decide), er_ixn (show p < 2 ^ 31 by omega), r, reduceIte]
  · rw [show nI 8 = (8 : Int32) by decide]
    refine er_Gi_r hI0 hτ (σ 13 p) ?_ ?_
    · simp only [ef_L_person, ef_E_person, er_rp_y hp, er_tb_l, if_neg (show ¬ (8 : Int32) = 0 by decide), if_neg (show ¬ (8 : Int32) = 1 by decide), if_neg (show ¬ (8 : Int32) = 2 by decide), if_neg (show ¬ (8 : Int32) = 3 by decide), if_neg (show ¬ (8 : Int32) = 4 by decide), if_neg (show ¬ (8 : Int32) = 5 by decide), if_neg (show ¬ (8 : Int32) = 6 by decide), if_neg (show ¬ (8 : Int32) = 7 by decide), er_gdi hp (show 40 < 2 ^ 31 by decide), er_ixn (show p < 2 ^ 31 by omega), er_tc_l, er_gz, er_iz, reduceIte]
    · have r : (er_up (er_up σ 39 0 (σ 13 p)) 21 0 0) 29 = σ 13 := by simp only [er_upr, Nat.reduceEqDiff, reduceIte]; exact e11
      simp only [ef_M_person, ef_M_person_23, er_mp_y hp, er_mi_y (show ¬ (8 : Int32) < 0 by decide) (show ¬ (9 : Int32) < 8 by decide), er_bd_s, er_q1, er_th0, er_bw_s, if_neg (show ¬ (8 : Int32) = 0 by decide), if_neg (show ¬ (8 : Int32) = 1 by decide), if_neg (show ¬ (8 : Int32) = 2 by decide), if_neg (show ¬ (8 : Int32) = 3 by decide), if_neg (show ¬ (8 : Int32) = 4 by decide), if_neg (show ¬ (8 : Int32) = 5 by decide), if_neg (show ¬ (8 : Int32) = 6 by decide), if_neg (show ¬ (8 : Int32) = 7 by decide), er_gdi hp (show 40 < 2 ^ 31 by decide), er_ixn (show p < 2 ^ 31 by omega), r, reduceIte]
  · rw [show nI 9 = (9 : Int32) by decide]
    refine er_Gi_r hI0 hτ (σ 14 p) ?_ ?_
    · simp only [ef_L_person, ef_E_person, er_rp_y hp, er_tb_l, if_neg (show ¬ (9 : Int32) = 0 by decide), if_neg (show ¬ (9 : Int32) = 1 by decide), if_neg (show ¬ (9 : Int32) = 2 by decide), if_neg (show ¬ (9 : Int32) = 3 by decide), if_neg (show ¬ (9 : Int32) = 4 by decide), if_neg (show ¬ (9 : Int32) = 5 by decide), if_neg (show ¬ (9 : Int32) = 6 by decide), if_neg (show ¬ (9 : Int32) = 7 by decide), if_neg (show ¬ (9 : Int32) = 8 by decide), er_gdi hp (show 40 < 2 ^ 31 by decide), er_ixn (show p < 2 ^ 31 by omega), er_tc_l, er_gz, er_iz, reduceIte]
    · have hk := er_keeps (σ := er_up (er_up σ 39 0 (σ 14 p)) 21 0 0) (m := m) (f20 := σ 20) (f14 := σ 14) (by simpa [er_up] using a2) h8 (by simp only [er_upr, Nat.reduceEqDiff, reduceIte]; exact hKp) hp
      simp only [ef_M_person, ef_M_person_23, er_mp_y hp, er_mi_y (show ¬ (9 : Int32) < 0 by decide) (show ¬ (9 : Int32) < 9 by decide), er_bd_s, er_q1, er_th0, er_bw_s, if_neg (show ¬ (9 : Int32) = 0 by decide), if_neg (show ¬ (9 : Int32) = 1 by decide), if_neg (show ¬ (9 : Int32) = 2 by decide), if_neg (show ¬ (9 : Int32) = 3 by decide), if_neg (show ¬ (9 : Int32) = 4 by decide), if_neg (show ¬ (9 : Int32) = 5 by decide), if_neg (show ¬ (9 : Int32) = 6 by decide), if_neg (show ¬ (9 : Int32) = 7 by decide), if_neg (show ¬ (9 : Int32) = 8 by decide), hk, reduceIte]
/-! count -/
theorem er_mcount {x : Int32} (hm : σ 21 5 = nI m) (h8 : m ≤ 8) : ef_M_count_29 64 x 0 0 σ = if x = 0 then some (σ 21 1, σ) else if x = 1 then some (nI (er_cnt (fun p => !decide (σ 31 p < 0)) 0 40), σ) else if x = 2 then some (σ 21 3, σ) else some (nI (er_cnt (fun b => !decide (σ 23 b = 0)) 0 m), σ) := by
  have h := er_cl0 (fun n a i => ef_M_count_29 n x a i σ) (fun a => ef_M_count_63 64 x a 0 0 σ) (fun p => !decide (σ 31 p < 0)) 40
    (by intro n a; simp only [ef_M_count_29]; rw [if_pos (by decide)])
    (by intro n a i hi; simp only [ef_M_count_29]; rw [er_40, if_neg (er_ge hi (by decide)), er_gdi hi (by decide), er_ixn (by omega), er_p1, er_a0]; by_cases h : σ 31 i < 0 <;> simp [h]) (n := 64) (by decide)
  rw [h]
  generalize nI (er_cnt (fun p => !decide (σ 31 p < 0)) 0 40) = A
  exact er_cl0 (fun n a i => ef_M_count_63 n x A a i σ) (fun a => if x = 0 then some (σ 21 1, σ) else if x = 1 then some (A, σ) else if x = 2 then some (σ 21 3, σ) else some (a, σ)) (fun b => !decide (σ 23 b = 0)) m
    (by intro n a; simp only [ef_M_count_63, ef_M_count_129]; rw [hm, if_pos (nI_le (Nat.le_refl m) (by omega))])
    (by intro n a i hi; simp only [ef_M_count_63]; rw [hm, if_neg (er_ge hi (by omega)), er_gdi (show i < 8 by omega) (by decide), er_ixn (by omega), er_p1, er_a0]; by_cases h : σ 23 i = 0 <;> simp [h]) (by omega)
theorem er_cin (hPb : er_Pb m (σ 5)) (h8 : m ≤ 8) (e3 : σ 31 = σ 5) : (40 : Int32) - nI (er_cnt (fun p => decide (σ 5 p = -1)) 0 40) = nI (er_cnt (fun p => !decide (σ 31 p < 0)) 0 40) := by
  have h1 := er_cnt_not (fun p => decide (σ 5 p = -1)) 40 0
  have h2 : er_cnt (fun p => !decide (σ 31 p < 0)) 0 40 = er_cnt (fun p => !decide (σ 5 p = -1)) 0 40 := er_cnt_congr 40 0 (fun j _ hj => by
    have := er_pbl hPb h8 (p := j) (by omega)
    rw [e3]
    by_cases q : σ 5 j = -1
    · simp [this.mpr q, q]
    · have q' : ¬ σ 5 j < 0 := fun z => q (this.mp z)
      simp [q', q])
  rw [h2]
  generalize hA : er_cnt (fun p => decide (σ 5 p = -1)) 0 40 = A at h1
  generalize hB : er_cnt (fun p => !decide (σ 5 p = -1)) 0 40 = B at h1
  have h4 : (40 : Int32) = nI (A + B) := by rw [h1]; exact er_40
  rw [h4, pk_sub (Nat.le_add_right A B), Nat.add_sub_cancel_left]
theorem eo_count0 (hI : er_I m n τ σ) (hτ : τ ≤ 40 * t) : er_Gi t (ef_L_count 0 σ) (ef_M_count 0) := by
  have hI0 := hI
  obtain ⟨⟨h8, hn9, a1, a2, a3, a4, a5, a6, a7⟩, ⟨e1, e2, e3, e4, e5, e6, e7, e8, e9, e10, e11, e12, e13, e14, e15, e16⟩, hPb, hPp, hPt, hSf, hTm, hKp⟩ := hI
  have hM : ∀ (v z : Int32), ¬ z < 0 → ¬ 3 < z → ef_M_count z (er_up σ 39 0 v) = ef_M_count_29 64 z 0 0 (er_up (er_up σ 39 0 v) 21 0 0) := by
    intro v z h1 h2
    unfold ef_M_count ef_M_count_15
    rw [er_mi_y h1 h2, er_bd_s, er_q1, er_th0, er_bw_s, er_q0]
  have hm2 : ∀ v : Int32, (er_up (er_up σ 39 0 v) 21 0 0) 21 5 = nI m := by
    intro v
    simpa [er_up] using a2
  have hr31 : ∀ v : Int32, (er_up (er_up σ 39 0 v) 21 0 0) 31 = σ 31 := by
    intro v
    simp only [er_upr, Nat.reduceEqDiff, reduceIte]
  have hr23 : ∀ v : Int32, (er_up (er_up σ 39 0 v) 21 0 0) 23 = σ 23 := by
    intro v
    simp only [er_upr, Nat.reduceEqDiff, reduceIte]
  refine er_Gi_r hI0 hτ (σ 0 4) ?_ ?_
  · simp only [ef_L_count, ef_E_count, er_tc_l, er_gz, er_iz, reduceIte]
  · have r : (er_up (er_up σ 39 0 (σ 0 4)) 21 0 0) 21 1 = σ 0 4 := by rw [a3, ← a4]; simp [er_up]
    rw [hM _ _ (by decide) (by decide), er_mcount (hm2 _) h8, if_pos rfl, r]
theorem eo_count1 (hI : er_I m n τ σ) (hτ : τ ≤ 40 * t) : er_Gi t (ef_L_count 1 σ) (ef_M_count 1) := by
  have hI0 := hI
  obtain ⟨⟨h8, hn9, a1, a2, a3, a4, a5, a6, a7⟩, ⟨e1, e2, e3, e4, e5, e6, e7, e8, e9, e10, e11, e12, e13, e14, e15, e16⟩, hPb, hPp, hPt, hSf, hTm, hKp⟩ := hI
  have hM : ∀ (v z : Int32), ¬ z < 0 → ¬ 3 < z → ef_M_count z (er_up σ 39 0 v) = ef_M_count_29 64 z 0 0 (er_up (er_up σ 39 0 v) 21 0 0) := by
    intro v z h1 h2
    unfold ef_M_count ef_M_count_15
    rw [er_mi_y h1 h2, er_bd_s, er_q1, er_th0, er_bw_s, er_q0]
  have hm2 : ∀ v : Int32, (er_up (er_up σ 39 0 v) 21 0 0) 21 5 = nI m := by
    intro v
    simpa [er_up] using a2
  have hr31 : ∀ v : Int32, (er_up (er_up σ 39 0 v) 21 0 0) 31 = σ 31 := by
    intro v
    simp only [er_upr, Nat.reduceEqDiff, reduceIte]
  have hr23 : ∀ v : Int32, (er_up (er_up σ 39 0 v) 21 0 0) 23 = σ 23 := by
    intro v
    simp only [er_upr, Nat.reduceEqDiff, reduceIte]
  have hcc := er_cin hPb h8 e3
  refine er_Gi_r hI0 hτ (nI (er_cnt (fun p => !decide (σ 31 p < 0)) 0 40)) ?_ ?_
  · simp only [ef_L_count, ef_E_count, ef_P_countInside, er_con, er_bd_s, hcc, if_neg (show ¬ (1 : Int32) = 0 by decide), er_tc_l, er_gz, er_iz, reduceIte]
  · rw [hM _ _ (by decide) (by decide), er_mcount (hm2 _) h8, if_neg (by decide), if_pos rfl, hr31 _]
theorem eo_count2 (hI : er_I m n τ σ) (hτ : τ ≤ 40 * t) : er_Gi t (ef_L_count 2 σ) (ef_M_count 2) := by
  have hI0 := hI
  obtain ⟨⟨h8, hn9, a1, a2, a3, a4, a5, a6, a7⟩, ⟨e1, e2, e3, e4, e5, e6, e7, e8, e9, e10, e11, e12, e13, e14, e15, e16⟩, hPb, hPp, hPt, hSf, hTm, hKp⟩ := hI
  have hM : ∀ (v z : Int32), ¬ z < 0 → ¬ 3 < z → ef_M_count z (er_up σ 39 0 v) = ef_M_count_29 64 z 0 0 (er_up (er_up σ 39 0 v) 21 0 0) := by
    intro v z h1 h2
    unfold ef_M_count ef_M_count_15
    rw [er_mi_y h1 h2, er_bd_s, er_q1, er_th0, er_bw_s, er_q0]
  have hm2 : ∀ v : Int32, (er_up (er_up σ 39 0 v) 21 0 0) 21 5 = nI m := by
    intro v
    simpa [er_up] using a2
  have hr31 : ∀ v : Int32, (er_up (er_up σ 39 0 v) 21 0 0) 31 = σ 31 := by
    intro v
    simp only [er_upr, Nat.reduceEqDiff, reduceIte]
  have hr23 : ∀ v : Int32, (er_up (er_up σ 39 0 v) 21 0 0) 23 = σ 23 := by
    intro v
    simp only [er_upr, Nat.reduceEqDiff, reduceIte]
  refine er_Gi_r hI0 hτ (σ 0 5) ?_ ?_
  · simp only [ef_L_count, ef_E_count, if_neg (show ¬ (2 : Int32) = 0 by decide), if_neg (show ¬ (2 : Int32) = 1 by decide), er_tc_l, er_gz, er_iz, reduceIte]
  · have r : (er_up (er_up σ 39 0 (σ 0 5)) 21 0 0) 21 3 = σ 0 5 := by rw [a5, ← a6]; simp [er_up]
    rw [hM _ _ (by decide) (by decide), er_mcount (hm2 _) h8, if_neg (by decide), if_neg (by decide), if_pos rfl, r]
theorem eo_count3 (hI : er_I m n τ σ) (hτ : τ ≤ 40 * t) : er_Gi t (ef_L_count 3 σ) (ef_M_count 3) := by
  have hI0 := hI
  obtain ⟨⟨h8, hn9, a1, a2, a3, a4, a5, a6, a7⟩, ⟨e1, e2, e3, e4, e5, e6, e7, e8, e9, e10, e11, e12, e13, e14, e15, e16⟩, hPb, hPp, hPt, hSf, hTm, hKp⟩ := hI
  have hM : ∀ (v z : Int32), ¬ z < 0 → ¬ 3 < z → ef_M_count z (er_up σ 39 0 v) = ef_M_count_29 64 z 0 0 (er_up (er_up σ 39 0 v) 21 0 0) := by
    intro v z h1 h2
    unfold ef_M_count ef_M_count_15
    rw [er_mi_y h1 h2, er_bd_s, er_q1, er_th0, er_bw_s, er_q0]
  have hm2 : ∀ v : Int32, (er_up (er_up σ 39 0 v) 21 0 0) 21 5 = nI m := by
    intro v
    simpa [er_up] using a2
  have hr31 : ∀ v : Int32, (er_up (er_up σ 39 0 v) 21 0 0) 31 = σ 31 := by
    intro v
    simp only [er_upr, Nat.reduceEqDiff, reduceIte]
  have hr23 : ∀ v : Int32, (er_up (er_up σ 39 0 v) 21 0 0) 23 = σ 23 := by
    intro v
    simp only [er_upr, Nat.reduceEqDiff, reduceIte]
  refine er_Gi_r hI0 hτ (nI (er_cnt (fun b => !decide (σ 16 b = 0)) 0 m)) ?_ ?_
  · simp only [ef_L_count, ef_E_count, if_neg (show ¬ (3 : Int32) = 0 by decide), if_neg (show ¬ (3 : Int32) = 1 by decide), if_neg (show ¬ (3 : Int32) = 2 by decide), er_copen a1 h8, er_bd_s, er_tc_l, er_gz, er_iz, reduceIte]
  · rw [hM _ _ (by decide) (by decide), er_mcount (hm2 _) h8, if_neg (by decide), if_neg (by decide), if_neg (by decide), hr23 _, e13]
theorem eo_count (hI : er_I m n τ σ) (hτ : τ ≤ 40 * t) (y : Int32) : er_Gi t (ef_L_count y σ) (ef_M_count y) := by
  have hI0 := hI
  obtain ⟨⟨h8, hn9, a1, a2, a3, a4, a5, a6, a7⟩, ⟨e1, e2, e3, e4, e5, e6, e7, e8, e9, e10, e11, e12, e13, e14, e15, e16⟩, hPb, hPp, hPt, hSf, hTm, hKp⟩ := hI
  rcases er_split y (n := 4) (by decide) with hy | ⟨j, hj, rfl⟩
  · have hne : ∀ i, i < 4 → ¬ y = nI i := by
      rintro i hi rfl
      rcases hy with h | h
      · exact nI_pos (by omega) h
      · exact er_ge hi (by decide) h
    have hy' : y < 0 ∨ 3 < y := by rw [show (3 : Int32) = nI 3 by decide]; exact er_badI (by decide) hy
    refine er_Gi_t hI0 hτ 1 0 (by decide) ?_ ?_
    · simp only [ef_L_count, ef_E_count, if_neg (show ¬ y = 0 from hne 0 (by decide)), if_neg (show ¬ y = 1 from hne 1 (by decide)), if_neg (show ¬ y = 2 from hne 2 (by decide)), if_neg (show ¬ y = 3 from hne 3 (by decide)), er_tc_r, reduceIte]
    · simp only [ef_M_count, ef_M_count_15, er_mi_n hy', er_bd_s, er_q1, er_th1, er_bw_s, reduceIte]
  rcases (show j = 0 ∨ j = 1 ∨ j = 2 ∨ j = 3 by omega) with rfl | rfl | rfl | rfl
  · rw [show nI 0 = (0 : Int32) by decide]; exact eo_count0 hI0 hτ
  · rw [show nI 1 = (1 : Int32) by decide]; exact eo_count1 hI0 hτ
  · rw [show nI 2 = (2 : Int32) by decide]; exact eo_count2 hI0 hτ
  · rw [show nI 3 = (3 : Int32) by decide]; exact eo_count3 hI0 hτ
end ERO6
