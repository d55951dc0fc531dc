/-! pure: out, member, safety -/
section ERO4
variable {σ : er_S} {m n τ t : Nat}
theorem er_cout {p : Nat} (hp : p < 40) (s h r : Int32) : ef_P_comeOut (nI p) s h r σ = some (s - σ 9 p, er_up (er_up (er_up (er_up (er_up (er_up (er_up (er_up σ 11 p (σ 11 p + (s - σ 9 p))) 12 p (σ 12 p + (s - σ 9 p) * h)) 10 p (s + r)) 5 p (-1)) 6 p (-1)) 8 p (-1)) 7 p (-1)) 9 p (-1)) := by
  unfold ef_P_comeOut ef_P_setEntry
  simp only [er_gdi hp (show 40 < 2 ^ 31 by decide), er_ixn (show p < 2 ^ 31 by omega), er_bw_s]
  simp only [er_upr, Nat.reduceEqDiff, reduceIte]
theorem er_mout {p q : Nat} (hp : p < 40) (hq : q < 6) (e : σ 33 p = nI q) : ef_M_out_42 (nI p) 0 0 σ = some (σ 21 1 - σ 35 p, er_up (er_up (er_up (er_up (er_up (er_up (er_up (er_up (er_up σ 21 0 0) 37 p (σ 37 p + (σ 21 1 - σ 35 p))) 38 p (σ 38 p + (σ 21 1 - σ 35 p) * σ 22 q)) 36 p (σ 21 1 + σ 21 2)) 31 p (-1)) 32 p (-1)) 33 p (-1)) 34 p (-1)) 35 p (-1)) := by
  unfold ef_M_out_42 ef_M_outside
  rw [er_th0, er_bw_s, er_q0]
  have g1 : (er_up σ 21 0 0) 21 1 = σ 21 1 := by simp [er_up]
  have g2 : (er_up σ 21 0 0) 21 2 = σ 21 2 := by simp [er_up]
  have g3 : (er_up σ 21 0 0) 33 = σ 33 := by simp only [er_upr, Nat.reduceEqDiff, reduceIte]
  have g4 : (er_up σ 21 0 0) 37 = σ 37 := by simp only [er_upr, Nat.reduceEqDiff, reduceIte]
  have g5 : (er_up σ 21 0 0) 38 = σ 38 := by simp only [er_upr, Nat.reduceEqDiff, reduceIte]
  have g6 : (er_up σ 21 0 0) 22 = σ 22 := by simp only [er_upr, Nat.reduceEqDiff, reduceIte]
  have g7 : (er_up σ 21 0 0) 35 = σ 35 := by simp only [er_upr, Nat.reduceEqDiff, reduceIte]
  generalize er_up σ 21 0 0 = g at g1 g2 g3 g4 g5 g6 g7 ⊢
  rw [← g3] at e
  rw [← g4, ← g5, ← g6, ← g7, ← g1, ← g2]
  simp only [er_gdi hp (show 40 < 2 ^ 31 by decide), er_ixn (show p < 2 ^ 31 by omega), er_bw_s, er_upr, Nat.reduceEqDiff, reduceIte, e, er_gdi hq (show 6 < 2 ^ 31 by decide), er_ixn (show q < 2 ^ 31 by omega)]
theorem eo_out (hI : er_I m n τ σ) (hτ : τ ≤ 40 * t) (x y : Int32) : er_Gi t (ef_L_out x y σ) (ef_M_out x y) := by
  have hI0 := hI
  obtain ⟨⟨h8, hn9, a1, a2, a3, a4, a5, a6, a7⟩, ⟨e1, e2, e3, e4, e5, e6, e7, e8, e9, e10, e11, e12, e13, e14, e15, e16⟩, hPb, hPp, hPt, hSf, hTm, hKp⟩ := hI
  have hM1 : ef_M_out_15 x y σ = some (0, er_up σ 21 0 1) := by
    simp only [ef_M_out_15, ef_M_out_20, ef_M_out_41, ef_M_out_42, er_q1, er_th1, er_bw_s]
  rcases er_split x (n := m) (by omega) with hx | ⟨b, hb, rfl⟩
  · refine er_Gi_t hI0 hτ 1 0 (by decide) ?_ ?_
    · simp only [ef_L_out, ef_E_out, er_rb_n a1 hx, er_tb_r, er_tc_r, reduceIte]
    · simp only [ef_M_out, er_mb_n a2 h8 hx, er_bd_s, hM1, reduceIte]
  rcases er_split y (n := 40) (by decide) with hy | ⟨p, hp, rfl⟩
  · refine er_Gi_t hI0 hτ 1 0 (by decide) ?_ ?_
    · simp only [ef_L_out, ef_E_out, er_rb_y a1 h8 hb, er_rp_n hy, er_tb_l, er_tb_r, er_tc_r, reduceIte]
    · simp only [ef_M_out, er_mb_y a2 h8 hb, er_mp_n hy, er_bd_s, er_q1, hM1, reduceIte]
  by_cases hi : σ 5 p = nI b
  rotate_left
  · refine er_Gi_t hI0 hτ 2 0 (by decide) ?_ ?_
    · simp only [ef_L_out, ef_E_out, ef_E_out_27, er_rb_y a1 h8 hb, er_rp_y hp, er_gdi hp (show 40 < 2 ^ 31 by decide), er_ixn (show p < 2 ^ 31 by omega), if_neg hi, er_rs_n, er_tb_l, er_tb_r, er_tc_r, reduceIte, Nat.reduceEqDiff]
    · have hi' : ¬ σ 31 p = nI b := by rw [e3]; exact hi
      simp only [ef_M_out, ef_M_out_20, ef_M_out_42, er_mb_y a2 h8 hb, er_mp_y hp, er_bd_s, er_q1, er_q0, er_gdi hp (show 40 < 2 ^ 31 by decide), er_ixn (show p < 2 ^ 31 by omega), if_neg hi', er_th2, er_bw_s, reduceIte]
  have hin : σ 5 p ≠ -1 := by rw [hi]; exact er_m1n (by omega)
  obtain ⟨q, hq, hpl⟩ := hPp p hp hin
  refine ⟨0, er_up (er_up (er_up (er_up (er_up (er_up (er_up (er_up (er_up σ 11 p (σ 11 p + (σ 0 4 - σ 9 p))) 12 p (σ 12 p + (σ 0 4 - σ 9 p) * σ 4 q)) 10 p (σ 0 4 + σ 0 6)) 5 p (-1)) 6 p (-1)) 8 p (-1)) 7 p (-1)) 9 p (-1)) 39 0 (σ 0 4 - σ 9 p), σ 0 4 - σ 9 p,
    er_up (er_up (er_up (er_up (er_up (er_up (er_up (er_up (er_up (er_up (er_up (er_up (er_up (er_up (er_up (er_up (er_up (er_up σ 11 p (σ 11 p + (σ 0 4 - σ 9 p))) 12 p (σ 12 p + (σ 0 4 - σ 9 p) * σ 4 q)) 10 p (σ 0 4 + σ 0 6)) 5 p (-1)) 6 p (-1)) 8 p (-1)) 7 p (-1)) 9 p (-1)) 39 0 (σ 0 4 - σ 9 p)) 21 0 0) 37 p (σ 11 p + (σ 0 4 - σ 9 p))) 38 p (σ 12 p + (σ 0 4 - σ 9 p) * σ 4 q)) 36 p (σ 0 4 + σ 0 6)) 31 p (-1)) 32 p (-1)) 33 p (-1)) 34 p (-1)) 35 p (-1), ?_, ?_, ?_, ?_, m, n, τ, by omega, ?_⟩
  · simp only [ef_L_out, ef_E_out, ef_E_out_27, ef_E_out_57, er_rb_y a1 h8 hb, er_rp_y hp, er_gdi hp (show 40 < 2 ^ 31 by decide), er_ixn (show p < 2 ^ 31 by omega), if_pos hi, er_rs_y, er_tb_l, hpl, er_pl_y hq, er_bd_s, er_q1, er_gdi hq (show 6 < 2 ^ 31 by decide), er_ixn (show q < 2 ^ 31 by omega), er_cout hp, er_bw_s, er_tc_l, er_gz, er_iz]
  · generalize hS : er_up (er_up (er_up (er_up (er_up (er_up (er_up (er_up (er_up σ 11 p (σ 11 p + (σ 0 4 - σ 9 p))) 12 p (σ 12 p + (σ 0 4 - σ 9 p) * σ 4 q)) 10 p (σ 0 4 + σ 0 6)) 5 p (-1)) 6 p (-1)) 8 p (-1)) 7 p (-1)) 9 p (-1)) 39 0 (σ 0 4 - σ 9 p) = σ1
    have r : ∀ k, 20 < k → k < 39 → σ1 k = σ k := by
      intro k h1 h2
      rw [← hS]
      simp only [er_upr]
      rw [if_neg (by omega), if_neg (by omega), if_neg (by omega), if_neg (by omega), if_neg (by omega), if_neg (by omega), if_neg (by omega), if_neg (by omega), if_neg (by omega)]
    have hm1 : σ1 21 5 = nI m := by rw [r 21 (by decide) (by decide)]; exact a2
    have hi' : σ1 31 p = nI b := by rw [r 31 (by decide) (by decide), e3]; exact hi
    have hpl' : σ1 33 p = nI q := by rw [r 33 (by decide) (by decide), e5]; exact hpl
    have hh := er_mout hp hq hpl'
    rw [r 21 (by decide) (by decide), r 35 (by decide) (by decide), r 37 (by decide) (by decide), r 38 (by decide) (by decide), r 22 (by decide) (by decide), e7, e9, e10, e2, a7, a4, ← a3] at hh
    simp only [ef_M_out, ef_M_out_20, ef_M_out_41, er_mb_y hm1 h8 hb, er_mp_y hp, er_bd_s, er_q1, er_q0, er_gdi hp (show 40 < 2 ^ 31 by decide), er_ixn (show p < 2 ^ 31 by omega), if_pos hi', hh, reduceIte]
  · simp [er_up]
  · intro _
    simp [er_up]
  · simp only [er_I, er_Nu, er_Eq, er_upr, Nat.reduceEqDiff, reduceIte]
    refine ⟨⟨h8, hn9, a1, by simpa [upd] using a2, a3, by simpa [upd] using a4, a5, by simpa [upd] using a6, by simpa [upd] using a7⟩, ⟨e1, e2, by rw [e3], by rw [e4], by rw [e5], by rw [e6], by rw [e7], by rw [e8], by rw [e9], by rw [e10], e11, e12, e13, e14, e15, e16⟩, ?_, ?_, ?_, hSf, hTm, hKp⟩
    · intro j hj
      by_cases k : j = p
      · subst k; exact Or.inl (er_us _ _ _)
      · rw [er_uo _ _ k]; exact hPb j hj
    · intro j hj h
      by_cases k : j = p
      · subst k; exact absurd (er_us _ _ _) h
      · rw [er_uo _ _ k] at h ⊢; exact hPp j hj h
    · refine ⟨fun j hj h => ?_, fun j hj i hi hne h h' => ?_⟩
      · by_cases k : j = p
        · subst k; exact absurd (er_us _ _ _) h
        · rw [er_uo _ _ k] at h ⊢; exact hPt.1 j hj h
      · by_cases k : j = p
        · subst k; exact absurd (er_us _ _ _) h
        · by_cases k' : i = p
          · subst k'; exact absurd (er_us _ _ _) h'
          · rw [er_uo _ _ k] at h
            rw [er_uo _ _ k'] at h'
            rw [er_uo _ _ k, er_uo _ _ k']
            exact hPt.2 j hj i hi hne h h'
/-! member -/
theorem er_Tm_off {f : Nat → Int32} {p : Nat} (h : er_Tm f) : er_Tm (upd f p (-1)) := by
  refine ⟨fun j hj => ?_, fun k hk => ?_⟩
  · by_cases e : j = p
    · subst e; exact Or.inl (er_us _ _ _)
    · rw [er_uo _ _ e]; exact h.1 j hj
  · refine Nat.le_trans (er_cnt_mono 40 0 (fun j _ _ hj => ?_)) (h.2 k hk)
    have hj := of_decide_eq_true hj
    by_cases e : j = p
    · subst e; rw [er_us] at hj; exact absurd hj.symm (er_m1n (by omega))
    · rw [er_uo _ _ e] at hj; exact decide_eq_true hj
theorem er_Tm_on {f : Nat → Int32} {p k : Nat} (h : er_Tm f) (hp : p < 40) (hk : k < 16) (e : f p = -1) (hc : er_cnt (fun p => decide (f p = nI k)) 0 40 < 6) : er_Tm (upd f p (nI k)) := by
  refine ⟨fun j hj => ?_, fun k' hk' => ?_⟩
  · by_cases q : j = p
    · subst q; exact Or.inr ⟨k, hk, er_us _ _ _⟩
    · rw [er_uo _ _ q]; exact h.1 j hj
  · by_cases q : k' = k
    · subst q
      rw [er_cnt_ins (P := fun p => decide (f p = nI k')) (Q := fun q => decide (upd f p (nI k') q = nI k')) (p := p) 40 0 (Nat.zero_le p) (by omega) (decide_eq_false (by rw [e]; exact fun q => er_m1n (by omega) q.symm)) (decide_eq_true (er_us _ _ _)) (fun j _ _ hne => by
        show decide _ = decide _
        rw [er_uo _ _ hne])]
      omega
    · refine Nat.le_trans (er_cnt_mono 40 0 (fun j _ _ hj => ?_)) (h.2 k' hk')
      have hj := of_decide_eq_true hj
      by_cases q2 : j = p
      · subst q2
        rw [er_us] at hj
        exact absurd hj (er_nIe (by omega) (by omega) (fun z => q z.symm))
      · rw [er_uo _ _ q2] at hj; exact decide_eq_true hj
theorem er_tml {f : Nat → Int32} {p : Nat} (h : er_Tm f) (hp : p < 40) : f p < 0 ↔ f p = -1 := by
  rcases h.1 p hp with h1 | ⟨b, h1, h2⟩
  · rw [h1]; decide
  · rw [h2]
    exact ⟨fun q => absurd q (nI_pos (by omega)), fun q => absurd q (er_m1n (by omega))⟩
theorem eo_member (hI : er_I m n τ σ) (hτ : τ ≤ 40 * t) (x y z : Int32) (hz : z = 0 ∨ z = 1) : er_Gi t (ef_L_member x y z σ) (ef_M_member x y z) := by
  have hI0 := hI
  obtain ⟨⟨h8, hn9, a1, a2, a3, a4, a5, a6, a7⟩, ⟨e1, e2, e3, e4, e5, e6, e7, e8, e9, e10, e11, e12, e13, e14, e15, e16⟩, hPb, hPp, hPt, hSf, hTm, hKp⟩ := hI
  have hM1 : ef_M_member_14 x y z σ = some (0, er_up σ 21 0 1) := by
    simp only [ef_M_member_14, ef_M_member_19, ef_M_member_65, ef_M_member_66, ef_M_member_96, ef_M_member_97, er_q1, er_th1, er_bw_s]
  rcases er_split x (n := 16) (by decide) with hx | ⟨k, hk, rfl⟩
  · refine er_Gi_t hI0 hτ 1 0 (by decide) ?_ ?_
    · simp only [ef_L_member, ef_E_member, er_rt_n hx, er_tb_r, er_tc_r, reduceIte]
    · simp only [ef_M_member, er_mt_n hx, er_bd_s, hM1, reduceIte]
  rcases er_split y (n := 40) (by decide) with hy | ⟨p, hp, rfl⟩
  · refine er_Gi_t hI0 hτ 1 0 (by decide) ?_ ?_
    · simp only [ef_L_member, ef_E_member, er_rt_y hk, er_rp_n hy, er_tb_l, er_tb_r, er_tc_r, reduceIte]
    · simp only [ef_M_member, er_mt_y hk, er_mp_n hy, er_bd_s, er_q1, hM1, reduceIte]
  have hM2 : ∀ σ1, ef_M_member (nI k) (nI p) z σ1 = ef_M_member_19 (nI k) (nI p) z 0 σ1 := by
    intro σ1
    simp only [ef_M_member, er_mt_y hk, er_mp_y hp, er_bd_s, er_q1]
  -- the reference where its state is refused
  have hM3 : ∀ w : Int32, ef_M_member_97 (nI k) (nI p) z 0 1 w σ = some (0, er_up σ 21 0 2) := by
    intro w
    simp only [ef_M_member_97, er_th2, er_bw_s, er_q1]
  have hM4 : ef_M_member_61 (nI k) (nI p) z 0 σ = some (0, er_up σ 21 0 2) := by
    simp only [ef_M_member_61, ef_M_member_66, ef_M_member_96, er_q0, er_msize, er_bd_s, hM3, ite_self]
  by_cases hs : (z = 0 ∧ σ 13 p = nI k) ∨ (z = 1 ∧ σ 13 p = -1)
  rotate_left
  · refine er_Gi_t hI0 hτ 2 0 (by decide) ?_ ?_
    · rcases hz with rfl | rfl
      · have h1 : ¬ σ 13 p = nI k := fun q => hs (Or.inl ⟨rfl, q⟩)
        simp only [ef_L_member, ef_E_member, ef_E_member_26, ef_E_member_34, er_rt_y hk, er_rp_y hp, er_gdi hp (show 40 < 2 ^ 31 by decide), er_ixn (show p < 2 ^ 31 by omega), er_q0, if_neg h1, er_rs_n, er_tb_l, er_tb_r, er_tc_r, reduceIte, Nat.reduceEqDiff]
      · have h1 : ¬ σ 13 p = -1 := fun q => hs (Or.inr ⟨rfl, q⟩)
        simp only [ef_L_member, ef_E_member, ef_E_member_26, ef_E_member_34, er_rt_y hk, er_rp_y hp, er_gdi hp (show 40 < 2 ^ 31 by decide), er_ixn (show p < 2 ^ 31 by omega), er_q1, if_neg h1, er_rs_n, er_tb_l, er_tb_r, er_tc_r, reduceIte, Nat.reduceEqDiff]
    · rw [hM2]
      by_cases hi : 0 ≤ σ 31 p
      · simp only [ef_M_member_19, er_gdi hp (show 40 < 2 ^ 31 by decide), er_ixn (show p < 2 ^ 31 by omega), if_pos hi, hM4, reduceIte]
      · rcases hz with rfl | rfl
        · have h1 : ¬ σ 29 p = nI k := by rw [e11]; exact fun q => hs (Or.inl ⟨rfl, q⟩)
          simp only [ef_M_member_19, er_gdi hp (show 40 < 2 ^ 31 by decide), er_ixn (show p < 2 ^ 31 by omega), if_neg hi, if_neg h1, hM4, reduceIte]
        · have h1 : ¬ σ 29 p < 0 := by rw [e11, er_tml hTm hp]; exact fun q => hs (Or.inr ⟨rfl, q⟩)
          simp only [ef_M_member_19, er_gdi hp (show 40 < 2 ^ 31 by decide), er_ixn (show p < 2 ^ 31 by omega), if_neg hi, er_q1, if_neg h1, hM4, reduceIte]
  by_cases hi : σ 5 p = -1
  rotate_left
  · refine er_Gi_t hI0 hτ 2 0 (by decide) ?_ ?_
    · rcases hs with ⟨rfl, h1⟩ | ⟨rfl, h1⟩
      · simp only [ef_L_member, ef_E_member, ef_E_member_26, ef_E_member_34, er_rt_y hk, er_rp_y hp, er_gdi hp (show 40 < 2 ^ 31 by decide), er_ixn (show p < 2 ^ 31 by omega), er_q0, if_pos h1, er_rs_y, er_out_n hp hi, er_tb_l, er_tb_r, er_tc_r, reduceIte, Nat.reduceEqDiff]
      · simp only [ef_L_member, ef_E_member, ef_E_member_26, ef_E_member_34, er_rt_y hk, er_rp_y hp, er_gdi hp (show 40 < 2 ^ 31 by decide), er_ixn (show p < 2 ^ 31 by omega), er_q1, if_pos h1, er_rs_y, er_out_n hp hi, er_tb_l, er_tb_r, er_tc_r, reduceIte, Nat.reduceEqDiff]
    · have hi' : 0 ≤ σ 31 p := by rw [e3]; exact (er_pbn hPb h8 hp).mpr hi
      rw [hM2]
      simp only [ef_M_member_19, er_gdi hp (show 40 < 2 ^ 31 by decide), er_ixn (show p < 2 ^ 31 by omega), if_pos hi', hM4, reduceIte]
  have hi' : ¬ 0 ≤ σ 31 p := by rw [e3]; exact fun q => (er_pbn hPb h8 hp).mp q hi
  rcases hs with ⟨rfl, h1⟩ | ⟨rfl, h1⟩
  · -- off
    refine ⟨0, er_up (er_up σ 13 p (-1)) 39 0 (nI (er_cnt (fun q => decide (upd (σ 13) p (-1) q = nI k)) 0 40)), nI (er_cnt (fun q => decide (upd (σ 13) p (-1) q = nI k)) 0 40), er_up (er_up (er_up (er_up σ 13 p (-1)) 39 0 (nI (er_cnt (fun q => decide (upd (σ 13) p (-1) q = nI k)) 0 40))) 21 0 0) 29 p (-1), ?_, ?_, ?_, ?_, m, n, τ, by omega, ?_⟩
    · simp only [ef_L_member, ef_E_member, ef_E_member_26, ef_E_member_34, ef_E_member_69, ef_E_member_86, er_rt_y hk, er_rp_y hp, er_gdi hp (show 40 < 2 ^ 31 by decide), er_ixn (show p < 2 ^ 31 by omega), er_q0, if_pos h1, er_rs_y, er_out_y hp hi, er_size, er_bd_s, er_tb_l, er_tc_l, er_gz, er_iz, er_upr, reduceIte]
    · generalize hS : er_up (er_up σ 13 p (-1)) 39 0 (nI (er_cnt (fun q => decide (upd (σ 13) p (-1) q = nI k)) 0 40)) = σ1
      have r31 : σ1 31 = σ 31 := by rw [← hS]; simp only [er_upr, Nat.reduceEqDiff, reduceIte]
      have r29 : σ1 29 = σ 29 := by rw [← hS]; simp only [er_upr, Nat.reduceEqDiff, reduceIte]
      have h1' : σ1 29 p = nI k := by rw [r29, e11]; exact h1
      rw [← r31] at hi'
      rw [hM2]
      simp only [ef_M_member_19, ef_M_member_65, ef_M_member_66, ef_M_member_96, ef_M_member_97, ef_M_member_119, er_gdi hp (show 40 < 2 ^ 31 by decide), er_ixn (show p < 2 ^ 31 by omega), if_neg hi', if_pos h1', er_th0, er_bw_s, er_msize, er_bd_s, er_upr, Nat.reduceEqDiff, reduceIte, r29, e11]
      exact if_pos h1
    · simp [er_up]
    · intro _
      simp [er_up]
    · simp only [er_I, er_Nu, er_Eq, er_upr, Nat.reduceEqDiff, reduceIte]
      exact ⟨⟨h8, hn9, a1, by simpa [upd] using a2, a3, by simpa [upd] using a4, a5, by simpa [upd] using a6, by simpa [upd] using a7⟩, ⟨e1, e2, e3, e4, e5, e6, e7, e8, e9, e10, by rw [e11], e12, e13, e14, e15, e16⟩, hPb, hPp, hPt, hSf, er_Tm_off hTm, hKp⟩
  · have hc6 := hTm.2 k hk
    have h1' : σ 29 p < 0 := by rw [e11, er_tml hTm hp]; exact h1
    by_cases hc : er_cnt (fun p => decide (σ 13 p = nI k)) 0 40 = 6
    · have k1 : ¬ nI (er_cnt (fun p => decide (σ 13 p = nI k)) 0 40) < 6 := by rw [hc]; decide
      have k2 : nI (er_cnt (fun p => decide (σ 29 p = nI k)) 0 40) = 6 := by rw [e11, hc]; decide
      refine er_Gi_t hI0 hτ 3 0 (by decide) ?_ ?_
      · simp only [ef_L_member, ef_E_member, ef_E_member_26, ef_E_member_34, er_rt_y hk, er_rp_y hp, er_gdi hp (show 40 < 2 ^ 31 by decide), er_ixn (show p < 2 ^ 31 by omega), er_q1, if_pos h1, er_rs_y, er_out_y hp hi, er_size, er_bd_s, if_neg k1, er_tb_l, er_tc_r, reduceIte, Nat.reduceEqDiff]
      · rw [hM2]
        simp only [ef_M_member_19, ef_M_member_65, ef_M_member_66, ef_M_member_97, er_gdi hp (show 40 < 2 ^ 31 by decide), er_ixn (show p < 2 ^ 31 by omega), if_neg hi', er_q1, if_pos h1', er_msize, er_bd_s, if_pos k2, er_th3, er_bw_s, reduceIte]
    · have k1 : nI (er_cnt (fun p => decide (σ 13 p = nI k)) 0 40) < 6 := by
        rw [show (6 : Int32) = nI 6 by decide, nI_ltI (by omega) (by omega)]
        omega
      refine ⟨0, er_up (er_up σ 13 p (nI k)) 39 0 (nI (er_cnt (fun q => decide (upd (σ 13) p (nI k) q = nI k)) 0 40)), nI (er_cnt (fun q => decide (upd (σ 13) p (nI k) q = nI k)) 0 40), er_up (er_up (er_up (er_up σ 13 p (nI k)) 39 0 (nI (er_cnt (fun q => decide (upd (σ 13) p (nI k) q = nI k)) 0 40))) 21 0 0) 29 p (nI k), ?_, ?_, ?_, ?_, m, n, τ, by omega, ?_⟩
      · simp only [ef_L_member, ef_E_member, ef_E_member_26, ef_E_member_34, ef_E_member_69, ef_E_member_86, er_rt_y hk, er_rp_y hp, er_gdi hp (show 40 < 2 ^ 31 by decide), er_ixn (show p < 2 ^ 31 by omega), er_q1, if_pos h1, er_rs_y, er_out_y hp hi, er_size, er_bd_s, if_pos k1, er_tb_l, er_tc_l, er_gz, er_iz, er_upr, reduceIte]
      · generalize hS : er_up (er_up σ 13 p (nI k)) 39 0 (nI (er_cnt (fun q => decide (upd (σ 13) p (nI k) q = nI k)) 0 40)) = σ1
        have r31 : σ1 31 = σ 31 := by rw [← hS]; simp only [er_upr, Nat.reduceEqDiff, reduceIte]
        have r29 : σ1 29 = σ 29 := by rw [← hS]; simp only [er_upr, Nat.reduceEqDiff, reduceIte]
        have k2 : ¬ nI (er_cnt (fun p => decide (σ1 29 p = nI k)) 0 40) = 6 := by
          rw [r29, e11, show (6 : Int32) = nI 6 by decide, nI_eq (by omega) (by omega)]
          exact hc
        rw [← r29] at h1'
        rw [← r31] at hi'
        rw [hM2]
        simp only [ef_M_member_19, ef_M_member_65, ef_M_member_66, ef_M_member_96, ef_M_member_97, er_gdi hp (show 40 < 2 ^ 31 by decide), er_ixn (show p < 2 ^ 31 by omega), if_neg hi', er_q1, if_pos h1', er_msize, er_bd_s, if_neg k2, er_th0, er_bw_s, reduceIte]
        simp only [ef_M_member_119, er_gdi hp (show 40 < 2 ^ 31 by decide), er_ixn (show p < 2 ^ 31 by omega), er_msize, er_bd_s, er_upr, Nat.reduceEqDiff, reduceIte, r29, e11]
      · simp [er_up]
      · intro _
        simp [er_up]
      · simp only [er_I, er_Nu, er_Eq, er_upr, Nat.reduceEqDiff, reduceIte]
        exact ⟨⟨h8, hn9, a1, by simpa [upd] using a2, a3, by simpa [upd] using a4, a5, by simpa [upd] using a6, by simpa [upd] using a7⟩, ⟨e1, e2, e3, e4, e5, e6, e7, e8, e9, e10, by rw [e11], e12, e13, e14, e15, e16⟩, hPb, hPp, hPt, hSf, er_Tm_on hTm hp hk h1 (by omega), hKp⟩
end ERO4
