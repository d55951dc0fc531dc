/-! pure: keep, swap, out -/
section ERO3
variable {σ : er_S} {m n τ t : Nat}
theorem er_mkeep_bad {x y : Int32} (hm : σ 21 5 = nI m) (h8 : m ≤ 8) (h : er_bad x m ∨ er_bad y 40) : ef_M_keep x y σ = some ((), er_up σ 21 0 1) := by
  have hk : ef_M_keep_15 x y σ = some ((), er_up σ 21 0 1) := by
    simp only [ef_M_keep_15, ef_M_keep_20, ef_M_keep_57, ef_M_keep_58, er_q1, er_th1, er_bw_s]
  unfold ef_M_keep
  rcases er_split x (n := m) (by omega) with hx | ⟨b, hb, rfl⟩
  · rw [er_mb_n hm h8 hx, er_bd_s, er_q0, hk]
  · rw [er_mb_y hm h8 hb, er_bd_s, er_q1]
    rcases h with h | h
    · exfalso
      rcases h with h | h
      · exact nI_pos (by omega) h
      · exact er_ge hb (by omega) h
    · rw [er_mp_n h, er_bd_s, er_q0, hk]
theorem er_mkeep_ok {b p : Nat} (hm : σ 21 5 = nI m) (h8 : m ≤ 8) (hb : b < m) (hp : p < 40) : ef_M_keep (nI b) (nI p) σ = ef_M_keep_20 (nI b) (nI p) 0 σ := by
  unfold ef_M_keep
  rw [er_mb_y hm h8 hb, er_bd_s, er_q1, er_mp_y hp, er_bd_s, er_q1]
theorem eo_keep (hI : er_I m n τ σ) (hτ : τ ≤ 40 * t) (x y : Int32) : er_Gv t (ef_L_keep x y σ) (ef_M_keep x y) := by
  have hI0 := hI
  obtain ⟨⟨h8, hn9, a1, a2, a3, a4, a5, a6, a7⟩, ⟨e1, e2, e3, e4, e5, e6, e7, e8, e9, e10, e11, e12, e13, e14, e15, e16⟩, hPb, hPp, hPt, hSf, hTm, hKp⟩ := hI
  rcases er_split x (n := m) (by omega) with hx | ⟨b, hb, rfl⟩
  · refine er_Gv_t hI0 hτ 1 ?_ (er_mkeep_bad a2 h8 (Or.inl hx))
    simp only [ef_L_keep, ef_E_keep, er_rb_n a1 hx, er_tb_r, er_tc_r, reduceIte]
  rcases er_split y (n := 40) (by decide) with hy | ⟨p, hp, rfl⟩
  · refine er_Gv_t hI0 hτ 1 ?_ (er_mkeep_bad a2 h8 (Or.inr hy))
    simp only [ef_L_keep, ef_E_keep, er_rb_y a1 h8 hb, er_rp_n hy, er_tb_l, er_tb_r, er_tc_r, reduceIte]
  have hb8 : b < 8 := by omega
  by_cases ho : σ 16 b = 0
  · refine er_Gv_t hI0 hτ 2 ?_ ?_
    · simp only [ef_L_keep, ef_E_keep, er_rb_y a1 h8 hb, er_rp_y hp, er_ro_n hb8 ho, er_tb_l, er_tb_r, er_tc_r, reduceIte, Nat.reduceEqDiff]
    · have ho' : σ 23 b = 0 := by rw [e13]; exact ho
      rw [er_mkeep_ok a2 h8 hb hp]
      simp only [ef_M_keep_20, ef_M_keep_53, ef_M_keep_58, er_q0, er_gdi hb8 (show 8 < 2 ^ 31 by decide), er_ixn (show b < 2 ^ 31 by omega), ho', er_th2, er_bw_s, er_q1, reduceIte]
  have ho' : ¬ σ 23 b = 0 := by rw [e13]; exact ho
  by_cases hi : σ 5 p = -1
  rotate_left
  · refine er_Gv_t hI0 hτ 2 ?_ ?_
    · simp only [ef_L_keep, ef_E_keep, er_rb_y a1 h8 hb, er_rp_y hp, er_ro_y hb8 ho, er_out_n hp hi, er_tb_l, er_tb_r, er_tc_r, reduceIte, Nat.reduceEqDiff]
    · have hi' : 0 ≤ σ 31 p := by rw [e3]; exact (er_pbn hPb h8 hp).mpr hi
      rw [er_mkeep_ok a2 h8 hb hp]
      simp only [ef_M_keep_20, ef_M_keep_53, ef_M_keep_58, er_q0, er_gdi hb8 (show 8 < 2 ^ 31 by decide), er_gdi hp (show 40 < 2 ^ 31 by decide), er_ixn (show b < 2 ^ 31 by omega), er_ixn (show p < 2 ^ 31 by omega), if_neg ho', if_pos hi', er_th2, er_bw_s, er_q1, reduceIte]
  have hi' : ¬ 0 ≤ σ 31 p := by rw [e3]; exact fun q => (er_pbn hPb h8 hp).mp q hi
  by_cases hk : σ 14 p = -1
  rotate_left
  · refine er_Gv_t hI0 hτ 2 ?_ ?_
    · simp only [ef_L_keep, ef_E_keep, ef_E_keep_37, er_rb_y a1 h8 hb, er_rp_y hp, er_ro_y hb8 ho, er_out_y hp hi, er_gdi hp (show 40 < 2 ^ 31 by decide), er_ixn (show p < 2 ^ 31 by omega), if_neg hk, er_rs_n, er_tb_l, er_tb_r, er_tc_r, reduceIte, Nat.reduceEqDiff]
    · have hk' : ¬ σ 14 p < 0 := fun q => hk ((er_f14 hKp h8 hp).mp q)
      rw [er_mkeep_ok a2 h8 hb hp]
      simp only [ef_M_keep_20, ef_M_keep_53, ef_M_keep_58, er_q0, er_gdi hb8 (show 8 < 2 ^ 31 by decide), er_gdi hp (show 40 < 2 ^ 31 by decide), er_ixn (show b < 2 ^ 31 by omega), er_ixn (show p < 2 ^ 31 by omega), if_neg ho', if_neg hi', er_keeps a2 h8 hKp hp, er_bd_s, if_neg hk', er_th2, er_bw_s, er_q1, reduceIte]
  have hk' : σ 14 p < 0 := (er_f14 hKp h8 hp).mpr hk
  have hM : ∀ σ1 : er_S, σ1 21 5 = nI m → σ1 23 = σ 23 → σ1 31 = σ 31 → σ1 27 = σ 27 → ef_M_keep (nI b) (nI p) σ1 = some ((), er_up (er_up σ1 21 0 0) 27 b (nI p)) := by
    intro σ1 b1 b2 b3 b4
    rw [er_mkeep_ok b1 h8 hb hp]
    rw [← b2] at ho'
    rw [← b3] at hi'
    rw [← b4] at hKp
    simp only [ef_M_keep_20, ef_M_keep_57, ef_M_keep_58, er_q0, er_gdi hb8 (show 8 < 2 ^ 31 by decide), er_gdi hp (show 40 < 2 ^ 31 by decide), er_ixn (show b < 2 ^ 31 by omega), er_ixn (show p < 2 ^ 31 by omega), if_neg ho', if_neg hi', er_keeps b1 h8 hKp hp, er_bd_s, if_pos hk', er_th0, er_bw_s, reduceIte]
  rcases hKp.2.1 b hb8 with hA | ⟨-, q, hq, hB⟩
  · refine ⟨0, er_up (er_up (er_up σ 20 b (-1)) 20 b (nI p)) 14 p (nI b), (), er_up (er_up (er_up (er_up (er_up σ 20 b (-1)) 20 b (nI p)) 14 p (nI b)) 21 0 0) 27 b (nI p), ?_, ?_, ?_, m, n, τ, by omega, ?_⟩
    · simp only [ef_L_keep, ef_E_keep, ef_E_keep_37, er_rb_y a1 h8 hb, er_rp_y hp, er_ro_y hb8 ho, er_out_y hp hi, er_gdi hp (show 40 < 2 ^ 31 by decide), er_gdi hb8 (show 8 < 2 ^ 31 by decide), er_ixn (show p < 2 ^ 31 by omega), er_ixn (show b < 2 ^ 31 by omega), if_pos hk, er_rs_y, er_dk_n hb8 hA, er_bw_s, er_tb_l, er_tc_l]
    · refine hM _ ?_ ?_ ?_ ?_ <;> simp only [er_upr, Nat.reduceEqDiff, reduceIte]
      exact a2
    · simp [er_up]
    · simp only [er_I, er_Nu, er_Eq, er_upr, Nat.reduceEqDiff, reduceIte]
      refine ⟨⟨h8, hn9, a1, by simpa [upd] using a2, a3, by simpa [upd] using a4, a5, by simpa [upd] using a6, by simpa [upd] using a7⟩, ⟨e1, e2, e3, e4, e5, e6, e7, e8, e9, e10, e11, e12, e13, e14, e15, e16⟩, hPb, hPp, hPt, hSf, hTm, ?_⟩
      have h1 := er_Kp_put (er_Kp_dropA hKp hb hA) h8 hb hp (er_us _ _ _) hk
      rw [er_uu (σ 27)] at h1
      exact h1
  · refine ⟨0, er_up (er_up (er_up (er_up σ 14 q (-1)) 20 b (-1)) 20 b (nI p)) 14 p (nI b), (), er_up (er_up (er_up (er_up (er_up (er_up σ 14 q (-1)) 20 b (-1)) 20 b (nI p)) 14 p (nI b)) 21 0 0) 27 b (nI p), ?_, ?_, ?_, m, n, τ, by omega, ?_⟩
    · simp only [ef_L_keep, ef_E_keep, ef_E_keep_37, er_rb_y a1 h8 hb, er_rp_y hp, er_ro_y hb8 ho, er_out_y hp hi, er_gdi hp (show 40 < 2 ^ 31 by decide), er_gdi hb8 (show 8 < 2 ^ 31 by decide), er_ixn (show p < 2 ^ 31 by omega), er_ixn (show b < 2 ^ 31 by omega), if_pos hk, er_rs_y, er_dk_y hb8 hq hB, er_bw_s, er_tb_l, er_tc_l]
    · refine hM _ ?_ ?_ ?_ ?_ <;> simp only [er_upr, Nat.reduceEqDiff, reduceIte]
      exact a2
    · simp [er_up]
    · simp only [er_I, er_Nu, er_Eq, er_upr, Nat.reduceEqDiff, reduceIte]
      refine ⟨⟨h8, hn9, a1, by simpa [upd] using a2, a3, by simpa [upd] using a4, a5, by simpa [upd] using a6, by simpa [upd] using a7⟩, ⟨e1, e2, e3, e4, e5, e6, e7, e8, e9, e10, e11, e12, e13, e14, e15, e16⟩, hPb, hPp, hPt, hSf, hTm, ?_⟩
      have hk2 : upd (σ 14) q (-1) p = -1 := by
        by_cases k : p = q
        · subst k; exact er_us _ _ _
        · rw [er_uo _ _ k]; exact hk
      have h1 := er_Kp_put (er_Kp_dropB hKp h8 hb hq hB) h8 hb hp (er_us _ _ _) hk2
      rw [er_uu (σ 27)] at h1
      exact h1
/-! swap -/
theorem er_Pt_swap {f5 f6 : Nat → Int32} {p q : Nat} (h : er_Pt τ f5 f6) (hp : p < 40) (hq : q < 40) (ip : f5 p ≠ -1) (iq : f5 q ≠ -1) : er_Pt τ f5 (upd (upd f6 p (f6 q)) q (f6 p)) := by
  have hv : ∀ j, ∃ i, upd (upd f6 p (f6 q)) q (f6 p) j = f6 i ∧ (j = q → i = p) ∧ (j ≠ q → j = p → i = q) ∧ (j ≠ q → j ≠ p → i = j) := by
    intro j
    by_cases h1 : j = q
    · subst h1
      exact ⟨p, er_us _ _ _, fun _ => rfl, fun k => absurd rfl k, fun k => absurd rfl k⟩
    · by_cases h2 : j = p
      · subst h2
        exact ⟨q, by rw [er_uo _ _ h1, er_us], fun k => absurd k h1, fun _ _ => rfl, fun _ k => absurd rfl k⟩
      · exact ⟨j, by rw [er_uo _ _ h1, er_uo _ _ h2], fun k => absurd k h1, fun _ k => absurd k h2, fun _ _ => rfl⟩
  have hi : ∀ j i, j < 40 → f5 j ≠ -1 → (j = q → i = p) → (j ≠ q → j = p → i = q) → (j ≠ q → j ≠ p → i = j) → i < 40 ∧ f5 i ≠ -1 := by
    intro j i hj hin c1 c2 c3
    by_cases h1 : j = q
    · rw [c1 h1]; exact ⟨hp, ip⟩
    · by_cases h2 : j = p
      · rw [c2 h1 h2]; exact ⟨hq, iq⟩
      · rw [c3 h1 h2]; exact ⟨hj, hin⟩
  refine ⟨fun j hj hin => ?_, fun j hj k hk hne hij hik => ?_⟩
  · obtain ⟨i, e, c1, c2, c3⟩ := hv j
    obtain ⟨d1, d2⟩ := hi j i hj hin c1 c2 c3
    rw [e]
    exact h.1 i d1 d2
  · obtain ⟨i, e, c1, c2, c3⟩ := hv j
    obtain ⟨i', e', c1', c2', c3'⟩ := hv k
    obtain ⟨d1, d2⟩ := hi j i hj hij c1 c2 c3
    obtain ⟨d1', d2'⟩ := hi k i' hk hik c1' c2' c3'
    rw [e, e']
    refine h.2 i d1 i' d1' ?_ d2 d2'
    omega
theorem eo_swap (hI : er_I m n τ σ) (hτ : τ ≤ 40 * t) (x y : Int32) : er_Gv t (ef_L_swap x y σ) (ef_M_swap x y) := by
  have hI0 := hI
  obtain ⟨⟨h8, hn9, a1, a2, a3, a4, a5, a6, a7⟩, ⟨e1, e2, e3, e4, e5, e6, e7, e8, e9, e10, e11, e12, e13, e14, e15, e16⟩, hPb, hPp, hPt, hSf, hTm, hKp⟩ := hI
  have hM1 : ef_M_swap_14 x y σ = some ((), er_up σ 21 0 1) := by
    simp only [ef_M_swap_14, ef_M_swap_19, ef_M_swap_53, ef_M_swap_54, er_q1, er_th1, er_bw_s]
  rcases er_split x (n := 40) (by decide) with hx | ⟨p, hp, rfl⟩
  · refine er_Gv_t hI0 hτ 1 ?_ ?_
    · simp only [ef_L_swap, ef_E_swap, er_rp_n hx, er_tb_r, er_tc_r, reduceIte]
    · simp only [ef_M_swap, er_mp_n hx, er_bd_s, hM1, reduceIte]
  rcases er_split y (n := 40) (by decide) with hy | ⟨q, hq, rfl⟩
  · refine er_Gv_t hI0 hτ 1 ?_ ?_
    · simp only [ef_L_swap, ef_E_swap, er_rp_y hp, er_rp_n hy, er_tb_l, er_tb_r, er_tc_r, reduceIte]
    · simp only [ef_M_swap, er_mp_y hp, er_mp_n hy, er_bd_s, er_q1, hM1, reduceIte]
  have hM2 : ∀ σ1, ef_M_swap (nI p) (nI q) σ1 = ef_M_swap_19 (nI p) (nI q) 0 σ1 := by
    intro σ1
    simp only [ef_M_swap, er_mp_y hp, er_mp_y hq, er_bd_s, er_q1]
  by_cases ip : σ 5 p = -1
  · refine er_Gv_t hI0 hτ 2 ?_ ?_
    · simp only [ef_L_swap, ef_E_swap, ef_E_swap_34, ef_E_swap_35, er_rp_y hp, er_rp_y hq, er_in_n hp ip, er_bd_s, er_rs_n, er_tb_l, er_tb_r, er_tc_r, reduceIte, Nat.reduceEqDiff]
    · have h1 : σ 31 p < 0 := by rw [e3]; exact (er_pbl hPb h8 hp).mpr ip
      rw [hM2]
      simp only [ef_M_swap_19, ef_M_swap_49, ef_M_swap_54, er_gdi hp (show 40 < 2 ^ 31 by decide), er_ixn (show p < 2 ^ 31 by omega), if_pos h1, er_th2, er_bw_s, er_q1, reduceIte]
  have hp1 : ¬ σ 31 p < 0 := by rw [e3]; exact fun k => ip ((er_pbl hPb h8 hp).mp k)
  by_cases iq : σ 5 q = -1
  · refine er_Gv_t hI0 hτ 2 ?_ ?_
    · simp only [ef_L_swap, ef_E_swap, ef_E_swap_34, ef_E_swap_35, er_rp_y hp, er_rp_y hq, er_in_y hp ip, er_in_n hq iq, er_bd_s, er_q1, er_rs_n, er_tb_l, er_tb_r, er_tc_r, reduceIte, Nat.reduceEqDiff]
    · have h1 : σ 31 q < 0 := by rw [e3]; exact (er_pbl hPb h8 hq).mpr iq
      rw [hM2]
      simp only [ef_M_swap_19, ef_M_swap_49, ef_M_swap_54, er_gdi hp (show 40 < 2 ^ 31 by decide), er_gdi hq (show 40 < 2 ^ 31 by decide), er_ixn (show p < 2 ^ 31 by omega), er_ixn (show q < 2 ^ 31 by omega), if_neg hp1, if_pos h1, er_th2, er_bw_s, er_q1, reduceIte]
  have hq1 : ¬ σ 31 q < 0 := by rw [e3]; exact fun k => iq ((er_pbl hPb h8 hq).mp k)
  by_cases hne : nI p = nI q
  · refine er_Gv_t hI0 hτ 2 ?_ ?_
    · simp only [ef_L_swap, ef_E_swap, ef_E_swap_48, ef_E_swap_35, er_rp_y hp, er_rp_y hq, er_in_y hp ip, er_in_y hq iq, er_bd_s, er_q1, er_rs_n, er_rs_y, if_pos hne, er_tb_l, er_tb_r, er_tc_r, reduceIte, Nat.reduceEqDiff]
    · rw [hM2]
      simp only [ef_M_swap_19, ef_M_swap_49, ef_M_swap_54, er_gdi hp (show 40 < 2 ^ 31 by decide), er_gdi hq (show 40 < 2 ^ 31 by decide), er_ixn (show p < 2 ^ 31 by omega), er_ixn (show q < 2 ^ 31 by omega), if_neg hp1, if_neg hq1, if_pos hne, er_th2, er_bw_s, er_q1, reduceIte]
  · refine ⟨0, er_up (er_up σ 6 p (σ 6 q)) 6 q (σ 6 p), (), er_up (er_up (er_up (er_up (er_up σ 6 p (σ 6 q)) 6 q (σ 6 p)) 21 0 0) 32 p (σ 32 q)) 32 q (σ 32 p), ?_, ?_, ?_, m, n, τ, by omega, ?_⟩
    · simp only [ef_L_swap, ef_E_swap, ef_E_swap_48, ef_E_swap_35, er_rp_y hp, er_rp_y hq, er_in_y hp ip, er_in_y hq iq, er_bd_s, er_q1, er_rs_y, if_neg hne, er_gdi hp (show 40 < 2 ^ 31 by decide), er_gdi hq (show 40 < 2 ^ 31 by decide), er_ixn (show p < 2 ^ 31 by omega), er_ixn (show q < 2 ^ 31 by omega), er_tb_l, er_tc_l]
    · rw [hM2]
      have k1 : (er_up (er_up σ 6 p (σ 6 q)) 6 q (σ 6 p)) 31 = σ 31 := by simp only [er_upr, Nat.reduceEqDiff, reduceIte]
      have k2 : (er_up (er_up (er_up σ 6 p (σ 6 q)) 6 q (σ 6 p)) 21 0 0) 32 = σ 32 := by simp only [er_upr, Nat.reduceEqDiff, reduceIte]
      simp only [ef_M_swap_19, ef_M_swap_53, ef_M_swap_54, er_gdi hp (show 40 < 2 ^ 31 by decide), er_gdi hq (show 40 < 2 ^ 31 by decide), er_ixn (show p < 2 ^ 31 by omega), er_ixn (show q < 2 ^ 31 by omega), k1, if_neg hp1, if_neg hq1, if_neg hne, er_th0, er_bw_s, k2, reduceIte]
    · simp [er_up]
    · simp only [er_I, er_Nu, er_Eq, er_upr, Nat.reduceEqDiff, reduceIte]
      exact ⟨⟨h8, hn9, a1, by simpa [upd] using a2, a3, by simpa [upd] using a4, a5, by simpa [upd] using a6, by simpa [upd] using a7⟩, ⟨e1, e2, e3, by rw [e4], e5, e6, e7, e8, e9, e10, e11, e12, e13, e14, e15, e16⟩, hPb, hPp, er_Pt_swap hPt hp hq ip iq, hSf, hTm, hKp⟩
end ERO3
