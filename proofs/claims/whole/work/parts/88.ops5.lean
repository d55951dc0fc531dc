/-! pure: safety, tick, late, person, count -/
section ERO5
variable {σ : er_S} {m n τ t : Nat}
theorem er_sfl {f : Nat → Int32} {p : Nat} (h : er_Sf m f) (h8 : m ≤ 8) (hp : p < 16) : f p < 0 ↔ f p = -1 := by
  rcases h p hp with h1 | ⟨b, h1, h2⟩
  · rw [h1]; decide
  · rw [h2]
    exact ⟨fun q => absurd q (nI_pos (by omega)), fun q => absurd q (er_m1n (by omega))⟩
theorem er_Sf_up {f : Nat → Int32} {k : Nat} {v : Int32} (h : er_Sf m f) (hv : v = -1 ∨ ∃ b, b < m ∧ v = nI b) : er_Sf m (upd f k v) := by
  intro j hj
  by_cases e : j = k
  · subst e; rw [er_us]; exact hv
  · rw [er_uo _ _ e]; exact h j hj
/-- the common end of safety: the board b gets or loses the team k -/
theorem er_safend {b k : Nat} {v z : Int32} (hI : er_I m n τ σ) (hτ : τ ≤ 40 * t) (hb : b < m) (hk : k < 16) (hv : v = -1 ∨ ∃ b, b < m ∧ v = nI b)
    (hL : ef_L_safety (nI b) (nI k) z σ = er_tc (ef_E_safety_54 (nI b) (nI k) v σ) (fun v1 g3 => er_gd (er_inb 0 1) (some (0, er_up g3 39 (er_ix 0) v1))) (fun e g3 => if e = 0 then some (1, g3) else if e = 2 then some (2, g3) else none))
    (hM : ∀ σ1 : er_S, σ1 21 = σ 21 → σ1 23 = σ 23 → σ1 28 = σ 28 → ef_M_safety (nI b) (nI k) z σ1 = ef_M_safety_97 (nI b) (nI k) v (er_up σ1 21 0 0)) : er_Gi t (ef_L_safety (nI b) (nI k) z σ) (ef_M_safety (nI b) (nI k) z) := by
  obtain ⟨⟨h8, hn9, a1, a2, a3, a4, a5, a6, a7⟩, ⟨e1, e2, e3, e4, e5, e6, e7, e8, e9, e10, e11, e12, e13, e14, e15, e16⟩, hPb, hPp, hPt, hSf, hTm, hKp⟩ := hI
  have hb8 : b < 8 := by omega
  generalize hV : er_saf (upd (σ 3) k v) (σ 13) (σ 5) (σ 10) (σ 14) (σ 0 4) (σ 17 b) (nI b) (-1) = V
  refine ⟨0, er_up (er_up σ 3 k v) 39 0 V, V, er_up (er_up (er_up (er_up σ 3 k v) 39 0 V) 21 0 0) 28 k v, ?_, ?_, ?_, ?_, m, n, τ, by omega, ?_⟩
  · rw [hL]
    simp only [ef_E_safety_54, er_gdi hk (show 16 < 2 ^ 31 by decide), er_ixn (show k < 2 ^ 31 by omega), er_rst hb8, er_bd_s, er_tc_l, er_gz, er_iz, er_upr, Nat.reduceEqDiff, reduceIte, hV]
  · rw [hM _ (by simp only [er_upr, Nat.reduceEqDiff, reduceIte]) (by simp only [er_upr, Nat.reduceEqDiff, reduceIte]) (by simp only [er_upr, Nat.reduceEqDiff, reduceIte])]
    generalize hS : er_up (er_up (er_up (er_up σ 3 k v) 39 0 V) 21 0 0) 28 k v = g
    have r28 : g 28 = upd (σ 28) k v := by rw [← hS]; simp only [er_upr, Nat.reduceEqDiff, reduceIte]
    have r29 : g 29 = σ 29 := by rw [← hS]; simp only [er_upr, Nat.reduceEqDiff, reduceIte]
    have r31 : g 31 = σ 31 := by rw [← hS]; simp only [er_upr, Nat.reduceEqDiff, reduceIte]
    have r36 : g 36 = σ 36 := by rw [← hS]; simp only [er_upr, Nat.reduceEqDiff, reduceIte]
    have r24 : g 24 = σ 24 := by rw [← hS]; simp only [er_upr, Nat.reduceEqDiff, reduceIte]
    have r27 : g 27 = σ 27 := by rw [← hS]; simp only [er_upr, Nat.reduceEqDiff, reduceIte]
    have r1 : g 21 1 = σ 21 1 := by rw [← hS]; simp [er_up]
    have r5 : g 21 5 = nI m := by rw [← hS]; simpa [er_up] using a2
    have hs := er_msafe (σ := g) (f20 := σ 20) (f14 := σ 14) r5 h8 (by rw [r27]; exact hKp) (by rw [r31, e3]; exact hPb) hb8 (-1)
    rw [r28, r29, r31, r36, r24, r1, e1, e3, e8, e11, e14, a4, ← a3, hV] at hs
    simp only [ef_M_safety_97, er_gdi hk (show 16 < 2 ^ 31 by decide), er_ixn (show k < 2 ^ 31 by omega), hS, hs, er_bd_s]
  · simp [er_up]
  · intro _
    simp [er_up]
  · simp only [er_I, er_Nu, er_Eq, er_upr, Nat.reduceEqDiff, reduceIte]
    exact ⟨⟨h8, hn9, a1, by simpa [upd] using a2, a3, by simpa [upd] using a4, a5, by simpa [upd] using a6, by simpa [upd] using a7⟩, ⟨by rw [e1], e2, e3, e4, e5, e6, e7, e8, e9, e10, e11, e12, e13, e14, e15, e16⟩, hPb, hPp, hPt, er_Sf_up hSf hv, hTm, hKp⟩
theorem eo_safety (hI : er_I m n τ σ) (hτ : τ ≤ 40 * t) (x y z : Int32) (hz : z = 0 ∨ z = 1) : er_Gi t (ef_L_safety x y z σ) (ef_M_safety x y z) := by
  have hI0 := hI
  obtain ⟨⟨h8, hn9, a1, a2, a3, a4, a5, a6, a7⟩, ⟨e1, e2, e3, e4, e5, e6, e7, e8, e9, e10, e11, e12, e13, e14, e15, e16⟩, hPb, hPp, hPt, hSf, hTm, hKp⟩ := hI
  have hM1 : ef_M_safety_15 x y z σ = some (0, er_up σ 21 0 1) := by
    simp only [ef_M_safety_15, ef_M_safety_20, ef_M_safety_66, ef_M_safety_67, er_q1, er_th1, er_bw_s]
  rcases er_split x (n := m) (by omega) with hx | ⟨b, hb, rfl⟩
  · refine er_Gi_t hI0 hτ 1 0 (by decide) ?_ ?_
    · simp only [ef_L_safety, ef_E_safety, er_rb_n a1 hx, er_tb_r, er_tc_r, reduceIte]
    · simp only [ef_M_safety, er_mb_n a2 h8 hx, er_bd_s, hM1, reduceIte]
  rcases er_split y (n := 16) (by decide) with hy | ⟨k, hk, rfl⟩
  · refine er_Gi_t hI0 hτ 1 0 (by decide) ?_ ?_
    · simp only [ef_L_safety, ef_E_safety, er_rb_y a1 h8 hb, er_rt_n hy, er_tb_l, er_tb_r, er_tc_r, reduceIte]
    · simp only [ef_M_safety, er_mb_y a2 h8 hb, er_mt_n hy, er_bd_s, er_q1, hM1, reduceIte]
  have hb8 : b < 8 := by omega
  have hM2 : ∀ σ1 : er_S, σ1 21 5 = nI m → ef_M_safety (nI b) (nI k) z σ1 = ef_M_safety_20 (nI b) (nI k) z 0 σ1 := by
    intro σ1 h
    simp only [ef_M_safety, er_mb_y h h8 hb, er_mt_y hk, er_bd_s, er_q1]
  have hM4 : ef_M_safety_62 (nI b) (nI k) z 0 σ = some (0, er_up σ 21 0 2) := by
    simp only [ef_M_safety_62, ef_M_safety_67, er_th2, er_bw_s, er_q1]
  by_cases ho : σ 16 b = 0
  · refine er_Gi_t hI0 hτ 2 0 (by decide) ?_ ?_
    · simp only [ef_L_safety, ef_E_safety, er_rb_y a1 h8 hb, er_rt_y hk, er_ro_n hb8 ho, er_tb_l, er_tb_r, er_tc_r, reduceIte, Nat.reduceEqDiff]
    · have ho' : σ 23 b = 0 := by rw [e13]; exact ho
      rw [hM2 σ a2]
      simp only [ef_M_safety_20, er_gdi hb8 (show 8 < 2 ^ 31 by decide), er_ixn (show b < 2 ^ 31 by omega), if_pos ho', hM4, reduceIte]
  have ho' : ¬ σ 23 b = 0 := by rw [e13]; exact ho
  rcases hz with rfl | rfl
  · by_cases h1 : σ 3 k = nI b
    · refine er_safend hI0 hτ hb hk (v := -1) (Or.inl rfl) ?_ ?_
      · simp only [ef_L_safety, ef_E_safety, ef_E_safety_29, ef_E_safety_37, er_rb_y a1 h8 hb, er_rt_y hk, er_ro_y hb8 ho, er_gdi hk (show 16 < 2 ^ 31 by decide), er_ixn (show k < 2 ^ 31 by omega), if_pos h1, er_rs_y, er_tb_l, reduceIte]
      · intro σ1 b1 b2 b3
        have h1' : σ1 28 k = nI b := by rw [b3, e1]; exact h1
        rw [← b2] at ho'
        rw [hM2 σ1 (by rw [b1]; exact a2)]
        simp only [ef_M_safety_20, ef_M_safety_66, ef_M_safety_67, er_gdi hb8 (show 8 < 2 ^ 31 by decide), er_gdi hk (show 16 < 2 ^ 31 by decide), er_ixn (show b < 2 ^ 31 by omega), er_ixn (show k < 2 ^ 31 by omega), if_neg ho', if_pos h1', er_th0, er_bw_s, reduceIte]
    · refine er_Gi_t hI0 hτ 2 0 (by decide) ?_ ?_
      · simp only [ef_L_safety, ef_E_safety, ef_E_safety_29, ef_E_safety_37, er_rb_y a1 h8 hb, er_rt_y hk, er_ro_y hb8 ho, er_gdi hk (show 16 < 2 ^ 31 by decide), er_ixn (show k < 2 ^ 31 by omega), if_neg h1, er_rs_n, er_tb_l, er_tb_r, er_tc_r, reduceIte, Nat.reduceEqDiff]
      · have h1' : ¬ σ 28 k = nI b := by rw [e1]; exact h1
        rw [hM2 σ a2]
        simp only [ef_M_safety_20, er_gdi hb8 (show 8 < 2 ^ 31 by decide), er_gdi hk (show 16 < 2 ^ 31 by decide), er_ixn (show b < 2 ^ 31 by omega), er_ixn (show k < 2 ^ 31 by omega), if_neg ho', if_neg h1', hM4, reduceIte]
  · by_cases h1 : σ 3 k = -1
    · refine er_safend hI0 hτ hb hk (v := nI b) (Or.inr ⟨b, hb, rfl⟩) ?_ ?_
      · simp only [ef_L_safety, ef_E_safety, ef_E_safety_29, ef_E_safety_37, er_rb_y a1 h8 hb, er_rt_y hk, er_ro_y hb8 ho, er_gdi hk (show 16 < 2 ^ 31 by decide), er_ixn (show k < 2 ^ 31 by omega), er_q1, if_pos h1, er_rs_y, er_tb_l]
      · intro σ1 b1 b2 b3
        have h1' : σ1 28 k < 0 := by rw [b3, e1, er_sfl hSf h8 hk]; exact h1
        rw [← b2] at ho'
        rw [hM2 σ1 (by rw [b1]; exact a2)]
        simp only [ef_M_safety_20, ef_M_safety_66, ef_M_safety_67, er_gdi hb8 (show 8 < 2 ^ 31 by decide), er_gdi hk (show 16 < 2 ^ 31 by decide), er_ixn (show b < 2 ^ 31 by omega), er_ixn (show k < 2 ^ 31 by omega), if_neg ho', er_q1, if_pos h1', er_th0, er_bw_s, reduceIte]
    · refine er_Gi_t hI0 hτ 2 0 (by decide) ?_ ?_
      · simp only [ef_L_safety, ef_E_safety, ef_E_safety_29, ef_E_safety_37, er_rb_y a1 h8 hb, er_rt_y hk, er_ro_y hb8 ho, er_gdi hk (show 16 < 2 ^ 31 by decide), er_ixn (show k < 2 ^ 31 by omega), er_q1, if_neg h1, er_rs_n, er_tb_l, er_tb_r, er_tc_r, reduceIte, Nat.reduceEqDiff]
      · have h1' : ¬ σ 28 k < 0 := by rw [e1, er_sfl hSf h8 hk]; exact h1
        rw [hM2 σ a2]
        simp only [ef_M_safety_20, er_gdi hb8 (show 8 < 2 ^ 31 by decide), er_gdi hk (show 16 < 2 ^ 31 by decide), er_ixn (show b < 2 ^ 31 by omega), er_ixn (show k < 2 ^ 31 by omega), if_neg ho', er_q1, if_neg h1', hM4, reduceIte]
/-! tick -/
theorem er_tickC {x : Int32} (hm : σ 2 5 = nI m) (h8 : m ≤ 8) (hP : er_Pb m (σ 5)) : ef_E_tick_40 64 x 0 0 σ = some (.inl (nI (er_cnt (fun p => er_late (σ 5) (σ 9) (σ 18) (σ 0 4) p && !er_late (σ 5) (σ 9) (σ 18) x p) 0 40)), σ) :=
  er_cl0 (fun n a i => ef_E_tick_40 n x a i σ) (fun a => some (.inl a, σ)) (fun p => er_late (σ 5) (σ 9) (σ 18) (σ 0 4) p && !er_late (σ 5) (σ 9) (σ 18) x p) 40
    (by intro n a; simp only [ef_E_tick_40]; rw [if_pos (by decide)])
    (by
      intro n a i hi
      simp only [ef_E_tick_40]
      rw [er_40, if_neg (er_ge hi (by decide)), er_p1, er_isLate hm h8 hP hi, er_isLate hm h8 hP hi, er_bd_s, er_bd_s]
      cases er_late (σ 5) (σ 9) (σ 18) (σ 0 4) i
      · simp [er_bf]
      · rw [er_bt, er_q1]
        cases er_late (σ 5) (σ 9) (σ 18) x i
        · simp [er_bf]
        · rw [er_bt, er_q1]; simp) (by decide)
theorem er_tickM {x : Int32} (h8 : m ≤ 8) (hP : er_Pb m (σ 31)) : ef_M_tick_42 64 x 0 0 σ = some (nI (er_cnt (fun p => er_late (σ 31) (σ 35) (σ 25) (σ 21 1 + x) p && !er_late (σ 31) (σ 35) (σ 25) (σ 21 1) p) 0 40), er_up σ 21 1 (σ 21 1 + x)) :=
  er_cl0 (fun n a i => ef_M_tick_42 n x a i σ) (fun a => some (a, er_up σ 21 1 (σ 21 1 + x))) (fun p => er_late (σ 31) (σ 35) (σ 25) (σ 21 1 + x) p && !er_late (σ 31) (σ 35) (σ 25) (σ 21 1) p) 40
    (by intro n a; simp only [ef_M_tick_42]; rw [if_pos (by decide)])
    (by
      intro n a i hi
      simp only [ef_M_tick_42]
      rw [er_40, if_neg (er_ge hi (by decide)), er_p1, er_a0, er_misLate h8 hP hi, er_misLate h8 hP hi, er_bd_s, er_bd_s]
      cases er_late (σ 31) (σ 35) (σ 25) (σ 21 1) i
      · rw [er_bf, er_q0]
        cases er_late (σ 31) (σ 35) (σ 25) (σ 21 1 + x) i
        · simp [er_bf]
        · rw [er_bt, er_q1]; simp
      · rw [er_bt, er_q1]; simp) (by decide)
theorem eo_tick (hI : er_I m n τ σ) (hτ : τ ≤ 40 * t) (x : Int32) : er_Gi t (ef_L_tick x σ) (ef_M_tick x) := by
  have hI0 := hI
  obtain ⟨⟨h8, hn9, a1, a2, a3, a4, a5, a6, a7⟩, ⟨e1, e2, e3, e4, e5, e6, e7, e8, e9, e10, e11, e12, e13, e14, e15, e16⟩, hPb, hPp, hPt, hSf, hTm, hKp⟩ := hI
  have hM1 : ef_M_tick_23 x σ = some (0, er_up σ 21 0 1) := by
    simp only [ef_M_tick_23, ef_M_tick_28, er_q1, er_th1, er_bw_s]
  by_cases hx : x < 1 ∨ 5000 < x
  · refine er_Gi_t hI0 hτ 1 0 (by decide) ?_ ?_
    · simp only [ef_L_tick, ef_E_tick, er_rr_n hx, er_tb_r, er_tc_r, reduceIte]
    · simp only [ef_M_tick, er_mi_n hx, er_bd_s, hM1, reduceIte]
  have x1 : ¬ x < 1 := fun q => hx (Or.inl q)
  have x2 : ¬ 5000 < x := fun q => hx (Or.inr q)
  obtain ⟨s, hs, rfl⟩ : ∃ s, s ≤ 5000 ∧ x = nI s := nI_of2 (M := 5000) (n := 5000) (by decide) (by
    intro h
    apply x1
    rw [er_ltI] at h ⊢
    have : (0 : Int32).toInt = 0 := by decide
    have : (1 : Int32).toInt = 1 := by decide
    omega) (Int32.not_lt.mp x2)
  have hsum : σ 0 4 + nI s = nI (n + s) := by rw [a3, nI_add]
  have hsum' : σ 21 1 + nI s = nI (n + s) := by rw [a4, nI_add]
  have hp : ¬ nI (n + s) < 0 := nI_pos (by omega)
  have h9 : (999999 : Int32) = nI 999999 := by decide
  by_cases hl : n + s ≤ 999999
  rotate_left
  · have k1 : nI (n + s) < 0 ∨ 999999 < nI (n + s) := by
      right
      rw [h9, nI_ltI (by omega) (by omega)]
      omega
    have k2 : ¬ nI (n + s) ≤ 999999 := by
      rw [h9, nI_leI (by omega) (by omega)]
      exact hl
    refine er_Gi_t hI0 hτ 1 0 (by decide) ?_ ?_
    · simp only [ef_L_tick, ef_E_tick, er_rr_y x1 x2, hsum, er_rr_n k1, er_tb_l, er_tb_r, er_tc_r, reduceIte]
    · simp only [ef_M_tick, er_mi_y x1 x2, er_bd_s, er_q1, hsum', if_neg k2, hM1]
  · have k1 : ¬ 999999 < nI (n + s) := by
      rw [h9, nI_ltI (by omega) (by omega)]
      omega
    have k2 : nI (n + s) ≤ 999999 := by
      rw [h9, nI_leI (by omega) (by omega)]
      exact hl
    generalize hV : nI (er_cnt (fun p => er_late (σ 5) (σ 9) (σ 18) (nI (n + s)) p && !er_late (σ 5) (σ 9) (σ 18) (nI n) p) 0 40) = V
    refine ⟨0, er_up (er_up σ 0 4 (nI (n + s))) 39 0 V, V, er_up (er_up (er_up (er_up σ 0 4 (nI (n + s))) 39 0 V) 21 0 0) 21 1 (nI (n + s)), ?_, ?_, ?_, ?_, m, n + s, τ, by omega, ?_⟩
    · have hc := er_tickC (σ := er_up σ 0 4 (nI (n + s))) (x := nI n) (m := m) (by simpa [er_up] using a1) h8 (by simp only [er_upr, Nat.reduceEqDiff, reduceIte]; exact hPb)
      simp only [er_upr, Nat.reduceEqDiff, reduceIte, er_us, hV] at hc
      simp only [ef_L_tick, ef_E_tick, er_rr_y x1 x2, a3, nI_add, er_rr_y hp k1, er_tb_l, hc, er_tc_l, er_gz, er_iz]
    · generalize hS : er_up (er_up σ 0 4 (nI (n + s))) 39 0 V = σ1
      have r21 : σ1 21 = σ 21 := by rw [← hS]; simp only [er_upr, Nat.reduceEqDiff, reduceIte]
      have r31 : σ1 31 = σ 5 := by rw [← hS]; simp only [er_upr, Nat.reduceEqDiff, reduceIte]; exact e3
      have r35 : σ1 35 = σ 9 := by rw [← hS]; simp only [er_upr, Nat.reduceEqDiff, reduceIte]; exact e7
      have r25 : σ1 25 = σ 18 := by rw [← hS]; simp only [er_upr, Nat.reduceEqDiff, reduceIte]; exact e15
      have q1 : er_up σ1 21 0 0 21 1 = nI n := by simp only [er_upr, reduceIte, r21]; rw [er_uo _ _ (by decide)]; exact a4
      have hc := er_tickM (σ := er_up σ1 21 0 0) (x := nI s) (m := m) h8 (by simp only [er_upr, Nat.reduceEqDiff, reduceIte, r31]; exact hPb)
      rw [q1, nI_add] at hc
      simp only [er_upr, Nat.reduceEqDiff, reduceIte, r31, r35, r25, hV] at hc
      have hk : σ1 21 1 + nI s = nI (n + s) := by rw [r21]; exact hsum'
      simp only [ef_M_tick, ef_M_tick_28, er_mi_y x1 x2, er_bd_s, er_q1, hk, if_pos k2, er_th0, er_bw_s, hc, reduceIte]
    · simp [er_up]
    · intro _
      simp [er_up]
    · simp only [er_I, er_Nu, er_Eq, er_upr, Nat.reduceEqDiff, reduceIte]
      exact ⟨⟨h8, hl, a1, by simpa [upd] using a2, er_us _ _ _, er_us _ _ _, by simpa [upd] using a5, by simpa [upd] using a6, by simpa [upd] using a7⟩, ⟨e1, e2, e3, e4, e5, e6, e7, e8, e9, e10, e11, e12, e13, e14, e15, e16⟩, hPb, hPp, hPt, hSf, hTm, hKp⟩
/-! late -/
def er_nth (P : Nat → Bool) : Nat → Nat → Nat → Int32
  | _, _, 0 => -1
  | d, i, k + 1 => if P i = true then (if d = 0 then nI i else er_nth P (d - 1) (i + 1) k) else er_nth P d (i + 1) k
theorem er_lateC (hm : σ 2 5 = nI m) (h8 : m ≤ 8) (hP : er_Pb m (σ 5)) {j : Nat} (hj : j < 2 ^ 31) : ∀ (k i c n : Nat), i + k = 40 → k < n → c ≤ j → ef_E_late_8 n (nI j) (nI c) (nI i) σ = some (.inl (er_nth (er_late (σ 5) (σ 9) (σ 18) (σ 0 4)) (j - c) i k), σ) := by
  intro k
  induction k with
  | zero =>
    intro i c n h1 h2 h3
    obtain ⟨n, rfl⟩ : ∃ z, n = z + 1 := ⟨n - 1, by omega⟩
    have : i = 40 := by omega
    subst this
    simp only [ef_E_late_8]
    rw [if_pos (by decide)]
    rfl
  | succ k ih =>
    intro i c n h1 h2 h3
    obtain ⟨n, rfl⟩ : ∃ z, n = z + 1 := ⟨n - 1, by omega⟩
    simp only [ef_E_late_8]
    rw [er_40, if_neg (er_ge (by omega) (by decide)), er_p1, er_isLate hm h8 hP (by omega), er_bd_s]
    simp only [er_nth]
    cases er_late (σ 5) (σ 9) (σ 18) (σ 0 4) i
    · rw [er_bf, er_q0, ih (i + 1) c n (by omega) (by omega) h3]
      rfl
    · rw [er_bt, er_q1, if_pos rfl]
      by_cases e : c = j
      · rw [if_pos (by rw [e]), if_pos (by omega)]
      · rw [if_neg (by rw [nI_eq (by omega) hj]; exact e), er_p1, ih (i + 1) (c + 1) n (by omega) (by omega) (by omega), if_neg (show ¬ (j - c = 0) by omega)]
        rfl
theorem er_lateM (h8 : m ≤ 8) (hP : er_Pb m (σ 31)) : ∀ (k i d n : Nat), i + k = 40 → k < n → d < 2 ^ 31 → ef_M_late_24 n (nI d) (nI i) σ = some (er_nth (er_late (σ 31) (σ 35) (σ 25) (σ 21 1)) d i k, σ) := by
  intro k
  induction k with
  | zero =>
    intro i d n h1 h2 h3
    obtain ⟨n, rfl⟩ : ∃ z, n = z + 1 := ⟨n - 1, by omega⟩
    have : i = 40 := by omega
    subst this
    simp only [ef_M_late_24]
    rw [if_pos (by decide)]
    rfl
  | succ k ih =>
    intro i d n h1 h2 h3
    obtain ⟨n, rfl⟩ : ∃ z, n = z + 1 := ⟨n - 1, by omega⟩
    simp only [ef_M_late_24]
    rw [er_40, if_neg (er_ge (by omega) (by decide)), er_p1, er_misLate h8 hP (by omega), er_bd_s]
    simp only [er_nth]
    cases er_late (σ 31) (σ 35) (σ 25) (σ 21 1) i
    · rw [er_bf, er_q0, ih (i + 1) d n (by omega) (by omega) h3]
      rfl
    · rw [er_bt, er_q1, if_pos rfl]
      cases d with
      | zero => rw [nI_0, er_q0, if_pos rfl]
      | succ d =>
        rw [if_neg (nI_ne0 (by omega) h3), if_neg (show ¬ (d + 1 = 0) by omega), pk_m1 d, ih (i + 1) d n (by omega) (by omega) (by omega)]
        rfl
theorem eo_late (hI : er_I m n τ σ) (hτ : τ ≤ 40 * t) (x : Int32) : er_Gi t (ef_L_late x σ) (ef_M_late x) := by
  have hI0 := hI
  obtain ⟨⟨h8, hn9, a1, a2, a3, a4, a5, a6, a7⟩, ⟨e1, e2, e3, e4, e5, e6, e7, e8, e9, e10, e11, e12, e13, e14, e15, e16⟩, hPb, hPp, hPt, hSf, hTm, hKp⟩ := hI
  by_cases hx : x < 0
  · have hx' : ¬ 0 ≤ x := Int32.not_le.mpr hx
    refine er_Gi_t hI0 hτ 1 0 (by decide) ?_ ?_
    · simp only [ef_L_late, ef_E_late, ef_E_requireNotNegative, er_rr_n (hi := 2147483647) (Or.inl hx), er_tb_r, er_tc_r, reduceIte]
    · simp only [ef_M_late, ef_M_late_10, if_neg hx', er_th1, er_bw_s, er_q1]
  · obtain ⟨j, hj, rfl⟩ := nI_of hx
    have hx' : 0 ≤ nI j := er_n0 hj
    have hmx : ¬ 2147483647 < nI j := by
      rw [er_ltI, nI_toInt hj, show (2147483647 : Int32).toInt = 2147483647 by decide]
      omega
    have hc := er_lateC a1 h8 hPb hj 40 0 0 64 (by decide) (by decide) (Nat.zero_le j)
    rw [nI_0, Nat.sub_zero] at hc
    generalize hV : er_nth (er_late (σ 5) (σ 9) (σ 18) (σ 0 4)) j 0 40 = V at hc
    refine er_Gi_r hI0 hτ V ?_ ?_
    · simp only [ef_L_late, ef_E_late, ef_E_requireNotNegative, er_rr_y hx hmx, er_tb_l, hc, er_tc_l, er_gz, er_iz]
    · have hI2 := er_I21 (er_I39 hI0 V) 0
      have hM := er_lateM (σ := er_up (er_up σ 39 0 V) 21 0 0) (m := m) h8 (by simp only [er_upr, Nat.reduceEqDiff, reduceIte]; rw [e3]; exact hPb) 40 0 j 64 (by decide) (by decide) hj
      have q1 : er_up (er_up σ 39 0 V) 21 0 0 21 1 = σ 0 4 := by rw [a3, ← a4]; simp [er_up]
      rw [nI_0, q1] at hM
      simp only [er_upr, Nat.reduceEqDiff, reduceIte, e3, e7, e15, hV] at hM
      simp only [ef_M_late, ef_M_late_10, if_pos hx', er_th0, er_bw_s, hM, reduceIte]
end ERO5
