/-! pure: board, keep, swap, out -/
theorem er_us (f : Nat → Int32) (k : Nat) (v : Int32) : upd f k v k = v := if_pos rfl
theorem er_uo (f : Nat → Int32) {k j : Nat} (v : Int32) (h : j ≠ k) : upd f k v j = f j := if_neg h
theorem er_uu (f : Nat → Int32) (k : Nat) (v w : Int32) : upd (upd f k v) k w = upd f k w := by
  funext j
  by_cases h : j = k
  · subst h; rw [er_us, er_us]
  · rw [er_uo _ _ h, er_uo _ _ h, er_uo _ _ h]
theorem er_nIe {a b : Nat} (ha : a < 40) (hb : b < 40) (h : a ≠ b) : nI a ≠ nI b := by
  rw [Ne, nI_eq (by omega) (by omega)]
  exact h
section ERK2
variable {m b p q : Nat} {f20 f27 f14 : Nat → Int32}
theorem er_Kp_new (h : er_Kp m f20 f27 f14) (hm : m < 8) : er_Kp (m + 1) f20 (upd f27 m (-1)) f14 := by
  have h9 : f20 m = -1 := by
    rcases h.2.1 m hm with h | ⟨h, -⟩
    · exact h
    · omega
  refine ⟨fun b hb => ?_, fun b hb => ?_, fun p hp => ?_⟩
  · by_cases e : b = m
    · subst e; rw [er_us, h9]
    · rw [er_uo _ _ e]; exact h.1 b (by omega)
  · rcases h.2.1 b hb with h1 | ⟨h1, h2⟩
    · exact Or.inl h1
    · exact Or.inr ⟨by omega, h2⟩
  · rcases h.2.2 p hp with ⟨h1, h2⟩ | ⟨b, h1, h2, h3, h4⟩
    · refine Or.inl ⟨h1, fun b hb => ?_⟩
      by_cases e : b = m
      · subst e; rw [h9]; exact fun q => er_m1n (by omega) q.symm
      · exact h2 b (by omega)
    · refine Or.inr ⟨b, by omega, h2, h3, fun b' hb' e' => ?_⟩
      by_cases e : b' = m
      · subst e; rw [h9] at e'; exact absurd e'.symm (er_m1n (by omega))
      · exact h4 b' (by omega) e'
theorem er_Kp_dropA (h : er_Kp m f20 f27 f14) (hb : b < m) (e : f20 b = -1) : er_Kp m (upd f20 b (-1)) (upd f27 b (-1)) f14 := by
  have e1 : upd f20 b (-1) = f20 := by
    funext j
    by_cases q : j = b
    · subst q; rw [er_us, e]
    · rw [er_uo _ _ q]
  have e2 : upd f27 b (-1) = f27 := by
    funext j
    by_cases q : j = b
    · subst q; rw [er_us, ← h.1 j hb, e]
    · rw [er_uo _ _ q]
  rw [e1, e2]
  exact h
theorem er_Kp_dropB (h : er_Kp m f20 f27 f14) (h8 : m ≤ 8) (hb : b < m) (hq : q < 40) (e : f20 b = nI q) : er_Kp m (upd f20 b (-1)) (upd f27 b (-1)) (upd f14 q (-1)) := by
  refine ⟨fun b' hb' => ?_, fun b' hb' => ?_, fun p' hp' => ?_⟩
  · by_cases k : b' = b
    · subst k; rw [er_us, er_us]
    · rw [er_uo _ _ k, er_uo _ _ k]; exact h.1 b' hb'
  · by_cases k : b' = b
    · subst k; rw [er_us]; exact Or.inl rfl
    · rw [er_uo _ _ k]; exact h.2.1 b' hb'
  · by_cases k : p' = q
    · subst k
      refine Or.inl ⟨er_us _ _ _, fun b' hb' => ?_⟩
      by_cases k : b' = b
      · subst k; rw [er_us]; exact fun q => er_m1n (by omega) q.symm
      · rw [er_uo _ _ k]
        rcases h.2.2 p' hq with ⟨-, h2⟩ | ⟨b0, h1, h2, h3, h4⟩
        · exact absurd e (h2 b hb)
        · intro e'
          exact k ((h4 b' hb' e').trans (h4 b hb e).symm)
    · rw [er_uo _ _ k]
      rcases h.2.2 p' hp' with ⟨h1, h2⟩ | ⟨b0, h1, h2, h3, h4⟩
      · refine Or.inl ⟨h1, fun b' hb' => ?_⟩
        by_cases k2 : b' = b
        · subst k2; rw [er_us]; exact fun q => er_m1n (by omega) q.symm
        · rw [er_uo _ _ k2]; exact h2 b' hb'
      · have k2 : b0 ≠ b := by
          intro e0
          subst e0
          rw [e] at h3
          exact er_nIe hq hp' (fun q => k q.symm) h3
        refine Or.inr ⟨b0, h1, h2, by rw [er_uo _ _ k2]; exact h3, fun b' hb' e' => ?_⟩
        by_cases k3 : b' = b
        · subst k3; rw [er_us] at e'; exact absurd e'.symm (er_m1n (by omega))
        · rw [er_uo _ _ k3] at e'; exact h4 b' hb' e'
theorem er_Kp_put (h : er_Kp m f20 f27 f14) (h8 : m ≤ 8) (hb : b < m) (hp : p < 40) (e : f20 b = -1) (e2 : f14 p = -1) : er_Kp m (upd f20 b (nI p)) (upd f27 b (nI p)) (upd f14 p (nI b)) := by
  have hno : ∀ b', b' < m → f20 b' ≠ nI p := by
    rcases h.2.2 p hp with ⟨-, h2⟩ | ⟨b0, h1, h2, h3, h4⟩
    · exact h2
    · rw [e2] at h2; exact absurd h2.symm (er_m1n (by omega))
  refine ⟨fun b' hb' => ?_, fun b' hb' => ?_, fun p' hp' => ?_⟩
  · by_cases k : b' = b
    · subst k; rw [er_us, er_us]
    · rw [er_uo _ _ k, er_uo _ _ k]; exact h.1 b' hb'
  · by_cases k : b' = b
    · subst k; rw [er_us]; exact Or.inr ⟨hb, p, hp, rfl⟩
    · rw [er_uo _ _ k]; exact h.2.1 b' hb'
  · by_cases k : p' = p
    · subst k
      refine Or.inr ⟨b, hb, er_us _ _ _, er_us _ _ _, fun b' hb' e' => ?_⟩
      by_cases k : b' = b
      · exact k
      · rw [er_uo _ _ k] at e'; exact absurd e' (hno b' hb')
    · rw [er_uo _ _ k]
      rcases h.2.2 p' hp' with ⟨h1, h2⟩ | ⟨b0, h1, h2, h3, h4⟩
      · refine Or.inl ⟨h1, fun b' hb' => ?_⟩
        by_cases k2 : b' = b
        · subst k2; rw [er_us]; exact er_nIe hp hp' (fun q => k q.symm)
        · rw [er_uo _ _ k2]; exact h2 b' hb'
      · have k2 : b0 ≠ b := by
          intro e0
          subst e0
          rw [e] at h3
          exact absurd h3.symm (er_m1n (by omega))
        refine Or.inr ⟨b0, h1, h2, by rw [er_uo _ _ k2]; exact h3, fun b' hb' e' => ?_⟩
        by_cases k3 : b' = b
        · subst k3
          rw [er_us] at e'
          exact absurd e' (er_nIe hp hp' (fun q => k q.symm))
        · rw [er_uo _ _ k3] at e'; exact h4 b' hb' e'
end ERK2
section ERO2
variable {σ : er_S} {m n τ t : Nat}
/-! board -/
theorem er_make {x1 x2 x3 : Int32} (hm : σ 2 5 = nI m) (h8 : m < 8) : ef_B_make x1 x2 x3 σ = some (nI m, er_up (er_up (er_up (er_up (er_up σ 16 m 1) 17 m x1) 18 m x2) 19 m x3) 2 5 (nI (m + 1))) := by
  unfold ef_B_make
  simp only [er_upr, Nat.reduceEqDiff, reduceIte, hm, er_gdi h8 (show 8 < 2 ^ 31 by decide), er_g1, er_ixn (show m < 2 ^ 31 by omega), er_p1]
theorem er_mmake {x1 x2 x3 : Int32} (hm : σ 21 5 = nI m) (h8 : m < 8) : ef_M_board_54 x1 x2 x3 0 0 σ = some (nI m, er_up (er_up (er_up (er_up (er_up (er_up (er_up σ 21 0 0) 23 m 1) 24 m x1) 25 m x2) 26 m x3) 27 m (-1)) 21 5 (nI (m + 1))) := by
  have hm2 : er_up σ 21 0 0 21 5 = nI m := by simp [er_up, hm]
  unfold ef_M_board_54
  rw [er_th0, er_bw_s, er_q0]
  generalize er_up σ 21 0 0 = g at hm2
  simp only [er_upr, Nat.reduceEqDiff, reduceIte, hm2, er_gdi h8 (show 8 < 2 ^ 31 by decide), er_g1, er_ixn (show m < 2 ^ 31 by omega), er_p1, er_us, nI_pred]
theorem eo_board (hI : er_I m n τ σ) (hτ : τ ≤ 40 * t) (x y z : Int32) : er_Gi t (ef_L_board x y z σ) (ef_M_board x y z) := by
  have hI0 := hI
  obtain ⟨⟨h8, hn9, a1, a2, a3, a4, a5, a6, a7⟩, ⟨e1, e2, e3, e4, e5, e6, e7, e8, e9, e10, e11, e12, e13, e14, e15, e16⟩, hPb, hPp, hPt, hSf, hTm, hKp⟩ := hI
  by_cases hx : x < 1 ∨ 6 < x
  · refine er_Gi_t hI0 hτ 1 0 (by decide) ?_ ?_
    · simp only [ef_L_board, ef_E_board, er_rr_n hx, er_tb_r, er_tc_r, reduceIte]
    · simp only [ef_M_board, ef_M_board_30, ef_M_board_35, ef_M_board_54, er_mi_n hx, er_bd_s, er_q0, er_q1, er_th1, er_bw_s, reduceIte, ite_self]
  have x1 : ¬ x < 1 := fun q => hx (Or.inl q)
  have x2 : ¬ 6 < x := fun q => hx (Or.inr q)
  by_cases hy : y < 1 ∨ 10000 < y
  · refine er_Gi_t hI0 hτ 1 0 (by decide) ?_ ?_
    · simp only [ef_L_board, ef_E_board, er_rr_y x1 x2, er_rr_n hy, er_tb_l, er_tb_r, er_tc_r, reduceIte]
    · simp only [ef_M_board, ef_M_board_30, ef_M_board_35, ef_M_board_54, er_mi_y x1 x2, er_mi_n hy, er_bd_s, er_q0, er_q1, er_th1, er_bw_s, reduceIte, ite_self]
  have y1 : ¬ y < 1 := fun q => hy (Or.inl q)
  have y2 : ¬ 10000 < y := fun q => hy (Or.inr q)
  by_cases hz : z < 0 ∨ 3 < z
  · refine er_Gi_t hI0 hτ 1 0 (by decide) ?_ ?_
    · simp only [ef_L_board, ef_E_board, er_rr_y x1 x2, er_rr_y y1 y2, er_rr_n hz, er_tb_l, er_tb_r, er_tc_r, reduceIte]
    · simp only [ef_M_board, ef_M_board_30, ef_M_board_35, ef_M_board_54, er_mi_y x1 x2, er_mi_y y1 y2, er_mi_n hz, er_bd_s, er_q0, er_q1, er_th1, er_bw_s, reduceIte, ite_self]
  have z1 : ¬ z < 0 := fun q => hz (Or.inl q)
  have z2 : ¬ 3 < z := fun q => hz (Or.inr q)
  by_cases hm : m = 8
  · subst hm
    have hr : ef_B_hasRoom σ = some 0 := by
      unfold ef_B_hasRoom
      rw [a1, if_pos (by decide)]
      rfl
    refine er_Gi_t hI0 hτ 2 0 (by decide) ?_ ?_
    · simp only [ef_L_board, ef_E_board, er_rr_y x1 x2, er_rr_y y1 y2, er_rr_y z1 z2, hr, er_bd_s, er_tb_l, er_tc_r, reduceIte, Nat.reduceEqDiff]
    · have h8' : σ 21 5 = 8 := by rw [a2]; decide
      simp only [ef_M_board, ef_M_board_35, ef_M_board_54, er_mi_y x1 x2, er_mi_y y1 y2, er_mi_y z1 z2, er_bd_s, er_q0, er_q1, h8', er_th2, er_bw_s, reduceIte]
  · have h8' : m < 8 := by omega
    have hr : ef_B_hasRoom σ = some 1 := by
      unfold ef_B_hasRoom
      rw [a1, er_8, if_neg (er_ge h8' (by decide))]
      rfl
    have hne : ¬ (nI m = 8) := by
      rw [er_8, nI_eq (by omega) (by omega)]
      exact hm
    refine ⟨0, er_up (er_up (er_up (er_up (er_up (er_up σ 16 m 1) 17 m x) 18 m y) 19 m z) 2 5 (nI (m + 1))) 39 0 (nI m), nI m, er_up (er_up (er_up (er_up (er_up (er_up (er_up (er_up (er_up (er_up (er_up (er_up (er_up σ 16 m 1) 17 m x) 18 m y) 19 m z) 2 5 (nI (m + 1))) 39 0 (nI m)) 21 0 0) 23 m 1) 24 m x) 25 m y) 26 m z) 27 m (-1)) 21 5 (nI (m + 1)), ?_, ?_, ?_, ?_, m + 1, n, τ, by omega, ?_⟩
    · simp only [ef_L_board, ef_E_board, er_rr_y x1 x2, er_rr_y y1 y2, er_rr_y z1 z2, hr, er_bd_s, er_q1, er_make a1 h8', er_bw_s, er_tb_l, er_tc_l, er_gz, er_iz]
    · have hm1 : (er_up (er_up (er_up (er_up (er_up (er_up σ 16 m 1) 17 m x) 18 m y) 19 m z) 2 5 (nI (m + 1))) 39 0 (nI m)) 21 5 = nI m := by
        simp only [er_upr, Nat.reduceEqDiff, reduceIte]
        exact a2
      simp only [ef_M_board, ef_M_board_35, er_mi_y x1 x2, er_mi_y y1 y2, er_mi_y z1 z2, er_bd_s, er_q0, er_q1, hm1, if_neg hne, er_mmake hm1 h8']
    · simp [er_up]
    · intro _
      simp [er_up]
    · simp only [er_I, er_Nu, er_Eq, er_upr, Nat.reduceEqDiff, reduceIte]
      refine ⟨⟨by omega, hn9, er_us _ _ _, er_us _ _ _, a3, ?_, a5, ?_, ?_⟩, ⟨e1, e2, e3, e4, e5, e6, e7, e8, e9, e10, e11, e12, by rw [e13], by rw [e14], by rw [e15], by rw [e16]⟩, ?_, hPp, hPt, ?_, hTm, er_Kp_new hKp h8'⟩
      · simpa [upd] using a4
      · simpa [upd] using a6
      · simpa [upd] using a7
      · intro p hp
        rcases hPb p hp with h | ⟨b, h1, h2⟩
        · exact Or.inl h
        · exact Or.inr ⟨b, by omega, h2⟩
      · intro p hp
        rcases hSf p hp with h | ⟨b, h1, h2⟩
        · exact Or.inl h
        · exact Or.inr ⟨b, by omega, h2⟩
end ERO2
