/-! pure: join, close -/
def er_mv (f : Nat → Int32) (x y : Int32) (i : Nat) : Nat → Int32 := fun b => if b < i ∧ f b = x then y else f b
def er_rw (σ : er_S) (r : Nat) (x y : Int32) (i : Nat) : er_S := fun k b => if k = r ∧ b < i ∧ σ r b = x then y else σ k b
theorem er_rwr (σ : er_S) (r : Nat) (x y : Int32) (i k : Nat) : er_rw σ r x y i k = if k = r then er_mv (σ r) x y i else σ k := by
  funext b
  by_cases h : k = r
  · subst h
    simp [er_rw, er_mv]
  · simp [er_rw, h]
theorem er_rw_0 (σ : er_S) (r : Nat) (x y : Int32) : er_rw σ r x y 0 = σ := by
  funext k b
  simp [er_rw]
theorem er_rw_at (σ : er_S) (r : Nat) (x y : Int32) (i : Nat) : er_rw σ r x y i r i = σ r i := by simp [er_rw]
theorem er_rw_y {σ : er_S} {r : Nat} {x y : Int32} {i : Nat} (h : σ r i = x) : er_up (er_rw σ r x y i) r i y = er_rw σ r x y (i + 1) := by
  funext k b
  by_cases hk : k = r
  · subst hk
    by_cases hb : b = i
    · subst hb
      simp [er_up, er_rw, h]
    · have : (b < i + 1) = (b < i) := by
        apply propext
        omega
      simp [er_up, er_rw, hb, this]
  · simp [er_up, er_rw, hk]
theorem er_rw_n {σ : er_S} {r : Nat} {x y : Int32} {i : Nat} (h : ¬ σ r i = x) : er_rw σ r x y i = er_rw σ r x y (i + 1) := by
  funext k b
  by_cases hb : b = i
  · subst hb
    simp [er_rw, h]
  · have : (b < i + 1) = (b < i) := by
      apply propext
      omega
    simp [er_rw, this]
section ERO7
variable {σ : er_S} {m n τ t b c : Nat} {x y : Int32}
theorem er_moveAll (x y : Int32) (σ : er_S) : ef_P_moveAll x y σ = some ((), er_rw σ 5 x y 40) := by
  have h := er_sl0 (fun n i s => ef_P_moveAll_2 n x y i s) (fun s => some ((), s)) (er_rw σ 5 x y) 40
    (by intro n; simp only [ef_P_moveAll_2]; rw [if_pos (by decide)])
    (by
      intro n i hi
      simp only [ef_P_moveAll_2]
      rw [er_40, if_neg (er_ge hi (by decide)), er_gdi hi (by decide), er_gdi hi (by decide), er_ixn (by omega), er_p1, er_rw_at]
      by_cases h : σ 5 i = x
      · rw [if_pos h, er_rw_y h]
      · rw [if_neg h, er_rw_n h]) (n := 64) (by decide)
  rw [er_rw_0] at h
  exact h
theorem er_shutl (x y : Int32) (σ : er_S) : ef_E_shut_17 64 x y 0 σ = some ((), er_rw σ 3 x y 16) := by
  have h := er_sl0 (fun n i s => ef_E_shut_17 n x y i s) (fun s => some ((), s)) (er_rw σ 3 x y) 16
    (by intro n; simp only [ef_E_shut_17]; rw [if_pos (by decide)])
    (by
      intro n i hi
      simp only [ef_E_shut_17]
      rw [er_16, if_neg (er_ge hi (by decide)), er_gdi hi (by decide), er_gdi hi (by decide), er_ixn (by omega), er_p1, er_rw_at]
      by_cases h : σ 3 i = x
      · rw [if_pos h, er_rw_y h]
      · rw [if_neg h, er_rw_n h]) (n := 64) (by decide)
  rw [er_rw_0] at h
  exact h
def er_d14 (f : Nat → Int32) (v : Int32) : Nat → Int32 := if v = -1 then f else upd f (er_ix v) (-1)
def er_dk (σ : er_S) (b : Nat) : er_S := if σ 20 b = -1 then er_up σ 20 b (-1) else er_up (er_up σ 14 (er_ix (σ 20 b)) (-1)) 20 b (-1)
theorem er_dkr (σ : er_S) (b k : Nat) : er_dk σ b k = if k = 20 then upd (σ 20) b (-1) else if k = 14 then er_d14 (σ 14) (σ 20 b) else σ k := by
  unfold er_dk er_d14
  by_cases h : σ 20 b = -1
  · rw [if_pos h, if_pos h, er_upr]
    split
    · rfl
    · split
      · next h2 => subst h2; rfl
      · rfl
  · rw [if_neg h, if_neg h, er_upr]
    split
    · rw [er_upr, if_neg (by decide)]
    · rw [er_upr]
theorem er_dkk (hb : b < 8) (h : σ 20 b = -1 ∨ ∃ p, p < 40 ∧ σ 20 b = nI p) : ef_E_dropKeeper (nI b) σ = some ((), er_dk σ b) := by
  unfold er_dk
  rcases h with h | ⟨p, hp, h⟩
  · rw [if_pos h, er_dk_n hb h]
  · rw [if_neg (by rw [h]; exact er_m1n (by omega)), er_dk_y hb hp h, h, er_ixn (by omega)]
theorem er_Kp_drop {f20 f27 f14 : Nat → Int32} (h : er_Kp m f20 f27 f14) (h8 : m ≤ 8) (hb : b < m) : er_Kp m (upd f20 b (-1)) (upd f27 b (-1)) (er_d14 f14 (f20 b)) := by
  unfold er_d14
  rcases h.2.1 b (by omega) with e | ⟨-, q, hq, e⟩
  · rw [if_pos e]
    exact er_Kp_dropA h hb e
  · rw [if_neg (by rw [e]; exact er_m1n (by omega)), e, er_ixn (by omega)]
    exact er_Kp_dropB h h8 hb hq e
theorem er_shut (hb : b < 8) (h : σ 20 b = -1 ∨ ∃ p, p < 40 ∧ σ 20 b = nI p) (y : Int32) : ef_E_shut (nI b) y σ = some ((), er_rw (er_up (er_dk σ b) 16 b 0) 3 (nI b) y 16) := by
  unfold ef_E_shut
  rw [er_dkk hb h, er_bw_s, er_gdi hb (by decide), er_g0, er_ixn (by omega), er_shutl]
theorem er_mj97 (hb : b < 8) (y : Int32) (σ : er_S) : ef_M_join_97 64 (nI b) y 0 σ = some (nI (er_cnt (fun p => decide (σ 31 p = y)) 0 40), er_up (er_up (er_rw σ 28 (nI b) y 16) 23 b 0) 27 b (-1)) := by
  have h := er_sl0 (fun n i s => ef_M_join_97 n (nI b) y i s) (fun s => some (nI (er_cnt (fun p => decide (s 31 p = y)) 0 40), er_up (er_up s 23 b 0) 27 b (-1))) (er_rw σ 28 (nI b) y) 16
    (by
      intro n
      simp only [ef_M_join_97]
      rw [if_pos (by decide), er_gdi hb (by decide), er_g0, er_gdi hb (by decide), er_ixn (by omega), er_mcon, er_bd_s]
      have : (er_up (er_up (er_rw σ 28 (nI b) y 16) 23 b 0) 27 b (-1)) 31 = (er_rw σ 28 (nI b) y 16) 31 := by simp only [er_upr, Nat.reduceEqDiff, reduceIte]
      rw [this])
    (by
      intro n i hi
      simp only [ef_M_join_97]
      rw [er_16, if_neg (er_ge hi (by decide)), er_gdi hi (by decide), er_gdi hi (by decide), er_ixn (show i < 2 ^ 31 by omega), er_p1, er_rw_at]
      by_cases h : σ 28 i = nI b
      · rw [if_pos h, er_rw_y h]
      · rw [if_neg h, er_rw_n h]) (n := 64) (by decide)
  rw [er_rw_0] at h
  have r : (er_rw σ 28 (nI b) y 16) 31 = σ 31 := by simp only [er_rwr, Nat.reduceEqDiff, reduceIte]
  simp only [r] at h
  exact h
theorem er_mj62 (hb : b < 8) (y : Int32) (σ : er_S) : ef_M_join_62 64 (nI b) y 0 σ = some (nI (er_cnt (fun p => decide (er_mv (σ 31) (nI b) y 40 p = y)) 0 40), er_up (er_up (er_rw (er_rw σ 31 (nI b) y 40) 28 (nI b) y 16) 23 b 0) 27 b (-1)) := by
  have h := er_sl0 (fun n i s => ef_M_join_62 n (nI b) y i s) (fun s => ef_M_join_97 64 (nI b) y 0 s) (er_rw σ 31 (nI b) y) 40
    (by intro n; simp only [ef_M_join_62]; rw [if_pos (by decide)])
    (by
      intro n i hi
      simp only [ef_M_join_62]
      rw [er_40, if_neg (er_ge hi (by decide)), er_gdi hi (by decide), er_gdi hi (by decide), er_ixn (show i < 2 ^ 31 by omega), er_p1, er_rw_at]
      by_cases h : σ 31 i = nI b
      · rw [if_pos h, er_rw_y h]
      · rw [if_neg h, er_rw_n h]) (n := 64) (by decide)
  rw [er_rw_0] at h
  have r : (er_rw σ 31 (nI b) y 40) 31 = er_mv (σ 31) (nI b) y 40 := by simp only [er_rwr, reduceIte]
  rw [er_mj97 hb, r] at h
  exact h
theorem er_mc53 (hb : b < 8) (σ : er_S) : ef_M_close_53 64 (nI b) 0 σ = some ((), er_up (er_up (er_rw σ 28 (nI b) (-1) 16) 23 b 0) 27 b (-1)) := by
  have h := er_sl0 (fun n i s => ef_M_close_53 n (nI b) i s) (fun s => some ((), er_up (er_up s 23 b 0) 27 b (-1))) (er_rw σ 28 (nI b) (-1)) 16
    (by
      intro n
      simp only [ef_M_close_53]
      rw [if_pos (by decide), er_gdi hb (by decide), er_g0, er_gdi hb (by decide), er_ixn (by omega)])
    (by
      intro n i hi
      simp only [ef_M_close_53]
      rw [er_16, if_neg (er_ge hi (by decide)), er_gdi hi (by decide), er_gdi hi (by decide), er_ixn (show i < 2 ^ 31 by omega), er_p1, er_rw_at]
      by_cases h : σ 28 i = nI b
      · rw [if_pos h, er_rw_y h]
      · rw [if_neg h, er_rw_n h]) (n := 64) (by decide)
  rw [er_rw_0] at h
  exact h
theorem er_mv_in {f : Nat → Int32} (hb : b < m) (h8 : m ≤ 8) {p i : Nat} (h : er_mv f (nI b) y i p ≠ -1) : f p ≠ -1 := by
  unfold er_mv at h
  by_cases e : p < i ∧ f p = nI b
  · rw [e.2]; exact er_m1n (by omega)
  · rw [if_neg e] at h; exact h
theorem er_Sf_mv {f : Nat → Int32} (h : er_Sf m f) (hv : y = -1 ∨ ∃ b, b < m ∧ y = nI b) : er_Sf m (er_mv f x y 16) := by
  intro p hp
  unfold er_mv
  split
  · exact hv
  · exact h p hp
theorem er_Pb_mv {f : Nat → Int32} (h : er_Pb m f) (hc : c < m) : er_Pb m (er_mv f x (nI c) 40) := by
  intro p hp
  unfold er_mv
  split
  · exact Or.inr ⟨c, hc, rfl⟩
  · exact h p hp
theorem er_shutAny (hm : σ 21 5 = nI m) (h8 : m ≤ 8) (x : Int32) : ∃ v, ef_M_isShut x σ = some v := by
  rcases er_split x (n := m) (by omega) with hx | ⟨b, hb, rfl⟩
  · exact ⟨0, er_ms_b hm h8 hx⟩
  · by_cases ho : σ 23 b = 0
    · exact ⟨1, er_ms_c hm h8 hb ho⟩
    · exact ⟨0, er_ms_o hm h8 hb ho⟩
theorem eo_join (hI : er_I m n τ σ) (hτ : τ ≤ 40 * t) (x y : Int32) : er_Gi t (ef_L_join x y σ) (ef_M_join x y) := by
  have hI0 := hI
  obtain ⟨⟨h8, hn9, a1, a2, a3, a4, a5, a6, a7⟩, ⟨e1, e2, e3, e4, e5, e6, e7, e8, e9, e10, e11, e12, e13, e14, e15, e16⟩, hPb, hPp, hPt, hSf, hTm, hKp⟩ := hI
  have hM1 : ef_M_join_16 x y σ = some (0, er_up σ 21 0 1) := by
    obtain ⟨v, hv⟩ := er_shutAny a2 h8 x
    obtain ⟨w, hw⟩ := er_shutAny a2 h8 y
    simp only [ef_M_join_16, ef_M_join_21, ef_M_join_45, ef_M_join_50, hv, hw, er_bd_s, er_q1, er_th1, er_bw_s, ite_self]
  rcases er_split x (n := m) (by omega) with hx | ⟨b, hb, rfl⟩
  · refine er_Gi_t hI0 hτ 1 0 (by decide) ?_ ?_
    · simp only [ef_L_join, ef_E_join, er_rb_n a1 hx, er_tb_r, er_tc_r, reduceIte]
    · simp only [ef_M_join, er_mb_n a2 h8 hx, er_bd_s, hM1, reduceIte]
  rcases er_split y (n := m) (by omega) with hy | ⟨c, hc, rfl⟩
  · refine er_Gi_t hI0 hτ 1 0 (by decide) ?_ ?_
    · simp only [ef_L_join, ef_E_join, er_rb_y a1 h8 hb, er_rb_n a1 hy, er_tb_l, er_tb_r, er_tc_r, reduceIte]
    · simp only [ef_M_join, er_mb_y a2 h8 hb, er_mb_n a2 h8 hy, er_bd_s, er_q1, hM1, reduceIte]
  have hb8 : b < 8 := by omega
  have hc8 : c < 8 := by omega
  have hM2 : ∀ σ1 : er_S, σ1 21 5 = nI m → ef_M_join (nI b) (nI c) σ1 = ef_M_join_21 (nI b) (nI c) 0 σ1 := by
    intro σ1 h
    simp only [ef_M_join, er_mb_y h h8 hb, er_mb_y h h8 hc, er_bd_s, er_q1]
  have hM4 : ef_M_join_45 (nI b) (nI c) 0 σ = some (0, er_up σ 21 0 2) := by
    simp only [ef_M_join_45, ef_M_join_50, er_th2, er_bw_s, er_q1]
  by_cases ho : σ 16 b = 0
  · refine er_Gi_t hI0 hτ 2 0 (by decide) ?_ ?_
    · simp only [ef_L_join, ef_E_join, er_rb_y a1 h8 hb, er_rb_y a1 h8 hc, er_ro_n hb8 ho, er_tb_l, er_tb_r, er_tc_r, reduceIte, Nat.reduceEqDiff]
    · rw [hM2 σ a2]
      simp only [ef_M_join_21, er_ms_c a2 h8 hb (show σ 23 b = 0 by rw [e13]; exact ho), er_bd_s, er_q1, hM4]
  have ho' : ¬ σ 23 b = 0 := by rw [e13]; exact ho
  by_cases hq : σ 16 c = 0
  · refine er_Gi_t hI0 hτ 2 0 (by decide) ?_ ?_
    · simp only [ef_L_join, ef_E_join, er_rb_y a1 h8 hb, er_rb_y a1 h8 hc, er_ro_y hb8 ho, er_ro_n hc8 hq, er_tb_l, er_tb_r, er_tc_r, reduceIte, Nat.reduceEqDiff]
    · rw [hM2 σ a2]
      simp only [ef_M_join_21, er_ms_o a2 h8 hb ho', er_ms_c a2 h8 hc (show σ 23 c = 0 by rw [e13]; exact hq), er_bd_s, er_q1, hM4, reduceIte]
  have hq' : ¬ σ 23 c = 0 := by rw [e13]; exact hq
  by_cases hne : nI b = nI c
  · refine er_Gi_t hI0 hτ 2 0 (by decide) ?_ ?_
    · simp only [ef_L_join, ef_E_join, ef_E_join_30, er_rb_y a1 h8 hb, er_rb_y a1 h8 hc, er_ro_y hb8 ho, er_ro_y hc8 hq, if_pos hne, er_rs_n, er_tb_l, er_tb_r, er_tc_r, reduceIte, Nat.reduceEqDiff]
    · rw [hM2 σ a2]
      simp only [ef_M_join_21, er_ms_o a2 h8 hb ho', er_ms_o a2 h8 hc hq', er_bd_s, if_pos hne, hM4, reduceIte]
  have hk20 : (er_rw σ 5 (nI b) (nI c) 40) 20 = σ 20 := by simp only [er_rwr, Nat.reduceEqDiff, reduceIte]
  have hkk : (er_rw σ 5 (nI b) (nI c) 40) 20 b = -1 ∨ ∃ p, p < 40 ∧ (er_rw σ 5 (nI b) (nI c) 40) 20 b = nI p := by
    rw [hk20]
    rcases hKp.2.1 b hb8 with h | ⟨-, h⟩
    · exact Or.inl h
    · exact Or.inr h
  generalize hV : nI (er_cnt (fun p => decide (er_mv (σ 5) (nI b) (nI c) 40 p = nI c)) 0 40) = V
  generalize hS0 : er_rw (er_up (er_dk (er_rw σ 5 (nI b) (nI c) 40) b) 16 b 0) 3 (nI b) (nI c) 16 = S
  have r5 : S 5 = er_mv (σ 5) (nI b) (nI c) 40 := by rw [← hS0]; simp only [er_rwr, er_upr, er_dkr, Nat.reduceEqDiff, reduceIte]
  have r3 : S 3 = er_mv (σ 3) (nI b) (nI c) 16 := by rw [← hS0]; simp only [er_rwr, er_upr, er_dkr, Nat.reduceEqDiff, reduceIte]
  have r16 : S 16 = upd (σ 16) b 0 := by rw [← hS0]; simp only [er_rwr, er_upr, er_dkr, Nat.reduceEqDiff, reduceIte]
  have r20 : S 20 = upd (σ 20) b (-1) := by rw [← hS0]; simp only [er_rwr, er_upr, er_dkr, Nat.reduceEqDiff, reduceIte]
  have r14 : S 14 = er_d14 (σ 14) (σ 20 b) := by rw [← hS0]; simp only [er_rwr, er_upr, er_dkr, Nat.reduceEqDiff, reduceIte]
  have ro : ∀ k, k ≠ 5 → k ≠ 3 → k ≠ 16 → k ≠ 20 → k ≠ 14 → S k = σ k := by
    intro k k1 k2 k3 k4 k5
    rw [← hS0]
    simp only [er_rwr, er_upr, er_dkr, if_neg k1, if_neg k2, if_neg k3, if_neg k4, if_neg k5]
  refine ⟨0, er_up S 39 0 V, V, er_up (er_up (er_rw (er_rw (er_up (er_up S 39 0 V) 21 0 0) 31 (nI b) (nI c) 40) 28 (nI b) (nI c) 16) 23 b 0) 27 b (-1), ?_, ?_, ?_, ?_, m, n, τ, by omega, ?_⟩
  · simp only [ef_L_join, ef_E_join, ef_E_join_30, er_rb_y a1 h8 hb, er_rb_y a1 h8 hc, er_ro_y hb8 ho, er_ro_y hc8 hq, if_neg hne, er_rs_y, er_tb_l, er_moveAll, er_bw_s, er_shut hb8 hkk, hS0, er_con, r5, hV, er_bd_s, er_tc_l, er_gz, er_iz]
  · generalize hS : er_up S 39 0 V = σ1
    have q21 : σ1 21 5 = nI m := by
      rw [← hS]
      simp only [er_upr, Nat.reduceEqDiff, reduceIte]
      rw [ro 21 (by decide) (by decide) (by decide) (by decide) (by decide)]
      exact a2
    have q23 : σ1 23 = σ 23 := by rw [← hS]; simp only [er_upr, Nat.reduceEqDiff, reduceIte]; exact ro 23 (by decide) (by decide) (by decide) (by decide) (by decide)
    have q31 : (er_up σ1 21 0 0) 31 = σ 5 := by rw [← hS]; simp only [er_upr, Nat.reduceEqDiff, reduceIte]; rw [ro 31 (by decide) (by decide) (by decide) (by decide) (by decide), e3]
    rw [← q23] at ho' hq'
    have hh := er_mj62 hb8 (nI c) (er_up σ1 21 0 0)
    rw [q31, hV] at hh
    rw [hM2 σ1 q21]
    unfold ef_M_join_21 ef_M_join_50
    rw [er_ms_o q21 h8 hb ho', er_ms_o q21 h8 hc hq', er_bd_s, er_bd_s, er_q0, er_q0, if_neg hne, er_th0, er_bw_s, er_q0, hh]
  · simp [er_up, er_rw]
  · intro _
    simp [er_up, er_rw]
  · simp only [er_I, er_Nu, er_Eq, er_upr, er_rwr, Nat.reduceEqDiff, reduceIte]
    simp only [r5, r3, r16, r20, r14]
    rw [ro 2 (by decide) (by decide) (by decide) (by decide) (by decide), ro 0 (by decide) (by decide) (by decide) (by decide) (by decide), ro 21 (by decide) (by decide) (by decide) (by decide) (by decide), ro 22 (by decide) (by decide) (by decide) (by decide) (by decide), ro 23 (by decide) (by decide) (by decide) (by decide) (by decide), ro 24 (by decide) (by decide) (by decide) (by decide) (by decide), ro 25 (by decide) (by decide) (by decide) (by decide) (by decide), ro 26 (by decide) (by decide) (by decide) (by decide) (by decide), ro 27 (by decide) (by decide) (by decide) (by decide) (by decide), ro 28 (by decide) (by decide) (by decide) (by decide) (by decide), ro 29 (by decide) (by decide) (by decide) (by decide) (by decide), ro 30 (by decide) (by decide) (by decide) (by decide) (by decide), ro 31 (by decide) (by decide) (by decide) (by decide) (by decide), ro 32 (by decide) (by decide) (by decide) (by decide) (by decide), ro 33 (by decide) (by decide) (by decide) (by decide) (by decide), ro 34 (by decide) (by decide) (by decide) (by decide) (by decide), ro 35 (by decide) (by decide) (by decide) (by decide) (by decide), ro 36 (by decide) (by decide) (by decide) (by decide) (by decide), ro 37 (by decide) (by decide) (by decide) (by decide) (by decide), ro 38 (by decide) (by decide) (by decide) (by decide) (by decide), ro 4 (by decide) (by decide) (by decide) (by decide) (by decide), ro 6 (by decide) (by decide) (by decide) (by decide) (by decide), ro 7 (by decide) (by decide) (by decide) (by decide) (by decide), ro 8 (by decide) (by decide) (by decide) (by decide) (by decide), ro 9 (by decide) (by decide) (by decide) (by decide) (by decide), ro 10 (by decide) (by decide) (by decide) (by decide) (by decide), ro 11 (by decide) (by decide) (by decide) (by decide) (by decide), ro 12 (by decide) (by decide) (by decide) (by decide) (by decide), ro 13 (by decide) (by decide) (by decide) (by decide) (by decide), ro 15 (by decide) (by decide) (by decide) (by decide) (by decide), ro 17 (by decide) (by decide) (by decide) (by decide) (by decide), ro 18 (by decide) (by decide) (by decide) (by decide) (by decide), ro 19 (by decide) (by decide) (by decide) (by decide) (by decide)]
    refine ⟨⟨h8, hn9, a1, by simpa [upd] using a2, a3, by simpa [upd] using a4, a5, by simpa [upd] using a6, by simpa [upd] using a7⟩, ⟨by rw [e1], e2, by rw [e3], e4, e5, e6, e7, e8, e9, e10, e11, e12, by rw [e13], e14, e15, e16⟩, er_Pb_mv hPb hc, fun p hp h => hPp p hp (er_mv_in hb h8 h), ⟨fun p hp h => hPt.1 p hp (er_mv_in hb h8 h), fun p hp q hq hne h h' => hPt.2 p hp q hq hne (er_mv_in hb h8 h) (er_mv_in hb h8 h')⟩, er_Sf_mv hSf (Or.inr ⟨c, hc, rfl⟩), hTm, er_Kp_drop hKp h8 hb⟩
theorem eo_close (hI : er_I m n τ σ) (hτ : τ ≤ 40 * t) (x : Int32) : er_Gv t (ef_L_close x σ) (ef_M_close x) := by
  have hI0 := hI
  obtain ⟨⟨h8, hn9, a1, a2, a3, a4, a5, a6, a7⟩, ⟨e1, e2, e3, e4, e5, e6, e7, e8, e9, e10, e11, e12, e13, e14, e15, e16⟩, hPb, hPp, hPt, hSf, hTm, hKp⟩ := hI
  rcases er_split x (n := m) (by omega) with hx | ⟨b, hb, rfl⟩
  · refine er_Gv_t hI0 hτ 1 ?_ ?_
    · simp only [ef_L_close, ef_E_close, er_rb_n a1 hx, er_tb_r, er_tc_r, reduceIte]
    · simp only [ef_M_close, ef_M_close_14, ef_M_close_42, ef_M_close_43, er_mb_n a2 h8 hx, er_ms_b a2 h8 hx, er_bd_s, er_th1, er_bw_s, er_q1, reduceIte]
  have hb8 : b < 8 := by omega
  have hM2 : ∀ σ1 : er_S, σ1 21 5 = nI m → ef_M_close (nI b) σ1 = ef_M_close_14 (nI b) 0 σ1 := by
    intro σ1 h
    simp only [ef_M_close, er_mb_y h h8 hb, er_bd_s, er_q1]
  by_cases ho : σ 16 b = 0
  · refine er_Gv_t hI0 hτ 2 ?_ ?_
    · simp only [ef_L_close, ef_E_close, er_rb_y a1 h8 hb, er_ro_n hb8 ho, er_tb_l, er_tb_r, er_tc_r, reduceIte, Nat.reduceEqDiff]
    · rw [hM2 σ a2]
      simp only [ef_M_close_14, ef_M_close_38, ef_M_close_43, er_ms_c a2 h8 hb (show σ 23 b = 0 by rw [e13]; exact ho), er_bd_s, er_q1, er_th2, er_bw_s]
  have ho' : ¬ σ 23 b = 0 := by rw [e13]; exact ho
  have hle := er_cnt_le (fun p => decide (σ 5 p = nI b)) 40 0
  by_cases hc : er_cnt (fun p => decide (σ 5 p = nI b)) 0 40 = 0
  rotate_left
  · have k1 : ¬ nI (er_cnt (fun p => decide (σ 5 p = nI b)) 0 40) = 0 := nI_ne0 (by omega) (by omega)
    have k2 : ¬ nI (er_cnt (fun p => decide (σ 31 p = nI b)) 0 40) ≤ 0 := by rw [e3]; exact nI_nle (by omega) (by omega)
    refine er_Gv_t hI0 hτ 2 ?_ ?_
    · simp only [ef_L_close, ef_E_close, ef_E_close_26, er_rb_y a1 h8 hb, er_ro_y hb8 ho, er_con, er_bd_s, if_neg k1, er_rs_n, er_tb_l, er_tb_r, er_tc_r, reduceIte, Nat.reduceEqDiff]
    · rw [hM2 σ a2]
      simp only [ef_M_close_14, ef_M_close_38, ef_M_close_43, er_ms_o a2 h8 hb ho', er_mb_y a2 h8 hb, er_mcon, if_neg k2, er_bd_s, er_q1, er_th2, er_bw_s, reduceIte]
  have k1 : nI (er_cnt (fun p => decide (σ 5 p = nI b)) 0 40) = 0 := by rw [hc]; exact nI_0
  have hkk : σ 20 b = -1 ∨ ∃ p, p < 40 ∧ σ 20 b = nI p := by
    rcases hKp.2.1 b hb8 with h | ⟨-, h⟩
    · exact Or.inl h
    · exact Or.inr h
  generalize hS0 : er_rw (er_up (er_dk σ b) 16 b 0) 3 (nI b) (-1) 16 = S
  have r3 : S 3 = er_mv (σ 3) (nI b) (-1) 16 := by rw [← hS0]; simp only [er_rwr, er_upr, er_dkr, Nat.reduceEqDiff, reduceIte]
  have r16 : S 16 = upd (σ 16) b 0 := by rw [← hS0]; simp only [er_rwr, er_upr, er_dkr, Nat.reduceEqDiff, reduceIte]
  have r20 : S 20 = upd (σ 20) b (-1) := by rw [← hS0]; simp only [er_rwr, er_upr, er_dkr, Nat.reduceEqDiff, reduceIte]
  have r14 : S 14 = er_d14 (σ 14) (σ 20 b) := by rw [← hS0]; simp only [er_rwr, er_upr, er_dkr, Nat.reduceEqDiff, reduceIte]
  have ro : ∀ k, k ≠ 3 → k ≠ 16 → k ≠ 20 → k ≠ 14 → S k = σ k := by
    intro k k2 k3 k4 k5
    rw [← hS0]
    simp only [er_rwr, er_upr, er_dkr, if_neg k2, if_neg k3, if_neg k4, if_neg k5]
  refine ⟨0, S, (), er_up (er_up (er_rw (er_up S 21 0 0) 28 (nI b) (-1) 16) 23 b 0) 27 b (-1), ?_, ?_, ?_, m, n, τ, by omega, ?_⟩
  · simp only [ef_L_close, ef_E_close, ef_E_close_26, er_rb_y a1 h8 hb, er_ro_y hb8 ho, er_con, er_bd_s, if_pos k1, er_rs_y, er_tb_l, er_shut hb8 hkk, hS0, er_bw_s, er_tc_l]
  · have q21 : S 21 5 = nI m := by
      rw [ro 21 (by decide) (by decide) (by decide) (by decide)]
      exact a2
    have q23 : S 23 = σ 23 := ro 23 (by decide) (by decide) (by decide) (by decide)
    have q31 : S 31 = σ 5 := by rw [ro 31 (by decide) (by decide) (by decide) (by decide), e3]
    rw [← q23] at ho'
    have k2 : nI (er_cnt (fun p => decide (S 31 p = nI b)) 0 40) ≤ 0 := by rw [q31, k1]; decide
    rw [hM2 S q21]
    unfold ef_M_close_14 ef_M_close_42 ef_M_close_43
    rw [er_ms_o q21 h8 hb ho', er_bd_s, er_q0, er_mb_y q21 h8 hb, er_bd_s, er_q1, er_mcon, er_bd_s, if_pos k2, er_th0, er_bw_s, er_q0, er_mc53 hb8]
  · simp [er_up, er_rw]
  · simp only [er_I, er_Nu, er_Eq, er_upr, er_rwr, Nat.reduceEqDiff, reduceIte]
    simp only [r3, r16, r20, r14]
    rw [ro 2 (by decide) (by decide) (by decide) (by decide), ro 0 (by decide) (by decide) (by decide) (by decide), ro 21 (by decide) (by decide) (by decide) (by decide), ro 22 (by decide) (by decide) (by decide) (by decide), ro 23 (by decide) (by decide) (by decide) (by decide), ro 24 (by decide) (by decide) (by decide) (by decide), ro 25 (by decide) (by decide) (by decide) (by decide), ro 26 (by decide) (by decide) (by decide) (by decide), ro 27 (by decide) (by decide) (by decide) (by decide), ro 28 (by decide) (by decide) (by decide) (by decide), ro 29 (by decide) (by decide) (by decide) (by decide), ro 30 (by decide) (by decide) (by decide) (by decide), ro 31 (by decide) (by decide) (by decide) (by decide), ro 32 (by decide) (by decide) (by decide) (by decide), ro 33 (by decide) (by decide) (by decide) (by decide), ro 34 (by decide) (by decide) (by decide) (by decide), ro 35 (by decide) (by decide) (by decide) (by decide), ro 36 (by decide) (by decide) (by decide) (by decide), ro 37 (by decide) (by decide) (by decide) (by decide), ro 38 (by decide) (by decide) (by decide) (by decide), ro 4 (by decide) (by decide) (by decide) (by decide), ro 5 (by decide) (by decide) (by decide) (by decide), ro 6 (by decide) (by decide) (by decide) (by decide), ro 7 (by decide) (by decide) (by decide) (by decide), ro 8 (by decide) (by decide) (by decide) (by decide), ro 9 (by decide) (by decide) (by decide) (by decide), ro 10 (by decide) (by decide) (by decide) (by decide), ro 11 (by decide) (by decide) (by decide) (by decide), ro 12 (by decide) (by decide) (by decide) (by decide), ro 13 (by decide) (by decide) (by decide) (by decide), ro 15 (by decide) (by decide) (by decide) (by decide), ro 17 (by decide) (by decide) (by decide) (by decide), ro 18 (by decide) (by decide) (by decide) (by decide), ro 19 (by decide) (by decide) (by decide) (by decide)]
    exact ⟨⟨h8, hn9, a1, by simpa [upd] using a2, a3, by simpa [upd] using a4, a5, by simpa [upd] using a6, by simpa [upd] using a7⟩, ⟨by rw [e1], e2, e3, e4, e5, e6, e7, e8, e9, e10, e11, e12, by rw [e13], e14, e15, e16⟩, hPb, hPp, hPt, er_Sf_mv hSf (Or.inl rfl), hTm, er_Kp_drop hKp h8 hb⟩
end ERO7
