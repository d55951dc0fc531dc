/-! pure: readiness, safety teams, lateness -/
def er_free (n : Int32) (f5 f10 f14 : Nat → Int32) (p : Nat) : Bool := decide (f5 p = -1) && (!decide (n < f10 p) && decide (f14 p = -1))
def er_rdy (f13 f5 f10 f14 : Nat → Int32) (n least x : Int32) : Bool := !er_any (fun p => decide (f13 p = x) && !er_free n f5 f10 f14 p) 0 40 && !decide (nI (er_cnt (fun p => decide (f13 p = x)) 0 40) < least)
def er_saf (f3 f13 f5 f10 f14 : Nat → Int32) (n least x y : Int32) : Int32 := nI (er_cnt (fun t => !decide (nI t = y) && (decide (f3 t = x) && er_rdy f13 f5 f10 f14 n least (nI t))) 0 16)
def er_late (f5 f9 f18 : Nat → Int32) (x : Int32) (p : Nat) : Bool := !decide (f5 p = -1) && !decide (x - f9 p ≤ f18 (er_ix (f5 p)))
section ERR
variable {σ : er_S} {m n τ t b p : Nat} {f20 f14 : Nat → Int32}
theorem er_isFree (hp : p < 40) (y : Int32) : ef_P_isFree (nI p) y σ = some (er_b01 (er_free y (σ 5) (σ 10) (σ 14) p)) := by
  unfold ef_P_isFree
  by_cases h1 : σ 5 p = -1
  · rw [er_in_n hp h1, er_bd_s, er_q0, er_gdi hp (by decide), er_ixn (by omega)]
    by_cases h2 : y < σ 10 p
    · rw [if_pos h2]
      simp [er_free, h1, h2]
      rfl
    · rw [if_neg h2, er_gdi hp (by decide)]
      by_cases h3 : σ 14 p = -1
      · rw [if_pos h3]
        simp [er_free, h1, h2, h3]
        rfl
      · rw [if_neg h3]
        simp [er_free, h1, h2, h3]
        rfl
  · rw [er_in_y hp h1, er_bd_s, er_q1]
    simp [er_free, h1]
    rfl
theorem er_teamReady (x y z : Int32) : ef_P_isTeamReady x y z σ = some (er_b01 (er_rdy (σ 13) (σ 5) (σ 10) (σ 14) z y x)) := by
  have h := er_fl0 (fun n i => ef_P_isTeamReady_3 n x y z i σ) (some 0) (some (er_b01 (!decide (nI (er_cnt (fun p => decide (σ 13 p = x)) 0 40) < y)))) (fun p => decide (σ 13 p = x) && !er_free z (σ 5) (σ 10) (σ 14) p) 40
    (by
      intro n
      simp only [ef_P_isTeamReady_3, er_size, er_bd_s]
      rw [if_pos (by decide)]
      by_cases h : nI (er_cnt (fun p => decide (σ 13 p = x)) 0 40) < y
      · rw [if_pos h]; simp [h]; rfl
      · rw [if_neg h]; simp [h]; rfl)
    (by
      intro n i hi
      simp only [ef_P_isTeamReady_3]
      rw [er_40, if_neg (er_ge hi (by decide)), er_gdi hi (by decide), er_ixn (by omega), er_p1, er_isFree hi, er_bd_s, er_g0]
      by_cases h : σ 13 i = x
      · rw [if_pos h]
        cases hf : er_free z (σ 5) (σ 10) (σ 14) i
        · simp [h, er_bf]
        · rw [er_bt, er_q1]; simp [h]
      · rw [if_neg h]; simp [h]) (n := 64) (by decide)
  unfold ef_P_isTeamReady
  rw [h]
  unfold er_rdy
  by_cases ha : er_any (fun p => decide (σ 13 p = x) && !er_free z (σ 5) (σ 10) (σ 14) p) 0 40 = true
  · rw [if_pos ha, ha]; rfl
  · rw [if_neg ha]
    rw [Bool.not_eq_true] at ha
    rw [ha]
    rfl
theorem er_ready (hb : b < 8) (x : Int32) : ef_E_isReady x (nI b) σ = some (er_b01 (er_rdy (σ 13) (σ 5) (σ 10) (σ 14) (σ 0 4) (σ 17 b) x)) := by
  unfold ef_E_isReady
  rw [er_gdi hb (by decide), er_ixn (by omega), er_teamReady, er_bd_s, er_gb]
theorem er_mready (hm : σ 21 5 = nI m) (h8 : m ≤ 8) (hK : er_Kp m f20 (σ 27) f14) (hP : er_Pb m (σ 31)) (hb : b < 8) (x : Int32) : ef_M_isReady x (nI b) σ = some (er_b01 (er_rdy (σ 29) (σ 31) (σ 36) f14 (σ 21 1) (σ 24 b) x)) := by
  have h : ∀ a : Int32, er_isb a = true → ef_M_isReady_19 x a σ = some (if er_any (fun p => decide (σ 29 p = x) && !er_free (σ 21 1) (σ 31) (σ 36) f14 p) 0 40 = true then 0 else a) := by
    intro a ha
    have h := er_zl (fun n a i => ef_M_isReady_23 n x a i σ) (fun a => er_gd (er_isb a) (some a)) (fun p => decide (σ 29 p = x) && !er_free (σ 21 1) (σ 31) (σ 36) f14 p) 40
      (by
        intro n a
        simp only [ef_M_isReady_23]
        rw [if_pos (by decide)])
      (by
        intro n a i hi
        simp only [ef_M_isReady_23]
        rw [er_40, if_neg (er_ge hi (by decide)), er_gdi hi (by decide), er_gdi hi (by decide), er_gdi hi (by decide), er_ixn (by omega), er_p1, er_keeps hm h8 hK hi, er_bd_s]
        by_cases h : σ 29 i = x
        · rw [if_pos h]
          by_cases h1 : σ 31 i = -1
          · rw [if_neg (fun q => (er_pbn hP h8 hi).mp q h1)]
            by_cases h2 : σ 21 1 < σ 36 i
            · rw [if_pos h2]; simp [h, er_free, h1, h2]
            · rw [if_neg h2]
              by_cases h3 : f14 i = -1
              · rw [if_pos ((er_f14 hK h8 hi).mpr h3)]; simp [h, er_free, h1, h2, h3]
              · rw [if_neg (fun q => h3 ((er_f14 hK h8 hi).mp q))]; simp [h, er_free, h1, h2, h3]
          · rw [if_pos ((er_pbn hP h8 hi).mpr h1)]; simp [h, er_free, h1]
        · rw [if_neg h]; simp [h]) 40 0 a 64 (by decide) (by decide)
    unfold ef_M_isReady_19
    rw [nI_0] at h
    rw [h]
    split
    · exact er_g0 _
    · rw [ha]; rfl
  unfold ef_M_isReady
  rw [er_msize, er_bd_s, er_gdi hb (by decide), er_ixn (by omega), h 0 (by decide), h 1 (by decide)]
  unfold er_rdy
  cases er_any (fun p => decide (σ 29 p = x) && !er_free (σ 21 1) (σ 31) (σ 36) f14 p) 0 40
  · by_cases hs : nI (er_cnt (fun p => decide (σ 29 p = x)) 0 40) < σ 24 b
    · rw [if_pos hs]; simp [hs, er_b01]
    · rw [if_neg hs]; simp [hs, er_b01]
  · simp [er_b01]
theorem er_ifs {α : Type} (c : Bool) {P : Prop} {hP : Decidable P} (h : c = true ↔ P) (a b : α) : (if c = true then a else b) = @ite α P hP a b := by
  by_cases k : P
  · rw [if_pos k, if_pos (h.mpr k)]
  · rw [if_neg k, if_neg (fun q => k (h.mp q))]
theorem er_rst (hb : b < 8) (y : Int32) : ef_E_readySafetyTeams (nI b) y σ = some (er_saf (σ 3) (σ 13) (σ 5) (σ 10) (σ 14) (σ 0 4) (σ 17 b) (nI b) y) :=
  er_cl0 (fun n a i => ef_E_readySafetyTeams_5 n (nI b) y a i σ) (fun a => some a) (fun t => !decide (nI t = y) && (decide (σ 3 t = nI b) && er_rdy (σ 13) (σ 5) (σ 10) (σ 14) (σ 0 4) (σ 17 b) (nI t))) 16
    (by intro n a; simp only [ef_E_readySafetyTeams_5]; rw [if_pos (by decide)])
    (by
      intro n a i hi
      simp only [ef_E_readySafetyTeams_5]
      rw [er_16, if_neg (er_ge hi (by decide)), er_gdi hi (by decide), er_ixn (by omega), er_p1, er_ready hb, er_bd_s]
      by_cases h1 : nI i = y
      · rw [if_pos h1]; simp [h1]
      · rw [if_neg h1]
        by_cases h2 : σ 3 i = nI b
        · rw [if_pos h2]
          cases er_rdy (σ 13) (σ 5) (σ 10) (σ 14) (σ 0 4) (σ 17 b) (nI i)
          · simp [h1, h2, er_bf]
          · rw [er_bt, er_q1]; simp [h1, h2]
        · rw [if_neg h2]; simp [h2]) (by decide)
theorem er_msafe (hm : σ 21 5 = nI m) (h8 : m ≤ 8) (hK : er_Kp m f20 (σ 27) f14) (hP : er_Pb m (σ 31)) (hb : b < 8) (y : Int32) : ef_M_safe (nI b) y σ = some (er_saf (σ 28) (σ 29) (σ 31) (σ 36) f14 (σ 21 1) (σ 24 b) (nI b) y) :=
  er_cl0 (fun n a i => ef_M_safe_5 n (nI b) y a i σ) (fun a => some a) (fun t => !decide (nI t = y) && (decide (σ 28 t = nI b) && er_rdy (σ 29) (σ 31) (σ 36) f14 (σ 21 1) (σ 24 b) (nI t))) 16
    (by intro n a; simp only [ef_M_safe_5]; rw [if_pos (by decide)])
    (by
      intro n a i hi
      simp only [ef_M_safe_5]
      rw [er_16, if_neg (er_ge hi (by decide)), er_gdi hi (by decide), er_ixn (by omega), er_p1, er_a0, er_mready hm h8 hK hP hb, er_bd_s]
      by_cases h2 : σ 28 i = nI b
      · rw [if_pos h2]
        by_cases h1 : nI i = y
        · rw [if_pos h1]; simp [h1]
        · rw [if_neg h1]
          cases er_rdy (σ 29) (σ 31) (σ 36) f14 (σ 21 1) (σ 24 b) (nI i)
          · simp [h1, h2, er_bf]
          · rw [er_bt, er_q1]; simp [h1, h2]
      · rw [if_neg h2]; simp [h2]) (by decide)
theorem er_isLate (hm : σ 2 5 = nI m) (h8 : m ≤ 8) (hP : er_Pb m (σ 5)) (hp : p < 40) (x : Int32) : ef_E_isLateAt (nI p) x σ = some (er_b01 (er_late (σ 5) (σ 9) (σ 18) x p)) := by
  unfold ef_E_isLateAt
  rw [er_gdi hp (by decide), er_gdi hp (by decide), er_ixn (show p < 2 ^ 31 by omega)]
  rcases hP p hp with h | ⟨b, hb, h⟩
  · rw [h, er_has_n hm (Or.inl (by decide)), er_bd_s, er_q0]
    simp [er_late, h]
    rfl
  · rw [h, er_has_y hm h8 hb, er_bd_s, er_q1, er_gdi (show b < 8 by omega) (by decide)]
    have hne : ¬ nI b = -1 := er_m1n (by omega)
    by_cases k : x - σ 9 p ≤ σ 18 (er_ix (nI b))
    · rw [if_pos k]; simp [er_late, h, k]; rfl
    · rw [if_neg k]; simp [er_late, h, k, hne]; rfl
theorem er_misLate (h8 : m ≤ 8) (hP : er_Pb m (σ 31)) (hp : p < 40) (x : Int32) : ef_M_isLate (nI p) x σ = some (er_b01 (er_late (σ 31) (σ 35) (σ 25) x p)) := by
  unfold ef_M_isLate
  rw [er_gdi hp (by decide), er_gdi hp (by decide), er_gdi hp (by decide), er_ixn (show p < 2 ^ 31 by omega)]
  rcases hP p hp with h | ⟨b, hb, h⟩
  · rw [h, if_pos (by decide)]
    simp [er_late, h]
    rfl
  · rw [h, if_neg (nI_pos (by omega)), er_gdi (show b < 8 by omega) (by decide)]
    have hne : ¬ nI b = -1 := er_m1n (by omega)
    by_cases k : x - σ 35 p ≤ σ 25 (er_ix (nI b))
    · rw [if_pos k]; simp [er_late, h, k]; rfl
    · rw [if_neg k]; simp [er_late, h, k, hne]; rfl
end ERR
