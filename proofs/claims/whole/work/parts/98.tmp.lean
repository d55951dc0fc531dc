def er_Iv (t : Nat) (σ : er_S) : Prop := True
theorem er_Iv0 : er_Iv 0 er_s0 := trivial
theorem er_step {L : Nat} {xs : Nat → Int32} (hL : L ≤ 3072) (t : Nat) (σ : er_S) (ht : t ≤ 512) (h : 6 * t + 6 ≤ L) (hI : er_Iv t σ) : ∃ σ', el_step L xs (nI (6 * t)) σ = some (some σ') ∧ er_Iv (t + 1) σ' := sorry
