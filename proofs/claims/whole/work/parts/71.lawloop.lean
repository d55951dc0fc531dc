/-! the law's loop, over an invariant Iv of the pure state -/
theorem er_gt {L i : Nat} (hL : L ≤ 3072) (hi : i ≤ 3072) : nI L - 6 < nI i ↔ (L : Int) - 6 < i := by
  have h6 : (6 : Int32) = nI 6 := by decide
  rw [h6, Int32.lt_iff_toInt_lt, pk_sub_toInt (by omega) (by omega), nI_toInt (by omega)]
  exact Iff.rfl
set_option maxRecDepth 100000 in
set_option maxHeartbeats 4000000 in
theorem ew_law_loop {p : Program} {l : Launch} {e : Env} {s : State} {m : MethodId} {below : List Frame} {meth : Method} {c : Code} {G : er_G} {b L : Nat} {xs : Nat → Int32} (hl : l.admits e ∧ l.stackTraces = false) (B : er_BW p s m c G b L xs) (hr : meth.sig.returnType = ret) (hlocks : meth.locks = false) (hL : L ≤ 3072) (Iv : Nat → er_S → Prop)
    (hstep : ∀ (t : Nat) (σ : er_S), 6 * t + 6 ≤ L → Iv t σ → ∃ σ', el_step L xs (nI (6 * t)) σ = some (some σ') ∧ Iv (t + 1) σ') :
    ∀ (n t : Nat) (σ : er_S), 6 * t ≤ L → L + 1 ≤ 6 * t + n → Iv t σ → er_J p l e room_1 s m #[Value.ref b] below meth c G (fun q => s.heap.size ≤ q) s.heap (lw_Z below #[Value.ref b] s) (40 + t) (1011 + 6 * t) σ 23 [some (.ref 40), some (.ref 0), some (.ref 21), some (.ref 39), some (.int (nI (6 * t))), none, none] [] := by
  intro n
  induction n with
  | zero => intro t σ h1 h2; exact absurd h2 (by omega)
  | succ n ih =>
    intro t σ h1 h2 hI
    refine ej_iload B.1 d_L_law_23 rfl ?_
    refine ej_aload_n B.1 d_L_law_25 rfl ?_
    refine ej_slen B d_L_law_26 ?_
    refine ej_bipush B.1 (v := 6) d_L_law_27 (by decide +kernel) ?_
    refine ej_isub B.1 d_L_law_29 ?_
    refine ej_icmp_gt B.1 (tgt := 1314) d_L_law_30 (by decide) (fun q => ?_) (fun q => ?_)
    · refine ej_iconst B.1 (v := 1) d_L_law_1314 rfl ?_
      intro H locs ls hP hD hS hlv
      refine va_forget (fun q hq => hS.2.2 q hq) ?_
      refine W.widen (k := 1072) (n := 9251) (by omega) (by omega) ?_
      exact lw_ret B.1.1 B.1.2.1 hr hlocks d_L_law_1315
    · have hlt : 6 * t + 6 ≤ L := by
        rw [er_gt hL (by omega)] at q
        omega
      obtain ⟨σ', hs, hI'⟩ := hstep t σ hlt hI
      refine ew_law_33 hl B (show 40 + t + 1 ≤ 1072 by omega) (show 1011 + 6 * t + 6 ≤ 9251 by omega) (nI (6 * t)) σ σ' hs ?_
      have hadd : nI (6 * t) + 6 = nI (6 * (t + 1)) := by
        rw [show (6 : Int32) = nI 6 by decide, nI_add]
        congr 1
      refine ej_iinc B.1 (v := nI (6 * (t + 1))) (lv' := [some (.ref 40), some (.ref 0), some (.ref 21), some (.ref 39), some (.int (nI (6 * (t + 1)))), none, none]) d_L_law_1308 rfl rfl rfl hadd rfl ?_
      refine ej_goto B.1 (tgt := 23) d_L_law_1311 (by decide) ?_
      have h := ih (t + 1) σ' (by omega) (by omega) hI'
      rw [show 40 + (t + 1) = 40 + t + 1 by omega, show 1011 + 6 * (t + 1) = 1011 + 6 * t + 6 by omega] at h
      exact h
