set_option maxRecDepth 100000 in
set_option maxHeartbeats 4000000 in
theorem ec_E_rest {l : Launch} {G : er_G} (hl : l.stackTraces = false) (hE : er_Pr G 0 21) (x1 : Int32) (σ : er_S) (r : (Unit ⊕ Nat) × er_S) (h : ef_E_rest x1 σ = some r) : er_Con l y_E_rest w_E_rest 7 105 (er_nc r.1) (er_ns r.1) G [.ref 0, .int x1] σ (er_cvu r) := by
  refine er_ofJ (ret := none) (cc := b_E_rest) (maxL := 2) (lv0 := [some (.ref 0), some (.int x1)]) (hh := []) (by decide +kernel) rfl (Or.inl rfl) (by intro v hv; simp only [List.mem_cons, List.not_mem_nil, or_false] at hv; rcases hv with rfl | rfl <;> rfl) (Nat.le_of_ble_eq_true rfl) ?_
  intro p e s m args below meth c hadm C hr hlk hml hw hnm hm hcd
  have B : er_B p s m c meth b_E_rest "EntryRows" G (none) 2 0 21 := ⟨C, hr, hlk, hml, hE, er_noh hw hnm hm hcd⟩
  have hl := And.intro hadm hl
  unfold ef_E_rest at h
  refine ej_iload_n B.1 d_E_rest_0 rfl ?_
  refine ej_iconst B.1 (v := 0) d_E_rest_1 rfl ?_
  refine ej_sipush B.1 (v := 10000) d_E_rest_2 (by decide +kernel) ?_
  rcases er_tb_some h with ⟨v1, g3, e2, h⟩ | ⟨k4, g3, e2, h⟩
  · refine ej_cs_v (nc := 0) (ns := 0) B.1 [.int x1, .int 0, .int 10000] [] (ec_E_requireRange hl.2 (er_pr B) x1 0 10000 σ (.inl v1, g3) e2) cal_E_requireRange lk_E_46 st_E_requireRange rfl B.2.2.2.1 d_E_rest_5 ⟨Nat.le_of_ble_eq_true rfl, Nat.le_of_ble_eq_true rfl, Nat.zero_le _, Nat.zero_le _⟩ (Nat.le_of_ble_eq_true rfl) rfl ?_
    refine ej_aload_n B.1 d_E_rest_8 rfl ?_
    refine ej_iload_n B.1 d_E_rest_9 rfl ?_
    refine ej_puti B.1 (er_at B 0 rfl rfl) rfl rfl fp_E_37 d_E_rest_10 ?_
    cases h
    exact ej_vret B.1 B.2.1 B.2.2.1 (Nat.zero_le _) (Nat.zero_le _) d_E_rest_13
  · subst h
    exact ej_cs_t (nc := 1) (ns := 6) B.1 [.int x1, .int 0, .int 10000] [] (ec_E_requireRange hl.2 (er_pr B) x1 0 10000 σ (.inr k4, g3) e2) cal_E_requireRange lk_E_46 st_E_requireRange rfl B.2.2.2.1 d_E_rest_5 ⟨Nat.le_of_ble_eq_true rfl, Nat.le_of_ble_eq_true rfl, Nat.le_of_ble_eq_true rfl, Nat.le_of_ble_eq_true rfl⟩ (Nat.le_of_ble_eq_true rfl) rfl B.2.2.1 (B.2.2.2.2.2 _) ⟨Nat.le_of_ble_eq_true rfl, Nat.le_of_ble_eq_true rfl⟩
set_option maxRecDepth 100000 in
set_option maxHeartbeats 4000000 in
theorem ew_E_isPlace_15 {p : Program} {l : Launch} {e : Env} {s : State} {m : MethodId} {args : Array Value} {below : List Frame} {meth : Method} {c : Code} {G : er_G} (B : er_B p s m c meth b_E_isPlace "EntryRows" G (some .boolean) 1 0 21) (t0 : Int32) (σ : er_S) (r : Int32) (h : ef_E_isPlace_15 t0 σ = some r) : er_J p l e { frames := 0, cells := 0, slots := 0, locals := 0 } s m args below meth c G (er_A G s.heap.size) s.heap (er_fin below G s 0 0 (.inl (some (.int r)), σ)) 0 0 σ 15 [none] [.int t0] := by
  unfold ef_E_isPlace_15 at h
  obtain ⟨e2, h⟩ := er_gd_some h
  cases h
  exact ej_zret B.1 B.2.1 B.2.2.1 (Nat.zero_le _) (Nat.zero_le _) e2 d_E_isPlace_15
set_option maxRecDepth 100000 in
set_option maxHeartbeats 4000000 in
theorem ew_E_isPlace_14 {p : Program} {l : Launch} {e : Env} {s : State} {m : MethodId} {args : Array Value} {below : List Frame} {meth : Method} {c : Code} {G : er_G} (B : er_B p s m c meth b_E_isPlace "EntryRows" G (some .boolean) 1 0 21) (σ : er_S) (r : Int32) (h : ef_E_isPlace_14  σ = some r) : er_J p l e { frames := 0, cells := 0, slots := 0, locals := 0 } s m args below meth c G (er_A G s.heap.size) s.heap (er_fin below G s 0 0 (.inl (some (.int r)), σ)) 0 0 σ 14 [none] [] := by
  unfold ef_E_isPlace_14 at h
  refine ej_iconst B.1 (v := 0) d_E_isPlace_14 rfl ?_
  exact ej_le (lv' := [none]) trivial (ew_E_isPlace_15 B 0 σ _ h)
set_option maxRecDepth 100000 in
set_option maxHeartbeats 4000000 in
theorem ec_E_isPlace {l : Launch} {G : er_G} (hE : er_Pr G 0 21) (x0 : Int32) (σ : er_S) (r : Int32) (h : ef_E_isPlace x0 σ = some r) : er_Con l y_E_isPlace w_E_isPlace 0 0 0 0 G [.int x0] σ ((.inl (some (.int r)), σ)) := by
  refine er_ofJ (ret := some .boolean) (cc := b_E_isPlace) (maxL := 1) (lv0 := [some (.int x0)]) (hh := []) (by decide +kernel) rfl (Or.inl rfl) (by intro v hv; simp only [List.mem_cons, List.not_mem_nil, or_false] at hv; rcases hv with rfl <;> rfl) (Nat.le_of_ble_eq_true rfl) ?_
  intro p e s m args below meth c hadm C hr hlk hml hw hnm hm hcd
  have B : er_B p s m c meth b_E_isPlace "EntryRows" G (some .boolean) 1 0 21 := ⟨C, hr, hlk, hml, hE, er_noh hw hnm hm hcd⟩
  unfold ef_E_isPlace at h
  refine ej_iload_n B.1 d_E_isPlace_0 rfl ?_
  refine ej_if_lt B.1 (tgt := 14) d_E_isPlace_1 (by decide) (fun q1 => ?_) (fun q1 => ?_)
  · replace h := er_it h q1
    exact ej_le (lv' := [none]) trivial (ew_E_isPlace_14 B σ _ h)
  · replace h := er_if h q1
    refine ej_iload_n B.1 d_E_isPlace_4 rfl ?_
    refine ej_bipush B.1 (v := 6) d_E_isPlace_5 (by decide +kernel) ?_
    refine ej_icmp_ge B.1 (tgt := 14) d_E_isPlace_7 (by decide) (fun q3 => ?_) (fun q3 => ?_)
    · replace h := er_it h q3
      exact ej_le (lv' := [none]) trivial (ew_E_isPlace_14 B σ _ h)
    · replace h := er_if h q3
      refine ej_iconst B.1 (v := 1) d_E_isPlace_10 rfl ?_
      refine ej_goto B.1 (tgt := 15) d_E_isPlace_11 (by decide) ?_
      exact ej_le (lv' := [none]) trivial (ew_E_isPlace_15 B 1 σ _ h)
set_option maxRecDepth 100000 in
set_option maxHeartbeats 4000000 in
theorem ec_E_heat {l : Launch} {G : er_G} (hl : l.stackTraces = false) (hE : er_Pr G 0 21) (x1 x2 : Int32) (σ : er_S) (r : (Unit ⊕ Nat) × er_S) (h : ef_E_heat x1 x2 σ = some r) : er_Con l y_E_heat w_E_heat 7 105 (er_nc r.1) (er_ns r.1) G [.ref 0, .int x1, .int x2] σ (er_cvu r) := by
  refine er_ofJ (ret := none) (cc := b_E_heat) (maxL := 3) (lv0 := [some (.ref 0), some (.int x1), some (.int x2)]) (hh := []) (by decide +kernel) rfl (Or.inl rfl) (by intro v hv; simp only [List.mem_cons, List.not_mem_nil, or_false] at hv; rcases hv with rfl | rfl | rfl <;> rfl) (Nat.le_of_ble_eq_true rfl) ?_
  intro p e s m args below meth c hadm C hr hlk hml hw hnm hm hcd
  have B : er_B p s m c meth b_E_heat "EntryRows" G (none) 3 0 21 := ⟨C, hr, hlk, hml, hE, er_noh hw hnm hm hcd⟩
  have hl := And.intro hadm hl
  unfold ef_E_heat at h
  refine ej_iload_n B.1 d_E_heat_0 rfl ?_
  obtain ⟨v1, e2, h⟩ := er_bd_some h
  refine ej_cs_i (nc := 0) (ns := 0) B.1 [.int x1] [] (ec_E_isPlace (er_pr B) x1 σ v1 e2) cal_E_isPlace lk_E_95 st_E_isPlace rfl B.2.2.2.1 d_E_heat_1 ⟨Nat.le_of_ble_eq_true rfl, Nat.le_of_ble_eq_true rfl, Nat.zero_le _, Nat.zero_le _⟩ (Nat.le_of_ble_eq_true rfl) rfl ?_
  rcases er_tb_some h with ⟨v3, g5, e4, h⟩ | ⟨k11, g5, e4, h⟩
  · refine ej_cs_v (nc := 0) (ns := 0) B.1 [.int v1] [] (ec_E_requireKnown hl.2 (er_pr B) v1 σ (.inl v3, g5) e4) cal_E_requireKnown lk_E_99 st_E_requireKnown rfl B.2.2.2.1 d_E_heat_4 ⟨Nat.le_of_ble_eq_true rfl, Nat.le_of_ble_eq_true rfl, Nat.zero_le _, Nat.zero_le _⟩ (Nat.le_of_ble_eq_true rfl) rfl ?_
    refine ej_iload_n B.1 d_E_heat_7 rfl ?_
    refine ej_iconst B.1 (v := 0) d_E_heat_8 rfl ?_
    refine ej_bipush B.1 (v := 100) d_E_heat_9 (by decide +kernel) ?_
    rcases er_tb_some h with ⟨v6, g8, e7, h⟩ | ⟨k10, g8, e7, h⟩
    · refine ej_cs_v (nc := 0) (ns := 0) B.1 [.int x2, .int 0, .int 100] [] (ec_E_requireRange hl.2 (er_pr B) x2 0 100 g5 (.inl v6, g8) e7) cal_E_requireRange lk_E_46 st_E_requireRange rfl B.2.2.2.1 d_E_heat_11 ⟨Nat.le_of_ble_eq_true rfl, Nat.le_of_ble_eq_true rfl, Nat.zero_le _, Nat.zero_le _⟩ (Nat.le_of_ble_eq_true rfl) rfl ?_
      refine ej_aload_n B.1 d_E_heat_14 rfl ?_
      refine ej_getr B.1 (er_at B 0 rfl rfl) rfl rfl fl_E_27 d_E_heat_15 ?_
      refine ej_iload_n B.1 d_E_heat_18 rfl ?_
      refine ej_iload_n B.1 d_E_heat_19 rfl ?_
      obtain ⟨e9, h⟩ := er_gd_some h
      refine ej_iast B.1 (er_at B 4 rfl rfl) rfl e9 d_E_heat_20 ?_
      cases h
      exact ej_vret B.1 B.2.1 B.2.2.1 (Nat.zero_le _) (Nat.zero_le _) d_E_heat_21
    · subst h
      exact ej_cs_t (nc := 1) (ns := 6) B.1 [.int x2, .int 0, .int 100] [] (ec_E_requireRange hl.2 (er_pr B) x2 0 100 g5 (.inr k10, g8) e7) cal_E_requireRange lk_E_46 st_E_requireRange rfl B.2.2.2.1 d_E_heat_11 ⟨Nat.le_of_ble_eq_true rfl, Nat.le_of_ble_eq_true rfl, Nat.le_of_ble_eq_true rfl, Nat.le_of_ble_eq_true rfl⟩ (Nat.le_of_ble_eq_true rfl) rfl B.2.2.1 (B.2.2.2.2.2 _) ⟨Nat.le_of_ble_eq_true rfl, Nat.le_of_ble_eq_true rfl⟩
  · subst h
    exact ej_cs_t (nc := 1) (ns := 6) B.1 [.int v1] [] (ec_E_requireKnown hl.2 (er_pr B) v1 σ (.inr k11, g5) e4) cal_E_requireKnown lk_E_99 st_E_requireKnown rfl B.2.2.2.1 d_E_heat_4 ⟨Nat.le_of_ble_eq_true rfl, Nat.le_of_ble_eq_true rfl, Nat.le_of_ble_eq_true rfl, Nat.le_of_ble_eq_true rfl⟩ (Nat.le_of_ble_eq_true rfl) rfl B.2.2.1 (B.2.2.2.2.2 _) ⟨Nat.le_of_ble_eq_true rfl, Nat.le_of_ble_eq_true rfl⟩
set_option maxRecDepth 100000 in
set_option maxHeartbeats 4000000 in
theorem ew_E_requireTeam_15 {p : Program} {l : Launch} {e : Env} {s : State} {m : MethodId} {args : Array Value} {below : List Frame} {meth : Method} {c : Code} {G : er_G} (hl : l.admits e ∧ l.stackTraces = false) (B : er_B p s m c meth b_E_requireTeam "EntryRows" G (none) 1 0 21) (t0 : Int32) (σ : er_S) (r : (Unit ⊕ Nat) × er_S) (h : ef_E_requireTeam_15 t0 σ = some r) : er_J p l e { frames := 7, cells := er_nc r.1, slots := er_ns r.1, locals := 103 } s m args below meth c G (er_A G s.heap.size) s.heap (er_fin below G s (er_nc r.1) (er_ns r.1) (er_cvu r)) 0 0 σ 15 [none] [.int t0] := by
  unfold ef_E_requireTeam_15 at h
  rcases er_tb_some h with ⟨v2, g4, e3, h⟩ | ⟨k5, g4, e3, h⟩
  · refine ej_cs_v (nc := 0) (ns := 0) B.1 [.int t0] [] (ec_E_requireKnown hl.2 (er_pr B) t0 σ (.inl v2, g4) e3) cal_E_requireKnown lk_E_99 st_E_requireKnown rfl B.2.2.2.1 d_E_requireTeam_15 ⟨Nat.le_of_ble_eq_true rfl, Nat.le_of_ble_eq_true rfl, Nat.zero_le _, Nat.zero_le _⟩ (Nat.le_of_ble_eq_true rfl) rfl ?_
    cases h
    exact ej_vret B.1 B.2.1 B.2.2.1 (Nat.zero_le _) (Nat.zero_le _) d_E_requireTeam_18
  · subst h
    exact ej_cs_t (nc := 1) (ns := 6) B.1 [.int t0] [] (ec_E_requireKnown hl.2 (er_pr B) t0 σ (.inr k5, g4) e3) cal_E_requireKnown lk_E_99 st_E_requireKnown rfl B.2.2.2.1 d_E_requireTeam_15 ⟨Nat.le_of_ble_eq_true rfl, Nat.le_of_ble_eq_true rfl, Nat.le_of_ble_eq_true rfl, Nat.le_of_ble_eq_true rfl⟩ (Nat.le_of_ble_eq_true rfl) rfl B.2.2.1 (B.2.2.2.2.2 _) ⟨Nat.le_of_ble_eq_true rfl, Nat.le_of_ble_eq_true rfl⟩
set_option maxRecDepth 100000 in
set_option maxHeartbeats 4000000 in
theorem ew_E_requireTeam_14 {p : Program} {l : Launch} {e : Env} {s : State} {m : MethodId} {args : Array Value} {below : List Frame} {meth : Method} {c : Code} {G : er_G} (hl : l.admits e ∧ l.stackTraces = false) (B : er_B p s m c meth b_E_requireTeam "EntryRows" G (none) 1 0 21) (σ : er_S) (r : (Unit ⊕ Nat) × er_S) (h : ef_E_requireTeam_14  σ = some r) : er_J p l e { frames := 7, cells := er_nc r.1, slots := er_ns r.1, locals := 103 } s m args below meth c G (er_A G s.heap.size) s.heap (er_fin below G s (er_nc r.1) (er_ns r.1) (er_cvu r)) 0 0 σ 14 [none] [] := by
  unfold ef_E_requireTeam_14 at h
  refine ej_iconst B.1 (v := 0) d_E_requireTeam_14 rfl ?_
  exact ej_le (lv' := [none]) trivial (ew_E_requireTeam_15 hl B 0 σ _ h)
set_option maxRecDepth 100000 in
set_option maxHeartbeats 4000000 in
theorem ec_E_requireTeam {l : Launch} {G : er_G} (hl : l.stackTraces = false) (hE : er_Pr G 0 21) (x0 : Int32) (σ : er_S) (r : (Unit ⊕ Nat) × er_S) (h : ef_E_requireTeam x0 σ = some r) : er_Con l y_E_requireTeam w_E_requireTeam 7 103 (er_nc r.1) (er_ns r.1) G [.int x0] σ (er_cvu r) := by
  refine er_ofJ (ret := none) (cc := b_E_requireTeam) (maxL := 1) (lv0 := [some (.int x0)]) (hh := []) (by decide +kernel) rfl (Or.inl rfl) (by intro v hv; simp only [List.mem_cons, List.not_mem_nil, or_false] at hv; rcases hv with rfl <;> rfl) (Nat.le_of_ble_eq_true rfl) ?_
  intro p e s m args below meth c hadm C hr hlk hml hw hnm hm hcd
  have B : er_B p s m c meth b_E_requireTeam "EntryRows" G (none) 1 0 21 := ⟨C, hr, hlk, hml, hE, er_noh hw hnm hm hcd⟩
  have hl := And.intro hadm hl
  unfold ef_E_requireTeam at h
  refine ej_iload_n B.1 d_E_requireTeam_0 rfl ?_
  refine ej_if_lt B.1 (tgt := 14) d_E_requireTeam_1 (by decide) (fun q1 => ?_) (fun q1 => ?_)
  · replace h := er_it h q1
    exact ej_le (lv' := [none]) trivial (ew_E_requireTeam_14 hl B σ _ h)
  · replace h := er_if h q1
    refine ej_iload_n B.1 d_E_requireTeam_4 rfl ?_
    refine ej_bipush B.1 (v := 16) d_E_requireTeam_5 (by decide +kernel) ?_
    refine ej_icmp_ge B.1 (tgt := 14) d_E_requireTeam_7 (by decide) (fun q6 => ?_) (fun q6 => ?_)
    · replace h := er_it h q6
      exact ej_le (lv' := [none]) trivial (ew_E_requireTeam_14 hl B σ _ h)
    · replace h := er_if h q6
      refine ej_iconst B.1 (v := 1) d_E_requireTeam_10 rfl ?_
      refine ej_goto B.1 (tgt := 15) d_E_requireTeam_11 (by decide) ?_
      exact ej_le (lv' := [none]) trivial (ew_E_requireTeam_15 hl B 1 σ _ h)
set_option maxRecDepth 100000 in
set_option maxHeartbeats 4000000 in
theorem ew_P_sizeOfTeam_4 {p : Program} {l : Launch} {e : Env} {s : State} {m : MethodId} {args : Array Value} {below : List Frame} {meth : Method} {c : Code} {G : er_G} (B : er_B p s m c meth b_P_sizeOfTeam "EntryRows$Persons" G (some .int) 4 0 21) : ∀ (n : Nat) (x1 x2 x3 : Int32) (σ : er_S) (r : Int32), ef_P_sizeOfTeam_4 n x1 x2 x3 σ = some r → er_J p l e { frames := 0, cells := 0, slots := 0, locals := 0 } s m args below meth c G (er_A G s.heap.size) s.heap (er_fin below G s 0 0 (.inl (some (.int r)), σ)) 0 0 σ 4 [some (.ref 1), some (.int x1), some (.int x2), some (.int x3)] [] := by
  intro n
  induction n with
  | zero => intro x1 x2 x3 σ r h; cases h
  | succ n ih =>
    intro x1 x2 x3 σ r h
    rw [ef_P_sizeOfTeam_4] at h
    refine ej_iload_n B.1 d_P_sizeOfTeam_4 rfl ?_
    refine ej_bipush B.1 (v := 40) d_P_sizeOfTeam_5 (by decide +kernel) ?_
    refine ej_icmp_ge B.1 (tgt := 29) d_P_sizeOfTeam_7 (by decide) (fun q1 => ?_) (fun q1 => ?_)
    · replace h := er_it h q1
      refine ej_iload_n B.1 d_P_sizeOfTeam_29 rfl ?_
      cases h
      exact ej_iret B.1 B.2.1 B.2.2.1 (Nat.zero_le _) (Nat.zero_le _) d_P_sizeOfTeam_30
    · replace h := er_if h q1
      refine ej_aload_n B.1 d_P_sizeOfTeam_10 rfl ?_
      refine ej_getr B.1 (er_at B 1 rfl rfl) rfl rfl fl_P_36 d_P_sizeOfTeam_11 ?_
      refine ej_iload_n B.1 d_P_sizeOfTeam_14 rfl ?_
      obtain ⟨e2, h⟩ := er_gd_some h
      refine ej_iald B.1 (er_at B 13 rfl rfl) rfl e2 d_P_sizeOfTeam_15 ?_
      refine ej_iload_n B.1 d_P_sizeOfTeam_16 rfl ?_
      refine ej_icmp_ne B.1 (tgt := 23) d_P_sizeOfTeam_17 (by decide) (fun q3 => ?_) (fun q3 => ?_)
      · replace h := er_if h q3
        refine ej_iinc B.1 (v := x3 + 1) (lv' := [some (.ref 1), some (.int x1), some (.int x2), some (.int (x3 + 1))]) d_P_sizeOfTeam_23 rfl rfl rfl rfl rfl ?_
        refine ej_goto B.1 (tgt := 4) d_P_sizeOfTeam_26 (by decide) ?_
        exact ej_le (lv' := [some (.ref 1), some (.int x1), some (.int x2), some (.int (x3 + 1))]) ⟨rfl, ⟨rfl, ⟨rfl, ⟨rfl, trivial⟩⟩⟩⟩ (ih x1 x2 (x3 + 1) σ _ h)
      · replace h := er_it h q3
        refine ej_iinc B.1 (v := x2 + 1) (lv' := [some (.ref 1), some (.int x1), some (.int (x2 + 1)), some (.int x3)]) d_P_sizeOfTeam_20 rfl rfl rfl rfl rfl ?_
        refine ej_iinc B.1 (v := x3 + 1) (lv' := [some (.ref 1), some (.int x1), some (.int (x2 + 1)), some (.int (x3 + 1))]) d_P_sizeOfTeam_23 rfl rfl rfl rfl rfl ?_
        refine ej_goto B.1 (tgt := 4) d_P_sizeOfTeam_26 (by decide) ?_
        exact ej_le (lv' := [some (.ref 1), some (.int x1), some (.int (x2 + 1)), some (.int (x3 + 1))]) ⟨rfl, ⟨rfl, ⟨rfl, ⟨rfl, trivial⟩⟩⟩⟩ (ih x1 (x2 + 1) (x3 + 1) σ _ h)
set_option maxRecDepth 100000 in
set_option maxHeartbeats 4000000 in
theorem ec_P_sizeOfTeam {l : Launch} {G : er_G} (hE : er_Pr G 0 21) (x1 : Int32) (σ : er_S) (r : Int32) (h : ef_P_sizeOfTeam x1 σ = some r) : er_Con l y_P_sizeOfTeam w_P_sizeOfTeam 0 0 0 0 G [.ref 1, .int x1] σ ((.inl (some (.int r)), σ)) := by
  refine er_ofJ (ret := some .int) (cc := b_P_sizeOfTeam) (maxL := 4) (lv0 := [some (.ref 1), some (.int x1), none, none]) (hh := []) (by decide +kernel) rfl (Or.inl rfl) (by intro v hv; simp only [List.mem_cons, List.not_mem_nil, or_false] at hv; rcases hv with rfl | rfl <;> rfl) (Nat.le_of_ble_eq_true rfl) ?_
  intro p e s m args below meth c hadm C hr hlk hml hw hnm hm hcd
  have B : er_B p s m c meth b_P_sizeOfTeam "EntryRows$Persons" G (some .int) 4 0 21 := ⟨C, hr, hlk, hml, hE, er_noh hw hnm hm hcd⟩
  unfold ef_P_sizeOfTeam at h
  refine ej_iconst B.1 (v := 0) d_P_sizeOfTeam_0 rfl ?_
  refine ej_istore_n B.1 (lv' := [some (.ref 1), some (.int x1), some (.int 0), none]) d_P_sizeOfTeam_1 rfl rfl rfl ?_
  refine ej_iconst B.1 (v := 0) d_P_sizeOfTeam_2 rfl ?_
  refine ej_istore_n B.1 (lv' := [some (.ref 1), some (.int x1), some (.int 0), some (.int 0)]) d_P_sizeOfTeam_3 rfl rfl rfl ?_
  exact ej_le (lv' := [some (.ref 1), some (.int x1), some (.int 0), some (.int 0)]) ⟨rfl, ⟨rfl, ⟨rfl, ⟨rfl, trivial⟩⟩⟩⟩ (ew_P_sizeOfTeam_4 B 64 x1 0 0 σ _ h)
set_option maxRecDepth 100000 in
set_option maxHeartbeats 4000000 in
theorem ew_E_member_86 {p : Program} {l : Launch} {e : Env} {s : State} {m : MethodId} {args : Array Value} {below : List Frame} {meth : Method} {c : Code} {G : er_G} (hl : l.admits e ∧ l.stackTraces = false) (B : er_B p s m c meth b_E_member "EntryRows" G (some .int) 4 0 21) (x1 t1 t2 : Int32) (σ : er_S) (r : (Int32 ⊕ Nat) × er_S) (h : ef_E_member_86 x1 t1 t2 σ = some r) : er_J p l e { frames := 8, cells := er_nc r.1, slots := er_ns r.1, locals := 124 } s m args below meth c G (er_A G s.heap.size) s.heap (er_fin below G s (er_nc r.1) (er_ns r.1) (er_cvi r)) 0 0 σ 86 [some (.ref 0), some (.int x1), none, none] [.int t2, .int t1, .ref 13] := by
  unfold ef_E_member_86 at h
  obtain ⟨e18, h⟩ := er_gd_some h
  refine ej_iast B.1 (er_at B 13 rfl rfl) rfl e18 d_E_member_86 ?_
  refine ej_aload_n B.1 d_E_member_87 rfl ?_
  refine ej_getr B.1 (er_at B 0 rfl rfl) rfl rfl fl_E_10 d_E_member_88 ?_
  refine ej_iload_n B.1 d_E_member_91 rfl ?_
  obtain ⟨v19, e20, h⟩ := er_bd_some h
  refine ej_cv_i (nc := 0) (ns := 0) B.1 [.int x1] [] (ec_P_sizeOfTeam (er_pr B) x1 (er_up σ 13 (er_ix t1) t2) v19 e20) cal_P_sizeOfTeam lk_E_108 in_P_sizeOfTeam (er_at B 1 rfl rfl) rfl rfl se_P_sizeOfTeam rfl B.2.2.2.1 d_E_member_92 ⟨Nat.le_of_ble_eq_true rfl, Nat.le_of_ble_eq_true rfl, Nat.zero_le _, Nat.zero_le _⟩ (Nat.le_of_ble_eq_true rfl) rfl ?_
  cases h
  exact ej_iret B.1 B.2.1 B.2.2.1 (Nat.zero_le _) (Nat.zero_le _) d_E_member_95
set_option maxRecDepth 100000 in
set_option maxHeartbeats 4000000 in
theorem ew_E_member_69 {p : Program} {l : Launch} {e : Env} {s : State} {m : MethodId} {args : Array Value} {below : List Frame} {meth : Method} {c : Code} {G : er_G} (hl : l.admits e ∧ l.stackTraces = false) (B : er_B p s m c meth b_E_member "EntryRows" G (some .int) 4 0 21) (x1 x2 x3 : Int32) (σ : er_S) (r : (Int32 ⊕ Nat) × er_S) (h : ef_E_member_69 x1 x2 x3 σ = some r) : er_J p l e { frames := 8, cells := er_nc r.1, slots := er_ns r.1, locals := 124 } s m args below meth c G (er_A G s.heap.size) s.heap (er_fin below G s (er_nc r.1) (er_ns r.1) (er_cvi r)) 0 0 σ 69 [some (.ref 0), some (.int x1), some (.int x2), some (.int x3)] [] := by
  unfold ef_E_member_69 at h
  refine ej_aload_n B.1 d_E_member_69 rfl ?_
  refine ej_getr B.1 (er_at B 0 rfl rfl) rfl rfl fl_E_10 d_E_member_70 ?_
  refine ej_getr B.1 (er_at B 1 rfl rfl) rfl rfl fl_E_105 d_E_member_73 ?_
  refine ej_iload_n B.1 d_E_member_76 rfl ?_
  refine ej_iload_n B.1 d_E_member_77 rfl ?_
  refine ej_if_eq B.1 (tgt := 85) d_E_member_78 (by decide) (fun q17 => ?_) (fun q17 => ?_)
  · replace h := er_it h q17
    refine ej_iconst B.1 (v := (-1)) d_E_member_85 rfl ?_
    exact ej_le (lv' := [some (.ref 0), some (.int x1), none, none]) ⟨rfl, ⟨rfl, trivial⟩⟩ (ew_E_member_86 hl B x1 x2 (-1) σ _ h)
  · replace h := er_if h q17
    refine ej_iload_n B.1 d_E_member_81 rfl ?_
    refine ej_goto B.1 (tgt := 86) d_E_member_82 (by decide) ?_
    exact ej_le (lv' := [some (.ref 0), some (.int x1), none, none]) ⟨rfl, ⟨rfl, trivial⟩⟩ (ew_E_member_86 hl B x1 x2 x1 σ _ h)
set_option maxRecDepth 100000 in
set_option maxHeartbeats 4000000 in
theorem ew_E_member_34 {p : Program} {l : Launch} {e : Env} {s : State} {m : MethodId} {args : Array Value} {below : List Frame} {meth : Method} {c : Code} {G : er_G} (hl : l.admits e ∧ l.stackTraces = false) (B : er_B p s m c meth b_E_member "EntryRows" G (some .int) 4 0 21) (x1 x2 x3 t0 : Int32) (σ : er_S) (r : (Int32 ⊕ Nat) × er_S) (h : ef_E_member_34 x1 x2 x3 t0 σ = some r) : er_J p l e { frames := 8, cells := er_nc r.1, slots := er_ns r.1, locals := 124 } s m args below meth c G (er_A G s.heap.size) s.heap (er_fin below G s (er_nc r.1) (er_ns r.1) (er_cvi r)) 0 0 σ 34 [some (.ref 0), some (.int x1), some (.int x2), some (.int x3)] [.int t0] := by
  unfold ef_E_member_34 at h
  rcases er_tb_some h with ⟨v10, g12, e11, h⟩ | ⟨k25, g12, e11, h⟩
  · refine ej_cs_v (nc := 0) (ns := 0) B.1 [.int t0] [] (ec_E_requireState hl.2 (er_pr B) t0 σ (.inl v10, g12) e11) cal_E_requireState lk_E_81 st_E_requireState rfl B.2.2.2.1 d_E_member_34 ⟨Nat.le_of_ble_eq_true rfl, Nat.le_of_ble_eq_true rfl, Nat.zero_le _, Nat.zero_le _⟩ (Nat.le_of_ble_eq_true rfl) rfl ?_
    refine ej_aload_n B.1 d_E_member_37 rfl ?_
    refine ej_iload_n B.1 d_E_member_38 rfl ?_
    rcases er_tb_some h with ⟨v13, g15, e14, h⟩ | ⟨k24, g15, e14, h⟩
    · refine ej_cv_v (nc := 0) (ns := 0) B.1 [.int x2] [] (ec_E_requireOutside hl.2 (er_pr B) x2 g12 (.inl v13, g15) e14) cal_E_requireOutside lk_E_75 in_E_requireOutside (er_at B 0 rfl rfl) rfl rfl se_E_requireOutside rfl B.2.2.2.1 d_E_member_39 ⟨Nat.le_of_ble_eq_true rfl, Nat.le_of_ble_eq_true rfl, Nat.zero_le _, Nat.zero_le _⟩ (Nat.le_of_ble_eq_true rfl) rfl ?_
      refine ej_iload_n B.1 d_E_member_42 rfl ?_
      refine ej_if_eq B.1 (tgt := 69) d_E_member_43 (by decide) (fun q16 => ?_) (fun q16 => ?_)
      · replace h := er_it h q16
        exact ej_le (lv' := [some (.ref 0), some (.int x1), some (.int x2), some (.int x3)]) ⟨rfl, ⟨rfl, ⟨rfl, ⟨rfl, trivial⟩⟩⟩⟩ (ew_E_member_69 hl B x1 x2 x3 g15 _ h)
      · replace h := er_if h q16
        refine ej_aload_n B.1 d_E_member_46 rfl ?_
        refine ej_getr B.1 (er_at B 0 rfl rfl) rfl rfl fl_E_10 d_E_member_47 ?_
        refine ej_iload_n B.1 d_E_member_50 rfl ?_
        obtain ⟨v21, e22, h⟩ := er_bd_some h
        refine ej_cv_i (nc := 0) (ns := 0) B.1 [.int x1] [] (ec_P_sizeOfTeam (er_pr B) x1 g15 v21 e22) cal_P_sizeOfTeam lk_E_108 in_P_sizeOfTeam (er_at B 1 rfl rfl) rfl rfl se_P_sizeOfTeam rfl B.2.2.2.1 d_E_member_51 ⟨Nat.le_of_ble_eq_true rfl, Nat.le_of_ble_eq_true rfl, Nat.zero_le _, Nat.zero_le _⟩ (Nat.le_of_ble_eq_true rfl) rfl ?_
        refine ej_bipush B.1 (v := 6) d_E_member_54 (by decide +kernel) ?_
        refine ej_icmp_lt B.1 (tgt := 69) d_E_member_56 (by decide) (fun q23 => ?_) (fun q23 => ?_)
        · replace h := er_it h q23
          exact ej_le (lv' := [some (.ref 0), some (.int x1), some (.int x2), some (.int x3)]) ⟨rfl, ⟨rfl, ⟨rfl, ⟨rfl, trivial⟩⟩⟩⟩ (ew_E_member_69 hl B x1 x2 x3 g15 _ h)
        · replace h := er_if h q23
          cases h
          exact th_E_member_59 B hl
    · subst h
      exact ej_cv_t (nc := 1) (ns := 6) B.1 [.int x2] [] (ec_E_requireOutside hl.2 (er_pr B) x2 g12 (.inr k24, g15) e14) cal_E_requireOutside lk_E_75 in_E_requireOutside (er_at B 0 rfl rfl) rfl rfl se_E_requireOutside rfl B.2.2.2.1 d_E_member_39 ⟨Nat.le_of_ble_eq_true rfl, Nat.le_of_ble_eq_true rfl, Nat.le_of_ble_eq_true rfl, Nat.le_of_ble_eq_true rfl⟩ (Nat.le_of_ble_eq_true rfl) rfl B.2.2.1 (B.2.2.2.2.2 _) ⟨Nat.le_of_ble_eq_true rfl, Nat.le_of_ble_eq_true rfl⟩
  · subst h
    exact ej_cs_t (nc := 1) (ns := 6) B.1 [.int t0] [] (ec_E_requireState hl.2 (er_pr B) t0 σ (.inr k25, g12) e11) cal_E_requireState lk_E_81 st_E_requireState rfl B.2.2.2.1 d_E_member_34 ⟨Nat.le_of_ble_eq_true rfl, Nat.le_of_ble_eq_true rfl, Nat.le_of_ble_eq_true rfl, Nat.le_of_ble_eq_true rfl⟩ (Nat.le_of_ble_eq_true rfl) rfl B.2.2.1 (B.2.2.2.2.2 _) ⟨Nat.le_of_ble_eq_true rfl, Nat.le_of_ble_eq_true rfl⟩
set_option maxRecDepth 100000 in
set_option maxHeartbeats 4000000 in
theorem ew_E_member_26 {p : Program} {l : Launch} {e : Env} {s : State} {m : MethodId} {args : Array Value} {below : List Frame} {meth : Method} {c : Code} {G : er_G} (hl : l.admits e ∧ l.stackTraces = false) (B : er_B p s m c meth b_E_member "EntryRows" G (some .int) 4 0 21) (x1 x2 x3 t0 t1 : Int32) (σ : er_S) (r : (Int32 ⊕ Nat) × er_S) (h : ef_E_member_26 x1 x2 x3 t0 t1 σ = some r) : er_J p l e { frames := 8, cells := er_nc r.1, slots := er_ns r.1, locals := 124 } s m args below meth c G (er_A G s.heap.size) s.heap (er_fin below G s (er_nc r.1) (er_ns r.1) (er_cvi r)) 0 0 σ 26 [some (.ref 0), some (.int x1), some (.int x2), some (.int x3)] [.int t1, .int t0] := by
  unfold ef_E_member_26 at h
  refine ej_icmp_ne B.1 (tgt := 33) d_E_member_26 (by decide) (fun q9 => ?_) (fun q9 => ?_)
  · replace h := er_if h q9
    refine ej_iconst B.1 (v := 0) d_E_member_33 rfl ?_
    exact ej_le (lv' := [some (.ref 0), some (.int x1), some (.int x2), some (.int x3)]) ⟨rfl, ⟨rfl, ⟨rfl, ⟨rfl, trivial⟩⟩⟩⟩ (ew_E_member_34 hl B x1 x2 x3 0 σ _ h)
  · replace h := er_it h q9
    refine ej_iconst B.1 (v := 1) d_E_member_29 rfl ?_
    refine ej_goto B.1 (tgt := 34) d_E_member_30 (by decide) ?_
    exact ej_le (lv' := [some (.ref 0), some (.int x1), some (.int x2), some (.int x3)]) ⟨rfl, ⟨rfl, ⟨rfl, ⟨rfl, trivial⟩⟩⟩⟩ (ew_E_member_34 hl B x1 x2 x3 1 σ _ h)
set_option maxRecDepth 100000 in
set_option maxHeartbeats 4000000 in
theorem ec_E_member {l : Launch} {G : er_G} (hl : l.stackTraces = false) (hE : er_Pr G 0 21) (x1 x2 x3 : Int32) (σ : er_S) (r : (Int32 ⊕ Nat) × er_S) (h : ef_E_member x1 x2 x3 σ = some r) : er_Con l y_E_member w_E_member 8 124 (er_nc r.1) (er_ns r.1) G [.ref 0, .int x1, .int x2, .int x3] σ (er_cvi r) := by
  refine er_ofJ (ret := some .int) (cc := b_E_member) (maxL := 4) (lv0 := [some (.ref 0), some (.int x1), some (.int x2), some (.int x3)]) (hh := []) (by decide +kernel) rfl (Or.inl rfl) (by intro v hv; simp only [List.mem_cons, List.not_mem_nil, or_false] at hv; rcases hv with rfl | rfl | rfl | rfl <;> rfl) (Nat.le_of_ble_eq_true rfl) ?_
  intro p e s m args below meth c hadm C hr hlk hml hw hnm hm hcd
  have B : er_B p s m c meth b_E_member "EntryRows" G (some .int) 4 0 21 := ⟨C, hr, hlk, hml, hE, er_noh hw hnm hm hcd⟩
  have hl := And.intro hadm hl
  unfold ef_E_member at h
  refine ej_iload_n B.1 d_E_member_0 rfl ?_
  rcases er_tb_some h with ⟨v1, g3, e2, h⟩ | ⟨k27, g3, e2, h⟩
  · refine ej_cs_v (nc := 0) (ns := 0) B.1 [.int x1] [] (ec_E_requireTeam hl.2 (er_pr B) x1 σ (.inl v1, g3) e2) cal_E_requireTeam lk_E_102 st_E_requireTeam rfl B.2.2.2.1 d_E_member_1 ⟨Nat.le_of_ble_eq_true rfl, Nat.le_of_ble_eq_true rfl, Nat.zero_le _, Nat.zero_le _⟩ (Nat.le_of_ble_eq_true rfl) rfl ?_
    refine ej_iload_n B.1 d_E_member_4 rfl ?_
    rcases er_tb_some h with ⟨v4, g6, e5, h⟩ | ⟨k26, g6, e5, h⟩
    · refine ej_cs_v (nc := 0) (ns := 0) B.1 [.int x2] [] (ec_E_requirePerson hl.2 (er_pr B) x2 g3 (.inl v4, g6) e5) cal_E_requirePerson lk_E_69 st_E_requirePerson rfl B.2.2.2.1 d_E_member_5 ⟨Nat.le_of_ble_eq_true rfl, Nat.le_of_ble_eq_true rfl, Nat.zero_le _, Nat.zero_le _⟩ (Nat.le_of_ble_eq_true rfl) rfl ?_
      refine ej_aload_n B.1 d_E_member_8 rfl ?_
      refine ej_getr B.1 (er_at B 0 rfl rfl) rfl rfl fl_E_10 d_E_member_9 ?_
      refine ej_getr B.1 (er_at B 1 rfl rfl) rfl rfl fl_E_105 d_E_member_12 ?_
      refine ej_iload_n B.1 d_E_member_15 rfl ?_
      obtain ⟨e7, h⟩ := er_gd_some h
      refine ej_iald B.1 (er_at B 13 rfl rfl) rfl e7 d_E_member_16 ?_
      refine ej_iload_n B.1 d_E_member_17 rfl ?_
      refine ej_if_eq B.1 (tgt := 25) d_E_member_18 (by decide) (fun q8 => ?_) (fun q8 => ?_)
      · replace h := er_it h q8
        refine ej_iload_n B.1 d_E_member_25 rfl ?_
        exact ej_le (lv' := [some (.ref 0), some (.int x1), some (.int x2), some (.int x3)]) ⟨rfl, ⟨rfl, ⟨rfl, ⟨rfl, trivial⟩⟩⟩⟩ (ew_E_member_26 hl B x1 x2 x3 (g6 13 (er_ix x2)) x1 g6 _ h)
      · replace h := er_if h q8
        refine ej_iconst B.1 (v := (-1)) d_E_member_21 rfl ?_
        refine ej_goto B.1 (tgt := 26) d_E_member_22 (by decide) ?_
        exact ej_le (lv' := [some (.ref 0), some (.int x1), some (.int x2), some (.int x3)]) ⟨rfl, ⟨rfl, ⟨rfl, ⟨rfl, trivial⟩⟩⟩⟩ (ew_E_member_26 hl B x1 x2 x3 (g6 13 (er_ix x2)) (-1) g6 _ h)
    · subst h
      exact ej_cs_t (nc := 1) (ns := 6) B.1 [.int x2] [] (ec_E_requirePerson hl.2 (er_pr B) x2 g3 (.inr k26, g6) e5) cal_E_requirePerson lk_E_69 st_E_requirePerson rfl B.2.2.2.1 d_E_member_5 ⟨Nat.le_of_ble_eq_true rfl, Nat.le_of_ble_eq_true rfl, Nat.le_of_ble_eq_true rfl, Nat.le_of_ble_eq_true rfl⟩ (Nat.le_of_ble_eq_true rfl) rfl B.2.2.1 (B.2.2.2.2.2 _) ⟨Nat.le_of_ble_eq_true rfl, Nat.le_of_ble_eq_true rfl⟩
  · subst h
    exact ej_cs_t (nc := 1) (ns := 6) B.1 [.int x1] [] (ec_E_requireTeam hl.2 (er_pr B) x1 σ (.inr k27, g3) e2) cal_E_requireTeam lk_E_102 st_E_requireTeam rfl B.2.2.2.1 d_E_member_1 ⟨Nat.le_of_ble_eq_true rfl, Nat.le_of_ble_eq_true rfl, Nat.le_of_ble_eq_true rfl, Nat.le_of_ble_eq_true rfl⟩ (Nat.le_of_ble_eq_true rfl) rfl B.2.2.1 (B.2.2.2.2.2 _) ⟨Nat.le_of_ble_eq_true rfl, Nat.le_of_ble_eq_true rfl⟩
set_option maxRecDepth 100000 in
set_option maxHeartbeats 4000000 in
theorem ew_P_isFree_33 {p : Program} {l : Launch} {e : Env} {s : State} {m : MethodId} {args : Array Value} {below : List Frame} {meth : Method} {c : Code} {G : er_G} (B : er_B p s m c meth b_P_isFree "EntryRows$Persons" G (some .boolean) 3 0 21) (t0 : Int32) (σ : er_S) (r : Int32) (h : ef_P_isFree_33 t0 σ = some r) : er_J p l e { frames := 1, cells := 0, slots := 0, locals := 21 } s m args below meth c G (er_A G s.heap.size) s.heap (er_fin below G s 0 0 (.inl (some (.int r)), σ)) 0 0 σ 33 [none, none, none] [.int t0] := by
  unfold ef_P_isFree_33 at h
  obtain ⟨e4, h⟩ := er_gd_some h
  cases h
  exact ej_zret B.1 B.2.1 B.2.2.1 (Nat.zero_le _) (Nat.zero_le _) e4 d_P_isFree_33
set_option maxRecDepth 100000 in
set_option maxHeartbeats 4000000 in
theorem ew_P_isFree_32 {p : Program} {l : Launch} {e : Env} {s : State} {m : MethodId} {args : Array Value} {below : List Frame} {meth : Method} {c : Code} {G : er_G} (B : er_B p s m c meth b_P_isFree "EntryRows$Persons" G (some .boolean) 3 0 21) (σ : er_S) (r : Int32) (h : ef_P_isFree_32  σ = some r) : er_J p l e { frames := 1, cells := 0, slots := 0, locals := 21 } s m args below meth c G (er_A G s.heap.size) s.heap (er_fin below G s 0 0 (.inl (some (.int r)), σ)) 0 0 σ 32 [none, none, none] [] := by
  unfold ef_P_isFree_32 at h
  refine ej_iconst B.1 (v := 0) d_P_isFree_32 rfl ?_
  exact ej_le (lv' := [none, none, none]) trivial (ew_P_isFree_33 B 0 σ _ h)
set_option maxRecDepth 100000 in
set_option maxHeartbeats 4000000 in
theorem ec_P_isFree {l : Launch} {G : er_G} (hE : er_Pr G 0 21) (x1 x2 : Int32) (σ : er_S) (r : Int32) (h : ef_P_isFree x1 x2 σ = some r) : er_Con l y_P_isFree w_P_isFree 1 21 0 0 G [.ref 1, .int x1, .int x2] σ ((.inl (some (.int r)), σ)) := by
  refine er_ofJ (ret := some .boolean) (cc := b_P_isFree) (maxL := 3) (lv0 := [some (.ref 1), some (.int x1), some (.int x2)]) (hh := []) (by decide +kernel) rfl (Or.inl rfl) (by intro v hv; simp only [List.mem_cons, List.not_mem_nil, or_false] at hv; rcases hv with rfl | rfl | rfl <;> rfl) (Nat.le_of_ble_eq_true rfl) ?_
  intro p e s m args below meth c hadm C hr hlk hml hw hnm hm hcd
  have B : er_B p s m c meth b_P_isFree "EntryRows$Persons" G (some .boolean) 3 0 21 := ⟨C, hr, hlk, hml, hE, er_noh hw hnm hm hcd⟩
  unfold ef_P_isFree at h
  refine ej_aload_n B.1 d_P_isFree_0 rfl ?_
  refine ej_iload_n B.1 d_P_isFree_1 rfl ?_
  obtain ⟨v1, e2, h⟩ := er_bd_some h
  refine ej_cv_i (nc := 0) (ns := 0) B.1 [.int x1] [] (ec_P_isInside (er_pr B) x1 σ v1 e2) cal_P_isInside lk_P_52 in_P_isInside (er_at B 1 rfl rfl) rfl rfl se_P_isInside rfl B.2.2.2.1 d_P_isFree_2 ⟨Nat.le_of_ble_eq_true rfl, Nat.le_of_ble_eq_true rfl, Nat.zero_le _, Nat.zero_le _⟩ (Nat.le_of_ble_eq_true rfl) rfl ?_
  refine ej_if_ne B.1 (tgt := 32) d_P_isFree_5 (by decide) (fun q3 => ?_) (fun q3 => ?_)
  · replace h := er_if h q3
    exact ej_le (lv' := [none, none, none]) trivial (ew_P_isFree_32 B σ _ h)
  · replace h := er_it h q3
    refine ej_iload_n B.1 d_P_isFree_8 rfl ?_
    refine ej_aload_n B.1 d_P_isFree_9 rfl ?_
    refine ej_getr B.1 (er_at B 1 rfl rfl) rfl rfl fl_P_27 d_P_isFree_10 ?_
    refine ej_iload_n B.1 d_P_isFree_13 rfl ?_
    obtain ⟨e5, h⟩ := er_gd_some h
    refine ej_iald B.1 (er_at B 10 rfl rfl) rfl e5 d_P_isFree_14 ?_
    refine ej_icmp_lt B.1 (tgt := 32) d_P_isFree_15 (by decide) (fun q6 => ?_) (fun q6 => ?_)
    · replace h := er_it h q6
      exact ej_le (lv' := [none, none, none]) trivial (ew_P_isFree_32 B σ _ h)
    · replace h := er_if h q6
      refine ej_aload_n B.1 d_P_isFree_18 rfl ?_
      refine ej_getr B.1 (er_at B 1 rfl rfl) rfl rfl fl_P_39 d_P_isFree_19 ?_
      refine ej_iload_n B.1 d_P_isFree_22 rfl ?_
      obtain ⟨e7, h⟩ := er_gd_some h
      refine ej_iald B.1 (er_at B 14 rfl rfl) rfl e7 d_P_isFree_23 ?_
      refine ej_iconst B.1 (v := (-1)) d_P_isFree_24 rfl ?_
      refine ej_icmp_ne B.1 (tgt := 32) d_P_isFree_25 (by decide) (fun q8 => ?_) (fun q8 => ?_)
      · replace h := er_if h q8
        exact ej_le (lv' := [none, none, none]) trivial (ew_P_isFree_32 B σ _ h)
      · replace h := er_it h q8
        refine ej_iconst B.1 (v := 1) d_P_isFree_28 rfl ?_
        refine ej_goto B.1 (tgt := 33) d_P_isFree_29 (by decide) ?_
        exact ej_le (lv' := [none, none, none]) trivial (ew_P_isFree_33 B 1 σ _ h)
set_option maxRecDepth 100000 in
set_option maxHeartbeats 4000000 in
theorem ew_P_isTeamReady_53 {p : Program} {l : Launch} {e : Env} {s : State} {m : MethodId} {args : Array Value} {below : List Frame} {meth : Method} {c : Code} {G : er_G} (B : er_B p s m c meth b_P_isTeamReady "EntryRows$Persons" G (some .boolean) 5 0 21) (t0 : Int32) (σ : er_S) (r : Int32) (h : ef_P_isTeamReady_53 t0 σ = some r) : er_J p l e { frames := 2, cells := 0, slots := 0, locals := 43 } s m args below meth c G (er_A G s.heap.size) s.heap (er_fin below G s 0 0 (.inl (some (.int r)), σ)) 0 0 σ 53 [none, none, none, none, none] [.int t0] := by
  unfold ef_P_isTeamReady_53 at h
  obtain ⟨e5, h⟩ := er_gd_some h
  cases h
  exact ej_zret B.1 B.2.1 B.2.2.1 (Nat.zero_le _) (Nat.zero_le _) e5 d_P_isTeamReady_53
set_option maxRecDepth 100000 in
set_option maxHeartbeats 4000000 in
theorem ew_P_isTeamReady_3 {p : Program} {l : Launch} {e : Env} {s : State} {m : MethodId} {args : Array Value} {below : List Frame} {meth : Method} {c : Code} {G : er_G} (B : er_B p s m c meth b_P_isTeamReady "EntryRows$Persons" G (some .boolean) 5 0 21) : ∀ (n : Nat) (x1 x2 x3 x4 : Int32) (σ : er_S) (r : Int32), ef_P_isTeamReady_3 n x1 x2 x3 x4 σ = some r → er_J p l e { frames := 2, cells := 0, slots := 0, locals := 43 } s m args below meth c G (er_A G s.heap.size) s.heap (er_fin below G s 0 0 (.inl (some (.int r)), σ)) 0 0 σ 3 [some (.ref 1), some (.int x1), some (.int x2), some (.int x3), some (.int x4)] [] := by
  intro n
  induction n with
  | zero => intro x1 x2 x3 x4 σ r h; cases h
  | succ n ih =>
    intro x1 x2 x3 x4 σ r h
    rw [ef_P_isTeamReady_3] at h
    refine ej_iload B.1 d_P_isTeamReady_3 rfl ?_
    refine ej_bipush B.1 (v := 40) d_P_isTeamReady_5 (by decide +kernel) ?_
    refine ej_icmp_ge B.1 (tgt := 39) d_P_isTeamReady_7 (by decide) (fun q1 => ?_) (fun q1 => ?_)
    · replace h := er_it h q1
      refine ej_aload_n B.1 d_P_isTeamReady_39 rfl ?_
      refine ej_iload_n B.1 d_P_isTeamReady_40 rfl ?_
      obtain ⟨v2, e3, h⟩ := er_bd_some h
      refine ej_cv_i (nc := 0) (ns := 0) B.1 [.int x1] [] (ec_P_sizeOfTeam (er_pr B) x1 σ v2 e3) cal_P_sizeOfTeam lk_P_60 in_P_sizeOfTeam (er_at B 1 rfl rfl) rfl rfl se_P_sizeOfTeam rfl B.2.2.2.1 d_P_isTeamReady_41 ⟨Nat.le_of_ble_eq_true rfl, Nat.le_of_ble_eq_true rfl, Nat.zero_le _, Nat.zero_le _⟩ (Nat.le_of_ble_eq_true rfl) rfl ?_
      refine ej_iload_n B.1 d_P_isTeamReady_44 rfl ?_
      refine ej_icmp_lt B.1 (tgt := 52) d_P_isTeamReady_45 (by decide) (fun q4 => ?_) (fun q4 => ?_)
      · replace h := er_it h q4
        refine ej_iconst B.1 (v := 0) d_P_isTeamReady_52 rfl ?_
        exact ej_le (lv' := [none, none, none, none, none]) trivial (ew_P_isTeamReady_53 B 0 σ _ h)
      · replace h := er_if h q4
        refine ej_iconst B.1 (v := 1) d_P_isTeamReady_48 rfl ?_
        refine ej_goto B.1 (tgt := 53) d_P_isTeamReady_49 (by decide) ?_
        exact ej_le (lv' := [none, none, none, none, none]) trivial (ew_P_isTeamReady_53 B 1 σ _ h)
    · replace h := er_if h q1
      refine ej_aload_n B.1 d_P_isTeamReady_10 rfl ?_
      refine ej_getr B.1 (er_at B 1 rfl rfl) rfl rfl fl_P_36 d_P_isTeamReady_11 ?_
      refine ej_iload B.1 d_P_isTeamReady_14 rfl ?_
      obtain ⟨e6, h⟩ := er_gd_some h
      refine ej_iald B.1 (er_at B 13 rfl rfl) rfl e6 d_P_isTeamReady_16 ?_
      refine ej_iload_n B.1 d_P_isTeamReady_17 rfl ?_
      refine ej_icmp_ne B.1 (tgt := 33) d_P_isTeamReady_18 (by decide) (fun q7 => ?_) (fun q7 => ?_)
      · replace h := er_if h q7
        refine ej_iinc B.1 (v := x4 + 1) (lv' := [some (.ref 1), some (.int x1), some (.int x2), some (.int x3), some (.int (x4 + 1))]) d_P_isTeamReady_33 rfl rfl rfl rfl rfl ?_
        refine ej_goto B.1 (tgt := 3) d_P_isTeamReady_36 (by decide) ?_
        exact ej_le (lv' := [some (.ref 1), some (.int x1), some (.int x2), some (.int x3), some (.int (x4 + 1))]) ⟨rfl, ⟨rfl, ⟨rfl, ⟨rfl, ⟨rfl, trivial⟩⟩⟩⟩⟩ (ih x1 x2 x3 (x4 + 1) σ _ h)
      · replace h := er_it h q7
        refine ej_aload_n B.1 d_P_isTeamReady_21 rfl ?_
        refine ej_iload B.1 d_P_isTeamReady_22 rfl ?_
        refine ej_iload_n B.1 d_P_isTeamReady_24 rfl ?_
        obtain ⟨v8, e9, h⟩ := er_bd_some h
        refine ej_cv_i (nc := 0) (ns := 0) B.1 [.int x4, .int x3] [] (ec_P_isFree (er_pr B) x4 x3 σ v8 e9) cal_P_isFree lk_P_56 in_P_isFree (er_at B 1 rfl rfl) rfl rfl se_P_isFree rfl B.2.2.2.1 d_P_isTeamReady_25 ⟨Nat.le_of_ble_eq_true rfl, Nat.le_of_ble_eq_true rfl, Nat.zero_le _, Nat.zero_le _⟩ (Nat.le_of_ble_eq_true rfl) rfl ?_
        refine ej_if_ne B.1 (tgt := 33) d_P_isTeamReady_28 (by decide) (fun q10 => ?_) (fun q10 => ?_)
        · replace h := er_if h q10
          refine ej_iinc B.1 (v := x4 + 1) (lv' := [some (.ref 1), some (.int x1), some (.int x2), some (.int x3), some (.int (x4 + 1))]) d_P_isTeamReady_33 rfl rfl rfl rfl rfl ?_
          refine ej_goto B.1 (tgt := 3) d_P_isTeamReady_36 (by decide) ?_
          exact ej_le (lv' := [some (.ref 1), some (.int x1), some (.int x2), some (.int x3), some (.int (x4 + 1))]) ⟨rfl, ⟨rfl, ⟨rfl, ⟨rfl, ⟨rfl, trivial⟩⟩⟩⟩⟩ (ih x1 x2 x3 (x4 + 1) σ _ h)
        · replace h := er_it h q10
          refine ej_iconst B.1 (v := 0) d_P_isTeamReady_31 rfl ?_
          obtain ⟨e11, h⟩ := er_gd_some h
          cases h
          exact ej_zret B.1 B.2.1 B.2.2.1 (Nat.zero_le _) (Nat.zero_le _) e11 d_P_isTeamReady_32
set_option maxRecDepth 100000 in
set_option maxHeartbeats 4000000 in
theorem ec_P_isTeamReady {l : Launch} {G : er_G} (hE : er_Pr G 0 21) (x1 x2 x3 : Int32) (σ : er_S) (r : Int32) (h : ef_P_isTeamReady x1 x2 x3 σ = some r) : er_Con l y_P_isTeamReady w_P_isTeamReady 2 43 0 0 G [.ref 1, .int x1, .int x2, .int x3] σ ((.inl (some (.int r)), σ)) := by
  refine er_ofJ (ret := some .boolean) (cc := b_P_isTeamReady) (maxL := 5) (lv0 := [some (.ref 1), some (.int x1), some (.int x2), some (.int x3), none]) (hh := []) (by decide +kernel) rfl (Or.inl rfl) (by intro v hv; simp only [List.mem_cons, List.not_mem_nil, or_false] at hv; rcases hv with rfl | rfl | rfl | rfl <;> rfl) (Nat.le_of_ble_eq_true rfl) ?_
  intro p e s m args below meth c hadm C hr hlk hml hw hnm hm hcd
  have B : er_B p s m c meth b_P_isTeamReady "EntryRows$Persons" G (some .boolean) 5 0 21 := ⟨C, hr, hlk, hml, hE, er_noh hw hnm hm hcd⟩
  unfold ef_P_isTeamReady at h
  refine ej_iconst B.1 (v := 0) d_P_isTeamReady_0 rfl ?_
  refine ej_istore B.1 (lv' := [some (.ref 1), some (.int x1), some (.int x2), some (.int x3), some (.int 0)]) d_P_isTeamReady_1 rfl rfl rfl ?_
  exact ej_le (lv' := [some (.ref 1), some (.int x1), some (.int x2), some (.int x3), some (.int 0)]) ⟨rfl, ⟨rfl, ⟨rfl, ⟨rfl, ⟨rfl, trivial⟩⟩⟩⟩⟩ (ew_P_isTeamReady_3 B 64 x1 x2 x3 0 σ _ h)
set_option maxRecDepth 100000 in
set_option maxHeartbeats 4000000 in
theorem ec_E_isReady {l : Launch} {G : er_G} (hE : er_Pr G 0 21) (x1 x2 : Int32) (σ : er_S) (r : Int32) (h : ef_E_isReady x1 x2 σ = some r) : er_Con l y_E_isReady w_E_isReady 3 67 0 0 G [.ref 0, .int x1, .int x2] σ ((.inl (some (.int r)), σ)) := by
  refine er_ofJ (ret := some .boolean) (cc := b_E_isReady) (maxL := 3) (lv0 := [some (.ref 0), some (.int x1), some (.int x2)]) (hh := []) (by decide +kernel) rfl (Or.inl rfl) (by intro v hv; simp only [List.mem_cons, List.not_mem_nil, or_false] at hv; rcases hv with rfl | rfl | rfl <;> rfl) (Nat.le_of_ble_eq_true rfl) ?_
  intro p e s m args below meth c hadm C hr hlk hml hw hnm hm hcd
  have B : er_B p s m c meth b_E_isReady "EntryRows" G (some .boolean) 3 0 21 := ⟨C, hr, hlk, hml, hE, er_noh hw hnm hm hcd⟩
  unfold ef_E_isReady at h
  refine ej_aload_n B.1 d_E_isReady_0 rfl ?_
  refine ej_getr B.1 (er_at B 0 rfl rfl) rfl rfl fl_E_10 d_E_isReady_1 ?_
  refine ej_iload_n B.1 d_E_isReady_4 rfl ?_
  refine ej_aload_n B.1 d_E_isReady_5 rfl ?_
  refine ej_getr B.1 (er_at B 0 rfl rfl) rfl rfl fl_E_19 d_E_isReady_6 ?_
  refine ej_getr B.1 (er_at B 2 rfl rfl) rfl rfl fl_E_227 d_E_isReady_9 ?_
  refine ej_iload_n B.1 d_E_isReady_12 rfl ?_
  obtain ⟨e1, h⟩ := er_gd_some h
  refine ej_iald B.1 (er_at B 17 rfl rfl) rfl e1 d_E_isReady_13 ?_
  refine ej_aload_n B.1 d_E_isReady_14 rfl ?_
  refine ej_geti B.1 (er_at B 0 rfl rfl) rfl rfl fl_E_30 d_E_isReady_15 ?_
  obtain ⟨v2, e3, h⟩ := er_bd_some h
  refine ej_cv_i (nc := 0) (ns := 0) B.1 [.int x1, .int (σ 17 (er_ix x2)), .int (σ 0 4)] [] (ec_P_isTeamReady (er_pr B) x1 (σ 17 (er_ix x2)) (σ 0 4) σ v2 e3) cal_P_isTeamReady lk_E_230 in_P_isTeamReady (er_at B 1 rfl rfl) rfl rfl se_P_isTeamReady rfl B.2.2.2.1 d_E_isReady_18 ⟨Nat.le_of_ble_eq_true rfl, Nat.le_of_ble_eq_true rfl, Nat.zero_le _, Nat.zero_le _⟩ (Nat.le_of_ble_eq_true rfl) rfl ?_
  obtain ⟨e4, h⟩ := er_gd_some h
  cases h
  exact ej_zret B.1 B.2.1 B.2.2.1 (Nat.zero_le _) (Nat.zero_le _) e4 d_E_isReady_21
set_option maxRecDepth 100000 in
set_option maxHeartbeats 4000000 in
theorem ew_E_readySafetyTeams_5 {p : Program} {l : Launch} {e : Env} {s : State} {m : MethodId} {args : Array Value} {below : List Frame} {meth : Method} {c : Code} {G : er_G} (B : er_B p s m c meth b_E_readySafetyTeams "EntryRows" G (some .int) 5 0 21) : ∀ (n : Nat) (x1 x2 x3 x4 : Int32) (σ : er_S) (r : Int32), ef_E_readySafetyTeams_5 n x1 x2 x3 x4 σ = some r → er_J p l e { frames := 4, cells := 0, slots := 0, locals := 89 } s m args below meth c G (er_A G s.heap.size) s.heap (er_fin below G s 0 0 (.inl (some (.int r)), σ)) 0 0 σ 5 [some (.ref 0), some (.int x1), some (.int x2), some (.int x3), some (.int x4)] [] := by
  intro n
  induction n with
  | zero => intro x1 x2 x3 x4 σ r h; cases h
  | succ n ih =>
    intro x1 x2 x3 x4 σ r h
    rw [ef_E_readySafetyTeams_5] at h
    refine ej_iload B.1 d_E_readySafetyTeams_5 rfl ?_
    refine ej_bipush B.1 (v := 16) d_E_readySafetyTeams_7 (by decide +kernel) ?_
    refine ej_icmp_ge B.1 (tgt := 48) d_E_readySafetyTeams_9 (by decide) (fun q1 => ?_) (fun q1 => ?_)
    · replace h := er_it h q1
      refine ej_iload_n B.1 d_E_readySafetyTeams_48 rfl ?_
      cases h
      exact ej_iret B.1 B.2.1 B.2.2.1 (Nat.zero_le _) (Nat.zero_le _) d_E_readySafetyTeams_49
    · replace h := er_if h q1
      refine ej_iload B.1 d_E_readySafetyTeams_12 rfl ?_
      refine ej_iload_n B.1 d_E_readySafetyTeams_14 rfl ?_
      refine ej_icmp_eq B.1 (tgt := 42) d_E_readySafetyTeams_15 (by decide) (fun q2 => ?_) (fun q2 => ?_)
      · replace h := er_it h q2
        refine ej_iinc B.1 (v := x4 + 1) (lv' := [some (.ref 0), some (.int x1), some (.int x2), some (.int x3), some (.int (x4 + 1))]) d_E_readySafetyTeams_42 rfl rfl rfl rfl rfl ?_
        refine ej_goto B.1 (tgt := 5) d_E_readySafetyTeams_45 (by decide) ?_
        exact ej_le (lv' := [some (.ref 0), some (.int x1), some (.int x2), some (.int x3), some (.int (x4 + 1))]) ⟨rfl, ⟨rfl, ⟨rfl, ⟨rfl, ⟨rfl, trivial⟩⟩⟩⟩⟩ (ih x1 x2 x3 (x4 + 1) σ _ h)
      · replace h := er_if h q2
        refine ej_aload_n B.1 d_E_readySafetyTeams_18 rfl ?_
        refine ej_getr B.1 (er_at B 0 rfl rfl) rfl rfl fl_E_23 d_E_readySafetyTeams_19 ?_
        refine ej_iload B.1 d_E_readySafetyTeams_22 rfl ?_
        obtain ⟨e3, h⟩ := er_gd_some h
        refine ej_iald B.1 (er_at B 3 rfl rfl) rfl e3 d_E_readySafetyTeams_24 ?_
        refine ej_iload_n B.1 d_E_readySafetyTeams_25 rfl ?_
        refine ej_icmp_ne B.1 (tgt := 42) d_E_readySafetyTeams_26 (by decide) (fun q4 => ?_) (fun q4 => ?_)
        · replace h := er_if h q4
          refine ej_iinc B.1 (v := x4 + 1) (lv' := [some (.ref 0), some (.int x1), some (.int x2), some (.int x3), some (.int (x4 + 1))]) d_E_readySafetyTeams_42 rfl rfl rfl rfl rfl ?_
          refine ej_goto B.1 (tgt := 5) d_E_readySafetyTeams_45 (by decide) ?_
          exact ej_le (lv' := [some (.ref 0), some (.int x1), some (.int x2), some (.int x3), some (.int (x4 + 1))]) ⟨rfl, ⟨rfl, ⟨rfl, ⟨rfl, ⟨rfl, trivial⟩⟩⟩⟩⟩ (ih x1 x2 x3 (x4 + 1) σ _ h)
        · replace h := er_it h q4
          refine ej_aload_n B.1 d_E_readySafetyTeams_29 rfl ?_
          refine ej_iload B.1 d_E_readySafetyTeams_30 rfl ?_
          refine ej_iload_n B.1 d_E_readySafetyTeams_32 rfl ?_
          obtain ⟨v5, e6, h⟩ := er_bd_some h
          refine ej_cv_i (nc := 0) (ns := 0) B.1 [.int x4, .int x1] [] (ec_E_isReady (er_pr B) x4 x1 σ v5 e6) cal_E_isReady lk_E_118 in_E_isReady (er_at B 0 rfl rfl) rfl rfl se_E_isReady rfl B.2.2.2.1 d_E_readySafetyTeams_33 ⟨Nat.le_of_ble_eq_true rfl, Nat.le_of_ble_eq_true rfl, Nat.zero_le _, Nat.zero_le _⟩ (Nat.le_of_ble_eq_true rfl) rfl ?_
          refine ej_if_eq B.1 (tgt := 42) d_E_readySafetyTeams_36 (by decide) (fun q7 => ?_) (fun q7 => ?_)
          · replace h := er_it h q7
            refine ej_iinc B.1 (v := x4 + 1) (lv' := [some (.ref 0), some (.int x1), some (.int x2), some (.int x3), some (.int (x4 + 1))]) d_E_readySafetyTeams_42 rfl rfl rfl rfl rfl ?_
            refine ej_goto B.1 (tgt := 5) d_E_readySafetyTeams_45 (by decide) ?_
            exact ej_le (lv' := [some (.ref 0), some (.int x1), some (.int x2), some (.int x3), some (.int (x4 + 1))]) ⟨rfl, ⟨rfl, ⟨rfl, ⟨rfl, ⟨rfl, trivial⟩⟩⟩⟩⟩ (ih x1 x2 x3 (x4 + 1) σ _ h)
          · replace h := er_if h q7
            refine ej_iinc B.1 (v := x3 + 1) (lv' := [some (.ref 0), some (.int x1), some (.int x2), some (.int (x3 + 1)), some (.int x4)]) d_E_readySafetyTeams_39 rfl rfl rfl rfl rfl ?_
            refine ej_iinc B.1 (v := x4 + 1) (lv' := [some (.ref 0), some (.int x1), some (.int x2), some (.int (x3 + 1)), some (.int (x4 + 1))]) d_E_readySafetyTeams_42 rfl rfl rfl rfl rfl ?_
            refine ej_goto B.1 (tgt := 5) d_E_readySafetyTeams_45 (by decide) ?_
            exact ej_le (lv' := [some (.ref 0), some (.int x1), some (.int x2), some (.int (x3 + 1)), some (.int (x4 + 1))]) ⟨rfl, ⟨rfl, ⟨rfl, ⟨rfl, ⟨rfl, trivial⟩⟩⟩⟩⟩ (ih x1 x2 (x3 + 1) (x4 + 1) σ _ h)
set_option maxRecDepth 100000 in
set_option maxHeartbeats 4000000 in
theorem ec_E_readySafetyTeams {l : Launch} {G : er_G} (hE : er_Pr G 0 21) (x1 x2 : Int32) (σ : er_S) (r : Int32) (h : ef_E_readySafetyTeams x1 x2 σ = some r) : er_Con l y_E_readySafetyTeams w_E_readySafetyTeams 4 89 0 0 G [.ref 0, .int x1, .int x2] σ ((.inl (some (.int r)), σ)) := by
  refine er_ofJ (ret := some .int) (cc := b_E_readySafetyTeams) (maxL := 5) (lv0 := [some (.ref 0), some (.int x1), some (.int x2), none, none]) (hh := []) (by decide +kernel) rfl (Or.inl rfl) (by intro v hv; simp only [List.mem_cons, List.not_mem_nil, or_false] at hv; rcases hv with rfl | rfl | rfl <;> rfl) (Nat.le_of_ble_eq_true rfl) ?_
  intro p e s m args below meth c hadm C hr hlk hml hw hnm hm hcd
  have B : er_B p s m c meth b_E_readySafetyTeams "EntryRows" G (some .int) 5 0 21 := ⟨C, hr, hlk, hml, hE, er_noh hw hnm hm hcd⟩
  unfold ef_E_readySafetyTeams at h
  refine ej_iconst B.1 (v := 0) d_E_readySafetyTeams_0 rfl ?_
  refine ej_istore_n B.1 (lv' := [some (.ref 0), some (.int x1), some (.int x2), some (.int 0), none]) d_E_readySafetyTeams_1 rfl rfl rfl ?_
  refine ej_iconst B.1 (v := 0) d_E_readySafetyTeams_2 rfl ?_
  refine ej_istore B.1 (lv' := [some (.ref 0), some (.int x1), some (.int x2), some (.int 0), some (.int 0)]) d_E_readySafetyTeams_3 rfl rfl rfl ?_
  exact ej_le (lv' := [some (.ref 0), some (.int x1), some (.int x2), some (.int 0), some (.int 0)]) ⟨rfl, ⟨rfl, ⟨rfl, ⟨rfl, ⟨rfl, trivial⟩⟩⟩⟩⟩ (ew_E_readySafetyTeams_5 B 64 x1 x2 0 0 σ _ h)
set_option maxRecDepth 100000 in
set_option maxHeartbeats 4000000 in
theorem ew_E_safety_54 {p : Program} {l : Launch} {e : Env} {s : State} {m : MethodId} {args : Array Value} {below : List Frame} {meth : Method} {c : Code} {G : er_G} (hl : l.admits e ∧ l.stackTraces = false) (B : er_B p s m c meth b_E_safety "EntryRows" G (some .int) 4 0 21) (x1 t1 t2 : Int32) (σ : er_S) (r : (Int32 ⊕ Nat) × er_S) (h : ef_E_safety_54 x1 t1 t2 σ = some r) : er_J p l e { frames := 8, cells := er_nc r.1, slots := er_ns r.1, locals := 124 } s m args below meth c G (er_A G s.heap.size) s.heap (er_fin below G s (er_nc r.1) (er_ns r.1) (er_cvi r)) 0 0 σ 54 [some (.ref 0), some (.int x1), none, none] [.int t2, .int t1, .ref 3] := by
  unfold ef_E_safety_54 at h
  obtain ⟨e17, h⟩ := er_gd_some h
  refine ej_iast B.1 (er_at B 3 rfl rfl) rfl e17 d_E_safety_54 ?_
  refine ej_aload_n B.1 d_E_safety_55 rfl ?_
  refine ej_iload_n B.1 d_E_safety_56 rfl ?_
  refine ej_iconst B.1 (v := (-1)) d_E_safety_57 rfl ?_
  obtain ⟨v18, e19, h⟩ := er_bd_some h
  refine ej_cv_i (nc := 0) (ns := 0) B.1 [.int x1, .int (-1)] [] (ec_E_readySafetyTeams (er_pr B) x1 (-1) (er_up σ 3 (er_ix t1) t2) v18 e19) cal_E_readySafetyTeams lk_E_114 in_E_readySafetyTeams (er_at B 0 rfl rfl) rfl rfl se_E_readySafetyTeams rfl B.2.2.2.1 d_E_safety_58 ⟨Nat.le_of_ble_eq_true rfl, Nat.le_of_ble_eq_true rfl, Nat.zero_le _, Nat.zero_le _⟩ (Nat.le_of_ble_eq_true rfl) rfl ?_
  cases h
  exact ej_iret B.1 B.2.1 B.2.2.1 (Nat.zero_le _) (Nat.zero_le _) d_E_safety_61
set_option maxRecDepth 100000 in
set_option maxHeartbeats 4000000 in
theorem ew_E_safety_37 {p : Program} {l : Launch} {e : Env} {s : State} {m : MethodId} {args : Array Value} {below : List Frame} {meth : Method} {c : Code} {G : er_G} (hl : l.admits e ∧ l.stackTraces = false) (B : er_B p s m c meth b_E_safety "EntryRows" G (some .int) 4 0 21) (x1 x2 x3 t0 : Int32) (σ : er_S) (r : (Int32 ⊕ Nat) × er_S) (h : ef_E_safety_37 x1 x2 x3 t0 σ = some r) : er_J p l e { frames := 8, cells := er_nc r.1, slots := er_ns r.1, locals := 124 } s m args below meth c G (er_A G s.heap.size) s.heap (er_fin below G s (er_nc r.1) (er_ns r.1) (er_cvi r)) 0 0 σ 37 [some (.ref 0), some (.int x1), some (.int x2), some (.int x3)] [.int t0] := by
  unfold ef_E_safety_37 at h
  rcases er_tb_some h with ⟨v13, g15, e14, h⟩ | ⟨k20, g15, e14, h⟩
  · refine ej_cs_v (nc := 0) (ns := 0) B.1 [.int t0] [] (ec_E_requireState hl.2 (er_pr B) t0 σ (.inl v13, g15) e14) cal_E_requireState lk_E_81 st_E_requireState rfl B.2.2.2.1 d_E_safety_37 ⟨Nat.le_of_ble_eq_true rfl, Nat.le_of_ble_eq_true rfl, Nat.zero_le _, Nat.zero_le _⟩ (Nat.le_of_ble_eq_true rfl) rfl ?_
    refine ej_aload_n B.1 d_E_safety_40 rfl ?_
    refine ej_getr B.1 (er_at B 0 rfl rfl) rfl rfl fl_E_23 d_E_safety_41 ?_
    refine ej_iload_n B.1 d_E_safety_44 rfl ?_
    refine ej_iload_n B.1 d_E_safety_45 rfl ?_
    refine ej_if_eq B.1 (tgt := 53) d_E_safety_46 (by decide) (fun q16 => ?_) (fun q16 => ?_)
    · replace h := er_it h q16
      refine ej_iconst B.1 (v := (-1)) d_E_safety_53 rfl ?_
      exact ej_le (lv' := [some (.ref 0), some (.int x1), none, none]) ⟨rfl, ⟨rfl, trivial⟩⟩ (ew_E_safety_54 hl B x1 x2 (-1) g15 _ h)
    · replace h := er_if h q16
      refine ej_iload_n B.1 d_E_safety_49 rfl ?_
      refine ej_goto B.1 (tgt := 54) d_E_safety_50 (by decide) ?_
      exact ej_le (lv' := [some (.ref 0), some (.int x1), none, none]) ⟨rfl, ⟨rfl, trivial⟩⟩ (ew_E_safety_54 hl B x1 x2 x1 g15 _ h)
  · subst h
    exact ej_cs_t (nc := 1) (ns := 6) B.1 [.int t0] [] (ec_E_requireState hl.2 (er_pr B) t0 σ (.inr k20, g15) e14) cal_E_requireState lk_E_81 st_E_requireState rfl B.2.2.2.1 d_E_safety_37 ⟨Nat.le_of_ble_eq_true rfl, Nat.le_of_ble_eq_true rfl, Nat.le_of_ble_eq_true rfl, Nat.le_of_ble_eq_true rfl⟩ (Nat.le_of_ble_eq_true rfl) rfl B.2.2.1 (B.2.2.2.2.2 _) ⟨Nat.le_of_ble_eq_true rfl, Nat.le_of_ble_eq_true rfl⟩
set_option maxRecDepth 100000 in
set_option maxHeartbeats 4000000 in
theorem ew_E_safety_29 {p : Program} {l : Launch} {e : Env} {s : State} {m : MethodId} {args : Array Value} {below : List Frame} {meth : Method} {c : Code} {G : er_G} (hl : l.admits e ∧ l.stackTraces = false) (B : er_B p s m c meth b_E_safety "EntryRows" G (some .int) 4 0 21) (x1 x2 x3 t0 t1 : Int32) (σ : er_S) (r : (Int32 ⊕ Nat) × er_S) (h : ef_E_safety_29 x1 x2 x3 t0 t1 σ = some r) : er_J p l e { frames := 8, cells := er_nc r.1, slots := er_ns r.1, locals := 124 } s m args below meth c G (er_A G s.heap.size) s.heap (er_fin below G s (er_nc r.1) (er_ns r.1) (er_cvi r)) 0 0 σ 29 [some (.ref 0), some (.int x1), some (.int x2), some (.int x3)] [.int t1, .int t0] := by
  unfold ef_E_safety_29 at h
  refine ej_icmp_ne B.1 (tgt := 36) d_E_safety_29 (by decide) (fun q12 => ?_) (fun q12 => ?_)
  · replace h := er_if h q12
    refine ej_iconst B.1 (v := 0) d_E_safety_36 rfl ?_
    exact ej_le (lv' := [some (.ref 0), some (.int x1), some (.int x2), some (.int x3)]) ⟨rfl, ⟨rfl, ⟨rfl, ⟨rfl, trivial⟩⟩⟩⟩ (ew_E_safety_37 hl B x1 x2 x3 0 σ _ h)
  · replace h := er_it h q12
    refine ej_iconst B.1 (v := 1) d_E_safety_32 rfl ?_
    refine ej_goto B.1 (tgt := 37) d_E_safety_33 (by decide) ?_
    exact ej_le (lv' := [some (.ref 0), some (.int x1), some (.int x2), some (.int x3)]) ⟨rfl, ⟨rfl, ⟨rfl, ⟨rfl, trivial⟩⟩⟩⟩ (ew_E_safety_37 hl B x1 x2 x3 1 σ _ h)
set_option maxRecDepth 100000 in
set_option maxHeartbeats 4000000 in
theorem ec_E_safety {l : Launch} {G : er_G} (hl : l.stackTraces = false) (hE : er_Pr G 0 21) (x1 x2 x3 : Int32) (σ : er_S) (r : (Int32 ⊕ Nat) × er_S) (h : ef_E_safety x1 x2 x3 σ = some r) : er_Con l y_E_safety w_E_safety 8 124 (er_nc r.1) (er_ns r.1) G [.ref 0, .int x1, .int x2, .int x3] σ (er_cvi r) := by
  refine er_ofJ (ret := some .int) (cc := b_E_safety) (maxL := 4) (lv0 := [some (.ref 0), some (.int x1), some (.int x2), some (.int x3)]) (hh := []) (by decide +kernel) rfl (Or.inl rfl) (by intro v hv; simp only [List.mem_cons, List.not_mem_nil, or_false] at hv; rcases hv with rfl | rfl | rfl | rfl <;> rfl) (Nat.le_of_ble_eq_true rfl) ?_
  intro p e s m args below meth c hadm C hr hlk hml hw hnm hm hcd
  have B : er_B p s m c meth b_E_safety "EntryRows" G (some .int) 4 0 21 := ⟨C, hr, hlk, hml, hE, er_noh hw hnm hm hcd⟩
  have hl := And.intro hadm hl
  unfold ef_E_safety at h
  refine ej_aload_n B.1 d_E_safety_0 rfl ?_
  refine ej_iload_n B.1 d_E_safety_1 rfl ?_
  rcases er_tb_some h with ⟨v1, g3, e2, h⟩ | ⟨k23, g3, e2, h⟩
  · refine ej_cv_v (nc := 0) (ns := 0) B.1 [.int x1] [] (ec_E_requireBoard hl.2 (er_pr B) x1 σ (.inl v1, g3) e2) cal_E_requireBoard lk_E_65 in_E_requireBoard (er_at B 0 rfl rfl) rfl rfl se_E_requireBoard rfl B.2.2.2.1 d_E_safety_2 ⟨Nat.le_of_ble_eq_true rfl, Nat.le_of_ble_eq_true rfl, Nat.zero_le _, Nat.zero_le _⟩ (Nat.le_of_ble_eq_true rfl) rfl ?_
    refine ej_iload_n B.1 d_E_safety_5 rfl ?_
    rcases er_tb_some h with ⟨v4, g6, e5, h⟩ | ⟨k22, g6, e5, h⟩
    · refine ej_cs_v (nc := 0) (ns := 0) B.1 [.int x2] [] (ec_E_requireTeam hl.2 (er_pr B) x2 g3 (.inl v4, g6) e5) cal_E_requireTeam lk_E_102 st_E_requireTeam rfl B.2.2.2.1 d_E_safety_6 ⟨Nat.le_of_ble_eq_true rfl, Nat.le_of_ble_eq_true rfl, Nat.zero_le _, Nat.zero_le _⟩ (Nat.le_of_ble_eq_true rfl) rfl ?_
      refine ej_aload_n B.1 d_E_safety_9 rfl ?_
      refine ej_iload_n B.1 d_E_safety_10 rfl ?_
      rcases er_tb_some h with ⟨v7, g9, e8, h⟩ | ⟨k21, g9, e8, h⟩
      · refine ej_cv_v (nc := 0) (ns := 0) B.1 [.int x1] [] (ec_E_requireOpen hl.2 (er_pr B) x1 g6 (.inl v7, g9) e8) cal_E_requireOpen lk_E_72 in_E_requireOpen (er_at B 0 rfl rfl) rfl rfl se_E_requireOpen rfl B.2.2.2.1 d_E_safety_11 ⟨Nat.le_of_ble_eq_true rfl, Nat.le_of_ble_eq_true rfl, Nat.zero_le _, Nat.zero_le _⟩ (Nat.le_of_ble_eq_true rfl) rfl ?_
        refine ej_aload_n B.1 d_E_safety_14 rfl ?_
        refine ej_getr B.1 (er_at B 0 rfl rfl) rfl rfl fl_E_23 d_E_safety_15 ?_
        refine ej_iload_n B.1 d_E_safety_18 rfl ?_
        obtain ⟨e10, h⟩ := er_gd_some h
        refine ej_iald B.1 (er_at B 3 rfl rfl) rfl e10 d_E_safety_19 ?_
        refine ej_iload_n B.1 d_E_safety_20 rfl ?_
        refine ej_if_eq B.1 (tgt := 28) d_E_safety_21 (by decide) (fun q11 => ?_) (fun q11 => ?_)
        · replace h := er_it h q11
          refine ej_iload_n B.1 d_E_safety_28 rfl ?_
          exact ej_le (lv' := [some (.ref 0), some (.int x1), some (.int x2), some (.int x3)]) ⟨rfl, ⟨rfl, ⟨rfl, ⟨rfl, trivial⟩⟩⟩⟩ (ew_E_safety_29 hl B x1 x2 x3 (g9 3 (er_ix x2)) x1 g9 _ h)
        · replace h := er_if h q11
          refine ej_iconst B.1 (v := (-1)) d_E_safety_24 rfl ?_
          refine ej_goto B.1 (tgt := 29) d_E_safety_25 (by decide) ?_
          exact ej_le (lv' := [some (.ref 0), some (.int x1), some (.int x2), some (.int x3)]) ⟨rfl, ⟨rfl, ⟨rfl, ⟨rfl, trivial⟩⟩⟩⟩ (ew_E_safety_29 hl B x1 x2 x3 (g9 3 (er_ix x2)) (-1) g9 _ h)
      · subst h
        exact ej_cv_t (nc := 1) (ns := 6) B.1 [.int x1] [] (ec_E_requireOpen hl.2 (er_pr B) x1 g6 (.inr k21, g9) e8) cal_E_requireOpen lk_E_72 in_E_requireOpen (er_at B 0 rfl rfl) rfl rfl se_E_requireOpen rfl B.2.2.2.1 d_E_safety_11 ⟨Nat.le_of_ble_eq_true rfl, Nat.le_of_ble_eq_true rfl, Nat.le_of_ble_eq_true rfl, Nat.le_of_ble_eq_true rfl⟩ (Nat.le_of_ble_eq_true rfl) rfl B.2.2.1 (B.2.2.2.2.2 _) ⟨Nat.le_of_ble_eq_true rfl, Nat.le_of_ble_eq_true rfl⟩
    · subst h
      exact ej_cs_t (nc := 1) (ns := 6) B.1 [.int x2] [] (ec_E_requireTeam hl.2 (er_pr B) x2 g3 (.inr k22, g6) e5) cal_E_requireTeam lk_E_102 st_E_requireTeam rfl B.2.2.2.1 d_E_safety_6 ⟨Nat.le_of_ble_eq_true rfl, Nat.le_of_ble_eq_true rfl, Nat.le_of_ble_eq_true rfl, Nat.le_of_ble_eq_true rfl⟩ (Nat.le_of_ble_eq_true rfl) rfl B.2.2.1 (B.2.2.2.2.2 _) ⟨Nat.le_of_ble_eq_true rfl, Nat.le_of_ble_eq_true rfl⟩
  · subst h
    exact ej_cv_t (nc := 1) (ns := 6) B.1 [.int x1] [] (ec_E_requireBoard hl.2 (er_pr B) x1 σ (.inr k23, g3) e2) cal_E_requireBoard lk_E_65 in_E_requireBoard (er_at B 0 rfl rfl) rfl rfl se_E_requireBoard rfl B.2.2.2.1 d_E_safety_2 ⟨Nat.le_of_ble_eq_true rfl, Nat.le_of_ble_eq_true rfl, Nat.le_of_ble_eq_true rfl, Nat.le_of_ble_eq_true rfl⟩ (Nat.le_of_ble_eq_true rfl) rfl B.2.2.1 (B.2.2.2.2.2 _) ⟨Nat.le_of_ble_eq_true rfl, Nat.le_of_ble_eq_true rfl⟩
