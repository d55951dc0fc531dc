set_option maxRecDepth 100000 in
set_option maxHeartbeats 4000000 in
theorem ec_M_thrown {l : Launch} {G : er_G} (hE : er_Pr G 21 39) (σ : er_S) (r : Int32) (h : ef_M_thrown  σ = some r) : er_Con l y_M_thrown w_M_thrown 0 0 0 0 G [.ref 21] σ ((.inl (some (.int r)), σ)) := by
  refine er_ofJ (ret := some .int) (cc := b_M_thrown) (maxL := 1) (lv0 := [some (.ref 21)]) (hh := []) (by decide +kernel) rfl (Or.inl rfl) (by intro v hv; simp only [List.mem_cons, List.not_mem_nil, or_false] at hv; rcases hv with rfl <;> rfl) (Nat.le_of_ble_eq_true rfl) ?_
  intro p e s m args below meth c hadm C hr hlk hml hw hnm hm hcd
  have B : er_B p s m c meth b_M_thrown "EntryRowsModel" G (some .int) 1 21 39 := ⟨C, hr, hlk, hml, hE, er_noh hw hnm hm hcd⟩
  unfold ef_M_thrown at h
  refine ej_aload_n B.1 d_M_thrown_0 rfl ?_
  refine ej_geti B.1 (er_at B 21 rfl rfl) rfl rfl fl_M_70 d_M_thrown_1 ?_
  cases h
  exact ej_iret B.1 B.2.1 B.2.2.1 (Nat.zero_le _) (Nat.zero_le _) d_M_thrown_4
set_option maxRecDepth 100000 in
set_option maxHeartbeats 4000000 in
theorem ew_M_throwing_41 {p : Program} {l : Launch} {e : Env} {s : State} {m : MethodId} {args : Array Value} {below : List Frame} {meth : Method} {c : Code} {G : er_G} (B : er_B p s m c meth b_M_throwing "EntryRowsModel" G (some .boolean) 4 21 39) (t0 : Int32) (σ : er_S) (r : Int32 × er_S) (h : ef_M_throwing_41 t0 σ = some r) : er_J p l e { frames := 0, cells := 0, slots := 0, locals := 0 } s m args below meth c G (er_A G s.heap.size) s.heap (er_fin below G s 0 0 (.inl (some (.int r.1)), r.2)) 0 0 σ 41 [none, none, none, none] [.int t0] := by
  unfold ef_M_throwing_41 at h
  obtain ⟨e5, h⟩ := er_gd_some h
  cases h
  exact ej_zret B.1 B.2.1 B.2.2.1 (Nat.zero_le _) (Nat.zero_le _) e5 d_M_throwing_41
set_option maxRecDepth 100000 in
set_option maxHeartbeats 4000000 in
theorem ew_M_throwing_26 {p : Program} {l : Launch} {e : Env} {s : State} {m : MethodId} {args : Array Value} {below : List Frame} {meth : Method} {c : Code} {G : er_G} (B : er_B p s m c meth b_M_throwing "EntryRowsModel" G (some .boolean) 4 21 39) (t1 : Int32) (σ : er_S) (r : Int32 × er_S) (h : ef_M_throwing_26 t1 σ = some r) : er_J p l e { frames := 0, cells := 0, slots := 0, locals := 0 } s m args below meth c G (er_A G s.heap.size) s.heap (er_fin below G s 0 0 (.inl (some (.int r.1)), r.2)) 0 0 σ 26 [some (.ref 21), none, none, none] [.int t1, .ref 21] := by
  unfold ef_M_throwing_26 at h
  refine ej_puti B.1 (er_at B 21 rfl rfl) rfl rfl fp_M_70 d_M_throwing_26 ?_
  refine ej_aload_n B.1 d_M_throwing_29 rfl ?_
  refine ej_geti B.1 (er_at B 21 rfl rfl) rfl rfl fl_M_70 d_M_throwing_30 ?_
  refine ej_if_le B.1 (tgt := 40) d_M_throwing_33 (by decide) (fun q4 => ?_) (fun q4 => ?_)
  · replace h := er_it h q4
    refine ej_iconst B.1 (v := 0) d_M_throwing_40 rfl ?_
    exact ej_le (lv' := [none, none, none, none]) trivial (ew_M_throwing_41 B 0 (er_up σ 21 0 t1) _ h)
  · replace h := er_if h q4
    refine ej_iconst B.1 (v := 1) d_M_throwing_36 rfl ?_
    refine ej_goto B.1 (tgt := 41) d_M_throwing_37 (by decide) ?_
    exact ej_le (lv' := [none, none, none, none]) trivial (ew_M_throwing_41 B 1 (er_up σ 21 0 t1) _ h)
set_option maxRecDepth 100000 in
set_option maxHeartbeats 4000000 in
theorem ec_M_throwing {l : Launch} {G : er_G} (hE : er_Pr G 21 39) (x1 x2 x3 : Int32) (σ : er_S) (r : Int32 × er_S) (h : ef_M_throwing x1 x2 x3 σ = some r) : er_Con l y_M_throwing w_M_throwing 0 0 0 0 G [.ref 21, .int x1, .int x2, .int x3] σ ((.inl (some (.int r.1)), r.2)) := by
  refine er_ofJ (ret := some .boolean) (cc := b_M_throwing) (maxL := 4) (lv0 := [some (.ref 21), some (.int x1), some (.int x2), some (.int x3)]) (hh := []) (by decide +kernel) rfl (Or.inl rfl) (by intro v hv; simp only [List.mem_cons, List.not_mem_nil, or_false] at hv; rcases hv with rfl | rfl | rfl | rfl <;> rfl) (Nat.le_of_ble_eq_true rfl) ?_
  intro p e s m args below meth c hadm C hr hlk hml hw hnm hm hcd
  have B : er_B p s m c meth b_M_throwing "EntryRowsModel" G (some .boolean) 4 21 39 := ⟨C, hr, hlk, hml, hE, er_noh hw hnm hm hcd⟩
  unfold ef_M_throwing at h
  refine ej_aload_n B.1 d_M_throwing_0 rfl ?_
  refine ej_iload_n B.1 d_M_throwing_1 rfl ?_
  refine ej_if_eq B.1 (tgt := 9) d_M_throwing_2 (by decide) (fun q1 => ?_) (fun q1 => ?_)
  · replace h := er_it h q1
    refine ej_iload_n B.1 d_M_throwing_9 rfl ?_
    refine ej_if_eq B.1 (tgt := 17) d_M_throwing_10 (by decide) (fun q2 => ?_) (fun q2 => ?_)
    · replace h := er_it h q2
      refine ej_iload_n B.1 d_M_throwing_17 rfl ?_
      refine ej_if_eq B.1 (tgt := 25) d_M_throwing_18 (by decide) (fun q3 => ?_) (fun q3 => ?_)
      · replace h := er_it h q3
        refine ej_iconst B.1 (v := 0) d_M_throwing_25 rfl ?_
        exact ej_le (lv' := [some (.ref 21), none, none, none]) ⟨rfl, trivial⟩ (ew_M_throwing_26 B 0 σ _ h)
      · replace h := er_if h q3
        refine ej_iconst B.1 (v := 3) d_M_throwing_21 rfl ?_
        refine ej_goto B.1 (tgt := 26) d_M_throwing_22 (by decide) ?_
        exact ej_le (lv' := [some (.ref 21), none, none, none]) ⟨rfl, trivial⟩ (ew_M_throwing_26 B 3 σ _ h)
    · replace h := er_if h q2
      refine ej_iconst B.1 (v := 2) d_M_throwing_13 rfl ?_
      refine ej_goto B.1 (tgt := 26) d_M_throwing_14 (by decide) ?_
      exact ej_le (lv' := [some (.ref 21), none, none, none]) ⟨rfl, trivial⟩ (ew_M_throwing_26 B 2 σ _ h)
  · replace h := er_if h q1
    refine ej_iconst B.1 (v := 1) d_M_throwing_5 rfl ?_
    refine ej_goto B.1 (tgt := 26) d_M_throwing_6 (by decide) ?_
    exact ej_le (lv' := [some (.ref 21), none, none, none]) ⟨rfl, trivial⟩ (ew_M_throwing_26 B 1 σ _ h)
set_option maxRecDepth 100000 in
set_option maxHeartbeats 4000000 in
theorem ew_M_in_15 {p : Program} {l : Launch} {e : Env} {s : State} {m : MethodId} {args : Array Value} {below : List Frame} {meth : Method} {c : Code} {G : er_G} (B : er_B p s m c meth b_M_in "EntryRowsModel" G (some .boolean) 3 21 39) (t0 : Int32) (σ : er_S) (r : Int32) (h : ef_M_in_15 t0 σ = some r) : er_J p l e { frames := 0, cells := 0, slots := 0, locals := 0 } s m args below meth c G (er_A G s.heap.size) s.heap (er_fin below G s 0 0 (.inl (some (.int r)), σ)) 0 0 σ 15 [none, none, none] [.int t0] := by
  unfold ef_M_in_15 at h
  obtain ⟨e2, h⟩ := er_gd_some h
  cases h
  exact ej_zret B.1 B.2.1 B.2.2.1 (Nat.zero_le _) (Nat.zero_le _) e2 d_M_in_15
set_option maxRecDepth 100000 in
set_option maxHeartbeats 4000000 in
theorem ew_M_in_14 {p : Program} {l : Launch} {e : Env} {s : State} {m : MethodId} {args : Array Value} {below : List Frame} {meth : Method} {c : Code} {G : er_G} (B : er_B p s m c meth b_M_in "EntryRowsModel" G (some .boolean) 3 21 39) (σ : er_S) (r : Int32) (h : ef_M_in_14  σ = some r) : er_J p l e { frames := 0, cells := 0, slots := 0, locals := 0 } s m args below meth c G (er_A G s.heap.size) s.heap (er_fin below G s 0 0 (.inl (some (.int r)), σ)) 0 0 σ 14 [none, none, none] [] := by
  unfold ef_M_in_14 at h
  refine ej_iconst B.1 (v := 0) d_M_in_14 rfl ?_
  exact ej_le (lv' := [none, none, none]) trivial (ew_M_in_15 B 0 σ _ h)
set_option maxRecDepth 100000 in
set_option maxHeartbeats 4000000 in
theorem ec_M_in {l : Launch} {G : er_G} (hE : er_Pr G 21 39) (x0 x1 x2 : Int32) (σ : er_S) (r : Int32) (h : ef_M_in x0 x1 x2 σ = some r) : er_Con l y_M_in w_M_in 0 0 0 0 G [.int x0, .int x1, .int x2] σ ((.inl (some (.int r)), σ)) := by
  refine er_ofJ (ret := some .boolean) (cc := b_M_in) (maxL := 3) (lv0 := [some (.int x0), some (.int x1), some (.int x2)]) (hh := []) (by decide +kernel) rfl (Or.inl rfl) (by intro v hv; simp only [List.mem_cons, List.not_mem_nil, or_false] at hv; rcases hv with rfl | rfl | rfl <;> rfl) (Nat.le_of_ble_eq_true rfl) ?_
  intro p e s m args below meth c hadm C hr hlk hml hw hnm hm hcd
  have B : er_B p s m c meth b_M_in "EntryRowsModel" G (some .boolean) 3 21 39 := ⟨C, hr, hlk, hml, hE, er_noh hw hnm hm hcd⟩
  unfold ef_M_in at h
  refine ej_iload_n B.1 d_M_in_0 rfl ?_
  refine ej_iload_n B.1 d_M_in_1 rfl ?_
  refine ej_icmp_lt B.1 (tgt := 14) d_M_in_2 (by decide) (fun q1 => ?_) (fun q1 => ?_)
  · replace h := er_it h q1
    exact ej_le (lv' := [none, none, none]) trivial (ew_M_in_14 B σ _ h)
  · replace h := er_if h q1
    refine ej_iload_n B.1 d_M_in_5 rfl ?_
    refine ej_iload_n B.1 d_M_in_6 rfl ?_
    refine ej_icmp_gt B.1 (tgt := 14) d_M_in_7 (by decide) (fun q3 => ?_) (fun q3 => ?_)
    · replace h := er_it h q3
      exact ej_le (lv' := [none, none, none]) trivial (ew_M_in_14 B σ _ h)
    · replace h := er_if h q3
      refine ej_iconst B.1 (v := 1) d_M_in_10 rfl ?_
      refine ej_goto B.1 (tgt := 15) d_M_in_11 (by decide) ?_
      exact ej_le (lv' := [none, none, none]) trivial (ew_M_in_15 B 1 σ _ h)
set_option maxRecDepth 100000 in
set_option maxHeartbeats 4000000 in
theorem ec_M_isPerson {l : Launch} {G : er_G} (hE : er_Pr G 21 39) (x0 : Int32) (σ : er_S) (r : Int32) (h : ef_M_isPerson x0 σ = some r) : er_Con l y_M_isPerson w_M_isPerson 1 22 0 0 G [.int x0] σ ((.inl (some (.int r)), σ)) := by
  refine er_ofJ (ret := some .boolean) (cc := b_M_isPerson) (maxL := 1) (lv0 := [some (.int x0)]) (hh := []) (by decide +kernel) rfl (Or.inl rfl) (by intro v hv; simp only [List.mem_cons, List.not_mem_nil, or_false] at hv; rcases hv with rfl <;> rfl) (Nat.le_of_ble_eq_true rfl) ?_
  intro p e s m args below meth c hadm C hr hlk hml hw hnm hm hcd
  have B : er_B p s m c meth b_M_isPerson "EntryRowsModel" G (some .boolean) 1 21 39 := ⟨C, hr, hlk, hml, hE, er_noh hw hnm hm hcd⟩
  unfold ef_M_isPerson at h
  refine ej_iload_n B.1 d_M_isPerson_0 rfl ?_
  refine ej_iconst B.1 (v := 0) d_M_isPerson_1 rfl ?_
  refine ej_bipush B.1 (v := 39) d_M_isPerson_2 (by decide +kernel) ?_
  obtain ⟨v1, e2, h⟩ := er_bd_some h
  refine ej_cs_i (nc := 0) (ns := 0) B.1 [.int x0, .int 0, .int 39] [] (ec_M_in (er_pr B) x0 0 39 σ v1 e2) cal_M_in lk_M_73 st_M_in rfl B.2.2.2.1 d_M_isPerson_4 ⟨Nat.le_of_ble_eq_true rfl, Nat.le_of_ble_eq_true rfl, Nat.zero_le _, Nat.zero_le _⟩ (Nat.le_of_ble_eq_true rfl) rfl ?_
  obtain ⟨e3, h⟩ := er_gd_some h
  cases h
  exact ej_zret B.1 B.2.1 B.2.2.1 (Nat.zero_le _) (Nat.zero_le _) e3 d_M_isPerson_7
set_option maxRecDepth 100000 in
set_option maxHeartbeats 4000000 in
theorem ec_M_isTeam {l : Launch} {G : er_G} (hE : er_Pr G 21 39) (x0 : Int32) (σ : er_S) (r : Int32) (h : ef_M_isTeam x0 σ = some r) : er_Con l y_M_isTeam w_M_isTeam 1 22 0 0 G [.int x0] σ ((.inl (some (.int r)), σ)) := by
  refine er_ofJ (ret := some .boolean) (cc := b_M_isTeam) (maxL := 1) (lv0 := [some (.int x0)]) (hh := []) (by decide +kernel) rfl (Or.inl rfl) (by intro v hv; simp only [List.mem_cons, List.not_mem_nil, or_false] at hv; rcases hv with rfl <;> rfl) (Nat.le_of_ble_eq_true rfl) ?_
  intro p e s m args below meth c hadm C hr hlk hml hw hnm hm hcd
  have B : er_B p s m c meth b_M_isTeam "EntryRowsModel" G (some .boolean) 1 21 39 := ⟨C, hr, hlk, hml, hE, er_noh hw hnm hm hcd⟩
  unfold ef_M_isTeam at h
  refine ej_iload_n B.1 d_M_isTeam_0 rfl ?_
  refine ej_iconst B.1 (v := 0) d_M_isTeam_1 rfl ?_
  refine ej_bipush B.1 (v := 15) d_M_isTeam_2 (by decide +kernel) ?_
  obtain ⟨v1, e2, h⟩ := er_bd_some h
  refine ej_cs_i (nc := 0) (ns := 0) B.1 [.int x0, .int 0, .int 15] [] (ec_M_in (er_pr B) x0 0 15 σ v1 e2) cal_M_in lk_M_73 st_M_in rfl B.2.2.2.1 d_M_isTeam_4 ⟨Nat.le_of_ble_eq_true rfl, Nat.le_of_ble_eq_true rfl, Nat.zero_le _, Nat.zero_le _⟩ (Nat.le_of_ble_eq_true rfl) rfl ?_
  obtain ⟨e3, h⟩ := er_gd_some h
  cases h
  exact ej_zret B.1 B.2.1 B.2.2.1 (Nat.zero_le _) (Nat.zero_le _) e3 d_M_isTeam_7
set_option maxRecDepth 100000 in
set_option maxHeartbeats 4000000 in
theorem ec_M_isBoard {l : Launch} {G : er_G} (hE : er_Pr G 21 39) (x1 : Int32) (σ : er_S) (r : Int32) (h : ef_M_isBoard x1 σ = some r) : er_Con l y_M_isBoard w_M_isBoard 1 22 0 0 G [.ref 21, .int x1] σ ((.inl (some (.int r)), σ)) := by
  refine er_ofJ (ret := some .boolean) (cc := b_M_isBoard) (maxL := 2) (lv0 := [some (.ref 21), some (.int x1)]) (hh := []) (by decide +kernel) rfl (Or.inl rfl) (by intro v hv; simp only [List.mem_cons, List.not_mem_nil, or_false] at hv; rcases hv with rfl | rfl <;> rfl) (Nat.le_of_ble_eq_true rfl) ?_
  intro p e s m args below meth c hadm C hr hlk hml hw hnm hm hcd
  have B : er_B p s m c meth b_M_isBoard "EntryRowsModel" G (some .boolean) 2 21 39 := ⟨C, hr, hlk, hml, hE, er_noh hw hnm hm hcd⟩
  unfold ef_M_isBoard at h
  refine ej_iload_n B.1 d_M_isBoard_0 rfl ?_
  refine ej_iconst B.1 (v := 0) d_M_isBoard_1 rfl ?_
  refine ej_aload_n B.1 d_M_isBoard_2 rfl ?_
  refine ej_geti B.1 (er_at B 21 rfl rfl) rfl rfl fl_M_77 d_M_isBoard_3 ?_
  refine ej_iconst B.1 (v := 1) d_M_isBoard_6 rfl ?_
  refine ej_isub B.1 d_M_isBoard_7 ?_
  obtain ⟨v1, e2, h⟩ := er_bd_some h
  refine ej_cs_i (nc := 0) (ns := 0) B.1 [.int x1, .int 0, .int ((σ 21 5) - 1)] [] (ec_M_in (er_pr B) x1 0 ((σ 21 5) - 1) σ v1 e2) cal_M_in lk_M_73 st_M_in rfl B.2.2.2.1 d_M_isBoard_8 ⟨Nat.le_of_ble_eq_true rfl, Nat.le_of_ble_eq_true rfl, Nat.zero_le _, Nat.zero_le _⟩ (Nat.le_of_ble_eq_true rfl) rfl ?_
  obtain ⟨e3, h⟩ := er_gd_some h
  cases h
  exact ej_zret B.1 B.2.1 B.2.2.1 (Nat.zero_le _) (Nat.zero_le _) e3 d_M_isBoard_11
set_option maxRecDepth 100000 in
set_option maxHeartbeats 4000000 in
theorem ew_M_isShut_22 {p : Program} {l : Launch} {e : Env} {s : State} {m : MethodId} {args : Array Value} {below : List Frame} {meth : Method} {c : Code} {G : er_G} (B : er_B p s m c meth b_M_isShut "EntryRowsModel" G (some .boolean) 2 21 39) (t0 : Int32) (σ : er_S) (r : Int32) (h : ef_M_isShut_22 t0 σ = some r) : er_J p l e { frames := 2, cells := 0, slots := 0, locals := 43 } s m args below meth c G (er_A G s.heap.size) s.heap (er_fin below G s 0 0 (.inl (some (.int r)), σ)) 0 0 σ 22 [none, none] [.int t0] := by
  unfold ef_M_isShut_22 at h
  obtain ⟨e4, h⟩ := er_gd_some h
  cases h
  exact ej_zret B.1 B.2.1 B.2.2.1 (Nat.zero_le _) (Nat.zero_le _) e4 d_M_isShut_22
set_option maxRecDepth 100000 in
set_option maxHeartbeats 4000000 in
theorem ew_M_isShut_21 {p : Program} {l : Launch} {e : Env} {s : State} {m : MethodId} {args : Array Value} {below : List Frame} {meth : Method} {c : Code} {G : er_G} (B : er_B p s m c meth b_M_isShut "EntryRowsModel" G (some .boolean) 2 21 39) (σ : er_S) (r : Int32) (h : ef_M_isShut_21  σ = some r) : er_J p l e { frames := 2, cells := 0, slots := 0, locals := 43 } s m args below meth c G (er_A G s.heap.size) s.heap (er_fin below G s 0 0 (.inl (some (.int r)), σ)) 0 0 σ 21 [none, none] [] := by
  unfold ef_M_isShut_21 at h
  refine ej_iconst B.1 (v := 0) d_M_isShut_21 rfl ?_
  exact ej_le (lv' := [none, none]) trivial (ew_M_isShut_22 B 0 σ _ h)
set_option maxRecDepth 100000 in
set_option maxHeartbeats 4000000 in
theorem ec_M_isShut {l : Launch} {G : er_G} (hE : er_Pr G 21 39) (x1 : Int32) (σ : er_S) (r : Int32) (h : ef_M_isShut x1 σ = some r) : er_Con l y_M_isShut w_M_isShut 2 43 0 0 G [.ref 21, .int x1] σ ((.inl (some (.int r)), σ)) := by
  refine er_ofJ (ret := some .boolean) (cc := b_M_isShut) (maxL := 2) (lv0 := [some (.ref 21), some (.int x1)]) (hh := []) (by decide +kernel) rfl (Or.inl rfl) (by intro v hv; simp only [List.mem_cons, List.not_mem_nil, or_false] at hv; rcases hv with rfl | rfl <;> rfl) (Nat.le_of_ble_eq_true rfl) ?_
  intro p e s m args below meth c hadm C hr hlk hml hw hnm hm hcd
  have B : er_B p s m c meth b_M_isShut "EntryRowsModel" G (some .boolean) 2 21 39 := ⟨C, hr, hlk, hml, hE, er_noh hw hnm hm hcd⟩
  unfold ef_M_isShut at h
  refine ej_aload_n B.1 d_M_isShut_0 rfl ?_
  refine ej_iload_n B.1 d_M_isShut_1 rfl ?_
  obtain ⟨v1, e2, h⟩ := er_bd_some h
  refine ej_cv_i (nc := 0) (ns := 0) B.1 [.int x1] [] (ec_M_isBoard (er_pr B) x1 σ v1 e2) cal_M_isBoard lk_M_80 in_M_isBoard (er_at B 21 rfl rfl) rfl rfl se_M_isBoard rfl B.2.2.2.1 d_M_isShut_2 ⟨Nat.le_of_ble_eq_true rfl, Nat.le_of_ble_eq_true rfl, Nat.zero_le _, Nat.zero_le _⟩ (Nat.le_of_ble_eq_true rfl) rfl ?_
  refine ej_if_eq B.1 (tgt := 21) d_M_isShut_5 (by decide) (fun q3 => ?_) (fun q3 => ?_)
  · replace h := er_it h q3
    exact ej_le (lv' := [none, none]) trivial (ew_M_isShut_21 B σ _ h)
  · replace h := er_if h q3
    refine ej_aload_n B.1 d_M_isShut_8 rfl ?_
    refine ej_getr B.1 (er_at B 21 rfl rfl) rfl rfl fl_M_17 d_M_isShut_9 ?_
    refine ej_iload_n B.1 d_M_isShut_12 rfl ?_
    obtain ⟨e5, h⟩ := er_gd_some h
    refine ej_zald B.1 (er_at B 23 rfl rfl) rfl e5 d_M_isShut_13 ?_
    refine ej_if_ne B.1 (tgt := 21) d_M_isShut_14 (by decide) (fun q6 => ?_) (fun q6 => ?_)
    · replace h := er_if h q6
      exact ej_le (lv' := [none, none]) trivial (ew_M_isShut_21 B σ _ h)
    · replace h := er_it h q6
      refine ej_iconst B.1 (v := 1) d_M_isShut_17 rfl ?_
      refine ej_goto B.1 (tgt := 22) d_M_isShut_18 (by decide) ?_
      exact ej_le (lv' := [none, none]) trivial (ew_M_isShut_22 B 1 σ _ h)
set_option maxRecDepth 100000 in
set_option maxHeartbeats 4000000 in
theorem ec_M_outside {l : Launch} {G : er_G} (hE : er_Pr G 21 39) (x1 : Int32) (σ : er_S) (r : Unit × er_S) (h : ef_M_outside x1 σ = some r) : er_Con l y_M_outside w_M_outside 0 0 0 0 G [.ref 21, .int x1] σ ((.inl none, r.2)) := by
  refine er_ofJ (ret := none) (cc := b_M_outside) (maxL := 2) (lv0 := [some (.ref 21), some (.int x1)]) (hh := []) (by decide +kernel) rfl (Or.inl rfl) (by intro v hv; simp only [List.mem_cons, List.not_mem_nil, or_false] at hv; rcases hv with rfl | rfl <;> rfl) (Nat.le_of_ble_eq_true rfl) ?_
  intro p e s m args below meth c hadm C hr hlk hml hw hnm hm hcd
  have B : er_B p s m c meth b_M_outside "EntryRowsModel" G (none) 2 21 39 := ⟨C, hr, hlk, hml, hE, er_noh hw hnm hm hcd⟩
  unfold ef_M_outside at h
  refine ej_aload_n B.1 d_M_outside_0 rfl ?_
  refine ej_getr B.1 (er_at B 21 rfl rfl) rfl rfl fl_M_42 d_M_outside_1 ?_
  refine ej_iload_n B.1 d_M_outside_4 rfl ?_
  refine ej_iconst B.1 (v := (-1)) d_M_outside_5 rfl ?_
  obtain ⟨e1, h⟩ := er_gd_some h
  refine ej_iast B.1 (er_at B 31 rfl rfl) rfl e1 d_M_outside_6 ?_
  refine ej_aload_n B.1 d_M_outside_7 rfl ?_
  refine ej_getr B.1 (er_at B 21 rfl rfl) rfl rfl fl_M_45 d_M_outside_8 ?_
  refine ej_iload_n B.1 d_M_outside_11 rfl ?_
  refine ej_iconst B.1 (v := (-1)) d_M_outside_12 rfl ?_
  obtain ⟨e2, h⟩ := er_gd_some h
  refine ej_iast B.1 (er_at B 32 rfl rfl) rfl e2 d_M_outside_13 ?_
  refine ej_aload_n B.1 d_M_outside_14 rfl ?_
  refine ej_getr B.1 (er_at B 21 rfl rfl) rfl rfl fl_M_48 d_M_outside_15 ?_
  refine ej_iload_n B.1 d_M_outside_18 rfl ?_
  refine ej_iconst B.1 (v := (-1)) d_M_outside_19 rfl ?_
  obtain ⟨e3, h⟩ := er_gd_some h
  refine ej_iast B.1 (er_at B 33 rfl rfl) rfl e3 d_M_outside_20 ?_
  refine ej_aload_n B.1 d_M_outside_21 rfl ?_
  refine ej_getr B.1 (er_at B 21 rfl rfl) rfl rfl fl_M_51 d_M_outside_22 ?_
  refine ej_iload_n B.1 d_M_outside_25 rfl ?_
  refine ej_iconst B.1 (v := (-1)) d_M_outside_26 rfl ?_
  obtain ⟨e4, h⟩ := er_gd_some h
  refine ej_iast B.1 (er_at B 34 rfl rfl) rfl e4 d_M_outside_27 ?_
  refine ej_aload_n B.1 d_M_outside_28 rfl ?_
  refine ej_getr B.1 (er_at B 21 rfl rfl) rfl rfl fl_M_54 d_M_outside_29 ?_
  refine ej_iload_n B.1 d_M_outside_32 rfl ?_
  refine ej_iconst B.1 (v := (-1)) d_M_outside_33 rfl ?_
  obtain ⟨e5, h⟩ := er_gd_some h
  refine ej_iast B.1 (er_at B 35 rfl rfl) rfl e5 d_M_outside_34 ?_
  cases h
  exact ej_vret B.1 B.2.1 B.2.2.1 (Nat.zero_le _) (Nat.zero_le _) d_M_outside_35
set_option maxRecDepth 100000 in
set_option maxHeartbeats 4000000 in
theorem ew_M_keeps_4 {p : Program} {l : Launch} {e : Env} {s : State} {m : MethodId} {args : Array Value} {below : List Frame} {meth : Method} {c : Code} {G : er_G} (B : er_B p s m c meth b_M_keeps "EntryRowsModel" G (some .int) 4 21 39) : ∀ (n : Nat) (x1 x2 x3 : Int32) (σ : er_S) (r : Int32), ef_M_keeps_4 n x1 x2 x3 σ = some r → er_J p l e { frames := 0, cells := 0, slots := 0, locals := 0 } s m args below meth c G (er_A G s.heap.size) s.heap (er_fin below G s 0 0 (.inl (some (.int r)), σ)) 0 0 σ 4 [some (.ref 21), some (.int x1), some (.int x2), some (.int x3)] [] := by
  intro n
  induction n with
  | zero => intro x1 x2 x3 σ r h; cases h
  | succ n ih =>
    intro x1 x2 x3 σ r h
    rw [ef_M_keeps_4] at h
    refine ej_iload_n B.1 d_M_keeps_4 rfl ?_
    refine ej_aload_n B.1 d_M_keeps_5 rfl ?_
    refine ej_geti B.1 (er_at B 21 rfl rfl) rfl rfl fl_M_77 d_M_keeps_6 ?_
    refine ej_icmp_ge B.1 (tgt := 34) d_M_keeps_9 (by decide) (fun q1 => ?_) (fun q1 => ?_)
    · replace h := er_it h q1
      refine ej_iload_n B.1 d_M_keeps_34 rfl ?_
      cases h
      exact ej_iret B.1 B.2.1 B.2.2.1 (Nat.zero_le _) (Nat.zero_le _) d_M_keeps_35
    · replace h := er_if h q1
      refine ej_aload_n B.1 d_M_keeps_12 rfl ?_
      refine ej_getr B.1 (er_at B 21 rfl rfl) rfl rfl fl_M_30 d_M_keeps_13 ?_
      refine ej_iload_n B.1 d_M_keeps_16 rfl ?_
      obtain ⟨e2, h⟩ := er_gd_some h
      refine ej_iald B.1 (er_at B 27 rfl rfl) rfl e2 d_M_keeps_17 ?_
      refine ej_iload_n B.1 d_M_keeps_18 rfl ?_
      refine ej_icmp_ne B.1 (tgt := 26) d_M_keeps_19 (by decide) (fun q3 => ?_) (fun q3 => ?_)
      · replace h := er_if h q3
        refine ej_iload_n B.1 d_M_keeps_26 rfl ?_
        refine ej_istore_n B.1 (lv' := [some (.ref 21), some (.int x1), some (.int x2), some (.int x3)]) d_M_keeps_27 rfl rfl rfl ?_
        refine ej_iinc B.1 (v := x3 + 1) (lv' := [some (.ref 21), some (.int x1), some (.int x2), some (.int (x3 + 1))]) d_M_keeps_28 rfl rfl rfl rfl rfl ?_
        refine ej_goto B.1 (tgt := 4) d_M_keeps_31 (by decide) ?_
        exact ej_le (lv' := [some (.ref 21), some (.int x1), some (.int x2), some (.int (x3 + 1))]) ⟨rfl, ⟨rfl, ⟨rfl, ⟨rfl, trivial⟩⟩⟩⟩ (ih x1 x2 (x3 + 1) σ _ h)
      · replace h := er_it h q3
        refine ej_iload_n B.1 d_M_keeps_22 rfl ?_
        refine ej_goto B.1 (tgt := 27) d_M_keeps_23 (by decide) ?_
        refine ej_istore_n B.1 (lv' := [some (.ref 21), some (.int x1), some (.int x3), some (.int x3)]) d_M_keeps_27 rfl rfl rfl ?_
        refine ej_iinc B.1 (v := x3 + 1) (lv' := [some (.ref 21), some (.int x1), some (.int x3), some (.int (x3 + 1))]) d_M_keeps_28 rfl rfl rfl rfl rfl ?_
        refine ej_goto B.1 (tgt := 4) d_M_keeps_31 (by decide) ?_
        exact ej_le (lv' := [some (.ref 21), some (.int x1), some (.int x3), some (.int (x3 + 1))]) ⟨rfl, ⟨rfl, ⟨rfl, ⟨rfl, trivial⟩⟩⟩⟩ (ih x1 x3 (x3 + 1) σ _ h)
set_option maxRecDepth 100000 in
set_option maxHeartbeats 4000000 in
theorem ec_M_keeps {l : Launch} {G : er_G} (hE : er_Pr G 21 39) (x1 : Int32) (σ : er_S) (r : Int32) (h : ef_M_keeps x1 σ = some r) : er_Con l y_M_keeps w_M_keeps 0 0 0 0 G [.ref 21, .int x1] σ ((.inl (some (.int r)), σ)) := by
  refine er_ofJ (ret := some .int) (cc := b_M_keeps) (maxL := 4) (lv0 := [some (.ref 21), some (.int x1), none, none]) (hh := []) (by decide +kernel) rfl (Or.inl rfl) (by intro v hv; simp only [List.mem_cons, List.not_mem_nil, or_false] at hv; rcases hv with rfl | rfl <;> rfl) (Nat.le_of_ble_eq_true rfl) ?_
  intro p e s m args below meth c hadm C hr hlk hml hw hnm hm hcd
  have B : er_B p s m c meth b_M_keeps "EntryRowsModel" G (some .int) 4 21 39 := ⟨C, hr, hlk, hml, hE, er_noh hw hnm hm hcd⟩
  unfold ef_M_keeps at h
  refine ej_iconst B.1 (v := (-1)) d_M_keeps_0 rfl ?_
  refine ej_istore_n B.1 (lv' := [some (.ref 21), some (.int x1), some (.int (-1)), none]) d_M_keeps_1 rfl rfl rfl ?_
  refine ej_iconst B.1 (v := 0) d_M_keeps_2 rfl ?_
  refine ej_istore_n B.1 (lv' := [some (.ref 21), some (.int x1), some (.int (-1)), some (.int 0)]) d_M_keeps_3 rfl rfl rfl ?_
  exact ej_le (lv' := [some (.ref 21), some (.int x1), some (.int (-1)), some (.int 0)]) ⟨rfl, ⟨rfl, ⟨rfl, ⟨rfl, trivial⟩⟩⟩⟩ (ew_M_keeps_4 B 64 x1 (-1) 0 σ _ h)
set_option maxRecDepth 100000 in
set_option maxHeartbeats 4000000 in
theorem ew_M_board_54 {p : Program} {l : Launch} {e : Env} {s : State} {m : MethodId} {args : Array Value} {below : List Frame} {meth : Method} {c : Code} {G : er_G} (B : er_B p s m c meth b_M_board "EntryRowsModel" G (some .int) 5 21 39) (x1 x2 x3 t1 t2 : Int32) (σ : er_S) (r : Int32 × er_S) (h : ef_M_board_54 x1 x2 x3 t1 t2 σ = some r) : er_J p l e { frames := 1, cells := 0, slots := 0, locals := 23 } s m args below meth c G (er_A G s.heap.size) s.heap (er_fin below G s 0 0 (.inl (some (.int r.1)), r.2)) 0 0 σ 54 [some (.ref 21), some (.int x1), some (.int x2), some (.int x3), none] [.int t2, .int t1, .ref 21] := by
  unfold ef_M_board_54 at h
  refine ej_iconst B.1 (v := 0) d_M_board_54 rfl ?_
  obtain ⟨v5, g7, e6, h⟩ := er_bw_some h
  refine ej_cv_i (nc := 0) (ns := 0) B.1 [.int t1, .int t2, .int 0] [] (ec_M_throwing (er_pr B) t1 t2 0 σ (v5, g7) e6) cal_M_throwing lk_M_84 in_M_throwing (er_at B 21 rfl rfl) rfl rfl se_M_throwing rfl B.2.2.2.1 d_M_board_55 ⟨Nat.le_of_ble_eq_true rfl, Nat.le_of_ble_eq_true rfl, Nat.zero_le _, Nat.zero_le _⟩ (Nat.le_of_ble_eq_true rfl) rfl ?_
  refine ej_if_eq B.1 (tgt := 63) d_M_board_58 (by decide) (fun q8 => ?_) (fun q8 => ?_)
  · replace h := er_it h q8
    refine ej_aload_n B.1 d_M_board_63 rfl ?_
    refine ej_getr B.1 (er_at B 21 rfl rfl) rfl rfl fl_M_17 d_M_board_64 ?_
    refine ej_aload_n B.1 d_M_board_67 rfl ?_
    refine ej_geti B.1 (er_at B 21 rfl rfl) rfl rfl fl_M_77 d_M_board_68 ?_
    refine ej_iconst B.1 (v := 1) d_M_board_71 rfl ?_
    obtain ⟨e9, h⟩ := er_gd_some h
    obtain ⟨e10, h⟩ := er_gd_some h
    refine ej_zast B.1 (er_at B 23 rfl rfl) rfl e9 e10 d_M_board_72 ?_
    refine ej_aload_n B.1 d_M_board_73 rfl ?_
    refine ej_getr B.1 (er_at B 21 rfl rfl) rfl rfl fl_M_21 d_M_board_74 ?_
    refine ej_aload_n B.1 d_M_board_77 rfl ?_
    refine ej_geti B.1 (er_at B 21 rfl rfl) rfl rfl fl_M_77 d_M_board_78 ?_
    refine ej_iload_n B.1 d_M_board_81 rfl ?_
    obtain ⟨e11, h⟩ := er_gd_some h
    refine ej_iast B.1 (er_at B 24 rfl rfl) rfl e11 d_M_board_82 ?_
    refine ej_aload_n B.1 d_M_board_83 rfl ?_
    refine ej_getr B.1 (er_at B 21 rfl rfl) rfl rfl fl_M_24 d_M_board_84 ?_
    refine ej_aload_n B.1 d_M_board_87 rfl ?_
    refine ej_geti B.1 (er_at B 21 rfl rfl) rfl rfl fl_M_77 d_M_board_88 ?_
    refine ej_iload_n B.1 d_M_board_91 rfl ?_
    obtain ⟨e12, h⟩ := er_gd_some h
    refine ej_iast B.1 (er_at B 25 rfl rfl) rfl e12 d_M_board_92 ?_
    refine ej_aload_n B.1 d_M_board_93 rfl ?_
    refine ej_getr B.1 (er_at B 21 rfl rfl) rfl rfl fl_M_27 d_M_board_94 ?_
    refine ej_aload_n B.1 d_M_board_97 rfl ?_
    refine ej_geti B.1 (er_at B 21 rfl rfl) rfl rfl fl_M_77 d_M_board_98 ?_
    refine ej_iload_n B.1 d_M_board_101 rfl ?_
    obtain ⟨e13, h⟩ := er_gd_some h
    refine ej_iast B.1 (er_at B 26 rfl rfl) rfl e13 d_M_board_102 ?_
    refine ej_aload_n B.1 d_M_board_103 rfl ?_
    refine ej_getr B.1 (er_at B 21 rfl rfl) rfl rfl fl_M_30 d_M_board_104 ?_
    refine ej_aload_n B.1 d_M_board_107 rfl ?_
    refine ej_geti B.1 (er_at B 21 rfl rfl) rfl rfl fl_M_77 d_M_board_108 ?_
    refine ej_iconst B.1 (v := (-1)) d_M_board_111 rfl ?_
    obtain ⟨e14, h⟩ := er_gd_some h
    refine ej_iast B.1 (er_at B 27 rfl rfl) rfl e14 d_M_board_112 ?_
    refine ej_aload_n B.1 d_M_board_113 rfl ?_
    refine ej_dup B.1 d_M_board_114 rfl ?_
    refine ej_geti B.1 (er_at B 21 rfl rfl) rfl rfl fl_M_77 d_M_board_115 ?_
    refine ej_iconst B.1 (v := 1) d_M_board_118 rfl ?_
    refine ej_iadd B.1 d_M_board_119 ?_
    refine ej_puti B.1 (er_at B 21 rfl rfl) rfl rfl fp_M_77 d_M_board_120 ?_
    refine ej_aload_n B.1 d_M_board_123 rfl ?_
    refine ej_geti B.1 (er_at B 21 rfl rfl) rfl rfl fl_M_77 d_M_board_124 ?_
    refine ej_iconst B.1 (v := 1) d_M_board_127 rfl ?_
    refine ej_isub B.1 d_M_board_128 ?_
    cases h
    exact ej_iret B.1 B.2.1 B.2.2.1 (Nat.zero_le _) (Nat.zero_le _) d_M_board_129
  · replace h := er_if h q8
    refine ej_iconst B.1 (v := 0) d_M_board_61 rfl ?_
    cases h
    exact ej_iret B.1 B.2.1 B.2.2.1 (Nat.zero_le _) (Nat.zero_le _) d_M_board_62
set_option maxRecDepth 100000 in
set_option maxHeartbeats 4000000 in
theorem ew_M_board_35 {p : Program} {l : Launch} {e : Env} {s : State} {m : MethodId} {args : Array Value} {below : List Frame} {meth : Method} {c : Code} {G : er_G} (B : er_B p s m c meth b_M_board "EntryRowsModel" G (some .int) 5 21 39) (x1 x2 x3 t0 : Int32) (σ : er_S) (r : Int32 × er_S) (h : ef_M_board_35 x1 x2 x3 t0 σ = some r) : er_J p l e { frames := 1, cells := 0, slots := 0, locals := 23 } s m args below meth c G (er_A G s.heap.size) s.heap (er_fin below G s 0 0 (.inl (some (.int r.1)), r.2)) 0 0 σ 35 [some (.ref 21), some (.int x1), some (.int x2), some (.int x3), none] [.int t0] := by
  unfold ef_M_board_35 at h
  refine ej_istore B.1 (lv' := [some (.ref 21), some (.int x1), some (.int x2), some (.int x3), some (.int t0)]) d_M_board_35 rfl rfl rfl ?_
  refine ej_aload_n B.1 d_M_board_37 rfl ?_
  refine ej_iload B.1 d_M_board_38 rfl ?_
  refine ej_aload_n B.1 d_M_board_40 rfl ?_
  refine ej_geti B.1 (er_at B 21 rfl rfl) rfl rfl fl_M_77 d_M_board_41 ?_
  refine ej_bipush B.1 (v := 8) d_M_board_44 (by decide +kernel) ?_
  refine ej_icmp_ne B.1 (tgt := 53) d_M_board_46 (by decide) (fun q4 => ?_) (fun q4 => ?_)
  · replace h := er_if h q4
    refine ej_iconst B.1 (v := 0) d_M_board_53 rfl ?_
    exact ej_le (lv' := [some (.ref 21), some (.int x1), some (.int x2), some (.int x3), none]) ⟨rfl, ⟨rfl, ⟨rfl, ⟨rfl, trivial⟩⟩⟩⟩ (ew_M_board_54 B x1 x2 x3 t0 0 σ _ h)
  · replace h := er_it h q4
    refine ej_iconst B.1 (v := 1) d_M_board_49 rfl ?_
    refine ej_goto B.1 (tgt := 54) d_M_board_50 (by decide) ?_
    exact ej_le (lv' := [some (.ref 21), some (.int x1), some (.int x2), some (.int x3), none]) ⟨rfl, ⟨rfl, ⟨rfl, ⟨rfl, trivial⟩⟩⟩⟩ (ew_M_board_54 B x1 x2 x3 t0 1 σ _ h)
set_option maxRecDepth 100000 in
set_option maxHeartbeats 4000000 in
theorem ew_M_board_30 {p : Program} {l : Launch} {e : Env} {s : State} {m : MethodId} {args : Array Value} {below : List Frame} {meth : Method} {c : Code} {G : er_G} (B : er_B p s m c meth b_M_board "EntryRowsModel" G (some .int) 5 21 39) (x1 x2 x3 : Int32) (σ : er_S) (r : Int32 × er_S) (h : ef_M_board_30 x1 x2 x3 σ = some r) : er_J p l e { frames := 1, cells := 0, slots := 0, locals := 23 } s m args below meth c G (er_A G s.heap.size) s.heap (er_fin below G s 0 0 (.inl (some (.int r.1)), r.2)) 0 0 σ 30 [some (.ref 21), some (.int x1), some (.int x2), some (.int x3), none] [] := by
  unfold ef_M_board_30 at h
  refine ej_iconst B.1 (v := 1) d_M_board_30 rfl ?_
  refine ej_goto B.1 (tgt := 35) d_M_board_31 (by decide) ?_
  exact ej_le (lv' := [some (.ref 21), some (.int x1), some (.int x2), some (.int x3), none]) ⟨rfl, ⟨rfl, ⟨rfl, ⟨rfl, trivial⟩⟩⟩⟩ (ew_M_board_35 B x1 x2 x3 1 σ _ h)
set_option maxRecDepth 100000 in
set_option maxHeartbeats 4000000 in
theorem ec_M_board {l : Launch} {G : er_G} (hE : er_Pr G 21 39) (x1 x2 x3 : Int32) (σ : er_S) (r : Int32 × er_S) (h : ef_M_board x1 x2 x3 σ = some r) : er_Con l y_M_board w_M_board 1 23 0 0 G [.ref 21, .int x1, .int x2, .int x3] σ ((.inl (some (.int r.1)), r.2)) := by
  refine er_ofJ (ret := some .int) (cc := b_M_board) (maxL := 5) (lv0 := [some (.ref 21), some (.int x1), some (.int x2), some (.int x3), none]) (hh := []) (by decide +kernel) rfl (Or.inl rfl) (by intro v hv; simp only [List.mem_cons, List.not_mem_nil, or_false] at hv; rcases hv with rfl | rfl | rfl | rfl <;> rfl) (Nat.le_of_ble_eq_true rfl) ?_
  intro p e s m args below meth c hadm C hr hlk hml hw hnm hm hcd
  have B : er_B p s m c meth b_M_board "EntryRowsModel" G (some .int) 5 21 39 := ⟨C, hr, hlk, hml, hE, er_noh hw hnm hm hcd⟩
  unfold ef_M_board at h
  refine ej_iload_n B.1 d_M_board_0 rfl ?_
  refine ej_iconst B.1 (v := 1) d_M_board_1 rfl ?_
  refine ej_bipush B.1 (v := 6) d_M_board_2 (by decide +kernel) ?_
  obtain ⟨v1, e2, h⟩ := er_bd_some h
  refine ej_cs_i (nc := 0) (ns := 0) B.1 [.int x1, .int 1, .int 6] [] (ec_M_in (er_pr B) x1 1 6 σ v1 e2) cal_M_in lk_M_73 st_M_in rfl B.2.2.2.1 d_M_board_4 ⟨Nat.le_of_ble_eq_true rfl, Nat.le_of_ble_eq_true rfl, Nat.zero_le _, Nat.zero_le _⟩ (Nat.le_of_ble_eq_true rfl) rfl ?_
  refine ej_if_eq B.1 (tgt := 30) d_M_board_7 (by decide) (fun q3 => ?_) (fun q3 => ?_)
  · replace h := er_it h q3
    exact ej_le (lv' := [some (.ref 21), some (.int x1), some (.int x2), some (.int x3), none]) ⟨rfl, ⟨rfl, ⟨rfl, ⟨rfl, trivial⟩⟩⟩⟩ (ew_M_board_30 B x1 x2 x3 σ _ h)
  · replace h := er_if h q3
    refine ej_iload_n B.1 d_M_board_10 rfl ?_
    refine ej_iconst B.1 (v := 1) d_M_board_11 rfl ?_
    refine ej_sipush B.1 (v := 10000) d_M_board_12 (by decide +kernel) ?_
    obtain ⟨v15, e16, h⟩ := er_bd_some h
    refine ej_cs_i (nc := 0) (ns := 0) B.1 [.int x2, .int 1, .int 10000] [] (ec_M_in (er_pr B) x2 1 10000 σ v15 e16) cal_M_in lk_M_73 st_M_in rfl B.2.2.2.1 d_M_board_15 ⟨Nat.le_of_ble_eq_true rfl, Nat.le_of_ble_eq_true rfl, Nat.zero_le _, Nat.zero_le _⟩ (Nat.le_of_ble_eq_true rfl) rfl ?_
    refine ej_if_eq B.1 (tgt := 30) d_M_board_18 (by decide) (fun q17 => ?_) (fun q17 => ?_)
    · replace h := er_it h q17
      exact ej_le (lv' := [some (.ref 21), some (.int x1), some (.int x2), some (.int x3), none]) ⟨rfl, ⟨rfl, ⟨rfl, ⟨rfl, trivial⟩⟩⟩⟩ (ew_M_board_30 B x1 x2 x3 σ _ h)
    · replace h := er_if h q17
      refine ej_iload_n B.1 d_M_board_21 rfl ?_
      refine ej_iconst B.1 (v := 0) d_M_board_22 rfl ?_
      refine ej_iconst B.1 (v := 3) d_M_board_23 rfl ?_
      obtain ⟨v18, e19, h⟩ := er_bd_some h
      refine ej_cs_i (nc := 0) (ns := 0) B.1 [.int x3, .int 0, .int 3] [] (ec_M_in (er_pr B) x3 0 3 σ v18 e19) cal_M_in lk_M_73 st_M_in rfl B.2.2.2.1 d_M_board_24 ⟨Nat.le_of_ble_eq_true rfl, Nat.le_of_ble_eq_true rfl, Nat.zero_le _, Nat.zero_le _⟩ (Nat.le_of_ble_eq_true rfl) rfl ?_
      refine ej_if_ne B.1 (tgt := 34) d_M_board_27 (by decide) (fun q20 => ?_) (fun q20 => ?_)
      · replace h := er_if h q20
        refine ej_iconst B.1 (v := 0) d_M_board_34 rfl ?_
        exact ej_le (lv' := [some (.ref 21), some (.int x1), some (.int x2), some (.int x3), none]) ⟨rfl, ⟨rfl, ⟨rfl, ⟨rfl, trivial⟩⟩⟩⟩ (ew_M_board_35 B x1 x2 x3 0 σ _ h)
      · replace h := er_it h q20
        exact ej_le (lv' := [some (.ref 21), some (.int x1), some (.int x2), some (.int x3), none]) ⟨rfl, ⟨rfl, ⟨rfl, ⟨rfl, trivial⟩⟩⟩⟩ (ew_M_board_30 B x1 x2 x3 σ _ h)
set_option maxRecDepth 100000 in
set_option maxHeartbeats 4000000 in
theorem ew_M_keep_58 {p : Program} {l : Launch} {e : Env} {s : State} {m : MethodId} {args : Array Value} {below : List Frame} {meth : Method} {c : Code} {G : er_G} (B : er_B p s m c meth b_M_keep "EntryRowsModel" G (none) 4 21 39) (x1 x2 t1 t2 : Int32) (σ : er_S) (r : Unit × er_S) (h : ef_M_keep_58 x1 x2 t1 t2 σ = some r) : er_J p l e { frames := 2, cells := 0, slots := 0, locals := 43 } s m args below meth c G (er_A G s.heap.size) s.heap (er_fin below G s 0 0 (.inl none, r.2)) 0 0 σ 58 [some (.ref 21), some (.int x1), some (.int x2), none] [.int t2, .int t1, .ref 21] := by
  unfold ef_M_keep_58 at h
  refine ej_iconst B.1 (v := 0) d_M_keep_58 rfl ?_
  obtain ⟨v5, g7, e6, h⟩ := er_bw_some h
  refine ej_cv_i (nc := 0) (ns := 0) B.1 [.int t1, .int t2, .int 0] [] (ec_M_throwing (er_pr B) t1 t2 0 σ (v5, g7) e6) cal_M_throwing lk_M_84 in_M_throwing (er_at B 21 rfl rfl) rfl rfl se_M_throwing rfl B.2.2.2.1 d_M_keep_59 ⟨Nat.le_of_ble_eq_true rfl, Nat.le_of_ble_eq_true rfl, Nat.zero_le _, Nat.zero_le _⟩ (Nat.le_of_ble_eq_true rfl) rfl ?_
  refine ej_if_eq B.1 (tgt := 66) d_M_keep_62 (by decide) (fun q8 => ?_) (fun q8 => ?_)
  · replace h := er_it h q8
    refine ej_aload_n B.1 d_M_keep_66 rfl ?_
    refine ej_getr B.1 (er_at B 21 rfl rfl) rfl rfl fl_M_30 d_M_keep_67 ?_
    refine ej_iload_n B.1 d_M_keep_70 rfl ?_
    refine ej_iload_n B.1 d_M_keep_71 rfl ?_
    obtain ⟨e9, h⟩ := er_gd_some h
    refine ej_iast B.1 (er_at B 27 rfl rfl) rfl e9 d_M_keep_72 ?_
    cases h
    exact ej_vret B.1 B.2.1 B.2.2.1 (Nat.zero_le _) (Nat.zero_le _) d_M_keep_73
  · replace h := er_if h q8
    cases h
    exact ej_vret B.1 B.2.1 B.2.2.1 (Nat.zero_le _) (Nat.zero_le _) d_M_keep_65
set_option maxRecDepth 100000 in
set_option maxHeartbeats 4000000 in
theorem ew_M_keep_57 {p : Program} {l : Launch} {e : Env} {s : State} {m : MethodId} {args : Array Value} {below : List Frame} {meth : Method} {c : Code} {G : er_G} (B : er_B p s m c meth b_M_keep "EntryRowsModel" G (none) 4 21 39) (x1 x2 t1 : Int32) (σ : er_S) (r : Unit × er_S) (h : ef_M_keep_57 x1 x2 t1 σ = some r) : er_J p l e { frames := 2, cells := 0, slots := 0, locals := 43 } s m args below meth c G (er_A G s.heap.size) s.heap (er_fin below G s 0 0 (.inl none, r.2)) 0 0 σ 57 [some (.ref 21), some (.int x1), some (.int x2), none] [.int t1, .ref 21] := by
  unfold ef_M_keep_57 at h
  refine ej_iconst B.1 (v := 0) d_M_keep_57 rfl ?_
  exact ej_le (lv' := [some (.ref 21), some (.int x1), some (.int x2), none]) ⟨rfl, ⟨rfl, ⟨rfl, trivial⟩⟩⟩ (ew_M_keep_58 B x1 x2 t1 0 σ _ h)
set_option maxRecDepth 100000 in
set_option maxHeartbeats 4000000 in
theorem ew_M_keep_53 {p : Program} {l : Launch} {e : Env} {s : State} {m : MethodId} {args : Array Value} {below : List Frame} {meth : Method} {c : Code} {G : er_G} (B : er_B p s m c meth b_M_keep "EntryRowsModel" G (none) 4 21 39) (x1 x2 t1 : Int32) (σ : er_S) (r : Unit × er_S) (h : ef_M_keep_53 x1 x2 t1 σ = some r) : er_J p l e { frames := 2, cells := 0, slots := 0, locals := 43 } s m args below meth c G (er_A G s.heap.size) s.heap (er_fin below G s 0 0 (.inl none, r.2)) 0 0 σ 53 [some (.ref 21), some (.int x1), some (.int x2), none] [.int t1, .ref 21] := by
  unfold ef_M_keep_53 at h
  refine ej_iconst B.1 (v := 1) d_M_keep_53 rfl ?_
  refine ej_goto B.1 (tgt := 58) d_M_keep_54 (by decide) ?_
  exact ej_le (lv' := [some (.ref 21), some (.int x1), some (.int x2), none]) ⟨rfl, ⟨rfl, ⟨rfl, trivial⟩⟩⟩ (ew_M_keep_58 B x1 x2 t1 1 σ _ h)
set_option maxRecDepth 100000 in
set_option maxHeartbeats 4000000 in
theorem ew_M_keep_20 {p : Program} {l : Launch} {e : Env} {s : State} {m : MethodId} {args : Array Value} {below : List Frame} {meth : Method} {c : Code} {G : er_G} (B : er_B p s m c meth b_M_keep "EntryRowsModel" G (none) 4 21 39) (x1 x2 t0 : Int32) (σ : er_S) (r : Unit × er_S) (h : ef_M_keep_20 x1 x2 t0 σ = some r) : er_J p l e { frames := 2, cells := 0, slots := 0, locals := 43 } s m args below meth c G (er_A G s.heap.size) s.heap (er_fin below G s 0 0 (.inl none, r.2)) 0 0 σ 20 [some (.ref 21), some (.int x1), some (.int x2), none] [.int t0] := by
  unfold ef_M_keep_20 at h
  refine ej_istore_n B.1 (lv' := [some (.ref 21), some (.int x1), some (.int x2), some (.int t0)]) d_M_keep_20 rfl rfl rfl ?_
  refine ej_aload_n B.1 d_M_keep_21 rfl ?_
  refine ej_iload_n B.1 d_M_keep_22 rfl ?_
  refine ej_iload_n B.1 d_M_keep_23 rfl ?_
  refine ej_if_ne B.1 (tgt := 57) d_M_keep_24 (by decide) (fun q4 => ?_) (fun q4 => ?_)
  · replace h := er_if h q4
    exact ej_le (lv' := [some (.ref 21), some (.int x1), some (.int x2), none]) ⟨rfl, ⟨rfl, ⟨rfl, trivial⟩⟩⟩ (ew_M_keep_57 B x1 x2 t0 σ _ h)
  · replace h := er_it h q4
    refine ej_aload_n B.1 d_M_keep_27 rfl ?_
    refine ej_getr B.1 (er_at B 21 rfl rfl) rfl rfl fl_M_17 d_M_keep_28 ?_
    refine ej_iload_n B.1 d_M_keep_31 rfl ?_
    obtain ⟨e10, h⟩ := er_gd_some h
    refine ej_zald B.1 (er_at B 23 rfl rfl) rfl e10 d_M_keep_32 ?_
    refine ej_if_eq B.1 (tgt := 53) d_M_keep_33 (by decide) (fun q11 => ?_) (fun q11 => ?_)
    · replace h := er_it h q11
      exact ej_le (lv' := [some (.ref 21), some (.int x1), some (.int x2), none]) ⟨rfl, ⟨rfl, ⟨rfl, trivial⟩⟩⟩ (ew_M_keep_53 B x1 x2 t0 σ _ h)
    · replace h := er_if h q11
      refine ej_aload_n B.1 d_M_keep_36 rfl ?_
      refine ej_getr B.1 (er_at B 21 rfl rfl) rfl rfl fl_M_42 d_M_keep_37 ?_
      refine ej_iload_n B.1 d_M_keep_40 rfl ?_
      obtain ⟨e12, h⟩ := er_gd_some h
      refine ej_iald B.1 (er_at B 31 rfl rfl) rfl e12 d_M_keep_41 ?_
      refine ej_if_ge B.1 (tgt := 53) d_M_keep_42 (by decide) (fun q13 => ?_) (fun q13 => ?_)
      · replace h := er_it h q13
        exact ej_le (lv' := [some (.ref 21), some (.int x1), some (.int x2), none]) ⟨rfl, ⟨rfl, ⟨rfl, trivial⟩⟩⟩ (ew_M_keep_53 B x1 x2 t0 σ _ h)
      · replace h := er_if h q13
        refine ej_aload_n B.1 d_M_keep_45 rfl ?_
        refine ej_iload_n B.1 d_M_keep_46 rfl ?_
        obtain ⟨v14, e15, h⟩ := er_bd_some h
        refine ej_cv_i (nc := 0) (ns := 0) B.1 [.int x2] [.int t0, .ref 21] (ec_M_keeps (er_pr B) x2 σ v14 e15) cal_M_keeps lk_M_91 in_M_keeps (er_at B 21 rfl rfl) rfl rfl se_M_keeps rfl B.2.2.2.1 d_M_keep_47 ⟨Nat.le_of_ble_eq_true rfl, Nat.le_of_ble_eq_true rfl, Nat.zero_le _, Nat.zero_le _⟩ (Nat.le_of_ble_eq_true rfl) rfl ?_
        refine ej_if_lt B.1 (tgt := 57) d_M_keep_50 (by decide) (fun q16 => ?_) (fun q16 => ?_)
        · replace h := er_it h q16
          exact ej_le (lv' := [some (.ref 21), some (.int x1), some (.int x2), none]) ⟨rfl, ⟨rfl, ⟨rfl, trivial⟩⟩⟩ (ew_M_keep_57 B x1 x2 t0 σ _ h)
        · replace h := er_if h q16
          exact ej_le (lv' := [some (.ref 21), some (.int x1), some (.int x2), none]) ⟨rfl, ⟨rfl, ⟨rfl, trivial⟩⟩⟩ (ew_M_keep_53 B x1 x2 t0 σ _ h)
set_option maxRecDepth 100000 in
set_option maxHeartbeats 4000000 in
theorem ew_M_keep_15 {p : Program} {l : Launch} {e : Env} {s : State} {m : MethodId} {args : Array Value} {below : List Frame} {meth : Method} {c : Code} {G : er_G} (B : er_B p s m c meth b_M_keep "EntryRowsModel" G (none) 4 21 39) (x1 x2 : Int32) (σ : er_S) (r : Unit × er_S) (h : ef_M_keep_15 x1 x2 σ = some r) : er_J p l e { frames := 2, cells := 0, slots := 0, locals := 43 } s m args below meth c G (er_A G s.heap.size) s.heap (er_fin below G s 0 0 (.inl none, r.2)) 0 0 σ 15 [some (.ref 21), some (.int x1), some (.int x2), none] [] := by
  unfold ef_M_keep_15 at h
  refine ej_iconst B.1 (v := 1) d_M_keep_15 rfl ?_
  refine ej_goto B.1 (tgt := 20) d_M_keep_16 (by decide) ?_
  exact ej_le (lv' := [some (.ref 21), some (.int x1), some (.int x2), none]) ⟨rfl, ⟨rfl, ⟨rfl, trivial⟩⟩⟩ (ew_M_keep_20 B x1 x2 1 σ _ h)
set_option maxRecDepth 100000 in
set_option maxHeartbeats 4000000 in
theorem ec_M_keep {l : Launch} {G : er_G} (hE : er_Pr G 21 39) (x1 x2 : Int32) (σ : er_S) (r : Unit × er_S) (h : ef_M_keep x1 x2 σ = some r) : er_Con l y_M_keep w_M_keep 2 43 0 0 G [.ref 21, .int x1, .int x2] σ ((.inl none, r.2)) := by
  refine er_ofJ (ret := none) (cc := b_M_keep) (maxL := 4) (lv0 := [some (.ref 21), some (.int x1), some (.int x2), none]) (hh := []) (by decide +kernel) rfl (Or.inl rfl) (by intro v hv; simp only [List.mem_cons, List.not_mem_nil, or_false] at hv; rcases hv with rfl | rfl | rfl <;> rfl) (Nat.le_of_ble_eq_true rfl) ?_
  intro p e s m args below meth c hadm C hr hlk hml hw hnm hm hcd
  have B : er_B p s m c meth b_M_keep "EntryRowsModel" G (none) 4 21 39 := ⟨C, hr, hlk, hml, hE, er_noh hw hnm hm hcd⟩
  unfold ef_M_keep at h
  refine ej_aload_n B.1 d_M_keep_0 rfl ?_
  refine ej_iload_n B.1 d_M_keep_1 rfl ?_
  obtain ⟨v1, e2, h⟩ := er_bd_some h
  refine ej_cv_i (nc := 0) (ns := 0) B.1 [.int x1] [] (ec_M_isBoard (er_pr B) x1 σ v1 e2) cal_M_isBoard lk_M_80 in_M_isBoard (er_at B 21 rfl rfl) rfl rfl se_M_isBoard rfl B.2.2.2.1 d_M_keep_2 ⟨Nat.le_of_ble_eq_true rfl, Nat.le_of_ble_eq_true rfl, Nat.zero_le _, Nat.zero_le _⟩ (Nat.le_of_ble_eq_true rfl) rfl ?_
  refine ej_if_eq B.1 (tgt := 15) d_M_keep_5 (by decide) (fun q3 => ?_) (fun q3 => ?_)
  · replace h := er_it h q3
    exact ej_le (lv' := [some (.ref 21), some (.int x1), some (.int x2), none]) ⟨rfl, ⟨rfl, ⟨rfl, trivial⟩⟩⟩ (ew_M_keep_15 B x1 x2 σ _ h)
  · replace h := er_if h q3
    refine ej_iload_n B.1 d_M_keep_8 rfl ?_
    obtain ⟨v17, e18, h⟩ := er_bd_some h
    refine ej_cs_i (nc := 0) (ns := 0) B.1 [.int x2] [] (ec_M_isPerson (er_pr B) x2 σ v17 e18) cal_M_isPerson lk_M_88 st_M_isPerson rfl B.2.2.2.1 d_M_keep_9 ⟨Nat.le_of_ble_eq_true rfl, Nat.le_of_ble_eq_true rfl, Nat.zero_le _, Nat.zero_le _⟩ (Nat.le_of_ble_eq_true rfl) rfl ?_
    refine ej_if_ne B.1 (tgt := 19) d_M_keep_12 (by decide) (fun q19 => ?_) (fun q19 => ?_)
    · replace h := er_if h q19
      refine ej_iconst B.1 (v := 0) d_M_keep_19 rfl ?_
      exact ej_le (lv' := [some (.ref 21), some (.int x1), some (.int x2), none]) ⟨rfl, ⟨rfl, ⟨rfl, trivial⟩⟩⟩ (ew_M_keep_20 B x1 x2 0 σ _ h)
    · replace h := er_it h q19
      exact ej_le (lv' := [some (.ref 21), some (.int x1), some (.int x2), none]) ⟨rfl, ⟨rfl, ⟨rfl, trivial⟩⟩⟩ (ew_M_keep_15 B x1 x2 σ _ h)
set_option maxRecDepth 100000 in
set_option maxHeartbeats 4000000 in
theorem ew_M_right_13 {p : Program} {l : Launch} {e : Env} {s : State} {m : MethodId} {args : Array Value} {below : List Frame} {meth : Method} {c : Code} {G : er_G} (B : er_B p s m c meth b_M_right "EntryRowsModel" G (none) 3 21 39) (x1 x2 t1 : Int32) (σ : er_S) (r : Unit × er_S) (h : ef_M_right_13 x1 x2 t1 σ = some r) : er_J p l e { frames := 2, cells := 0, slots := 0, locals := 42 } s m args below meth c G (er_A G s.heap.size) s.heap (er_fin below G s 0 0 (.inl none, r.2)) 0 0 σ 13 [some (.ref 21), some (.int x1), some (.int x2)] [.int t1, .ref 21] := by
  unfold ef_M_right_13 at h
  refine ej_iconst B.1 (v := 0) d_M_right_13 rfl ?_
  refine ej_iconst B.1 (v := 0) d_M_right_14 rfl ?_
  obtain ⟨v4, g6, e5, h⟩ := er_bw_some h
  refine ej_cv_i (nc := 0) (ns := 0) B.1 [.int t1, .int 0, .int 0] [] (ec_M_throwing (er_pr B) t1 0 0 σ (v4, g6) e5) cal_M_throwing lk_M_84 in_M_throwing (er_at B 21 rfl rfl) rfl rfl se_M_throwing rfl B.2.2.2.1 d_M_right_15 ⟨Nat.le_of_ble_eq_true rfl, Nat.le_of_ble_eq_true rfl, Nat.zero_le _, Nat.zero_le _⟩ (Nat.le_of_ble_eq_true rfl) rfl ?_
  refine ej_if_eq B.1 (tgt := 22) d_M_right_18 (by decide) (fun q7 => ?_) (fun q7 => ?_)
  · replace h := er_it h q7
    refine ej_aload_n B.1 d_M_right_22 rfl ?_
    refine ej_getr B.1 (er_at B 21 rfl rfl) rfl rfl fl_M_39 d_M_right_23 ?_
    refine ej_iload_n B.1 d_M_right_26 rfl ?_
    refine ej_iload_n B.1 d_M_right_27 rfl ?_
    obtain ⟨e8, h⟩ := er_gd_some h
    obtain ⟨e9, h⟩ := er_gd_some h
    refine ej_zast B.1 (er_at B 30 rfl rfl) rfl e8 e9 d_M_right_28 ?_
    cases h
    exact ej_vret B.1 B.2.1 B.2.2.1 (Nat.zero_le _) (Nat.zero_le _) d_M_right_29
  · replace h := er_if h q7
    cases h
    exact ej_vret B.1 B.2.1 B.2.2.1 (Nat.zero_le _) (Nat.zero_le _) d_M_right_21
set_option maxRecDepth 100000 in
set_option maxHeartbeats 4000000 in
theorem ec_M_right {l : Launch} {G : er_G} (hE : er_Pr G 21 39) (x1 x2 : Int32) (σ : er_S) (r : Unit × er_S) (h : ef_M_right x1 x2 σ = some r) : er_Con l y_M_right w_M_right 2 42 0 0 G [.ref 21, .int x1, .int x2] σ ((.inl none, r.2)) := by
  refine er_ofJ (ret := none) (cc := b_M_right) (maxL := 3) (lv0 := [some (.ref 21), some (.int x1), some (.int x2)]) (hh := []) (by decide +kernel) rfl (Or.inl rfl) (by intro v hv; simp only [List.mem_cons, List.not_mem_nil, or_false] at hv; rcases hv with rfl | rfl | rfl <;> rfl) (Nat.le_of_ble_eq_true rfl) ?_
  intro p e s m args below meth c hadm C hr hlk hml hw hnm hm hcd
  have B : er_B p s m c meth b_M_right "EntryRowsModel" G (none) 3 21 39 := ⟨C, hr, hlk, hml, hE, er_noh hw hnm hm hcd⟩
  unfold ef_M_right at h
  refine ej_aload_n B.1 d_M_right_0 rfl ?_
  refine ej_iload_n B.1 d_M_right_1 rfl ?_
  obtain ⟨v1, e2, h⟩ := er_bd_some h
  refine ej_cs_i (nc := 0) (ns := 0) B.1 [.int x1] [.ref 21] (ec_M_isPerson (er_pr B) x1 σ v1 e2) cal_M_isPerson lk_M_88 st_M_isPerson rfl B.2.2.2.1 d_M_right_2 ⟨Nat.le_of_ble_eq_true rfl, Nat.le_of_ble_eq_true rfl, Nat.zero_le _, Nat.zero_le _⟩ (Nat.le_of_ble_eq_true rfl) rfl ?_
  refine ej_if_ne B.1 (tgt := 12) d_M_right_5 (by decide) (fun q3 => ?_) (fun q3 => ?_)
  · replace h := er_if h q3
    refine ej_iconst B.1 (v := 0) d_M_right_12 rfl ?_
    exact ej_le (lv' := [some (.ref 21), some (.int x1), some (.int x2)]) ⟨rfl, ⟨rfl, ⟨rfl, trivial⟩⟩⟩ (ew_M_right_13 B x1 x2 0 σ _ h)
  · replace h := er_it h q3
    refine ej_iconst B.1 (v := 1) d_M_right_8 rfl ?_
    refine ej_goto B.1 (tgt := 13) d_M_right_9 (by decide) ?_
    exact ej_le (lv' := [some (.ref 21), some (.int x1), some (.int x2)]) ⟨rfl, ⟨rfl, ⟨rfl, trivial⟩⟩⟩ (ew_M_right_13 B x1 x2 1 σ _ h)
