set_option maxRecDepth 100000 in
set_option maxHeartbeats 4000000 in
theorem ec_L_board {l : Launch} {G : er_G} (hl : l.stackTraces = false) (hE : er_Pr G 0 40) (x1 x2 x3 : Int32) (σ : er_S) (r : Int32 × er_S) (h : ef_L_board x1 x2 x3 σ = some r) : er_Con l y_L_board w_L_board 8 128 1 6 G [.ref 0, .int x1, .int x2, .int x3, .ref 39] σ ((.inl (some (.int r.1)), r.2)) := by
  refine er_ofJ (ret := some .int) (cc := b_L_board) (maxL := 6) (lv0 := [some (.ref 0), some (.int x1), some (.int x2), some (.int x3), some (.ref 39), none]) (hh := [(0, 12, 15, 13), (0, 12, 19, 15)]) (by decide +kernel) rfl (Or.inr rfl) (by intro v hv; simp only [List.mem_cons, List.not_mem_nil, or_false] at hv; rcases hv with rfl | rfl | rfl | rfl | rfl <;> rfl) (Nat.le_of_ble_eq_true rfl) ?_
  intro p e s m args below meth c hadm C hr hlk hml hw hnm hm hcd
  have B : er_BH p s m c meth b_L_board "EntryRowsLaw" G (some .int) 6 0 40 [(0, 12, 15, 13), (0, 12, 19, 15)] := ⟨C, hr, hlk, hml, hE, er_tab hw hnm hm hcd⟩
  have hl := And.intro hadm hl
  unfold ef_L_board at h
  refine ej_aload B.1 d_L_board_0 rfl ?_
  refine ej_iconst B.1 (v := 0) d_L_board_2 rfl ?_
  refine ej_aload_n B.1 d_L_board_3 rfl ?_
  refine ej_iload_n B.1 d_L_board_4 rfl ?_
  refine ej_iload_n B.1 d_L_board_5 rfl ?_
  refine ej_iload_n B.1 d_L_board_6 rfl ?_
  rcases er_tc_some h with ⟨v1, g3, e2, h⟩ | ⟨k5, g3, e2, h⟩
  · refine ej_cv_i (nc := 0) (ns := 0) B.1 [.int x1, .int x2, .int x3] [.int 0, .ref 39] (ec_E_board hl.2 (er_sub rfl rfl (er_prH B)) x1 x2 x3 σ (.inl v1, g3) e2) cal_E_board lk_L_7 in_E_board (er_atH B 0 rfl rfl) rfl rfl se_E_board rfl B.2.2.2.1 d_L_board_7 ⟨Nat.le_of_ble_eq_true rfl, Nat.le_of_ble_eq_true rfl, Nat.zero_le _, Nat.zero_le _⟩ (Nat.le_of_ble_eq_true rfl) rfl ?_
    refine ej_i2l B.1 d_L_board_10 ?_
    obtain ⟨e4, h⟩ := er_gd_some h
    refine ej_last B.1 (er_atH B 39 rfl rfl) rfl e4 d_L_board_11 ?_
    refine ej_goto B.1 (tgt := 23) d_L_board_12 (by decide) ?_
    refine ej_iconst B.1 (v := 0) d_L_board_23 rfl ?_
    cases h
    exact ej_iret B.1 B.2.1 B.2.2.1 (Nat.zero_le _) (Nat.zero_le _) d_L_board_24
  · skip
    by_cases q6 : k5 = 1
    · replace h := er_it h q6
      subst q6
      cases h
      exact ej_cv_c (nc := 1) (ns := 6) B.1 [.int x1, .int x2, .int x3] [.int 0, .ref 39] (ec_E_board hl.2 (er_sub rfl rfl (er_prH B)) x1 x2 x3 σ (.inr 1, g3) e2) cal_E_board lk_L_7 in_E_board (er_atH B 0 rfl rfl) rfl rfl se_E_board rfl B.2.2.2.1 d_L_board_7 ⟨Nat.le_of_ble_eq_true rfl, Nat.le_of_ble_eq_true rfl, Nat.le_of_ble_eq_true rfl, Nat.le_of_ble_eq_true rfl⟩ (Nat.le_of_ble_eq_true rfl) rfl B.2.1 B.2.2.1 ⟨Nat.le_of_ble_eq_true rfl, Nat.le_of_ble_eq_true rfl⟩ (by decide) [(0, 12, 15, 13), (0, 12, 19, 15)] [] [(0, 12, 19, 15)] (0, 12, 15, 13) B.2.2.2.2.2 rfl (fun z hz => by cases hz) (by decide) (by decide) lc_L_13 ct_1 ⟨1, 5, 2, Nat.le_of_ble_eq_true rfl, rfl, Or.inl ⟨d_L_board_15, rfl⟩, d_L_board_17, d_L_board_18⟩
    replace h := er_if h q6
    by_cases q7 : k5 = 3
    · replace h := er_it h q7
      subst q7
      cases h
      have hps : ∀ z ∈ ([(0, 12, 15, 13)] : List (Nat × Nat × Nat × Nat)), z.2.2.2 ≠ 0 ∧ ∃ k, k < 4 ∧ 3 ≠ k ∧ Cond.classLink "EntryRowsLaw" z.2.2.2 (er_exc k) ∈ er_tbl := by
        intro z hz
        simp only [List.mem_cons, List.not_mem_nil, or_false] at hz
        rcases hz with rfl
        · exact ⟨by decide, 1, by decide, by decide, lc_L_13⟩
      exact ej_cv_c (nc := 1) (ns := 6) B.1 [.int x1, .int x2, .int x3] [.int 0, .ref 39] (ec_E_board hl.2 (er_sub rfl rfl (er_prH B)) x1 x2 x3 σ (.inr 3, g3) e2) cal_E_board lk_L_7 in_E_board (er_atH B 0 rfl rfl) rfl rfl se_E_board rfl B.2.2.2.1 d_L_board_7 ⟨Nat.le_of_ble_eq_true rfl, Nat.le_of_ble_eq_true rfl, Nat.le_of_ble_eq_true rfl, Nat.le_of_ble_eq_true rfl⟩ (Nat.le_of_ble_eq_true rfl) rfl B.2.1 B.2.2.1 ⟨Nat.le_of_ble_eq_true rfl, Nat.le_of_ble_eq_true rfl⟩ (by decide) [(0, 12, 15, 13), (0, 12, 19, 15)] [(0, 12, 15, 13)] [] (0, 12, 19, 15) B.2.2.2.2.2 rfl hps (by decide) (by decide) lc_L_15 ct_3 ⟨2, 5, 2, Nat.le_of_ble_eq_true rfl, rfl, Or.inl ⟨d_L_board_19, rfl⟩, d_L_board_21, d_L_board_22⟩
    replace h := er_if h q7
    cases h
set_option maxRecDepth 100000 in
set_option maxHeartbeats 4000000 in
theorem ec_L_keep {l : Launch} {G : er_G} (hl : l.stackTraces = false) (hE : er_Pr G 0 40) (x1 x2 : Int32) (σ : er_S) (r : Int32 × er_S) (h : ef_L_keep x1 x2 σ = some r) : er_Con l y_L_keep w_L_keep 9 146 1 6 G [.ref 0, .int x1, .int x2] σ ((.inl (some (.int r.1)), r.2)) := by
  refine er_ofJ (ret := some .int) (cc := b_L_keep) (maxL := 4) (lv0 := [some (.ref 0), some (.int x1), some (.int x2), none]) (hh := [(0, 6, 9, 21), (0, 6, 12, 23)]) (by decide +kernel) rfl (Or.inr rfl) (by intro v hv; simp only [List.mem_cons, List.not_mem_nil, or_false] at hv; rcases hv with rfl | rfl | rfl <;> rfl) (Nat.le_of_ble_eq_true rfl) ?_
  intro p e s m args below meth c hadm C hr hlk hml hw hnm hm hcd
  have B : er_BH p s m c meth b_L_keep "EntryRowsLaw" G (some .int) 4 0 40 [(0, 6, 9, 21), (0, 6, 12, 23)] := ⟨C, hr, hlk, hml, hE, er_tab hw hnm hm hcd⟩
  have hl := And.intro hadm hl
  unfold ef_L_keep at h
  refine ej_aload_n B.1 d_L_keep_0 rfl ?_
  refine ej_iload_n B.1 d_L_keep_1 rfl ?_
  refine ej_iload_n B.1 d_L_keep_2 rfl ?_
  rcases er_tc_some h with ⟨v1, g3, e2, h⟩ | ⟨k4, g3, e2, h⟩
  · refine ej_cv_v (nc := 0) (ns := 0) B.1 [.int x1, .int x2] [] (ec_E_keep hl.2 (er_sub rfl rfl (er_prH B)) x1 x2 σ (.inl v1, g3) e2) cal_E_keep lk_L_17 in_E_keep (er_atH B 0 rfl rfl) rfl rfl se_E_keep rfl B.2.2.2.1 d_L_keep_3 ⟨Nat.le_of_ble_eq_true rfl, Nat.le_of_ble_eq_true rfl, Nat.zero_le _, Nat.zero_le _⟩ (Nat.le_of_ble_eq_true rfl) rfl ?_
    refine ej_goto B.1 (tgt := 15) d_L_keep_6 (by decide) ?_
    refine ej_iconst B.1 (v := 0) d_L_keep_15 rfl ?_
    cases h
    exact ej_iret B.1 B.2.1 B.2.2.1 (Nat.zero_le _) (Nat.zero_le _) d_L_keep_16
  · skip
    by_cases q5 : k4 = 0
    · replace h := er_it h q5
      subst q5
      cases h
      exact ej_cv_c (nc := 1) (ns := 6) B.1 [.int x1, .int x2] [] (ec_E_keep hl.2 (er_sub rfl rfl (er_prH B)) x1 x2 σ (.inr 0, g3) e2) cal_E_keep lk_L_17 in_E_keep (er_atH B 0 rfl rfl) rfl rfl se_E_keep rfl B.2.2.2.1 d_L_keep_3 ⟨Nat.le_of_ble_eq_true rfl, Nat.le_of_ble_eq_true rfl, Nat.le_of_ble_eq_true rfl, Nat.le_of_ble_eq_true rfl⟩ (Nat.le_of_ble_eq_true rfl) rfl B.2.1 B.2.2.1 ⟨Nat.le_of_ble_eq_true rfl, Nat.le_of_ble_eq_true rfl⟩ (by decide) [(0, 6, 9, 21), (0, 6, 12, 23)] [] [(0, 6, 12, 23)] (0, 6, 9, 21) B.2.2.2.2.2 rfl (fun z hz => by cases hz) (by decide) (by decide) lc_L_21 ct_0 ⟨1, 3, 1, Nat.le_of_ble_eq_true rfl, rfl, Or.inr ⟨3, rfl, d_L_keep_9, rfl⟩, d_L_keep_10, d_L_keep_11⟩
    replace h := er_if h q5
    by_cases q6 : k4 = 2
    · replace h := er_it h q6
      subst q6
      cases h
      have hps : ∀ z ∈ ([(0, 6, 9, 21)] : List (Nat × Nat × Nat × Nat)), z.2.2.2 ≠ 0 ∧ ∃ k, k < 4 ∧ 2 ≠ k ∧ Cond.classLink "EntryRowsLaw" z.2.2.2 (er_exc k) ∈ er_tbl := by
        intro z hz
        simp only [List.mem_cons, List.not_mem_nil, or_false] at hz
        rcases hz with rfl
        · exact ⟨by decide, 0, by decide, by decide, lc_L_21⟩
      exact ej_cv_c (nc := 1) (ns := 6) B.1 [.int x1, .int x2] [] (ec_E_keep hl.2 (er_sub rfl rfl (er_prH B)) x1 x2 σ (.inr 2, g3) e2) cal_E_keep lk_L_17 in_E_keep (er_atH B 0 rfl rfl) rfl rfl se_E_keep rfl B.2.2.2.1 d_L_keep_3 ⟨Nat.le_of_ble_eq_true rfl, Nat.le_of_ble_eq_true rfl, Nat.le_of_ble_eq_true rfl, Nat.le_of_ble_eq_true rfl⟩ (Nat.le_of_ble_eq_true rfl) rfl B.2.1 B.2.2.1 ⟨Nat.le_of_ble_eq_true rfl, Nat.le_of_ble_eq_true rfl⟩ (by decide) [(0, 6, 9, 21), (0, 6, 12, 23)] [(0, 6, 9, 21)] [] (0, 6, 12, 23) B.2.2.2.2.2 rfl hps (by decide) (by decide) lc_L_23 ct_2 ⟨2, 3, 1, Nat.le_of_ble_eq_true rfl, rfl, Or.inr ⟨3, rfl, d_L_keep_12, rfl⟩, d_L_keep_13, d_L_keep_14⟩
    replace h := er_if h q6
    cases h
set_option maxRecDepth 100000 in
set_option maxHeartbeats 4000000 in
theorem ec_L_right {l : Launch} {G : er_G} (hl : l.stackTraces = false) (hE : er_Pr G 0 40) (x1 x2 : Int32) (σ : er_S) (r : Int32 × er_S) (h : ef_L_right x1 x2 σ = some r) : er_Con l y_L_right w_L_right 9 145 1 6 G [.ref 0, .int x1, .int x2] σ ((.inl (some (.int r.1)), r.2)) := by
  refine er_ofJ (ret := some .int) (cc := b_L_right) (maxL := 4) (lv0 := [some (.ref 0), some (.int x1), some (.int x2), none]) (hh := [(0, 6, 9, 21)]) (by decide +kernel) rfl (Or.inr rfl) (by intro v hv; simp only [List.mem_cons, List.not_mem_nil, or_false] at hv; rcases hv with rfl | rfl | rfl <;> rfl) (Nat.le_of_ble_eq_true rfl) ?_
  intro p e s m args below meth c hadm C hr hlk hml hw hnm hm hcd
  have B : er_BH p s m c meth b_L_right "EntryRowsLaw" G (some .int) 4 0 40 [(0, 6, 9, 21)] := ⟨C, hr, hlk, hml, hE, er_tab hw hnm hm hcd⟩
  have hl := And.intro hadm hl
  unfold ef_L_right at h
  refine ej_aload_n B.1 d_L_right_0 rfl ?_
  refine ej_iload_n B.1 d_L_right_1 rfl ?_
  refine ej_iload_n B.1 d_L_right_2 rfl ?_
  rcases er_tc_some h with ⟨v1, g3, e2, h⟩ | ⟨k4, g3, e2, h⟩
  · refine ej_cv_v (nc := 0) (ns := 0) B.1 [.int x1, .int x2] [] (ec_E_right hl.2 (er_sub rfl rfl (er_prH B)) x1 x2 σ (.inl v1, g3) e2) cal_E_right lk_L_25 in_E_right (er_atH B 0 rfl rfl) rfl rfl se_E_right rfl B.2.2.2.1 d_L_right_3 ⟨Nat.le_of_ble_eq_true rfl, Nat.le_of_ble_eq_true rfl, Nat.zero_le _, Nat.zero_le _⟩ (Nat.le_of_ble_eq_true rfl) rfl ?_
    refine ej_goto B.1 (tgt := 12) d_L_right_6 (by decide) ?_
    refine ej_iconst B.1 (v := 0) d_L_right_12 rfl ?_
    cases h
    exact ej_iret B.1 B.2.1 B.2.2.1 (Nat.zero_le _) (Nat.zero_le _) d_L_right_13
  · skip
    by_cases q5 : k4 = 0
    · replace h := er_it h q5
      subst q5
      cases h
      exact ej_cv_c (nc := 1) (ns := 6) B.1 [.int x1, .int x2] [] (ec_E_right hl.2 (er_sub rfl rfl (er_prH B)) x1 x2 σ (.inr 0, g3) e2) cal_E_right lk_L_25 in_E_right (er_atH B 0 rfl rfl) rfl rfl se_E_right rfl B.2.2.2.1 d_L_right_3 ⟨Nat.le_of_ble_eq_true rfl, Nat.le_of_ble_eq_true rfl, Nat.le_of_ble_eq_true rfl, Nat.le_of_ble_eq_true rfl⟩ (Nat.le_of_ble_eq_true rfl) rfl B.2.1 B.2.2.1 ⟨Nat.le_of_ble_eq_true rfl, Nat.le_of_ble_eq_true rfl⟩ (by decide) [(0, 6, 9, 21)] [] [] (0, 6, 9, 21) B.2.2.2.2.2 rfl (fun z hz => by cases hz) (by decide) (by decide) lc_L_21 ct_0 ⟨1, 3, 1, Nat.le_of_ble_eq_true rfl, rfl, Or.inr ⟨3, rfl, d_L_right_9, rfl⟩, d_L_right_10, d_L_right_11⟩
    replace h := er_if h q5
    cases h
set_option maxRecDepth 100000 in
set_option maxHeartbeats 4000000 in
theorem ec_L_rest {l : Launch} {G : er_G} (hl : l.stackTraces = false) (hE : er_Pr G 0 40) (x1 : Int32) (σ : er_S) (r : Int32 × er_S) (h : ef_L_rest x1 σ = some r) : er_Con l y_L_rest w_L_rest 8 126 1 6 G [.ref 0, .int x1] σ ((.inl (some (.int r.1)), r.2)) := by
  refine er_ofJ (ret := some .int) (cc := b_L_rest) (maxL := 3) (lv0 := [some (.ref 0), some (.int x1), none]) (hh := [(0, 5, 8, 13)]) (by decide +kernel) rfl (Or.inr rfl) (by intro v hv; simp only [List.mem_cons, List.not_mem_nil, or_false] at hv; rcases hv with rfl | rfl <;> rfl) (Nat.le_of_ble_eq_true rfl) ?_
  intro p e s m args below meth c hadm C hr hlk hml hw hnm hm hcd
  have B : er_BH p s m c meth b_L_rest "EntryRowsLaw" G (some .int) 3 0 40 [(0, 5, 8, 13)] := ⟨C, hr, hlk, hml, hE, er_tab hw hnm hm hcd⟩
  have hl := And.intro hadm hl
  unfold ef_L_rest at h
  refine ej_aload_n B.1 d_L_rest_0 rfl ?_
  refine ej_iload_n B.1 d_L_rest_1 rfl ?_
  rcases er_tc_some h with ⟨v1, g3, e2, h⟩ | ⟨k4, g3, e2, h⟩
  · refine ej_cv_v (nc := 0) (ns := 0) B.1 [.int x1] [] (ec_E_rest hl.2 (er_sub rfl rfl (er_prH B)) x1 σ (.inl v1, g3) e2) cal_E_rest lk_L_29 in_E_rest (er_atH B 0 rfl rfl) rfl rfl se_E_rest rfl B.2.2.2.1 d_L_rest_2 ⟨Nat.le_of_ble_eq_true rfl, Nat.le_of_ble_eq_true rfl, Nat.zero_le _, Nat.zero_le _⟩ (Nat.le_of_ble_eq_true rfl) rfl ?_
    refine ej_goto B.1 (tgt := 11) d_L_rest_5 (by decide) ?_
    refine ej_iconst B.1 (v := 0) d_L_rest_11 rfl ?_
    cases h
    exact ej_iret B.1 B.2.1 B.2.2.1 (Nat.zero_le _) (Nat.zero_le _) d_L_rest_12
  · skip
    by_cases q5 : k4 = 1
    · replace h := er_it h q5
      subst q5
      cases h
      exact ej_cv_c (nc := 1) (ns := 6) B.1 [.int x1] [] (ec_E_rest hl.2 (er_sub rfl rfl (er_prH B)) x1 σ (.inr 1, g3) e2) cal_E_rest lk_L_29 in_E_rest (er_atH B 0 rfl rfl) rfl rfl se_E_rest rfl B.2.2.2.1 d_L_rest_2 ⟨Nat.le_of_ble_eq_true rfl, Nat.le_of_ble_eq_true rfl, Nat.le_of_ble_eq_true rfl, Nat.le_of_ble_eq_true rfl⟩ (Nat.le_of_ble_eq_true rfl) rfl B.2.1 B.2.2.1 ⟨Nat.le_of_ble_eq_true rfl, Nat.le_of_ble_eq_true rfl⟩ (by decide) [(0, 5, 8, 13)] [] [] (0, 5, 8, 13) B.2.2.2.2.2 rfl (fun z hz => by cases hz) (by decide) (by decide) lc_L_13 ct_1 ⟨1, 2, 1, Nat.le_of_ble_eq_true rfl, rfl, Or.inr ⟨2, rfl, d_L_rest_8, rfl⟩, d_L_rest_9, d_L_rest_10⟩
    replace h := er_if h q5
    cases h
set_option maxRecDepth 100000 in
set_option maxHeartbeats 4000000 in
theorem ec_L_heat {l : Launch} {G : er_G} (hl : l.stackTraces = false) (hE : er_Pr G 0 40) (x1 x2 : Int32) (σ : er_S) (r : Int32 × er_S) (h : ef_L_heat x1 x2 σ = some r) : er_Con l y_L_heat w_L_heat 8 127 1 6 G [.ref 0, .int x1, .int x2] σ ((.inl (some (.int r.1)), r.2)) := by
  refine er_ofJ (ret := some .int) (cc := b_L_heat) (maxL := 4) (lv0 := [some (.ref 0), some (.int x1), some (.int x2), none]) (hh := [(0, 6, 9, 21), (0, 6, 12, 13)]) (by decide +kernel) rfl (Or.inr rfl) (by intro v hv; simp only [List.mem_cons, List.not_mem_nil, or_false] at hv; rcases hv with rfl | rfl | rfl <;> rfl) (Nat.le_of_ble_eq_true rfl) ?_
  intro p e s m args below meth c hadm C hr hlk hml hw hnm hm hcd
  have B : er_BH p s m c meth b_L_heat "EntryRowsLaw" G (some .int) 4 0 40 [(0, 6, 9, 21), (0, 6, 12, 13)] := ⟨C, hr, hlk, hml, hE, er_tab hw hnm hm hcd⟩
  have hl := And.intro hadm hl
  unfold ef_L_heat at h
  refine ej_aload_n B.1 d_L_heat_0 rfl ?_
  refine ej_iload_n B.1 d_L_heat_1 rfl ?_
  refine ej_iload_n B.1 d_L_heat_2 rfl ?_
  rcases er_tc_some h with ⟨v1, g3, e2, h⟩ | ⟨k4, g3, e2, h⟩
  · refine ej_cv_v (nc := 0) (ns := 0) B.1 [.int x1, .int x2] [] (ec_E_heat hl.2 (er_sub rfl rfl (er_prH B)) x1 x2 σ (.inl v1, g3) e2) cal_E_heat lk_L_33 in_E_heat (er_atH B 0 rfl rfl) rfl rfl se_E_heat rfl B.2.2.2.1 d_L_heat_3 ⟨Nat.le_of_ble_eq_true rfl, Nat.le_of_ble_eq_true rfl, Nat.zero_le _, Nat.zero_le _⟩ (Nat.le_of_ble_eq_true rfl) rfl ?_
    refine ej_goto B.1 (tgt := 15) d_L_heat_6 (by decide) ?_
    refine ej_iconst B.1 (v := 0) d_L_heat_15 rfl ?_
    cases h
    exact ej_iret B.1 B.2.1 B.2.2.1 (Nat.zero_le _) (Nat.zero_le _) d_L_heat_16
  · skip
    by_cases q5 : k4 = 0
    · replace h := er_it h q5
      subst q5
      cases h
      exact ej_cv_c (nc := 1) (ns := 6) B.1 [.int x1, .int x2] [] (ec_E_heat hl.2 (er_sub rfl rfl (er_prH B)) x1 x2 σ (.inr 0, g3) e2) cal_E_heat lk_L_33 in_E_heat (er_atH B 0 rfl rfl) rfl rfl se_E_heat rfl B.2.2.2.1 d_L_heat_3 ⟨Nat.le_of_ble_eq_true rfl, Nat.le_of_ble_eq_true rfl, Nat.le_of_ble_eq_true rfl, Nat.le_of_ble_eq_true rfl⟩ (Nat.le_of_ble_eq_true rfl) rfl B.2.1 B.2.2.1 ⟨Nat.le_of_ble_eq_true rfl, Nat.le_of_ble_eq_true rfl⟩ (by decide) [(0, 6, 9, 21), (0, 6, 12, 13)] [] [(0, 6, 12, 13)] (0, 6, 9, 21) B.2.2.2.2.2 rfl (fun z hz => by cases hz) (by decide) (by decide) lc_L_21 ct_0 ⟨1, 3, 1, Nat.le_of_ble_eq_true rfl, rfl, Or.inr ⟨3, rfl, d_L_heat_9, rfl⟩, d_L_heat_10, d_L_heat_11⟩
    replace h := er_if h q5
    by_cases q6 : k4 = 1
    · replace h := er_it h q6
      subst q6
      cases h
      have hps : ∀ z ∈ ([(0, 6, 9, 21)] : List (Nat × Nat × Nat × Nat)), z.2.2.2 ≠ 0 ∧ ∃ k, k < 4 ∧ 1 ≠ k ∧ Cond.classLink "EntryRowsLaw" z.2.2.2 (er_exc k) ∈ er_tbl := by
        intro z hz
        simp only [List.mem_cons, List.not_mem_nil, or_false] at hz
        rcases hz with rfl
        · exact ⟨by decide, 0, by decide, by decide, lc_L_21⟩
      exact ej_cv_c (nc := 1) (ns := 6) B.1 [.int x1, .int x2] [] (ec_E_heat hl.2 (er_sub rfl rfl (er_prH B)) x1 x2 σ (.inr 1, g3) e2) cal_E_heat lk_L_33 in_E_heat (er_atH B 0 rfl rfl) rfl rfl se_E_heat rfl B.2.2.2.1 d_L_heat_3 ⟨Nat.le_of_ble_eq_true rfl, Nat.le_of_ble_eq_true rfl, Nat.le_of_ble_eq_true rfl, Nat.le_of_ble_eq_true rfl⟩ (Nat.le_of_ble_eq_true rfl) rfl B.2.1 B.2.2.1 ⟨Nat.le_of_ble_eq_true rfl, Nat.le_of_ble_eq_true rfl⟩ (by decide) [(0, 6, 9, 21), (0, 6, 12, 13)] [(0, 6, 9, 21)] [] (0, 6, 12, 13) B.2.2.2.2.2 rfl hps (by decide) (by decide) lc_L_13 ct_1 ⟨2, 3, 1, Nat.le_of_ble_eq_true rfl, rfl, Or.inr ⟨3, rfl, d_L_heat_12, rfl⟩, d_L_heat_13, d_L_heat_14⟩
    replace h := er_if h q6
    cases h
set_option maxRecDepth 100000 in
set_option maxHeartbeats 4000000 in
theorem ec_L_member {l : Launch} {G : er_G} (hl : l.stackTraces = false) (hE : er_Pr G 0 40) (x1 x2 x3 : Int32) (σ : er_S) (r : Int32 × er_S) (h : ef_L_member x1 x2 x3 σ = some r) : er_Con l y_L_member w_L_member 9 147 1 6 G [.ref 0, .int x1, .int x2, .int x3, .ref 39] σ ((.inl (some (.int r.1)), r.2)) := by
  refine er_ofJ (ret := some .int) (cc := b_L_member) (maxL := 6) (lv0 := [some (.ref 0), some (.int x1), some (.int x2), some (.int x3), some (.ref 39), none]) (hh := [(0, 12, 15, 21), (0, 12, 19, 23), (0, 12, 23, 15)]) (by decide +kernel) rfl (Or.inr rfl) (by intro v hv; simp only [List.mem_cons, List.not_mem_nil, or_false] at hv; rcases hv with rfl | rfl | rfl | rfl | rfl <;> rfl) (Nat.le_of_ble_eq_true rfl) ?_
  intro p e s m args below meth c hadm C hr hlk hml hw hnm hm hcd
  have B : er_BH p s m c meth b_L_member "EntryRowsLaw" G (some .int) 6 0 40 [(0, 12, 15, 21), (0, 12, 19, 23), (0, 12, 23, 15)] := ⟨C, hr, hlk, hml, hE, er_tab hw hnm hm hcd⟩
  have hl := And.intro hadm hl
  unfold ef_L_member at h
  refine ej_aload B.1 d_L_member_0 rfl ?_
  refine ej_iconst B.1 (v := 0) d_L_member_2 rfl ?_
  refine ej_aload_n B.1 d_L_member_3 rfl ?_
  refine ej_iload_n B.1 d_L_member_4 rfl ?_
  refine ej_iload_n B.1 d_L_member_5 rfl ?_
  refine ej_iload_n B.1 d_L_member_6 rfl ?_
  rcases er_tc_some h with ⟨v1, g3, e2, h⟩ | ⟨k5, g3, e2, h⟩
  · refine ej_cv_i (nc := 0) (ns := 0) B.1 [.int x1, .int x2, .int x3] [.int 0, .ref 39] (ec_E_member hl.2 (er_sub rfl rfl (er_prH B)) x1 x2 x3 σ (.inl v1, g3) e2) cal_E_member lk_L_36 in_E_member (er_atH B 0 rfl rfl) rfl rfl se_E_member rfl B.2.2.2.1 d_L_member_7 ⟨Nat.le_of_ble_eq_true rfl, Nat.le_of_ble_eq_true rfl, Nat.zero_le _, Nat.zero_le _⟩ (Nat.le_of_ble_eq_true rfl) rfl ?_
    refine ej_i2l B.1 d_L_member_10 ?_
    obtain ⟨e4, h⟩ := er_gd_some h
    refine ej_last B.1 (er_atH B 39 rfl rfl) rfl e4 d_L_member_11 ?_
    refine ej_goto B.1 (tgt := 27) d_L_member_12 (by decide) ?_
    refine ej_iconst B.1 (v := 0) d_L_member_27 rfl ?_
    cases h
    exact ej_iret B.1 B.2.1 B.2.2.1 (Nat.zero_le _) (Nat.zero_le _) d_L_member_28
  · skip
    by_cases q6 : k5 = 0
    · replace h := er_it h q6
      subst q6
      cases h
      exact ej_cv_c (nc := 1) (ns := 6) B.1 [.int x1, .int x2, .int x3] [.int 0, .ref 39] (ec_E_member hl.2 (er_sub rfl rfl (er_prH B)) x1 x2 x3 σ (.inr 0, g3) e2) cal_E_member lk_L_36 in_E_member (er_atH B 0 rfl rfl) rfl rfl se_E_member rfl B.2.2.2.1 d_L_member_7 ⟨Nat.le_of_ble_eq_true rfl, Nat.le_of_ble_eq_true rfl, Nat.le_of_ble_eq_true rfl, Nat.le_of_ble_eq_true rfl⟩ (Nat.le_of_ble_eq_true rfl) rfl B.2.1 B.2.2.1 ⟨Nat.le_of_ble_eq_true rfl, Nat.le_of_ble_eq_true rfl⟩ (by decide) [(0, 12, 15, 21), (0, 12, 19, 23), (0, 12, 23, 15)] [] [(0, 12, 19, 23), (0, 12, 23, 15)] (0, 12, 15, 21) B.2.2.2.2.2 rfl (fun z hz => by cases hz) (by decide) (by decide) lc_L_21 ct_0 ⟨1, 5, 2, Nat.le_of_ble_eq_true rfl, rfl, Or.inl ⟨d_L_member_15, rfl⟩, d_L_member_17, d_L_member_18⟩
    replace h := er_if h q6
    by_cases q7 : k5 = 2
    · replace h := er_it h q7
      subst q7
      cases h
      have hps : ∀ z ∈ ([(0, 12, 15, 21)] : List (Nat × Nat × Nat × Nat)), z.2.2.2 ≠ 0 ∧ ∃ k, k < 4 ∧ 2 ≠ k ∧ Cond.classLink "EntryRowsLaw" z.2.2.2 (er_exc k) ∈ er_tbl := by
        intro z hz
        simp only [List.mem_cons, List.not_mem_nil, or_false] at hz
        rcases hz with rfl
        · exact ⟨by decide, 0, by decide, by decide, lc_L_21⟩
      exact ej_cv_c (nc := 1) (ns := 6) B.1 [.int x1, .int x2, .int x3] [.int 0, .ref 39] (ec_E_member hl.2 (er_sub rfl rfl (er_prH B)) x1 x2 x3 σ (.inr 2, g3) e2) cal_E_member lk_L_36 in_E_member (er_atH B 0 rfl rfl) rfl rfl se_E_member rfl B.2.2.2.1 d_L_member_7 ⟨Nat.le_of_ble_eq_true rfl, Nat.le_of_ble_eq_true rfl, Nat.le_of_ble_eq_true rfl, Nat.le_of_ble_eq_true rfl⟩ (Nat.le_of_ble_eq_true rfl) rfl B.2.1 B.2.2.1 ⟨Nat.le_of_ble_eq_true rfl, Nat.le_of_ble_eq_true rfl⟩ (by decide) [(0, 12, 15, 21), (0, 12, 19, 23), (0, 12, 23, 15)] [(0, 12, 15, 21)] [(0, 12, 23, 15)] (0, 12, 19, 23) B.2.2.2.2.2 rfl hps (by decide) (by decide) lc_L_23 ct_2 ⟨2, 5, 2, Nat.le_of_ble_eq_true rfl, rfl, Or.inl ⟨d_L_member_19, rfl⟩, d_L_member_21, d_L_member_22⟩
    replace h := er_if h q7
    by_cases q8 : k5 = 3
    · replace h := er_it h q8
      subst q8
      cases h
      have hps : ∀ z ∈ ([(0, 12, 15, 21), (0, 12, 19, 23)] : List (Nat × Nat × Nat × Nat)), z.2.2.2 ≠ 0 ∧ ∃ k, k < 4 ∧ 3 ≠ k ∧ Cond.classLink "EntryRowsLaw" z.2.2.2 (er_exc k) ∈ er_tbl := by
        intro z hz
        simp only [List.mem_cons, List.not_mem_nil, or_false] at hz
        rcases hz with rfl | rfl
        · exact ⟨by decide, 0, by decide, by decide, lc_L_21⟩
        · exact ⟨by decide, 2, by decide, by decide, lc_L_23⟩
      exact ej_cv_c (nc := 1) (ns := 6) B.1 [.int x1, .int x2, .int x3] [.int 0, .ref 39] (ec_E_member hl.2 (er_sub rfl rfl (er_prH B)) x1 x2 x3 σ (.inr 3, g3) e2) cal_E_member lk_L_36 in_E_member (er_atH B 0 rfl rfl) rfl rfl se_E_member rfl B.2.2.2.1 d_L_member_7 ⟨Nat.le_of_ble_eq_true rfl, Nat.le_of_ble_eq_true rfl, Nat.le_of_ble_eq_true rfl, Nat.le_of_ble_eq_true rfl⟩ (Nat.le_of_ble_eq_true rfl) rfl B.2.1 B.2.2.1 ⟨Nat.le_of_ble_eq_true rfl, Nat.le_of_ble_eq_true rfl⟩ (by decide) [(0, 12, 15, 21), (0, 12, 19, 23), (0, 12, 23, 15)] [(0, 12, 15, 21), (0, 12, 19, 23)] [] (0, 12, 23, 15) B.2.2.2.2.2 rfl hps (by decide) (by decide) lc_L_15 ct_3 ⟨3, 5, 2, Nat.le_of_ble_eq_true rfl, rfl, Or.inl ⟨d_L_member_23, rfl⟩, d_L_member_25, d_L_member_26⟩
    replace h := er_if h q8
    cases h
set_option maxRecDepth 100000 in
set_option maxHeartbeats 4000000 in
theorem ec_L_safety {l : Launch} {G : er_G} (hl : l.stackTraces = false) (hE : er_Pr G 0 40) (x1 x2 x3 : Int32) (σ : er_S) (r : Int32 × er_S) (h : ef_L_safety x1 x2 x3 σ = some r) : er_Con l y_L_safety w_L_safety 9 147 1 6 G [.ref 0, .int x1, .int x2, .int x3, .ref 39] σ ((.inl (some (.int r.1)), r.2)) := by
  refine er_ofJ (ret := some .int) (cc := b_L_safety) (maxL := 6) (lv0 := [some (.ref 0), some (.int x1), some (.int x2), some (.int x3), some (.ref 39), none]) (hh := [(0, 12, 15, 21), (0, 12, 19, 23)]) (by decide +kernel) rfl (Or.inr rfl) (by intro v hv; simp only [List.mem_cons, List.not_mem_nil, or_false] at hv; rcases hv with rfl | rfl | rfl | rfl | rfl <;> rfl) (Nat.le_of_ble_eq_true rfl) ?_
  intro p e s m args below meth c hadm C hr hlk hml hw hnm hm hcd
  have B : er_BH p s m c meth b_L_safety "EntryRowsLaw" G (some .int) 6 0 40 [(0, 12, 15, 21), (0, 12, 19, 23)] := ⟨C, hr, hlk, hml, hE, er_tab hw hnm hm hcd⟩
  have hl := And.intro hadm hl
  unfold ef_L_safety at h
  refine ej_aload B.1 d_L_safety_0 rfl ?_
  refine ej_iconst B.1 (v := 0) d_L_safety_2 rfl ?_
  refine ej_aload_n B.1 d_L_safety_3 rfl ?_
  refine ej_iload_n B.1 d_L_safety_4 rfl ?_
  refine ej_iload_n B.1 d_L_safety_5 rfl ?_
  refine ej_iload_n B.1 d_L_safety_6 rfl ?_
  rcases er_tc_some h with ⟨v1, g3, e2, h⟩ | ⟨k5, g3, e2, h⟩
  · refine ej_cv_i (nc := 0) (ns := 0) B.1 [.int x1, .int x2, .int x3] [.int 0, .ref 39] (ec_E_safety hl.2 (er_sub rfl rfl (er_prH B)) x1 x2 x3 σ (.inl v1, g3) e2) cal_E_safety lk_L_40 in_E_safety (er_atH B 0 rfl rfl) rfl rfl se_E_safety rfl B.2.2.2.1 d_L_safety_7 ⟨Nat.le_of_ble_eq_true rfl, Nat.le_of_ble_eq_true rfl, Nat.zero_le _, Nat.zero_le _⟩ (Nat.le_of_ble_eq_true rfl) rfl ?_
    refine ej_i2l B.1 d_L_safety_10 ?_
    obtain ⟨e4, h⟩ := er_gd_some h
    refine ej_last B.1 (er_atH B 39 rfl rfl) rfl e4 d_L_safety_11 ?_
    refine ej_goto B.1 (tgt := 23) d_L_safety_12 (by decide) ?_
    refine ej_iconst B.1 (v := 0) d_L_safety_23 rfl ?_
    cases h
    exact ej_iret B.1 B.2.1 B.2.2.1 (Nat.zero_le _) (Nat.zero_le _) d_L_safety_24
  · skip
    by_cases q6 : k5 = 0
    · replace h := er_it h q6
      subst q6
      cases h
      exact ej_cv_c (nc := 1) (ns := 6) B.1 [.int x1, .int x2, .int x3] [.int 0, .ref 39] (ec_E_safety hl.2 (er_sub rfl rfl (er_prH B)) x1 x2 x3 σ (.inr 0, g3) e2) cal_E_safety lk_L_40 in_E_safety (er_atH B 0 rfl rfl) rfl rfl se_E_safety rfl B.2.2.2.1 d_L_safety_7 ⟨Nat.le_of_ble_eq_true rfl, Nat.le_of_ble_eq_true rfl, Nat.le_of_ble_eq_true rfl, Nat.le_of_ble_eq_true rfl⟩ (Nat.le_of_ble_eq_true rfl) rfl B.2.1 B.2.2.1 ⟨Nat.le_of_ble_eq_true rfl, Nat.le_of_ble_eq_true rfl⟩ (by decide) [(0, 12, 15, 21), (0, 12, 19, 23)] [] [(0, 12, 19, 23)] (0, 12, 15, 21) B.2.2.2.2.2 rfl (fun z hz => by cases hz) (by decide) (by decide) lc_L_21 ct_0 ⟨1, 5, 2, Nat.le_of_ble_eq_true rfl, rfl, Or.inl ⟨d_L_safety_15, rfl⟩, d_L_safety_17, d_L_safety_18⟩
    replace h := er_if h q6
    by_cases q7 : k5 = 2
    · replace h := er_it h q7
      subst q7
      cases h
      have hps : ∀ z ∈ ([(0, 12, 15, 21)] : List (Nat × Nat × Nat × Nat)), z.2.2.2 ≠ 0 ∧ ∃ k, k < 4 ∧ 2 ≠ k ∧ Cond.classLink "EntryRowsLaw" z.2.2.2 (er_exc k) ∈ er_tbl := by
        intro z hz
        simp only [List.mem_cons, List.not_mem_nil, or_false] at hz
        rcases hz with rfl
        · exact ⟨by decide, 0, by decide, by decide, lc_L_21⟩
      exact ej_cv_c (nc := 1) (ns := 6) B.1 [.int x1, .int x2, .int x3] [.int 0, .ref 39] (ec_E_safety hl.2 (er_sub rfl rfl (er_prH B)) x1 x2 x3 σ (.inr 2, g3) e2) cal_E_safety lk_L_40 in_E_safety (er_atH B 0 rfl rfl) rfl rfl se_E_safety rfl B.2.2.2.1 d_L_safety_7 ⟨Nat.le_of_ble_eq_true rfl, Nat.le_of_ble_eq_true rfl, Nat.le_of_ble_eq_true rfl, Nat.le_of_ble_eq_true rfl⟩ (Nat.le_of_ble_eq_true rfl) rfl B.2.1 B.2.2.1 ⟨Nat.le_of_ble_eq_true rfl, Nat.le_of_ble_eq_true rfl⟩ (by decide) [(0, 12, 15, 21), (0, 12, 19, 23)] [(0, 12, 15, 21)] [] (0, 12, 19, 23) B.2.2.2.2.2 rfl hps (by decide) (by decide) lc_L_23 ct_2 ⟨2, 5, 2, Nat.le_of_ble_eq_true rfl, rfl, Or.inl ⟨d_L_safety_19, rfl⟩, d_L_safety_21, d_L_safety_22⟩
    replace h := er_if h q7
    cases h
set_option maxRecDepth 100000 in
set_option maxHeartbeats 4000000 in
theorem ec_L_enter {l : Launch} {G : er_G} (hl : l.stackTraces = false) (hE : er_Pr G 0 40) (x1 x2 x3 x4 x5 : Int32) (σ : er_S) (r : Int32 × er_S) (h : ef_L_enter x1 x2 x3 x4 x5 σ = some r) : er_Con l y_L_enter w_L_enter 9 162 1 6 G [.ref 0, .int x1, .int x2, .int x3, .int x4, .int x5, .ref 39] σ ((.inl (some (.int r.1)), r.2)) := by
  refine er_ofJ (ret := some .int) (cc := b_L_enter) (maxL := 8) (lv0 := [some (.ref 0), some (.int x1), some (.int x2), some (.int x3), some (.int x4), some (.int x5), some (.ref 39), none]) (hh := [(0, 16, 19, 21), (0, 16, 23, 13), (0, 16, 27, 23)]) (by decide +kernel) rfl (Or.inr rfl) (by intro v hv; simp only [List.mem_cons, List.not_mem_nil, or_false] at hv; rcases hv with rfl | rfl | rfl | rfl | rfl | rfl | rfl <;> rfl) (Nat.le_of_ble_eq_true rfl) ?_
  intro p e s m args below meth c hadm C hr hlk hml hw hnm hm hcd
  have B : er_BH p s m c meth b_L_enter "EntryRowsLaw" G (some .int) 8 0 40 [(0, 16, 19, 21), (0, 16, 23, 13), (0, 16, 27, 23)] := ⟨C, hr, hlk, hml, hE, er_tab hw hnm hm hcd⟩
  have hl := And.intro hadm hl
  unfold ef_L_enter at h
  refine ej_aload B.1 d_L_enter_0 rfl ?_
  refine ej_iconst B.1 (v := 0) d_L_enter_2 rfl ?_
  refine ej_aload_n B.1 d_L_enter_3 rfl ?_
  refine ej_iload_n B.1 d_L_enter_4 rfl ?_
  refine ej_iload_n B.1 d_L_enter_5 rfl ?_
  refine ej_iload_n B.1 d_L_enter_6 rfl ?_
  refine ej_iload B.1 d_L_enter_7 rfl ?_
  refine ej_iload B.1 d_L_enter_9 rfl ?_
  rcases er_tc_some h with ⟨v1, g3, e2, h⟩ | ⟨k5, g3, e2, h⟩
  · refine ej_cv_i (nc := 0) (ns := 0) B.1 [.int x1, .int x2, .int x3, .int x4, .int x5] [.int 0, .ref 39] (ec_E_enter hl.2 (er_sub rfl rfl (er_prH B)) x1 x2 x3 x4 x5 σ (.inl v1, g3) e2) cal_E_enter lk_L_43 in_E_enter (er_atH B 0 rfl rfl) rfl rfl se_E_enter rfl B.2.2.2.1 d_L_enter_11 ⟨Nat.le_of_ble_eq_true rfl, Nat.le_of_ble_eq_true rfl, Nat.zero_le _, Nat.zero_le _⟩ (Nat.le_of_ble_eq_true rfl) rfl ?_
    refine ej_i2l B.1 d_L_enter_14 ?_
    obtain ⟨e4, h⟩ := er_gd_some h
    refine ej_last B.1 (er_atH B 39 rfl rfl) rfl e4 d_L_enter_15 ?_
    refine ej_goto B.1 (tgt := 31) d_L_enter_16 (by decide) ?_
    refine ej_iconst B.1 (v := 0) d_L_enter_31 rfl ?_
    cases h
    exact ej_iret B.1 B.2.1 B.2.2.1 (Nat.zero_le _) (Nat.zero_le _) d_L_enter_32
  · skip
    by_cases q6 : k5 = 0
    · replace h := er_it h q6
      subst q6
      cases h
      exact ej_cv_c (nc := 1) (ns := 6) B.1 [.int x1, .int x2, .int x3, .int x4, .int x5] [.int 0, .ref 39] (ec_E_enter hl.2 (er_sub rfl rfl (er_prH B)) x1 x2 x3 x4 x5 σ (.inr 0, g3) e2) cal_E_enter lk_L_43 in_E_enter (er_atH B 0 rfl rfl) rfl rfl se_E_enter rfl B.2.2.2.1 d_L_enter_11 ⟨Nat.le_of_ble_eq_true rfl, Nat.le_of_ble_eq_true rfl, Nat.le_of_ble_eq_true rfl, Nat.le_of_ble_eq_true rfl⟩ (Nat.le_of_ble_eq_true rfl) rfl B.2.1 B.2.2.1 ⟨Nat.le_of_ble_eq_true rfl, Nat.le_of_ble_eq_true rfl⟩ (by decide) [(0, 16, 19, 21), (0, 16, 23, 13), (0, 16, 27, 23)] [] [(0, 16, 23, 13), (0, 16, 27, 23)] (0, 16, 19, 21) B.2.2.2.2.2 rfl (fun z hz => by cases hz) (by decide) (by decide) lc_L_21 ct_0 ⟨1, 7, 2, Nat.le_of_ble_eq_true rfl, rfl, Or.inl ⟨d_L_enter_19, rfl⟩, d_L_enter_21, d_L_enter_22⟩
    replace h := er_if h q6
    by_cases q7 : k5 = 1
    · replace h := er_it h q7
      subst q7
      cases h
      have hps : ∀ z ∈ ([(0, 16, 19, 21)] : List (Nat × Nat × Nat × Nat)), z.2.2.2 ≠ 0 ∧ ∃ k, k < 4 ∧ 1 ≠ k ∧ Cond.classLink "EntryRowsLaw" z.2.2.2 (er_exc k) ∈ er_tbl := by
        intro z hz
        simp only [List.mem_cons, List.not_mem_nil, or_false] at hz
        rcases hz with rfl
        · exact ⟨by decide, 0, by decide, by decide, lc_L_21⟩
      exact ej_cv_c (nc := 1) (ns := 6) B.1 [.int x1, .int x2, .int x3, .int x4, .int x5] [.int 0, .ref 39] (ec_E_enter hl.2 (er_sub rfl rfl (er_prH B)) x1 x2 x3 x4 x5 σ (.inr 1, g3) e2) cal_E_enter lk_L_43 in_E_enter (er_atH B 0 rfl rfl) rfl rfl se_E_enter rfl B.2.2.2.1 d_L_enter_11 ⟨Nat.le_of_ble_eq_true rfl, Nat.le_of_ble_eq_true rfl, Nat.le_of_ble_eq_true rfl, Nat.le_of_ble_eq_true rfl⟩ (Nat.le_of_ble_eq_true rfl) rfl B.2.1 B.2.2.1 ⟨Nat.le_of_ble_eq_true rfl, Nat.le_of_ble_eq_true rfl⟩ (by decide) [(0, 16, 19, 21), (0, 16, 23, 13), (0, 16, 27, 23)] [(0, 16, 19, 21)] [(0, 16, 27, 23)] (0, 16, 23, 13) B.2.2.2.2.2 rfl hps (by decide) (by decide) lc_L_13 ct_1 ⟨2, 7, 2, Nat.le_of_ble_eq_true rfl, rfl, Or.inl ⟨d_L_enter_23, rfl⟩, d_L_enter_25, d_L_enter_26⟩
    replace h := er_if h q7
    by_cases q8 : k5 = 2
    · replace h := er_it h q8
      subst q8
      cases h
      have hps : ∀ z ∈ ([(0, 16, 19, 21), (0, 16, 23, 13)] : List (Nat × Nat × Nat × Nat)), z.2.2.2 ≠ 0 ∧ ∃ k, k < 4 ∧ 2 ≠ k ∧ Cond.classLink "EntryRowsLaw" z.2.2.2 (er_exc k) ∈ er_tbl := by
        intro z hz
        simp only [List.mem_cons, List.not_mem_nil, or_false] at hz
        rcases hz with rfl | rfl
        · exact ⟨by decide, 0, by decide, by decide, lc_L_21⟩
        · exact ⟨by decide, 1, by decide, by decide, lc_L_13⟩
      exact ej_cv_c (nc := 1) (ns := 6) B.1 [.int x1, .int x2, .int x3, .int x4, .int x5] [.int 0, .ref 39] (ec_E_enter hl.2 (er_sub rfl rfl (er_prH B)) x1 x2 x3 x4 x5 σ (.inr 2, g3) e2) cal_E_enter lk_L_43 in_E_enter (er_atH B 0 rfl rfl) rfl rfl se_E_enter rfl B.2.2.2.1 d_L_enter_11 ⟨Nat.le_of_ble_eq_true rfl, Nat.le_of_ble_eq_true rfl, Nat.le_of_ble_eq_true rfl, Nat.le_of_ble_eq_true rfl⟩ (Nat.le_of_ble_eq_true rfl) rfl B.2.1 B.2.2.1 ⟨Nat.le_of_ble_eq_true rfl, Nat.le_of_ble_eq_true rfl⟩ (by decide) [(0, 16, 19, 21), (0, 16, 23, 13), (0, 16, 27, 23)] [(0, 16, 19, 21), (0, 16, 23, 13)] [] (0, 16, 27, 23) B.2.2.2.2.2 rfl hps (by decide) (by decide) lc_L_23 ct_2 ⟨3, 7, 2, Nat.le_of_ble_eq_true rfl, rfl, Or.inl ⟨d_L_enter_27, rfl⟩, d_L_enter_29, d_L_enter_30⟩
    replace h := er_if h q8
    cases h
set_option maxRecDepth 100000 in
set_option maxHeartbeats 4000000 in
theorem ec_L_out {l : Launch} {G : er_G} (hl : l.stackTraces = false) (hE : er_Pr G 0 40) (x1 x2 : Int32) (σ : er_S) (r : Int32 × er_S) (h : ef_L_out x1 x2 σ = some r) : er_Con l y_L_out w_L_out 9 148 1 6 G [.ref 0, .int x1, .int x2, .ref 39] σ ((.inl (some (.int r.1)), r.2)) := by
  refine er_ofJ (ret := some .int) (cc := b_L_out) (maxL := 5) (lv0 := [some (.ref 0), some (.int x1), some (.int x2), some (.ref 39), none]) (hh := [(0, 10, 13, 21), (0, 10, 17, 23)]) (by decide +kernel) rfl (Or.inr rfl) (by intro v hv; simp only [List.mem_cons, List.not_mem_nil, or_false] at hv; rcases hv with rfl | rfl | rfl | rfl <;> rfl) (Nat.le_of_ble_eq_true rfl) ?_
  intro p e s m args below meth c hadm C hr hlk hml hw hnm hm hcd
  have B : er_BH p s m c meth b_L_out "EntryRowsLaw" G (some .int) 5 0 40 [(0, 10, 13, 21), (0, 10, 17, 23)] := ⟨C, hr, hlk, hml, hE, er_tab hw hnm hm hcd⟩
  have hl := And.intro hadm hl
  unfold ef_L_out at h
  refine ej_aload_n B.1 d_L_out_0 rfl ?_
  refine ej_iconst B.1 (v := 0) d_L_out_1 rfl ?_
  refine ej_aload_n B.1 d_L_out_2 rfl ?_
  refine ej_iload_n B.1 d_L_out_3 rfl ?_
  refine ej_iload_n B.1 d_L_out_4 rfl ?_
  rcases er_tc_some h with ⟨v1, g3, e2, h⟩ | ⟨k5, g3, e2, h⟩
  · refine ej_cv_i (nc := 0) (ns := 0) B.1 [.int x1, .int x2] [.int 0, .ref 39] (ec_E_out hl.2 (er_sub rfl rfl (er_prH B)) x1 x2 σ (.inl v1, g3) e2) cal_E_out lk_L_47 in_E_out (er_atH B 0 rfl rfl) rfl rfl se_E_out rfl B.2.2.2.1 d_L_out_5 ⟨Nat.le_of_ble_eq_true rfl, Nat.le_of_ble_eq_true rfl, Nat.zero_le _, Nat.zero_le _⟩ (Nat.le_of_ble_eq_true rfl) rfl ?_
    refine ej_i2l B.1 d_L_out_8 ?_
    obtain ⟨e4, h⟩ := er_gd_some h
    refine ej_last B.1 (er_atH B 39 rfl rfl) rfl e4 d_L_out_9 ?_
    refine ej_goto B.1 (tgt := 21) d_L_out_10 (by decide) ?_
    refine ej_iconst B.1 (v := 0) d_L_out_21 rfl ?_
    cases h
    exact ej_iret B.1 B.2.1 B.2.2.1 (Nat.zero_le _) (Nat.zero_le _) d_L_out_22
  · skip
    by_cases q6 : k5 = 0
    · replace h := er_it h q6
      subst q6
      cases h
      exact ej_cv_c (nc := 1) (ns := 6) B.1 [.int x1, .int x2] [.int 0, .ref 39] (ec_E_out hl.2 (er_sub rfl rfl (er_prH B)) x1 x2 σ (.inr 0, g3) e2) cal_E_out lk_L_47 in_E_out (er_atH B 0 rfl rfl) rfl rfl se_E_out rfl B.2.2.2.1 d_L_out_5 ⟨Nat.le_of_ble_eq_true rfl, Nat.le_of_ble_eq_true rfl, Nat.le_of_ble_eq_true rfl, Nat.le_of_ble_eq_true rfl⟩ (Nat.le_of_ble_eq_true rfl) rfl B.2.1 B.2.2.1 ⟨Nat.le_of_ble_eq_true rfl, Nat.le_of_ble_eq_true rfl⟩ (by decide) [(0, 10, 13, 21), (0, 10, 17, 23)] [] [(0, 10, 17, 23)] (0, 10, 13, 21) B.2.2.2.2.2 rfl (fun z hz => by cases hz) (by decide) (by decide) lc_L_21 ct_0 ⟨1, 4, 2, Nat.le_of_ble_eq_true rfl, rfl, Or.inl ⟨d_L_out_13, rfl⟩, d_L_out_15, d_L_out_16⟩
    replace h := er_if h q6
    by_cases q7 : k5 = 2
    · replace h := er_it h q7
      subst q7
      cases h
      have hps : ∀ z ∈ ([(0, 10, 13, 21)] : List (Nat × Nat × Nat × Nat)), z.2.2.2 ≠ 0 ∧ ∃ k, k < 4 ∧ 2 ≠ k ∧ Cond.classLink "EntryRowsLaw" z.2.2.2 (er_exc k) ∈ er_tbl := by
        intro z hz
        simp only [List.mem_cons, List.not_mem_nil, or_false] at hz
        rcases hz with rfl
        · exact ⟨by decide, 0, by decide, by decide, lc_L_21⟩
      exact ej_cv_c (nc := 1) (ns := 6) B.1 [.int x1, .int x2] [.int 0, .ref 39] (ec_E_out hl.2 (er_sub rfl rfl (er_prH B)) x1 x2 σ (.inr 2, g3) e2) cal_E_out lk_L_47 in_E_out (er_atH B 0 rfl rfl) rfl rfl se_E_out rfl B.2.2.2.1 d_L_out_5 ⟨Nat.le_of_ble_eq_true rfl, Nat.le_of_ble_eq_true rfl, Nat.le_of_ble_eq_true rfl, Nat.le_of_ble_eq_true rfl⟩ (Nat.le_of_ble_eq_true rfl) rfl B.2.1 B.2.2.1 ⟨Nat.le_of_ble_eq_true rfl, Nat.le_of_ble_eq_true rfl⟩ (by decide) [(0, 10, 13, 21), (0, 10, 17, 23)] [(0, 10, 13, 21)] [] (0, 10, 17, 23) B.2.2.2.2.2 rfl hps (by decide) (by decide) lc_L_23 ct_2 ⟨2, 4, 2, Nat.le_of_ble_eq_true rfl, rfl, Or.inl ⟨d_L_out_17, rfl⟩, d_L_out_19, d_L_out_20⟩
    replace h := er_if h q7
    cases h
set_option maxRecDepth 100000 in
set_option maxHeartbeats 4000000 in
theorem ec_L_swap {l : Launch} {G : er_G} (hl : l.stackTraces = false) (hE : er_Pr G 0 40) (x1 x2 : Int32) (σ : er_S) (r : Int32 × er_S) (h : ef_L_swap x1 x2 σ = some r) : er_Con l y_L_swap w_L_swap 9 146 1 6 G [.ref 0, .int x1, .int x2] σ ((.inl (some (.int r.1)), r.2)) := by
  refine er_ofJ (ret := some .int) (cc := b_L_swap) (maxL := 4) (lv0 := [some (.ref 0), some (.int x1), some (.int x2), none]) (hh := [(0, 6, 9, 21), (0, 6, 12, 23)]) (by decide +kernel) rfl (Or.inr rfl) (by intro v hv; simp only [List.mem_cons, List.not_mem_nil, or_false] at hv; rcases hv with rfl | rfl | rfl <;> rfl) (Nat.le_of_ble_eq_true rfl) ?_
  intro p e s m args below meth c hadm C hr hlk hml hw hnm hm hcd
  have B : er_BH p s m c meth b_L_swap "EntryRowsLaw" G (some .int) 4 0 40 [(0, 6, 9, 21), (0, 6, 12, 23)] := ⟨C, hr, hlk, hml, hE, er_tab hw hnm hm hcd⟩
  have hl := And.intro hadm hl
  unfold ef_L_swap at h
  refine ej_aload_n B.1 d_L_swap_0 rfl ?_
  refine ej_iload_n B.1 d_L_swap_1 rfl ?_
  refine ej_iload_n B.1 d_L_swap_2 rfl ?_
  rcases er_tc_some h with ⟨v1, g3, e2, h⟩ | ⟨k4, g3, e2, h⟩
  · refine ej_cv_v (nc := 0) (ns := 0) B.1 [.int x1, .int x2] [] (ec_E_swap hl.2 (er_sub rfl rfl (er_prH B)) x1 x2 σ (.inl v1, g3) e2) cal_E_swap lk_L_51 in_E_swap (er_atH B 0 rfl rfl) rfl rfl se_E_swap rfl B.2.2.2.1 d_L_swap_3 ⟨Nat.le_of_ble_eq_true rfl, Nat.le_of_ble_eq_true rfl, Nat.zero_le _, Nat.zero_le _⟩ (Nat.le_of_ble_eq_true rfl) rfl ?_
    refine ej_goto B.1 (tgt := 15) d_L_swap_6 (by decide) ?_
    refine ej_iconst B.1 (v := 0) d_L_swap_15 rfl ?_
    cases h
    exact ej_iret B.1 B.2.1 B.2.2.1 (Nat.zero_le _) (Nat.zero_le _) d_L_swap_16
  · skip
    by_cases q5 : k4 = 0
    · replace h := er_it h q5
      subst q5
      cases h
      exact ej_cv_c (nc := 1) (ns := 6) B.1 [.int x1, .int x2] [] (ec_E_swap hl.2 (er_sub rfl rfl (er_prH B)) x1 x2 σ (.inr 0, g3) e2) cal_E_swap lk_L_51 in_E_swap (er_atH B 0 rfl rfl) rfl rfl se_E_swap rfl B.2.2.2.1 d_L_swap_3 ⟨Nat.le_of_ble_eq_true rfl, Nat.le_of_ble_eq_true rfl, Nat.le_of_ble_eq_true rfl, Nat.le_of_ble_eq_true rfl⟩ (Nat.le_of_ble_eq_true rfl) rfl B.2.1 B.2.2.1 ⟨Nat.le_of_ble_eq_true rfl, Nat.le_of_ble_eq_true rfl⟩ (by decide) [(0, 6, 9, 21), (0, 6, 12, 23)] [] [(0, 6, 12, 23)] (0, 6, 9, 21) B.2.2.2.2.2 rfl (fun z hz => by cases hz) (by decide) (by decide) lc_L_21 ct_0 ⟨1, 3, 1, Nat.le_of_ble_eq_true rfl, rfl, Or.inr ⟨3, rfl, d_L_swap_9, rfl⟩, d_L_swap_10, d_L_swap_11⟩
    replace h := er_if h q5
    by_cases q6 : k4 = 2
    · replace h := er_it h q6
      subst q6
      cases h
      have hps : ∀ z ∈ ([(0, 6, 9, 21)] : List (Nat × Nat × Nat × Nat)), z.2.2.2 ≠ 0 ∧ ∃ k, k < 4 ∧ 2 ≠ k ∧ Cond.classLink "EntryRowsLaw" z.2.2.2 (er_exc k) ∈ er_tbl := by
        intro z hz
        simp only [List.mem_cons, List.not_mem_nil, or_false] at hz
        rcases hz with rfl
        · exact ⟨by decide, 0, by decide, by decide, lc_L_21⟩
      exact ej_cv_c (nc := 1) (ns := 6) B.1 [.int x1, .int x2] [] (ec_E_swap hl.2 (er_sub rfl rfl (er_prH B)) x1 x2 σ (.inr 2, g3) e2) cal_E_swap lk_L_51 in_E_swap (er_atH B 0 rfl rfl) rfl rfl se_E_swap rfl B.2.2.2.1 d_L_swap_3 ⟨Nat.le_of_ble_eq_true rfl, Nat.le_of_ble_eq_true rfl, Nat.le_of_ble_eq_true rfl, Nat.le_of_ble_eq_true rfl⟩ (Nat.le_of_ble_eq_true rfl) rfl B.2.1 B.2.2.1 ⟨Nat.le_of_ble_eq_true rfl, Nat.le_of_ble_eq_true rfl⟩ (by decide) [(0, 6, 9, 21), (0, 6, 12, 23)] [(0, 6, 9, 21)] [] (0, 6, 12, 23) B.2.2.2.2.2 rfl hps (by decide) (by decide) lc_L_23 ct_2 ⟨2, 3, 1, Nat.le_of_ble_eq_true rfl, rfl, Or.inr ⟨3, rfl, d_L_swap_12, rfl⟩, d_L_swap_13, d_L_swap_14⟩
    replace h := er_if h q6
    cases h
set_option maxRecDepth 100000 in
set_option maxHeartbeats 4000000 in
theorem ec_L_join {l : Launch} {G : er_G} (hl : l.stackTraces = false) (hE : er_Pr G 0 40) (x1 x2 : Int32) (σ : er_S) (r : Int32 × er_S) (h : ef_L_join x1 x2 σ = some r) : er_Con l y_L_join w_L_join 9 146 1 6 G [.ref 0, .int x1, .int x2, .ref 39] σ ((.inl (some (.int r.1)), r.2)) := by
  refine er_ofJ (ret := some .int) (cc := b_L_join) (maxL := 5) (lv0 := [some (.ref 0), some (.int x1), some (.int x2), some (.ref 39), none]) (hh := [(0, 10, 13, 21), (0, 10, 17, 23)]) (by decide +kernel) rfl (Or.inr rfl) (by intro v hv; simp only [List.mem_cons, List.not_mem_nil, or_false] at hv; rcases hv with rfl | rfl | rfl | rfl <;> rfl) (Nat.le_of_ble_eq_true rfl) ?_
  intro p e s m args below meth c hadm C hr hlk hml hw hnm hm hcd
  have B : er_BH p s m c meth b_L_join "EntryRowsLaw" G (some .int) 5 0 40 [(0, 10, 13, 21), (0, 10, 17, 23)] := ⟨C, hr, hlk, hml, hE, er_tab hw hnm hm hcd⟩
  have hl := And.intro hadm hl
  unfold ef_L_join at h
  refine ej_aload_n B.1 d_L_join_0 rfl ?_
  refine ej_iconst B.1 (v := 0) d_L_join_1 rfl ?_
  refine ej_aload_n B.1 d_L_join_2 rfl ?_
  refine ej_iload_n B.1 d_L_join_3 rfl ?_
  refine ej_iload_n B.1 d_L_join_4 rfl ?_
  rcases er_tc_some h with ⟨v1, g3, e2, h⟩ | ⟨k5, g3, e2, h⟩
  · refine ej_cv_i (nc := 0) (ns := 0) B.1 [.int x1, .int x2] [.int 0, .ref 39] (ec_E_join hl.2 (er_sub rfl rfl (er_prH B)) x1 x2 σ (.inl v1, g3) e2) cal_E_join lk_L_54 in_E_join (er_atH B 0 rfl rfl) rfl rfl se_E_join rfl B.2.2.2.1 d_L_join_5 ⟨Nat.le_of_ble_eq_true rfl, Nat.le_of_ble_eq_true rfl, Nat.zero_le _, Nat.zero_le _⟩ (Nat.le_of_ble_eq_true rfl) rfl ?_
    refine ej_i2l B.1 d_L_join_8 ?_
    obtain ⟨e4, h⟩ := er_gd_some h
    refine ej_last B.1 (er_atH B 39 rfl rfl) rfl e4 d_L_join_9 ?_
    refine ej_goto B.1 (tgt := 21) d_L_join_10 (by decide) ?_
    refine ej_iconst B.1 (v := 0) d_L_join_21 rfl ?_
    cases h
    exact ej_iret B.1 B.2.1 B.2.2.1 (Nat.zero_le _) (Nat.zero_le _) d_L_join_22
  · skip
    by_cases q6 : k5 = 0
    · replace h := er_it h q6
      subst q6
      cases h
      exact ej_cv_c (nc := 1) (ns := 6) B.1 [.int x1, .int x2] [.int 0, .ref 39] (ec_E_join hl.2 (er_sub rfl rfl (er_prH B)) x1 x2 σ (.inr 0, g3) e2) cal_E_join lk_L_54 in_E_join (er_atH B 0 rfl rfl) rfl rfl se_E_join rfl B.2.2.2.1 d_L_join_5 ⟨Nat.le_of_ble_eq_true rfl, Nat.le_of_ble_eq_true rfl, Nat.le_of_ble_eq_true rfl, Nat.le_of_ble_eq_true rfl⟩ (Nat.le_of_ble_eq_true rfl) rfl B.2.1 B.2.2.1 ⟨Nat.le_of_ble_eq_true rfl, Nat.le_of_ble_eq_true rfl⟩ (by decide) [(0, 10, 13, 21), (0, 10, 17, 23)] [] [(0, 10, 17, 23)] (0, 10, 13, 21) B.2.2.2.2.2 rfl (fun z hz => by cases hz) (by decide) (by decide) lc_L_21 ct_0 ⟨1, 4, 2, Nat.le_of_ble_eq_true rfl, rfl, Or.inl ⟨d_L_join_13, rfl⟩, d_L_join_15, d_L_join_16⟩
    replace h := er_if h q6
    by_cases q7 : k5 = 2
    · replace h := er_it h q7
      subst q7
      cases h
      have hps : ∀ z ∈ ([(0, 10, 13, 21)] : List (Nat × Nat × Nat × Nat)), z.2.2.2 ≠ 0 ∧ ∃ k, k < 4 ∧ 2 ≠ k ∧ Cond.classLink "EntryRowsLaw" z.2.2.2 (er_exc k) ∈ er_tbl := by
        intro z hz
        simp only [List.mem_cons, List.not_mem_nil, or_false] at hz
        rcases hz with rfl
        · exact ⟨by decide, 0, by decide, by decide, lc_L_21⟩
      exact ej_cv_c (nc := 1) (ns := 6) B.1 [.int x1, .int x2] [.int 0, .ref 39] (ec_E_join hl.2 (er_sub rfl rfl (er_prH B)) x1 x2 σ (.inr 2, g3) e2) cal_E_join lk_L_54 in_E_join (er_atH B 0 rfl rfl) rfl rfl se_E_join rfl B.2.2.2.1 d_L_join_5 ⟨Nat.le_of_ble_eq_true rfl, Nat.le_of_ble_eq_true rfl, Nat.le_of_ble_eq_true rfl, Nat.le_of_ble_eq_true rfl⟩ (Nat.le_of_ble_eq_true rfl) rfl B.2.1 B.2.2.1 ⟨Nat.le_of_ble_eq_true rfl, Nat.le_of_ble_eq_true rfl⟩ (by decide) [(0, 10, 13, 21), (0, 10, 17, 23)] [(0, 10, 13, 21)] [] (0, 10, 17, 23) B.2.2.2.2.2 rfl hps (by decide) (by decide) lc_L_23 ct_2 ⟨2, 4, 2, Nat.le_of_ble_eq_true rfl, rfl, Or.inl ⟨d_L_join_17, rfl⟩, d_L_join_19, d_L_join_20⟩
    replace h := er_if h q7
    cases h
set_option maxRecDepth 100000 in
set_option maxHeartbeats 4000000 in
theorem ec_L_close {l : Launch} {G : er_G} (hl : l.stackTraces = false) (hE : er_Pr G 0 40) (x1 : Int32) (σ : er_S) (r : Int32 × er_S) (h : ef_L_close x1 σ = some r) : er_Con l y_L_close w_L_close 9 145 1 6 G [.ref 0, .int x1] σ ((.inl (some (.int r.1)), r.2)) := by
  refine er_ofJ (ret := some .int) (cc := b_L_close) (maxL := 3) (lv0 := [some (.ref 0), some (.int x1), none]) (hh := [(0, 5, 8, 21), (0, 5, 11, 23)]) (by decide +kernel) rfl (Or.inr rfl) (by intro v hv; simp only [List.mem_cons, List.not_mem_nil, or_false] at hv; rcases hv with rfl | rfl <;> rfl) (Nat.le_of_ble_eq_true rfl) ?_
  intro p e s m args below meth c hadm C hr hlk hml hw hnm hm hcd
  have B : er_BH p s m c meth b_L_close "EntryRowsLaw" G (some .int) 3 0 40 [(0, 5, 8, 21), (0, 5, 11, 23)] := ⟨C, hr, hlk, hml, hE, er_tab hw hnm hm hcd⟩
  have hl := And.intro hadm hl
  unfold ef_L_close at h
  refine ej_aload_n B.1 d_L_close_0 rfl ?_
  refine ej_iload_n B.1 d_L_close_1 rfl ?_
  rcases er_tc_some h with ⟨v1, g3, e2, h⟩ | ⟨k4, g3, e2, h⟩
  · refine ej_cv_v (nc := 0) (ns := 0) B.1 [.int x1] [] (ec_E_close hl.2 (er_sub rfl rfl (er_prH B)) x1 σ (.inl v1, g3) e2) cal_E_close lk_L_57 in_E_close (er_atH B 0 rfl rfl) rfl rfl se_E_close rfl B.2.2.2.1 d_L_close_2 ⟨Nat.le_of_ble_eq_true rfl, Nat.le_of_ble_eq_true rfl, Nat.zero_le _, Nat.zero_le _⟩ (Nat.le_of_ble_eq_true rfl) rfl ?_
    refine ej_goto B.1 (tgt := 14) d_L_close_5 (by decide) ?_
    refine ej_iconst B.1 (v := 0) d_L_close_14 rfl ?_
    cases h
    exact ej_iret B.1 B.2.1 B.2.2.1 (Nat.zero_le _) (Nat.zero_le _) d_L_close_15
  · skip
    by_cases q5 : k4 = 0
    · replace h := er_it h q5
      subst q5
      cases h
      exact ej_cv_c (nc := 1) (ns := 6) B.1 [.int x1] [] (ec_E_close hl.2 (er_sub rfl rfl (er_prH B)) x1 σ (.inr 0, g3) e2) cal_E_close lk_L_57 in_E_close (er_atH B 0 rfl rfl) rfl rfl se_E_close rfl B.2.2.2.1 d_L_close_2 ⟨Nat.le_of_ble_eq_true rfl, Nat.le_of_ble_eq_true rfl, Nat.le_of_ble_eq_true rfl, Nat.le_of_ble_eq_true rfl⟩ (Nat.le_of_ble_eq_true rfl) rfl B.2.1 B.2.2.1 ⟨Nat.le_of_ble_eq_true rfl, Nat.le_of_ble_eq_true rfl⟩ (by decide) [(0, 5, 8, 21), (0, 5, 11, 23)] [] [(0, 5, 11, 23)] (0, 5, 8, 21) B.2.2.2.2.2 rfl (fun z hz => by cases hz) (by decide) (by decide) lc_L_21 ct_0 ⟨1, 2, 1, Nat.le_of_ble_eq_true rfl, rfl, Or.inr ⟨2, rfl, d_L_close_8, rfl⟩, d_L_close_9, d_L_close_10⟩
    replace h := er_if h q5
    by_cases q6 : k4 = 2
    · replace h := er_it h q6
      subst q6
      cases h
      have hps : ∀ z ∈ ([(0, 5, 8, 21)] : List (Nat × Nat × Nat × Nat)), z.2.2.2 ≠ 0 ∧ ∃ k, k < 4 ∧ 2 ≠ k ∧ Cond.classLink "EntryRowsLaw" z.2.2.2 (er_exc k) ∈ er_tbl := by
        intro z hz
        simp only [List.mem_cons, List.not_mem_nil, or_false] at hz
        rcases hz with rfl
        · exact ⟨by decide, 0, by decide, by decide, lc_L_21⟩
      exact ej_cv_c (nc := 1) (ns := 6) B.1 [.int x1] [] (ec_E_close hl.2 (er_sub rfl rfl (er_prH B)) x1 σ (.inr 2, g3) e2) cal_E_close lk_L_57 in_E_close (er_atH B 0 rfl rfl) rfl rfl se_E_close rfl B.2.2.2.1 d_L_close_2 ⟨Nat.le_of_ble_eq_true rfl, Nat.le_of_ble_eq_true rfl, Nat.le_of_ble_eq_true rfl, Nat.le_of_ble_eq_true rfl⟩ (Nat.le_of_ble_eq_true rfl) rfl B.2.1 B.2.2.1 ⟨Nat.le_of_ble_eq_true rfl, Nat.le_of_ble_eq_true rfl⟩ (by decide) [(0, 5, 8, 21), (0, 5, 11, 23)] [(0, 5, 8, 21)] [] (0, 5, 11, 23) B.2.2.2.2.2 rfl hps (by decide) (by decide) lc_L_23 ct_2 ⟨2, 2, 1, Nat.le_of_ble_eq_true rfl, rfl, Or.inr ⟨2, rfl, d_L_close_11, rfl⟩, d_L_close_12, d_L_close_13⟩
    replace h := er_if h q6
    cases h
set_option maxRecDepth 100000 in
set_option maxHeartbeats 4000000 in
theorem ec_L_tick {l : Launch} {G : er_G} (hl : l.stackTraces = false) (hE : er_Pr G 0 40) (x1 : Int32) (σ : er_S) (r : Int32 × er_S) (h : ef_L_tick x1 σ = some r) : er_Con l y_L_tick w_L_tick 8 129 1 6 G [.ref 0, .int x1, .ref 39] σ ((.inl (some (.int r.1)), r.2)) := by
  refine er_ofJ (ret := some .int) (cc := b_L_tick) (maxL := 4) (lv0 := [some (.ref 0), some (.int x1), some (.ref 39), none]) (hh := [(0, 9, 12, 13)]) (by decide +kernel) rfl (Or.inr rfl) (by intro v hv; simp only [List.mem_cons, List.not_mem_nil, or_false] at hv; rcases hv with rfl | rfl | rfl <;> rfl) (Nat.le_of_ble_eq_true rfl) ?_
  intro p e s m args below meth c hadm C hr hlk hml hw hnm hm hcd
  have B : er_BH p s m c meth b_L_tick "EntryRowsLaw" G (some .int) 4 0 40 [(0, 9, 12, 13)] := ⟨C, hr, hlk, hml, hE, er_tab hw hnm hm hcd⟩
  have hl := And.intro hadm hl
  unfold ef_L_tick at h
  refine ej_aload_n B.1 d_L_tick_0 rfl ?_
  refine ej_iconst B.1 (v := 0) d_L_tick_1 rfl ?_
  refine ej_aload_n B.1 d_L_tick_2 rfl ?_
  refine ej_iload_n B.1 d_L_tick_3 rfl ?_
  rcases er_tc_some h with ⟨v1, g3, e2, h⟩ | ⟨k5, g3, e2, h⟩
  · refine ej_cv_i (nc := 0) (ns := 0) B.1 [.int x1] [.int 0, .ref 39] (ec_E_tick hl.2 (er_sub rfl rfl (er_prH B)) x1 σ (.inl v1, g3) e2) cal_E_tick lk_L_60 in_E_tick (er_atH B 0 rfl rfl) rfl rfl se_E_tick rfl B.2.2.2.1 d_L_tick_4 ⟨Nat.le_of_ble_eq_true rfl, Nat.le_of_ble_eq_true rfl, Nat.zero_le _, Nat.zero_le _⟩ (Nat.le_of_ble_eq_true rfl) rfl ?_
    refine ej_i2l B.1 d_L_tick_7 ?_
    obtain ⟨e4, h⟩ := er_gd_some h
    refine ej_last B.1 (er_atH B 39 rfl rfl) rfl e4 d_L_tick_8 ?_
    refine ej_goto B.1 (tgt := 15) d_L_tick_9 (by decide) ?_
    refine ej_iconst B.1 (v := 0) d_L_tick_15 rfl ?_
    cases h
    exact ej_iret B.1 B.2.1 B.2.2.1 (Nat.zero_le _) (Nat.zero_le _) d_L_tick_16
  · skip
    by_cases q6 : k5 = 1
    · replace h := er_it h q6
      subst q6
      cases h
      exact ej_cv_c (nc := 1) (ns := 6) B.1 [.int x1] [.int 0, .ref 39] (ec_E_tick hl.2 (er_sub rfl rfl (er_prH B)) x1 σ (.inr 1, g3) e2) cal_E_tick lk_L_60 in_E_tick (er_atH B 0 rfl rfl) rfl rfl se_E_tick rfl B.2.2.2.1 d_L_tick_4 ⟨Nat.le_of_ble_eq_true rfl, Nat.le_of_ble_eq_true rfl, Nat.le_of_ble_eq_true rfl, Nat.le_of_ble_eq_true rfl⟩ (Nat.le_of_ble_eq_true rfl) rfl B.2.1 B.2.2.1 ⟨Nat.le_of_ble_eq_true rfl, Nat.le_of_ble_eq_true rfl⟩ (by decide) [(0, 9, 12, 13)] [] [] (0, 9, 12, 13) B.2.2.2.2.2 rfl (fun z hz => by cases hz) (by decide) (by decide) lc_L_13 ct_1 ⟨1, 3, 1, Nat.le_of_ble_eq_true rfl, rfl, Or.inr ⟨3, rfl, d_L_tick_12, rfl⟩, d_L_tick_13, d_L_tick_14⟩
    replace h := er_if h q6
    cases h
set_option maxRecDepth 100000 in
set_option maxHeartbeats 4000000 in
theorem ec_L_on {l : Launch} {G : er_G} (hl : l.stackTraces = false) (hE : er_Pr G 0 40) (x1 x2 : Int32) (σ : er_S) (r : Int32 × er_S) (h : ef_L_on x1 x2 σ = some r) : er_Con l y_L_on w_L_on 9 150 1 6 G [.ref 0, .int x1, .int x2, .ref 39] σ ((.inl (some (.int r.1)), r.2)) := by
  refine er_ofJ (ret := some .int) (cc := b_L_on) (maxL := 5) (lv0 := [some (.ref 0), some (.int x1), some (.int x2), some (.ref 39), none]) (hh := [(0, 10, 13, 21), (0, 10, 17, 13)]) (by decide +kernel) rfl (Or.inr rfl) (by intro v hv; simp only [List.mem_cons, List.not_mem_nil, or_false] at hv; rcases hv with rfl | rfl | rfl | rfl <;> rfl) (Nat.le_of_ble_eq_true rfl) ?_
  intro p e s m args below meth c hadm C hr hlk hml hw hnm hm hcd
  have B : er_BH p s m c meth b_L_on "EntryRowsLaw" G (some .int) 5 0 40 [(0, 10, 13, 21), (0, 10, 17, 13)] := ⟨C, hr, hlk, hml, hE, er_tab hw hnm hm hcd⟩
  have hl := And.intro hadm hl
  unfold ef_L_on at h
  refine ej_aload_n B.1 d_L_on_0 rfl ?_
  refine ej_iconst B.1 (v := 0) d_L_on_1 rfl ?_
  refine ej_aload_n B.1 d_L_on_2 rfl ?_
  refine ej_iload_n B.1 d_L_on_3 rfl ?_
  refine ej_iload_n B.1 d_L_on_4 rfl ?_
  rcases er_tc_some h with ⟨v1, g3, e2, h⟩ | ⟨k5, g3, e2, h⟩
  · refine ej_cv_i (nc := 0) (ns := 0) B.1 [.int x1, .int x2] [.int 0, .ref 39] (ec_E_on hl.2 (er_sub rfl rfl (er_prH B)) x1 x2 σ (.inl v1, g3) e2) cal_E_on lk_L_64 in_E_on (er_atH B 0 rfl rfl) rfl rfl se_E_on rfl B.2.2.2.1 d_L_on_5 ⟨Nat.le_of_ble_eq_true rfl, Nat.le_of_ble_eq_true rfl, Nat.zero_le _, Nat.zero_le _⟩ (Nat.le_of_ble_eq_true rfl) rfl ?_
    refine ej_i2l B.1 d_L_on_8 ?_
    obtain ⟨e4, h⟩ := er_gd_some h
    refine ej_last B.1 (er_atH B 39 rfl rfl) rfl e4 d_L_on_9 ?_
    refine ej_goto B.1 (tgt := 21) d_L_on_10 (by decide) ?_
    refine ej_iconst B.1 (v := 0) d_L_on_21 rfl ?_
    cases h
    exact ej_iret B.1 B.2.1 B.2.2.1 (Nat.zero_le _) (Nat.zero_le _) d_L_on_22
  · skip
    by_cases q6 : k5 = 0
    · replace h := er_it h q6
      subst q6
      cases h
      exact ej_cv_c (nc := 1) (ns := 6) B.1 [.int x1, .int x2] [.int 0, .ref 39] (ec_E_on hl.2 (er_sub rfl rfl (er_prH B)) x1 x2 σ (.inr 0, g3) e2) cal_E_on lk_L_64 in_E_on (er_atH B 0 rfl rfl) rfl rfl se_E_on rfl B.2.2.2.1 d_L_on_5 ⟨Nat.le_of_ble_eq_true rfl, Nat.le_of_ble_eq_true rfl, Nat.le_of_ble_eq_true rfl, Nat.le_of_ble_eq_true rfl⟩ (Nat.le_of_ble_eq_true rfl) rfl B.2.1 B.2.2.1 ⟨Nat.le_of_ble_eq_true rfl, Nat.le_of_ble_eq_true rfl⟩ (by decide) [(0, 10, 13, 21), (0, 10, 17, 13)] [] [(0, 10, 17, 13)] (0, 10, 13, 21) B.2.2.2.2.2 rfl (fun z hz => by cases hz) (by decide) (by decide) lc_L_21 ct_0 ⟨1, 4, 2, Nat.le_of_ble_eq_true rfl, rfl, Or.inl ⟨d_L_on_13, rfl⟩, d_L_on_15, d_L_on_16⟩
    replace h := er_if h q6
    by_cases q7 : k5 = 1
    · replace h := er_it h q7
      subst q7
      cases h
      have hps : ∀ z ∈ ([(0, 10, 13, 21)] : List (Nat × Nat × Nat × Nat)), z.2.2.2 ≠ 0 ∧ ∃ k, k < 4 ∧ 1 ≠ k ∧ Cond.classLink "EntryRowsLaw" z.2.2.2 (er_exc k) ∈ er_tbl := by
        intro z hz
        simp only [List.mem_cons, List.not_mem_nil, or_false] at hz
        rcases hz with rfl
        · exact ⟨by decide, 0, by decide, by decide, lc_L_21⟩
      exact ej_cv_c (nc := 1) (ns := 6) B.1 [.int x1, .int x2] [.int 0, .ref 39] (ec_E_on hl.2 (er_sub rfl rfl (er_prH B)) x1 x2 σ (.inr 1, g3) e2) cal_E_on lk_L_64 in_E_on (er_atH B 0 rfl rfl) rfl rfl se_E_on rfl B.2.2.2.1 d_L_on_5 ⟨Nat.le_of_ble_eq_true rfl, Nat.le_of_ble_eq_true rfl, Nat.le_of_ble_eq_true rfl, Nat.le_of_ble_eq_true rfl⟩ (Nat.le_of_ble_eq_true rfl) rfl B.2.1 B.2.2.1 ⟨Nat.le_of_ble_eq_true rfl, Nat.le_of_ble_eq_true rfl⟩ (by decide) [(0, 10, 13, 21), (0, 10, 17, 13)] [(0, 10, 13, 21)] [] (0, 10, 17, 13) B.2.2.2.2.2 rfl hps (by decide) (by decide) lc_L_13 ct_1 ⟨2, 4, 2, Nat.le_of_ble_eq_true rfl, rfl, Or.inl ⟨d_L_on_17, rfl⟩, d_L_on_19, d_L_on_20⟩
    replace h := er_if h q7
    cases h
set_option maxRecDepth 100000 in
set_option maxHeartbeats 4000000 in
theorem ec_L_late {l : Launch} {G : er_G} (hl : l.stackTraces = false) (hE : er_Pr G 0 40) (x1 : Int32) (σ : er_S) (r : Int32 × er_S) (h : ef_L_late x1 σ = some r) : er_Con l y_L_late w_L_late 9 148 1 6 G [.ref 0, .int x1, .ref 39] σ ((.inl (some (.int r.1)), r.2)) := by
  refine er_ofJ (ret := some .int) (cc := b_L_late) (maxL := 4) (lv0 := [some (.ref 0), some (.int x1), some (.ref 39), none]) (hh := [(0, 9, 12, 13)]) (by decide +kernel) rfl (Or.inr rfl) (by intro v hv; simp only [List.mem_cons, List.not_mem_nil, or_false] at hv; rcases hv with rfl | rfl | rfl <;> rfl) (Nat.le_of_ble_eq_true rfl) ?_
  intro p e s m args below meth c hadm C hr hlk hml hw hnm hm hcd
  have B : er_BH p s m c meth b_L_late "EntryRowsLaw" G (some .int) 4 0 40 [(0, 9, 12, 13)] := ⟨C, hr, hlk, hml, hE, er_tab hw hnm hm hcd⟩
  have hl := And.intro hadm hl
  unfold ef_L_late at h
  refine ej_aload_n B.1 d_L_late_0 rfl ?_
  refine ej_iconst B.1 (v := 0) d_L_late_1 rfl ?_
  refine ej_aload_n B.1 d_L_late_2 rfl ?_
  refine ej_iload_n B.1 d_L_late_3 rfl ?_
  rcases er_tc_some h with ⟨v1, g3, e2, h⟩ | ⟨k5, g3, e2, h⟩
  · refine ej_cv_i (nc := 0) (ns := 0) B.1 [.int x1] [.int 0, .ref 39] (ec_E_late hl.2 (er_sub rfl rfl (er_prH B)) x1 σ (.inl v1, g3) e2) cal_E_late lk_L_67 in_E_late (er_atH B 0 rfl rfl) rfl rfl se_E_late rfl B.2.2.2.1 d_L_late_4 ⟨Nat.le_of_ble_eq_true rfl, Nat.le_of_ble_eq_true rfl, Nat.zero_le _, Nat.zero_le _⟩ (Nat.le_of_ble_eq_true rfl) rfl ?_
    refine ej_i2l B.1 d_L_late_7 ?_
    obtain ⟨e4, h⟩ := er_gd_some h
    refine ej_last B.1 (er_atH B 39 rfl rfl) rfl e4 d_L_late_8 ?_
    refine ej_goto B.1 (tgt := 15) d_L_late_9 (by decide) ?_
    refine ej_iconst B.1 (v := 0) d_L_late_15 rfl ?_
    cases h
    exact ej_iret B.1 B.2.1 B.2.2.1 (Nat.zero_le _) (Nat.zero_le _) d_L_late_16
  · skip
    by_cases q6 : k5 = 1
    · replace h := er_it h q6
      subst q6
      cases h
      exact ej_cv_c (nc := 1) (ns := 6) B.1 [.int x1] [.int 0, .ref 39] (ec_E_late hl.2 (er_sub rfl rfl (er_prH B)) x1 σ (.inr 1, g3) e2) cal_E_late lk_L_67 in_E_late (er_atH B 0 rfl rfl) rfl rfl se_E_late rfl B.2.2.2.1 d_L_late_4 ⟨Nat.le_of_ble_eq_true rfl, Nat.le_of_ble_eq_true rfl, Nat.le_of_ble_eq_true rfl, Nat.le_of_ble_eq_true rfl⟩ (Nat.le_of_ble_eq_true rfl) rfl B.2.1 B.2.2.1 ⟨Nat.le_of_ble_eq_true rfl, Nat.le_of_ble_eq_true rfl⟩ (by decide) [(0, 9, 12, 13)] [] [] (0, 9, 12, 13) B.2.2.2.2.2 rfl (fun z hz => by cases hz) (by decide) (by decide) lc_L_13 ct_1 ⟨1, 3, 1, Nat.le_of_ble_eq_true rfl, rfl, Or.inr ⟨3, rfl, d_L_late_12, rfl⟩, d_L_late_13, d_L_late_14⟩
    replace h := er_if h q6
    cases h
set_option maxRecDepth 100000 in
set_option maxHeartbeats 4000000 in
theorem ec_L_person {l : Launch} {G : er_G} (hl : l.stackTraces = false) (hE : er_Pr G 0 40) (x1 x2 : Int32) (σ : er_S) (r : Int32 × er_S) (h : ef_L_person x1 x2 σ = some r) : er_Con l y_L_person w_L_person 9 145 1 6 G [.ref 0, .int x1, .int x2, .ref 39] σ ((.inl (some (.int r.1)), r.2)) := by
  refine er_ofJ (ret := some .int) (cc := b_L_person) (maxL := 5) (lv0 := [some (.ref 0), some (.int x1), some (.int x2), some (.ref 39), none]) (hh := [(0, 10, 13, 21)]) (by decide +kernel) rfl (Or.inr rfl) (by intro v hv; simp only [List.mem_cons, List.not_mem_nil, or_false] at hv; rcases hv with rfl | rfl | rfl | rfl <;> rfl) (Nat.le_of_ble_eq_true rfl) ?_
  intro p e s m args below meth c hadm C hr hlk hml hw hnm hm hcd
  have B : er_BH p s m c meth b_L_person "EntryRowsLaw" G (some .int) 5 0 40 [(0, 10, 13, 21)] := ⟨C, hr, hlk, hml, hE, er_tab hw hnm hm hcd⟩
  have hl := And.intro hadm hl
  unfold ef_L_person at h
  refine ej_aload_n B.1 d_L_person_0 rfl ?_
  refine ej_iconst B.1 (v := 0) d_L_person_1 rfl ?_
  refine ej_aload_n B.1 d_L_person_2 rfl ?_
  refine ej_iload_n B.1 d_L_person_3 rfl ?_
  refine ej_iload_n B.1 d_L_person_4 rfl ?_
  rcases er_tc_some h with ⟨v1, g3, e2, h⟩ | ⟨k5, g3, e2, h⟩
  · refine ej_cv_i (nc := 0) (ns := 0) B.1 [.int x1, .int x2] [.int 0, .ref 39] (ec_E_person hl.2 (er_sub rfl rfl (er_prH B)) x1 x2 σ (.inl v1, g3) e2) cal_E_person lk_L_70 in_E_person (er_atH B 0 rfl rfl) rfl rfl se_E_person rfl B.2.2.2.1 d_L_person_5 ⟨Nat.le_of_ble_eq_true rfl, Nat.le_of_ble_eq_true rfl, Nat.zero_le _, Nat.zero_le _⟩ (Nat.le_of_ble_eq_true rfl) rfl ?_
    refine ej_i2l B.1 d_L_person_8 ?_
    obtain ⟨e4, h⟩ := er_gd_some h
    refine ej_last B.1 (er_atH B 39 rfl rfl) rfl e4 d_L_person_9 ?_
    refine ej_goto B.1 (tgt := 17) d_L_person_10 (by decide) ?_
    refine ej_iconst B.1 (v := 0) d_L_person_17 rfl ?_
    cases h
    exact ej_iret B.1 B.2.1 B.2.2.1 (Nat.zero_le _) (Nat.zero_le _) d_L_person_18
  · skip
    by_cases q6 : k5 = 0
    · replace h := er_it h q6
      subst q6
      cases h
      exact ej_cv_c (nc := 1) (ns := 6) B.1 [.int x1, .int x2] [.int 0, .ref 39] (ec_E_person hl.2 (er_sub rfl rfl (er_prH B)) x1 x2 σ (.inr 0, g3) e2) cal_E_person lk_L_70 in_E_person (er_atH B 0 rfl rfl) rfl rfl se_E_person rfl B.2.2.2.1 d_L_person_5 ⟨Nat.le_of_ble_eq_true rfl, Nat.le_of_ble_eq_true rfl, Nat.le_of_ble_eq_true rfl, Nat.le_of_ble_eq_true rfl⟩ (Nat.le_of_ble_eq_true rfl) rfl B.2.1 B.2.2.1 ⟨Nat.le_of_ble_eq_true rfl, Nat.le_of_ble_eq_true rfl⟩ (by decide) [(0, 10, 13, 21)] [] [] (0, 10, 13, 21) B.2.2.2.2.2 rfl (fun z hz => by cases hz) (by decide) (by decide) lc_L_21 ct_0 ⟨1, 4, 2, Nat.le_of_ble_eq_true rfl, rfl, Or.inl ⟨d_L_person_13, rfl⟩, d_L_person_15, d_L_person_16⟩
    replace h := er_if h q6
    cases h
set_option maxRecDepth 100000 in
set_option maxHeartbeats 4000000 in
theorem ec_L_boardAt {l : Launch} {G : er_G} (hl : l.stackTraces = false) (hE : er_Pr G 0 40) (x1 x2 : Int32) (σ : er_S) (r : Int32 × er_S) (h : ef_L_boardAt x1 x2 σ = some r) : er_Con l y_L_boardAt w_L_boardAt 9 146 1 6 G [.ref 0, .int x1, .int x2, .ref 39] σ ((.inl (some (.int r.1)), r.2)) := by
  refine er_ofJ (ret := some .int) (cc := b_L_boardAt) (maxL := 5) (lv0 := [some (.ref 0), some (.int x1), some (.int x2), some (.ref 39), none]) (hh := [(0, 10, 13, 21)]) (by decide +kernel) rfl (Or.inr rfl) (by intro v hv; simp only [List.mem_cons, List.not_mem_nil, or_false] at hv; rcases hv with rfl | rfl | rfl | rfl <;> rfl) (Nat.le_of_ble_eq_true rfl) ?_
  intro p e s m args below meth c hadm C hr hlk hml hw hnm hm hcd
  have B : er_BH p s m c meth b_L_boardAt "EntryRowsLaw" G (some .int) 5 0 40 [(0, 10, 13, 21)] := ⟨C, hr, hlk, hml, hE, er_tab hw hnm hm hcd⟩
  have hl := And.intro hadm hl
  unfold ef_L_boardAt at h
  refine ej_aload_n B.1 d_L_boardAt_0 rfl ?_
  refine ej_iconst B.1 (v := 0) d_L_boardAt_1 rfl ?_
  refine ej_aload_n B.1 d_L_boardAt_2 rfl ?_
  refine ej_iload_n B.1 d_L_boardAt_3 rfl ?_
  refine ej_iload_n B.1 d_L_boardAt_4 rfl ?_
  rcases er_tc_some h with ⟨v1, g3, e2, h⟩ | ⟨k5, g3, e2, h⟩
  · refine ej_cv_i (nc := 0) (ns := 0) B.1 [.int x1, .int x2] [.int 0, .ref 39] (ec_E_boardAt hl.2 (er_sub rfl rfl (er_prH B)) x1 x2 σ (.inl v1, g3) e2) cal_E_boardAt lk_L_73 in_E_boardAt (er_atH B 0 rfl rfl) rfl rfl se_E_boardAt rfl B.2.2.2.1 d_L_boardAt_5 ⟨Nat.le_of_ble_eq_true rfl, Nat.le_of_ble_eq_true rfl, Nat.zero_le _, Nat.zero_le _⟩ (Nat.le_of_ble_eq_true rfl) rfl ?_
    refine ej_i2l B.1 d_L_boardAt_8 ?_
    obtain ⟨e4, h⟩ := er_gd_some h
    refine ej_last B.1 (er_atH B 39 rfl rfl) rfl e4 d_L_boardAt_9 ?_
    refine ej_goto B.1 (tgt := 17) d_L_boardAt_10 (by decide) ?_
    refine ej_iconst B.1 (v := 0) d_L_boardAt_17 rfl ?_
    cases h
    exact ej_iret B.1 B.2.1 B.2.2.1 (Nat.zero_le _) (Nat.zero_le _) d_L_boardAt_18
  · skip
    by_cases q6 : k5 = 0
    · replace h := er_it h q6
      subst q6
      cases h
      exact ej_cv_c (nc := 1) (ns := 6) B.1 [.int x1, .int x2] [.int 0, .ref 39] (ec_E_boardAt hl.2 (er_sub rfl rfl (er_prH B)) x1 x2 σ (.inr 0, g3) e2) cal_E_boardAt lk_L_73 in_E_boardAt (er_atH B 0 rfl rfl) rfl rfl se_E_boardAt rfl B.2.2.2.1 d_L_boardAt_5 ⟨Nat.le_of_ble_eq_true rfl, Nat.le_of_ble_eq_true rfl, Nat.le_of_ble_eq_true rfl, Nat.le_of_ble_eq_true rfl⟩ (Nat.le_of_ble_eq_true rfl) rfl B.2.1 B.2.2.1 ⟨Nat.le_of_ble_eq_true rfl, Nat.le_of_ble_eq_true rfl⟩ (by decide) [(0, 10, 13, 21)] [] [] (0, 10, 13, 21) B.2.2.2.2.2 rfl (fun z hz => by cases hz) (by decide) (by decide) lc_L_21 ct_0 ⟨1, 4, 2, Nat.le_of_ble_eq_true rfl, rfl, Or.inl ⟨d_L_boardAt_13, rfl⟩, d_L_boardAt_15, d_L_boardAt_16⟩
    replace h := er_if h q6
    cases h
set_option maxRecDepth 100000 in
set_option maxHeartbeats 4000000 in
theorem ec_L_count {l : Launch} {G : er_G} (hl : l.stackTraces = false) (hE : er_Pr G 0 40) (x1 : Int32) (σ : er_S) (r : Int32 × er_S) (h : ef_L_count x1 σ = some r) : er_Con l y_L_count w_L_count 7 104 1 6 G [.ref 0, .int x1, .ref 39] σ ((.inl (some (.int r.1)), r.2)) := by
  refine er_ofJ (ret := some .int) (cc := b_L_count) (maxL := 4) (lv0 := [some (.ref 0), some (.int x1), some (.ref 39), none]) (hh := [(0, 9, 12, 21)]) (by decide +kernel) rfl (Or.inr rfl) (by intro v hv; simp only [List.mem_cons, List.not_mem_nil, or_false] at hv; rcases hv with rfl | rfl | rfl <;> rfl) (Nat.le_of_ble_eq_true rfl) ?_
  intro p e s m args below meth c hadm C hr hlk hml hw hnm hm hcd
  have B : er_BH p s m c meth b_L_count "EntryRowsLaw" G (some .int) 4 0 40 [(0, 9, 12, 21)] := ⟨C, hr, hlk, hml, hE, er_tab hw hnm hm hcd⟩
  have hl := And.intro hadm hl
  unfold ef_L_count at h
  refine ej_aload_n B.1 d_L_count_0 rfl ?_
  refine ej_iconst B.1 (v := 0) d_L_count_1 rfl ?_
  refine ej_aload_n B.1 d_L_count_2 rfl ?_
  refine ej_iload_n B.1 d_L_count_3 rfl ?_
  rcases er_tc_some h with ⟨v1, g3, e2, h⟩ | ⟨k5, g3, e2, h⟩
  · refine ej_cv_i (nc := 0) (ns := 0) B.1 [.int x1] [.int 0, .ref 39] (ec_E_count hl.2 (er_sub rfl rfl (er_prH B)) x1 σ (.inl v1, g3) e2) cal_E_count lk_L_76 in_E_count (er_atH B 0 rfl rfl) rfl rfl se_E_count rfl B.2.2.2.1 d_L_count_4 ⟨Nat.le_of_ble_eq_true rfl, Nat.le_of_ble_eq_true rfl, Nat.zero_le _, Nat.zero_le _⟩ (Nat.le_of_ble_eq_true rfl) rfl ?_
    refine ej_i2l B.1 d_L_count_7 ?_
    obtain ⟨e4, h⟩ := er_gd_some h
    refine ej_last B.1 (er_atH B 39 rfl rfl) rfl e4 d_L_count_8 ?_
    refine ej_goto B.1 (tgt := 15) d_L_count_9 (by decide) ?_
    refine ej_iconst B.1 (v := 0) d_L_count_15 rfl ?_
    cases h
    exact ej_iret B.1 B.2.1 B.2.2.1 (Nat.zero_le _) (Nat.zero_le _) d_L_count_16
  · skip
    by_cases q6 : k5 = 0
    · replace h := er_it h q6
      subst q6
      cases h
      exact ej_cv_c (nc := 1) (ns := 6) B.1 [.int x1] [.int 0, .ref 39] (ec_E_count hl.2 (er_sub rfl rfl (er_prH B)) x1 σ (.inr 0, g3) e2) cal_E_count lk_L_76 in_E_count (er_atH B 0 rfl rfl) rfl rfl se_E_count rfl B.2.2.2.1 d_L_count_4 ⟨Nat.le_of_ble_eq_true rfl, Nat.le_of_ble_eq_true rfl, Nat.le_of_ble_eq_true rfl, Nat.le_of_ble_eq_true rfl⟩ (Nat.le_of_ble_eq_true rfl) rfl B.2.1 B.2.2.1 ⟨Nat.le_of_ble_eq_true rfl, Nat.le_of_ble_eq_true rfl⟩ (by decide) [(0, 9, 12, 21)] [] [] (0, 9, 12, 21) B.2.2.2.2.2 rfl (fun z hz => by cases hz) (by decide) (by decide) lc_L_21 ct_0 ⟨1, 3, 1, Nat.le_of_ble_eq_true rfl, rfl, Or.inr ⟨3, rfl, d_L_count_12, rfl⟩, d_L_count_13, d_L_count_14⟩
    replace h := er_if h q6
    cases h
