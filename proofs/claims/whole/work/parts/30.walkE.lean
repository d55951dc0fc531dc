set_option maxRecDepth 100000 in
set_option maxHeartbeats 4000000 in
theorem ew_J_min_10 {p : Program} {l : Launch} {e : Env} {s : State} {m : MethodId} {args : Array Value} {below : List Frame} {meth : Method} {c : Code} {G : er_G} (B : er_B p s m c meth b_J_min "java/lang/Math" G (some .int) 2 0 0) (t0 : Int32) (σ : er_S) (r : Int32) (h : ef_J_min_10 t0 σ = some r) : er_J p l e { frames := 0, cells := 0, slots := 0, locals := 0 } s m args below meth c G (er_A G s.heap.size) s.heap (er_fin below G s 0 0 (.inl (some (.int r)), σ)) 0 0 σ 10 [none, none] [.int t0] := by
  unfold ef_J_min_10 at h
  cases h
  exact ej_iret B.1 B.2.1 B.2.2.1 (Nat.zero_le _) (Nat.zero_le _) d_J_min_10
set_option maxRecDepth 100000 in
set_option maxHeartbeats 4000000 in
theorem ec_J_min {l : Launch} {G : er_G} (x0 x1 : Int32) (σ : er_S) (r : Int32) (h : ef_J_min x0 x1 σ = some r) : er_Con l y_J_min w_J_min 0 0 0 0 G [.int x0, .int x1] σ ((.inl (some (.int r)), σ)) := by
  refine er_ofJ (ret := some .int) (cc := b_J_min) (maxL := 2) (lv0 := [some (.int x0), some (.int x1)]) (hh := []) (by decide +kernel) rfl (Or.inl rfl) (by intro v hv; simp only [List.mem_cons, List.not_mem_nil, or_false] at hv; rcases hv with rfl | rfl <;> rfl) (Nat.le_of_ble_eq_true rfl) ?_
  intro p e s m args below meth c hadm C hr hlk hml hw hnm hm hcd
  have B : er_B p s m c meth b_J_min "java/lang/Math" G (some .int) 2 0 0 := ⟨C, hr, hlk, hml, er_none G, er_noh hw hnm hm hcd⟩
  unfold ef_J_min at h
  refine ej_iload_n B.1 d_J_min_0 rfl ?_
  refine ej_iload_n B.1 d_J_min_1 rfl ?_
  refine ej_icmp_gt B.1 (tgt := 9) d_J_min_2 (by decide) (fun q1 => ?_) (fun q1 => ?_)
  · replace h := er_it h q1
    refine ej_iload_n B.1 d_J_min_9 rfl ?_
    exact ej_le (lv' := [none, none]) trivial (ew_J_min_10 B x1 σ _ h)
  · replace h := er_if h q1
    refine ej_iload_n B.1 d_J_min_5 rfl ?_
    refine ej_goto B.1 (tgt := 10) d_J_min_6 (by decide) ?_
    exact ej_le (lv' := [none, none]) trivial (ew_J_min_10 B x0 σ _ h)
set_option maxRecDepth 100000 in
set_option maxHeartbeats 4000000 in
theorem ew_E_requireRange_10 {p : Program} {l : Launch} {e : Env} {s : State} {m : MethodId} {args : Array Value} {below : List Frame} {meth : Method} {c : Code} {G : er_G} (hl : l.admits e ∧ l.stackTraces = false) (B : er_B p s m c meth b_E_requireRange "EntryRows" G (none) 3 0 21) (σ : er_S) (r : (Unit ⊕ Nat) × er_S) (h : ef_E_requireRange_10  σ = some r) : er_J p l e { frames := 6, cells := er_nc r.1, slots := er_ns r.1, locals := 83 } s m args below meth c G (er_A G s.heap.size) s.heap (er_fin below G s (er_nc r.1) (er_ns r.1) (er_cvu r)) 0 0 σ 10 [none, none, none] [] := by
  unfold ef_E_requireRange_10 at h
  cases h
  exact th_E_requireRange_10 B hl
set_option maxRecDepth 100000 in
set_option maxHeartbeats 4000000 in
theorem ec_E_requireRange {l : Launch} {G : er_G} (hl : l.stackTraces = false) (hE : er_Pr G 0 21) (x0 x1 x2 : Int32) (σ : er_S) (r : (Unit ⊕ Nat) × er_S) (h : ef_E_requireRange x0 x1 x2 σ = some r) : er_Con l y_E_requireRange w_E_requireRange 6 83 (er_nc r.1) (er_ns r.1) G [.int x0, .int x1, .int x2] σ (er_cvu r) := by
  refine er_ofJ (ret := none) (cc := b_E_requireRange) (maxL := 3) (lv0 := [some (.int x0), some (.int x1), some (.int x2)]) (hh := []) (by decide +kernel) rfl (Or.inl rfl) (by intro v hv; simp only [List.mem_cons, List.not_mem_nil, or_false] at hv; rcases hv with rfl | rfl | rfl <;> rfl) (Nat.le_of_ble_eq_true rfl) ?_
  intro p e s m args below meth c hadm C hr hlk hml hw hnm hm hcd
  have B : er_B p s m c meth b_E_requireRange "EntryRows" G (none) 3 0 21 := ⟨C, hr, hlk, hml, hE, er_noh hw hnm hm hcd⟩
  have hl := And.intro hadm hl
  unfold ef_E_requireRange at h
  refine ej_iload_n B.1 d_E_requireRange_0 rfl ?_
  refine ej_iload_n B.1 d_E_requireRange_1 rfl ?_
  refine ej_icmp_lt B.1 (tgt := 10) d_E_requireRange_2 (by decide) (fun q1 => ?_) (fun q1 => ?_)
  · replace h := er_it h q1
    exact ej_le (lv' := [none, none, none]) trivial (ew_E_requireRange_10 hl B σ _ h)
  · replace h := er_if h q1
    refine ej_iload_n B.1 d_E_requireRange_5 rfl ?_
    refine ej_iload_n B.1 d_E_requireRange_6 rfl ?_
    refine ej_icmp_le B.1 (tgt := 20) d_E_requireRange_7 (by decide) (fun q2 => ?_) (fun q2 => ?_)
    · replace h := er_it h q2
      cases h
      exact ej_vret B.1 B.2.1 B.2.2.1 (Nat.zero_le _) (Nat.zero_le _) d_E_requireRange_20
    · replace h := er_if h q2
      exact ej_le (lv' := [none, none, none]) trivial (ew_E_requireRange_10 hl B σ _ h)
set_option maxRecDepth 100000 in
set_option maxHeartbeats 4000000 in
theorem ew_B_hasRoom_14 {p : Program} {l : Launch} {e : Env} {s : State} {m : MethodId} {args : Array Value} {below : List Frame} {meth : Method} {c : Code} {G : er_G} (B : er_B p s m c meth b_B_hasRoom "EntryRows$Boards" G (some .boolean) 1 0 21) (t0 : Int32) (σ : er_S) (r : Int32) (h : ef_B_hasRoom_14 t0 σ = some r) : er_J p l e { frames := 0, cells := 0, slots := 0, locals := 0 } s m args below meth c G (er_A G s.heap.size) s.heap (er_fin below G s 0 0 (.inl (some (.int r)), σ)) 0 0 σ 14 [none] [.int t0] := by
  unfold ef_B_hasRoom_14 at h
  obtain ⟨e2, h⟩ := er_gd_some h
  cases h
  exact ej_zret B.1 B.2.1 B.2.2.1 (Nat.zero_le _) (Nat.zero_le _) e2 d_B_hasRoom_14
set_option maxRecDepth 100000 in
set_option maxHeartbeats 4000000 in
theorem ec_B_hasRoom {l : Launch} {G : er_G} (hE : er_Pr G 0 21) (σ : er_S) (r : Int32) (h : ef_B_hasRoom  σ = some r) : er_Con l y_B_hasRoom w_B_hasRoom 0 0 0 0 G [.ref 2] σ ((.inl (some (.int r)), σ)) := by
  refine er_ofJ (ret := some .boolean) (cc := b_B_hasRoom) (maxL := 1) (lv0 := [some (.ref 2)]) (hh := []) (by decide +kernel) rfl (Or.inl rfl) (by intro v hv; simp only [List.mem_cons, List.not_mem_nil, or_false] at hv; rcases hv with rfl <;> rfl) (Nat.le_of_ble_eq_true rfl) ?_
  intro p e s m args below meth c hadm C hr hlk hml hw hnm hm hcd
  have B : er_B p s m c meth b_B_hasRoom "EntryRows$Boards" G (some .boolean) 1 0 21 := ⟨C, hr, hlk, hml, hE, er_noh hw hnm hm hcd⟩
  unfold ef_B_hasRoom at h
  refine ej_aload_n B.1 d_B_hasRoom_0 rfl ?_
  refine ej_geti B.1 (er_at B 2 rfl rfl) rfl rfl fl_B_28 d_B_hasRoom_1 ?_
  refine ej_bipush B.1 (v := 8) d_B_hasRoom_4 (by decide +kernel) ?_
  refine ej_icmp_ge B.1 (tgt := 13) d_B_hasRoom_6 (by decide) (fun q1 => ?_) (fun q1 => ?_)
  · replace h := er_it h q1
    refine ej_iconst B.1 (v := 0) d_B_hasRoom_13 rfl ?_
    exact ej_le (lv' := [none]) trivial (ew_B_hasRoom_14 B 0 σ _ h)
  · replace h := er_if h q1
    refine ej_iconst B.1 (v := 1) d_B_hasRoom_9 rfl ?_
    refine ej_goto B.1 (tgt := 14) d_B_hasRoom_10 (by decide) ?_
    exact ej_le (lv' := [none]) trivial (ew_B_hasRoom_14 B 1 σ _ h)
set_option maxRecDepth 100000 in
set_option maxHeartbeats 4000000 in
theorem ec_B_make {l : Launch} {G : er_G} (hE : er_Pr G 0 21) (x1 x2 x3 : Int32) (σ : er_S) (r : Int32 × er_S) (h : ef_B_make x1 x2 x3 σ = some r) : er_Con l y_B_make w_B_make 0 0 0 0 G [.ref 2, .int x1, .int x2, .int x3] σ ((.inl (some (.int r.1)), r.2)) := by
  refine er_ofJ (ret := some .int) (cc := b_B_make) (maxL := 5) (lv0 := [some (.ref 2), some (.int x1), some (.int x2), some (.int x3), none]) (hh := []) (by decide +kernel) rfl (Or.inl rfl) (by intro v hv; simp only [List.mem_cons, List.not_mem_nil, or_false] at hv; rcases hv with rfl | rfl | rfl | rfl <;> rfl) (Nat.le_of_ble_eq_true rfl) ?_
  intro p e s m args below meth c hadm C hr hlk hml hw hnm hm hcd
  have B : er_B p s m c meth b_B_make "EntryRows$Boards" G (some .int) 5 0 21 := ⟨C, hr, hlk, hml, hE, er_noh hw hnm hm hcd⟩
  unfold ef_B_make at h
  refine ej_aload_n B.1 d_B_make_0 rfl ?_
  refine ej_geti B.1 (er_at B 2 rfl rfl) rfl rfl fl_B_28 d_B_make_1 ?_
  refine ej_istore B.1 (lv' := [some (.ref 2), some (.int x1), some (.int x2), some (.int x3), some (.int (σ 2 5))]) d_B_make_4 rfl rfl rfl ?_
  refine ej_aload_n B.1 d_B_make_6 rfl ?_
  refine ej_getr B.1 (er_at B 2 rfl rfl) rfl rfl fl_B_9 d_B_make_7 ?_
  refine ej_iload B.1 d_B_make_10 rfl ?_
  refine ej_iconst B.1 (v := 1) d_B_make_12 rfl ?_
  obtain ⟨e1, h⟩ := er_gd_some h
  obtain ⟨e2, h⟩ := er_gd_some h
  refine ej_zast B.1 (er_at B 16 rfl rfl) rfl e1 e2 d_B_make_13 ?_
  refine ej_aload_n B.1 d_B_make_14 rfl ?_
  refine ej_getr B.1 (er_at B 2 rfl rfl) rfl rfl fl_B_15 d_B_make_15 ?_
  refine ej_iload B.1 d_B_make_18 rfl ?_
  refine ej_iload_n B.1 d_B_make_20 rfl ?_
  obtain ⟨e3, h⟩ := er_gd_some h
  refine ej_iast B.1 (er_at B 17 rfl rfl) rfl e3 d_B_make_21 ?_
  refine ej_aload_n B.1 d_B_make_22 rfl ?_
  refine ej_getr B.1 (er_at B 2 rfl rfl) rfl rfl fl_B_19 d_B_make_23 ?_
  refine ej_iload B.1 d_B_make_26 rfl ?_
  refine ej_iload_n B.1 d_B_make_28 rfl ?_
  obtain ⟨e4, h⟩ := er_gd_some h
  refine ej_iast B.1 (er_at B 18 rfl rfl) rfl e4 d_B_make_29 ?_
  refine ej_aload_n B.1 d_B_make_30 rfl ?_
  refine ej_getr B.1 (er_at B 2 rfl rfl) rfl rfl fl_B_22 d_B_make_31 ?_
  refine ej_iload B.1 d_B_make_34 rfl ?_
  refine ej_iload_n B.1 d_B_make_36 rfl ?_
  obtain ⟨e5, h⟩ := er_gd_some h
  refine ej_iast B.1 (er_at B 19 rfl rfl) rfl e5 d_B_make_37 ?_
  refine ej_aload_n B.1 d_B_make_38 rfl ?_
  refine ej_dup B.1 d_B_make_39 rfl ?_
  refine ej_geti B.1 (er_at B 2 rfl rfl) rfl rfl fl_B_28 d_B_make_40 ?_
  refine ej_iconst B.1 (v := 1) d_B_make_43 rfl ?_
  refine ej_iadd B.1 d_B_make_44 ?_
  refine ej_puti B.1 (er_at B 2 rfl rfl) rfl rfl fp_B_28 d_B_make_45 ?_
  refine ej_iload B.1 d_B_make_48 rfl ?_
  cases h
  exact ej_iret B.1 B.2.1 B.2.2.1 (Nat.zero_le _) (Nat.zero_le _) d_B_make_50
set_option maxRecDepth 100000 in
set_option maxHeartbeats 4000000 in
theorem ec_E_board {l : Launch} {G : er_G} (hl : l.stackTraces = false) (hE : er_Pr G 0 21) (x1 x2 x3 : Int32) (σ : er_S) (r : (Int32 ⊕ Nat) × er_S) (h : ef_E_board x1 x2 x3 σ = some r) : er_Con l y_E_board w_E_board 7 105 (er_nc r.1) (er_ns r.1) G [.ref 0, .int x1, .int x2, .int x3] σ (er_cvi r) := by
  refine er_ofJ (ret := some .int) (cc := b_E_board) (maxL := 4) (lv0 := [some (.ref 0), some (.int x1), some (.int x2), some (.int x3)]) (hh := []) (by decide +kernel) rfl (Or.inl rfl) (by intro v hv; simp only [List.mem_cons, List.not_mem_nil, or_false] at hv; rcases hv with rfl | rfl | rfl | rfl <;> rfl) (Nat.le_of_ble_eq_true rfl) ?_
  intro p e s m args below meth c hadm C hr hlk hml hw hnm hm hcd
  have B : er_B p s m c meth b_E_board "EntryRows" G (some .int) 4 0 21 := ⟨C, hr, hlk, hml, hE, er_noh hw hnm hm hcd⟩
  have hl := And.intro hadm hl
  unfold ef_E_board at h
  refine ej_iload_n B.1 d_E_board_0 rfl ?_
  refine ej_iconst B.1 (v := 1) d_E_board_1 rfl ?_
  refine ej_bipush B.1 (v := 6) d_E_board_2 (by decide +kernel) ?_
  rcases er_tb_some h with ⟨v1, g3, e2, h⟩ | ⟨k18, g3, e2, h⟩
  · refine ej_cs_v (nc := 0) (ns := 0) B.1 [.int x1, .int 1, .int 6] [] (ec_E_requireRange hl.2 (er_pr B) x1 1 6 σ (.inl v1, g3) e2) cal_E_requireRange lk_E_46 st_E_requireRange rfl B.2.2.2.1 d_E_board_4 ⟨Nat.le_of_ble_eq_true rfl, Nat.le_of_ble_eq_true rfl, Nat.zero_le _, Nat.zero_le _⟩ (Nat.le_of_ble_eq_true rfl) rfl ?_
    refine ej_iload_n B.1 d_E_board_7 rfl ?_
    refine ej_iconst B.1 (v := 1) d_E_board_8 rfl ?_
    refine ej_sipush B.1 (v := 10000) d_E_board_9 (by decide +kernel) ?_
    rcases er_tb_some h with ⟨v4, g6, e5, h⟩ | ⟨k17, g6, e5, h⟩
    · refine ej_cs_v (nc := 0) (ns := 0) B.1 [.int x2, .int 1, .int 10000] [] (ec_E_requireRange hl.2 (er_pr B) x2 1 10000 g3 (.inl v4, g6) e5) cal_E_requireRange lk_E_46 st_E_requireRange rfl B.2.2.2.1 d_E_board_12 ⟨Nat.le_of_ble_eq_true rfl, Nat.le_of_ble_eq_true rfl, Nat.zero_le _, Nat.zero_le _⟩ (Nat.le_of_ble_eq_true rfl) rfl ?_
      refine ej_iload_n B.1 d_E_board_15 rfl ?_
      refine ej_iconst B.1 (v := 0) d_E_board_16 rfl ?_
      refine ej_iconst B.1 (v := 3) d_E_board_17 rfl ?_
      rcases er_tb_some h with ⟨v7, g9, e8, h⟩ | ⟨k16, g9, e8, h⟩
      · refine ej_cs_v (nc := 0) (ns := 0) B.1 [.int x3, .int 0, .int 3] [] (ec_E_requireRange hl.2 (er_pr B) x3 0 3 g6 (.inl v7, g9) e8) cal_E_requireRange lk_E_46 st_E_requireRange rfl B.2.2.2.1 d_E_board_18 ⟨Nat.le_of_ble_eq_true rfl, Nat.le_of_ble_eq_true rfl, Nat.zero_le _, Nat.zero_le _⟩ (Nat.le_of_ble_eq_true rfl) rfl ?_
        refine ej_aload_n B.1 d_E_board_21 rfl ?_
        refine ej_getr B.1 (er_at B 0 rfl rfl) rfl rfl fl_E_19 d_E_board_22 ?_
        obtain ⟨v10, e11, h⟩ := er_bd_some h
        refine ej_cv_i (nc := 0) (ns := 0) B.1 [] [] (ec_B_hasRoom (er_pr B) g9 v10 e11) cal_B_hasRoom lk_E_50 in_B_hasRoom (er_at B 2 rfl rfl) rfl rfl se_B_hasRoom rfl B.2.2.2.1 d_E_board_25 ⟨Nat.le_of_ble_eq_true rfl, Nat.le_of_ble_eq_true rfl, Nat.zero_le _, Nat.zero_le _⟩ (Nat.le_of_ble_eq_true rfl) rfl ?_
        refine ej_if_ne B.1 (tgt := 41) d_E_board_28 (by decide) (fun q12 => ?_) (fun q12 => ?_)
        · replace h := er_if h q12
          refine ej_aload_n B.1 d_E_board_41 rfl ?_
          refine ej_getr B.1 (er_at B 0 rfl rfl) rfl rfl fl_E_19 d_E_board_42 ?_
          refine ej_iload_n B.1 d_E_board_45 rfl ?_
          refine ej_iload_n B.1 d_E_board_46 rfl ?_
          refine ej_iload_n B.1 d_E_board_47 rfl ?_
          obtain ⟨v13, g15, e14, h⟩ := er_bw_some h
          refine ej_cv_i (nc := 0) (ns := 0) B.1 [.int x1, .int x2, .int x3] [] (ec_B_make (er_pr B) x1 x2 x3 g9 (v13, g15) e14) cal_B_make lk_E_61 in_B_make (er_at B 2 rfl rfl) rfl rfl se_B_make rfl B.2.2.2.1 d_E_board_48 ⟨Nat.le_of_ble_eq_true rfl, Nat.le_of_ble_eq_true rfl, Nat.zero_le _, Nat.zero_le _⟩ (Nat.le_of_ble_eq_true rfl) rfl ?_
          cases h
          exact ej_iret B.1 B.2.1 B.2.2.1 (Nat.zero_le _) (Nat.zero_le _) d_E_board_51
        · replace h := er_it h q12
          cases h
          exact th_E_board_31 B hl
      · subst h
        exact ej_cs_t (nc := 1) (ns := 6) B.1 [.int x3, .int 0, .int 3] [] (ec_E_requireRange hl.2 (er_pr B) x3 0 3 g6 (.inr k16, g9) e8) cal_E_requireRange lk_E_46 st_E_requireRange rfl B.2.2.2.1 d_E_board_18 ⟨Nat.le_of_ble_eq_true rfl, Nat.le_of_ble_eq_true rfl, Nat.le_of_ble_eq_true rfl, Nat.le_of_ble_eq_true rfl⟩ (Nat.le_of_ble_eq_true rfl) rfl B.2.2.1 (B.2.2.2.2.2 _) ⟨Nat.le_of_ble_eq_true rfl, Nat.le_of_ble_eq_true rfl⟩
    · subst h
      exact ej_cs_t (nc := 1) (ns := 6) B.1 [.int x2, .int 1, .int 10000] [] (ec_E_requireRange hl.2 (er_pr B) x2 1 10000 g3 (.inr k17, g6) e5) cal_E_requireRange lk_E_46 st_E_requireRange rfl B.2.2.2.1 d_E_board_12 ⟨Nat.le_of_ble_eq_true rfl, Nat.le_of_ble_eq_true rfl, Nat.le_of_ble_eq_true rfl, Nat.le_of_ble_eq_true rfl⟩ (Nat.le_of_ble_eq_true rfl) rfl B.2.2.1 (B.2.2.2.2.2 _) ⟨Nat.le_of_ble_eq_true rfl, Nat.le_of_ble_eq_true rfl⟩
  · subst h
    exact ej_cs_t (nc := 1) (ns := 6) B.1 [.int x1, .int 1, .int 6] [] (ec_E_requireRange hl.2 (er_pr B) x1 1 6 σ (.inr k18, g3) e2) cal_E_requireRange lk_E_46 st_E_requireRange rfl B.2.2.2.1 d_E_board_4 ⟨Nat.le_of_ble_eq_true rfl, Nat.le_of_ble_eq_true rfl, Nat.le_of_ble_eq_true rfl, Nat.le_of_ble_eq_true rfl⟩ (Nat.le_of_ble_eq_true rfl) rfl B.2.2.1 (B.2.2.2.2.2 _) ⟨Nat.le_of_ble_eq_true rfl, Nat.le_of_ble_eq_true rfl⟩
set_option maxRecDepth 100000 in
set_option maxHeartbeats 4000000 in
theorem ew_B_has_17 {p : Program} {l : Launch} {e : Env} {s : State} {m : MethodId} {args : Array Value} {below : List Frame} {meth : Method} {c : Code} {G : er_G} (B : er_B p s m c meth b_B_has "EntryRows$Boards" G (some .boolean) 2 0 21) (t0 : Int32) (σ : er_S) (r : Int32) (h : ef_B_has_17 t0 σ = some r) : er_J p l e { frames := 0, cells := 0, slots := 0, locals := 0 } s m args below meth c G (er_A G s.heap.size) s.heap (er_fin below G s 0 0 (.inl (some (.int r)), σ)) 0 0 σ 17 [none, none] [.int t0] := by
  unfold ef_B_has_17 at h
  obtain ⟨e2, h⟩ := er_gd_some h
  cases h
  exact ej_zret B.1 B.2.1 B.2.2.1 (Nat.zero_le _) (Nat.zero_le _) e2 d_B_has_17
set_option maxRecDepth 100000 in
set_option maxHeartbeats 4000000 in
theorem ew_B_has_16 {p : Program} {l : Launch} {e : Env} {s : State} {m : MethodId} {args : Array Value} {below : List Frame} {meth : Method} {c : Code} {G : er_G} (B : er_B p s m c meth b_B_has "EntryRows$Boards" G (some .boolean) 2 0 21) (σ : er_S) (r : Int32) (h : ef_B_has_16  σ = some r) : er_J p l e { frames := 0, cells := 0, slots := 0, locals := 0 } s m args below meth c G (er_A G s.heap.size) s.heap (er_fin below G s 0 0 (.inl (some (.int r)), σ)) 0 0 σ 16 [none, none] [] := by
  unfold ef_B_has_16 at h
  refine ej_iconst B.1 (v := 0) d_B_has_16 rfl ?_
  exact ej_le (lv' := [none, none]) trivial (ew_B_has_17 B 0 σ _ h)
set_option maxRecDepth 100000 in
set_option maxHeartbeats 4000000 in
theorem ec_B_has {l : Launch} {G : er_G} (hE : er_Pr G 0 21) (x1 : Int32) (σ : er_S) (r : Int32) (h : ef_B_has x1 σ = some r) : er_Con l y_B_has w_B_has 0 0 0 0 G [.ref 2, .int x1] σ ((.inl (some (.int r)), σ)) := by
  refine er_ofJ (ret := some .boolean) (cc := b_B_has) (maxL := 2) (lv0 := [some (.ref 2), some (.int x1)]) (hh := []) (by decide +kernel) rfl (Or.inl rfl) (by intro v hv; simp only [List.mem_cons, List.not_mem_nil, or_false] at hv; rcases hv with rfl | rfl <;> rfl) (Nat.le_of_ble_eq_true rfl) ?_
  intro p e s m args below meth c hadm C hr hlk hml hw hnm hm hcd
  have B : er_B p s m c meth b_B_has "EntryRows$Boards" G (some .boolean) 2 0 21 := ⟨C, hr, hlk, hml, hE, er_noh hw hnm hm hcd⟩
  unfold ef_B_has at h
  refine ej_iload_n B.1 d_B_has_0 rfl ?_
  refine ej_if_lt B.1 (tgt := 16) d_B_has_1 (by decide) (fun q1 => ?_) (fun q1 => ?_)
  · replace h := er_it h q1
    exact ej_le (lv' := [none, none]) trivial (ew_B_has_16 B σ _ h)
  · replace h := er_if h q1
    refine ej_iload_n B.1 d_B_has_4 rfl ?_
    refine ej_aload_n B.1 d_B_has_5 rfl ?_
    refine ej_geti B.1 (er_at B 2 rfl rfl) rfl rfl fl_B_28 d_B_has_6 ?_
    refine ej_icmp_ge B.1 (tgt := 16) d_B_has_9 (by decide) (fun q3 => ?_) (fun q3 => ?_)
    · replace h := er_it h q3
      exact ej_le (lv' := [none, none]) trivial (ew_B_has_16 B σ _ h)
    · replace h := er_if h q3
      refine ej_iconst B.1 (v := 1) d_B_has_12 rfl ?_
      refine ej_goto B.1 (tgt := 17) d_B_has_13 (by decide) ?_
      exact ej_le (lv' := [none, none]) trivial (ew_B_has_17 B 1 σ _ h)
set_option maxRecDepth 100000 in
set_option maxHeartbeats 4000000 in
theorem ec_E_requireKnown {l : Launch} {G : er_G} (hl : l.stackTraces = false) (hE : er_Pr G 0 21) (x0 : Int32) (σ : er_S) (r : (Unit ⊕ Nat) × er_S) (h : ef_E_requireKnown x0 σ = some r) : er_Con l y_E_requireKnown w_E_requireKnown 6 83 (er_nc r.1) (er_ns r.1) G [.int x0] σ (er_cvu r) := by
  refine er_ofJ (ret := none) (cc := b_E_requireKnown) (maxL := 1) (lv0 := [some (.int x0)]) (hh := []) (by decide +kernel) rfl (Or.inl rfl) (by intro v hv; simp only [List.mem_cons, List.not_mem_nil, or_false] at hv; rcases hv with rfl <;> rfl) (Nat.le_of_ble_eq_true rfl) ?_
  intro p e s m args below meth c hadm C hr hlk hml hw hnm hm hcd
  have B : er_B p s m c meth b_E_requireKnown "EntryRows" G (none) 1 0 21 := ⟨C, hr, hlk, hml, hE, er_noh hw hnm hm hcd⟩
  have hl := And.intro hadm hl
  unfold ef_E_requireKnown at h
  refine ej_iload_n B.1 d_E_requireKnown_0 rfl ?_
  refine ej_if_ne B.1 (tgt := 14) d_E_requireKnown_1 (by decide) (fun q1 => ?_) (fun q1 => ?_)
  · replace h := er_if h q1
    cases h
    exact ej_vret B.1 B.2.1 B.2.2.1 (Nat.zero_le _) (Nat.zero_le _) d_E_requireKnown_14
  · replace h := er_it h q1
    cases h
    exact th_E_requireKnown_4 B hl
set_option maxRecDepth 100000 in
set_option maxHeartbeats 4000000 in
theorem ec_E_requireBoard {l : Launch} {G : er_G} (hl : l.stackTraces = false) (hE : er_Pr G 0 21) (x1 : Int32) (σ : er_S) (r : (Unit ⊕ Nat) × er_S) (h : ef_E_requireBoard x1 σ = some r) : er_Con l y_E_requireBoard w_E_requireBoard 7 103 (er_nc r.1) (er_ns r.1) G [.ref 0, .int x1] σ (er_cvu r) := by
  refine er_ofJ (ret := none) (cc := b_E_requireBoard) (maxL := 2) (lv0 := [some (.ref 0), some (.int x1)]) (hh := []) (by decide +kernel) rfl (Or.inl rfl) (by intro v hv; simp only [List.mem_cons, List.not_mem_nil, or_false] at hv; rcases hv with rfl | rfl <;> rfl) (Nat.le_of_ble_eq_true rfl) ?_
  intro p e s m args below meth c hadm C hr hlk hml hw hnm hm hcd
  have B : er_B p s m c meth b_E_requireBoard "EntryRows" G (none) 2 0 21 := ⟨C, hr, hlk, hml, hE, er_noh hw hnm hm hcd⟩
  have hl := And.intro hadm hl
  unfold ef_E_requireBoard at h
  refine ej_aload_n B.1 d_E_requireBoard_0 rfl ?_
  refine ej_getr B.1 (er_at B 0 rfl rfl) rfl rfl fl_E_19 d_E_requireBoard_1 ?_
  refine ej_iload_n B.1 d_E_requireBoard_4 rfl ?_
  obtain ⟨v1, e2, h⟩ := er_bd_some h
  refine ej_cv_i (nc := 0) (ns := 0) B.1 [.int x1] [] (ec_B_has (er_pr B) x1 σ v1 e2) cal_B_has lk_E_211 in_B_has (er_at B 2 rfl rfl) rfl rfl se_B_has rfl B.2.2.2.1 d_E_requireBoard_5 ⟨Nat.le_of_ble_eq_true rfl, Nat.le_of_ble_eq_true rfl, Nat.zero_le _, Nat.zero_le _⟩ (Nat.le_of_ble_eq_true rfl) rfl ?_
  rcases er_tb_some h with ⟨v3, g5, e4, h⟩ | ⟨k6, g5, e4, h⟩
  · refine ej_cs_v (nc := 0) (ns := 0) B.1 [.int v1] [] (ec_E_requireKnown hl.2 (er_pr B) v1 σ (.inl v3, g5) e4) cal_E_requireKnown lk_E_99 st_E_requireKnown rfl B.2.2.2.1 d_E_requireBoard_8 ⟨Nat.le_of_ble_eq_true rfl, Nat.le_of_ble_eq_true rfl, Nat.zero_le _, Nat.zero_le _⟩ (Nat.le_of_ble_eq_true rfl) rfl ?_
    cases h
    exact ej_vret B.1 B.2.1 B.2.2.1 (Nat.zero_le _) (Nat.zero_le _) d_E_requireBoard_11
  · subst h
    exact ej_cs_t (nc := 1) (ns := 6) B.1 [.int v1] [] (ec_E_requireKnown hl.2 (er_pr B) v1 σ (.inr k6, g5) e4) cal_E_requireKnown lk_E_99 st_E_requireKnown rfl B.2.2.2.1 d_E_requireBoard_8 ⟨Nat.le_of_ble_eq_true rfl, Nat.le_of_ble_eq_true rfl, Nat.le_of_ble_eq_true rfl, Nat.le_of_ble_eq_true rfl⟩ (Nat.le_of_ble_eq_true rfl) rfl B.2.2.1 (B.2.2.2.2.2 _) ⟨Nat.le_of_ble_eq_true rfl, Nat.le_of_ble_eq_true rfl⟩
set_option maxRecDepth 100000 in
set_option maxHeartbeats 4000000 in
theorem ew_E_isPerson_15 {p : Program} {l : Launch} {e : Env} {s : State} {m : MethodId} {args : Array Value} {below : List Frame} {meth : Method} {c : Code} {G : er_G} (B : er_B p s m c meth b_E_isPerson "EntryRows" G (some .boolean) 1 0 21) (t0 : Int32) (σ : er_S) (r : Int32) (h : ef_E_isPerson_15 t0 σ = some r) : er_J p l e { frames := 0, cells := 0, slots := 0, locals := 0 } s m args below meth c G (er_A G s.heap.size) s.heap (er_fin below G s 0 0 (.inl (some (.int r)), σ)) 0 0 σ 15 [none] [.int t0] := by
  unfold ef_E_isPerson_15 at h
  obtain ⟨e2, h⟩ := er_gd_some h
  cases h
  exact ej_zret B.1 B.2.1 B.2.2.1 (Nat.zero_le _) (Nat.zero_le _) e2 d_E_isPerson_15
set_option maxRecDepth 100000 in
set_option maxHeartbeats 4000000 in
theorem ew_E_isPerson_14 {p : Program} {l : Launch} {e : Env} {s : State} {m : MethodId} {args : Array Value} {below : List Frame} {meth : Method} {c : Code} {G : er_G} (B : er_B p s m c meth b_E_isPerson "EntryRows" G (some .boolean) 1 0 21) (σ : er_S) (r : Int32) (h : ef_E_isPerson_14  σ = some r) : er_J p l e { frames := 0, cells := 0, slots := 0, locals := 0 } s m args below meth c G (er_A G s.heap.size) s.heap (er_fin below G s 0 0 (.inl (some (.int r)), σ)) 0 0 σ 14 [none] [] := by
  unfold ef_E_isPerson_14 at h
  refine ej_iconst B.1 (v := 0) d_E_isPerson_14 rfl ?_
  exact ej_le (lv' := [none]) trivial (ew_E_isPerson_15 B 0 σ _ h)
set_option maxRecDepth 100000 in
set_option maxHeartbeats 4000000 in
theorem ec_E_isPerson {l : Launch} {G : er_G} (hE : er_Pr G 0 21) (x0 : Int32) (σ : er_S) (r : Int32) (h : ef_E_isPerson x0 σ = some r) : er_Con l y_E_isPerson w_E_isPerson 0 0 0 0 G [.int x0] σ ((.inl (some (.int r)), σ)) := by
  refine er_ofJ (ret := some .boolean) (cc := b_E_isPerson) (maxL := 1) (lv0 := [some (.int x0)]) (hh := []) (by decide +kernel) rfl (Or.inl rfl) (by intro v hv; simp only [List.mem_cons, List.not_mem_nil, or_false] at hv; rcases hv with rfl <;> rfl) (Nat.le_of_ble_eq_true rfl) ?_
  intro p e s m args below meth c hadm C hr hlk hml hw hnm hm hcd
  have B : er_B p s m c meth b_E_isPerson "EntryRows" G (some .boolean) 1 0 21 := ⟨C, hr, hlk, hml, hE, er_noh hw hnm hm hcd⟩
  unfold ef_E_isPerson at h
  refine ej_iload_n B.1 d_E_isPerson_0 rfl ?_
  refine ej_if_lt B.1 (tgt := 14) d_E_isPerson_1 (by decide) (fun q1 => ?_) (fun q1 => ?_)
  · replace h := er_it h q1
    exact ej_le (lv' := [none]) trivial (ew_E_isPerson_14 B σ _ h)
  · replace h := er_if h q1
    refine ej_iload_n B.1 d_E_isPerson_4 rfl ?_
    refine ej_bipush B.1 (v := 40) d_E_isPerson_5 (by decide +kernel) ?_
    refine ej_icmp_ge B.1 (tgt := 14) d_E_isPerson_7 (by decide) (fun q3 => ?_) (fun q3 => ?_)
    · replace h := er_it h q3
      exact ej_le (lv' := [none]) trivial (ew_E_isPerson_14 B σ _ h)
    · replace h := er_if h q3
      refine ej_iconst B.1 (v := 1) d_E_isPerson_10 rfl ?_
      refine ej_goto B.1 (tgt := 15) d_E_isPerson_11 (by decide) ?_
      exact ej_le (lv' := [none]) trivial (ew_E_isPerson_15 B 1 σ _ h)
set_option maxRecDepth 100000 in
set_option maxHeartbeats 4000000 in
theorem ec_E_requirePerson {l : Launch} {G : er_G} (hl : l.stackTraces = false) (hE : er_Pr G 0 21) (x0 : Int32) (σ : er_S) (r : (Unit ⊕ Nat) × er_S) (h : ef_E_requirePerson x0 σ = some r) : er_Con l y_E_requirePerson w_E_requirePerson 7 103 (er_nc r.1) (er_ns r.1) G [.int x0] σ (er_cvu r) := by
  refine er_ofJ (ret := none) (cc := b_E_requirePerson) (maxL := 1) (lv0 := [some (.int x0)]) (hh := []) (by decide +kernel) rfl (Or.inl rfl) (by intro v hv; simp only [List.mem_cons, List.not_mem_nil, or_false] at hv; rcases hv with rfl <;> rfl) (Nat.le_of_ble_eq_true rfl) ?_
  intro p e s m args below meth c hadm C hr hlk hml hw hnm hm hcd
  have B : er_B p s m c meth b_E_requirePerson "EntryRows" G (none) 1 0 21 := ⟨C, hr, hlk, hml, hE, er_noh hw hnm hm hcd⟩
  have hl := And.intro hadm hl
  unfold ef_E_requirePerson at h
  refine ej_iload_n B.1 d_E_requirePerson_0 rfl ?_
  obtain ⟨v1, e2, h⟩ := er_bd_some h
  refine ej_cs_i (nc := 0) (ns := 0) B.1 [.int x0] [] (ec_E_isPerson (er_pr B) x0 σ v1 e2) cal_E_isPerson lk_E_173 st_E_isPerson rfl B.2.2.2.1 d_E_requirePerson_1 ⟨Nat.le_of_ble_eq_true rfl, Nat.le_of_ble_eq_true rfl, Nat.zero_le _, Nat.zero_le _⟩ (Nat.le_of_ble_eq_true rfl) rfl ?_
  rcases er_tb_some h with ⟨v3, g5, e4, h⟩ | ⟨k6, g5, e4, h⟩
  · refine ej_cs_v (nc := 0) (ns := 0) B.1 [.int v1] [] (ec_E_requireKnown hl.2 (er_pr B) v1 σ (.inl v3, g5) e4) cal_E_requireKnown lk_E_99 st_E_requireKnown rfl B.2.2.2.1 d_E_requirePerson_4 ⟨Nat.le_of_ble_eq_true rfl, Nat.le_of_ble_eq_true rfl, Nat.zero_le _, Nat.zero_le _⟩ (Nat.le_of_ble_eq_true rfl) rfl ?_
    cases h
    exact ej_vret B.1 B.2.1 B.2.2.1 (Nat.zero_le _) (Nat.zero_le _) d_E_requirePerson_7
  · subst h
    exact ej_cs_t (nc := 1) (ns := 6) B.1 [.int v1] [] (ec_E_requireKnown hl.2 (er_pr B) v1 σ (.inr k6, g5) e4) cal_E_requireKnown lk_E_99 st_E_requireKnown rfl B.2.2.2.1 d_E_requirePerson_4 ⟨Nat.le_of_ble_eq_true rfl, Nat.le_of_ble_eq_true rfl, Nat.le_of_ble_eq_true rfl, Nat.le_of_ble_eq_true rfl⟩ (Nat.le_of_ble_eq_true rfl) rfl B.2.2.1 (B.2.2.2.2.2 _) ⟨Nat.le_of_ble_eq_true rfl, Nat.le_of_ble_eq_true rfl⟩
set_option maxRecDepth 100000 in
set_option maxHeartbeats 4000000 in
theorem ec_E_requireState {l : Launch} {G : er_G} (hl : l.stackTraces = false) (hE : er_Pr G 0 21) (x0 : Int32) (σ : er_S) (r : (Unit ⊕ Nat) × er_S) (h : ef_E_requireState x0 σ = some r) : er_Con l y_E_requireState w_E_requireState 6 83 (er_nc r.1) (er_ns r.1) G [.int x0] σ (er_cvu r) := by
  refine er_ofJ (ret := none) (cc := b_E_requireState) (maxL := 1) (lv0 := [some (.int x0)]) (hh := []) (by decide +kernel) rfl (Or.inl rfl) (by intro v hv; simp only [List.mem_cons, List.not_mem_nil, or_false] at hv; rcases hv with rfl <;> rfl) (Nat.le_of_ble_eq_true rfl) ?_
  intro p e s m args below meth c hadm C hr hlk hml hw hnm hm hcd
  have B : er_B p s m c meth b_E_requireState "EntryRows" G (none) 1 0 21 := ⟨C, hr, hlk, hml, hE, er_noh hw hnm hm hcd⟩
  have hl := And.intro hadm hl
  unfold ef_E_requireState at h
  refine ej_iload_n B.1 d_E_requireState_0 rfl ?_
  refine ej_if_ne B.1 (tgt := 14) d_E_requireState_1 (by decide) (fun q1 => ?_) (fun q1 => ?_)
  · replace h := er_if h q1
    cases h
    exact ej_vret B.1 B.2.1 B.2.2.1 (Nat.zero_le _) (Nat.zero_le _) d_E_requireState_14
  · replace h := er_it h q1
    cases h
    exact th_E_requireState_4 B hl
set_option maxRecDepth 100000 in
set_option maxHeartbeats 4000000 in
theorem ec_E_requireOpen {l : Launch} {G : er_G} (hl : l.stackTraces = false) (hE : er_Pr G 0 21) (x1 : Int32) (σ : er_S) (r : (Unit ⊕ Nat) × er_S) (h : ef_E_requireOpen x1 σ = some r) : er_Con l y_E_requireOpen w_E_requireOpen 7 103 (er_nc r.1) (er_ns r.1) G [.ref 0, .int x1] σ (er_cvu r) := by
  refine er_ofJ (ret := none) (cc := b_E_requireOpen) (maxL := 2) (lv0 := [some (.ref 0), some (.int x1)]) (hh := []) (by decide +kernel) rfl (Or.inl rfl) (by intro v hv; simp only [List.mem_cons, List.not_mem_nil, or_false] at hv; rcases hv with rfl | rfl <;> rfl) (Nat.le_of_ble_eq_true rfl) ?_
  intro p e s m args below meth c hadm C hr hlk hml hw hnm hm hcd
  have B : er_B p s m c meth b_E_requireOpen "EntryRows" G (none) 2 0 21 := ⟨C, hr, hlk, hml, hE, er_noh hw hnm hm hcd⟩
  have hl := And.intro hadm hl
  unfold ef_E_requireOpen at h
  refine ej_aload_n B.1 d_E_requireOpen_0 rfl ?_
  refine ej_getr B.1 (er_at B 0 rfl rfl) rfl rfl fl_E_19 d_E_requireOpen_1 ?_
  refine ej_getr B.1 (er_at B 2 rfl rfl) rfl rfl fl_E_196 d_E_requireOpen_4 ?_
  refine ej_iload_n B.1 d_E_requireOpen_7 rfl ?_
  obtain ⟨e1, h⟩ := er_gd_some h
  refine ej_zald B.1 (er_at B 16 rfl rfl) rfl e1 d_E_requireOpen_8 ?_
  rcases er_tb_some h with ⟨v2, g4, e3, h⟩ | ⟨k5, g4, e3, h⟩
  · refine ej_cs_v (nc := 0) (ns := 0) B.1 [.int (σ 16 (er_ix x1))] [] (ec_E_requireState hl.2 (er_pr B) (σ 16 (er_ix x1)) σ (.inl v2, g4) e3) cal_E_requireState lk_E_81 st_E_requireState rfl B.2.2.2.1 d_E_requireOpen_9 ⟨Nat.le_of_ble_eq_true rfl, Nat.le_of_ble_eq_true rfl, Nat.zero_le _, Nat.zero_le _⟩ (Nat.le_of_ble_eq_true rfl) rfl ?_
    cases h
    exact ej_vret B.1 B.2.1 B.2.2.1 (Nat.zero_le _) (Nat.zero_le _) d_E_requireOpen_12
  · subst h
    exact ej_cs_t (nc := 1) (ns := 6) B.1 [.int (σ 16 (er_ix x1))] [] (ec_E_requireState hl.2 (er_pr B) (σ 16 (er_ix x1)) σ (.inr k5, g4) e3) cal_E_requireState lk_E_81 st_E_requireState rfl B.2.2.2.1 d_E_requireOpen_9 ⟨Nat.le_of_ble_eq_true rfl, Nat.le_of_ble_eq_true rfl, Nat.le_of_ble_eq_true rfl, Nat.le_of_ble_eq_true rfl⟩ (Nat.le_of_ble_eq_true rfl) rfl B.2.2.1 (B.2.2.2.2.2 _) ⟨Nat.le_of_ble_eq_true rfl, Nat.le_of_ble_eq_true rfl⟩
set_option maxRecDepth 100000 in
set_option maxHeartbeats 4000000 in
theorem ew_P_isInside_15 {p : Program} {l : Launch} {e : Env} {s : State} {m : MethodId} {args : Array Value} {below : List Frame} {meth : Method} {c : Code} {G : er_G} (B : er_B p s m c meth b_P_isInside "EntryRows$Persons" G (some .boolean) 2 0 21) (t0 : Int32) (σ : er_S) (r : Int32) (h : ef_P_isInside_15 t0 σ = some r) : er_J p l e { frames := 0, cells := 0, slots := 0, locals := 0 } s m args below meth c G (er_A G s.heap.size) s.heap (er_fin below G s 0 0 (.inl (some (.int r)), σ)) 0 0 σ 15 [none, none] [.int t0] := by
  unfold ef_P_isInside_15 at h
  obtain ⟨e3, h⟩ := er_gd_some h
  cases h
  exact ej_zret B.1 B.2.1 B.2.2.1 (Nat.zero_le _) (Nat.zero_le _) e3 d_P_isInside_15
set_option maxRecDepth 100000 in
set_option maxHeartbeats 4000000 in
theorem ec_P_isInside {l : Launch} {G : er_G} (hE : er_Pr G 0 21) (x1 : Int32) (σ : er_S) (r : Int32) (h : ef_P_isInside x1 σ = some r) : er_Con l y_P_isInside w_P_isInside 0 0 0 0 G [.ref 1, .int x1] σ ((.inl (some (.int r)), σ)) := by
  refine er_ofJ (ret := some .boolean) (cc := b_P_isInside) (maxL := 2) (lv0 := [some (.ref 1), some (.int x1)]) (hh := []) (by decide +kernel) rfl (Or.inl rfl) (by intro v hv; simp only [List.mem_cons, List.not_mem_nil, or_false] at hv; rcases hv with rfl | rfl <;> rfl) (Nat.le_of_ble_eq_true rfl) ?_
  intro p e s m args below meth c hadm C hr hlk hml hw hnm hm hcd
  have B : er_B p s m c meth b_P_isInside "EntryRows$Persons" G (some .boolean) 2 0 21 := ⟨C, hr, hlk, hml, hE, er_noh hw hnm hm hcd⟩
  unfold ef_P_isInside at h
  refine ej_aload_n B.1 d_P_isInside_0 rfl ?_
  refine ej_getr B.1 (er_at B 1 rfl rfl) rfl rfl fl_P_9 d_P_isInside_1 ?_
  refine ej_iload_n B.1 d_P_isInside_4 rfl ?_
  obtain ⟨e1, h⟩ := er_gd_some h
  refine ej_iald B.1 (er_at B 5 rfl rfl) rfl e1 d_P_isInside_5 ?_
  refine ej_iconst B.1 (v := (-1)) d_P_isInside_6 rfl ?_
  refine ej_icmp_eq B.1 (tgt := 14) d_P_isInside_7 (by decide) (fun q2 => ?_) (fun q2 => ?_)
  · replace h := er_it h q2
    refine ej_iconst B.1 (v := 0) d_P_isInside_14 rfl ?_
    exact ej_le (lv' := [none, none]) trivial (ew_P_isInside_15 B 0 σ _ h)
  · replace h := er_if h q2
    refine ej_iconst B.1 (v := 1) d_P_isInside_10 rfl ?_
    refine ej_goto B.1 (tgt := 15) d_P_isInside_11 (by decide) ?_
    exact ej_le (lv' := [none, none]) trivial (ew_P_isInside_15 B 1 σ _ h)
set_option maxRecDepth 100000 in
set_option maxHeartbeats 4000000 in
theorem ew_E_requireOutside_16 {p : Program} {l : Launch} {e : Env} {s : State} {m : MethodId} {args : Array Value} {below : List Frame} {meth : Method} {c : Code} {G : er_G} (hl : l.admits e ∧ l.stackTraces = false) (B : er_B p s m c meth b_E_requireOutside "EntryRows" G (none) 2 0 21) (t0 : Int32) (σ : er_S) (r : (Unit ⊕ Nat) × er_S) (h : ef_E_requireOutside_16 t0 σ = some r) : er_J p l e { frames := 7, cells := er_nc r.1, slots := er_ns r.1, locals := 103 } s m args below meth c G (er_A G s.heap.size) s.heap (er_fin below G s (er_nc r.1) (er_ns r.1) (er_cvu r)) 0 0 σ 16 [none, none] [.int t0] := by
  unfold ef_E_requireOutside_16 at h
  rcases er_tb_some h with ⟨v4, g6, e5, h⟩ | ⟨k7, g6, e5, h⟩
  · refine ej_cs_v (nc := 0) (ns := 0) B.1 [.int t0] [] (ec_E_requireState hl.2 (er_pr B) t0 σ (.inl v4, g6) e5) cal_E_requireState lk_E_81 st_E_requireState rfl B.2.2.2.1 d_E_requireOutside_16 ⟨Nat.le_of_ble_eq_true rfl, Nat.le_of_ble_eq_true rfl, Nat.zero_le _, Nat.zero_le _⟩ (Nat.le_of_ble_eq_true rfl) rfl ?_
    cases h
    exact ej_vret B.1 B.2.1 B.2.2.1 (Nat.zero_le _) (Nat.zero_le _) d_E_requireOutside_19
  · subst h
    exact ej_cs_t (nc := 1) (ns := 6) B.1 [.int t0] [] (ec_E_requireState hl.2 (er_pr B) t0 σ (.inr k7, g6) e5) cal_E_requireState lk_E_81 st_E_requireState rfl B.2.2.2.1 d_E_requireOutside_16 ⟨Nat.le_of_ble_eq_true rfl, Nat.le_of_ble_eq_true rfl, Nat.le_of_ble_eq_true rfl, Nat.le_of_ble_eq_true rfl⟩ (Nat.le_of_ble_eq_true rfl) rfl B.2.2.1 (B.2.2.2.2.2 _) ⟨Nat.le_of_ble_eq_true rfl, Nat.le_of_ble_eq_true rfl⟩
set_option maxRecDepth 100000 in
set_option maxHeartbeats 4000000 in
theorem ec_E_requireOutside {l : Launch} {G : er_G} (hl : l.stackTraces = false) (hE : er_Pr G 0 21) (x1 : Int32) (σ : er_S) (r : (Unit ⊕ Nat) × er_S) (h : ef_E_requireOutside x1 σ = some r) : er_Con l y_E_requireOutside w_E_requireOutside 7 103 (er_nc r.1) (er_ns r.1) G [.ref 0, .int x1] σ (er_cvu r) := by
  refine er_ofJ (ret := none) (cc := b_E_requireOutside) (maxL := 2) (lv0 := [some (.ref 0), some (.int x1)]) (hh := []) (by decide +kernel) rfl (Or.inl rfl) (by intro v hv; simp only [List.mem_cons, List.not_mem_nil, or_false] at hv; rcases hv with rfl | rfl <;> rfl) (Nat.le_of_ble_eq_true rfl) ?_
  intro p e s m args below meth c hadm C hr hlk hml hw hnm hm hcd
  have B : er_B p s m c meth b_E_requireOutside "EntryRows" G (none) 2 0 21 := ⟨C, hr, hlk, hml, hE, er_noh hw hnm hm hcd⟩
  have hl := And.intro hadm hl
  unfold ef_E_requireOutside at h
  refine ej_aload_n B.1 d_E_requireOutside_0 rfl ?_
  refine ej_getr B.1 (er_at B 0 rfl rfl) rfl rfl fl_E_10 d_E_requireOutside_1 ?_
  refine ej_iload_n B.1 d_E_requireOutside_4 rfl ?_
  obtain ⟨v1, e2, h⟩ := er_bd_some h
  refine ej_cv_i (nc := 0) (ns := 0) B.1 [.int x1] [] (ec_P_isInside (er_pr B) x1 σ v1 e2) cal_P_isInside lk_E_142 in_P_isInside (er_at B 1 rfl rfl) rfl rfl se_P_isInside rfl B.2.2.2.1 d_E_requireOutside_5 ⟨Nat.le_of_ble_eq_true rfl, Nat.le_of_ble_eq_true rfl, Nat.zero_le _, Nat.zero_le _⟩ (Nat.le_of_ble_eq_true rfl) rfl ?_
  refine ej_if_ne B.1 (tgt := 15) d_E_requireOutside_8 (by decide) (fun q3 => ?_) (fun q3 => ?_)
  · replace h := er_if h q3
    refine ej_iconst B.1 (v := 0) d_E_requireOutside_15 rfl ?_
    exact ej_le (lv' := [none, none]) trivial (ew_E_requireOutside_16 hl B 0 σ _ h)
  · replace h := er_it h q3
    refine ej_iconst B.1 (v := 1) d_E_requireOutside_11 rfl ?_
    refine ej_goto B.1 (tgt := 16) d_E_requireOutside_12 (by decide) ?_
    exact ej_le (lv' := [none, none]) trivial (ew_E_requireOutside_16 hl B 1 σ _ h)
set_option maxRecDepth 100000 in
set_option maxHeartbeats 4000000 in
theorem ew_E_dropKeeper_27 {p : Program} {l : Launch} {e : Env} {s : State} {m : MethodId} {args : Array Value} {below : List Frame} {meth : Method} {c : Code} {G : er_G} (B : er_B p s m c meth b_E_dropKeeper "EntryRows" G (none) 3 0 21) (x1 : Int32) (σ : er_S) (r : Unit × er_S) (h : ef_E_dropKeeper_27 x1 σ = some r) : er_J p l e { frames := 1, cells := 0, slots := 0, locals := 20 } s m args below meth c G (er_A G s.heap.size) s.heap (er_fin below G s 0 0 (.inl none, r.2)) 0 0 σ 27 [some (.ref 0), some (.int x1), none] [] := by
  unfold ef_E_dropKeeper_27 at h
  refine ej_aload_n B.1 d_E_dropKeeper_27 rfl ?_
  refine ej_getr B.1 (er_at B 0 rfl rfl) rfl rfl fl_E_19 d_E_dropKeeper_28 ?_
  refine ej_getr B.1 (er_at B 2 rfl rfl) rfl rfl fl_E_88 d_E_dropKeeper_31 ?_
  refine ej_iload_n B.1 d_E_dropKeeper_34 rfl ?_
  refine ej_iconst B.1 (v := (-1)) d_E_dropKeeper_35 rfl ?_
  obtain ⟨e5, h⟩ := er_gd_some h
  refine ej_iast B.1 (er_at B 20 rfl rfl) rfl e5 d_E_dropKeeper_36 ?_
  cases h
  exact ej_vret B.1 B.2.1 B.2.2.1 (Nat.zero_le _) (Nat.zero_le _) d_E_dropKeeper_37
set_option maxRecDepth 100000 in
set_option maxHeartbeats 4000000 in
theorem ec_E_dropKeeper {l : Launch} {G : er_G} (hE : er_Pr G 0 21) (x1 : Int32) (σ : er_S) (r : Unit × er_S) (h : ef_E_dropKeeper x1 σ = some r) : er_Con l y_E_dropKeeper w_E_dropKeeper 1 20 0 0 G [.ref 0, .int x1] σ ((.inl none, r.2)) := by
  refine er_ofJ (ret := none) (cc := b_E_dropKeeper) (maxL := 3) (lv0 := [some (.ref 0), some (.int x1), none]) (hh := []) (by decide +kernel) rfl (Or.inl rfl) (by intro v hv; simp only [List.mem_cons, List.not_mem_nil, or_false] at hv; rcases hv with rfl | rfl <;> rfl) (Nat.le_of_ble_eq_true rfl) ?_
  intro p e s m args below meth c hadm C hr hlk hml hw hnm hm hcd
  have B : er_B p s m c meth b_E_dropKeeper "EntryRows" G (none) 3 0 21 := ⟨C, hr, hlk, hml, hE, er_noh hw hnm hm hcd⟩
  unfold ef_E_dropKeeper at h
  refine ej_aload_n B.1 d_E_dropKeeper_0 rfl ?_
  refine ej_getr B.1 (er_at B 0 rfl rfl) rfl rfl fl_E_19 d_E_dropKeeper_1 ?_
  refine ej_getr B.1 (er_at B 2 rfl rfl) rfl rfl fl_E_88 d_E_dropKeeper_4 ?_
  refine ej_iload_n B.1 d_E_dropKeeper_7 rfl ?_
  obtain ⟨e1, h⟩ := er_gd_some h
  refine ej_iald B.1 (er_at B 20 rfl rfl) rfl e1 d_E_dropKeeper_8 ?_
  refine ej_istore_n B.1 (lv' := [some (.ref 0), some (.int x1), some (.int (σ 20 (er_ix x1)))]) d_E_dropKeeper_9 rfl rfl rfl ?_
  refine ej_iload_n B.1 d_E_dropKeeper_10 rfl ?_
  obtain ⟨v2, e3, h⟩ := er_bd_some h
  refine ej_cs_i (nc := 0) (ns := 0) B.1 [.int (σ 20 (er_ix x1))] [] (ec_E_isPerson (er_pr B) (σ 20 (er_ix x1)) σ v2 e3) cal_E_isPerson lk_E_173 st_E_isPerson rfl B.2.2.2.1 d_E_dropKeeper_11 ⟨Nat.le_of_ble_eq_true rfl, Nat.le_of_ble_eq_true rfl, Nat.zero_le _, Nat.zero_le _⟩ (Nat.le_of_ble_eq_true rfl) rfl ?_
  refine ej_if_eq B.1 (tgt := 27) d_E_dropKeeper_14 (by decide) (fun q4 => ?_) (fun q4 => ?_)
  · replace h := er_it h q4
    exact ej_le (lv' := [some (.ref 0), some (.int x1), none]) ⟨rfl, ⟨rfl, trivial⟩⟩ (ew_E_dropKeeper_27 B x1 σ _ h)
  · replace h := er_if h q4
    refine ej_aload_n B.1 d_E_dropKeeper_17 rfl ?_
    refine ej_getr B.1 (er_at B 0 rfl rfl) rfl rfl fl_E_10 d_E_dropKeeper_18 ?_
    refine ej_getr B.1 (er_at B 1 rfl rfl) rfl rfl fl_E_78 d_E_dropKeeper_21 ?_
    refine ej_iload_n B.1 d_E_dropKeeper_24 rfl ?_
    refine ej_iconst B.1 (v := (-1)) d_E_dropKeeper_25 rfl ?_
    obtain ⟨e6, h⟩ := er_gd_some h
    refine ej_iast B.1 (er_at B 14 rfl rfl) rfl e6 d_E_dropKeeper_26 ?_
    exact ej_le (lv' := [some (.ref 0), some (.int x1), none]) ⟨rfl, ⟨rfl, trivial⟩⟩ (ew_E_dropKeeper_27 B x1 (er_up σ 14 (er_ix (σ 20 (er_ix x1))) (-1)) _ h)
set_option maxRecDepth 100000 in
set_option maxHeartbeats 4000000 in
theorem ew_E_keep_37 {p : Program} {l : Launch} {e : Env} {s : State} {m : MethodId} {args : Array Value} {below : List Frame} {meth : Method} {c : Code} {G : er_G} (hl : l.admits e ∧ l.stackTraces = false) (B : er_B p s m c meth b_E_keep "EntryRows" G (none) 3 0 21) (x1 x2 t0 : Int32) (σ : er_S) (r : (Unit ⊕ Nat) × er_S) (h : ef_E_keep_37 x1 x2 t0 σ = some r) : er_J p l e { frames := 8, cells := er_nc r.1, slots := er_ns r.1, locals := 124 } s m args below meth c G (er_A G s.heap.size) s.heap (er_fin below G s (er_nc r.1) (er_ns r.1) (er_cvu r)) 0 0 σ 37 [some (.ref 0), some (.int x1), some (.int x2)] [.int t0] := by
  unfold ef_E_keep_37 at h
  rcases er_tb_some h with ⟨v15, g17, e16, h⟩ | ⟨k23, g17, e16, h⟩
  · refine ej_cs_v (nc := 0) (ns := 0) B.1 [.int t0] [] (ec_E_requireState hl.2 (er_pr B) t0 σ (.inl v15, g17) e16) cal_E_requireState lk_E_81 st_E_requireState rfl B.2.2.2.1 d_E_keep_37 ⟨Nat.le_of_ble_eq_true rfl, Nat.le_of_ble_eq_true rfl, Nat.zero_le _, Nat.zero_le _⟩ (Nat.le_of_ble_eq_true rfl) rfl ?_
    refine ej_aload_n B.1 d_E_keep_40 rfl ?_
    refine ej_iload_n B.1 d_E_keep_41 rfl ?_
    obtain ⟨v18, g20, e19, h⟩ := er_bw_some h
    refine ej_cv_v (nc := 0) (ns := 0) B.1 [.int x1] [] (ec_E_dropKeeper (er_pr B) x1 g17 (v18, g20) e19) cal_E_dropKeeper lk_E_85 in_E_dropKeeper (er_at B 0 rfl rfl) rfl rfl se_E_dropKeeper rfl B.2.2.2.1 d_E_keep_42 ⟨Nat.le_of_ble_eq_true rfl, Nat.le_of_ble_eq_true rfl, Nat.zero_le _, Nat.zero_le _⟩ (Nat.le_of_ble_eq_true rfl) rfl ?_
    refine ej_aload_n B.1 d_E_keep_45 rfl ?_
    refine ej_getr B.1 (er_at B 0 rfl rfl) rfl rfl fl_E_19 d_E_keep_46 ?_
    refine ej_getr B.1 (er_at B 2 rfl rfl) rfl rfl fl_E_88 d_E_keep_49 ?_
    refine ej_iload_n B.1 d_E_keep_52 rfl ?_
    refine ej_iload_n B.1 d_E_keep_53 rfl ?_
    obtain ⟨e21, h⟩ := er_gd_some h
    refine ej_iast B.1 (er_at B 20 rfl rfl) rfl e21 d_E_keep_54 ?_
    refine ej_aload_n B.1 d_E_keep_55 rfl ?_
    refine ej_getr B.1 (er_at B 0 rfl rfl) rfl rfl fl_E_10 d_E_keep_56 ?_
    refine ej_getr B.1 (er_at B 1 rfl rfl) rfl rfl fl_E_78 d_E_keep_59 ?_
    refine ej_iload_n B.1 d_E_keep_62 rfl ?_
    refine ej_iload_n B.1 d_E_keep_63 rfl ?_
    obtain ⟨e22, h⟩ := er_gd_some h
    refine ej_iast B.1 (er_at B 14 rfl rfl) rfl e22 d_E_keep_64 ?_
    cases h
    exact ej_vret B.1 B.2.1 B.2.2.1 (Nat.zero_le _) (Nat.zero_le _) d_E_keep_65
  · subst h
    exact ej_cs_t (nc := 1) (ns := 6) B.1 [.int t0] [] (ec_E_requireState hl.2 (er_pr B) t0 σ (.inr k23, g17) e16) cal_E_requireState lk_E_81 st_E_requireState rfl B.2.2.2.1 d_E_keep_37 ⟨Nat.le_of_ble_eq_true rfl, Nat.le_of_ble_eq_true rfl, Nat.le_of_ble_eq_true rfl, Nat.le_of_ble_eq_true rfl⟩ (Nat.le_of_ble_eq_true rfl) rfl B.2.2.1 (B.2.2.2.2.2 _) ⟨Nat.le_of_ble_eq_true rfl, Nat.le_of_ble_eq_true rfl⟩
set_option maxRecDepth 100000 in
set_option maxHeartbeats 4000000 in
theorem ec_E_keep {l : Launch} {G : er_G} (hl : l.stackTraces = false) (hE : er_Pr G 0 21) (x1 x2 : Int32) (σ : er_S) (r : (Unit ⊕ Nat) × er_S) (h : ef_E_keep x1 x2 σ = some r) : er_Con l y_E_keep w_E_keep 8 124 (er_nc r.1) (er_ns r.1) G [.ref 0, .int x1, .int x2] σ (er_cvu r) := by
  refine er_ofJ (ret := none) (cc := b_E_keep) (maxL := 3) (lv0 := [some (.ref 0), some (.int x1), some (.int x2)]) (hh := []) (by decide +kernel) rfl (Or.inl rfl) (by intro v hv; simp only [List.mem_cons, List.not_mem_nil, or_false] at hv; rcases hv with rfl | rfl | rfl <;> rfl) (Nat.le_of_ble_eq_true rfl) ?_
  intro p e s m args below meth c hadm C hr hlk hml hw hnm hm hcd
  have B : er_B p s m c meth b_E_keep "EntryRows" G (none) 3 0 21 := ⟨C, hr, hlk, hml, hE, er_noh hw hnm hm hcd⟩
  have hl := And.intro hadm hl
  unfold ef_E_keep at h
  refine ej_aload_n B.1 d_E_keep_0 rfl ?_
  refine ej_iload_n B.1 d_E_keep_1 rfl ?_
  rcases er_tb_some h with ⟨v1, g3, e2, h⟩ | ⟨k27, g3, e2, h⟩
  · refine ej_cv_v (nc := 0) (ns := 0) B.1 [.int x1] [] (ec_E_requireBoard hl.2 (er_pr B) x1 σ (.inl v1, g3) e2) cal_E_requireBoard lk_E_65 in_E_requireBoard (er_at B 0 rfl rfl) rfl rfl se_E_requireBoard rfl B.2.2.2.1 d_E_keep_2 ⟨Nat.le_of_ble_eq_true rfl, Nat.le_of_ble_eq_true rfl, Nat.zero_le _, Nat.zero_le _⟩ (Nat.le_of_ble_eq_true rfl) rfl ?_
    refine ej_iload_n B.1 d_E_keep_5 rfl ?_
    rcases er_tb_some h with ⟨v4, g6, e5, h⟩ | ⟨k26, g6, e5, h⟩
    · refine ej_cs_v (nc := 0) (ns := 0) B.1 [.int x2] [] (ec_E_requirePerson hl.2 (er_pr B) x2 g3 (.inl v4, g6) e5) cal_E_requirePerson lk_E_69 st_E_requirePerson rfl B.2.2.2.1 d_E_keep_6 ⟨Nat.le_of_ble_eq_true rfl, Nat.le_of_ble_eq_true rfl, Nat.zero_le _, Nat.zero_le _⟩ (Nat.le_of_ble_eq_true rfl) rfl ?_
      refine ej_aload_n B.1 d_E_keep_9 rfl ?_
      refine ej_iload_n B.1 d_E_keep_10 rfl ?_
      rcases er_tb_some h with ⟨v7, g9, e8, h⟩ | ⟨k25, g9, e8, h⟩
      · refine ej_cv_v (nc := 0) (ns := 0) B.1 [.int x1] [] (ec_E_requireOpen hl.2 (er_pr B) x1 g6 (.inl v7, g9) e8) cal_E_requireOpen lk_E_72 in_E_requireOpen (er_at B 0 rfl rfl) rfl rfl se_E_requireOpen rfl B.2.2.2.1 d_E_keep_11 ⟨Nat.le_of_ble_eq_true rfl, Nat.le_of_ble_eq_true rfl, Nat.zero_le _, Nat.zero_le _⟩ (Nat.le_of_ble_eq_true rfl) rfl ?_
        refine ej_aload_n B.1 d_E_keep_14 rfl ?_
        refine ej_iload_n B.1 d_E_keep_15 rfl ?_
        rcases er_tb_some h with ⟨v10, g12, e11, h⟩ | ⟨k24, g12, e11, h⟩
        · refine ej_cv_v (nc := 0) (ns := 0) B.1 [.int x2] [] (ec_E_requireOutside hl.2 (er_pr B) x2 g9 (.inl v10, g12) e11) cal_E_requireOutside lk_E_75 in_E_requireOutside (er_at B 0 rfl rfl) rfl rfl se_E_requireOutside rfl B.2.2.2.1 d_E_keep_16 ⟨Nat.le_of_ble_eq_true rfl, Nat.le_of_ble_eq_true rfl, Nat.zero_le _, Nat.zero_le _⟩ (Nat.le_of_ble_eq_true rfl) rfl ?_
          refine ej_aload_n B.1 d_E_keep_19 rfl ?_
          refine ej_getr B.1 (er_at B 0 rfl rfl) rfl rfl fl_E_10 d_E_keep_20 ?_
          refine ej_getr B.1 (er_at B 1 rfl rfl) rfl rfl fl_E_78 d_E_keep_23 ?_
          refine ej_iload_n B.1 d_E_keep_26 rfl ?_
          obtain ⟨e13, h⟩ := er_gd_some h
          refine ej_iald B.1 (er_at B 14 rfl rfl) rfl e13 d_E_keep_27 ?_
          refine ej_iconst B.1 (v := (-1)) d_E_keep_28 rfl ?_
          refine ej_icmp_ne B.1 (tgt := 36) d_E_keep_29 (by decide) (fun q14 => ?_) (fun q14 => ?_)
          · replace h := er_if h q14
            refine ej_iconst B.1 (v := 0) d_E_keep_36 rfl ?_
            exact ej_le (lv' := [some (.ref 0), some (.int x1), some (.int x2)]) ⟨rfl, ⟨rfl, ⟨rfl, trivial⟩⟩⟩ (ew_E_keep_37 hl B x1 x2 0 g12 _ h)
          · replace h := er_it h q14
            refine ej_iconst B.1 (v := 1) d_E_keep_32 rfl ?_
            refine ej_goto B.1 (tgt := 37) d_E_keep_33 (by decide) ?_
            exact ej_le (lv' := [some (.ref 0), some (.int x1), some (.int x2)]) ⟨rfl, ⟨rfl, ⟨rfl, trivial⟩⟩⟩ (ew_E_keep_37 hl B x1 x2 1 g12 _ h)
        · subst h
          exact ej_cv_t (nc := 1) (ns := 6) B.1 [.int x2] [] (ec_E_requireOutside hl.2 (er_pr B) x2 g9 (.inr k24, g12) e11) cal_E_requireOutside lk_E_75 in_E_requireOutside (er_at B 0 rfl rfl) rfl rfl se_E_requireOutside rfl B.2.2.2.1 d_E_keep_16 ⟨Nat.le_of_ble_eq_true rfl, Nat.le_of_ble_eq_true rfl, Nat.le_of_ble_eq_true rfl, Nat.le_of_ble_eq_true rfl⟩ (Nat.le_of_ble_eq_true rfl) rfl B.2.2.1 (B.2.2.2.2.2 _) ⟨Nat.le_of_ble_eq_true rfl, Nat.le_of_ble_eq_true rfl⟩
      · subst h
        exact ej_cv_t (nc := 1) (ns := 6) B.1 [.int x1] [] (ec_E_requireOpen hl.2 (er_pr B) x1 g6 (.inr k25, g9) e8) cal_E_requireOpen lk_E_72 in_E_requireOpen (er_at B 0 rfl rfl) rfl rfl se_E_requireOpen rfl B.2.2.2.1 d_E_keep_11 ⟨Nat.le_of_ble_eq_true rfl, Nat.le_of_ble_eq_true rfl, Nat.le_of_ble_eq_true rfl, Nat.le_of_ble_eq_true rfl⟩ (Nat.le_of_ble_eq_true rfl) rfl B.2.2.1 (B.2.2.2.2.2 _) ⟨Nat.le_of_ble_eq_true rfl, Nat.le_of_ble_eq_true rfl⟩
    · subst h
      exact ej_cs_t (nc := 1) (ns := 6) B.1 [.int x2] [] (ec_E_requirePerson hl.2 (er_pr B) x2 g3 (.inr k26, g6) e5) cal_E_requirePerson lk_E_69 st_E_requirePerson rfl B.2.2.2.1 d_E_keep_6 ⟨Nat.le_of_ble_eq_true rfl, Nat.le_of_ble_eq_true rfl, Nat.le_of_ble_eq_true rfl, Nat.le_of_ble_eq_true rfl⟩ (Nat.le_of_ble_eq_true rfl) rfl B.2.2.1 (B.2.2.2.2.2 _) ⟨Nat.le_of_ble_eq_true rfl, Nat.le_of_ble_eq_true rfl⟩
  · subst h
    exact ej_cv_t (nc := 1) (ns := 6) B.1 [.int x1] [] (ec_E_requireBoard hl.2 (er_pr B) x1 σ (.inr k27, g3) e2) cal_E_requireBoard lk_E_65 in_E_requireBoard (er_at B 0 rfl rfl) rfl rfl se_E_requireBoard rfl B.2.2.2.1 d_E_keep_2 ⟨Nat.le_of_ble_eq_true rfl, Nat.le_of_ble_eq_true rfl, Nat.le_of_ble_eq_true rfl, Nat.le_of_ble_eq_true rfl⟩ (Nat.le_of_ble_eq_true rfl) rfl B.2.2.1 (B.2.2.2.2.2 _) ⟨Nat.le_of_ble_eq_true rfl, Nat.le_of_ble_eq_true rfl⟩
set_option maxRecDepth 100000 in
set_option maxHeartbeats 4000000 in
theorem ec_E_right {l : Launch} {G : er_G} (hl : l.stackTraces = false) (hE : er_Pr G 0 21) (x1 x2 : Int32) (σ : er_S) (r : (Unit ⊕ Nat) × er_S) (h : ef_E_right x1 x2 σ = some r) : er_Con l y_E_right w_E_right 8 123 (er_nc r.1) (er_ns r.1) G [.ref 0, .int x1, .int x2] σ (er_cvu r) := by
  refine er_ofJ (ret := none) (cc := b_E_right) (maxL := 3) (lv0 := [some (.ref 0), some (.int x1), some (.int x2)]) (hh := []) (by decide +kernel) rfl (Or.inl rfl) (by intro v hv; simp only [List.mem_cons, List.not_mem_nil, or_false] at hv; rcases hv with rfl | rfl | rfl <;> rfl) (Nat.le_of_ble_eq_true rfl) ?_
  intro p e s m args below meth c hadm C hr hlk hml hw hnm hm hcd
  have B : er_B p s m c meth b_E_right "EntryRows" G (none) 3 0 21 := ⟨C, hr, hlk, hml, hE, er_noh hw hnm hm hcd⟩
  have hl := And.intro hadm hl
  unfold ef_E_right at h
  refine ej_iload_n B.1 d_E_right_0 rfl ?_
  rcases er_tb_some h with ⟨v1, g3, e2, h⟩ | ⟨k6, g3, e2, h⟩
  · refine ej_cs_v (nc := 0) (ns := 0) B.1 [.int x1] [] (ec_E_requirePerson hl.2 (er_pr B) x1 σ (.inl v1, g3) e2) cal_E_requirePerson lk_E_69 st_E_requirePerson rfl B.2.2.2.1 d_E_right_1 ⟨Nat.le_of_ble_eq_true rfl, Nat.le_of_ble_eq_true rfl, Nat.zero_le _, Nat.zero_le _⟩ (Nat.le_of_ble_eq_true rfl) rfl ?_
    refine ej_aload_n B.1 d_E_right_4 rfl ?_
    refine ej_getr B.1 (er_at B 0 rfl rfl) rfl rfl fl_E_10 d_E_right_5 ?_
    refine ej_getr B.1 (er_at B 1 rfl rfl) rfl rfl fl_E_91 d_E_right_8 ?_
    refine ej_iload_n B.1 d_E_right_11 rfl ?_
    refine ej_iload_n B.1 d_E_right_12 rfl ?_
    obtain ⟨e4, h⟩ := er_gd_some h
    obtain ⟨e5, h⟩ := er_gd_some h
    refine ej_zast B.1 (er_at B 15 rfl rfl) rfl e4 e5 d_E_right_13 ?_
    cases h
    exact ej_vret B.1 B.2.1 B.2.2.1 (Nat.zero_le _) (Nat.zero_le _) d_E_right_14
  · subst h
    exact ej_cs_t (nc := 1) (ns := 6) B.1 [.int x1] [] (ec_E_requirePerson hl.2 (er_pr B) x1 σ (.inr k6, g3) e2) cal_E_requirePerson lk_E_69 st_E_requirePerson rfl B.2.2.2.1 d_E_right_1 ⟨Nat.le_of_ble_eq_true rfl, Nat.le_of_ble_eq_true rfl, Nat.le_of_ble_eq_true rfl, Nat.le_of_ble_eq_true rfl⟩ (Nat.le_of_ble_eq_true rfl) rfl B.2.2.1 (B.2.2.2.2.2 _) ⟨Nat.le_of_ble_eq_true rfl, Nat.le_of_ble_eq_true rfl⟩
