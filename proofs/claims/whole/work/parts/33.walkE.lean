set_option maxRecDepth 100000 in
set_option maxHeartbeats 4000000 in
theorem ew_P_moveAll_2 {p : Program} {l : Launch} {e : Env} {s : State} {m : MethodId} {args : Array Value} {below : List Frame} {meth : Method} {c : Code} {G : er_G} (B : er_B p s m c meth b_P_moveAll "EntryRows$Persons" G (none) 4 0 21) : ∀ (n : Nat) (x1 x2 x3 : Int32) (σ : er_S) (r : Unit × er_S), ef_P_moveAll_2 n x1 x2 x3 σ = some r → er_J p l e { frames := 0, cells := 0, slots := 0, locals := 0 } s m args below meth c G (er_A G s.heap.size) s.heap (er_fin below G s 0 0 (.inl none, r.2)) 0 0 σ 2 [some (.ref 1), some (.int x1), some (.int x2), some (.int x3)] [] := by
  intro n
  induction n with
  | zero => intro x1 x2 x3 σ r h; cases h
  | succ n ih =>
    intro x1 x2 x3 σ r h
    rw [ef_P_moveAll_2] at h
    refine ej_iload_n B.1 d_P_moveAll_2 rfl ?_
    refine ej_bipush B.1 (v := 40) d_P_moveAll_3 (by decide +kernel) ?_
    refine ej_icmp_ge B.1 (tgt := 31) d_P_moveAll_5 (by decide) (fun q1 => ?_) (fun q1 => ?_)
    · replace h := er_it h q1
      cases h
      exact ej_vret B.1 B.2.1 B.2.2.1 (Nat.zero_le _) (Nat.zero_le _) d_P_moveAll_31
    · replace h := er_if h q1
      refine ej_aload_n B.1 d_P_moveAll_8 rfl ?_
      refine ej_getr B.1 (er_at B 1 rfl rfl) rfl rfl fl_P_9 d_P_moveAll_9 ?_
      refine ej_iload_n B.1 d_P_moveAll_12 rfl ?_
      obtain ⟨e2, h⟩ := er_gd_some h
      refine ej_iald B.1 (er_at B 5 rfl rfl) rfl e2 d_P_moveAll_13 ?_
      refine ej_iload_n B.1 d_P_moveAll_14 rfl ?_
      refine ej_icmp_ne B.1 (tgt := 25) d_P_moveAll_15 (by decide) (fun q3 => ?_) (fun q3 => ?_)
      · replace h := er_if h q3
        refine ej_iinc B.1 (v := x3 + 1) (lv' := [some (.ref 1), some (.int x1), some (.int x2), some (.int (x3 + 1))]) d_P_moveAll_25 rfl rfl rfl rfl rfl ?_
        refine ej_goto B.1 (tgt := 2) d_P_moveAll_28 (by decide) ?_
        exact ej_le (lv' := [some (.ref 1), some (.int x1), some (.int x2), some (.int (x3 + 1))]) ⟨rfl, ⟨rfl, ⟨rfl, ⟨rfl, trivial⟩⟩⟩⟩ (ih x1 x2 (x3 + 1) σ _ h)
      · replace h := er_it h q3
        refine ej_aload_n B.1 d_P_moveAll_18 rfl ?_
        refine ej_getr B.1 (er_at B 1 rfl rfl) rfl rfl fl_P_9 d_P_moveAll_19 ?_
        refine ej_iload_n B.1 d_P_moveAll_22 rfl ?_
        refine ej_iload_n B.1 d_P_moveAll_23 rfl ?_
        obtain ⟨e4, h⟩ := er_gd_some h
        refine ej_iast B.1 (er_at B 5 rfl rfl) rfl e4 d_P_moveAll_24 ?_
        refine ej_iinc B.1 (v := x3 + 1) (lv' := [some (.ref 1), some (.int x1), some (.int x2), some (.int (x3 + 1))]) d_P_moveAll_25 rfl rfl rfl rfl rfl ?_
        refine ej_goto B.1 (tgt := 2) d_P_moveAll_28 (by decide) ?_
        exact ej_le (lv' := [some (.ref 1), some (.int x1), some (.int x2), some (.int (x3 + 1))]) ⟨rfl, ⟨rfl, ⟨rfl, ⟨rfl, trivial⟩⟩⟩⟩ (ih x1 x2 (x3 + 1) (er_up σ 5 (er_ix x3) x2) _ h)
set_option maxRecDepth 100000 in
set_option maxHeartbeats 4000000 in
theorem ec_P_moveAll {l : Launch} {G : er_G} (hE : er_Pr G 0 21) (x1 x2 : Int32) (σ : er_S) (r : Unit × er_S) (h : ef_P_moveAll x1 x2 σ = some r) : er_Con l y_P_moveAll w_P_moveAll 0 0 0 0 G [.ref 1, .int x1, .int x2] σ ((.inl none, r.2)) := by
  refine er_ofJ (ret := none) (cc := b_P_moveAll) (maxL := 4) (lv0 := [some (.ref 1), some (.int x1), some (.int x2), none]) (hh := []) (by decide +kernel) rfl (Or.inl rfl) (by intro v hv; simp only [List.mem_cons, List.not_mem_nil, or_false] at hv; rcases hv with rfl | rfl | rfl <;> rfl) (Nat.le_of_ble_eq_true rfl) ?_
  intro p e s m args below meth c hadm C hr hlk hml hw hnm hm hcd
  have B : er_B p s m c meth b_P_moveAll "EntryRows$Persons" G (none) 4 0 21 := ⟨C, hr, hlk, hml, hE, er_noh hw hnm hm hcd⟩
  unfold ef_P_moveAll at h
  refine ej_iconst B.1 (v := 0) d_P_moveAll_0 rfl ?_
  refine ej_istore_n B.1 (lv' := [some (.ref 1), some (.int x1), some (.int x2), some (.int 0)]) d_P_moveAll_1 rfl rfl rfl ?_
  exact ej_le (lv' := [some (.ref 1), some (.int x1), some (.int x2), some (.int 0)]) ⟨rfl, ⟨rfl, ⟨rfl, ⟨rfl, trivial⟩⟩⟩⟩ (ew_P_moveAll_2 B 64 x1 x2 0 σ _ h)
set_option maxRecDepth 100000 in
set_option maxHeartbeats 4000000 in
theorem ew_E_shut_17 {p : Program} {l : Launch} {e : Env} {s : State} {m : MethodId} {args : Array Value} {below : List Frame} {meth : Method} {c : Code} {G : er_G} (B : er_B p s m c meth b_E_shut "EntryRows" G (none) 4 0 21) : ∀ (n : Nat) (x1 x2 x3 : Int32) (σ : er_S) (r : Unit × er_S), ef_E_shut_17 n x1 x2 x3 σ = some r → er_J p l e { frames := 2, cells := 0, slots := 0, locals := 42 } s m args below meth c G (er_A G s.heap.size) s.heap (er_fin below G s 0 0 (.inl none, r.2)) 0 0 σ 17 [some (.ref 0), some (.int x1), some (.int x2), some (.int x3)] [] := by
  intro n
  induction n with
  | zero => intro x1 x2 x3 σ r h; cases h
  | succ n ih =>
    intro x1 x2 x3 σ r h
    rw [ef_E_shut_17] at h
    refine ej_iload_n B.1 d_E_shut_17 rfl ?_
    refine ej_bipush B.1 (v := 16) d_E_shut_18 (by decide +kernel) ?_
    refine ej_icmp_ge B.1 (tgt := 46) d_E_shut_20 (by decide) (fun q6 => ?_) (fun q6 => ?_)
    · replace h := er_it h q6
      cases h
      exact ej_vret B.1 B.2.1 B.2.2.1 (Nat.zero_le _) (Nat.zero_le _) d_E_shut_46
    · replace h := er_if h q6
      refine ej_aload_n B.1 d_E_shut_23 rfl ?_
      refine ej_getr B.1 (er_at B 0 rfl rfl) rfl rfl fl_E_23 d_E_shut_24 ?_
      refine ej_iload_n B.1 d_E_shut_27 rfl ?_
      obtain ⟨e7, h⟩ := er_gd_some h
      refine ej_iald B.1 (er_at B 3 rfl rfl) rfl e7 d_E_shut_28 ?_
      refine ej_iload_n B.1 d_E_shut_29 rfl ?_
      refine ej_icmp_ne B.1 (tgt := 40) d_E_shut_30 (by decide) (fun q8 => ?_) (fun q8 => ?_)
      · replace h := er_if h q8
        refine ej_iinc B.1 (v := x3 + 1) (lv' := [some (.ref 0), some (.int x1), some (.int x2), some (.int (x3 + 1))]) d_E_shut_40 rfl rfl rfl rfl rfl ?_
        refine ej_goto B.1 (tgt := 17) d_E_shut_43 (by decide) ?_
        exact ej_le (lv' := [some (.ref 0), some (.int x1), some (.int x2), some (.int (x3 + 1))]) ⟨rfl, ⟨rfl, ⟨rfl, ⟨rfl, trivial⟩⟩⟩⟩ (ih x1 x2 (x3 + 1) σ _ h)
      · replace h := er_it h q8
        refine ej_aload_n B.1 d_E_shut_33 rfl ?_
        refine ej_getr B.1 (er_at B 0 rfl rfl) rfl rfl fl_E_23 d_E_shut_34 ?_
        refine ej_iload_n B.1 d_E_shut_37 rfl ?_
        refine ej_iload_n B.1 d_E_shut_38 rfl ?_
        obtain ⟨e9, h⟩ := er_gd_some h
        refine ej_iast B.1 (er_at B 3 rfl rfl) rfl e9 d_E_shut_39 ?_
        refine ej_iinc B.1 (v := x3 + 1) (lv' := [some (.ref 0), some (.int x1), some (.int x2), some (.int (x3 + 1))]) d_E_shut_40 rfl rfl rfl rfl rfl ?_
        refine ej_goto B.1 (tgt := 17) d_E_shut_43 (by decide) ?_
        exact ej_le (lv' := [some (.ref 0), some (.int x1), some (.int x2), some (.int (x3 + 1))]) ⟨rfl, ⟨rfl, ⟨rfl, ⟨rfl, trivial⟩⟩⟩⟩ (ih x1 x2 (x3 + 1) (er_up σ 3 (er_ix x3) x2) _ h)
set_option maxRecDepth 100000 in
set_option maxHeartbeats 4000000 in
theorem ec_E_shut {l : Launch} {G : er_G} (hE : er_Pr G 0 21) (x1 x2 : Int32) (σ : er_S) (r : Unit × er_S) (h : ef_E_shut x1 x2 σ = some r) : er_Con l y_E_shut w_E_shut 2 42 0 0 G [.ref 0, .int x1, .int x2] σ ((.inl none, r.2)) := by
  refine er_ofJ (ret := none) (cc := b_E_shut) (maxL := 4) (lv0 := [some (.ref 0), some (.int x1), some (.int x2), none]) (hh := []) (by decide +kernel) rfl (Or.inl rfl) (by intro v hv; simp only [List.mem_cons, List.not_mem_nil, or_false] at hv; rcases hv with rfl | rfl | rfl <;> rfl) (Nat.le_of_ble_eq_true rfl) ?_
  intro p e s m args below meth c hadm C hr hlk hml hw hnm hm hcd
  have B : er_B p s m c meth b_E_shut "EntryRows" G (none) 4 0 21 := ⟨C, hr, hlk, hml, hE, er_noh hw hnm hm hcd⟩
  unfold ef_E_shut at h
  refine ej_aload_n B.1 d_E_shut_0 rfl ?_
  refine ej_iload_n B.1 d_E_shut_1 rfl ?_
  obtain ⟨v1, g3, e2, h⟩ := er_bw_some h
  refine ej_cv_v (nc := 0) (ns := 0) B.1 [.int x1] [] (ec_E_dropKeeper (er_pr B) x1 σ (v1, g3) e2) cal_E_dropKeeper lk_E_85 in_E_dropKeeper (er_at B 0 rfl rfl) rfl rfl se_E_dropKeeper rfl B.2.2.2.1 d_E_shut_2 ⟨Nat.le_of_ble_eq_true rfl, Nat.le_of_ble_eq_true rfl, Nat.zero_le _, Nat.zero_le _⟩ (Nat.le_of_ble_eq_true rfl) rfl ?_
  refine ej_aload_n B.1 d_E_shut_5 rfl ?_
  refine ej_getr B.1 (er_at B 0 rfl rfl) rfl rfl fl_E_19 d_E_shut_6 ?_
  refine ej_getr B.1 (er_at B 2 rfl rfl) rfl rfl fl_E_196 d_E_shut_9 ?_
  refine ej_iload_n B.1 d_E_shut_12 rfl ?_
  refine ej_iconst B.1 (v := 0) d_E_shut_13 rfl ?_
  obtain ⟨e4, h⟩ := er_gd_some h
  obtain ⟨e5, h⟩ := er_gd_some h
  refine ej_zast B.1 (er_at B 16 rfl rfl) rfl e4 e5 d_E_shut_14 ?_
  refine ej_iconst B.1 (v := 0) d_E_shut_15 rfl ?_
  refine ej_istore_n B.1 (lv' := [some (.ref 0), some (.int x1), some (.int x2), some (.int 0)]) d_E_shut_16 rfl rfl rfl ?_
  exact ej_le (lv' := [some (.ref 0), some (.int x1), some (.int x2), some (.int 0)]) ⟨rfl, ⟨rfl, ⟨rfl, ⟨rfl, trivial⟩⟩⟩⟩ (ew_E_shut_17 B 64 x1 x2 0 (er_up g3 16 (er_ix x1) 0) _ h)
set_option maxRecDepth 100000 in
set_option maxHeartbeats 4000000 in
theorem ew_P_countOn_4 {p : Program} {l : Launch} {e : Env} {s : State} {m : MethodId} {args : Array Value} {below : List Frame} {meth : Method} {c : Code} {G : er_G} (B : er_B p s m c meth b_P_countOn "EntryRows$Persons" G (some .int) 4 0 21) : ∀ (n : Nat) (x1 x2 x3 : Int32) (σ : er_S) (r : Int32), ef_P_countOn_4 n x1 x2 x3 σ = some r → er_J p l e { frames := 0, cells := 0, slots := 0, locals := 0 } s m args below meth c G (er_A G s.heap.size) s.heap (er_fin below G s 0 0 (.inl (some (.int r)), σ)) 0 0 σ 4 [some (.ref 1), some (.int x1), some (.int x2), some (.int x3)] [] := by
  intro n
  induction n with
  | zero => intro x1 x2 x3 σ r h; cases h
  | succ n ih =>
    intro x1 x2 x3 σ r h
    rw [ef_P_countOn_4] at h
    refine ej_iload_n B.1 d_P_countOn_4 rfl ?_
    refine ej_bipush B.1 (v := 40) d_P_countOn_5 (by decide +kernel) ?_
    refine ej_icmp_ge B.1 (tgt := 29) d_P_countOn_7 (by decide) (fun q1 => ?_) (fun q1 => ?_)
    · replace h := er_it h q1
      refine ej_iload_n B.1 d_P_countOn_29 rfl ?_
      cases h
      exact ej_iret B.1 B.2.1 B.2.2.1 (Nat.zero_le _) (Nat.zero_le _) d_P_countOn_30
    · replace h := er_if h q1
      refine ej_aload_n B.1 d_P_countOn_10 rfl ?_
      refine ej_getr B.1 (er_at B 1 rfl rfl) rfl rfl fl_P_9 d_P_countOn_11 ?_
      refine ej_iload_n B.1 d_P_countOn_14 rfl ?_
      obtain ⟨e2, h⟩ := er_gd_some h
      refine ej_iald B.1 (er_at B 5 rfl rfl) rfl e2 d_P_countOn_15 ?_
      refine ej_iload_n B.1 d_P_countOn_16 rfl ?_
      refine ej_icmp_ne B.1 (tgt := 23) d_P_countOn_17 (by decide) (fun q3 => ?_) (fun q3 => ?_)
      · replace h := er_if h q3
        refine ej_iinc B.1 (v := x3 + 1) (lv' := [some (.ref 1), some (.int x1), some (.int x2), some (.int (x3 + 1))]) d_P_countOn_23 rfl rfl rfl rfl rfl ?_
        refine ej_goto B.1 (tgt := 4) d_P_countOn_26 (by decide) ?_
        exact ej_le (lv' := [some (.ref 1), some (.int x1), some (.int x2), some (.int (x3 + 1))]) ⟨rfl, ⟨rfl, ⟨rfl, ⟨rfl, trivial⟩⟩⟩⟩ (ih x1 x2 (x3 + 1) σ _ h)
      · replace h := er_it h q3
        refine ej_iinc B.1 (v := x2 + 1) (lv' := [some (.ref 1), some (.int x1), some (.int (x2 + 1)), some (.int x3)]) d_P_countOn_20 rfl rfl rfl rfl rfl ?_
        refine ej_iinc B.1 (v := x3 + 1) (lv' := [some (.ref 1), some (.int x1), some (.int (x2 + 1)), some (.int (x3 + 1))]) d_P_countOn_23 rfl rfl rfl rfl rfl ?_
        refine ej_goto B.1 (tgt := 4) d_P_countOn_26 (by decide) ?_
        exact ej_le (lv' := [some (.ref 1), some (.int x1), some (.int (x2 + 1)), some (.int (x3 + 1))]) ⟨rfl, ⟨rfl, ⟨rfl, ⟨rfl, trivial⟩⟩⟩⟩ (ih x1 (x2 + 1) (x3 + 1) σ _ h)
set_option maxRecDepth 100000 in
set_option maxHeartbeats 4000000 in
theorem ec_P_countOn {l : Launch} {G : er_G} (hE : er_Pr G 0 21) (x1 : Int32) (σ : er_S) (r : Int32) (h : ef_P_countOn x1 σ = some r) : er_Con l y_P_countOn w_P_countOn 0 0 0 0 G [.ref 1, .int x1] σ ((.inl (some (.int r)), σ)) := by
  refine er_ofJ (ret := some .int) (cc := b_P_countOn) (maxL := 4) (lv0 := [some (.ref 1), some (.int x1), none, none]) (hh := []) (by decide +kernel) rfl (Or.inl rfl) (by intro v hv; simp only [List.mem_cons, List.not_mem_nil, or_false] at hv; rcases hv with rfl | rfl <;> rfl) (Nat.le_of_ble_eq_true rfl) ?_
  intro p e s m args below meth c hadm C hr hlk hml hw hnm hm hcd
  have B : er_B p s m c meth b_P_countOn "EntryRows$Persons" G (some .int) 4 0 21 := ⟨C, hr, hlk, hml, hE, er_noh hw hnm hm hcd⟩
  unfold ef_P_countOn at h
  refine ej_iconst B.1 (v := 0) d_P_countOn_0 rfl ?_
  refine ej_istore_n B.1 (lv' := [some (.ref 1), some (.int x1), some (.int 0), none]) d_P_countOn_1 rfl rfl rfl ?_
  refine ej_iconst B.1 (v := 0) d_P_countOn_2 rfl ?_
  refine ej_istore_n B.1 (lv' := [some (.ref 1), some (.int x1), some (.int 0), some (.int 0)]) d_P_countOn_3 rfl rfl rfl ?_
  exact ej_le (lv' := [some (.ref 1), some (.int x1), some (.int 0), some (.int 0)]) ⟨rfl, ⟨rfl, ⟨rfl, ⟨rfl, trivial⟩⟩⟩⟩ (ew_P_countOn_4 B 64 x1 0 0 σ _ h)
set_option maxRecDepth 100000 in
set_option maxHeartbeats 4000000 in
theorem ew_E_join_30 {p : Program} {l : Launch} {e : Env} {s : State} {m : MethodId} {args : Array Value} {below : List Frame} {meth : Method} {c : Code} {G : er_G} (hl : l.admits e ∧ l.stackTraces = false) (B : er_B p s m c meth b_E_join "EntryRows" G (some .int) 3 0 21) (x1 x2 t0 : Int32) (σ : er_S) (r : (Int32 ⊕ Nat) × er_S) (h : ef_E_join_30 x1 x2 t0 σ = some r) : er_J p l e { frames := 8, cells := er_nc r.1, slots := er_ns r.1, locals := 124 } s m args below meth c G (er_A G s.heap.size) s.heap (er_fin below G s (er_nc r.1) (er_ns r.1) (er_cvi r)) 0 0 σ 30 [some (.ref 0), some (.int x1), some (.int x2)] [.int t0] := by
  unfold ef_E_join_30 at h
  rcases er_tb_some h with ⟨v14, g16, e15, h⟩ | ⟨k25, g16, e15, h⟩
  · refine ej_cs_v (nc := 0) (ns := 0) B.1 [.int t0] [] (ec_E_requireState hl.2 (er_pr B) t0 σ (.inl v14, g16) e15) cal_E_requireState lk_E_81 st_E_requireState rfl B.2.2.2.1 d_E_join_30 ⟨Nat.le_of_ble_eq_true rfl, Nat.le_of_ble_eq_true rfl, Nat.zero_le _, Nat.zero_le _⟩ (Nat.le_of_ble_eq_true rfl) rfl ?_
    refine ej_aload_n B.1 d_E_join_33 rfl ?_
    refine ej_getr B.1 (er_at B 0 rfl rfl) rfl rfl fl_E_10 d_E_join_34 ?_
    refine ej_iload_n B.1 d_E_join_37 rfl ?_
    refine ej_iload_n B.1 d_E_join_38 rfl ?_
    obtain ⟨v17, g19, e18, h⟩ := er_bw_some h
    refine ej_cv_v (nc := 0) (ns := 0) B.1 [.int x1, .int x2] [] (ec_P_moveAll (er_pr B) x1 x2 g16 (v17, g19) e18) cal_P_moveAll lk_E_148 in_P_moveAll (er_at B 1 rfl rfl) rfl rfl se_P_moveAll rfl B.2.2.2.1 d_E_join_39 ⟨Nat.le_of_ble_eq_true rfl, Nat.le_of_ble_eq_true rfl, Nat.zero_le _, Nat.zero_le _⟩ (Nat.le_of_ble_eq_true rfl) rfl ?_
    refine ej_aload_n B.1 d_E_join_42 rfl ?_
    refine ej_iload_n B.1 d_E_join_43 rfl ?_
    refine ej_iload_n B.1 d_E_join_44 rfl ?_
    obtain ⟨v20, g22, e21, h⟩ := er_bw_some h
    refine ej_cv_v (nc := 0) (ns := 0) B.1 [.int x1, .int x2] [] (ec_E_shut (er_pr B) x1 x2 g19 (v20, g22) e21) cal_E_shut lk_E_152 in_E_shut (er_at B 0 rfl rfl) rfl rfl se_E_shut rfl B.2.2.2.1 d_E_join_45 ⟨Nat.le_of_ble_eq_true rfl, Nat.le_of_ble_eq_true rfl, Nat.zero_le _, Nat.zero_le _⟩ (Nat.le_of_ble_eq_true rfl) rfl ?_
    refine ej_aload_n B.1 d_E_join_48 rfl ?_
    refine ej_getr B.1 (er_at B 0 rfl rfl) rfl rfl fl_E_10 d_E_join_49 ?_
    refine ej_iload_n B.1 d_E_join_52 rfl ?_
    obtain ⟨v23, e24, h⟩ := er_bd_some h
    refine ej_cv_i (nc := 0) (ns := 0) B.1 [.int x2] [] (ec_P_countOn (er_pr B) x2 g22 v23 e24) cal_P_countOn lk_E_155 in_P_countOn (er_at B 1 rfl rfl) rfl rfl se_P_countOn rfl B.2.2.2.1 d_E_join_53 ⟨Nat.le_of_ble_eq_true rfl, Nat.le_of_ble_eq_true rfl, Nat.zero_le _, Nat.zero_le _⟩ (Nat.le_of_ble_eq_true rfl) rfl ?_
    cases h
    exact ej_iret B.1 B.2.1 B.2.2.1 (Nat.zero_le _) (Nat.zero_le _) d_E_join_56
  · subst h
    exact ej_cs_t (nc := 1) (ns := 6) B.1 [.int t0] [] (ec_E_requireState hl.2 (er_pr B) t0 σ (.inr k25, g16) e15) cal_E_requireState lk_E_81 st_E_requireState rfl B.2.2.2.1 d_E_join_30 ⟨Nat.le_of_ble_eq_true rfl, Nat.le_of_ble_eq_true rfl, Nat.le_of_ble_eq_true rfl, Nat.le_of_ble_eq_true rfl⟩ (Nat.le_of_ble_eq_true rfl) rfl B.2.2.1 (B.2.2.2.2.2 _) ⟨Nat.le_of_ble_eq_true rfl, Nat.le_of_ble_eq_true rfl⟩
set_option maxRecDepth 100000 in
set_option maxHeartbeats 4000000 in
theorem ec_E_join {l : Launch} {G : er_G} (hl : l.stackTraces = false) (hE : er_Pr G 0 21) (x1 x2 : Int32) (σ : er_S) (r : (Int32 ⊕ Nat) × er_S) (h : ef_E_join x1 x2 σ = some r) : er_Con l y_E_join w_E_join 8 124 (er_nc r.1) (er_ns r.1) G [.ref 0, .int x1, .int x2] σ (er_cvi r) := by
  refine er_ofJ (ret := some .int) (cc := b_E_join) (maxL := 3) (lv0 := [some (.ref 0), some (.int x1), some (.int x2)]) (hh := []) (by decide +kernel) rfl (Or.inl rfl) (by intro v hv; simp only [List.mem_cons, List.not_mem_nil, or_false] at hv; rcases hv with rfl | rfl | rfl <;> rfl) (Nat.le_of_ble_eq_true rfl) ?_
  intro p e s m args below meth c hadm C hr hlk hml hw hnm hm hcd
  have B : er_B p s m c meth b_E_join "EntryRows" G (some .int) 3 0 21 := ⟨C, hr, hlk, hml, hE, er_noh hw hnm hm hcd⟩
  have hl := And.intro hadm hl
  unfold ef_E_join at h
  refine ej_aload_n B.1 d_E_join_0 rfl ?_
  refine ej_iload_n B.1 d_E_join_1 rfl ?_
  rcases er_tb_some h with ⟨v1, g3, e2, h⟩ | ⟨k29, g3, e2, h⟩
  · refine ej_cv_v (nc := 0) (ns := 0) B.1 [.int x1] [] (ec_E_requireBoard hl.2 (er_pr B) x1 σ (.inl v1, g3) e2) cal_E_requireBoard lk_E_65 in_E_requireBoard (er_at B 0 rfl rfl) rfl rfl se_E_requireBoard rfl B.2.2.2.1 d_E_join_2 ⟨Nat.le_of_ble_eq_true rfl, Nat.le_of_ble_eq_true rfl, Nat.zero_le _, Nat.zero_le _⟩ (Nat.le_of_ble_eq_true rfl) rfl ?_
    refine ej_aload_n B.1 d_E_join_5 rfl ?_
    refine ej_iload_n B.1 d_E_join_6 rfl ?_
    rcases er_tb_some h with ⟨v4, g6, e5, h⟩ | ⟨k28, g6, e5, h⟩
    · refine ej_cv_v (nc := 0) (ns := 0) B.1 [.int x2] [] (ec_E_requireBoard hl.2 (er_pr B) x2 g3 (.inl v4, g6) e5) cal_E_requireBoard lk_E_65 in_E_requireBoard (er_at B 0 rfl rfl) rfl rfl se_E_requireBoard rfl B.2.2.2.1 d_E_join_7 ⟨Nat.le_of_ble_eq_true rfl, Nat.le_of_ble_eq_true rfl, Nat.zero_le _, Nat.zero_le _⟩ (Nat.le_of_ble_eq_true rfl) rfl ?_
      refine ej_aload_n B.1 d_E_join_10 rfl ?_
      refine ej_iload_n B.1 d_E_join_11 rfl ?_
      rcases er_tb_some h with ⟨v7, g9, e8, h⟩ | ⟨k27, g9, e8, h⟩
      · refine ej_cv_v (nc := 0) (ns := 0) B.1 [.int x1] [] (ec_E_requireOpen hl.2 (er_pr B) x1 g6 (.inl v7, g9) e8) cal_E_requireOpen lk_E_72 in_E_requireOpen (er_at B 0 rfl rfl) rfl rfl se_E_requireOpen rfl B.2.2.2.1 d_E_join_12 ⟨Nat.le_of_ble_eq_true rfl, Nat.le_of_ble_eq_true rfl, Nat.zero_le _, Nat.zero_le _⟩ (Nat.le_of_ble_eq_true rfl) rfl ?_
        refine ej_aload_n B.1 d_E_join_15 rfl ?_
        refine ej_iload_n B.1 d_E_join_16 rfl ?_
        rcases er_tb_some h with ⟨v10, g12, e11, h⟩ | ⟨k26, g12, e11, h⟩
        · refine ej_cv_v (nc := 0) (ns := 0) B.1 [.int x2] [] (ec_E_requireOpen hl.2 (er_pr B) x2 g9 (.inl v10, g12) e11) cal_E_requireOpen lk_E_72 in_E_requireOpen (er_at B 0 rfl rfl) rfl rfl se_E_requireOpen rfl B.2.2.2.1 d_E_join_17 ⟨Nat.le_of_ble_eq_true rfl, Nat.le_of_ble_eq_true rfl, Nat.zero_le _, Nat.zero_le _⟩ (Nat.le_of_ble_eq_true rfl) rfl ?_
          refine ej_iload_n B.1 d_E_join_20 rfl ?_
          refine ej_iload_n B.1 d_E_join_21 rfl ?_
          refine ej_icmp_eq B.1 (tgt := 29) d_E_join_22 (by decide) (fun q13 => ?_) (fun q13 => ?_)
          · replace h := er_it h q13
            refine ej_iconst B.1 (v := 0) d_E_join_29 rfl ?_
            exact ej_le (lv' := [some (.ref 0), some (.int x1), some (.int x2)]) ⟨rfl, ⟨rfl, ⟨rfl, trivial⟩⟩⟩ (ew_E_join_30 hl B x1 x2 0 g12 _ h)
          · replace h := er_if h q13
            refine ej_iconst B.1 (v := 1) d_E_join_25 rfl ?_
            refine ej_goto B.1 (tgt := 30) d_E_join_26 (by decide) ?_
            exact ej_le (lv' := [some (.ref 0), some (.int x1), some (.int x2)]) ⟨rfl, ⟨rfl, ⟨rfl, trivial⟩⟩⟩ (ew_E_join_30 hl B x1 x2 1 g12 _ h)
        · subst h
          exact ej_cv_t (nc := 1) (ns := 6) B.1 [.int x2] [] (ec_E_requireOpen hl.2 (er_pr B) x2 g9 (.inr k26, g12) e11) cal_E_requireOpen lk_E_72 in_E_requireOpen (er_at B 0 rfl rfl) rfl rfl se_E_requireOpen rfl B.2.2.2.1 d_E_join_17 ⟨Nat.le_of_ble_eq_true rfl, Nat.le_of_ble_eq_true rfl, Nat.le_of_ble_eq_true rfl, Nat.le_of_ble_eq_true rfl⟩ (Nat.le_of_ble_eq_true rfl) rfl B.2.2.1 (B.2.2.2.2.2 _) ⟨Nat.le_of_ble_eq_true rfl, Nat.le_of_ble_eq_true rfl⟩
      · subst h
        exact ej_cv_t (nc := 1) (ns := 6) B.1 [.int x1] [] (ec_E_requireOpen hl.2 (er_pr B) x1 g6 (.inr k27, g9) e8) cal_E_requireOpen lk_E_72 in_E_requireOpen (er_at B 0 rfl rfl) rfl rfl se_E_requireOpen rfl B.2.2.2.1 d_E_join_12 ⟨Nat.le_of_ble_eq_true rfl, Nat.le_of_ble_eq_true rfl, Nat.le_of_ble_eq_true rfl, Nat.le_of_ble_eq_true rfl⟩ (Nat.le_of_ble_eq_true rfl) rfl B.2.2.1 (B.2.2.2.2.2 _) ⟨Nat.le_of_ble_eq_true rfl, Nat.le_of_ble_eq_true rfl⟩
    · subst h
      exact ej_cv_t (nc := 1) (ns := 6) B.1 [.int x2] [] (ec_E_requireBoard hl.2 (er_pr B) x2 g3 (.inr k28, g6) e5) cal_E_requireBoard lk_E_65 in_E_requireBoard (er_at B 0 rfl rfl) rfl rfl se_E_requireBoard rfl B.2.2.2.1 d_E_join_7 ⟨Nat.le_of_ble_eq_true rfl, Nat.le_of_ble_eq_true rfl, Nat.le_of_ble_eq_true rfl, Nat.le_of_ble_eq_true rfl⟩ (Nat.le_of_ble_eq_true rfl) rfl B.2.2.1 (B.2.2.2.2.2 _) ⟨Nat.le_of_ble_eq_true rfl, Nat.le_of_ble_eq_true rfl⟩
  · subst h
    exact ej_cv_t (nc := 1) (ns := 6) B.1 [.int x1] [] (ec_E_requireBoard hl.2 (er_pr B) x1 σ (.inr k29, g3) e2) cal_E_requireBoard lk_E_65 in_E_requireBoard (er_at B 0 rfl rfl) rfl rfl se_E_requireBoard rfl B.2.2.2.1 d_E_join_2 ⟨Nat.le_of_ble_eq_true rfl, Nat.le_of_ble_eq_true rfl, Nat.le_of_ble_eq_true rfl, Nat.le_of_ble_eq_true rfl⟩ (Nat.le_of_ble_eq_true rfl) rfl B.2.2.1 (B.2.2.2.2.2 _) ⟨Nat.le_of_ble_eq_true rfl, Nat.le_of_ble_eq_true rfl⟩
set_option maxRecDepth 100000 in
set_option maxHeartbeats 4000000 in
theorem ew_E_close_26 {p : Program} {l : Launch} {e : Env} {s : State} {m : MethodId} {args : Array Value} {below : List Frame} {meth : Method} {c : Code} {G : er_G} (hl : l.admits e ∧ l.stackTraces = false) (B : er_B p s m c meth b_E_close "EntryRows" G (none) 2 0 21) (x1 t0 : Int32) (σ : er_S) (r : (Unit ⊕ Nat) × er_S) (h : ef_E_close_26 x1 t0 σ = some r) : er_J p l e { frames := 8, cells := er_nc r.1, slots := er_ns r.1, locals := 124 } s m args below meth c G (er_A G s.heap.size) s.heap (er_fin below G s (er_nc r.1) (er_ns r.1) (er_cvu r)) 0 0 σ 26 [some (.ref 0), some (.int x1)] [.int t0] := by
  unfold ef_E_close_26 at h
  rcases er_tb_some h with ⟨v10, g12, e11, h⟩ | ⟨k16, g12, e11, h⟩
  · refine ej_cs_v (nc := 0) (ns := 0) B.1 [.int t0] [] (ec_E_requireState hl.2 (er_pr B) t0 σ (.inl v10, g12) e11) cal_E_requireState lk_E_81 st_E_requireState rfl B.2.2.2.1 d_E_close_26 ⟨Nat.le_of_ble_eq_true rfl, Nat.le_of_ble_eq_true rfl, Nat.zero_le _, Nat.zero_le _⟩ (Nat.le_of_ble_eq_true rfl) rfl ?_
    refine ej_aload_n B.1 d_E_close_29 rfl ?_
    refine ej_iload_n B.1 d_E_close_30 rfl ?_
    refine ej_iconst B.1 (v := (-1)) d_E_close_31 rfl ?_
    obtain ⟨v13, g15, e14, h⟩ := er_bw_some h
    refine ej_cv_v (nc := 0) (ns := 0) B.1 [.int x1, .int (-1)] [] (ec_E_shut (er_pr B) x1 (-1) g12 (v13, g15) e14) cal_E_shut lk_E_152 in_E_shut (er_at B 0 rfl rfl) rfl rfl se_E_shut rfl B.2.2.2.1 d_E_close_32 ⟨Nat.le_of_ble_eq_true rfl, Nat.le_of_ble_eq_true rfl, Nat.zero_le _, Nat.zero_le _⟩ (Nat.le_of_ble_eq_true rfl) rfl ?_
    cases h
    exact ej_vret B.1 B.2.1 B.2.2.1 (Nat.zero_le _) (Nat.zero_le _) d_E_close_35
  · subst h
    exact ej_cs_t (nc := 1) (ns := 6) B.1 [.int t0] [] (ec_E_requireState hl.2 (er_pr B) t0 σ (.inr k16, g12) e11) cal_E_requireState lk_E_81 st_E_requireState rfl B.2.2.2.1 d_E_close_26 ⟨Nat.le_of_ble_eq_true rfl, Nat.le_of_ble_eq_true rfl, Nat.le_of_ble_eq_true rfl, Nat.le_of_ble_eq_true rfl⟩ (Nat.le_of_ble_eq_true rfl) rfl B.2.2.1 (B.2.2.2.2.2 _) ⟨Nat.le_of_ble_eq_true rfl, Nat.le_of_ble_eq_true rfl⟩
set_option maxRecDepth 100000 in
set_option maxHeartbeats 4000000 in
theorem ec_E_close {l : Launch} {G : er_G} (hl : l.stackTraces = false) (hE : er_Pr G 0 21) (x1 : Int32) (σ : er_S) (r : (Unit ⊕ Nat) × er_S) (h : ef_E_close x1 σ = some r) : er_Con l y_E_close w_E_close 8 124 (er_nc r.1) (er_ns r.1) G [.ref 0, .int x1] σ (er_cvu r) := by
  refine er_ofJ (ret := none) (cc := b_E_close) (maxL := 2) (lv0 := [some (.ref 0), some (.int x1)]) (hh := []) (by decide +kernel) rfl (Or.inl rfl) (by intro v hv; simp only [List.mem_cons, List.not_mem_nil, or_false] at hv; rcases hv with rfl | rfl <;> rfl) (Nat.le_of_ble_eq_true rfl) ?_
  intro p e s m args below meth c hadm C hr hlk hml hw hnm hm hcd
  have B : er_B p s m c meth b_E_close "EntryRows" G (none) 2 0 21 := ⟨C, hr, hlk, hml, hE, er_noh hw hnm hm hcd⟩
  have hl := And.intro hadm hl
  unfold ef_E_close at h
  refine ej_aload_n B.1 d_E_close_0 rfl ?_
  refine ej_iload_n B.1 d_E_close_1 rfl ?_
  rcases er_tb_some h with ⟨v1, g3, e2, h⟩ | ⟨k18, g3, e2, h⟩
  · refine ej_cv_v (nc := 0) (ns := 0) B.1 [.int x1] [] (ec_E_requireBoard hl.2 (er_pr B) x1 σ (.inl v1, g3) e2) cal_E_requireBoard lk_E_65 in_E_requireBoard (er_at B 0 rfl rfl) rfl rfl se_E_requireBoard rfl B.2.2.2.1 d_E_close_2 ⟨Nat.le_of_ble_eq_true rfl, Nat.le_of_ble_eq_true rfl, Nat.zero_le _, Nat.zero_le _⟩ (Nat.le_of_ble_eq_true rfl) rfl ?_
    refine ej_aload_n B.1 d_E_close_5 rfl ?_
    refine ej_iload_n B.1 d_E_close_6 rfl ?_
    rcases er_tb_some h with ⟨v4, g6, e5, h⟩ | ⟨k17, g6, e5, h⟩
    · refine ej_cv_v (nc := 0) (ns := 0) B.1 [.int x1] [] (ec_E_requireOpen hl.2 (er_pr B) x1 g3 (.inl v4, g6) e5) cal_E_requireOpen lk_E_72 in_E_requireOpen (er_at B 0 rfl rfl) rfl rfl se_E_requireOpen rfl B.2.2.2.1 d_E_close_7 ⟨Nat.le_of_ble_eq_true rfl, Nat.le_of_ble_eq_true rfl, Nat.zero_le _, Nat.zero_le _⟩ (Nat.le_of_ble_eq_true rfl) rfl ?_
      refine ej_aload_n B.1 d_E_close_10 rfl ?_
      refine ej_getr B.1 (er_at B 0 rfl rfl) rfl rfl fl_E_10 d_E_close_11 ?_
      refine ej_iload_n B.1 d_E_close_14 rfl ?_
      obtain ⟨v7, e8, h⟩ := er_bd_some h
      refine ej_cv_i (nc := 0) (ns := 0) B.1 [.int x1] [] (ec_P_countOn (er_pr B) x1 g6 v7 e8) cal_P_countOn lk_E_155 in_P_countOn (er_at B 1 rfl rfl) rfl rfl se_P_countOn rfl B.2.2.2.1 d_E_close_15 ⟨Nat.le_of_ble_eq_true rfl, Nat.le_of_ble_eq_true rfl, Nat.zero_le _, Nat.zero_le _⟩ (Nat.le_of_ble_eq_true rfl) rfl ?_
      refine ej_if_ne B.1 (tgt := 25) d_E_close_18 (by decide) (fun q9 => ?_) (fun q9 => ?_)
      · replace h := er_if h q9
        refine ej_iconst B.1 (v := 0) d_E_close_25 rfl ?_
        exact ej_le (lv' := [some (.ref 0), some (.int x1)]) ⟨rfl, ⟨rfl, trivial⟩⟩ (ew_E_close_26 hl B x1 0 g6 _ h)
      · replace h := er_it h q9
        refine ej_iconst B.1 (v := 1) d_E_close_21 rfl ?_
        refine ej_goto B.1 (tgt := 26) d_E_close_22 (by decide) ?_
        exact ej_le (lv' := [some (.ref 0), some (.int x1)]) ⟨rfl, ⟨rfl, trivial⟩⟩ (ew_E_close_26 hl B x1 1 g6 _ h)
    · subst h
      exact ej_cv_t (nc := 1) (ns := 6) B.1 [.int x1] [] (ec_E_requireOpen hl.2 (er_pr B) x1 g3 (.inr k17, g6) e5) cal_E_requireOpen lk_E_72 in_E_requireOpen (er_at B 0 rfl rfl) rfl rfl se_E_requireOpen rfl B.2.2.2.1 d_E_close_7 ⟨Nat.le_of_ble_eq_true rfl, Nat.le_of_ble_eq_true rfl, Nat.le_of_ble_eq_true rfl, Nat.le_of_ble_eq_true rfl⟩ (Nat.le_of_ble_eq_true rfl) rfl B.2.2.1 (B.2.2.2.2.2 _) ⟨Nat.le_of_ble_eq_true rfl, Nat.le_of_ble_eq_true rfl⟩
  · subst h
    exact ej_cv_t (nc := 1) (ns := 6) B.1 [.int x1] [] (ec_E_requireBoard hl.2 (er_pr B) x1 σ (.inr k18, g3) e2) cal_E_requireBoard lk_E_65 in_E_requireBoard (er_at B 0 rfl rfl) rfl rfl se_E_requireBoard rfl B.2.2.2.1 d_E_close_2 ⟨Nat.le_of_ble_eq_true rfl, Nat.le_of_ble_eq_true rfl, Nat.le_of_ble_eq_true rfl, Nat.le_of_ble_eq_true rfl⟩ (Nat.le_of_ble_eq_true rfl) rfl B.2.2.1 (B.2.2.2.2.2 _) ⟨Nat.le_of_ble_eq_true rfl, Nat.le_of_ble_eq_true rfl⟩
set_option maxRecDepth 100000 in
set_option maxHeartbeats 4000000 in
theorem ew_E_isLateAt_49 {p : Program} {l : Launch} {e : Env} {s : State} {m : MethodId} {args : Array Value} {below : List Frame} {meth : Method} {c : Code} {G : er_G} (B : er_B p s m c meth b_E_isLateAt "EntryRows" G (some .boolean) 4 0 21) (t0 : Int32) (σ : er_S) (r : Int32) (h : ef_E_isLateAt_49 t0 σ = some r) : er_J p l e { frames := 1, cells := 0, slots := 0, locals := 21 } s m args below meth c G (er_A G s.heap.size) s.heap (er_fin below G s 0 0 (.inl (some (.int r)), σ)) 0 0 σ 49 [none, none, none, none] [.int t0] := by
  unfold ef_E_isLateAt_49 at h
  obtain ⟨e5, h⟩ := er_gd_some h
  cases h
  exact ej_zret B.1 B.2.1 B.2.2.1 (Nat.zero_le _) (Nat.zero_le _) e5 d_E_isLateAt_49
set_option maxRecDepth 100000 in
set_option maxHeartbeats 4000000 in
theorem ew_E_isLateAt_48 {p : Program} {l : Launch} {e : Env} {s : State} {m : MethodId} {args : Array Value} {below : List Frame} {meth : Method} {c : Code} {G : er_G} (B : er_B p s m c meth b_E_isLateAt "EntryRows" G (some .boolean) 4 0 21) (σ : er_S) (r : Int32) (h : ef_E_isLateAt_48  σ = some r) : er_J p l e { frames := 1, cells := 0, slots := 0, locals := 21 } s m args below meth c G (er_A G s.heap.size) s.heap (er_fin below G s 0 0 (.inl (some (.int r)), σ)) 0 0 σ 48 [none, none, none, none] [] := by
  unfold ef_E_isLateAt_48 at h
  refine ej_iconst B.1 (v := 0) d_E_isLateAt_48 rfl ?_
  exact ej_le (lv' := [none, none, none, none]) trivial (ew_E_isLateAt_49 B 0 σ _ h)
set_option maxRecDepth 100000 in
set_option maxHeartbeats 4000000 in
theorem ec_E_isLateAt {l : Launch} {G : er_G} (hE : er_Pr G 0 21) (x1 x2 : Int32) (σ : er_S) (r : Int32) (h : ef_E_isLateAt x1 x2 σ = some r) : er_Con l y_E_isLateAt w_E_isLateAt 1 21 0 0 G [.ref 0, .int x1, .int x2] σ ((.inl (some (.int r)), σ)) := by
  refine er_ofJ (ret := some .boolean) (cc := b_E_isLateAt) (maxL := 4) (lv0 := [some (.ref 0), some (.int x1), some (.int x2), none]) (hh := []) (by decide +kernel) rfl (Or.inl rfl) (by intro v hv; simp only [List.mem_cons, List.not_mem_nil, or_false] at hv; rcases hv with rfl | rfl | rfl <;> rfl) (Nat.le_of_ble_eq_true rfl) ?_
  intro p e s m args below meth c hadm C hr hlk hml hw hnm hm hcd
  have B : er_B p s m c meth b_E_isLateAt "EntryRows" G (some .boolean) 4 0 21 := ⟨C, hr, hlk, hml, hE, er_noh hw hnm hm hcd⟩
  unfold ef_E_isLateAt at h
  refine ej_aload_n B.1 d_E_isLateAt_0 rfl ?_
  refine ej_getr B.1 (er_at B 0 rfl rfl) rfl rfl fl_E_10 d_E_isLateAt_1 ?_
  refine ej_getr B.1 (er_at B 1 rfl rfl) rfl rfl fl_E_132 d_E_isLateAt_4 ?_
  refine ej_iload_n B.1 d_E_isLateAt_7 rfl ?_
  obtain ⟨e1, h⟩ := er_gd_some h
  refine ej_iald B.1 (er_at B 5 rfl rfl) rfl e1 d_E_isLateAt_8 ?_
  refine ej_istore_n B.1 (lv' := [some (.ref 0), some (.int x1), some (.int x2), some (.int (σ 5 (er_ix x1)))]) d_E_isLateAt_9 rfl rfl rfl ?_
  refine ej_aload_n B.1 d_E_isLateAt_10 rfl ?_
  refine ej_getr B.1 (er_at B 0 rfl rfl) rfl rfl fl_E_19 d_E_isLateAt_11 ?_
  refine ej_iload_n B.1 d_E_isLateAt_14 rfl ?_
  obtain ⟨v2, e3, h⟩ := er_bd_some h
  refine ej_cv_i (nc := 0) (ns := 0) B.1 [.int (σ 5 (er_ix x1))] [] (ec_B_has (er_pr B) (σ 5 (er_ix x1)) σ v2 e3) cal_B_has lk_E_211 in_B_has (er_at B 2 rfl rfl) rfl rfl se_B_has rfl B.2.2.2.1 d_E_isLateAt_15 ⟨Nat.le_of_ble_eq_true rfl, Nat.le_of_ble_eq_true rfl, Nat.zero_le _, Nat.zero_le _⟩ (Nat.le_of_ble_eq_true rfl) rfl ?_
  refine ej_if_eq B.1 (tgt := 48) d_E_isLateAt_18 (by decide) (fun q4 => ?_) (fun q4 => ?_)
  · replace h := er_it h q4
    exact ej_le (lv' := [none, none, none, none]) trivial (ew_E_isLateAt_48 B σ _ h)
  · replace h := er_if h q4
    refine ej_iload_n B.1 d_E_isLateAt_21 rfl ?_
    refine ej_aload_n B.1 d_E_isLateAt_22 rfl ?_
    refine ej_getr B.1 (er_at B 0 rfl rfl) rfl rfl fl_E_10 d_E_isLateAt_23 ?_
    refine ej_getr B.1 (er_at B 1 rfl rfl) rfl rfl fl_E_179 d_E_isLateAt_26 ?_
    refine ej_iload_n B.1 d_E_isLateAt_29 rfl ?_
    obtain ⟨e6, h⟩ := er_gd_some h
    refine ej_iald B.1 (er_at B 9 rfl rfl) rfl e6 d_E_isLateAt_30 ?_
    refine ej_isub B.1 d_E_isLateAt_31 ?_
    refine ej_aload_n B.1 d_E_isLateAt_32 rfl ?_
    refine ej_getr B.1 (er_at B 0 rfl rfl) rfl rfl fl_E_19 d_E_isLateAt_33 ?_
    refine ej_getr B.1 (er_at B 2 rfl rfl) rfl rfl fl_E_237 d_E_isLateAt_36 ?_
    refine ej_iload_n B.1 d_E_isLateAt_39 rfl ?_
    obtain ⟨e7, h⟩ := er_gd_some h
    refine ej_iald B.1 (er_at B 18 rfl rfl) rfl e7 d_E_isLateAt_40 ?_
    refine ej_icmp_le B.1 (tgt := 48) d_E_isLateAt_41 (by decide) (fun q8 => ?_) (fun q8 => ?_)
    · replace h := er_it h q8
      exact ej_le (lv' := [none, none, none, none]) trivial (ew_E_isLateAt_48 B σ _ h)
    · replace h := er_if h q8
      refine ej_iconst B.1 (v := 1) d_E_isLateAt_44 rfl ?_
      refine ej_goto B.1 (tgt := 49) d_E_isLateAt_45 (by decide) ?_
      exact ej_le (lv' := [none, none, none, none]) trivial (ew_E_isLateAt_49 B 1 σ _ h)
set_option maxRecDepth 100000 in
set_option maxHeartbeats 4000000 in
theorem ew_E_tick_40 {p : Program} {l : Launch} {e : Env} {s : State} {m : MethodId} {args : Array Value} {below : List Frame} {meth : Method} {c : Code} {G : er_G} (hl : l.admits e ∧ l.stackTraces = false) (B : er_B p s m c meth b_E_tick "EntryRows" G (some .int) 5 0 21) : ∀ (n : Nat) (x2 x3 x4 : Int32) (σ : er_S) (r : (Int32 ⊕ Nat) × er_S), ef_E_tick_40 n x2 x3 x4 σ = some r → er_J p l e { frames := 7, cells := er_nc r.1, slots := er_ns r.1, locals := 105 } s m args below meth c G (er_A G s.heap.size) s.heap (er_fin below G s (er_nc r.1) (er_ns r.1) (er_cvi r)) 0 0 σ 40 [some (.ref 0), none, some (.int x2), some (.int x3), some (.int x4)] [] := by
  intro n
  induction n with
  | zero => intro x2 x3 x4 σ r h; cases h
  | succ n ih =>
    intro x2 x3 x4 σ r h
    rw [ef_E_tick_40] at h
    refine ej_iload B.1 d_E_tick_40 rfl ?_
    refine ej_bipush B.1 (v := 40) d_E_tick_42 (by decide +kernel) ?_
    refine ej_icmp_ge B.1 (tgt := 79) d_E_tick_44 (by decide) (fun q7 => ?_) (fun q7 => ?_)
    · replace h := er_it h q7
      refine ej_iload_n B.1 d_E_tick_79 rfl ?_
      cases h
      exact ej_iret B.1 B.2.1 B.2.2.1 (Nat.zero_le _) (Nat.zero_le _) d_E_tick_80
    · replace h := er_if h q7
      refine ej_aload_n B.1 d_E_tick_47 rfl ?_
      refine ej_iload B.1 d_E_tick_48 rfl ?_
      refine ej_aload_n B.1 d_E_tick_50 rfl ?_
      refine ej_geti B.1 (er_at B 0 rfl rfl) rfl rfl fl_E_30 d_E_tick_51 ?_
      obtain ⟨v8, e9, h⟩ := er_bd_some h
      refine ej_cv_i (nc := 0) (ns := 0) B.1 [.int x4, .int (σ 0 4)] [] (ec_E_isLateAt (er_pr B) x4 (σ 0 4) σ v8 e9) cal_E_isLateAt lk_E_159 in_E_isLateAt (er_at B 0 rfl rfl) rfl rfl se_E_isLateAt rfl B.2.2.2.1 d_E_tick_54 ⟨Nat.le_of_ble_eq_true rfl, Nat.le_of_ble_eq_true rfl, Nat.zero_le _, Nat.zero_le _⟩ (Nat.le_of_ble_eq_true rfl) rfl ?_
      refine ej_if_eq B.1 (tgt := 73) d_E_tick_57 (by decide) (fun q10 => ?_) (fun q10 => ?_)
      · replace h := er_it h q10
        refine ej_iinc B.1 (v := x4 + 1) (lv' := [some (.ref 0), none, some (.int x2), some (.int x3), some (.int (x4 + 1))]) d_E_tick_73 rfl rfl rfl rfl rfl ?_
        refine ej_goto B.1 (tgt := 40) d_E_tick_76 (by decide) ?_
        exact ej_le (lv' := [some (.ref 0), none, some (.int x2), some (.int x3), some (.int (x4 + 1))]) ⟨rfl, ⟨rfl, ⟨rfl, ⟨rfl, trivial⟩⟩⟩⟩ (ih x2 x3 (x4 + 1) σ _ h)
      · replace h := er_if h q10
        refine ej_aload_n B.1 d_E_tick_60 rfl ?_
        refine ej_iload B.1 d_E_tick_61 rfl ?_
        refine ej_iload_n B.1 d_E_tick_63 rfl ?_
        obtain ⟨v11, e12, h⟩ := er_bd_some h
        refine ej_cv_i (nc := 0) (ns := 0) B.1 [.int x4, .int x2] [] (ec_E_isLateAt (er_pr B) x4 x2 σ v11 e12) cal_E_isLateAt lk_E_159 in_E_isLateAt (er_at B 0 rfl rfl) rfl rfl se_E_isLateAt rfl B.2.2.2.1 d_E_tick_64 ⟨Nat.le_of_ble_eq_true rfl, Nat.le_of_ble_eq_true rfl, Nat.zero_le _, Nat.zero_le _⟩ (Nat.le_of_ble_eq_true rfl) rfl ?_
        refine ej_if_ne B.1 (tgt := 73) d_E_tick_67 (by decide) (fun q13 => ?_) (fun q13 => ?_)
        · replace h := er_if h q13
          refine ej_iinc B.1 (v := x4 + 1) (lv' := [some (.ref 0), none, some (.int x2), some (.int x3), some (.int (x4 + 1))]) d_E_tick_73 rfl rfl rfl rfl rfl ?_
          refine ej_goto B.1 (tgt := 40) d_E_tick_76 (by decide) ?_
          exact ej_le (lv' := [some (.ref 0), none, some (.int x2), some (.int x3), some (.int (x4 + 1))]) ⟨rfl, ⟨rfl, ⟨rfl, ⟨rfl, trivial⟩⟩⟩⟩ (ih x2 x3 (x4 + 1) σ _ h)
        · replace h := er_it h q13
          refine ej_iinc B.1 (v := x3 + 1) (lv' := [some (.ref 0), none, some (.int x2), some (.int (x3 + 1)), some (.int x4)]) d_E_tick_70 rfl rfl rfl rfl rfl ?_
          refine ej_iinc B.1 (v := x4 + 1) (lv' := [some (.ref 0), none, some (.int x2), some (.int (x3 + 1)), some (.int (x4 + 1))]) d_E_tick_73 rfl rfl rfl rfl rfl ?_
          refine ej_goto B.1 (tgt := 40) d_E_tick_76 (by decide) ?_
          exact ej_le (lv' := [some (.ref 0), none, some (.int x2), some (.int (x3 + 1)), some (.int (x4 + 1))]) ⟨rfl, ⟨rfl, ⟨rfl, ⟨rfl, trivial⟩⟩⟩⟩ (ih x2 (x3 + 1) (x4 + 1) σ _ h)
set_option maxRecDepth 100000 in
set_option maxHeartbeats 4000000 in
theorem ec_E_tick {l : Launch} {G : er_G} (hl : l.stackTraces = false) (hE : er_Pr G 0 21) (x1 : Int32) (σ : er_S) (r : (Int32 ⊕ Nat) × er_S) (h : ef_E_tick x1 σ = some r) : er_Con l y_E_tick w_E_tick 7 105 (er_nc r.1) (er_ns r.1) G [.ref 0, .int x1] σ (er_cvi r) := by
  refine er_ofJ (ret := some .int) (cc := b_E_tick) (maxL := 5) (lv0 := [some (.ref 0), some (.int x1), none, none, none]) (hh := []) (by decide +kernel) rfl (Or.inl rfl) (by intro v hv; simp only [List.mem_cons, List.not_mem_nil, or_false] at hv; rcases hv with rfl | rfl <;> rfl) (Nat.le_of_ble_eq_true rfl) ?_
  intro p e s m args below meth c hadm C hr hlk hml hw hnm hm hcd
  have B : er_B p s m c meth b_E_tick "EntryRows" G (some .int) 5 0 21 := ⟨C, hr, hlk, hml, hE, er_noh hw hnm hm hcd⟩
  have hl := And.intro hadm hl
  unfold ef_E_tick at h
  refine ej_iload_n B.1 d_E_tick_0 rfl ?_
  refine ej_iconst B.1 (v := 1) d_E_tick_1 rfl ?_
  refine ej_sipush B.1 (v := 5000) d_E_tick_2 (by decide +kernel) ?_
  rcases er_tb_some h with ⟨v1, g3, e2, h⟩ | ⟨k15, g3, e2, h⟩
  · refine ej_cs_v (nc := 0) (ns := 0) B.1 [.int x1, .int 1, .int 5000] [] (ec_E_requireRange hl.2 (er_pr B) x1 1 5000 σ (.inl v1, g3) e2) cal_E_requireRange lk_E_46 st_E_requireRange rfl B.2.2.2.1 d_E_tick_5 ⟨Nat.le_of_ble_eq_true rfl, Nat.le_of_ble_eq_true rfl, Nat.zero_le _, Nat.zero_le _⟩ (Nat.le_of_ble_eq_true rfl) rfl ?_
    refine ej_aload_n B.1 d_E_tick_8 rfl ?_
    refine ej_geti B.1 (er_at B 0 rfl rfl) rfl rfl fl_E_30 d_E_tick_9 ?_
    refine ej_iload_n B.1 d_E_tick_12 rfl ?_
    refine ej_iadd B.1 d_E_tick_13 ?_
    refine ej_iconst B.1 (v := 0) d_E_tick_14 rfl ?_
    refine ej_ldc B.1 (v := 999999) k_E_158 d_E_tick_15 ?_
    rcases er_tb_some h with ⟨v4, g6, e5, h⟩ | ⟨k14, g6, e5, h⟩
    · refine ej_cs_v (nc := 0) (ns := 0) B.1 [.int ((g3 0 4) + x1), .int 0, .int 999999] [] (ec_E_requireRange hl.2 (er_pr B) ((g3 0 4) + x1) 0 999999 g3 (.inl v4, g6) e5) cal_E_requireRange lk_E_46 st_E_requireRange rfl B.2.2.2.1 d_E_tick_17 ⟨Nat.le_of_ble_eq_true rfl, Nat.le_of_ble_eq_true rfl, Nat.zero_le _, Nat.zero_le _⟩ (Nat.le_of_ble_eq_true rfl) rfl ?_
      refine ej_aload_n B.1 d_E_tick_20 rfl ?_
      refine ej_geti B.1 (er_at B 0 rfl rfl) rfl rfl fl_E_30 d_E_tick_21 ?_
      refine ej_istore_n B.1 (lv' := [some (.ref 0), some (.int x1), some (.int (g6 0 4)), none, none]) d_E_tick_24 rfl rfl rfl ?_
      refine ej_aload_n B.1 d_E_tick_25 rfl ?_
      refine ej_dup B.1 d_E_tick_26 rfl ?_
      refine ej_geti B.1 (er_at B 0 rfl rfl) rfl rfl fl_E_30 d_E_tick_27 ?_
      refine ej_iload_n B.1 d_E_tick_30 rfl ?_
      refine ej_iadd B.1 d_E_tick_31 ?_
      refine ej_puti B.1 (er_at B 0 rfl rfl) rfl rfl fp_E_30 d_E_tick_32 ?_
      refine ej_iconst B.1 (v := 0) d_E_tick_35 rfl ?_
      refine ej_istore_n B.1 (lv' := [some (.ref 0), some (.int x1), some (.int (g6 0 4)), some (.int 0), none]) d_E_tick_36 rfl rfl rfl ?_
      refine ej_iconst B.1 (v := 0) d_E_tick_37 rfl ?_
      refine ej_istore B.1 (lv' := [some (.ref 0), some (.int x1), some (.int (g6 0 4)), some (.int 0), some (.int 0)]) d_E_tick_38 rfl rfl rfl ?_
      exact ej_le (lv' := [some (.ref 0), none, some (.int (g6 0 4)), some (.int 0), some (.int 0)]) ⟨rfl, ⟨rfl, ⟨rfl, ⟨rfl, trivial⟩⟩⟩⟩ (ew_E_tick_40 hl B 64 (g6 0 4) 0 0 (er_up g6 0 4 ((g6 0 4) + x1)) _ h)
    · subst h
      exact ej_cs_t (nc := 1) (ns := 6) B.1 [.int ((g3 0 4) + x1), .int 0, .int 999999] [] (ec_E_requireRange hl.2 (er_pr B) ((g3 0 4) + x1) 0 999999 g3 (.inr k14, g6) e5) cal_E_requireRange lk_E_46 st_E_requireRange rfl B.2.2.2.1 d_E_tick_17 ⟨Nat.le_of_ble_eq_true rfl, Nat.le_of_ble_eq_true rfl, Nat.le_of_ble_eq_true rfl, Nat.le_of_ble_eq_true rfl⟩ (Nat.le_of_ble_eq_true rfl) rfl B.2.2.1 (B.2.2.2.2.2 _) ⟨Nat.le_of_ble_eq_true rfl, Nat.le_of_ble_eq_true rfl⟩
  · subst h
    exact ej_cs_t (nc := 1) (ns := 6) B.1 [.int x1, .int 1, .int 5000] [] (ec_E_requireRange hl.2 (er_pr B) x1 1 5000 σ (.inr k15, g3) e2) cal_E_requireRange lk_E_46 st_E_requireRange rfl B.2.2.2.1 d_E_tick_5 ⟨Nat.le_of_ble_eq_true rfl, Nat.le_of_ble_eq_true rfl, Nat.le_of_ble_eq_true rfl, Nat.le_of_ble_eq_true rfl⟩ (Nat.le_of_ble_eq_true rfl) rfl B.2.2.1 (B.2.2.2.2.2 _) ⟨Nat.le_of_ble_eq_true rfl, Nat.le_of_ble_eq_true rfl⟩
set_option maxRecDepth 100000 in
set_option maxHeartbeats 4000000 in
theorem ec_E_requireNotNegative {l : Launch} {G : er_G} (hl : l.stackTraces = false) (hE : er_Pr G 0 21) (x0 : Int32) (σ : er_S) (r : (Unit ⊕ Nat) × er_S) (h : ef_E_requireNotNegative x0 σ = some r) : er_Con l y_E_requireNotNegative w_E_requireNotNegative 7 105 (er_nc r.1) (er_ns r.1) G [.int x0] σ (er_cvu r) := by
  refine er_ofJ (ret := none) (cc := b_E_requireNotNegative) (maxL := 1) (lv0 := [some (.int x0)]) (hh := []) (by decide +kernel) rfl (Or.inl rfl) (by intro v hv; simp only [List.mem_cons, List.not_mem_nil, or_false] at hv; rcases hv with rfl <;> rfl) (Nat.le_of_ble_eq_true rfl) ?_
  intro p e s m args below meth c hadm C hr hlk hml hw hnm hm hcd
  have B : er_B p s m c meth b_E_requireNotNegative "EntryRows" G (none) 1 0 21 := ⟨C, hr, hlk, hml, hE, er_noh hw hnm hm hcd⟩
  have hl := And.intro hadm hl
  unfold ef_E_requireNotNegative at h
  refine ej_iload_n B.1 d_E_requireNotNegative_0 rfl ?_
  refine ej_iconst B.1 (v := 0) d_E_requireNotNegative_1 rfl ?_
  refine ej_ldc B.1 (v := 2147483647) k_E_221 d_E_requireNotNegative_2 ?_
  rcases er_tb_some h with ⟨v1, g3, e2, h⟩ | ⟨k4, g3, e2, h⟩
  · refine ej_cs_v (nc := 0) (ns := 0) B.1 [.int x0, .int 0, .int 2147483647] [] (ec_E_requireRange hl.2 (er_pr B) x0 0 2147483647 σ (.inl v1, g3) e2) cal_E_requireRange lk_E_46 st_E_requireRange rfl B.2.2.2.1 d_E_requireNotNegative_4 ⟨Nat.le_of_ble_eq_true rfl, Nat.le_of_ble_eq_true rfl, Nat.zero_le _, Nat.zero_le _⟩ (Nat.le_of_ble_eq_true rfl) rfl ?_
    cases h
    exact ej_vret B.1 B.2.1 B.2.2.1 (Nat.zero_le _) (Nat.zero_le _) d_E_requireNotNegative_7
  · subst h
    exact ej_cs_t (nc := 1) (ns := 6) B.1 [.int x0, .int 0, .int 2147483647] [] (ec_E_requireRange hl.2 (er_pr B) x0 0 2147483647 σ (.inr k4, g3) e2) cal_E_requireRange lk_E_46 st_E_requireRange rfl B.2.2.2.1 d_E_requireNotNegative_4 ⟨Nat.le_of_ble_eq_true rfl, Nat.le_of_ble_eq_true rfl, Nat.le_of_ble_eq_true rfl, Nat.le_of_ble_eq_true rfl⟩ (Nat.le_of_ble_eq_true rfl) rfl B.2.2.1 (B.2.2.2.2.2 _) ⟨Nat.le_of_ble_eq_true rfl, Nat.le_of_ble_eq_true rfl⟩
set_option maxRecDepth 100000 in
set_option maxHeartbeats 4000000 in
theorem ew_P_nextOn_9 {p : Program} {l : Launch} {e : Env} {s : State} {m : MethodId} {args : Array Value} {below : List Frame} {meth : Method} {c : Code} {G : er_G} (B : er_B p s m c meth b_P_nextOn "EntryRows$Persons" G (some .int) 6 0 21) : ∀ (n : Nat) (x1 x2 x3 x4 x5 : Int32) (σ : er_S) (r : Int32), ef_P_nextOn_9 n x1 x2 x3 x4 x5 σ = some r → er_J p l e { frames := 0, cells := 0, slots := 0, locals := 0 } s m args below meth c G (er_A G s.heap.size) s.heap (er_fin below G s 0 0 (.inl (some (.int r)), σ)) 0 0 σ 9 [some (.ref 1), some (.int x1), some (.int x2), some (.int x3), some (.int x4), some (.int x5)] [] := by
  intro n
  induction n with
  | zero => intro x1 x2 x3 x4 x5 σ r h; cases h
  | succ n ih =>
    intro x1 x2 x3 x4 x5 σ r h
    rw [ef_P_nextOn_9] at h
    refine ej_iload B.1 d_P_nextOn_9 rfl ?_
    refine ej_bipush B.1 (v := 40) d_P_nextOn_11 (by decide +kernel) ?_
    refine ej_icmp_ge B.1 (tgt := 68) d_P_nextOn_13 (by decide) (fun q1 => ?_) (fun q1 => ?_)
    · replace h := er_it h q1
      refine ej_iload_n B.1 d_P_nextOn_68 rfl ?_
      cases h
      exact ej_iret B.1 B.2.1 B.2.2.1 (Nat.zero_le _) (Nat.zero_le _) d_P_nextOn_69
    · replace h := er_if h q1
      refine ej_aload_n B.1 d_P_nextOn_16 rfl ?_
      refine ej_getr B.1 (er_at B 1 rfl rfl) rfl rfl fl_P_9 d_P_nextOn_17 ?_
      refine ej_iload B.1 d_P_nextOn_20 rfl ?_
      obtain ⟨e2, h⟩ := er_gd_some h
      refine ej_iald B.1 (er_at B 5 rfl rfl) rfl e2 d_P_nextOn_22 ?_
      refine ej_iload_n B.1 d_P_nextOn_23 rfl ?_
      refine ej_icmp_ne B.1 (tgt := 62) d_P_nextOn_24 (by decide) (fun q3 => ?_) (fun q3 => ?_)
      · replace h := er_if h q3
        refine ej_iinc B.1 (v := x5 + 1) (lv' := [some (.ref 1), some (.int x1), some (.int x2), some (.int x3), some (.int x4), some (.int (x5 + 1))]) d_P_nextOn_62 rfl rfl rfl rfl rfl ?_
        refine ej_goto B.1 (tgt := 9) d_P_nextOn_65 (by decide) ?_
        exact ej_le (lv' := [some (.ref 1), some (.int x1), some (.int x2), some (.int x3), some (.int x4), some (.int (x5 + 1))]) ⟨rfl, ⟨rfl, ⟨rfl, ⟨rfl, ⟨rfl, ⟨rfl, trivial⟩⟩⟩⟩⟩⟩ (ih x1 x2 x3 x4 (x5 + 1) σ _ h)
      · replace h := er_it h q3
        refine ej_aload_n B.1 d_P_nextOn_27 rfl ?_
        refine ej_getr B.1 (er_at B 1 rfl rfl) rfl rfl fl_P_15 d_P_nextOn_28 ?_
        refine ej_iload B.1 d_P_nextOn_31 rfl ?_
        obtain ⟨e4, h⟩ := er_gd_some h
        refine ej_iald B.1 (er_at B 6 rfl rfl) rfl e4 d_P_nextOn_33 ?_
        refine ej_iload_n B.1 d_P_nextOn_34 rfl ?_
        refine ej_icmp_le B.1 (tgt := 62) d_P_nextOn_35 (by decide) (fun q5 => ?_) (fun q5 => ?_)
        · replace h := er_it h q5
          refine ej_iinc B.1 (v := x5 + 1) (lv' := [some (.ref 1), some (.int x1), some (.int x2), some (.int x3), some (.int x4), some (.int (x5 + 1))]) d_P_nextOn_62 rfl rfl rfl rfl rfl ?_
          refine ej_goto B.1 (tgt := 9) d_P_nextOn_65 (by decide) ?_
          exact ej_le (lv' := [some (.ref 1), some (.int x1), some (.int x2), some (.int x3), some (.int x4), some (.int (x5 + 1))]) ⟨rfl, ⟨rfl, ⟨rfl, ⟨rfl, ⟨rfl, ⟨rfl, trivial⟩⟩⟩⟩⟩⟩ (ih x1 x2 x3 x4 (x5 + 1) σ _ h)
        · replace h := er_if h q5
          refine ej_aload_n B.1 d_P_nextOn_38 rfl ?_
          refine ej_getr B.1 (er_at B 1 rfl rfl) rfl rfl fl_P_15 d_P_nextOn_39 ?_
          refine ej_iload B.1 d_P_nextOn_42 rfl ?_
          obtain ⟨e6, h⟩ := er_gd_some h
          refine ej_iald B.1 (er_at B 6 rfl rfl) rfl e6 d_P_nextOn_44 ?_
          refine ej_iload B.1 d_P_nextOn_45 rfl ?_
          refine ej_icmp_ge B.1 (tgt := 62) d_P_nextOn_47 (by decide) (fun q7 => ?_) (fun q7 => ?_)
          · replace h := er_it h q7
            refine ej_iinc B.1 (v := x5 + 1) (lv' := [some (.ref 1), some (.int x1), some (.int x2), some (.int x3), some (.int x4), some (.int (x5 + 1))]) d_P_nextOn_62 rfl rfl rfl rfl rfl ?_
            refine ej_goto B.1 (tgt := 9) d_P_nextOn_65 (by decide) ?_
            exact ej_le (lv' := [some (.ref 1), some (.int x1), some (.int x2), some (.int x3), some (.int x4), some (.int (x5 + 1))]) ⟨rfl, ⟨rfl, ⟨rfl, ⟨rfl, ⟨rfl, ⟨rfl, trivial⟩⟩⟩⟩⟩⟩ (ih x1 x2 x3 x4 (x5 + 1) σ _ h)
          · replace h := er_if h q7
            refine ej_iload B.1 d_P_nextOn_50 rfl ?_
            refine ej_istore_n B.1 (lv' := [some (.ref 1), some (.int x1), some (.int x2), some (.int x5), some (.int x4), some (.int x5)]) d_P_nextOn_52 rfl rfl rfl ?_
            refine ej_aload_n B.1 d_P_nextOn_53 rfl ?_
            refine ej_getr B.1 (er_at B 1 rfl rfl) rfl rfl fl_P_15 d_P_nextOn_54 ?_
            refine ej_iload B.1 d_P_nextOn_57 rfl ?_
            obtain ⟨e8, h⟩ := er_gd_some h
            refine ej_iald B.1 (er_at B 6 rfl rfl) rfl e8 d_P_nextOn_59 ?_
            refine ej_istore B.1 (lv' := [some (.ref 1), some (.int x1), some (.int x2), some (.int x5), some (.int (σ 6 (er_ix x5))), some (.int x5)]) d_P_nextOn_60 rfl rfl rfl ?_
            refine ej_iinc B.1 (v := x5 + 1) (lv' := [some (.ref 1), some (.int x1), some (.int x2), some (.int x5), some (.int (σ 6 (er_ix x5))), some (.int (x5 + 1))]) d_P_nextOn_62 rfl rfl rfl rfl rfl ?_
            refine ej_goto B.1 (tgt := 9) d_P_nextOn_65 (by decide) ?_
            exact ej_le (lv' := [some (.ref 1), some (.int x1), some (.int x2), some (.int x5), some (.int (σ 6 (er_ix x5))), some (.int (x5 + 1))]) ⟨rfl, ⟨rfl, ⟨rfl, ⟨rfl, ⟨rfl, ⟨rfl, trivial⟩⟩⟩⟩⟩⟩ (ih x1 x2 x5 (σ 6 (er_ix x5)) (x5 + 1) σ _ h)
set_option maxRecDepth 100000 in
set_option maxHeartbeats 4000000 in
theorem ec_P_nextOn {l : Launch} {G : er_G} (hE : er_Pr G 0 21) (x1 x2 : Int32) (σ : er_S) (r : Int32) (h : ef_P_nextOn x1 x2 σ = some r) : er_Con l y_P_nextOn w_P_nextOn 0 0 0 0 G [.ref 1, .int x1, .int x2] σ ((.inl (some (.int r)), σ)) := by
  refine er_ofJ (ret := some .int) (cc := b_P_nextOn) (maxL := 6) (lv0 := [some (.ref 1), some (.int x1), some (.int x2), none, none, none]) (hh := []) (by decide +kernel) rfl (Or.inl rfl) (by intro v hv; simp only [List.mem_cons, List.not_mem_nil, or_false] at hv; rcases hv with rfl | rfl | rfl <;> rfl) (Nat.le_of_ble_eq_true rfl) ?_
  intro p e s m args below meth c hadm C hr hlk hml hw hnm hm hcd
  have B : er_B p s m c meth b_P_nextOn "EntryRows$Persons" G (some .int) 6 0 21 := ⟨C, hr, hlk, hml, hE, er_noh hw hnm hm hcd⟩
  unfold ef_P_nextOn at h
  refine ej_iconst B.1 (v := (-1)) d_P_nextOn_0 rfl ?_
  refine ej_istore_n B.1 (lv' := [some (.ref 1), some (.int x1), some (.int x2), some (.int (-1)), none, none]) d_P_nextOn_1 rfl rfl rfl ?_
  refine ej_ldc B.1 (v := 2147483647) k_P_73 d_P_nextOn_2 ?_
  refine ej_istore B.1 (lv' := [some (.ref 1), some (.int x1), some (.int x2), some (.int (-1)), some (.int 2147483647), none]) d_P_nextOn_4 rfl rfl rfl ?_
  refine ej_iconst B.1 (v := 0) d_P_nextOn_6 rfl ?_
  refine ej_istore B.1 (lv' := [some (.ref 1), some (.int x1), some (.int x2), some (.int (-1)), some (.int 2147483647), some (.int 0)]) d_P_nextOn_7 rfl rfl rfl ?_
  exact ej_le (lv' := [some (.ref 1), some (.int x1), some (.int x2), some (.int (-1)), some (.int 2147483647), some (.int 0)]) ⟨rfl, ⟨rfl, ⟨rfl, ⟨rfl, ⟨rfl, ⟨rfl, trivial⟩⟩⟩⟩⟩⟩ (ew_P_nextOn_9 B 64 x1 x2 (-1) 2147483647 0 σ _ h)
set_option maxRecDepth 100000 in
set_option maxHeartbeats 4000000 in
theorem ew_E_on_70 {p : Program} {l : Launch} {e : Env} {s : State} {m : MethodId} {args : Array Value} {below : List Frame} {meth : Method} {c : Code} {G : er_G} (hl : l.admits e ∧ l.stackTraces = false) (B : er_B p s m c meth b_E_on "EntryRows" G (some .int) 6 0 21) (x4 : Int32) (σ : er_S) (r : (Int32 ⊕ Nat) × er_S) (h : ef_E_on_70 x4 σ = some r) : er_J p l e { frames := 8, cells := er_nc r.1, slots := er_ns r.1, locals := 125 } s m args below meth c G (er_A G s.heap.size) s.heap (er_fin below G s (er_nc r.1) (er_ns r.1) (er_cvi r)) 0 0 σ 70 [none, none, none, none, some (.int x4), none] [] := by
  unfold ef_E_on_70 at h
  refine ej_iload B.1 d_E_on_70 rfl ?_
  cases h
  exact ej_iret B.1 B.2.1 B.2.2.1 (Nat.zero_le _) (Nat.zero_le _) d_E_on_72
set_option maxRecDepth 100000 in
set_option maxHeartbeats 4000000 in
theorem ew_E_on_30 {p : Program} {l : Launch} {e : Env} {s : State} {m : MethodId} {args : Array Value} {below : List Frame} {meth : Method} {c : Code} {G : er_G} (hl : l.admits e ∧ l.stackTraces = false) (B : er_B p s m c meth b_E_on "EntryRows" G (some .int) 6 0 21) : ∀ (n : Nat) (x1 x3 x4 x5 : Int32) (σ : er_S) (r : (Int32 ⊕ Nat) × er_S), ef_E_on_30 n x1 x3 x4 x5 σ = some r → er_J p l e { frames := 8, cells := er_nc r.1, slots := er_ns r.1, locals := 125 } s m args below meth c G (er_A G s.heap.size) s.heap (er_fin below G s (er_nc r.1) (er_ns r.1) (er_cvi r)) 0 0 σ 30 [some (.ref 0), some (.int x1), none, some (.int x3), some (.int x4), some (.int x5)] [] := by
  intro n
  induction n with
  | zero => intro x1 x3 x4 x5 σ r h; cases h
  | succ n ih =>
    intro x1 x3 x4 x5 σ r h
    rw [ef_E_on_30] at h
    refine ej_iload B.1 d_E_on_30 rfl ?_
    refine ej_iload_n B.1 d_E_on_32 rfl ?_
    refine ej_icmp_ge B.1 (tgt := 70) d_E_on_33 (by decide) (fun q11 => ?_) (fun q11 => ?_)
    · replace h := er_it h q11
      exact ej_le (lv' := [none, none, none, none, some (.int x4), none]) ⟨rfl, trivial⟩ (ew_E_on_70 hl B x4 σ _ h)
    · replace h := er_if h q11
      refine ej_iload B.1 d_E_on_36 rfl ?_
      obtain ⟨v12, e13, h⟩ := er_bd_some h
      refine ej_cs_i (nc := 0) (ns := 0) B.1 [.int x4] [] (ec_E_isPerson (er_pr B) x4 σ v12 e13) cal_E_isPerson lk_E_173 st_E_isPerson rfl B.2.2.2.1 d_E_on_38 ⟨Nat.le_of_ble_eq_true rfl, Nat.le_of_ble_eq_true rfl, Nat.zero_le _, Nat.zero_le _⟩ (Nat.le_of_ble_eq_true rfl) rfl ?_
      refine ej_if_eq B.1 (tgt := 70) d_E_on_41 (by decide) (fun q14 => ?_) (fun q14 => ?_)
      · replace h := er_it h q14
        exact ej_le (lv' := [none, none, none, none, some (.int x4), none]) ⟨rfl, trivial⟩ (ew_E_on_70 hl B x4 σ _ h)
      · replace h := er_if h q14
        refine ej_aload_n B.1 d_E_on_44 rfl ?_
        refine ej_getr B.1 (er_at B 0 rfl rfl) rfl rfl fl_E_10 d_E_on_45 ?_
        refine ej_iload_n B.1 d_E_on_48 rfl ?_
        refine ej_aload_n B.1 d_E_on_49 rfl ?_
        refine ej_getr B.1 (er_at B 0 rfl rfl) rfl rfl fl_E_10 d_E_on_50 ?_
        refine ej_getr B.1 (er_at B 1 rfl rfl) rfl rfl fl_E_145 d_E_on_53 ?_
        refine ej_iload B.1 d_E_on_56 rfl ?_
        obtain ⟨e15, h⟩ := er_gd_some h
        refine ej_iald B.1 (er_at B 6 rfl rfl) rfl e15 d_E_on_58 ?_
        obtain ⟨v16, e17, h⟩ := er_bd_some h
        refine ej_cv_i (nc := 0) (ns := 0) B.1 [.int x1, .int (σ 6 (er_ix x4))] [] (ec_P_nextOn (er_pr B) x1 (σ 6 (er_ix x4)) σ v16 e17) cal_P_nextOn lk_E_170 in_P_nextOn (er_at B 1 rfl rfl) rfl rfl se_P_nextOn rfl B.2.2.2.1 d_E_on_59 ⟨Nat.le_of_ble_eq_true rfl, Nat.le_of_ble_eq_true rfl, Nat.zero_le _, Nat.zero_le _⟩ (Nat.le_of_ble_eq_true rfl) rfl ?_
        refine ej_istore B.1 (lv' := [some (.ref 0), some (.int x1), none, some (.int x3), some (.int v16), some (.int x5)]) d_E_on_62 rfl rfl rfl ?_
        refine ej_iinc B.1 (v := x5 + 1) (lv' := [some (.ref 0), some (.int x1), none, some (.int x3), some (.int v16), some (.int (x5 + 1))]) d_E_on_64 rfl rfl rfl rfl rfl ?_
        refine ej_goto B.1 (tgt := 30) d_E_on_67 (by decide) ?_
        exact ej_le (lv' := [some (.ref 0), some (.int x1), none, some (.int x3), some (.int v16), some (.int (x5 + 1))]) ⟨rfl, ⟨rfl, ⟨rfl, ⟨rfl, ⟨rfl, trivial⟩⟩⟩⟩⟩ (ih x1 x3 v16 (x5 + 1) σ _ h)
set_option maxRecDepth 100000 in
set_option maxHeartbeats 4000000 in
theorem ec_E_on {l : Launch} {G : er_G} (hl : l.stackTraces = false) (hE : er_Pr G 0 21) (x1 x2 : Int32) (σ : er_S) (r : (Int32 ⊕ Nat) × er_S) (h : ef_E_on x1 x2 σ = some r) : er_Con l y_E_on w_E_on 8 125 (er_nc r.1) (er_ns r.1) G [.ref 0, .int x1, .int x2] σ (er_cvi r) := by
  refine er_ofJ (ret := some .int) (cc := b_E_on) (maxL := 6) (lv0 := [some (.ref 0), some (.int x1), some (.int x2), none, none, none]) (hh := []) (by decide +kernel) rfl (Or.inl rfl) (by intro v hv; simp only [List.mem_cons, List.not_mem_nil, or_false] at hv; rcases hv with rfl | rfl | rfl <;> rfl) (Nat.le_of_ble_eq_true rfl) ?_
  intro p e s m args below meth c hadm C hr hlk hml hw hnm hm hcd
  have B : er_B p s m c meth b_E_on "EntryRows" G (some .int) 6 0 21 := ⟨C, hr, hlk, hml, hE, er_noh hw hnm hm hcd⟩
  have hl := And.intro hadm hl
  unfold ef_E_on at h
  refine ej_aload_n B.1 d_E_on_0 rfl ?_
  refine ej_iload_n B.1 d_E_on_1 rfl ?_
  rcases er_tb_some h with ⟨v1, g3, e2, h⟩ | ⟨k19, g3, e2, h⟩
  · refine ej_cv_v (nc := 0) (ns := 0) B.1 [.int x1] [] (ec_E_requireBoard hl.2 (er_pr B) x1 σ (.inl v1, g3) e2) cal_E_requireBoard lk_E_65 in_E_requireBoard (er_at B 0 rfl rfl) rfl rfl se_E_requireBoard rfl B.2.2.2.1 d_E_on_2 ⟨Nat.le_of_ble_eq_true rfl, Nat.le_of_ble_eq_true rfl, Nat.zero_le _, Nat.zero_le _⟩ (Nat.le_of_ble_eq_true rfl) rfl ?_
    refine ej_iload_n B.1 d_E_on_5 rfl ?_
    rcases er_tb_some h with ⟨v4, g6, e5, h⟩ | ⟨k18, g6, e5, h⟩
    · refine ej_cs_v (nc := 0) (ns := 0) B.1 [.int x2] [] (ec_E_requireNotNegative hl.2 (er_pr B) x2 g3 (.inl v4, g6) e5) cal_E_requireNotNegative lk_E_162 st_E_requireNotNegative rfl B.2.2.2.1 d_E_on_6 ⟨Nat.le_of_ble_eq_true rfl, Nat.le_of_ble_eq_true rfl, Nat.zero_le _, Nat.zero_le _⟩ (Nat.le_of_ble_eq_true rfl) rfl ?_
      refine ej_iload_n B.1 d_E_on_9 rfl ?_
      refine ej_bipush B.1 (v := 40) d_E_on_10 (by decide +kernel) ?_
      obtain ⟨v7, e8, h⟩ := er_bd_some h
      refine ej_cs_i (nc := 0) (ns := 0) B.1 [.int x2, .int 40] [] (ec_J_min x2 40 g6 v7 e8) cal_J_min lk_E_165 st_J_min rfl B.2.2.2.1 d_E_on_12 ⟨Nat.le_of_ble_eq_true rfl, Nat.le_of_ble_eq_true rfl, Nat.zero_le _, Nat.zero_le _⟩ (Nat.le_of_ble_eq_true rfl) rfl ?_
      refine ej_istore_n B.1 (lv' := [some (.ref 0), some (.int x1), some (.int x2), some (.int v7), none, none]) d_E_on_15 rfl rfl rfl ?_
      refine ej_aload_n B.1 d_E_on_16 rfl ?_
      refine ej_getr B.1 (er_at B 0 rfl rfl) rfl rfl fl_E_10 d_E_on_17 ?_
      refine ej_iload_n B.1 d_E_on_20 rfl ?_
      refine ej_iconst B.1 (v := (-1)) d_E_on_21 rfl ?_
      obtain ⟨v9, e10, h⟩ := er_bd_some h
      refine ej_cv_i (nc := 0) (ns := 0) B.1 [.int x1, .int (-1)] [] (ec_P_nextOn (er_pr B) x1 (-1) g6 v9 e10) cal_P_nextOn lk_E_170 in_P_nextOn (er_at B 1 rfl rfl) rfl rfl se_P_nextOn rfl B.2.2.2.1 d_E_on_22 ⟨Nat.le_of_ble_eq_true rfl, Nat.le_of_ble_eq_true rfl, Nat.zero_le _, Nat.zero_le _⟩ (Nat.le_of_ble_eq_true rfl) rfl ?_
      refine ej_istore B.1 (lv' := [some (.ref 0), some (.int x1), some (.int x2), some (.int v7), some (.int v9), none]) d_E_on_25 rfl rfl rfl ?_
      refine ej_iconst B.1 (v := 0) d_E_on_27 rfl ?_
      refine ej_istore B.1 (lv' := [some (.ref 0), some (.int x1), some (.int x2), some (.int v7), some (.int v9), some (.int 0)]) d_E_on_28 rfl rfl rfl ?_
      exact ej_le (lv' := [some (.ref 0), some (.int x1), none, some (.int v7), some (.int v9), some (.int 0)]) ⟨rfl, ⟨rfl, ⟨rfl, ⟨rfl, ⟨rfl, trivial⟩⟩⟩⟩⟩ (ew_E_on_30 hl B 64 x1 v7 v9 0 g6 _ h)
    · subst h
      exact ej_cs_t (nc := 1) (ns := 6) B.1 [.int x2] [] (ec_E_requireNotNegative hl.2 (er_pr B) x2 g3 (.inr k18, g6) e5) cal_E_requireNotNegative lk_E_162 st_E_requireNotNegative rfl B.2.2.2.1 d_E_on_6 ⟨Nat.le_of_ble_eq_true rfl, Nat.le_of_ble_eq_true rfl, Nat.le_of_ble_eq_true rfl, Nat.le_of_ble_eq_true rfl⟩ (Nat.le_of_ble_eq_true rfl) rfl B.2.2.1 (B.2.2.2.2.2 _) ⟨Nat.le_of_ble_eq_true rfl, Nat.le_of_ble_eq_true rfl⟩
  · subst h
    exact ej_cv_t (nc := 1) (ns := 6) B.1 [.int x1] [] (ec_E_requireBoard hl.2 (er_pr B) x1 σ (.inr k19, g3) e2) cal_E_requireBoard lk_E_65 in_E_requireBoard (er_at B 0 rfl rfl) rfl rfl se_E_requireBoard rfl B.2.2.2.1 d_E_on_2 ⟨Nat.le_of_ble_eq_true rfl, Nat.le_of_ble_eq_true rfl, Nat.le_of_ble_eq_true rfl, Nat.le_of_ble_eq_true rfl⟩ (Nat.le_of_ble_eq_true rfl) rfl B.2.2.1 (B.2.2.2.2.2 _) ⟨Nat.le_of_ble_eq_true rfl, Nat.le_of_ble_eq_true rfl⟩
