set_option maxRecDepth 100000 in
set_option maxHeartbeats 4000000 in
theorem ew_M_rest_17 {p : Program} {l : Launch} {e : Env} {s : State} {m : MethodId} {args : Array Value} {below : List Frame} {meth : Method} {c : Code} {G : er_G} (B : er_B p s m c meth b_M_rest "EntryRowsModel" G (none) 2 21 39) (x1 t1 : Int32) (σ : er_S) (r : Unit × er_S) (h : ef_M_rest_17 x1 t1 σ = some r) : er_J p l e { frames := 1, cells := 0, slots := 0, locals := 23 } s m args below meth c G (er_A G s.heap.size) s.heap (er_fin below G s 0 0 (.inl none, r.2)) 0 0 σ 17 [some (.ref 21), some (.int x1)] [.int t1, .ref 21] := by
  unfold ef_M_rest_17 at h
  refine ej_iconst B.1 (v := 0) d_M_rest_17 rfl ?_
  refine ej_iconst B.1 (v := 0) d_M_rest_18 rfl ?_
  obtain ⟨v4, g6, e5, h⟩ := er_bw_some h
  refine ej_cv_i (nc := 0) (ns := 0) B.1 [.int t1, .int 0, .int 0] [] (ec_M_throwing (er_pr B) t1 0 0 σ (v4, g6) e5) cal_M_throwing lk_M_84 in_M_throwing (er_at B 21 rfl rfl) rfl rfl se_M_throwing rfl B.2.2.2.1 d_M_rest_19 ⟨Nat.le_of_ble_eq_true rfl, Nat.le_of_ble_eq_true rfl, Nat.zero_le _, Nat.zero_le _⟩ (Nat.le_of_ble_eq_true rfl) rfl ?_
  refine ej_if_eq B.1 (tgt := 26) d_M_rest_22 (by decide) (fun q7 => ?_) (fun q7 => ?_)
  · replace h := er_it h q7
    refine ej_aload_n B.1 d_M_rest_26 rfl ?_
    refine ej_iload_n B.1 d_M_rest_27 rfl ?_
    refine ej_puti B.1 (er_at B 21 rfl rfl) rfl rfl fp_M_7 d_M_rest_28 ?_
    cases h
    exact ej_vret B.1 B.2.1 B.2.2.1 (Nat.zero_le _) (Nat.zero_le _) d_M_rest_31
  · replace h := er_if h q7
    cases h
    exact ej_vret B.1 B.2.1 B.2.2.1 (Nat.zero_le _) (Nat.zero_le _) d_M_rest_25
set_option maxRecDepth 100000 in
set_option maxHeartbeats 4000000 in
theorem ec_M_rest {l : Launch} {G : er_G} (hE : er_Pr G 21 39) (x1 : Int32) (σ : er_S) (r : Unit × er_S) (h : ef_M_rest x1 σ = some r) : er_Con l y_M_rest w_M_rest 1 23 0 0 G [.ref 21, .int x1] σ ((.inl none, r.2)) := by
  refine er_ofJ (ret := none) (cc := b_M_rest) (maxL := 2) (lv0 := [some (.ref 21), some (.int x1)]) (hh := []) (by decide +kernel) rfl (Or.inl rfl) (by intro v hv; simp only [List.mem_cons, List.not_mem_nil, or_false] at hv; rcases hv with rfl | rfl <;> rfl) (Nat.le_of_ble_eq_true rfl) ?_
  intro p e s m args below meth c hadm C hr hlk hml hw hnm hm hcd
  have B : er_B p s m c meth b_M_rest "EntryRowsModel" G (none) 2 21 39 := ⟨C, hr, hlk, hml, hE, er_noh hw hnm hm hcd⟩
  unfold ef_M_rest at h
  refine ej_aload_n B.1 d_M_rest_0 rfl ?_
  refine ej_iload_n B.1 d_M_rest_1 rfl ?_
  refine ej_iconst B.1 (v := 0) d_M_rest_2 rfl ?_
  refine ej_sipush B.1 (v := 10000) d_M_rest_3 (by decide +kernel) ?_
  obtain ⟨v1, e2, h⟩ := er_bd_some h
  refine ej_cs_i (nc := 0) (ns := 0) B.1 [.int x1, .int 0, .int 10000] [.ref 21] (ec_M_in (er_pr B) x1 0 10000 σ v1 e2) cal_M_in lk_M_73 st_M_in rfl B.2.2.2.1 d_M_rest_6 ⟨Nat.le_of_ble_eq_true rfl, Nat.le_of_ble_eq_true rfl, Nat.zero_le _, Nat.zero_le _⟩ (Nat.le_of_ble_eq_true rfl) rfl ?_
  refine ej_if_ne B.1 (tgt := 16) d_M_rest_9 (by decide) (fun q3 => ?_) (fun q3 => ?_)
  · replace h := er_if h q3
    refine ej_iconst B.1 (v := 0) d_M_rest_16 rfl ?_
    exact ej_le (lv' := [some (.ref 21), some (.int x1)]) ⟨rfl, ⟨rfl, trivial⟩⟩ (ew_M_rest_17 B x1 0 σ _ h)
  · replace h := er_it h q3
    refine ej_iconst B.1 (v := 1) d_M_rest_12 rfl ?_
    refine ej_goto B.1 (tgt := 17) d_M_rest_13 (by decide) ?_
    exact ej_le (lv' := [some (.ref 21), some (.int x1)]) ⟨rfl, ⟨rfl, trivial⟩⟩ (ew_M_rest_17 B x1 1 σ _ h)
set_option maxRecDepth 100000 in
set_option maxHeartbeats 4000000 in
theorem ew_M_heat_30 {p : Program} {l : Launch} {e : Env} {s : State} {m : MethodId} {args : Array Value} {below : List Frame} {meth : Method} {c : Code} {G : er_G} (B : er_B p s m c meth b_M_heat "EntryRowsModel" G (none) 3 21 39) (x1 x2 t1 t2 : Int32) (σ : er_S) (r : Unit × er_S) (h : ef_M_heat_30 x1 x2 t1 t2 σ = some r) : er_J p l e { frames := 1, cells := 0, slots := 0, locals := 23 } s m args below meth c G (er_A G s.heap.size) s.heap (er_fin below G s 0 0 (.inl none, r.2)) 0 0 σ 30 [some (.ref 21), some (.int x1), some (.int x2)] [.int t2, .int t1, .ref 21] := by
  unfold ef_M_heat_30 at h
  refine ej_iconst B.1 (v := 0) d_M_heat_30 rfl ?_
  obtain ⟨v7, g9, e8, h⟩ := er_bw_some h
  refine ej_cv_i (nc := 0) (ns := 0) B.1 [.int t1, .int t2, .int 0] [] (ec_M_throwing (er_pr B) t1 t2 0 σ (v7, g9) e8) cal_M_throwing lk_M_84 in_M_throwing (er_at B 21 rfl rfl) rfl rfl se_M_throwing rfl B.2.2.2.1 d_M_heat_31 ⟨Nat.le_of_ble_eq_true rfl, Nat.le_of_ble_eq_true rfl, Nat.zero_le _, Nat.zero_le _⟩ (Nat.le_of_ble_eq_true rfl) rfl ?_
  refine ej_if_eq B.1 (tgt := 38) d_M_heat_34 (by decide) (fun q10 => ?_) (fun q10 => ?_)
  · replace h := er_it h q10
    refine ej_aload_n B.1 d_M_heat_38 rfl ?_
    refine ej_getr B.1 (er_at B 21 rfl rfl) rfl rfl fl_M_13 d_M_heat_39 ?_
    refine ej_iload_n B.1 d_M_heat_42 rfl ?_
    refine ej_iload_n B.1 d_M_heat_43 rfl ?_
    obtain ⟨e11, h⟩ := er_gd_some h
    refine ej_iast B.1 (er_at B 22 rfl rfl) rfl e11 d_M_heat_44 ?_
    cases h
    exact ej_vret B.1 B.2.1 B.2.2.1 (Nat.zero_le _) (Nat.zero_le _) d_M_heat_45
  · replace h := er_if h q10
    cases h
    exact ej_vret B.1 B.2.1 B.2.2.1 (Nat.zero_le _) (Nat.zero_le _) d_M_heat_37
set_option maxRecDepth 100000 in
set_option maxHeartbeats 4000000 in
theorem ew_M_heat_15 {p : Program} {l : Launch} {e : Env} {s : State} {m : MethodId} {args : Array Value} {below : List Frame} {meth : Method} {c : Code} {G : er_G} (B : er_B p s m c meth b_M_heat "EntryRowsModel" G (none) 3 21 39) (x1 x2 t1 : Int32) (σ : er_S) (r : Unit × er_S) (h : ef_M_heat_15 x1 x2 t1 σ = some r) : er_J p l e { frames := 1, cells := 0, slots := 0, locals := 23 } s m args below meth c G (er_A G s.heap.size) s.heap (er_fin below G s 0 0 (.inl none, r.2)) 0 0 σ 15 [some (.ref 21), some (.int x1), some (.int x2)] [.int t1, .ref 21] := by
  unfold ef_M_heat_15 at h
  refine ej_iload_n B.1 d_M_heat_15 rfl ?_
  refine ej_iconst B.1 (v := 0) d_M_heat_16 rfl ?_
  refine ej_bipush B.1 (v := 100) d_M_heat_17 (by decide +kernel) ?_
  obtain ⟨v4, e5, h⟩ := er_bd_some h
  refine ej_cs_i (nc := 0) (ns := 0) B.1 [.int x2, .int 0, .int 100] [.int t1, .ref 21] (ec_M_in (er_pr B) x2 0 100 σ v4 e5) cal_M_in lk_M_73 st_M_in rfl B.2.2.2.1 d_M_heat_19 ⟨Nat.le_of_ble_eq_true rfl, Nat.le_of_ble_eq_true rfl, Nat.zero_le _, Nat.zero_le _⟩ (Nat.le_of_ble_eq_true rfl) rfl ?_
  refine ej_if_ne B.1 (tgt := 29) d_M_heat_22 (by decide) (fun q6 => ?_) (fun q6 => ?_)
  · replace h := er_if h q6
    refine ej_iconst B.1 (v := 0) d_M_heat_29 rfl ?_
    exact ej_le (lv' := [some (.ref 21), some (.int x1), some (.int x2)]) ⟨rfl, ⟨rfl, ⟨rfl, trivial⟩⟩⟩ (ew_M_heat_30 B x1 x2 t1 0 σ _ h)
  · replace h := er_it h q6
    refine ej_iconst B.1 (v := 1) d_M_heat_25 rfl ?_
    refine ej_goto B.1 (tgt := 30) d_M_heat_26 (by decide) ?_
    exact ej_le (lv' := [some (.ref 21), some (.int x1), some (.int x2)]) ⟨rfl, ⟨rfl, ⟨rfl, trivial⟩⟩⟩ (ew_M_heat_30 B x1 x2 t1 1 σ _ h)
set_option maxRecDepth 100000 in
set_option maxHeartbeats 4000000 in
theorem ec_M_heat {l : Launch} {G : er_G} (hE : er_Pr G 21 39) (x1 x2 : Int32) (σ : er_S) (r : Unit × er_S) (h : ef_M_heat x1 x2 σ = some r) : er_Con l y_M_heat w_M_heat 1 23 0 0 G [.ref 21, .int x1, .int x2] σ ((.inl none, r.2)) := by
  refine er_ofJ (ret := none) (cc := b_M_heat) (maxL := 3) (lv0 := [some (.ref 21), some (.int x1), some (.int x2)]) (hh := []) (by decide +kernel) rfl (Or.inl rfl) (by intro v hv; simp only [List.mem_cons, List.not_mem_nil, or_false] at hv; rcases hv with rfl | rfl | rfl <;> rfl) (Nat.le_of_ble_eq_true rfl) ?_
  intro p e s m args below meth c hadm C hr hlk hml hw hnm hm hcd
  have B : er_B p s m c meth b_M_heat "EntryRowsModel" G (none) 3 21 39 := ⟨C, hr, hlk, hml, hE, er_noh hw hnm hm hcd⟩
  unfold ef_M_heat at h
  refine ej_aload_n B.1 d_M_heat_0 rfl ?_
  refine ej_iload_n B.1 d_M_heat_1 rfl ?_
  refine ej_iconst B.1 (v := 0) d_M_heat_2 rfl ?_
  refine ej_iconst B.1 (v := 5) d_M_heat_3 rfl ?_
  obtain ⟨v1, e2, h⟩ := er_bd_some h
  refine ej_cs_i (nc := 0) (ns := 0) B.1 [.int x1, .int 0, .int 5] [.ref 21] (ec_M_in (er_pr B) x1 0 5 σ v1 e2) cal_M_in lk_M_73 st_M_in rfl B.2.2.2.1 d_M_heat_4 ⟨Nat.le_of_ble_eq_true rfl, Nat.le_of_ble_eq_true rfl, Nat.zero_le _, Nat.zero_le _⟩ (Nat.le_of_ble_eq_true rfl) rfl ?_
  refine ej_if_ne B.1 (tgt := 14) d_M_heat_7 (by decide) (fun q3 => ?_) (fun q3 => ?_)
  · replace h := er_if h q3
    refine ej_iconst B.1 (v := 0) d_M_heat_14 rfl ?_
    exact ej_le (lv' := [some (.ref 21), some (.int x1), some (.int x2)]) ⟨rfl, ⟨rfl, ⟨rfl, trivial⟩⟩⟩ (ew_M_heat_15 B x1 x2 0 σ _ h)
  · replace h := er_it h q3
    refine ej_iconst B.1 (v := 1) d_M_heat_10 rfl ?_
    refine ej_goto B.1 (tgt := 15) d_M_heat_11 (by decide) ?_
    exact ej_le (lv' := [some (.ref 21), some (.int x1), some (.int x2)]) ⟨rfl, ⟨rfl, ⟨rfl, trivial⟩⟩⟩ (ew_M_heat_15 B x1 x2 1 σ _ h)
set_option maxRecDepth 100000 in
set_option maxHeartbeats 4000000 in
theorem ew_M_sizeOf_4 {p : Program} {l : Launch} {e : Env} {s : State} {m : MethodId} {args : Array Value} {below : List Frame} {meth : Method} {c : Code} {G : er_G} (B : er_B p s m c meth b_M_sizeOf "EntryRowsModel" G (some .int) 4 21 39) : ∀ (n : Nat) (x1 x2 x3 : Int32) (σ : er_S) (r : Int32), ef_M_sizeOf_4 n x1 x2 x3 σ = some r → er_J p l e { frames := 0, cells := 0, slots := 0, locals := 0 } s m args below meth c G (er_A G s.heap.size) s.heap (er_fin below G s 0 0 (.inl (some (.int r)), σ)) 0 0 σ 4 [some (.ref 21), some (.int x1), some (.int x2), some (.int x3)] [] := by
  intro n
  induction n with
  | zero => intro x1 x2 x3 σ r h; cases h
  | succ n ih =>
    intro x1 x2 x3 σ r h
    rw [ef_M_sizeOf_4] at h
    refine ej_iload_n B.1 d_M_sizeOf_4 rfl ?_
    refine ej_bipush B.1 (v := 40) d_M_sizeOf_5 (by decide +kernel) ?_
    refine ej_icmp_ge B.1 (tgt := 34) d_M_sizeOf_7 (by decide) (fun q1 => ?_) (fun q1 => ?_)
    · replace h := er_it h q1
      refine ej_iload_n B.1 d_M_sizeOf_34 rfl ?_
      cases h
      exact ej_iret B.1 B.2.1 B.2.2.1 (Nat.zero_le _) (Nat.zero_le _) d_M_sizeOf_35
    · replace h := er_if h q1
      refine ej_iload_n B.1 d_M_sizeOf_10 rfl ?_
      refine ej_aload_n B.1 d_M_sizeOf_11 rfl ?_
      refine ej_getr B.1 (er_at B 21 rfl rfl) rfl rfl fl_M_36 d_M_sizeOf_12 ?_
      refine ej_iload_n B.1 d_M_sizeOf_15 rfl ?_
      obtain ⟨e2, h⟩ := er_gd_some h
      refine ej_iald B.1 (er_at B 29 rfl rfl) rfl e2 d_M_sizeOf_16 ?_
      refine ej_iload_n B.1 d_M_sizeOf_17 rfl ?_
      refine ej_icmp_ne B.1 (tgt := 25) d_M_sizeOf_18 (by decide) (fun q3 => ?_) (fun q3 => ?_)
      · replace h := er_if h q3
        refine ej_iconst B.1 (v := 0) d_M_sizeOf_25 rfl ?_
        refine ej_iadd B.1 d_M_sizeOf_26 ?_
        refine ej_istore_n B.1 (lv' := [some (.ref 21), some (.int x1), some (.int (x2 + 0)), some (.int x3)]) d_M_sizeOf_27 rfl rfl rfl ?_
        refine ej_iinc B.1 (v := x3 + 1) (lv' := [some (.ref 21), some (.int x1), some (.int (x2 + 0)), some (.int (x3 + 1))]) d_M_sizeOf_28 rfl rfl rfl rfl rfl ?_
        refine ej_goto B.1 (tgt := 4) d_M_sizeOf_31 (by decide) ?_
        exact ej_le (lv' := [some (.ref 21), some (.int x1), some (.int (x2 + 0)), some (.int (x3 + 1))]) ⟨rfl, ⟨rfl, ⟨rfl, ⟨rfl, trivial⟩⟩⟩⟩ (ih x1 (x2 + 0) (x3 + 1) σ _ h)
      · replace h := er_it h q3
        refine ej_iconst B.1 (v := 1) d_M_sizeOf_21 rfl ?_
        refine ej_goto B.1 (tgt := 26) d_M_sizeOf_22 (by decide) ?_
        refine ej_iadd B.1 d_M_sizeOf_26 ?_
        refine ej_istore_n B.1 (lv' := [some (.ref 21), some (.int x1), some (.int (x2 + 1)), some (.int x3)]) d_M_sizeOf_27 rfl rfl rfl ?_
        refine ej_iinc B.1 (v := x3 + 1) (lv' := [some (.ref 21), some (.int x1), some (.int (x2 + 1)), some (.int (x3 + 1))]) d_M_sizeOf_28 rfl rfl rfl rfl rfl ?_
        refine ej_goto B.1 (tgt := 4) d_M_sizeOf_31 (by decide) ?_
        exact ej_le (lv' := [some (.ref 21), some (.int x1), some (.int (x2 + 1)), some (.int (x3 + 1))]) ⟨rfl, ⟨rfl, ⟨rfl, ⟨rfl, trivial⟩⟩⟩⟩ (ih x1 (x2 + 1) (x3 + 1) σ _ h)
set_option maxRecDepth 100000 in
set_option maxHeartbeats 4000000 in
theorem ec_M_sizeOf {l : Launch} {G : er_G} (hE : er_Pr G 21 39) (x1 : Int32) (σ : er_S) (r : Int32) (h : ef_M_sizeOf x1 σ = some r) : er_Con l y_M_sizeOf w_M_sizeOf 0 0 0 0 G [.ref 21, .int x1] σ ((.inl (some (.int r)), σ)) := by
  refine er_ofJ (ret := some .int) (cc := b_M_sizeOf) (maxL := 4) (lv0 := [some (.ref 21), some (.int x1), none, none]) (hh := []) (by decide +kernel) rfl (Or.inl rfl) (by intro v hv; simp only [List.mem_cons, List.not_mem_nil, or_false] at hv; rcases hv with rfl | rfl <;> rfl) (Nat.le_of_ble_eq_true rfl) ?_
  intro p e s m args below meth c hadm C hr hlk hml hw hnm hm hcd
  have B : er_B p s m c meth b_M_sizeOf "EntryRowsModel" G (some .int) 4 21 39 := ⟨C, hr, hlk, hml, hE, er_noh hw hnm hm hcd⟩
  unfold ef_M_sizeOf at h
  refine ej_iconst B.1 (v := 0) d_M_sizeOf_0 rfl ?_
  refine ej_istore_n B.1 (lv' := [some (.ref 21), some (.int x1), some (.int 0), none]) d_M_sizeOf_1 rfl rfl rfl ?_
  refine ej_iconst B.1 (v := 0) d_M_sizeOf_2 rfl ?_
  refine ej_istore_n B.1 (lv' := [some (.ref 21), some (.int x1), some (.int 0), some (.int 0)]) d_M_sizeOf_3 rfl rfl rfl ?_
  exact ej_le (lv' := [some (.ref 21), some (.int x1), some (.int 0), some (.int 0)]) ⟨rfl, ⟨rfl, ⟨rfl, ⟨rfl, trivial⟩⟩⟩⟩ (ew_M_sizeOf_4 B 64 x1 0 0 σ _ h)
set_option maxRecDepth 100000 in
set_option maxHeartbeats 4000000 in
theorem ew_M_member_119 {p : Program} {l : Launch} {e : Env} {s : State} {m : MethodId} {args : Array Value} {below : List Frame} {meth : Method} {c : Code} {G : er_G} (B : er_B p s m c meth b_M_member "EntryRowsModel" G (some .int) 6 21 39) (x1 t1 t2 : Int32) (σ : er_S) (r : Int32 × er_S) (h : ef_M_member_119 x1 t1 t2 σ = some r) : er_J p l e { frames := 2, cells := 0, slots := 0, locals := 42 } s m args below meth c G (er_A G s.heap.size) s.heap (er_fin below G s 0 0 (.inl (some (.int r.1)), r.2)) 0 0 σ 119 [some (.ref 21), some (.int x1), none, none, none, none] [.int t2, .int t1, .ref 29] := by
  unfold ef_M_member_119 at h
  obtain ⟨e11, h⟩ := er_gd_some h
  refine ej_iast B.1 (er_at B 29 rfl rfl) rfl e11 d_M_member_119 ?_
  refine ej_aload_n B.1 d_M_member_120 rfl ?_
  refine ej_iload_n B.1 d_M_member_121 rfl ?_
  obtain ⟨v12, e13, h⟩ := er_bd_some h
  refine ej_cv_i (nc := 0) (ns := 0) B.1 [.int x1] [] (ec_M_sizeOf (er_pr B) x1 (er_up σ 29 (er_ix t1) t2) v12 e13) cal_M_sizeOf lk_M_98 in_M_sizeOf (er_at B 21 rfl rfl) rfl rfl se_M_sizeOf rfl B.2.2.2.1 d_M_member_122 ⟨Nat.le_of_ble_eq_true rfl, Nat.le_of_ble_eq_true rfl, Nat.zero_le _, Nat.zero_le _⟩ (Nat.le_of_ble_eq_true rfl) rfl ?_
  cases h
  exact ej_iret B.1 B.2.1 B.2.2.1 (Nat.zero_le _) (Nat.zero_le _) d_M_member_125
set_option maxRecDepth 100000 in
set_option maxHeartbeats 4000000 in
theorem ew_M_member_97 {p : Program} {l : Launch} {e : Env} {s : State} {m : MethodId} {args : Array Value} {below : List Frame} {meth : Method} {c : Code} {G : er_G} (B : er_B p s m c meth b_M_member "EntryRowsModel" G (some .int) 6 21 39) (x1 x2 x3 t1 t2 t3 : Int32) (σ : er_S) (r : Int32 × er_S) (h : ef_M_member_97 x1 x2 x3 t1 t2 t3 σ = some r) : er_J p l e { frames := 2, cells := 0, slots := 0, locals := 42 } s m args below meth c G (er_A G s.heap.size) s.heap (er_fin below G s 0 0 (.inl (some (.int r.1)), r.2)) 0 0 σ 97 [some (.ref 21), some (.int x1), some (.int x2), some (.int x3), none, none] [.int t3, .int t2, .int t1, .ref 21] := by
  unfold ef_M_member_97 at h
  obtain ⟨v6, g8, e7, h⟩ := er_bw_some h
  refine ej_cv_i (nc := 0) (ns := 0) B.1 [.int t1, .int t2, .int t3] [] (ec_M_throwing (er_pr B) t1 t2 t3 σ (v6, g8) e7) cal_M_throwing lk_M_84 in_M_throwing (er_at B 21 rfl rfl) rfl rfl se_M_throwing rfl B.2.2.2.1 d_M_member_97 ⟨Nat.le_of_ble_eq_true rfl, Nat.le_of_ble_eq_true rfl, Nat.zero_le _, Nat.zero_le _⟩ (Nat.le_of_ble_eq_true rfl) rfl ?_
  refine ej_if_eq B.1 (tgt := 105) d_M_member_100 (by decide) (fun q9 => ?_) (fun q9 => ?_)
  · replace h := er_it h q9
    refine ej_aload_n B.1 d_M_member_105 rfl ?_
    refine ej_getr B.1 (er_at B 21 rfl rfl) rfl rfl fl_M_36 d_M_member_106 ?_
    refine ej_iload_n B.1 d_M_member_109 rfl ?_
    refine ej_iload_n B.1 d_M_member_110 rfl ?_
    refine ej_if_eq B.1 (tgt := 118) d_M_member_111 (by decide) (fun q10 => ?_) (fun q10 => ?_)
    · replace h := er_it h q10
      refine ej_iconst B.1 (v := (-1)) d_M_member_118 rfl ?_
      exact ej_le (lv' := [some (.ref 21), some (.int x1), none, none, none, none]) ⟨rfl, ⟨rfl, trivial⟩⟩ (ew_M_member_119 B x1 x2 (-1) g8 _ h)
    · replace h := er_if h q10
      refine ej_iload_n B.1 d_M_member_114 rfl ?_
      refine ej_goto B.1 (tgt := 119) d_M_member_115 (by decide) ?_
      exact ej_le (lv' := [some (.ref 21), some (.int x1), none, none, none, none]) ⟨rfl, ⟨rfl, trivial⟩⟩ (ew_M_member_119 B x1 x2 x1 g8 _ h)
  · replace h := er_if h q9
    refine ej_iconst B.1 (v := 0) d_M_member_103 rfl ?_
    cases h
    exact ej_iret B.1 B.2.1 B.2.2.1 (Nat.zero_le _) (Nat.zero_le _) d_M_member_104
set_option maxRecDepth 100000 in
set_option maxHeartbeats 4000000 in
theorem ew_M_member_96 {p : Program} {l : Launch} {e : Env} {s : State} {m : MethodId} {args : Array Value} {below : List Frame} {meth : Method} {c : Code} {G : er_G} (B : er_B p s m c meth b_M_member "EntryRowsModel" G (some .int) 6 21 39) (x1 x2 x3 t1 t2 : Int32) (σ : er_S) (r : Int32 × er_S) (h : ef_M_member_96 x1 x2 x3 t1 t2 σ = some r) : er_J p l e { frames := 2, cells := 0, slots := 0, locals := 42 } s m args below meth c G (er_A G s.heap.size) s.heap (er_fin below G s 0 0 (.inl (some (.int r.1)), r.2)) 0 0 σ 96 [some (.ref 21), some (.int x1), some (.int x2), some (.int x3), none, none] [.int t2, .int t1, .ref 21] := by
  unfold ef_M_member_96 at h
  refine ej_iconst B.1 (v := 0) d_M_member_96 rfl ?_
  exact ej_le (lv' := [some (.ref 21), some (.int x1), some (.int x2), some (.int x3), none, none]) ⟨rfl, ⟨rfl, ⟨rfl, ⟨rfl, trivial⟩⟩⟩⟩ (ew_M_member_97 B x1 x2 x3 t1 t2 0 σ _ h)
set_option maxRecDepth 100000 in
set_option maxHeartbeats 4000000 in
theorem ew_M_member_66 {p : Program} {l : Launch} {e : Env} {s : State} {m : MethodId} {args : Array Value} {below : List Frame} {meth : Method} {c : Code} {G : er_G} (B : er_B p s m c meth b_M_member "EntryRowsModel" G (some .int) 6 21 39) (x1 x2 x3 x4 t0 : Int32) (σ : er_S) (r : Int32 × er_S) (h : ef_M_member_66 x1 x2 x3 x4 t0 σ = some r) : er_J p l e { frames := 2, cells := 0, slots := 0, locals := 42 } s m args below meth c G (er_A G s.heap.size) s.heap (er_fin below G s 0 0 (.inl (some (.int r.1)), r.2)) 0 0 σ 66 [some (.ref 21), some (.int x1), some (.int x2), some (.int x3), some (.int x4), none] [.int t0] := by
  unfold ef_M_member_66 at h
  refine ej_istore B.1 (lv' := [some (.ref 21), some (.int x1), some (.int x2), some (.int x3), some (.int x4), some (.int t0)]) d_M_member_66 rfl rfl rfl ?_
  refine ej_aload_n B.1 d_M_member_68 rfl ?_
  refine ej_iload B.1 d_M_member_69 rfl ?_
  refine ej_iload B.1 d_M_member_71 rfl ?_
  refine ej_iload B.1 d_M_member_73 rfl ?_
  refine ej_if_ne B.1 (tgt := 96) d_M_member_75 (by decide) (fun q5 => ?_) (fun q5 => ?_)
  · replace h := er_if h q5
    exact ej_le (lv' := [some (.ref 21), some (.int x1), some (.int x2), some (.int x3), none, none]) ⟨rfl, ⟨rfl, ⟨rfl, ⟨rfl, trivial⟩⟩⟩⟩ (ew_M_member_96 B x1 x2 x3 x4 t0 σ _ h)
  · replace h := er_it h q5
    refine ej_iload_n B.1 d_M_member_78 rfl ?_
    refine ej_if_eq B.1 (tgt := 96) d_M_member_79 (by decide) (fun q14 => ?_) (fun q14 => ?_)
    · replace h := er_it h q14
      exact ej_le (lv' := [some (.ref 21), some (.int x1), some (.int x2), some (.int x3), none, none]) ⟨rfl, ⟨rfl, ⟨rfl, ⟨rfl, trivial⟩⟩⟩⟩ (ew_M_member_96 B x1 x2 x3 x4 t0 σ _ h)
    · replace h := er_if h q14
      refine ej_aload_n B.1 d_M_member_82 rfl ?_
      refine ej_iload_n B.1 d_M_member_83 rfl ?_
      obtain ⟨v15, e16, h⟩ := er_bd_some h
      refine ej_cv_i (nc := 0) (ns := 0) B.1 [.int x1] [.int t0, .int x4, .ref 21] (ec_M_sizeOf (er_pr B) x1 σ v15 e16) cal_M_sizeOf lk_M_98 in_M_sizeOf (er_at B 21 rfl rfl) rfl rfl se_M_sizeOf rfl B.2.2.2.1 d_M_member_84 ⟨Nat.le_of_ble_eq_true rfl, Nat.le_of_ble_eq_true rfl, Nat.zero_le _, Nat.zero_le _⟩ (Nat.le_of_ble_eq_true rfl) rfl ?_
      refine ej_bipush B.1 (v := 6) d_M_member_87 (by decide +kernel) ?_
      refine ej_icmp_ne B.1 (tgt := 96) d_M_member_89 (by decide) (fun q17 => ?_) (fun q17 => ?_)
      · replace h := er_if h q17
        exact ej_le (lv' := [some (.ref 21), some (.int x1), some (.int x2), some (.int x3), none, none]) ⟨rfl, ⟨rfl, ⟨rfl, ⟨rfl, trivial⟩⟩⟩⟩ (ew_M_member_96 B x1 x2 x3 x4 t0 σ _ h)
      · replace h := er_it h q17
        refine ej_iconst B.1 (v := 1) d_M_member_92 rfl ?_
        refine ej_goto B.1 (tgt := 97) d_M_member_93 (by decide) ?_
        exact ej_le (lv' := [some (.ref 21), some (.int x1), some (.int x2), some (.int x3), none, none]) ⟨rfl, ⟨rfl, ⟨rfl, ⟨rfl, trivial⟩⟩⟩⟩ (ew_M_member_97 B x1 x2 x3 x4 t0 1 σ _ h)
set_option maxRecDepth 100000 in
set_option maxHeartbeats 4000000 in
theorem ew_M_member_65 {p : Program} {l : Launch} {e : Env} {s : State} {m : MethodId} {args : Array Value} {below : List Frame} {meth : Method} {c : Code} {G : er_G} (B : er_B p s m c meth b_M_member "EntryRowsModel" G (some .int) 6 21 39) (x1 x2 x3 x4 : Int32) (σ : er_S) (r : Int32 × er_S) (h : ef_M_member_65 x1 x2 x3 x4 σ = some r) : er_J p l e { frames := 2, cells := 0, slots := 0, locals := 42 } s m args below meth c G (er_A G s.heap.size) s.heap (er_fin below G s 0 0 (.inl (some (.int r.1)), r.2)) 0 0 σ 65 [some (.ref 21), some (.int x1), some (.int x2), some (.int x3), some (.int x4), none] [] := by
  unfold ef_M_member_65 at h
  refine ej_iconst B.1 (v := 0) d_M_member_65 rfl ?_
  exact ej_le (lv' := [some (.ref 21), some (.int x1), some (.int x2), some (.int x3), some (.int x4), none]) ⟨rfl, ⟨rfl, ⟨rfl, ⟨rfl, ⟨rfl, trivial⟩⟩⟩⟩⟩ (ew_M_member_66 B x1 x2 x3 x4 0 σ _ h)
set_option maxRecDepth 100000 in
set_option maxHeartbeats 4000000 in
theorem ew_M_member_61 {p : Program} {l : Launch} {e : Env} {s : State} {m : MethodId} {args : Array Value} {below : List Frame} {meth : Method} {c : Code} {G : er_G} (B : er_B p s m c meth b_M_member "EntryRowsModel" G (some .int) 6 21 39) (x1 x2 x3 x4 : Int32) (σ : er_S) (r : Int32 × er_S) (h : ef_M_member_61 x1 x2 x3 x4 σ = some r) : er_J p l e { frames := 2, cells := 0, slots := 0, locals := 42 } s m args below meth c G (er_A G s.heap.size) s.heap (er_fin below G s 0 0 (.inl (some (.int r.1)), r.2)) 0 0 σ 61 [some (.ref 21), some (.int x1), some (.int x2), some (.int x3), some (.int x4), none] [] := by
  unfold ef_M_member_61 at h
  refine ej_iconst B.1 (v := 1) d_M_member_61 rfl ?_
  refine ej_goto B.1 (tgt := 66) d_M_member_62 (by decide) ?_
  exact ej_le (lv' := [some (.ref 21), some (.int x1), some (.int x2), some (.int x3), some (.int x4), none]) ⟨rfl, ⟨rfl, ⟨rfl, ⟨rfl, ⟨rfl, trivial⟩⟩⟩⟩⟩ (ew_M_member_66 B x1 x2 x3 x4 1 σ _ h)
set_option maxRecDepth 100000 in
set_option maxHeartbeats 4000000 in
theorem ew_M_member_19 {p : Program} {l : Launch} {e : Env} {s : State} {m : MethodId} {args : Array Value} {below : List Frame} {meth : Method} {c : Code} {G : er_G} (B : er_B p s m c meth b_M_member "EntryRowsModel" G (some .int) 6 21 39) (x1 x2 x3 t0 : Int32) (σ : er_S) (r : Int32 × er_S) (h : ef_M_member_19 x1 x2 x3 t0 σ = some r) : er_J p l e { frames := 2, cells := 0, slots := 0, locals := 42 } s m args below meth c G (er_A G s.heap.size) s.heap (er_fin below G s 0 0 (.inl (some (.int r.1)), r.2)) 0 0 σ 19 [some (.ref 21), some (.int x1), some (.int x2), some (.int x3), none, none] [.int t0] := by
  unfold ef_M_member_19 at h
  refine ej_istore B.1 (lv' := [some (.ref 21), some (.int x1), some (.int x2), some (.int x3), some (.int t0), none]) d_M_member_19 rfl rfl rfl ?_
  refine ej_iload B.1 d_M_member_21 rfl ?_
  refine ej_if_ne B.1 (tgt := 65) d_M_member_23 (by decide) (fun q4 => ?_) (fun q4 => ?_)
  · replace h := er_if h q4
    exact ej_le (lv' := [some (.ref 21), some (.int x1), some (.int x2), some (.int x3), some (.int t0), none]) ⟨rfl, ⟨rfl, ⟨rfl, ⟨rfl, ⟨rfl, trivial⟩⟩⟩⟩⟩ (ew_M_member_65 B x1 x2 x3 t0 σ _ h)
  · replace h := er_it h q4
    refine ej_aload_n B.1 d_M_member_26 rfl ?_
    refine ej_getr B.1 (er_at B 21 rfl rfl) rfl rfl fl_M_42 d_M_member_27 ?_
    refine ej_iload_n B.1 d_M_member_30 rfl ?_
    obtain ⟨e18, h⟩ := er_gd_some h
    refine ej_iald B.1 (er_at B 31 rfl rfl) rfl e18 d_M_member_31 ?_
    refine ej_if_ge B.1 (tgt := 61) d_M_member_32 (by decide) (fun q19 => ?_) (fun q19 => ?_)
    · replace h := er_it h q19
      exact ej_le (lv' := [some (.ref 21), some (.int x1), some (.int x2), some (.int x3), some (.int t0), none]) ⟨rfl, ⟨rfl, ⟨rfl, ⟨rfl, ⟨rfl, trivial⟩⟩⟩⟩⟩ (ew_M_member_61 B x1 x2 x3 t0 σ _ h)
    · replace h := er_if h q19
      refine ej_iload_n B.1 d_M_member_35 rfl ?_
      refine ej_if_eq B.1 (tgt := 51) d_M_member_36 (by decide) (fun q20 => ?_) (fun q20 => ?_)
      · replace h := er_it h q20
        refine ej_aload_n B.1 d_M_member_51 rfl ?_
        refine ej_getr B.1 (er_at B 21 rfl rfl) rfl rfl fl_M_36 d_M_member_52 ?_
        refine ej_iload_n B.1 d_M_member_55 rfl ?_
        obtain ⟨e21, h⟩ := er_gd_some h
        refine ej_iald B.1 (er_at B 29 rfl rfl) rfl e21 d_M_member_56 ?_
        refine ej_iload_n B.1 d_M_member_57 rfl ?_
        refine ej_icmp_eq B.1 (tgt := 65) d_M_member_58 (by decide) (fun q22 => ?_) (fun q22 => ?_)
        · replace h := er_it h q22
          exact ej_le (lv' := [some (.ref 21), some (.int x1), some (.int x2), some (.int x3), some (.int t0), none]) ⟨rfl, ⟨rfl, ⟨rfl, ⟨rfl, ⟨rfl, trivial⟩⟩⟩⟩⟩ (ew_M_member_65 B x1 x2 x3 t0 σ _ h)
        · replace h := er_if h q22
          exact ej_le (lv' := [some (.ref 21), some (.int x1), some (.int x2), some (.int x3), some (.int t0), none]) ⟨rfl, ⟨rfl, ⟨rfl, ⟨rfl, ⟨rfl, trivial⟩⟩⟩⟩⟩ (ew_M_member_61 B x1 x2 x3 t0 σ _ h)
      · replace h := er_if h q20
        refine ej_aload_n B.1 d_M_member_39 rfl ?_
        refine ej_getr B.1 (er_at B 21 rfl rfl) rfl rfl fl_M_36 d_M_member_40 ?_
        refine ej_iload_n B.1 d_M_member_43 rfl ?_
        obtain ⟨e23, h⟩ := er_gd_some h
        refine ej_iald B.1 (er_at B 29 rfl rfl) rfl e23 d_M_member_44 ?_
        refine ej_if_lt B.1 (tgt := 65) d_M_member_45 (by decide) (fun q24 => ?_) (fun q24 => ?_)
        · replace h := er_it h q24
          exact ej_le (lv' := [some (.ref 21), some (.int x1), some (.int x2), some (.int x3), some (.int t0), none]) ⟨rfl, ⟨rfl, ⟨rfl, ⟨rfl, ⟨rfl, trivial⟩⟩⟩⟩⟩ (ew_M_member_65 B x1 x2 x3 t0 σ _ h)
        · replace h := er_if h q24
          refine ej_goto B.1 (tgt := 61) d_M_member_48 (by decide) ?_
          exact ej_le (lv' := [some (.ref 21), some (.int x1), some (.int x2), some (.int x3), some (.int t0), none]) ⟨rfl, ⟨rfl, ⟨rfl, ⟨rfl, ⟨rfl, trivial⟩⟩⟩⟩⟩ (ew_M_member_61 B x1 x2 x3 t0 σ _ h)
set_option maxRecDepth 100000 in
set_option maxHeartbeats 4000000 in
theorem ew_M_member_14 {p : Program} {l : Launch} {e : Env} {s : State} {m : MethodId} {args : Array Value} {below : List Frame} {meth : Method} {c : Code} {G : er_G} (B : er_B p s m c meth b_M_member "EntryRowsModel" G (some .int) 6 21 39) (x1 x2 x3 : Int32) (σ : er_S) (r : Int32 × er_S) (h : ef_M_member_14 x1 x2 x3 σ = some r) : er_J p l e { frames := 2, cells := 0, slots := 0, locals := 42 } s m args below meth c G (er_A G s.heap.size) s.heap (er_fin below G s 0 0 (.inl (some (.int r.1)), r.2)) 0 0 σ 14 [some (.ref 21), some (.int x1), some (.int x2), some (.int x3), none, none] [] := by
  unfold ef_M_member_14 at h
  refine ej_iconst B.1 (v := 1) d_M_member_14 rfl ?_
  refine ej_goto B.1 (tgt := 19) d_M_member_15 (by decide) ?_
  exact ej_le (lv' := [some (.ref 21), some (.int x1), some (.int x2), some (.int x3), none, none]) ⟨rfl, ⟨rfl, ⟨rfl, ⟨rfl, trivial⟩⟩⟩⟩ (ew_M_member_19 B x1 x2 x3 1 σ _ h)
set_option maxRecDepth 100000 in
set_option maxHeartbeats 4000000 in
theorem ec_M_member {l : Launch} {G : er_G} (hE : er_Pr G 21 39) (x1 x2 x3 : Int32) (σ : er_S) (r : Int32 × er_S) (h : ef_M_member x1 x2 x3 σ = some r) : er_Con l y_M_member w_M_member 2 42 0 0 G [.ref 21, .int x1, .int x2, .int x3] σ ((.inl (some (.int r.1)), r.2)) := by
  refine er_ofJ (ret := some .int) (cc := b_M_member) (maxL := 6) (lv0 := [some (.ref 21), some (.int x1), some (.int x2), some (.int x3), none, none]) (hh := []) (by decide +kernel) rfl (Or.inl rfl) (by intro v hv; simp only [List.mem_cons, List.not_mem_nil, or_false] at hv; rcases hv with rfl | rfl | rfl | rfl <;> rfl) (Nat.le_of_ble_eq_true rfl) ?_
  intro p e s m args below meth c hadm C hr hlk hml hw hnm hm hcd
  have B : er_B p s m c meth b_M_member "EntryRowsModel" G (some .int) 6 21 39 := ⟨C, hr, hlk, hml, hE, er_noh hw hnm hm hcd⟩
  unfold ef_M_member at h
  refine ej_iload_n B.1 d_M_member_0 rfl ?_
  obtain ⟨v1, e2, h⟩ := er_bd_some h
  refine ej_cs_i (nc := 0) (ns := 0) B.1 [.int x1] [] (ec_M_isTeam (er_pr B) x1 σ v1 e2) cal_M_isTeam lk_M_95 st_M_isTeam rfl B.2.2.2.1 d_M_member_1 ⟨Nat.le_of_ble_eq_true rfl, Nat.le_of_ble_eq_true rfl, Nat.zero_le _, Nat.zero_le _⟩ (Nat.le_of_ble_eq_true rfl) rfl ?_
  refine ej_if_eq B.1 (tgt := 14) d_M_member_4 (by decide) (fun q3 => ?_) (fun q3 => ?_)
  · replace h := er_it h q3
    exact ej_le (lv' := [some (.ref 21), some (.int x1), some (.int x2), some (.int x3), none, none]) ⟨rfl, ⟨rfl, ⟨rfl, ⟨rfl, trivial⟩⟩⟩⟩ (ew_M_member_14 B x1 x2 x3 σ _ h)
  · replace h := er_if h q3
    refine ej_iload_n B.1 d_M_member_7 rfl ?_
    obtain ⟨v25, e26, h⟩ := er_bd_some h
    refine ej_cs_i (nc := 0) (ns := 0) B.1 [.int x2] [] (ec_M_isPerson (er_pr B) x2 σ v25 e26) cal_M_isPerson lk_M_88 st_M_isPerson rfl B.2.2.2.1 d_M_member_8 ⟨Nat.le_of_ble_eq_true rfl, Nat.le_of_ble_eq_true rfl, Nat.zero_le _, Nat.zero_le _⟩ (Nat.le_of_ble_eq_true rfl) rfl ?_
    refine ej_if_ne B.1 (tgt := 18) d_M_member_11 (by decide) (fun q27 => ?_) (fun q27 => ?_)
    · replace h := er_if h q27
      refine ej_iconst B.1 (v := 0) d_M_member_18 rfl ?_
      exact ej_le (lv' := [some (.ref 21), some (.int x1), some (.int x2), some (.int x3), none, none]) ⟨rfl, ⟨rfl, ⟨rfl, ⟨rfl, trivial⟩⟩⟩⟩ (ew_M_member_19 B x1 x2 x3 0 σ _ h)
    · replace h := er_it h q27
      exact ej_le (lv' := [some (.ref 21), some (.int x1), some (.int x2), some (.int x3), none, none]) ⟨rfl, ⟨rfl, ⟨rfl, ⟨rfl, trivial⟩⟩⟩⟩ (ew_M_member_14 B x1 x2 x3 σ _ h)
set_option maxRecDepth 100000 in
set_option maxHeartbeats 4000000 in
theorem ew_M_isReady_23 {p : Program} {l : Launch} {e : Env} {s : State} {m : MethodId} {args : Array Value} {below : List Frame} {meth : Method} {c : Code} {G : er_G} (B : er_B p s m c meth b_M_isReady "EntryRowsModel" G (some .boolean) 5 21 39) : ∀ (n : Nat) (x1 x3 x4 : Int32) (σ : er_S) (r : Int32), ef_M_isReady_23 n x1 x3 x4 σ = some r → er_J p l e { frames := 1, cells := 0, slots := 0, locals := 23 } s m args below meth c G (er_A G s.heap.size) s.heap (er_fin below G s 0 0 (.inl (some (.int r)), σ)) 0 0 σ 23 [some (.ref 21), some (.int x1), none, some (.int x3), some (.int x4)] [] := by
  intro n
  induction n with
  | zero => intro x1 x3 x4 σ r h; cases h
  | succ n ih =>
    intro x1 x3 x4 σ r h
    rw [ef_M_isReady_23] at h
    refine ej_iload B.1 d_M_isReady_23 rfl ?_
    refine ej_bipush B.1 (v := 40) d_M_isReady_25 (by decide +kernel) ?_
    refine ej_icmp_ge B.1 (tgt := 82) d_M_isReady_27 (by decide) (fun q5 => ?_) (fun q5 => ?_)
    · replace h := er_it h q5
      refine ej_iload_n B.1 d_M_isReady_82 rfl ?_
      obtain ⟨e6, h⟩ := er_gd_some h
      cases h
      exact ej_zret B.1 B.2.1 B.2.2.1 (Nat.zero_le _) (Nat.zero_le _) e6 d_M_isReady_83
    · replace h := er_if h q5
      refine ej_aload_n B.1 d_M_isReady_30 rfl ?_
      refine ej_getr B.1 (er_at B 21 rfl rfl) rfl rfl fl_M_36 d_M_isReady_31 ?_
      refine ej_iload B.1 d_M_isReady_34 rfl ?_
      obtain ⟨e7, h⟩ := er_gd_some h
      refine ej_iald B.1 (er_at B 29 rfl rfl) rfl e7 d_M_isReady_36 ?_
      refine ej_iload_n B.1 d_M_isReady_37 rfl ?_
      refine ej_icmp_ne B.1 (tgt := 76) d_M_isReady_38 (by decide) (fun q8 => ?_) (fun q8 => ?_)
      · replace h := er_if h q8
        refine ej_iinc B.1 (v := x4 + 1) (lv' := [some (.ref 21), some (.int x1), none, some (.int x3), some (.int (x4 + 1))]) d_M_isReady_76 rfl rfl rfl rfl rfl ?_
        refine ej_goto B.1 (tgt := 23) d_M_isReady_79 (by decide) ?_
        exact ej_le (lv' := [some (.ref 21), some (.int x1), none, some (.int x3), some (.int (x4 + 1))]) ⟨rfl, ⟨rfl, ⟨rfl, ⟨rfl, trivial⟩⟩⟩⟩ (ih x1 x3 (x4 + 1) σ _ h)
      · replace h := er_it h q8
        refine ej_aload_n B.1 d_M_isReady_41 rfl ?_
        refine ej_getr B.1 (er_at B 21 rfl rfl) rfl rfl fl_M_42 d_M_isReady_42 ?_
        refine ej_iload B.1 d_M_isReady_45 rfl ?_
        obtain ⟨e9, h⟩ := er_gd_some h
        refine ej_iald B.1 (er_at B 31 rfl rfl) rfl e9 d_M_isReady_47 ?_
        refine ej_if_ge B.1 (tgt := 74) d_M_isReady_48 (by decide) (fun q10 => ?_) (fun q10 => ?_)
        · replace h := er_it h q10
          refine ej_iconst B.1 (v := 0) d_M_isReady_74 rfl ?_
          refine ej_istore_n B.1 (lv' := [some (.ref 21), some (.int x1), none, some (.int 0), some (.int x4)]) d_M_isReady_75 rfl rfl rfl ?_
          refine ej_iinc B.1 (v := x4 + 1) (lv' := [some (.ref 21), some (.int x1), none, some (.int 0), some (.int (x4 + 1))]) d_M_isReady_76 rfl rfl rfl rfl rfl ?_
          refine ej_goto B.1 (tgt := 23) d_M_isReady_79 (by decide) ?_
          exact ej_le (lv' := [some (.ref 21), some (.int x1), none, some (.int 0), some (.int (x4 + 1))]) ⟨rfl, ⟨rfl, ⟨rfl, ⟨rfl, trivial⟩⟩⟩⟩ (ih x1 0 (x4 + 1) σ _ h)
        · replace h := er_if h q10
          refine ej_aload_n B.1 d_M_isReady_51 rfl ?_
          refine ej_geti B.1 (er_at B 21 rfl rfl) rfl rfl fl_M_101 d_M_isReady_52 ?_
          refine ej_aload_n B.1 d_M_isReady_55 rfl ?_
          refine ej_getr B.1 (er_at B 21 rfl rfl) rfl rfl fl_M_57 d_M_isReady_56 ?_
          refine ej_iload B.1 d_M_isReady_59 rfl ?_
          obtain ⟨e11, h⟩ := er_gd_some h
          refine ej_iald B.1 (er_at B 36 rfl rfl) rfl e11 d_M_isReady_61 ?_
          refine ej_icmp_lt B.1 (tgt := 74) d_M_isReady_62 (by decide) (fun q12 => ?_) (fun q12 => ?_)
          · replace h := er_it h q12
            refine ej_iconst B.1 (v := 0) d_M_isReady_74 rfl ?_
            refine ej_istore_n B.1 (lv' := [some (.ref 21), some (.int x1), none, some (.int 0), some (.int x4)]) d_M_isReady_75 rfl rfl rfl ?_
            refine ej_iinc B.1 (v := x4 + 1) (lv' := [some (.ref 21), some (.int x1), none, some (.int 0), some (.int (x4 + 1))]) d_M_isReady_76 rfl rfl rfl rfl rfl ?_
            refine ej_goto B.1 (tgt := 23) d_M_isReady_79 (by decide) ?_
            exact ej_le (lv' := [some (.ref 21), some (.int x1), none, some (.int 0), some (.int (x4 + 1))]) ⟨rfl, ⟨rfl, ⟨rfl, ⟨rfl, trivial⟩⟩⟩⟩ (ih x1 0 (x4 + 1) σ _ h)
          · replace h := er_if h q12
            refine ej_aload_n B.1 d_M_isReady_65 rfl ?_
            refine ej_iload B.1 d_M_isReady_66 rfl ?_
            obtain ⟨v13, e14, h⟩ := er_bd_some h
            refine ej_cv_i (nc := 0) (ns := 0) B.1 [.int x4] [] (ec_M_keeps (er_pr B) x4 σ v13 e14) cal_M_keeps lk_M_91 in_M_keeps (er_at B 21 rfl rfl) rfl rfl se_M_keeps rfl B.2.2.2.1 d_M_isReady_68 ⟨Nat.le_of_ble_eq_true rfl, Nat.le_of_ble_eq_true rfl, Nat.zero_le _, Nat.zero_le _⟩ (Nat.le_of_ble_eq_true rfl) rfl ?_
            refine ej_if_lt B.1 (tgt := 76) d_M_isReady_71 (by decide) (fun q15 => ?_) (fun q15 => ?_)
            · replace h := er_it h q15
              refine ej_iinc B.1 (v := x4 + 1) (lv' := [some (.ref 21), some (.int x1), none, some (.int x3), some (.int (x4 + 1))]) d_M_isReady_76 rfl rfl rfl rfl rfl ?_
              refine ej_goto B.1 (tgt := 23) d_M_isReady_79 (by decide) ?_
              exact ej_le (lv' := [some (.ref 21), some (.int x1), none, some (.int x3), some (.int (x4 + 1))]) ⟨rfl, ⟨rfl, ⟨rfl, ⟨rfl, trivial⟩⟩⟩⟩ (ih x1 x3 (x4 + 1) σ _ h)
            · replace h := er_if h q15
              refine ej_iconst B.1 (v := 0) d_M_isReady_74 rfl ?_
              refine ej_istore_n B.1 (lv' := [some (.ref 21), some (.int x1), none, some (.int 0), some (.int x4)]) d_M_isReady_75 rfl rfl rfl ?_
              refine ej_iinc B.1 (v := x4 + 1) (lv' := [some (.ref 21), some (.int x1), none, some (.int 0), some (.int (x4 + 1))]) d_M_isReady_76 rfl rfl rfl rfl rfl ?_
              refine ej_goto B.1 (tgt := 23) d_M_isReady_79 (by decide) ?_
              exact ej_le (lv' := [some (.ref 21), some (.int x1), none, some (.int 0), some (.int (x4 + 1))]) ⟨rfl, ⟨rfl, ⟨rfl, ⟨rfl, trivial⟩⟩⟩⟩ (ih x1 0 (x4 + 1) σ _ h)
set_option maxRecDepth 100000 in
set_option maxHeartbeats 4000000 in
theorem ew_M_isReady_19 {p : Program} {l : Launch} {e : Env} {s : State} {m : MethodId} {args : Array Value} {below : List Frame} {meth : Method} {c : Code} {G : er_G} (B : er_B p s m c meth b_M_isReady "EntryRowsModel" G (some .boolean) 5 21 39) (x1 t0 : Int32) (σ : er_S) (r : Int32) (h : ef_M_isReady_19 x1 t0 σ = some r) : er_J p l e { frames := 1, cells := 0, slots := 0, locals := 23 } s m args below meth c G (er_A G s.heap.size) s.heap (er_fin below G s 0 0 (.inl (some (.int r)), σ)) 0 0 σ 19 [some (.ref 21), some (.int x1), none, none, none] [.int t0] := by
  unfold ef_M_isReady_19 at h
  refine ej_istore_n B.1 (lv' := [some (.ref 21), some (.int x1), none, some (.int t0), none]) d_M_isReady_19 rfl rfl rfl ?_
  refine ej_iconst B.1 (v := 0) d_M_isReady_20 rfl ?_
  refine ej_istore B.1 (lv' := [some (.ref 21), some (.int x1), none, some (.int t0), some (.int 0)]) d_M_isReady_21 rfl rfl rfl ?_
  exact ej_le (lv' := [some (.ref 21), some (.int x1), none, some (.int t0), some (.int 0)]) ⟨rfl, ⟨rfl, ⟨rfl, ⟨rfl, trivial⟩⟩⟩⟩ (ew_M_isReady_23 B 64 x1 t0 0 σ _ h)
set_option maxRecDepth 100000 in
set_option maxHeartbeats 4000000 in
theorem ec_M_isReady {l : Launch} {G : er_G} (hE : er_Pr G 21 39) (x1 x2 : Int32) (σ : er_S) (r : Int32) (h : ef_M_isReady x1 x2 σ = some r) : er_Con l y_M_isReady w_M_isReady 1 23 0 0 G [.ref 21, .int x1, .int x2] σ ((.inl (some (.int r)), σ)) := by
  refine er_ofJ (ret := some .boolean) (cc := b_M_isReady) (maxL := 5) (lv0 := [some (.ref 21), some (.int x1), some (.int x2), none, none]) (hh := []) (by decide +kernel) rfl (Or.inl rfl) (by intro v hv; simp only [List.mem_cons, List.not_mem_nil, or_false] at hv; rcases hv with rfl | rfl | rfl <;> rfl) (Nat.le_of_ble_eq_true rfl) ?_
  intro p e s m args below meth c hadm C hr hlk hml hw hnm hm hcd
  have B : er_B p s m c meth b_M_isReady "EntryRowsModel" G (some .boolean) 5 21 39 := ⟨C, hr, hlk, hml, hE, er_noh hw hnm hm hcd⟩
  unfold ef_M_isReady at h
  refine ej_aload_n B.1 d_M_isReady_0 rfl ?_
  refine ej_iload_n B.1 d_M_isReady_1 rfl ?_
  obtain ⟨v1, e2, h⟩ := er_bd_some h
  refine ej_cv_i (nc := 0) (ns := 0) B.1 [.int x1] [] (ec_M_sizeOf (er_pr B) x1 σ v1 e2) cal_M_sizeOf lk_M_98 in_M_sizeOf (er_at B 21 rfl rfl) rfl rfl se_M_sizeOf rfl B.2.2.2.1 d_M_isReady_2 ⟨Nat.le_of_ble_eq_true rfl, Nat.le_of_ble_eq_true rfl, Nat.zero_le _, Nat.zero_le _⟩ (Nat.le_of_ble_eq_true rfl) rfl ?_
  refine ej_aload_n B.1 d_M_isReady_5 rfl ?_
  refine ej_getr B.1 (er_at B 21 rfl rfl) rfl rfl fl_M_21 d_M_isReady_6 ?_
  refine ej_iload_n B.1 d_M_isReady_9 rfl ?_
  obtain ⟨e3, h⟩ := er_gd_some h
  refine ej_iald B.1 (er_at B 24 rfl rfl) rfl e3 d_M_isReady_10 ?_
  refine ej_icmp_lt B.1 (tgt := 18) d_M_isReady_11 (by decide) (fun q4 => ?_) (fun q4 => ?_)
  · replace h := er_it h q4
    refine ej_iconst B.1 (v := 0) d_M_isReady_18 rfl ?_
    exact ej_le (lv' := [some (.ref 21), some (.int x1), none, none, none]) ⟨rfl, ⟨rfl, trivial⟩⟩ (ew_M_isReady_19 B x1 0 σ _ h)
  · replace h := er_if h q4
    refine ej_iconst B.1 (v := 1) d_M_isReady_14 rfl ?_
    refine ej_goto B.1 (tgt := 19) d_M_isReady_15 (by decide) ?_
    exact ej_le (lv' := [some (.ref 21), some (.int x1), none, none, none]) ⟨rfl, ⟨rfl, trivial⟩⟩ (ew_M_isReady_19 B x1 1 σ _ h)
set_option maxRecDepth 100000 in
set_option maxHeartbeats 4000000 in
theorem ew_M_safe_5 {p : Program} {l : Launch} {e : Env} {s : State} {m : MethodId} {args : Array Value} {below : List Frame} {meth : Method} {c : Code} {G : er_G} (B : er_B p s m c meth b_M_safe "EntryRowsModel" G (some .int) 5 21 39) : ∀ (n : Nat) (x1 x2 x3 x4 : Int32) (σ : er_S) (r : Int32), ef_M_safe_5 n x1 x2 x3 x4 σ = some r → er_J p l e { frames := 2, cells := 0, slots := 0, locals := 47 } s m args below meth c G (er_A G s.heap.size) s.heap (er_fin below G s 0 0 (.inl (some (.int r)), σ)) 0 0 σ 5 [some (.ref 21), some (.int x1), some (.int x2), some (.int x3), some (.int x4)] [] := by
  intro n
  induction n with
  | zero => intro x1 x2 x3 x4 σ r h; cases h
  | succ n ih =>
    intro x1 x2 x3 x4 σ r h
    rw [ef_M_safe_5] at h
    refine ej_iload B.1 d_M_safe_5 rfl ?_
    refine ej_bipush B.1 (v := 16) d_M_safe_7 (by decide +kernel) ?_
    refine ej_icmp_ge B.1 (tgt := 53) d_M_safe_9 (by decide) (fun q1 => ?_) (fun q1 => ?_)
    · replace h := er_it h q1
      refine ej_iload_n B.1 d_M_safe_53 rfl ?_
      cases h
      exact ej_iret B.1 B.2.1 B.2.2.1 (Nat.zero_le _) (Nat.zero_le _) d_M_safe_54
    · replace h := er_if h q1
      refine ej_iload_n B.1 d_M_safe_12 rfl ?_
      refine ej_aload_n B.1 d_M_safe_13 rfl ?_
      refine ej_getr B.1 (er_at B 21 rfl rfl) rfl rfl fl_M_33 d_M_safe_14 ?_
      refine ej_iload B.1 d_M_safe_17 rfl ?_
      obtain ⟨e2, h⟩ := er_gd_some h
      refine ej_iald B.1 (er_at B 28 rfl rfl) rfl e2 d_M_safe_19 ?_
      refine ej_iload_n B.1 d_M_safe_20 rfl ?_
      refine ej_icmp_ne B.1 (tgt := 44) d_M_safe_21 (by decide) (fun q3 => ?_) (fun q3 => ?_)
      · replace h := er_if h q3
        refine ej_iconst B.1 (v := 0) d_M_safe_44 rfl ?_
        refine ej_iadd B.1 d_M_safe_45 ?_
        refine ej_istore_n B.1 (lv' := [some (.ref 21), some (.int x1), some (.int x2), some (.int (x3 + 0)), some (.int x4)]) d_M_safe_46 rfl rfl rfl ?_
        refine ej_iinc B.1 (v := x4 + 1) (lv' := [some (.ref 21), some (.int x1), some (.int x2), some (.int (x3 + 0)), some (.int (x4 + 1))]) d_M_safe_47 rfl rfl rfl rfl rfl ?_
        refine ej_goto B.1 (tgt := 5) d_M_safe_50 (by decide) ?_
        exact ej_le (lv' := [some (.ref 21), some (.int x1), some (.int x2), some (.int (x3 + 0)), some (.int (x4 + 1))]) ⟨rfl, ⟨rfl, ⟨rfl, ⟨rfl, ⟨rfl, trivial⟩⟩⟩⟩⟩ (ih x1 x2 (x3 + 0) (x4 + 1) σ _ h)
      · replace h := er_it h q3
        refine ej_iload B.1 d_M_safe_24 rfl ?_
        refine ej_iload_n B.1 d_M_safe_26 rfl ?_
        refine ej_icmp_eq B.1 (tgt := 44) d_M_safe_27 (by decide) (fun q4 => ?_) (fun q4 => ?_)
        · replace h := er_it h q4
          refine ej_iconst B.1 (v := 0) d_M_safe_44 rfl ?_
          refine ej_iadd B.1 d_M_safe_45 ?_
          refine ej_istore_n B.1 (lv' := [some (.ref 21), some (.int x1), some (.int x2), some (.int (x3 + 0)), some (.int x4)]) d_M_safe_46 rfl rfl rfl ?_
          refine ej_iinc B.1 (v := x4 + 1) (lv' := [some (.ref 21), some (.int x1), some (.int x2), some (.int (x3 + 0)), some (.int (x4 + 1))]) d_M_safe_47 rfl rfl rfl rfl rfl ?_
          refine ej_goto B.1 (tgt := 5) d_M_safe_50 (by decide) ?_
          exact ej_le (lv' := [some (.ref 21), some (.int x1), some (.int x2), some (.int (x3 + 0)), some (.int (x4 + 1))]) ⟨rfl, ⟨rfl, ⟨rfl, ⟨rfl, ⟨rfl, trivial⟩⟩⟩⟩⟩ (ih x1 x2 (x3 + 0) (x4 + 1) σ _ h)
        · replace h := er_if h q4
          refine ej_aload_n B.1 d_M_safe_30 rfl ?_
          refine ej_iload B.1 d_M_safe_31 rfl ?_
          refine ej_iload_n B.1 d_M_safe_33 rfl ?_
          obtain ⟨v5, e6, h⟩ := er_bd_some h
          refine ej_cv_i (nc := 0) (ns := 0) B.1 [.int x4, .int x1] [.int x3] (ec_M_isReady (er_pr B) x4 x1 σ v5 e6) cal_M_isReady lk_M_104 in_M_isReady (er_at B 21 rfl rfl) rfl rfl se_M_isReady rfl B.2.2.2.1 d_M_safe_34 ⟨Nat.le_of_ble_eq_true rfl, Nat.le_of_ble_eq_true rfl, Nat.zero_le _, Nat.zero_le _⟩ (Nat.le_of_ble_eq_true rfl) rfl ?_
          refine ej_if_eq B.1 (tgt := 44) d_M_safe_37 (by decide) (fun q7 => ?_) (fun q7 => ?_)
          · replace h := er_it h q7
            refine ej_iconst B.1 (v := 0) d_M_safe_44 rfl ?_
            refine ej_iadd B.1 d_M_safe_45 ?_
            refine ej_istore_n B.1 (lv' := [some (.ref 21), some (.int x1), some (.int x2), some (.int (x3 + 0)), some (.int x4)]) d_M_safe_46 rfl rfl rfl ?_
            refine ej_iinc B.1 (v := x4 + 1) (lv' := [some (.ref 21), some (.int x1), some (.int x2), some (.int (x3 + 0)), some (.int (x4 + 1))]) d_M_safe_47 rfl rfl rfl rfl rfl ?_
            refine ej_goto B.1 (tgt := 5) d_M_safe_50 (by decide) ?_
            exact ej_le (lv' := [some (.ref 21), some (.int x1), some (.int x2), some (.int (x3 + 0)), some (.int (x4 + 1))]) ⟨rfl, ⟨rfl, ⟨rfl, ⟨rfl, ⟨rfl, trivial⟩⟩⟩⟩⟩ (ih x1 x2 (x3 + 0) (x4 + 1) σ _ h)
          · replace h := er_if h q7
            refine ej_iconst B.1 (v := 1) d_M_safe_40 rfl ?_
            refine ej_goto B.1 (tgt := 45) d_M_safe_41 (by decide) ?_
            refine ej_iadd B.1 d_M_safe_45 ?_
            refine ej_istore_n B.1 (lv' := [some (.ref 21), some (.int x1), some (.int x2), some (.int (x3 + 1)), some (.int x4)]) d_M_safe_46 rfl rfl rfl ?_
            refine ej_iinc B.1 (v := x4 + 1) (lv' := [some (.ref 21), some (.int x1), some (.int x2), some (.int (x3 + 1)), some (.int (x4 + 1))]) d_M_safe_47 rfl rfl rfl rfl rfl ?_
            refine ej_goto B.1 (tgt := 5) d_M_safe_50 (by decide) ?_
            exact ej_le (lv' := [some (.ref 21), some (.int x1), some (.int x2), some (.int (x3 + 1)), some (.int (x4 + 1))]) ⟨rfl, ⟨rfl, ⟨rfl, ⟨rfl, ⟨rfl, trivial⟩⟩⟩⟩⟩ (ih x1 x2 (x3 + 1) (x4 + 1) σ _ h)
set_option maxRecDepth 100000 in
set_option maxHeartbeats 4000000 in
theorem ec_M_safe {l : Launch} {G : er_G} (hE : er_Pr G 21 39) (x1 x2 : Int32) (σ : er_S) (r : Int32) (h : ef_M_safe x1 x2 σ = some r) : er_Con l y_M_safe w_M_safe 2 47 0 0 G [.ref 21, .int x1, .int x2] σ ((.inl (some (.int r)), σ)) := by
  refine er_ofJ (ret := some .int) (cc := b_M_safe) (maxL := 5) (lv0 := [some (.ref 21), some (.int x1), some (.int x2), none, none]) (hh := []) (by decide +kernel) rfl (Or.inl rfl) (by intro v hv; simp only [List.mem_cons, List.not_mem_nil, or_false] at hv; rcases hv with rfl | rfl | rfl <;> rfl) (Nat.le_of_ble_eq_true rfl) ?_
  intro p e s m args below meth c hadm C hr hlk hml hw hnm hm hcd
  have B : er_B p s m c meth b_M_safe "EntryRowsModel" G (some .int) 5 21 39 := ⟨C, hr, hlk, hml, hE, er_noh hw hnm hm hcd⟩
  unfold ef_M_safe at h
  refine ej_iconst B.1 (v := 0) d_M_safe_0 rfl ?_
  refine ej_istore_n B.1 (lv' := [some (.ref 21), some (.int x1), some (.int x2), some (.int 0), none]) d_M_safe_1 rfl rfl rfl ?_
  refine ej_iconst B.1 (v := 0) d_M_safe_2 rfl ?_
  refine ej_istore B.1 (lv' := [some (.ref 21), some (.int x1), some (.int x2), some (.int 0), some (.int 0)]) d_M_safe_3 rfl rfl rfl ?_
  exact ej_le (lv' := [some (.ref 21), some (.int x1), some (.int x2), some (.int 0), some (.int 0)]) ⟨rfl, ⟨rfl, ⟨rfl, ⟨rfl, ⟨rfl, trivial⟩⟩⟩⟩⟩ (ew_M_safe_5 B 64 x1 x2 0 0 σ _ h)
set_option maxRecDepth 100000 in
set_option maxHeartbeats 4000000 in
theorem ew_M_safety_97 {p : Program} {l : Launch} {e : Env} {s : State} {m : MethodId} {args : Array Value} {below : List Frame} {meth : Method} {c : Code} {G : er_G} (B : er_B p s m c meth b_M_safety "EntryRowsModel" G (some .int) 6 21 39) (x1 t1 t2 : Int32) (σ : er_S) (r : Int32 × er_S) (h : ef_M_safety_97 x1 t1 t2 σ = some r) : er_J p l e { frames := 3, cells := 0, slots := 0, locals := 71 } s m args below meth c G (er_A G s.heap.size) s.heap (er_fin below G s 0 0 (.inl (some (.int r.1)), r.2)) 0 0 σ 97 [some (.ref 21), some (.int x1), none, none, none, none] [.int t2, .int t1, .ref 28] := by
  unfold ef_M_safety_97 at h
  obtain ⟨e10, h⟩ := er_gd_some h
  refine ej_iast B.1 (er_at B 28 rfl rfl) rfl e10 d_M_safety_97 ?_
  refine ej_aload_n B.1 d_M_safety_98 rfl ?_
  refine ej_iload_n B.1 d_M_safety_99 rfl ?_
  refine ej_iconst B.1 (v := (-1)) d_M_safety_100 rfl ?_
  obtain ⟨v11, e12, h⟩ := er_bd_some h
  refine ej_cv_i (nc := 0) (ns := 0) B.1 [.int x1, .int (-1)] [] (ec_M_safe (er_pr B) x1 (-1) (er_up σ 28 (er_ix t1) t2) v11 e12) cal_M_safe lk_M_108 in_M_safe (er_at B 21 rfl rfl) rfl rfl se_M_safe rfl B.2.2.2.1 d_M_safety_101 ⟨Nat.le_of_ble_eq_true rfl, Nat.le_of_ble_eq_true rfl, Nat.zero_le _, Nat.zero_le _⟩ (Nat.le_of_ble_eq_true rfl) rfl ?_
  cases h
  exact ej_iret B.1 B.2.1 B.2.2.1 (Nat.zero_le _) (Nat.zero_le _) d_M_safety_104
set_option maxRecDepth 100000 in
set_option maxHeartbeats 4000000 in
theorem ew_M_safety_67 {p : Program} {l : Launch} {e : Env} {s : State} {m : MethodId} {args : Array Value} {below : List Frame} {meth : Method} {c : Code} {G : er_G} (B : er_B p s m c meth b_M_safety "EntryRowsModel" G (some .int) 6 21 39) (x1 x2 x3 x4 t0 : Int32) (σ : er_S) (r : Int32 × er_S) (h : ef_M_safety_67 x1 x2 x3 x4 t0 σ = some r) : er_J p l e { frames := 3, cells := 0, slots := 0, locals := 71 } s m args below meth c G (er_A G s.heap.size) s.heap (er_fin below G s 0 0 (.inl (some (.int r.1)), r.2)) 0 0 σ 67 [some (.ref 21), some (.int x1), some (.int x2), some (.int x3), some (.int x4), none] [.int t0] := by
  unfold ef_M_safety_67 at h
  refine ej_istore B.1 (lv' := [some (.ref 21), some (.int x1), some (.int x2), some (.int x3), some (.int x4), some (.int t0)]) d_M_safety_67 rfl rfl rfl ?_
  refine ej_aload_n B.1 d_M_safety_69 rfl ?_
  refine ej_iload B.1 d_M_safety_70 rfl ?_
  refine ej_iload B.1 d_M_safety_72 rfl ?_
  refine ej_iconst B.1 (v := 0) d_M_safety_74 rfl ?_
  obtain ⟨v5, g7, e6, h⟩ := er_bw_some h
  refine ej_cv_i (nc := 0) (ns := 0) B.1 [.int x4, .int t0, .int 0] [] (ec_M_throwing (er_pr B) x4 t0 0 σ (v5, g7) e6) cal_M_throwing lk_M_84 in_M_throwing (er_at B 21 rfl rfl) rfl rfl se_M_throwing rfl B.2.2.2.1 d_M_safety_75 ⟨Nat.le_of_ble_eq_true rfl, Nat.le_of_ble_eq_true rfl, Nat.zero_le _, Nat.zero_le _⟩ (Nat.le_of_ble_eq_true rfl) rfl ?_
  refine ej_if_eq B.1 (tgt := 83) d_M_safety_78 (by decide) (fun q8 => ?_) (fun q8 => ?_)
  · replace h := er_it h q8
    refine ej_aload_n B.1 d_M_safety_83 rfl ?_
    refine ej_getr B.1 (er_at B 21 rfl rfl) rfl rfl fl_M_33 d_M_safety_84 ?_
    refine ej_iload_n B.1 d_M_safety_87 rfl ?_
    refine ej_iload_n B.1 d_M_safety_88 rfl ?_
    refine ej_if_eq B.1 (tgt := 96) d_M_safety_89 (by decide) (fun q9 => ?_) (fun q9 => ?_)
    · replace h := er_it h q9
      refine ej_iconst B.1 (v := (-1)) d_M_safety_96 rfl ?_
      exact ej_le (lv' := [some (.ref 21), some (.int x1), none, none, none, none]) ⟨rfl, ⟨rfl, trivial⟩⟩ (ew_M_safety_97 B x1 x2 (-1) g7 _ h)
    · replace h := er_if h q9
      refine ej_iload_n B.1 d_M_safety_92 rfl ?_
      refine ej_goto B.1 (tgt := 97) d_M_safety_93 (by decide) ?_
      exact ej_le (lv' := [some (.ref 21), some (.int x1), none, none, none, none]) ⟨rfl, ⟨rfl, trivial⟩⟩ (ew_M_safety_97 B x1 x2 x1 g7 _ h)
  · replace h := er_if h q8
    refine ej_iconst B.1 (v := 0) d_M_safety_81 rfl ?_
    cases h
    exact ej_iret B.1 B.2.1 B.2.2.1 (Nat.zero_le _) (Nat.zero_le _) d_M_safety_82
set_option maxRecDepth 100000 in
set_option maxHeartbeats 4000000 in
theorem ew_M_safety_66 {p : Program} {l : Launch} {e : Env} {s : State} {m : MethodId} {args : Array Value} {below : List Frame} {meth : Method} {c : Code} {G : er_G} (B : er_B p s m c meth b_M_safety "EntryRowsModel" G (some .int) 6 21 39) (x1 x2 x3 x4 : Int32) (σ : er_S) (r : Int32 × er_S) (h : ef_M_safety_66 x1 x2 x3 x4 σ = some r) : er_J p l e { frames := 3, cells := 0, slots := 0, locals := 71 } s m args below meth c G (er_A G s.heap.size) s.heap (er_fin below G s 0 0 (.inl (some (.int r.1)), r.2)) 0 0 σ 66 [some (.ref 21), some (.int x1), some (.int x2), some (.int x3), some (.int x4), none] [] := by
  unfold ef_M_safety_66 at h
  refine ej_iconst B.1 (v := 0) d_M_safety_66 rfl ?_
  exact ej_le (lv' := [some (.ref 21), some (.int x1), some (.int x2), some (.int x3), some (.int x4), none]) ⟨rfl, ⟨rfl, ⟨rfl, ⟨rfl, ⟨rfl, trivial⟩⟩⟩⟩⟩ (ew_M_safety_67 B x1 x2 x3 x4 0 σ _ h)
set_option maxRecDepth 100000 in
set_option maxHeartbeats 4000000 in
theorem ew_M_safety_62 {p : Program} {l : Launch} {e : Env} {s : State} {m : MethodId} {args : Array Value} {below : List Frame} {meth : Method} {c : Code} {G : er_G} (B : er_B p s m c meth b_M_safety "EntryRowsModel" G (some .int) 6 21 39) (x1 x2 x3 x4 : Int32) (σ : er_S) (r : Int32 × er_S) (h : ef_M_safety_62 x1 x2 x3 x4 σ = some r) : er_J p l e { frames := 3, cells := 0, slots := 0, locals := 71 } s m args below meth c G (er_A G s.heap.size) s.heap (er_fin below G s 0 0 (.inl (some (.int r.1)), r.2)) 0 0 σ 62 [some (.ref 21), some (.int x1), some (.int x2), some (.int x3), some (.int x4), none] [] := by
  unfold ef_M_safety_62 at h
  refine ej_iconst B.1 (v := 1) d_M_safety_62 rfl ?_
  refine ej_goto B.1 (tgt := 67) d_M_safety_63 (by decide) ?_
  exact ej_le (lv' := [some (.ref 21), some (.int x1), some (.int x2), some (.int x3), some (.int x4), none]) ⟨rfl, ⟨rfl, ⟨rfl, ⟨rfl, ⟨rfl, trivial⟩⟩⟩⟩⟩ (ew_M_safety_67 B x1 x2 x3 x4 1 σ _ h)
set_option maxRecDepth 100000 in
set_option maxHeartbeats 4000000 in
theorem ew_M_safety_20 {p : Program} {l : Launch} {e : Env} {s : State} {m : MethodId} {args : Array Value} {below : List Frame} {meth : Method} {c : Code} {G : er_G} (B : er_B p s m c meth b_M_safety "EntryRowsModel" G (some .int) 6 21 39) (x1 x2 x3 t0 : Int32) (σ : er_S) (r : Int32 × er_S) (h : ef_M_safety_20 x1 x2 x3 t0 σ = some r) : er_J p l e { frames := 3, cells := 0, slots := 0, locals := 71 } s m args below meth c G (er_A G s.heap.size) s.heap (er_fin below G s 0 0 (.inl (some (.int r.1)), r.2)) 0 0 σ 20 [some (.ref 21), some (.int x1), some (.int x2), some (.int x3), none, none] [.int t0] := by
  unfold ef_M_safety_20 at h
  refine ej_istore B.1 (lv' := [some (.ref 21), some (.int x1), some (.int x2), some (.int x3), some (.int t0), none]) d_M_safety_20 rfl rfl rfl ?_
  refine ej_iload B.1 d_M_safety_22 rfl ?_
  refine ej_if_ne B.1 (tgt := 66) d_M_safety_24 (by decide) (fun q4 => ?_) (fun q4 => ?_)
  · replace h := er_if h q4
    exact ej_le (lv' := [some (.ref 21), some (.int x1), some (.int x2), some (.int x3), some (.int t0), none]) ⟨rfl, ⟨rfl, ⟨rfl, ⟨rfl, ⟨rfl, trivial⟩⟩⟩⟩⟩ (ew_M_safety_66 B x1 x2 x3 t0 σ _ h)
  · replace h := er_it h q4
    refine ej_aload_n B.1 d_M_safety_27 rfl ?_
    refine ej_getr B.1 (er_at B 21 rfl rfl) rfl rfl fl_M_17 d_M_safety_28 ?_
    refine ej_iload_n B.1 d_M_safety_31 rfl ?_
    obtain ⟨e13, h⟩ := er_gd_some h
    refine ej_zald B.1 (er_at B 23 rfl rfl) rfl e13 d_M_safety_32 ?_
    refine ej_if_eq B.1 (tgt := 62) d_M_safety_33 (by decide) (fun q14 => ?_) (fun q14 => ?_)
    · replace h := er_it h q14
      exact ej_le (lv' := [some (.ref 21), some (.int x1), some (.int x2), some (.int x3), some (.int t0), none]) ⟨rfl, ⟨rfl, ⟨rfl, ⟨rfl, ⟨rfl, trivial⟩⟩⟩⟩⟩ (ew_M_safety_62 B x1 x2 x3 t0 σ _ h)
    · replace h := er_if h q14
      refine ej_iload_n B.1 d_M_safety_36 rfl ?_
      refine ej_if_eq B.1 (tgt := 52) d_M_safety_37 (by decide) (fun q15 => ?_) (fun q15 => ?_)
      · replace h := er_it h q15
        refine ej_aload_n B.1 d_M_safety_52 rfl ?_
        refine ej_getr B.1 (er_at B 21 rfl rfl) rfl rfl fl_M_33 d_M_safety_53 ?_
        refine ej_iload_n B.1 d_M_safety_56 rfl ?_
        obtain ⟨e16, h⟩ := er_gd_some h
        refine ej_iald B.1 (er_at B 28 rfl rfl) rfl e16 d_M_safety_57 ?_
        refine ej_iload_n B.1 d_M_safety_58 rfl ?_
        refine ej_icmp_eq B.1 (tgt := 66) d_M_safety_59 (by decide) (fun q17 => ?_) (fun q17 => ?_)
        · replace h := er_it h q17
          exact ej_le (lv' := [some (.ref 21), some (.int x1), some (.int x2), some (.int x3), some (.int t0), none]) ⟨rfl, ⟨rfl, ⟨rfl, ⟨rfl, ⟨rfl, trivial⟩⟩⟩⟩⟩ (ew_M_safety_66 B x1 x2 x3 t0 σ _ h)
        · replace h := er_if h q17
          exact ej_le (lv' := [some (.ref 21), some (.int x1), some (.int x2), some (.int x3), some (.int t0), none]) ⟨rfl, ⟨rfl, ⟨rfl, ⟨rfl, ⟨rfl, trivial⟩⟩⟩⟩⟩ (ew_M_safety_62 B x1 x2 x3 t0 σ _ h)
      · replace h := er_if h q15
        refine ej_aload_n B.1 d_M_safety_40 rfl ?_
        refine ej_getr B.1 (er_at B 21 rfl rfl) rfl rfl fl_M_33 d_M_safety_41 ?_
        refine ej_iload_n B.1 d_M_safety_44 rfl ?_
        obtain ⟨e18, h⟩ := er_gd_some h
        refine ej_iald B.1 (er_at B 28 rfl rfl) rfl e18 d_M_safety_45 ?_
        refine ej_if_lt B.1 (tgt := 66) d_M_safety_46 (by decide) (fun q19 => ?_) (fun q19 => ?_)
        · replace h := er_it h q19
          exact ej_le (lv' := [some (.ref 21), some (.int x1), some (.int x2), some (.int x3), some (.int t0), none]) ⟨rfl, ⟨rfl, ⟨rfl, ⟨rfl, ⟨rfl, trivial⟩⟩⟩⟩⟩ (ew_M_safety_66 B x1 x2 x3 t0 σ _ h)
        · replace h := er_if h q19
          refine ej_goto B.1 (tgt := 62) d_M_safety_49 (by decide) ?_
          exact ej_le (lv' := [some (.ref 21), some (.int x1), some (.int x2), some (.int x3), some (.int t0), none]) ⟨rfl, ⟨rfl, ⟨rfl, ⟨rfl, ⟨rfl, trivial⟩⟩⟩⟩⟩ (ew_M_safety_62 B x1 x2 x3 t0 σ _ h)
set_option maxRecDepth 100000 in
set_option maxHeartbeats 4000000 in
theorem ew_M_safety_15 {p : Program} {l : Launch} {e : Env} {s : State} {m : MethodId} {args : Array Value} {below : List Frame} {meth : Method} {c : Code} {G : er_G} (B : er_B p s m c meth b_M_safety "EntryRowsModel" G (some .int) 6 21 39) (x1 x2 x3 : Int32) (σ : er_S) (r : Int32 × er_S) (h : ef_M_safety_15 x1 x2 x3 σ = some r) : er_J p l e { frames := 3, cells := 0, slots := 0, locals := 71 } s m args below meth c G (er_A G s.heap.size) s.heap (er_fin below G s 0 0 (.inl (some (.int r.1)), r.2)) 0 0 σ 15 [some (.ref 21), some (.int x1), some (.int x2), some (.int x3), none, none] [] := by
  unfold ef_M_safety_15 at h
  refine ej_iconst B.1 (v := 1) d_M_safety_15 rfl ?_
  refine ej_goto B.1 (tgt := 20) d_M_safety_16 (by decide) ?_
  exact ej_le (lv' := [some (.ref 21), some (.int x1), some (.int x2), some (.int x3), none, none]) ⟨rfl, ⟨rfl, ⟨rfl, ⟨rfl, trivial⟩⟩⟩⟩ (ew_M_safety_20 B x1 x2 x3 1 σ _ h)
set_option maxRecDepth 100000 in
set_option maxHeartbeats 4000000 in
theorem ec_M_safety {l : Launch} {G : er_G} (hE : er_Pr G 21 39) (x1 x2 x3 : Int32) (σ : er_S) (r : Int32 × er_S) (h : ef_M_safety x1 x2 x3 σ = some r) : er_Con l y_M_safety w_M_safety 3 71 0 0 G [.ref 21, .int x1, .int x2, .int x3] σ ((.inl (some (.int r.1)), r.2)) := by
  refine er_ofJ (ret := some .int) (cc := b_M_safety) (maxL := 6) (lv0 := [some (.ref 21), some (.int x1), some (.int x2), some (.int x3), none, none]) (hh := []) (by decide +kernel) rfl (Or.inl rfl) (by intro v hv; simp only [List.mem_cons, List.not_mem_nil, or_false] at hv; rcases hv with rfl | rfl | rfl | rfl <;> rfl) (Nat.le_of_ble_eq_true rfl) ?_
  intro p e s m args below meth c hadm C hr hlk hml hw hnm hm hcd
  have B : er_B p s m c meth b_M_safety "EntryRowsModel" G (some .int) 6 21 39 := ⟨C, hr, hlk, hml, hE, er_noh hw hnm hm hcd⟩
  unfold ef_M_safety at h
  refine ej_aload_n B.1 d_M_safety_0 rfl ?_
  refine ej_iload_n B.1 d_M_safety_1 rfl ?_
  obtain ⟨v1, e2, h⟩ := er_bd_some h
  refine ej_cv_i (nc := 0) (ns := 0) B.1 [.int x1] [] (ec_M_isBoard (er_pr B) x1 σ v1 e2) cal_M_isBoard lk_M_80 in_M_isBoard (er_at B 21 rfl rfl) rfl rfl se_M_isBoard rfl B.2.2.2.1 d_M_safety_2 ⟨Nat.le_of_ble_eq_true rfl, Nat.le_of_ble_eq_true rfl, Nat.zero_le _, Nat.zero_le _⟩ (Nat.le_of_ble_eq_true rfl) rfl ?_
  refine ej_if_eq B.1 (tgt := 15) d_M_safety_5 (by decide) (fun q3 => ?_) (fun q3 => ?_)
  · replace h := er_it h q3
    exact ej_le (lv' := [some (.ref 21), some (.int x1), some (.int x2), some (.int x3), none, none]) ⟨rfl, ⟨rfl, ⟨rfl, ⟨rfl, trivial⟩⟩⟩⟩ (ew_M_safety_15 B x1 x2 x3 σ _ h)
  · replace h := er_if h q3
    refine ej_iload_n B.1 d_M_safety_8 rfl ?_
    obtain ⟨v20, e21, h⟩ := er_bd_some h
    refine ej_cs_i (nc := 0) (ns := 0) B.1 [.int x2] [] (ec_M_isTeam (er_pr B) x2 σ v20 e21) cal_M_isTeam lk_M_95 st_M_isTeam rfl B.2.2.2.1 d_M_safety_9 ⟨Nat.le_of_ble_eq_true rfl, Nat.le_of_ble_eq_true rfl, Nat.zero_le _, Nat.zero_le _⟩ (Nat.le_of_ble_eq_true rfl) rfl ?_
    refine ej_if_ne B.1 (tgt := 19) d_M_safety_12 (by decide) (fun q22 => ?_) (fun q22 => ?_)
    · replace h := er_if h q22
      refine ej_iconst B.1 (v := 0) d_M_safety_19 rfl ?_
      exact ej_le (lv' := [some (.ref 21), some (.int x1), some (.int x2), some (.int x3), none, none]) ⟨rfl, ⟨rfl, ⟨rfl, ⟨rfl, trivial⟩⟩⟩⟩ (ew_M_safety_20 B x1 x2 x3 0 σ _ h)
    · replace h := er_it h q22
      exact ej_le (lv' := [some (.ref 21), some (.int x1), some (.int x2), some (.int x3), none, none]) ⟨rfl, ⟨rfl, ⟨rfl, ⟨rfl, trivial⟩⟩⟩⟩ (ew_M_safety_15 B x1 x2 x3 σ _ h)
