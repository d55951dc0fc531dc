set_option maxRecDepth 100000 in
set_option maxHeartbeats 4000000 in
theorem ew_E_isCovered_23 {p : Program} {l : Launch} {e : Env} {s : State} {m : MethodId} {args : Array Value} {below : List Frame} {meth : Method} {c : Code} {G : er_G} (B : er_B p s m c meth b_E_isCovered "EntryRows" G (some .boolean) 3 0 21) (t0 : Int32) (σ : er_S) (r : Int32) (h : ef_E_isCovered_23 t0 σ = some r) : er_J p l e { frames := 5, cells := 0, slots := 0, locals := 113 } s m args below meth c G (er_A G s.heap.size) s.heap (er_fin below G s 0 0 (.inl (some (.int r)), σ)) 0 0 σ 23 [none, none, none] [.int t0] := by
  unfold ef_E_isCovered_23 at h
  obtain ⟨e5, h⟩ := er_gd_some h
  cases h
  exact ej_zret B.1 B.2.1 B.2.2.1 (Nat.zero_le _) (Nat.zero_le _) e5 d_E_isCovered_23
set_option maxRecDepth 100000 in
set_option maxHeartbeats 4000000 in
theorem ec_E_isCovered {l : Launch} {G : er_G} (hE : er_Pr G 0 21) (x1 x2 : Int32) (σ : er_S) (r : Int32) (h : ef_E_isCovered x1 x2 σ = some r) : er_Con l y_E_isCovered w_E_isCovered 5 113 0 0 G [.ref 0, .int x1, .int x2] σ ((.inl (some (.int r)), σ)) := by
  refine er_ofJ (ret := some .boolean) (cc := b_E_isCovered) (maxL := 3) (lv0 := [some (.ref 0), some (.int x1), some (.int x2)]) (hh := []) (by decide +kernel) rfl (Or.inl rfl) (by intro v hv; simp only [List.mem_cons, List.not_mem_nil, or_false] at hv; rcases hv with rfl | rfl | rfl <;> rfl) (Nat.le_of_ble_eq_true rfl) ?_
  intro p e s m args below meth c hadm C hr hlk hml hw hnm hm hcd
  have B : er_B p s m c meth b_E_isCovered "EntryRows" G (some .boolean) 3 0 21 := ⟨C, hr, hlk, hml, hE, er_noh hw hnm hm hcd⟩
  unfold ef_E_isCovered at h
  refine ej_aload_n B.1 d_E_isCovered_0 rfl ?_
  refine ej_iload_n B.1 d_E_isCovered_1 rfl ?_
  refine ej_iload_n B.1 d_E_isCovered_2 rfl ?_
  obtain ⟨v1, e2, h⟩ := er_bd_some h
  refine ej_cv_i (nc := 0) (ns := 0) B.1 [.int x1, .int x2] [] (ec_E_readySafetyTeams (er_pr B) x1 x2 σ v1 e2) cal_E_readySafetyTeams lk_E_114 in_E_readySafetyTeams (er_at B 0 rfl rfl) rfl rfl se_E_readySafetyTeams rfl B.2.2.2.1 d_E_isCovered_3 ⟨Nat.le_of_ble_eq_true rfl, Nat.le_of_ble_eq_true rfl, Nat.zero_le _, Nat.zero_le _⟩ (Nat.le_of_ble_eq_true rfl) rfl ?_
  refine ej_aload_n B.1 d_E_isCovered_6 rfl ?_
  refine ej_getr B.1 (er_at B 0 rfl rfl) rfl rfl fl_E_19 d_E_isCovered_7 ?_
  refine ej_getr B.1 (er_at B 2 rfl rfl) rfl rfl fl_E_234 d_E_isCovered_10 ?_
  refine ej_iload_n B.1 d_E_isCovered_13 rfl ?_
  obtain ⟨e3, h⟩ := er_gd_some h
  refine ej_iald B.1 (er_at B 19 rfl rfl) rfl e3 d_E_isCovered_14 ?_
  refine ej_icmp_lt B.1 (tgt := 22) d_E_isCovered_15 (by decide) (fun q4 => ?_) (fun q4 => ?_)
  · replace h := er_it h q4
    refine ej_iconst B.1 (v := 0) d_E_isCovered_22 rfl ?_
    exact ej_le (lv' := [none, none, none]) trivial (ew_E_isCovered_23 B 0 σ _ h)
  · replace h := er_if h q4
    refine ej_iconst B.1 (v := 1) d_E_isCovered_18 rfl ?_
    refine ej_goto B.1 (tgt := 23) d_E_isCovered_19 (by decide) ?_
    exact ej_le (lv' := [none, none, none]) trivial (ew_E_isCovered_23 B 1 σ _ h)
set_option maxRecDepth 100000 in
set_option maxHeartbeats 4000000 in
theorem ew_E_keeperMayLetRescue_34 {p : Program} {l : Launch} {e : Env} {s : State} {m : MethodId} {args : Array Value} {below : List Frame} {meth : Method} {c : Code} {G : er_G} (B : er_B p s m c meth b_E_keeperMayLetRescue "EntryRows" G (some .boolean) 3 0 21) (t0 : Int32) (σ : er_S) (r : Int32) (h : ef_E_keeperMayLetRescue_34 t0 σ = some r) : er_J p l e { frames := 1, cells := 0, slots := 0, locals := 20 } s m args below meth c G (er_A G s.heap.size) s.heap (er_fin below G s 0 0 (.inl (some (.int r)), σ)) 0 0 σ 34 [none, none, none] [.int t0] := by
  unfold ef_E_keeperMayLetRescue_34 at h
  obtain ⟨e5, h⟩ := er_gd_some h
  cases h
  exact ej_zret B.1 B.2.1 B.2.2.1 (Nat.zero_le _) (Nat.zero_le _) e5 d_E_keeperMayLetRescue_34
set_option maxRecDepth 100000 in
set_option maxHeartbeats 4000000 in
theorem ew_E_keeperMayLetRescue_33 {p : Program} {l : Launch} {e : Env} {s : State} {m : MethodId} {args : Array Value} {below : List Frame} {meth : Method} {c : Code} {G : er_G} (B : er_B p s m c meth b_E_keeperMayLetRescue "EntryRows" G (some .boolean) 3 0 21) (σ : er_S) (r : Int32) (h : ef_E_keeperMayLetRescue_33  σ = some r) : er_J p l e { frames := 1, cells := 0, slots := 0, locals := 20 } s m args below meth c G (er_A G s.heap.size) s.heap (er_fin below G s 0 0 (.inl (some (.int r)), σ)) 0 0 σ 33 [none, none, none] [] := by
  unfold ef_E_keeperMayLetRescue_33 at h
  refine ej_iconst B.1 (v := 0) d_E_keeperMayLetRescue_33 rfl ?_
  exact ej_le (lv' := [none, none, none]) trivial (ew_E_keeperMayLetRescue_34 B 0 σ _ h)
set_option maxRecDepth 100000 in
set_option maxHeartbeats 4000000 in
theorem ec_E_keeperMayLetRescue {l : Launch} {G : er_G} (hE : er_Pr G 0 21) (x1 : Int32) (σ : er_S) (r : Int32) (h : ef_E_keeperMayLetRescue x1 σ = some r) : er_Con l y_E_keeperMayLetRescue w_E_keeperMayLetRescue 1 20 0 0 G [.ref 0, .int x1] σ ((.inl (some (.int r)), σ)) := by
  refine er_ofJ (ret := some .boolean) (cc := b_E_keeperMayLetRescue) (maxL := 3) (lv0 := [some (.ref 0), some (.int x1), none]) (hh := []) (by decide +kernel) rfl (Or.inl rfl) (by intro v hv; simp only [List.mem_cons, List.not_mem_nil, or_false] at hv; rcases hv with rfl | rfl <;> rfl) (Nat.le_of_ble_eq_true rfl) ?_
  intro p e s m args below meth c hadm C hr hlk hml hw hnm hm hcd
  have B : er_B p s m c meth b_E_keeperMayLetRescue "EntryRows" G (some .boolean) 3 0 21 := ⟨C, hr, hlk, hml, hE, er_noh hw hnm hm hcd⟩
  unfold ef_E_keeperMayLetRescue at h
  refine ej_aload_n B.1 d_E_keeperMayLetRescue_0 rfl ?_
  refine ej_getr B.1 (er_at B 0 rfl rfl) rfl rfl fl_E_19 d_E_keeperMayLetRescue_1 ?_
  refine ej_getr B.1 (er_at B 2 rfl rfl) rfl rfl fl_E_88 d_E_keeperMayLetRescue_4 ?_
  refine ej_iload_n B.1 d_E_keeperMayLetRescue_7 rfl ?_
  obtain ⟨e1, h⟩ := er_gd_some h
  refine ej_iald B.1 (er_at B 20 rfl rfl) rfl e1 d_E_keeperMayLetRescue_8 ?_
  refine ej_istore_n B.1 (lv' := [some (.ref 0), some (.int x1), some (.int (σ 20 (er_ix x1)))]) d_E_keeperMayLetRescue_9 rfl rfl rfl ?_
  refine ej_iload_n B.1 d_E_keeperMayLetRescue_10 rfl ?_
  obtain ⟨v2, e3, h⟩ := er_bd_some h
  refine ej_cs_i (nc := 0) (ns := 0) B.1 [.int (σ 20 (er_ix x1))] [] (ec_E_isPerson (er_pr B) (σ 20 (er_ix x1)) σ v2 e3) cal_E_isPerson lk_E_173 st_E_isPerson rfl B.2.2.2.1 d_E_keeperMayLetRescue_11 ⟨Nat.le_of_ble_eq_true rfl, Nat.le_of_ble_eq_true rfl, Nat.zero_le _, Nat.zero_le _⟩ (Nat.le_of_ble_eq_true rfl) rfl ?_
  refine ej_if_eq B.1 (tgt := 33) d_E_keeperMayLetRescue_14 (by decide) (fun q4 => ?_) (fun q4 => ?_)
  · replace h := er_it h q4
    exact ej_le (lv' := [none, none, none]) trivial (ew_E_keeperMayLetRescue_33 B σ _ h)
  · replace h := er_if h q4
    refine ej_aload_n B.1 d_E_keeperMayLetRescue_17 rfl ?_
    refine ej_getr B.1 (er_at B 0 rfl rfl) rfl rfl fl_E_10 d_E_keeperMayLetRescue_18 ?_
    refine ej_getr B.1 (er_at B 1 rfl rfl) rfl rfl fl_E_91 d_E_keeperMayLetRescue_21 ?_
    refine ej_iload_n B.1 d_E_keeperMayLetRescue_24 rfl ?_
    obtain ⟨e6, h⟩ := er_gd_some h
    refine ej_zald B.1 (er_at B 15 rfl rfl) rfl e6 d_E_keeperMayLetRescue_25 ?_
    refine ej_if_eq B.1 (tgt := 33) d_E_keeperMayLetRescue_26 (by decide) (fun q7 => ?_) (fun q7 => ?_)
    · replace h := er_it h q7
      exact ej_le (lv' := [none, none, none]) trivial (ew_E_keeperMayLetRescue_33 B σ _ h)
    · replace h := er_if h q7
      refine ej_iconst B.1 (v := 1) d_E_keeperMayLetRescue_29 rfl ?_
      refine ej_goto B.1 (tgt := 34) d_E_keeperMayLetRescue_30 (by decide) ?_
      exact ej_le (lv' := [none, none, none]) trivial (ew_E_keeperMayLetRescue_34 B 1 σ _ h)
set_option maxRecDepth 100000 in
set_option maxHeartbeats 4000000 in
theorem ec_P_setEntry {l : Launch} {G : er_G} (hE : er_Pr G 0 21) (x1 x2 x3 x4 x5 x6 : Int32) (σ : er_S) (r : Unit × er_S) (h : ef_P_setEntry x1 x2 x3 x4 x5 x6 σ = some r) : er_Con l y_P_setEntry w_P_setEntry 0 0 0 0 G [.ref 1, .int x1, .int x2, .int x3, .int x4, .int x5, .int x6] σ ((.inl none, r.2)) := by
  refine er_ofJ (ret := none) (cc := b_P_setEntry) (maxL := 7) (lv0 := [some (.ref 1), some (.int x1), some (.int x2), some (.int x3), some (.int x4), some (.int x5), some (.int x6)]) (hh := []) (by decide +kernel) rfl (Or.inl rfl) (by intro v hv; simp only [List.mem_cons, List.not_mem_nil, or_false] at hv; rcases hv with rfl | rfl | rfl | rfl | rfl | rfl | rfl <;> rfl) (Nat.le_of_ble_eq_true rfl) ?_
  intro p e s m args below meth c hadm C hr hlk hml hw hnm hm hcd
  have B : er_B p s m c meth b_P_setEntry "EntryRows$Persons" G (none) 7 0 21 := ⟨C, hr, hlk, hml, hE, er_noh hw hnm hm hcd⟩
  unfold ef_P_setEntry at h
  refine ej_aload_n B.1 d_P_setEntry_0 rfl ?_
  refine ej_getr B.1 (er_at B 1 rfl rfl) rfl rfl fl_P_9 d_P_setEntry_1 ?_
  refine ej_iload_n B.1 d_P_setEntry_4 rfl ?_
  refine ej_iload_n B.1 d_P_setEntry_5 rfl ?_
  obtain ⟨e1, h⟩ := er_gd_some h
  refine ej_iast B.1 (er_at B 5 rfl rfl) rfl e1 d_P_setEntry_6 ?_
  refine ej_aload_n B.1 d_P_setEntry_7 rfl ?_
  refine ej_getr B.1 (er_at B 1 rfl rfl) rfl rfl fl_P_15 d_P_setEntry_8 ?_
  refine ej_iload_n B.1 d_P_setEntry_11 rfl ?_
  refine ej_iload_n B.1 d_P_setEntry_12 rfl ?_
  obtain ⟨e2, h⟩ := er_gd_some h
  refine ej_iast B.1 (er_at B 6 rfl rfl) rfl e2 d_P_setEntry_13 ?_
  refine ej_aload_n B.1 d_P_setEntry_14 rfl ?_
  refine ej_getr B.1 (er_at B 1 rfl rfl) rfl rfl fl_P_21 d_P_setEntry_15 ?_
  refine ej_iload_n B.1 d_P_setEntry_18 rfl ?_
  refine ej_iload B.1 d_P_setEntry_19 rfl ?_
  obtain ⟨e3, h⟩ := er_gd_some h
  refine ej_iast B.1 (er_at B 8 rfl rfl) rfl e3 d_P_setEntry_21 ?_
  refine ej_aload_n B.1 d_P_setEntry_22 rfl ?_
  refine ej_getr B.1 (er_at B 1 rfl rfl) rfl rfl fl_P_18 d_P_setEntry_23 ?_
  refine ej_iload_n B.1 d_P_setEntry_26 rfl ?_
  refine ej_iload B.1 d_P_setEntry_27 rfl ?_
  obtain ⟨e4, h⟩ := er_gd_some h
  refine ej_iast B.1 (er_at B 7 rfl rfl) rfl e4 d_P_setEntry_29 ?_
  refine ej_aload_n B.1 d_P_setEntry_30 rfl ?_
  refine ej_getr B.1 (er_at B 1 rfl rfl) rfl rfl fl_P_24 d_P_setEntry_31 ?_
  refine ej_iload_n B.1 d_P_setEntry_34 rfl ?_
  refine ej_iload B.1 d_P_setEntry_35 rfl ?_
  obtain ⟨e5, h⟩ := er_gd_some h
  refine ej_iast B.1 (er_at B 9 rfl rfl) rfl e5 d_P_setEntry_37 ?_
  cases h
  exact ej_vret B.1 B.2.1 B.2.2.1 (Nat.zero_le _) (Nat.zero_le _) d_P_setEntry_38
set_option maxRecDepth 100000 in
set_option maxHeartbeats 4000000 in
theorem ew_E_enter_97 {p : Program} {l : Launch} {e : Env} {s : State} {m : MethodId} {args : Array Value} {below : List Frame} {meth : Method} {c : Code} {G : er_G} (hl : l.admits e ∧ l.stackTraces = false) (B : er_B p s m c meth b_E_enter "EntryRows" G (some .int) 8 0 21) : ∀ (n : Nat) (x1 x2 x3 x4 x6 x7 : Int32) (σ : er_S) (r : (Int32 ⊕ Nat) × er_S), ef_E_enter_97 n x1 x2 x3 x4 x6 x7 σ = some r → er_J p l e { frames := 8, cells := er_nc r.1, slots := er_ns r.1, locals := 135 } s m args below meth c G (er_A G s.heap.size) s.heap (er_fin below G s (er_nc r.1) (er_ns r.1) (er_cvi r)) 0 0 σ 97 [some (.ref 0), some (.int x1), some (.int x2), some (.int x3), some (.int x4), none, some (.int x6), some (.int x7)] [] := by
  intro n
  induction n with
  | zero => intro x1 x2 x3 x4 x6 x7 σ r h; cases h
  | succ n ih =>
    intro x1 x2 x3 x4 x6 x7 σ r h
    rw [ef_E_enter_97] at h
    refine ej_iload B.1 d_E_enter_97 rfl ?_
    refine ej_bipush B.1 (v := 40) d_E_enter_99 (by decide +kernel) ?_
    refine ej_icmp_ge B.1 (tgt := 155) d_E_enter_101 (by decide) (fun q32 => ?_) (fun q32 => ?_)
    · replace h := er_it h q32
      refine ej_iload B.1 d_E_enter_155 rfl ?_
      cases h
      exact ej_iret B.1 B.2.1 B.2.2.1 (Nat.zero_le _) (Nat.zero_le _) d_E_enter_157
    · replace h := er_if h q32
      refine ej_aload_n B.1 d_E_enter_104 rfl ?_
      refine ej_getr B.1 (er_at B 0 rfl rfl) rfl rfl fl_E_10 d_E_enter_105 ?_
      refine ej_getr B.1 (er_at B 1 rfl rfl) rfl rfl fl_E_105 d_E_enter_108 ?_
      refine ej_iload B.1 d_E_enter_111 rfl ?_
      obtain ⟨e33, h⟩ := er_gd_some h
      refine ej_iald B.1 (er_at B 13 rfl rfl) rfl e33 d_E_enter_113 ?_
      refine ej_iload_n B.1 d_E_enter_114 rfl ?_
      refine ej_icmp_ne B.1 (tgt := 149) d_E_enter_115 (by decide) (fun q34 => ?_) (fun q34 => ?_)
      · replace h := er_if h q34
        refine ej_iinc B.1 (v := x7 + 1) (lv' := [some (.ref 0), some (.int x1), some (.int x2), some (.int x3), some (.int x4), none, some (.int x6), some (.int (x7 + 1))]) d_E_enter_149 rfl rfl rfl rfl rfl ?_
        refine ej_goto B.1 (tgt := 97) d_E_enter_152 (by decide) ?_
        exact ej_le (lv' := [some (.ref 0), some (.int x1), some (.int x2), some (.int x3), some (.int x4), none, some (.int x6), some (.int (x7 + 1))]) ⟨rfl, ⟨rfl, ⟨rfl, ⟨rfl, ⟨rfl, ⟨rfl, ⟨rfl, trivial⟩⟩⟩⟩⟩⟩⟩ (ih x1 x2 x3 x4 x6 (x7 + 1) σ _ h)
      · replace h := er_it h q34
        refine ej_aload_n B.1 d_E_enter_118 rfl ?_
        refine ej_getr B.1 (er_at B 0 rfl rfl) rfl rfl fl_E_10 d_E_enter_119 ?_
        refine ej_iload B.1 d_E_enter_122 rfl ?_
        refine ej_iload_n B.1 d_E_enter_124 rfl ?_
        refine ej_aload_n B.1 d_E_enter_125 rfl ?_
        refine ej_geti B.1 (er_at B 0 rfl rfl) rfl rfl fl_E_34 d_E_enter_126 ?_
        refine ej_iload_n B.1 d_E_enter_129 rfl ?_
        refine ej_iload B.1 d_E_enter_130 rfl ?_
        refine ej_aload_n B.1 d_E_enter_132 rfl ?_
        refine ej_geti B.1 (er_at B 0 rfl rfl) rfl rfl fl_E_30 d_E_enter_133 ?_
        obtain ⟨v35, g37, e36, h⟩ := er_bw_some h
        refine ej_cv_v (nc := 0) (ns := 0) B.1 [.int x7, .int x1, .int (σ 0 5), .int x3, .int x4, .int (σ 0 4)] [] (ec_P_setEntry (er_pr B) x7 x1 (σ 0 5) x3 x4 (σ 0 4) σ (v35, g37) e36) cal_P_setEntry lk_E_128 in_P_setEntry (er_at B 1 rfl rfl) rfl rfl se_P_setEntry rfl B.2.2.2.1 d_E_enter_136 ⟨Nat.le_of_ble_eq_true rfl, Nat.le_of_ble_eq_true rfl, Nat.zero_le _, Nat.zero_le _⟩ (Nat.le_of_ble_eq_true rfl) rfl ?_
        refine ej_aload_n B.1 d_E_enter_139 rfl ?_
        refine ej_dup B.1 d_E_enter_140 rfl ?_
        refine ej_geti B.1 (er_at B 0 rfl rfl) rfl rfl fl_E_34 d_E_enter_141 ?_
        refine ej_iconst B.1 (v := 1) d_E_enter_144 rfl ?_
        refine ej_iadd B.1 d_E_enter_145 ?_
        refine ej_puti B.1 (er_at B 0 rfl rfl) rfl rfl fp_E_34 d_E_enter_146 ?_
        refine ej_iinc B.1 (v := x7 + 1) (lv' := [some (.ref 0), some (.int x1), some (.int x2), some (.int x3), some (.int x4), none, some (.int x6), some (.int (x7 + 1))]) d_E_enter_149 rfl rfl rfl rfl rfl ?_
        refine ej_goto B.1 (tgt := 97) d_E_enter_152 (by decide) ?_
        exact ej_le (lv' := [some (.ref 0), some (.int x1), some (.int x2), some (.int x3), some (.int x4), none, some (.int x6), some (.int (x7 + 1))]) ⟨rfl, ⟨rfl, ⟨rfl, ⟨rfl, ⟨rfl, ⟨rfl, ⟨rfl, trivial⟩⟩⟩⟩⟩⟩⟩ (ih x1 x2 x3 x4 x6 (x7 + 1) (er_up g37 0 5 ((g37 0 5) + 1)) _ h)
set_option maxRecDepth 100000 in
set_option maxHeartbeats 4000000 in
theorem ew_E_enter_85 {p : Program} {l : Launch} {e : Env} {s : State} {m : MethodId} {args : Array Value} {below : List Frame} {meth : Method} {c : Code} {G : er_G} (hl : l.admits e ∧ l.stackTraces = false) (B : er_B p s m c meth b_E_enter "EntryRows" G (some .int) 8 0 21) (x1 x2 x3 x4 t0 : Int32) (σ : er_S) (r : (Int32 ⊕ Nat) × er_S) (h : ef_E_enter_85 x1 x2 x3 x4 t0 σ = some r) : er_J p l e { frames := 8, cells := er_nc r.1, slots := er_ns r.1, locals := 135 } s m args below meth c G (er_A G s.heap.size) s.heap (er_fin below G s (er_nc r.1) (er_ns r.1) (er_cvi r)) 0 0 σ 85 [some (.ref 0), some (.int x1), some (.int x2), some (.int x3), some (.int x4), none, none, none] [.int t0] := by
  unfold ef_E_enter_85 at h
  rcases er_tb_some h with ⟨v29, g31, e30, h⟩ | ⟨k38, g31, e30, h⟩
  · refine ej_cs_v (nc := 0) (ns := 0) B.1 [.int t0] [] (ec_E_requireState hl.2 (er_pr B) t0 σ (.inl v29, g31) e30) cal_E_requireState lk_E_81 st_E_requireState rfl B.2.2.2.1 d_E_enter_85 ⟨Nat.le_of_ble_eq_true rfl, Nat.le_of_ble_eq_true rfl, Nat.zero_le _, Nat.zero_le _⟩ (Nat.le_of_ble_eq_true rfl) rfl ?_
    refine ej_aload_n B.1 d_E_enter_88 rfl ?_
    refine ej_geti B.1 (er_at B 0 rfl rfl) rfl rfl fl_E_34 d_E_enter_89 ?_
    refine ej_istore B.1 (lv' := [some (.ref 0), some (.int x1), some (.int x2), some (.int x3), some (.int x4), none, some (.int (g31 0 5)), none]) d_E_enter_92 rfl rfl rfl ?_
    refine ej_iconst B.1 (v := 0) d_E_enter_94 rfl ?_
    refine ej_istore B.1 (lv' := [some (.ref 0), some (.int x1), some (.int x2), some (.int x3), some (.int x4), none, some (.int (g31 0 5)), some (.int 0)]) d_E_enter_95 rfl rfl rfl ?_
    exact ej_le (lv' := [some (.ref 0), some (.int x1), some (.int x2), some (.int x3), some (.int x4), none, some (.int (g31 0 5)), some (.int 0)]) ⟨rfl, ⟨rfl, ⟨rfl, ⟨rfl, ⟨rfl, ⟨rfl, ⟨rfl, trivial⟩⟩⟩⟩⟩⟩⟩ (ew_E_enter_97 hl B 64 x1 x2 x3 x4 (g31 0 5) 0 g31 _ h)
  · subst h
    exact ej_cs_t (nc := 1) (ns := 6) B.1 [.int t0] [] (ec_E_requireState hl.2 (er_pr B) t0 σ (.inr k38, g31) e30) cal_E_requireState lk_E_81 st_E_requireState rfl B.2.2.2.1 d_E_enter_85 ⟨Nat.le_of_ble_eq_true rfl, Nat.le_of_ble_eq_true rfl, Nat.le_of_ble_eq_true rfl, Nat.le_of_ble_eq_true rfl⟩ (Nat.le_of_ble_eq_true rfl) rfl B.2.2.1 (B.2.2.2.2.2 _) ⟨Nat.le_of_ble_eq_true rfl, Nat.le_of_ble_eq_true rfl⟩
set_option maxRecDepth 100000 in
set_option maxHeartbeats 4000000 in
theorem ew_E_enter_80 {p : Program} {l : Launch} {e : Env} {s : State} {m : MethodId} {args : Array Value} {below : List Frame} {meth : Method} {c : Code} {G : er_G} (hl : l.admits e ∧ l.stackTraces = false) (B : er_B p s m c meth b_E_enter "EntryRows" G (some .int) 8 0 21) (x1 x2 x3 x4 : Int32) (σ : er_S) (r : (Int32 ⊕ Nat) × er_S) (h : ef_E_enter_80 x1 x2 x3 x4 σ = some r) : er_J p l e { frames := 8, cells := er_nc r.1, slots := er_ns r.1, locals := 135 } s m args below meth c G (er_A G s.heap.size) s.heap (er_fin below G s (er_nc r.1) (er_ns r.1) (er_cvi r)) 0 0 σ 80 [some (.ref 0), some (.int x1), some (.int x2), some (.int x3), some (.int x4), none, none, none] [] := by
  unfold ef_E_enter_80 at h
  refine ej_iconst B.1 (v := 1) d_E_enter_80 rfl ?_
  refine ej_goto B.1 (tgt := 85) d_E_enter_81 (by decide) ?_
  exact ej_le (lv' := [some (.ref 0), some (.int x1), some (.int x2), some (.int x3), some (.int x4), none, none, none]) ⟨rfl, ⟨rfl, ⟨rfl, ⟨rfl, ⟨rfl, trivial⟩⟩⟩⟩⟩ (ew_E_enter_85 hl B x1 x2 x3 x4 1 σ _ h)
set_option maxRecDepth 100000 in
set_option maxHeartbeats 4000000 in
theorem ew_E_enter_84 {p : Program} {l : Launch} {e : Env} {s : State} {m : MethodId} {args : Array Value} {below : List Frame} {meth : Method} {c : Code} {G : er_G} (hl : l.admits e ∧ l.stackTraces = false) (B : er_B p s m c meth b_E_enter "EntryRows" G (some .int) 8 0 21) (x1 x2 x3 x4 : Int32) (σ : er_S) (r : (Int32 ⊕ Nat) × er_S) (h : ef_E_enter_84 x1 x2 x3 x4 σ = some r) : er_J p l e { frames := 8, cells := er_nc r.1, slots := er_ns r.1, locals := 135 } s m args below meth c G (er_A G s.heap.size) s.heap (er_fin below G s (er_nc r.1) (er_ns r.1) (er_cvi r)) 0 0 σ 84 [some (.ref 0), some (.int x1), some (.int x2), some (.int x3), some (.int x4), none, none, none] [] := by
  unfold ef_E_enter_84 at h
  refine ej_iconst B.1 (v := 0) d_E_enter_84 rfl ?_
  exact ej_le (lv' := [some (.ref 0), some (.int x1), some (.int x2), some (.int x3), some (.int x4), none, none, none]) ⟨rfl, ⟨rfl, ⟨rfl, ⟨rfl, ⟨rfl, trivial⟩⟩⟩⟩⟩ (ew_E_enter_85 hl B x1 x2 x3 x4 0 σ _ h)
set_option maxRecDepth 100000 in
set_option maxHeartbeats 4000000 in
theorem ew_E_enter_46 {p : Program} {l : Launch} {e : Env} {s : State} {m : MethodId} {args : Array Value} {below : List Frame} {meth : Method} {c : Code} {G : er_G} (hl : l.admits e ∧ l.stackTraces = false) (B : er_B p s m c meth b_E_enter "EntryRows" G (some .int) 8 0 21) (x1 x2 x3 x4 x5 t0 : Int32) (σ : er_S) (r : (Int32 ⊕ Nat) × er_S) (h : ef_E_enter_46 x1 x2 x3 x4 x5 t0 σ = some r) : er_J p l e { frames := 8, cells := er_nc r.1, slots := er_ns r.1, locals := 135 } s m args below meth c G (er_A G s.heap.size) s.heap (er_fin below G s (er_nc r.1) (er_ns r.1) (er_cvi r)) 0 0 σ 46 [some (.ref 0), some (.int x1), some (.int x2), some (.int x3), some (.int x4), some (.int x5), none, none] [.int t0] := by
  unfold ef_E_enter_46 at h
  rcases er_tb_some h with ⟨v18, g20, e19, h⟩ | ⟨k44, g20, e19, h⟩
  · refine ej_cs_v (nc := 0) (ns := 0) B.1 [.int t0] [] (ec_E_requireState hl.2 (er_pr B) t0 σ (.inl v18, g20) e19) cal_E_requireState lk_E_81 st_E_requireState rfl B.2.2.2.1 d_E_enter_46 ⟨Nat.le_of_ble_eq_true rfl, Nat.le_of_ble_eq_true rfl, Nat.zero_le _, Nat.zero_le _⟩ (Nat.le_of_ble_eq_true rfl) rfl ?_
    refine ej_aload_n B.1 d_E_enter_49 rfl ?_
    refine ej_iload_n B.1 d_E_enter_50 rfl ?_
    refine ej_iload_n B.1 d_E_enter_51 rfl ?_
    obtain ⟨v21, e22, h⟩ := er_bd_some h
    refine ej_cv_i (nc := 0) (ns := 0) B.1 [.int x2, .int x1] [] (ec_E_isReady (er_pr B) x2 x1 g20 v21 e22) cal_E_isReady lk_E_118 in_E_isReady (er_at B 0 rfl rfl) rfl rfl se_E_isReady rfl B.2.2.2.1 d_E_enter_52 ⟨Nat.le_of_ble_eq_true rfl, Nat.le_of_ble_eq_true rfl, Nat.zero_le _, Nat.zero_le _⟩ (Nat.le_of_ble_eq_true rfl) rfl ?_
    rcases er_tb_some h with ⟨v23, g25, e24, h⟩ | ⟨k43, g25, e24, h⟩
    · refine ej_cs_v (nc := 0) (ns := 0) B.1 [.int v21] [] (ec_E_requireState hl.2 (er_pr B) v21 g20 (.inl v23, g25) e24) cal_E_requireState lk_E_81 st_E_requireState rfl B.2.2.2.1 d_E_enter_55 ⟨Nat.le_of_ble_eq_true rfl, Nat.le_of_ble_eq_true rfl, Nat.zero_le _, Nat.zero_le _⟩ (Nat.le_of_ble_eq_true rfl) rfl ?_
      refine ej_aload_n B.1 d_E_enter_58 rfl ?_
      refine ej_iload_n B.1 d_E_enter_59 rfl ?_
      refine ej_iload_n B.1 d_E_enter_60 rfl ?_
      obtain ⟨v26, e27, h⟩ := er_bd_some h
      refine ej_cv_i (nc := 0) (ns := 0) B.1 [.int x1, .int x2] [] (ec_E_isCovered (er_pr B) x1 x2 g25 v26 e27) cal_E_isCovered lk_E_122 in_E_isCovered (er_at B 0 rfl rfl) rfl rfl se_E_isCovered rfl B.2.2.2.1 d_E_enter_61 ⟨Nat.le_of_ble_eq_true rfl, Nat.le_of_ble_eq_true rfl, Nat.zero_le _, Nat.zero_le _⟩ (Nat.le_of_ble_eq_true rfl) rfl ?_
      refine ej_if_ne B.1 (tgt := 80) d_E_enter_64 (by decide) (fun q28 => ?_) (fun q28 => ?_)
      · replace h := er_if h q28
        exact ej_le (lv' := [some (.ref 0), some (.int x1), some (.int x2), some (.int x3), some (.int x4), none, none, none]) ⟨rfl, ⟨rfl, ⟨rfl, ⟨rfl, ⟨rfl, trivial⟩⟩⟩⟩⟩ (ew_E_enter_80 hl B x1 x2 x3 x4 g25 _ h)
      · replace h := er_it h q28
        refine ej_iload B.1 d_E_enter_67 rfl ?_
        refine ej_if_eq B.1 (tgt := 84) d_E_enter_69 (by decide) (fun q39 => ?_) (fun q39 => ?_)
        · replace h := er_it h q39
          exact ej_le (lv' := [some (.ref 0), some (.int x1), some (.int x2), some (.int x3), some (.int x4), none, none, none]) ⟨rfl, ⟨rfl, ⟨rfl, ⟨rfl, ⟨rfl, trivial⟩⟩⟩⟩⟩ (ew_E_enter_84 hl B x1 x2 x3 x4 g25 _ h)
        · replace h := er_if h q39
          refine ej_aload_n B.1 d_E_enter_72 rfl ?_
          refine ej_iload_n B.1 d_E_enter_73 rfl ?_
          obtain ⟨v40, e41, h⟩ := er_bd_some h
          refine ej_cv_i (nc := 0) (ns := 0) B.1 [.int x1] [] (ec_E_keeperMayLetRescue (er_pr B) x1 g25 v40 e41) cal_E_keeperMayLetRescue lk_E_125 in_E_keeperMayLetRescue (er_at B 0 rfl rfl) rfl rfl se_E_keeperMayLetRescue rfl B.2.2.2.1 d_E_enter_74 ⟨Nat.le_of_ble_eq_true rfl, Nat.le_of_ble_eq_true rfl, Nat.zero_le _, Nat.zero_le _⟩ (Nat.le_of_ble_eq_true rfl) rfl ?_
          refine ej_if_eq B.1 (tgt := 84) d_E_enter_77 (by decide) (fun q42 => ?_) (fun q42 => ?_)
          · replace h := er_it h q42
            exact ej_le (lv' := [some (.ref 0), some (.int x1), some (.int x2), some (.int x3), some (.int x4), none, none, none]) ⟨rfl, ⟨rfl, ⟨rfl, ⟨rfl, ⟨rfl, trivial⟩⟩⟩⟩⟩ (ew_E_enter_84 hl B x1 x2 x3 x4 g25 _ h)
          · replace h := er_if h q42
            exact ej_le (lv' := [some (.ref 0), some (.int x1), some (.int x2), some (.int x3), some (.int x4), none, none, none]) ⟨rfl, ⟨rfl, ⟨rfl, ⟨rfl, ⟨rfl, trivial⟩⟩⟩⟩⟩ (ew_E_enter_80 hl B x1 x2 x3 x4 g25 _ h)
    · subst h
      exact ej_cs_t (nc := 1) (ns := 6) B.1 [.int v21] [] (ec_E_requireState hl.2 (er_pr B) v21 g20 (.inr k43, g25) e24) cal_E_requireState lk_E_81 st_E_requireState rfl B.2.2.2.1 d_E_enter_55 ⟨Nat.le_of_ble_eq_true rfl, Nat.le_of_ble_eq_true rfl, Nat.le_of_ble_eq_true rfl, Nat.le_of_ble_eq_true rfl⟩ (Nat.le_of_ble_eq_true rfl) rfl B.2.2.1 (B.2.2.2.2.2 _) ⟨Nat.le_of_ble_eq_true rfl, Nat.le_of_ble_eq_true rfl⟩
  · subst h
    exact ej_cs_t (nc := 1) (ns := 6) B.1 [.int t0] [] (ec_E_requireState hl.2 (er_pr B) t0 σ (.inr k44, g20) e19) cal_E_requireState lk_E_81 st_E_requireState rfl B.2.2.2.1 d_E_enter_46 ⟨Nat.le_of_ble_eq_true rfl, Nat.le_of_ble_eq_true rfl, Nat.le_of_ble_eq_true rfl, Nat.le_of_ble_eq_true rfl⟩ (Nat.le_of_ble_eq_true rfl) rfl B.2.2.1 (B.2.2.2.2.2 _) ⟨Nat.le_of_ble_eq_true rfl, Nat.le_of_ble_eq_true rfl⟩
set_option maxRecDepth 100000 in
set_option maxHeartbeats 4000000 in
theorem ec_E_enter {l : Launch} {G : er_G} (hl : l.stackTraces = false) (hE : er_Pr G 0 21) (x1 x2 x3 x4 x5 : Int32) (σ : er_S) (r : (Int32 ⊕ Nat) × er_S) (h : ef_E_enter x1 x2 x3 x4 x5 σ = some r) : er_Con l y_E_enter w_E_enter 8 135 (er_nc r.1) (er_ns r.1) G [.ref 0, .int x1, .int x2, .int x3, .int x4, .int x5] σ (er_cvi r) := by
  refine er_ofJ (ret := some .int) (cc := b_E_enter) (maxL := 8) (lv0 := [some (.ref 0), some (.int x1), some (.int x2), some (.int x3), some (.int x4), some (.int x5), none, none]) (hh := []) (by decide +kernel) rfl (Or.inl rfl) (by intro v hv; simp only [List.mem_cons, List.not_mem_nil, or_false] at hv; rcases hv with rfl | rfl | rfl | rfl | rfl | rfl <;> rfl) (Nat.le_of_ble_eq_true rfl) ?_
  intro p e s m args below meth c hadm C hr hlk hml hw hnm hm hcd
  have B : er_B p s m c meth b_E_enter "EntryRows" G (some .int) 8 0 21 := ⟨C, hr, hlk, hml, hE, er_noh hw hnm hm hcd⟩
  have hl := And.intro hadm hl
  unfold ef_E_enter at h
  refine ej_aload_n B.1 d_E_enter_0 rfl ?_
  refine ej_iload_n B.1 d_E_enter_1 rfl ?_
  rcases er_tb_some h with ⟨v1, g3, e2, h⟩ | ⟨k49, g3, e2, h⟩
  · refine ej_cv_v (nc := 0) (ns := 0) B.1 [.int x1] [] (ec_E_requireBoard hl.2 (er_pr B) x1 σ (.inl v1, g3) e2) cal_E_requireBoard lk_E_65 in_E_requireBoard (er_at B 0 rfl rfl) rfl rfl se_E_requireBoard rfl B.2.2.2.1 d_E_enter_2 ⟨Nat.le_of_ble_eq_true rfl, Nat.le_of_ble_eq_true rfl, Nat.zero_le _, Nat.zero_le _⟩ (Nat.le_of_ble_eq_true rfl) rfl ?_
    refine ej_iload_n B.1 d_E_enter_5 rfl ?_
    rcases er_tb_some h with ⟨v4, g6, e5, h⟩ | ⟨k48, g6, e5, h⟩
    · refine ej_cs_v (nc := 0) (ns := 0) B.1 [.int x2] [] (ec_E_requireTeam hl.2 (er_pr B) x2 g3 (.inl v4, g6) e5) cal_E_requireTeam lk_E_102 st_E_requireTeam rfl B.2.2.2.1 d_E_enter_6 ⟨Nat.le_of_ble_eq_true rfl, Nat.le_of_ble_eq_true rfl, Nat.zero_le _, Nat.zero_le _⟩ (Nat.le_of_ble_eq_true rfl) rfl ?_
      refine ej_iload_n B.1 d_E_enter_9 rfl ?_
      refine ej_iconst B.1 (v := 0) d_E_enter_10 rfl ?_
      refine ej_bipush B.1 (v := 9) d_E_enter_11 (by decide +kernel) ?_
      rcases er_tb_some h with ⟨v7, g9, e8, h⟩ | ⟨k47, g9, e8, h⟩
      · refine ej_cs_v (nc := 0) (ns := 0) B.1 [.int x3, .int 0, .int 9] [] (ec_E_requireRange hl.2 (er_pr B) x3 0 9 g6 (.inl v7, g9) e8) cal_E_requireRange lk_E_46 st_E_requireRange rfl B.2.2.2.1 d_E_enter_13 ⟨Nat.le_of_ble_eq_true rfl, Nat.le_of_ble_eq_true rfl, Nat.zero_le _, Nat.zero_le _⟩ (Nat.le_of_ble_eq_true rfl) rfl ?_
        refine ej_iload B.1 d_E_enter_16 rfl ?_
        refine ej_iconst B.1 (v := 0) d_E_enter_18 rfl ?_
        refine ej_iconst B.1 (v := 5) d_E_enter_19 rfl ?_
        rcases er_tb_some h with ⟨v10, g12, e11, h⟩ | ⟨k46, g12, e11, h⟩
        · refine ej_cs_v (nc := 0) (ns := 0) B.1 [.int x4, .int 0, .int 5] [] (ec_E_requireRange hl.2 (er_pr B) x4 0 5 g9 (.inl v10, g12) e11) cal_E_requireRange lk_E_46 st_E_requireRange rfl B.2.2.2.1 d_E_enter_20 ⟨Nat.le_of_ble_eq_true rfl, Nat.le_of_ble_eq_true rfl, Nat.zero_le _, Nat.zero_le _⟩ (Nat.le_of_ble_eq_true rfl) rfl ?_
          refine ej_aload_n B.1 d_E_enter_23 rfl ?_
          refine ej_iload_n B.1 d_E_enter_24 rfl ?_
          rcases er_tb_some h with ⟨v13, g15, e14, h⟩ | ⟨k45, g15, e14, h⟩
          · refine ej_cv_v (nc := 0) (ns := 0) B.1 [.int x1] [] (ec_E_requireOpen hl.2 (er_pr B) x1 g12 (.inl v13, g15) e14) cal_E_requireOpen lk_E_72 in_E_requireOpen (er_at B 0 rfl rfl) rfl rfl se_E_requireOpen rfl B.2.2.2.1 d_E_enter_25 ⟨Nat.le_of_ble_eq_true rfl, Nat.le_of_ble_eq_true rfl, Nat.zero_le _, Nat.zero_le _⟩ (Nat.le_of_ble_eq_true rfl) rfl ?_
            refine ej_aload_n B.1 d_E_enter_28 rfl ?_
            refine ej_getr B.1 (er_at B 0 rfl rfl) rfl rfl fl_E_19 d_E_enter_29 ?_
            refine ej_getr B.1 (er_at B 2 rfl rfl) rfl rfl fl_E_88 d_E_enter_32 ?_
            refine ej_iload_n B.1 d_E_enter_35 rfl ?_
            obtain ⟨e16, h⟩ := er_gd_some h
            refine ej_iald B.1 (er_at B 20 rfl rfl) rfl e16 d_E_enter_36 ?_
            refine ej_iconst B.1 (v := (-1)) d_E_enter_37 rfl ?_
            refine ej_icmp_eq B.1 (tgt := 45) d_E_enter_38 (by decide) (fun q17 => ?_) (fun q17 => ?_)
            · replace h := er_it h q17
              refine ej_iconst B.1 (v := 0) d_E_enter_45 rfl ?_
              exact ej_le (lv' := [some (.ref 0), some (.int x1), some (.int x2), some (.int x3), some (.int x4), some (.int x5), none, none]) ⟨rfl, ⟨rfl, ⟨rfl, ⟨rfl, ⟨rfl, ⟨rfl, trivial⟩⟩⟩⟩⟩⟩ (ew_E_enter_46 hl B x1 x2 x3 x4 x5 0 g15 _ h)
            · replace h := er_if h q17
              refine ej_iconst B.1 (v := 1) d_E_enter_41 rfl ?_
              refine ej_goto B.1 (tgt := 46) d_E_enter_42 (by decide) ?_
              exact ej_le (lv' := [some (.ref 0), some (.int x1), some (.int x2), some (.int x3), some (.int x4), some (.int x5), none, none]) ⟨rfl, ⟨rfl, ⟨rfl, ⟨rfl, ⟨rfl, ⟨rfl, trivial⟩⟩⟩⟩⟩⟩ (ew_E_enter_46 hl B x1 x2 x3 x4 x5 1 g15 _ h)
          · subst h
            exact ej_cv_t (nc := 1) (ns := 6) B.1 [.int x1] [] (ec_E_requireOpen hl.2 (er_pr B) x1 g12 (.inr k45, g15) e14) cal_E_requireOpen lk_E_72 in_E_requireOpen (er_at B 0 rfl rfl) rfl rfl se_E_requireOpen rfl B.2.2.2.1 d_E_enter_25 ⟨Nat.le_of_ble_eq_true rfl, Nat.le_of_ble_eq_true rfl, Nat.le_of_ble_eq_true rfl, Nat.le_of_ble_eq_true rfl⟩ (Nat.le_of_ble_eq_true rfl) rfl B.2.2.1 (B.2.2.2.2.2 _) ⟨Nat.le_of_ble_eq_true rfl, Nat.le_of_ble_eq_true rfl⟩
        · subst h
          exact ej_cs_t (nc := 1) (ns := 6) B.1 [.int x4, .int 0, .int 5] [] (ec_E_requireRange hl.2 (er_pr B) x4 0 5 g9 (.inr k46, g12) e11) cal_E_requireRange lk_E_46 st_E_requireRange rfl B.2.2.2.1 d_E_enter_20 ⟨Nat.le_of_ble_eq_true rfl, Nat.le_of_ble_eq_true rfl, Nat.le_of_ble_eq_true rfl, Nat.le_of_ble_eq_true rfl⟩ (Nat.le_of_ble_eq_true rfl) rfl B.2.2.1 (B.2.2.2.2.2 _) ⟨Nat.le_of_ble_eq_true rfl, Nat.le_of_ble_eq_true rfl⟩
      · subst h
        exact ej_cs_t (nc := 1) (ns := 6) B.1 [.int x3, .int 0, .int 9] [] (ec_E_requireRange hl.2 (er_pr B) x3 0 9 g6 (.inr k47, g9) e8) cal_E_requireRange lk_E_46 st_E_requireRange rfl B.2.2.2.1 d_E_enter_13 ⟨Nat.le_of_ble_eq_true rfl, Nat.le_of_ble_eq_true rfl, Nat.le_of_ble_eq_true rfl, Nat.le_of_ble_eq_true rfl⟩ (Nat.le_of_ble_eq_true rfl) rfl B.2.2.1 (B.2.2.2.2.2 _) ⟨Nat.le_of_ble_eq_true rfl, Nat.le_of_ble_eq_true rfl⟩
    · subst h
      exact ej_cs_t (nc := 1) (ns := 6) B.1 [.int x2] [] (ec_E_requireTeam hl.2 (er_pr B) x2 g3 (.inr k48, g6) e5) cal_E_requireTeam lk_E_102 st_E_requireTeam rfl B.2.2.2.1 d_E_enter_6 ⟨Nat.le_of_ble_eq_true rfl, Nat.le_of_ble_eq_true rfl, Nat.le_of_ble_eq_true rfl, Nat.le_of_ble_eq_true rfl⟩ (Nat.le_of_ble_eq_true rfl) rfl B.2.2.1 (B.2.2.2.2.2 _) ⟨Nat.le_of_ble_eq_true rfl, Nat.le_of_ble_eq_true rfl⟩
  · subst h
    exact ej_cv_t (nc := 1) (ns := 6) B.1 [.int x1] [] (ec_E_requireBoard hl.2 (er_pr B) x1 σ (.inr k49, g3) e2) cal_E_requireBoard lk_E_65 in_E_requireBoard (er_at B 0 rfl rfl) rfl rfl se_E_requireBoard rfl B.2.2.2.1 d_E_enter_2 ⟨Nat.le_of_ble_eq_true rfl, Nat.le_of_ble_eq_true rfl, Nat.le_of_ble_eq_true rfl, Nat.le_of_ble_eq_true rfl⟩ (Nat.le_of_ble_eq_true rfl) rfl B.2.2.1 (B.2.2.2.2.2 _) ⟨Nat.le_of_ble_eq_true rfl, Nat.le_of_ble_eq_true rfl⟩
set_option maxRecDepth 100000 in
set_option maxHeartbeats 4000000 in
theorem ec_P_comeOut {l : Launch} {G : er_G} (hE : er_Pr G 0 21) (x1 x2 x3 x4 : Int32) (σ : er_S) (r : Int32 × er_S) (h : ef_P_comeOut x1 x2 x3 x4 σ = some r) : er_Con l y_P_comeOut w_P_comeOut 1 26 0 0 G [.ref 1, .int x1, .int x2, .int x3, .int x4] σ ((.inl (some (.int r.1)), r.2)) := by
  refine er_ofJ (ret := some .int) (cc := b_P_comeOut) (maxL := 6) (lv0 := [some (.ref 1), some (.int x1), some (.int x2), some (.int x3), some (.int x4), none]) (hh := []) (by decide +kernel) rfl (Or.inl rfl) (by intro v hv; simp only [List.mem_cons, List.not_mem_nil, or_false] at hv; rcases hv with rfl | rfl | rfl | rfl | rfl <;> rfl) (Nat.le_of_ble_eq_true rfl) ?_
  intro p e s m args below meth c hadm C hr hlk hml hw hnm hm hcd
  have B : er_B p s m c meth b_P_comeOut "EntryRows$Persons" G (some .int) 6 0 21 := ⟨C, hr, hlk, hml, hE, er_noh hw hnm hm hcd⟩
  unfold ef_P_comeOut at h
  refine ej_iload_n B.1 d_P_comeOut_0 rfl ?_
  refine ej_aload_n B.1 d_P_comeOut_1 rfl ?_
  refine ej_getr B.1 (er_at B 1 rfl rfl) rfl rfl fl_P_24 d_P_comeOut_2 ?_
  refine ej_iload_n B.1 d_P_comeOut_5 rfl ?_
  obtain ⟨e1, h⟩ := er_gd_some h
  refine ej_iald B.1 (er_at B 9 rfl rfl) rfl e1 d_P_comeOut_6 ?_
  refine ej_isub B.1 d_P_comeOut_7 ?_
  refine ej_istore B.1 (lv' := [some (.ref 1), some (.int x1), some (.int x2), some (.int x3), some (.int x4), some (.int (x2 - (σ 9 (er_ix x1))))]) d_P_comeOut_8 rfl rfl rfl ?_
  refine ej_aload_n B.1 d_P_comeOut_10 rfl ?_
  refine ej_getr B.1 (er_at B 1 rfl rfl) rfl rfl fl_P_30 d_P_comeOut_11 ?_
  refine ej_iload_n B.1 d_P_comeOut_14 rfl ?_
  refine ej_dup2 B.1 d_P_comeOut_15 rfl rfl ?_
  obtain ⟨e2, h⟩ := er_gd_some h
  refine ej_iald B.1 (er_at B 11 rfl rfl) rfl e2 d_P_comeOut_16 ?_
  refine ej_iload B.1 d_P_comeOut_17 rfl ?_
  refine ej_iadd B.1 d_P_comeOut_19 ?_
  obtain ⟨e3, h⟩ := er_gd_some h
  refine ej_iast B.1 (er_at B 11 rfl rfl) rfl e3 d_P_comeOut_20 ?_
  refine ej_aload_n B.1 d_P_comeOut_21 rfl ?_
  refine ej_getr B.1 (er_at B 1 rfl rfl) rfl rfl fl_P_33 d_P_comeOut_22 ?_
  refine ej_iload_n B.1 d_P_comeOut_25 rfl ?_
  refine ej_dup2 B.1 d_P_comeOut_26 rfl rfl ?_
  obtain ⟨e4, h⟩ := er_gd_some h
  refine ej_iald B.1 (er_at B 12 rfl rfl) rfl e4 d_P_comeOut_27 ?_
  refine ej_iload B.1 d_P_comeOut_28 rfl ?_
  refine ej_iload_n B.1 d_P_comeOut_30 rfl ?_
  refine ej_imul B.1 d_P_comeOut_31 ?_
  refine ej_iadd B.1 d_P_comeOut_32 ?_
  obtain ⟨e5, h⟩ := er_gd_some h
  refine ej_iast B.1 (er_at B 12 rfl rfl) rfl e5 d_P_comeOut_33 ?_
  refine ej_aload_n B.1 d_P_comeOut_34 rfl ?_
  refine ej_getr B.1 (er_at B 1 rfl rfl) rfl rfl fl_P_27 d_P_comeOut_35 ?_
  refine ej_iload_n B.1 d_P_comeOut_38 rfl ?_
  refine ej_iload_n B.1 d_P_comeOut_39 rfl ?_
  refine ej_iload B.1 d_P_comeOut_40 rfl ?_
  refine ej_iadd B.1 d_P_comeOut_42 ?_
  obtain ⟨e6, h⟩ := er_gd_some h
  refine ej_iast B.1 (er_at B 10 rfl rfl) rfl e6 d_P_comeOut_43 ?_
  refine ej_aload_n B.1 d_P_comeOut_44 rfl ?_
  refine ej_iload_n B.1 d_P_comeOut_45 rfl ?_
  refine ej_iconst B.1 (v := (-1)) d_P_comeOut_46 rfl ?_
  refine ej_iconst B.1 (v := (-1)) d_P_comeOut_47 rfl ?_
  refine ej_iconst B.1 (v := (-1)) d_P_comeOut_48 rfl ?_
  refine ej_iconst B.1 (v := (-1)) d_P_comeOut_49 rfl ?_
  refine ej_iconst B.1 (v := (-1)) d_P_comeOut_50 rfl ?_
  obtain ⟨v7, g9, e8, h⟩ := er_bw_some h
  refine ej_cv_v (nc := 0) (ns := 0) B.1 [.int x1, .int (-1), .int (-1), .int (-1), .int (-1), .int (-1)] [] (ec_P_setEntry (er_pr B) x1 (-1) (-1) (-1) (-1) (-1) (er_up (er_up (er_up σ 11 (er_ix x1) ((σ 11 (er_ix x1)) + (x2 - (σ 9 (er_ix x1))))) 12 (er_ix x1) (((er_up σ 11 (er_ix x1) ((σ 11 (er_ix x1)) + (x2 - (σ 9 (er_ix x1))))) 12 (er_ix x1)) + ((x2 - (σ 9 (er_ix x1))) * x3))) 10 (er_ix x1) (x2 + x4)) (v7, g9) e8) cal_P_setEntry lk_P_64 in_P_setEntry (er_at B 1 rfl rfl) rfl rfl se_P_setEntry rfl B.2.2.2.1 d_P_comeOut_51 ⟨Nat.le_of_ble_eq_true rfl, Nat.le_of_ble_eq_true rfl, Nat.zero_le _, Nat.zero_le _⟩ (Nat.le_of_ble_eq_true rfl) rfl ?_
  refine ej_iload B.1 d_P_comeOut_54 rfl ?_
  cases h
  exact ej_iret B.1 B.2.1 B.2.2.1 (Nat.zero_le _) (Nat.zero_le _) d_P_comeOut_56
set_option maxRecDepth 100000 in
set_option maxHeartbeats 4000000 in
theorem ew_E_out_57 {p : Program} {l : Launch} {e : Env} {s : State} {m : MethodId} {args : Array Value} {below : List Frame} {meth : Method} {c : Code} {G : er_G} (hl : l.admits e ∧ l.stackTraces = false) (B : er_B p s m c meth b_E_out "EntryRows" G (some .int) 5 0 21) (x2 t0 : Int32) (σ : er_S) (r : (Int32 ⊕ Nat) × er_S) (h : ef_E_out_57 x2 t0 σ = some r) : er_J p l e { frames := 8, cells := er_nc r.1, slots := er_ns r.1, locals := 124 } s m args below meth c G (er_A G s.heap.size) s.heap (er_fin below G s (er_nc r.1) (er_ns r.1) (er_cvi r)) 0 0 σ 57 [some (.ref 0), none, some (.int x2), none, none] [.int t0] := by
  unfold ef_E_out_57 at h
  refine ej_istore B.1 (lv' := [some (.ref 0), none, some (.int x2), none, some (.int t0)]) d_E_out_57 rfl rfl rfl ?_
  refine ej_aload_n B.1 d_E_out_59 rfl ?_
  refine ej_getr B.1 (er_at B 0 rfl rfl) rfl rfl fl_E_10 d_E_out_60 ?_
  refine ej_iload_n B.1 d_E_out_63 rfl ?_
  refine ej_aload_n B.1 d_E_out_64 rfl ?_
  refine ej_geti B.1 (er_at B 0 rfl rfl) rfl rfl fl_E_30 d_E_out_65 ?_
  refine ej_iload B.1 d_E_out_68 rfl ?_
  refine ej_aload_n B.1 d_E_out_70 rfl ?_
  refine ej_geti B.1 (er_at B 0 rfl rfl) rfl rfl fl_E_37 d_E_out_71 ?_
  obtain ⟨v16, g18, e17, h⟩ := er_bw_some h
  refine ej_cv_i (nc := 0) (ns := 0) B.1 [.int x2, .int (σ 0 4), .int t0, .int (σ 0 6)] [] (ec_P_comeOut (er_pr B) x2 (σ 0 4) t0 (σ 0 6) σ (v16, g18) e17) cal_P_comeOut lk_E_138 in_P_comeOut (er_at B 1 rfl rfl) rfl rfl se_P_comeOut rfl B.2.2.2.1 d_E_out_74 ⟨Nat.le_of_ble_eq_true rfl, Nat.le_of_ble_eq_true rfl, Nat.zero_le _, Nat.zero_le _⟩ (Nat.le_of_ble_eq_true rfl) rfl ?_
  cases h
  exact ej_iret B.1 B.2.1 B.2.2.1 (Nat.zero_le _) (Nat.zero_le _) d_E_out_77
set_option maxRecDepth 100000 in
set_option maxHeartbeats 4000000 in
theorem ew_E_out_27 {p : Program} {l : Launch} {e : Env} {s : State} {m : MethodId} {args : Array Value} {below : List Frame} {meth : Method} {c : Code} {G : er_G} (hl : l.admits e ∧ l.stackTraces = false) (B : er_B p s m c meth b_E_out "EntryRows" G (some .int) 5 0 21) (x2 t0 : Int32) (σ : er_S) (r : (Int32 ⊕ Nat) × er_S) (h : ef_E_out_27 x2 t0 σ = some r) : er_J p l e { frames := 8, cells := er_nc r.1, slots := er_ns r.1, locals := 124 } s m args below meth c G (er_A G s.heap.size) s.heap (er_fin below G s (er_nc r.1) (er_ns r.1) (er_cvi r)) 0 0 σ 27 [some (.ref 0), none, some (.int x2), none, none] [.int t0] := by
  unfold ef_E_out_27 at h
  rcases er_tb_some h with ⟨v9, g11, e10, h⟩ | ⟨k20, g11, e10, h⟩
  · refine ej_cs_v (nc := 0) (ns := 0) B.1 [.int t0] [] (ec_E_requireState hl.2 (er_pr B) t0 σ (.inl v9, g11) e10) cal_E_requireState lk_E_81 st_E_requireState rfl B.2.2.2.1 d_E_out_27 ⟨Nat.le_of_ble_eq_true rfl, Nat.le_of_ble_eq_true rfl, Nat.zero_le _, Nat.zero_le _⟩ (Nat.le_of_ble_eq_true rfl) rfl ?_
    refine ej_aload_n B.1 d_E_out_30 rfl ?_
    refine ej_getr B.1 (er_at B 0 rfl rfl) rfl rfl fl_E_10 d_E_out_31 ?_
    refine ej_getr B.1 (er_at B 1 rfl rfl) rfl rfl fl_E_135 d_E_out_34 ?_
    refine ej_iload_n B.1 d_E_out_37 rfl ?_
    obtain ⟨e12, h⟩ := er_gd_some h
    refine ej_iald B.1 (er_at B 7 rfl rfl) rfl e12 d_E_out_38 ?_
    refine ej_istore_n B.1 (lv' := [some (.ref 0), none, some (.int x2), some (.int (g11 7 (er_ix x2))), none]) d_E_out_39 rfl rfl rfl ?_
    refine ej_iload_n B.1 d_E_out_40 rfl ?_
    obtain ⟨v13, e14, h⟩ := er_bd_some h
    refine ej_cs_i (nc := 0) (ns := 0) B.1 [.int (g11 7 (er_ix x2))] [] (ec_E_isPlace (er_pr B) (g11 7 (er_ix x2)) g11 v13 e14) cal_E_isPlace lk_E_95 st_E_isPlace rfl B.2.2.2.1 d_E_out_41 ⟨Nat.le_of_ble_eq_true rfl, Nat.le_of_ble_eq_true rfl, Nat.zero_le _, Nat.zero_le _⟩ (Nat.le_of_ble_eq_true rfl) rfl ?_
    refine ej_if_eq B.1 (tgt := 56) d_E_out_44 (by decide) (fun q15 => ?_) (fun q15 => ?_)
    · replace h := er_it h q15
      refine ej_iconst B.1 (v := 0) d_E_out_56 rfl ?_
      exact ej_le (lv' := [some (.ref 0), none, some (.int x2), none, none]) ⟨rfl, ⟨rfl, trivial⟩⟩ (ew_E_out_57 hl B x2 0 g11 _ h)
    · replace h := er_if h q15
      refine ej_aload_n B.1 d_E_out_47 rfl ?_
      refine ej_getr B.1 (er_at B 0 rfl rfl) rfl rfl fl_E_27 d_E_out_48 ?_
      refine ej_iload_n B.1 d_E_out_51 rfl ?_
      obtain ⟨e19, h⟩ := er_gd_some h
      refine ej_iald B.1 (er_at B 4 rfl rfl) rfl e19 d_E_out_52 ?_
      refine ej_goto B.1 (tgt := 57) d_E_out_53 (by decide) ?_
      exact ej_le (lv' := [some (.ref 0), none, some (.int x2), none, none]) ⟨rfl, ⟨rfl, trivial⟩⟩ (ew_E_out_57 hl B x2 (g11 4 (er_ix (g11 7 (er_ix x2)))) g11 _ h)
  · subst h
    exact ej_cs_t (nc := 1) (ns := 6) B.1 [.int t0] [] (ec_E_requireState hl.2 (er_pr B) t0 σ (.inr k20, g11) e10) cal_E_requireState lk_E_81 st_E_requireState rfl B.2.2.2.1 d_E_out_27 ⟨Nat.le_of_ble_eq_true rfl, Nat.le_of_ble_eq_true rfl, Nat.le_of_ble_eq_true rfl, Nat.le_of_ble_eq_true rfl⟩ (Nat.le_of_ble_eq_true rfl) rfl B.2.2.1 (B.2.2.2.2.2 _) ⟨Nat.le_of_ble_eq_true rfl, Nat.le_of_ble_eq_true rfl⟩
set_option maxRecDepth 100000 in
set_option maxHeartbeats 4000000 in
theorem ec_E_out {l : Launch} {G : er_G} (hl : l.stackTraces = false) (hE : er_Pr G 0 21) (x1 x2 : Int32) (σ : er_S) (r : (Int32 ⊕ Nat) × er_S) (h : ef_E_out x1 x2 σ = some r) : er_Con l y_E_out w_E_out 8 124 (er_nc r.1) (er_ns r.1) G [.ref 0, .int x1, .int x2] σ (er_cvi r) := by
  refine er_ofJ (ret := some .int) (cc := b_E_out) (maxL := 5) (lv0 := [some (.ref 0), some (.int x1), some (.int x2), none, none]) (hh := []) (by decide +kernel) rfl (Or.inl rfl) (by intro v hv; simp only [List.mem_cons, List.not_mem_nil, or_false] at hv; rcases hv with rfl | rfl | rfl <;> rfl) (Nat.le_of_ble_eq_true rfl) ?_
  intro p e s m args below meth c hadm C hr hlk hml hw hnm hm hcd
  have B : er_B p s m c meth b_E_out "EntryRows" G (some .int) 5 0 21 := ⟨C, hr, hlk, hml, hE, er_noh hw hnm hm hcd⟩
  have hl := And.intro hadm hl
  unfold ef_E_out at h
  refine ej_aload_n B.1 d_E_out_0 rfl ?_
  refine ej_iload_n B.1 d_E_out_1 rfl ?_
  rcases er_tb_some h with ⟨v1, g3, e2, h⟩ | ⟨k22, g3, e2, h⟩
  · refine ej_cv_v (nc := 0) (ns := 0) B.1 [.int x1] [] (ec_E_requireBoard hl.2 (er_pr B) x1 σ (.inl v1, g3) e2) cal_E_requireBoard lk_E_65 in_E_requireBoard (er_at B 0 rfl rfl) rfl rfl se_E_requireBoard rfl B.2.2.2.1 d_E_out_2 ⟨Nat.le_of_ble_eq_true rfl, Nat.le_of_ble_eq_true rfl, Nat.zero_le _, Nat.zero_le _⟩ (Nat.le_of_ble_eq_true rfl) rfl ?_
    refine ej_iload_n B.1 d_E_out_5 rfl ?_
    rcases er_tb_some h with ⟨v4, g6, e5, h⟩ | ⟨k21, g6, e5, h⟩
    · refine ej_cs_v (nc := 0) (ns := 0) B.1 [.int x2] [] (ec_E_requirePerson hl.2 (er_pr B) x2 g3 (.inl v4, g6) e5) cal_E_requirePerson lk_E_69 st_E_requirePerson rfl B.2.2.2.1 d_E_out_6 ⟨Nat.le_of_ble_eq_true rfl, Nat.le_of_ble_eq_true rfl, Nat.zero_le _, Nat.zero_le _⟩ (Nat.le_of_ble_eq_true rfl) rfl ?_
      refine ej_aload_n B.1 d_E_out_9 rfl ?_
      refine ej_getr B.1 (er_at B 0 rfl rfl) rfl rfl fl_E_10 d_E_out_10 ?_
      refine ej_getr B.1 (er_at B 1 rfl rfl) rfl rfl fl_E_132 d_E_out_13 ?_
      refine ej_iload_n B.1 d_E_out_16 rfl ?_
      obtain ⟨e7, h⟩ := er_gd_some h
      refine ej_iald B.1 (er_at B 5 rfl rfl) rfl e7 d_E_out_17 ?_
      refine ej_iload_n B.1 d_E_out_18 rfl ?_
      refine ej_icmp_ne B.1 (tgt := 26) d_E_out_19 (by decide) (fun q8 => ?_) (fun q8 => ?_)
      · replace h := er_if h q8
        refine ej_iconst B.1 (v := 0) d_E_out_26 rfl ?_
        exact ej_le (lv' := [some (.ref 0), none, some (.int x2), none, none]) ⟨rfl, ⟨rfl, trivial⟩⟩ (ew_E_out_27 hl B x2 0 g6 _ h)
      · replace h := er_it h q8
        refine ej_iconst B.1 (v := 1) d_E_out_22 rfl ?_
        refine ej_goto B.1 (tgt := 27) d_E_out_23 (by decide) ?_
        exact ej_le (lv' := [some (.ref 0), none, some (.int x2), none, none]) ⟨rfl, ⟨rfl, trivial⟩⟩ (ew_E_out_27 hl B x2 1 g6 _ h)
    · subst h
      exact ej_cs_t (nc := 1) (ns := 6) B.1 [.int x2] [] (ec_E_requirePerson hl.2 (er_pr B) x2 g3 (.inr k21, g6) e5) cal_E_requirePerson lk_E_69 st_E_requirePerson rfl B.2.2.2.1 d_E_out_6 ⟨Nat.le_of_ble_eq_true rfl, Nat.le_of_ble_eq_true rfl, Nat.le_of_ble_eq_true rfl, Nat.le_of_ble_eq_true rfl⟩ (Nat.le_of_ble_eq_true rfl) rfl B.2.2.1 (B.2.2.2.2.2 _) ⟨Nat.le_of_ble_eq_true rfl, Nat.le_of_ble_eq_true rfl⟩
  · subst h
    exact ej_cv_t (nc := 1) (ns := 6) B.1 [.int x1] [] (ec_E_requireBoard hl.2 (er_pr B) x1 σ (.inr k22, g3) e2) cal_E_requireBoard lk_E_65 in_E_requireBoard (er_at B 0 rfl rfl) rfl rfl se_E_requireBoard rfl B.2.2.2.1 d_E_out_2 ⟨Nat.le_of_ble_eq_true rfl, Nat.le_of_ble_eq_true rfl, Nat.le_of_ble_eq_true rfl, Nat.le_of_ble_eq_true rfl⟩ (Nat.le_of_ble_eq_true rfl) rfl B.2.2.1 (B.2.2.2.2.2 _) ⟨Nat.le_of_ble_eq_true rfl, Nat.le_of_ble_eq_true rfl⟩
set_option maxRecDepth 100000 in
set_option maxHeartbeats 4000000 in
theorem ew_E_swap_48 {p : Program} {l : Launch} {e : Env} {s : State} {m : MethodId} {args : Array Value} {below : List Frame} {meth : Method} {c : Code} {G : er_G} (hl : l.admits e ∧ l.stackTraces = false) (B : er_B p s m c meth b_E_swap "EntryRows" G (none) 4 0 21) (x1 x2 t0 : Int32) (σ : er_S) (r : (Unit ⊕ Nat) × er_S) (h : ef_E_swap_48 x1 x2 t0 σ = some r) : er_J p l e { frames := 8, cells := er_nc r.1, slots := er_ns r.1, locals := 123 } s m args below meth c G (er_A G s.heap.size) s.heap (er_fin below G s (er_nc r.1) (er_ns r.1) (er_cvu r)) 0 0 σ 48 [some (.ref 0), some (.int x1), some (.int x2), none] [.int t0] := by
  unfold ef_E_swap_48 at h
  rcases er_tb_some h with ⟨v14, g16, e15, h⟩ | ⟨k21, g16, e15, h⟩
  · refine ej_cs_v (nc := 0) (ns := 0) B.1 [.int t0] [] (ec_E_requireState hl.2 (er_pr B) t0 σ (.inl v14, g16) e15) cal_E_requireState lk_E_81 st_E_requireState rfl B.2.2.2.1 d_E_swap_48 ⟨Nat.le_of_ble_eq_true rfl, Nat.le_of_ble_eq_true rfl, Nat.zero_le _, Nat.zero_le _⟩ (Nat.le_of_ble_eq_true rfl) rfl ?_
    refine ej_aload_n B.1 d_E_swap_51 rfl ?_
    refine ej_getr B.1 (er_at B 0 rfl rfl) rfl rfl fl_E_10 d_E_swap_52 ?_
    refine ej_getr B.1 (er_at B 1 rfl rfl) rfl rfl fl_E_145 d_E_swap_55 ?_
    refine ej_iload_n B.1 d_E_swap_58 rfl ?_
    obtain ⟨e17, h⟩ := er_gd_some h
    refine ej_iald B.1 (er_at B 6 rfl rfl) rfl e17 d_E_swap_59 ?_
    refine ej_istore_n B.1 (lv' := [some (.ref 0), some (.int x1), some (.int x2), some (.int (g16 6 (er_ix x1)))]) d_E_swap_60 rfl rfl rfl ?_
    refine ej_aload_n B.1 d_E_swap_61 rfl ?_
    refine ej_getr B.1 (er_at B 0 rfl rfl) rfl rfl fl_E_10 d_E_swap_62 ?_
    refine ej_getr B.1 (er_at B 1 rfl rfl) rfl rfl fl_E_145 d_E_swap_65 ?_
    refine ej_iload_n B.1 d_E_swap_68 rfl ?_
    refine ej_aload_n B.1 d_E_swap_69 rfl ?_
    refine ej_getr B.1 (er_at B 0 rfl rfl) rfl rfl fl_E_10 d_E_swap_70 ?_
    refine ej_getr B.1 (er_at B 1 rfl rfl) rfl rfl fl_E_145 d_E_swap_73 ?_
    refine ej_iload_n B.1 d_E_swap_76 rfl ?_
    obtain ⟨e18, h⟩ := er_gd_some h
    refine ej_iald B.1 (er_at B 6 rfl rfl) rfl e18 d_E_swap_77 ?_
    obtain ⟨e19, h⟩ := er_gd_some h
    refine ej_iast B.1 (er_at B 6 rfl rfl) rfl e19 d_E_swap_78 ?_
    refine ej_aload_n B.1 d_E_swap_79 rfl ?_
    refine ej_getr B.1 (er_at B 0 rfl rfl) rfl rfl fl_E_10 d_E_swap_80 ?_
    refine ej_getr B.1 (er_at B 1 rfl rfl) rfl rfl fl_E_145 d_E_swap_83 ?_
    refine ej_iload_n B.1 d_E_swap_86 rfl ?_
    refine ej_iload_n B.1 d_E_swap_87 rfl ?_
    obtain ⟨e20, h⟩ := er_gd_some h
    refine ej_iast B.1 (er_at B 6 rfl rfl) rfl e20 d_E_swap_88 ?_
    cases h
    exact ej_vret B.1 B.2.1 B.2.2.1 (Nat.zero_le _) (Nat.zero_le _) d_E_swap_89
  · subst h
    exact ej_cs_t (nc := 1) (ns := 6) B.1 [.int t0] [] (ec_E_requireState hl.2 (er_pr B) t0 σ (.inr k21, g16) e15) cal_E_requireState lk_E_81 st_E_requireState rfl B.2.2.2.1 d_E_swap_48 ⟨Nat.le_of_ble_eq_true rfl, Nat.le_of_ble_eq_true rfl, Nat.le_of_ble_eq_true rfl, Nat.le_of_ble_eq_true rfl⟩ (Nat.le_of_ble_eq_true rfl) rfl B.2.2.1 (B.2.2.2.2.2 _) ⟨Nat.le_of_ble_eq_true rfl, Nat.le_of_ble_eq_true rfl⟩
set_option maxRecDepth 100000 in
set_option maxHeartbeats 4000000 in
theorem ew_E_swap_35 {p : Program} {l : Launch} {e : Env} {s : State} {m : MethodId} {args : Array Value} {below : List Frame} {meth : Method} {c : Code} {G : er_G} (hl : l.admits e ∧ l.stackTraces = false) (B : er_B p s m c meth b_E_swap "EntryRows" G (none) 4 0 21) (x1 x2 t0 : Int32) (σ : er_S) (r : (Unit ⊕ Nat) × er_S) (h : ef_E_swap_35 x1 x2 t0 σ = some r) : er_J p l e { frames := 8, cells := er_nc r.1, slots := er_ns r.1, locals := 123 } s m args below meth c G (er_A G s.heap.size) s.heap (er_fin below G s (er_nc r.1) (er_ns r.1) (er_cvu r)) 0 0 σ 35 [some (.ref 0), some (.int x1), some (.int x2), none] [.int t0] := by
  unfold ef_E_swap_35 at h
  rcases er_tb_some h with ⟨v10, g12, e11, h⟩ | ⟨k22, g12, e11, h⟩
  · refine ej_cs_v (nc := 0) (ns := 0) B.1 [.int t0] [] (ec_E_requireState hl.2 (er_pr B) t0 σ (.inl v10, g12) e11) cal_E_requireState lk_E_81 st_E_requireState rfl B.2.2.2.1 d_E_swap_35 ⟨Nat.le_of_ble_eq_true rfl, Nat.le_of_ble_eq_true rfl, Nat.zero_le _, Nat.zero_le _⟩ (Nat.le_of_ble_eq_true rfl) rfl ?_
    refine ej_iload_n B.1 d_E_swap_38 rfl ?_
    refine ej_iload_n B.1 d_E_swap_39 rfl ?_
    refine ej_icmp_eq B.1 (tgt := 47) d_E_swap_40 (by decide) (fun q13 => ?_) (fun q13 => ?_)
    · replace h := er_it h q13
      refine ej_iconst B.1 (v := 0) d_E_swap_47 rfl ?_
      exact ej_le (lv' := [some (.ref 0), some (.int x1), some (.int x2), none]) ⟨rfl, ⟨rfl, ⟨rfl, trivial⟩⟩⟩ (ew_E_swap_48 hl B x1 x2 0 g12 _ h)
    · replace h := er_if h q13
      refine ej_iconst B.1 (v := 1) d_E_swap_43 rfl ?_
      refine ej_goto B.1 (tgt := 48) d_E_swap_44 (by decide) ?_
      exact ej_le (lv' := [some (.ref 0), some (.int x1), some (.int x2), none]) ⟨rfl, ⟨rfl, ⟨rfl, trivial⟩⟩⟩ (ew_E_swap_48 hl B x1 x2 1 g12 _ h)
  · subst h
    exact ej_cs_t (nc := 1) (ns := 6) B.1 [.int t0] [] (ec_E_requireState hl.2 (er_pr B) t0 σ (.inr k22, g12) e11) cal_E_requireState lk_E_81 st_E_requireState rfl B.2.2.2.1 d_E_swap_35 ⟨Nat.le_of_ble_eq_true rfl, Nat.le_of_ble_eq_true rfl, Nat.le_of_ble_eq_true rfl, Nat.le_of_ble_eq_true rfl⟩ (Nat.le_of_ble_eq_true rfl) rfl B.2.2.1 (B.2.2.2.2.2 _) ⟨Nat.le_of_ble_eq_true rfl, Nat.le_of_ble_eq_true rfl⟩
set_option maxRecDepth 100000 in
set_option maxHeartbeats 4000000 in
theorem ew_E_swap_34 {p : Program} {l : Launch} {e : Env} {s : State} {m : MethodId} {args : Array Value} {below : List Frame} {meth : Method} {c : Code} {G : er_G} (hl : l.admits e ∧ l.stackTraces = false) (B : er_B p s m c meth b_E_swap "EntryRows" G (none) 4 0 21) (x1 x2 : Int32) (σ : er_S) (r : (Unit ⊕ Nat) × er_S) (h : ef_E_swap_34 x1 x2 σ = some r) : er_J p l e { frames := 8, cells := er_nc r.1, slots := er_ns r.1, locals := 123 } s m args below meth c G (er_A G s.heap.size) s.heap (er_fin below G s (er_nc r.1) (er_ns r.1) (er_cvu r)) 0 0 σ 34 [some (.ref 0), some (.int x1), some (.int x2), none] [] := by
  unfold ef_E_swap_34 at h
  refine ej_iconst B.1 (v := 0) d_E_swap_34 rfl ?_
  exact ej_le (lv' := [some (.ref 0), some (.int x1), some (.int x2), none]) ⟨rfl, ⟨rfl, ⟨rfl, trivial⟩⟩⟩ (ew_E_swap_35 hl B x1 x2 0 σ _ h)
set_option maxRecDepth 100000 in
set_option maxHeartbeats 4000000 in
theorem ec_E_swap {l : Launch} {G : er_G} (hl : l.stackTraces = false) (hE : er_Pr G 0 21) (x1 x2 : Int32) (σ : er_S) (r : (Unit ⊕ Nat) × er_S) (h : ef_E_swap x1 x2 σ = some r) : er_Con l y_E_swap w_E_swap 8 123 (er_nc r.1) (er_ns r.1) G [.ref 0, .int x1, .int x2] σ (er_cvu r) := by
  refine er_ofJ (ret := none) (cc := b_E_swap) (maxL := 4) (lv0 := [some (.ref 0), some (.int x1), some (.int x2), none]) (hh := []) (by decide +kernel) rfl (Or.inl rfl) (by intro v hv; simp only [List.mem_cons, List.not_mem_nil, or_false] at hv; rcases hv with rfl | rfl | rfl <;> rfl) (Nat.le_of_ble_eq_true rfl) ?_
  intro p e s m args below meth c hadm C hr hlk hml hw hnm hm hcd
  have B : er_B p s m c meth b_E_swap "EntryRows" G (none) 4 0 21 := ⟨C, hr, hlk, hml, hE, er_noh hw hnm hm hcd⟩
  have hl := And.intro hadm hl
  unfold ef_E_swap at h
  refine ej_iload_n B.1 d_E_swap_0 rfl ?_
  rcases er_tb_some h with ⟨v1, g3, e2, h⟩ | ⟨k27, g3, e2, h⟩
  · refine ej_cs_v (nc := 0) (ns := 0) B.1 [.int x1] [] (ec_E_requirePerson hl.2 (er_pr B) x1 σ (.inl v1, g3) e2) cal_E_requirePerson lk_E_69 st_E_requirePerson rfl B.2.2.2.1 d_E_swap_1 ⟨Nat.le_of_ble_eq_true rfl, Nat.le_of_ble_eq_true rfl, Nat.zero_le _, Nat.zero_le _⟩ (Nat.le_of_ble_eq_true rfl) rfl ?_
    refine ej_iload_n B.1 d_E_swap_4 rfl ?_
    rcases er_tb_some h with ⟨v4, g6, e5, h⟩ | ⟨k26, g6, e5, h⟩
    · refine ej_cs_v (nc := 0) (ns := 0) B.1 [.int x2] [] (ec_E_requirePerson hl.2 (er_pr B) x2 g3 (.inl v4, g6) e5) cal_E_requirePerson lk_E_69 st_E_requirePerson rfl B.2.2.2.1 d_E_swap_5 ⟨Nat.le_of_ble_eq_true rfl, Nat.le_of_ble_eq_true rfl, Nat.zero_le _, Nat.zero_le _⟩ (Nat.le_of_ble_eq_true rfl) rfl ?_
      refine ej_aload_n B.1 d_E_swap_8 rfl ?_
      refine ej_getr B.1 (er_at B 0 rfl rfl) rfl rfl fl_E_10 d_E_swap_9 ?_
      refine ej_iload_n B.1 d_E_swap_12 rfl ?_
      obtain ⟨v7, e8, h⟩ := er_bd_some h
      refine ej_cv_i (nc := 0) (ns := 0) B.1 [.int x1] [] (ec_P_isInside (er_pr B) x1 g6 v7 e8) cal_P_isInside lk_E_142 in_P_isInside (er_at B 1 rfl rfl) rfl rfl se_P_isInside rfl B.2.2.2.1 d_E_swap_13 ⟨Nat.le_of_ble_eq_true rfl, Nat.le_of_ble_eq_true rfl, Nat.zero_le _, Nat.zero_le _⟩ (Nat.le_of_ble_eq_true rfl) rfl ?_
      refine ej_if_eq B.1 (tgt := 34) d_E_swap_16 (by decide) (fun q9 => ?_) (fun q9 => ?_)
      · replace h := er_it h q9
        exact ej_le (lv' := [some (.ref 0), some (.int x1), some (.int x2), none]) ⟨rfl, ⟨rfl, ⟨rfl, trivial⟩⟩⟩ (ew_E_swap_34 hl B x1 x2 g6 _ h)
      · replace h := er_if h q9
        refine ej_aload_n B.1 d_E_swap_19 rfl ?_
        refine ej_getr B.1 (er_at B 0 rfl rfl) rfl rfl fl_E_10 d_E_swap_20 ?_
        refine ej_iload_n B.1 d_E_swap_23 rfl ?_
        obtain ⟨v23, e24, h⟩ := er_bd_some h
        refine ej_cv_i (nc := 0) (ns := 0) B.1 [.int x2] [] (ec_P_isInside (er_pr B) x2 g6 v23 e24) cal_P_isInside lk_E_142 in_P_isInside (er_at B 1 rfl rfl) rfl rfl se_P_isInside rfl B.2.2.2.1 d_E_swap_24 ⟨Nat.le_of_ble_eq_true rfl, Nat.le_of_ble_eq_true rfl, Nat.zero_le _, Nat.zero_le _⟩ (Nat.le_of_ble_eq_true rfl) rfl ?_
        refine ej_if_eq B.1 (tgt := 34) d_E_swap_27 (by decide) (fun q25 => ?_) (fun q25 => ?_)
        · replace h := er_it h q25
          exact ej_le (lv' := [some (.ref 0), some (.int x1), some (.int x2), none]) ⟨rfl, ⟨rfl, ⟨rfl, trivial⟩⟩⟩ (ew_E_swap_34 hl B x1 x2 g6 _ h)
        · replace h := er_if h q25
          refine ej_iconst B.1 (v := 1) d_E_swap_30 rfl ?_
          refine ej_goto B.1 (tgt := 35) d_E_swap_31 (by decide) ?_
          exact ej_le (lv' := [some (.ref 0), some (.int x1), some (.int x2), none]) ⟨rfl, ⟨rfl, ⟨rfl, trivial⟩⟩⟩ (ew_E_swap_35 hl B x1 x2 1 g6 _ h)
    · subst h
      exact ej_cs_t (nc := 1) (ns := 6) B.1 [.int x2] [] (ec_E_requirePerson hl.2 (er_pr B) x2 g3 (.inr k26, g6) e5) cal_E_requirePerson lk_E_69 st_E_requirePerson rfl B.2.2.2.1 d_E_swap_5 ⟨Nat.le_of_ble_eq_true rfl, Nat.le_of_ble_eq_true rfl, Nat.le_of_ble_eq_true rfl, Nat.le_of_ble_eq_true rfl⟩ (Nat.le_of_ble_eq_true rfl) rfl B.2.2.1 (B.2.2.2.2.2 _) ⟨Nat.le_of_ble_eq_true rfl, Nat.le_of_ble_eq_true rfl⟩
  · subst h
    exact ej_cs_t (nc := 1) (ns := 6) B.1 [.int x1] [] (ec_E_requirePerson hl.2 (er_pr B) x1 σ (.inr k27, g3) e2) cal_E_requirePerson lk_E_69 st_E_requirePerson rfl B.2.2.2.1 d_E_swap_1 ⟨Nat.le_of_ble_eq_true rfl, Nat.le_of_ble_eq_true rfl, Nat.le_of_ble_eq_true rfl, Nat.le_of_ble_eq_true rfl⟩ (Nat.le_of_ble_eq_true rfl) rfl B.2.2.1 (B.2.2.2.2.2 _) ⟨Nat.le_of_ble_eq_true rfl, Nat.le_of_ble_eq_true rfl⟩
