set_option maxRecDepth 100000 in
set_option maxHeartbeats 4000000 in
theorem ew_M_onBoard_4 {p : Program} {l : Launch} {e : Env} {s : State} {m : MethodId} {args : Array Value} {below : List Frame} {meth : Method} {c : Code} {G : er_G} (B : er_B p s m c meth b_M_onBoard "EntryRowsModel" G (some .int) 4 21 39) : ∀ (n : Nat) (x1 x2 x3 : Int32) (σ : er_S) (r : Int32), ef_M_onBoard_4 n x1 x2 x3 σ = some r → er_J p l e { frames := 0, cells := 0, slots := 0, locals := 0 } s m args below meth c G (er_A G s.heap.size) s.heap (er_fin below G s 0 0 (.inl (some (.int r)), σ)) 0 0 σ 4 [some (.ref 21), some (.int x1), some (.int x2), some (.int x3)] [] := by
  intro n
  induction n with
  | zero => intro x1 x2 x3 σ r h; cases h
  | succ n ih =>
    intro x1 x2 x3 σ r h
    rw [ef_M_onBoard_4] at h
    refine ej_iload_n B.1 d_M_onBoard_4 rfl ?_
    refine ej_bipush B.1 (v := 40) d_M_onBoard_5 (by decide +kernel) ?_
    refine ej_icmp_ge B.1 (tgt := 34) d_M_onBoard_7 (by decide) (fun q1 => ?_) (fun q1 => ?_)
    · replace h := er_it h q1
      refine ej_iload_n B.1 d_M_onBoard_34 rfl ?_
      cases h
      exact ej_iret B.1 B.2.1 B.2.2.1 (Nat.zero_le _) (Nat.zero_le _) d_M_onBoard_35
    · replace h := er_if h q1
      refine ej_iload_n B.1 d_M_onBoard_10 rfl ?_
      refine ej_aload_n B.1 d_M_onBoard_11 rfl ?_
      refine ej_getr B.1 (er_at B 21 rfl rfl) rfl rfl fl_M_42 d_M_onBoard_12 ?_
      refine ej_iload_n B.1 d_M_onBoard_15 rfl ?_
      obtain ⟨e2, h⟩ := er_gd_some h
      refine ej_iald B.1 (er_at B 31 rfl rfl) rfl e2 d_M_onBoard_16 ?_
      refine ej_iload_n B.1 d_M_onBoard_17 rfl ?_
      refine ej_icmp_ne B.1 (tgt := 25) d_M_onBoard_18 (by decide) (fun q3 => ?_) (fun q3 => ?_)
      · replace h := er_if h q3
        refine ej_iconst B.1 (v := 0) d_M_onBoard_25 rfl ?_
        refine ej_iadd B.1 d_M_onBoard_26 ?_
        refine ej_istore_n B.1 (lv' := [some (.ref 21), some (.int x1), some (.int (x2 + 0)), some (.int x3)]) d_M_onBoard_27 rfl rfl rfl ?_
        refine ej_iinc B.1 (v := x3 + 1) (lv' := [some (.ref 21), some (.int x1), some (.int (x2 + 0)), some (.int (x3 + 1))]) d_M_onBoard_28 rfl rfl rfl rfl rfl ?_
        refine ej_goto B.1 (tgt := 4) d_M_onBoard_31 (by decide) ?_
        exact ej_le (lv' := [some (.ref 21), some (.int x1), some (.int (x2 + 0)), some (.int (x3 + 1))]) ⟨rfl, ⟨rfl, ⟨rfl, ⟨rfl, trivial⟩⟩⟩⟩ (ih x1 (x2 + 0) (x3 + 1) σ _ h)
      · replace h := er_it h q3
        refine ej_iconst B.1 (v := 1) d_M_onBoard_21 rfl ?_
        refine ej_goto B.1 (tgt := 26) d_M_onBoard_22 (by decide) ?_
        refine ej_iadd B.1 d_M_onBoard_26 ?_
        refine ej_istore_n B.1 (lv' := [some (.ref 21), some (.int x1), some (.int (x2 + 1)), some (.int x3)]) d_M_onBoard_27 rfl rfl rfl ?_
        refine ej_iinc B.1 (v := x3 + 1) (lv' := [some (.ref 21), some (.int x1), some (.int (x2 + 1)), some (.int (x3 + 1))]) d_M_onBoard_28 rfl rfl rfl rfl rfl ?_
        refine ej_goto B.1 (tgt := 4) d_M_onBoard_31 (by decide) ?_
        exact ej_le (lv' := [some (.ref 21), some (.int x1), some (.int (x2 + 1)), some (.int (x3 + 1))]) ⟨rfl, ⟨rfl, ⟨rfl, ⟨rfl, trivial⟩⟩⟩⟩ (ih x1 (x2 + 1) (x3 + 1) σ _ h)
set_option maxRecDepth 100000 in
set_option maxHeartbeats 4000000 in
theorem ec_M_onBoard {l : Launch} {G : er_G} (hE : er_Pr G 21 39) (x1 : Int32) (σ : er_S) (r : Int32) (h : ef_M_onBoard x1 σ = some r) : er_Con l y_M_onBoard w_M_onBoard 0 0 0 0 G [.ref 21, .int x1] σ ((.inl (some (.int r)), σ)) := by
  refine er_ofJ (ret := some .int) (cc := b_M_onBoard) (maxL := 4) (lv0 := [some (.ref 21), some (.int x1), none, none]) (hh := []) (by decide +kernel) rfl (Or.inl rfl) (by intro v hv; simp only [List.mem_cons, List.not_mem_nil, or_false] at hv; rcases hv with rfl | rfl <;> rfl) (Nat.le_of_ble_eq_true rfl) ?_
  intro p e s m args below meth c hadm C hr hlk hml hw hnm hm hcd
  have B : er_B p s m c meth b_M_onBoard "EntryRowsModel" G (some .int) 4 21 39 := ⟨C, hr, hlk, hml, hE, er_noh hw hnm hm hcd⟩
  unfold ef_M_onBoard at h
  refine ej_iconst B.1 (v := 0) d_M_onBoard_0 rfl ?_
  refine ej_istore_n B.1 (lv' := [some (.ref 21), some (.int x1), some (.int 0), none]) d_M_onBoard_1 rfl rfl rfl ?_
  refine ej_iconst B.1 (v := 0) d_M_onBoard_2 rfl ?_
  refine ej_istore_n B.1 (lv' := [some (.ref 21), some (.int x1), some (.int 0), some (.int 0)]) d_M_onBoard_3 rfl rfl rfl ?_
  exact ej_le (lv' := [some (.ref 21), some (.int x1), some (.int 0), some (.int 0)]) ⟨rfl, ⟨rfl, ⟨rfl, ⟨rfl, trivial⟩⟩⟩⟩ (ew_M_onBoard_4 B 64 x1 0 0 σ _ h)
set_option maxRecDepth 100000 in
set_option maxHeartbeats 4000000 in
theorem ew_M_join_97 {p : Program} {l : Launch} {e : Env} {s : State} {m : MethodId} {args : Array Value} {below : List Frame} {meth : Method} {c : Code} {G : er_G} (B : er_B p s m c meth b_M_join "EntryRowsModel" G (some .int) 5 21 39) : ∀ (n : Nat) (x1 x2 x4 : Int32) (σ : er_S) (r : Int32 × er_S), ef_M_join_97 n x1 x2 x4 σ = some r → er_J p l e { frames := 3, cells := 0, slots := 0, locals := 64 } s m args below meth c G (er_A G s.heap.size) s.heap (er_fin below G s 0 0 (.inl (some (.int r.1)), r.2)) 0 0 σ 97 [some (.ref 21), some (.int x1), some (.int x2), none, some (.int x4)] [] := by
  intro n
  induction n with
  | zero => intro x1 x2 x4 σ r h; cases h
  | succ n ih =>
    intro x1 x2 x4 σ r h
    rw [ef_M_join_97] at h
    refine ej_iload B.1 d_M_join_97 rfl ?_
    refine ej_bipush B.1 (v := 16) d_M_join_99 (by decide +kernel) ?_
    refine ej_icmp_ge B.1 (tgt := 129) d_M_join_101 (by decide) (fun q12 => ?_) (fun q12 => ?_)
    · replace h := er_it h q12
      refine ej_aload_n B.1 d_M_join_129 rfl ?_
      refine ej_getr B.1 (er_at B 21 rfl rfl) rfl rfl fl_M_17 d_M_join_130 ?_
      refine ej_iload_n B.1 d_M_join_133 rfl ?_
      refine ej_iconst B.1 (v := 0) d_M_join_134 rfl ?_
      obtain ⟨e13, h⟩ := er_gd_some h
      obtain ⟨e14, h⟩ := er_gd_some h
      refine ej_zast B.1 (er_at B 23 rfl rfl) rfl e13 e14 d_M_join_135 ?_
      refine ej_aload_n B.1 d_M_join_136 rfl ?_
      refine ej_getr B.1 (er_at B 21 rfl rfl) rfl rfl fl_M_30 d_M_join_137 ?_
      refine ej_iload_n B.1 d_M_join_140 rfl ?_
      refine ej_iconst B.1 (v := (-1)) d_M_join_141 rfl ?_
      obtain ⟨e15, h⟩ := er_gd_some h
      refine ej_iast B.1 (er_at B 27 rfl rfl) rfl e15 d_M_join_142 ?_
      refine ej_aload_n B.1 d_M_join_143 rfl ?_
      refine ej_iload_n B.1 d_M_join_144 rfl ?_
      obtain ⟨v16, e17, h⟩ := er_bd_some h
      refine ej_cv_i (nc := 0) (ns := 0) B.1 [.int x2] [] (ec_M_onBoard (er_pr B) x2 (er_up (er_up σ 23 (er_ix x1) 0) 27 (er_ix x1) (-1)) v16 e17) cal_M_onBoard lk_M_118 in_M_onBoard (er_at B 21 rfl rfl) rfl rfl se_M_onBoard rfl B.2.2.2.1 d_M_join_145 ⟨Nat.le_of_ble_eq_true rfl, Nat.le_of_ble_eq_true rfl, Nat.zero_le _, Nat.zero_le _⟩ (Nat.le_of_ble_eq_true rfl) rfl ?_
      cases h
      exact ej_iret B.1 B.2.1 B.2.2.1 (Nat.zero_le _) (Nat.zero_le _) d_M_join_148
    · replace h := er_if h q12
      refine ej_aload_n B.1 d_M_join_104 rfl ?_
      refine ej_getr B.1 (er_at B 21 rfl rfl) rfl rfl fl_M_33 d_M_join_105 ?_
      refine ej_iload B.1 d_M_join_108 rfl ?_
      obtain ⟨e18, h⟩ := er_gd_some h
      refine ej_iald B.1 (er_at B 28 rfl rfl) rfl e18 d_M_join_110 ?_
      refine ej_iload_n B.1 d_M_join_111 rfl ?_
      refine ej_icmp_ne B.1 (tgt := 123) d_M_join_112 (by decide) (fun q19 => ?_) (fun q19 => ?_)
      · replace h := er_if h q19
        refine ej_iinc B.1 (v := x4 + 1) (lv' := [some (.ref 21), some (.int x1), some (.int x2), none, some (.int (x4 + 1))]) d_M_join_123 rfl rfl rfl rfl rfl ?_
        refine ej_goto B.1 (tgt := 97) d_M_join_126 (by decide) ?_
        exact ej_le (lv' := [some (.ref 21), some (.int x1), some (.int x2), none, some (.int (x4 + 1))]) ⟨rfl, ⟨rfl, ⟨rfl, ⟨rfl, trivial⟩⟩⟩⟩ (ih x1 x2 (x4 + 1) σ _ h)
      · replace h := er_it h q19
        refine ej_aload_n B.1 d_M_join_115 rfl ?_
        refine ej_getr B.1 (er_at B 21 rfl rfl) rfl rfl fl_M_33 d_M_join_116 ?_
        refine ej_iload B.1 d_M_join_119 rfl ?_
        refine ej_iload_n B.1 d_M_join_121 rfl ?_
        obtain ⟨e20, h⟩ := er_gd_some h
        refine ej_iast B.1 (er_at B 28 rfl rfl) rfl e20 d_M_join_122 ?_
        refine ej_iinc B.1 (v := x4 + 1) (lv' := [some (.ref 21), some (.int x1), some (.int x2), none, some (.int (x4 + 1))]) d_M_join_123 rfl rfl rfl rfl rfl ?_
        refine ej_goto B.1 (tgt := 97) d_M_join_126 (by decide) ?_
        exact ej_le (lv' := [some (.ref 21), some (.int x1), some (.int x2), none, some (.int (x4 + 1))]) ⟨rfl, ⟨rfl, ⟨rfl, ⟨rfl, trivial⟩⟩⟩⟩ (ih x1 x2 (x4 + 1) (er_up σ 28 (er_ix x4) x2) _ h)
set_option maxRecDepth 100000 in
set_option maxHeartbeats 4000000 in
theorem ew_M_join_62 {p : Program} {l : Launch} {e : Env} {s : State} {m : MethodId} {args : Array Value} {below : List Frame} {meth : Method} {c : Code} {G : er_G} (B : er_B p s m c meth b_M_join "EntryRowsModel" G (some .int) 5 21 39) : ∀ (n : Nat) (x1 x2 x4 : Int32) (σ : er_S) (r : Int32 × er_S), ef_M_join_62 n x1 x2 x4 σ = some r → er_J p l e { frames := 3, cells := 0, slots := 0, locals := 64 } s m args below meth c G (er_A G s.heap.size) s.heap (er_fin below G s 0 0 (.inl (some (.int r.1)), r.2)) 0 0 σ 62 [some (.ref 21), some (.int x1), some (.int x2), none, some (.int x4)] [] := by
  intro n
  induction n with
  | zero => intro x1 x2 x4 σ r h; cases h
  | succ n ih =>
    intro x1 x2 x4 σ r h
    rw [ef_M_join_62] at h
    refine ej_iload B.1 d_M_join_62 rfl ?_
    refine ej_bipush B.1 (v := 40) d_M_join_64 (by decide +kernel) ?_
    refine ej_icmp_ge B.1 (tgt := 94) d_M_join_66 (by decide) (fun q11 => ?_) (fun q11 => ?_)
    · replace h := er_it h q11
      refine ej_iconst B.1 (v := 0) d_M_join_94 rfl ?_
      refine ej_istore B.1 (lv' := [some (.ref 21), some (.int x1), some (.int x2), none, some (.int 0)]) d_M_join_95 rfl rfl rfl ?_
      exact ej_le (lv' := [some (.ref 21), some (.int x1), some (.int x2), none, some (.int 0)]) ⟨rfl, ⟨rfl, ⟨rfl, ⟨rfl, trivial⟩⟩⟩⟩ (ew_M_join_97 B 64 x1 x2 0 σ _ h)
    · replace h := er_if h q11
      refine ej_aload_n B.1 d_M_join_69 rfl ?_
      refine ej_getr B.1 (er_at B 21 rfl rfl) rfl rfl fl_M_42 d_M_join_70 ?_
      refine ej_iload B.1 d_M_join_73 rfl ?_
      obtain ⟨e21, h⟩ := er_gd_some h
      refine ej_iald B.1 (er_at B 31 rfl rfl) rfl e21 d_M_join_75 ?_
      refine ej_iload_n B.1 d_M_join_76 rfl ?_
      refine ej_icmp_ne B.1 (tgt := 88) d_M_join_77 (by decide) (fun q22 => ?_) (fun q22 => ?_)
      · replace h := er_if h q22
        refine ej_iinc B.1 (v := x4 + 1) (lv' := [some (.ref 21), some (.int x1), some (.int x2), none, some (.int (x4 + 1))]) d_M_join_88 rfl rfl rfl rfl rfl ?_
        refine ej_goto B.1 (tgt := 62) d_M_join_91 (by decide) ?_
        exact ej_le (lv' := [some (.ref 21), some (.int x1), some (.int x2), none, some (.int (x4 + 1))]) ⟨rfl, ⟨rfl, ⟨rfl, ⟨rfl, trivial⟩⟩⟩⟩ (ih x1 x2 (x4 + 1) σ _ h)
      · replace h := er_it h q22
        refine ej_aload_n B.1 d_M_join_80 rfl ?_
        refine ej_getr B.1 (er_at B 21 rfl rfl) rfl rfl fl_M_42 d_M_join_81 ?_
        refine ej_iload B.1 d_M_join_84 rfl ?_
        refine ej_iload_n B.1 d_M_join_86 rfl ?_
        obtain ⟨e23, h⟩ := er_gd_some h
        refine ej_iast B.1 (er_at B 31 rfl rfl) rfl e23 d_M_join_87 ?_
        refine ej_iinc B.1 (v := x4 + 1) (lv' := [some (.ref 21), some (.int x1), some (.int x2), none, some (.int (x4 + 1))]) d_M_join_88 rfl rfl rfl rfl rfl ?_
        refine ej_goto B.1 (tgt := 62) d_M_join_91 (by decide) ?_
        exact ej_le (lv' := [some (.ref 21), some (.int x1), some (.int x2), none, some (.int (x4 + 1))]) ⟨rfl, ⟨rfl, ⟨rfl, ⟨rfl, trivial⟩⟩⟩⟩ (ih x1 x2 (x4 + 1) (er_up σ 31 (er_ix x4) x2) _ h)
set_option maxRecDepth 100000 in
set_option maxHeartbeats 4000000 in
theorem ew_M_join_50 {p : Program} {l : Launch} {e : Env} {s : State} {m : MethodId} {args : Array Value} {below : List Frame} {meth : Method} {c : Code} {G : er_G} (B : er_B p s m c meth b_M_join "EntryRowsModel" G (some .int) 5 21 39) (x1 x2 t1 t2 : Int32) (σ : er_S) (r : Int32 × er_S) (h : ef_M_join_50 x1 x2 t1 t2 σ = some r) : er_J p l e { frames := 3, cells := 0, slots := 0, locals := 64 } s m args below meth c G (er_A G s.heap.size) s.heap (er_fin below G s 0 0 (.inl (some (.int r.1)), r.2)) 0 0 σ 50 [some (.ref 21), some (.int x1), some (.int x2), none, none] [.int t2, .int t1, .ref 21] := by
  unfold ef_M_join_50 at h
  refine ej_iconst B.1 (v := 0) d_M_join_50 rfl ?_
  obtain ⟨v7, g9, e8, h⟩ := er_bw_some h
  refine ej_cv_i (nc := 0) (ns := 0) B.1 [.int t1, .int t2, .int 0] [] (ec_M_throwing (er_pr B) t1 t2 0 σ (v7, g9) e8) cal_M_throwing lk_M_84 in_M_throwing (er_at B 21 rfl rfl) rfl rfl se_M_throwing rfl B.2.2.2.1 d_M_join_51 ⟨Nat.le_of_ble_eq_true rfl, Nat.le_of_ble_eq_true rfl, Nat.zero_le _, Nat.zero_le _⟩ (Nat.le_of_ble_eq_true rfl) rfl ?_
  refine ej_if_eq B.1 (tgt := 59) d_M_join_54 (by decide) (fun q10 => ?_) (fun q10 => ?_)
  · replace h := er_it h q10
    refine ej_iconst B.1 (v := 0) d_M_join_59 rfl ?_
    refine ej_istore B.1 (lv' := [some (.ref 21), some (.int x1), some (.int x2), none, some (.int 0)]) d_M_join_60 rfl rfl rfl ?_
    exact ej_le (lv' := [some (.ref 21), some (.int x1), some (.int x2), none, some (.int 0)]) ⟨rfl, ⟨rfl, ⟨rfl, ⟨rfl, trivial⟩⟩⟩⟩ (ew_M_join_62 B 64 x1 x2 0 g9 _ h)
  · replace h := er_if h q10
    refine ej_iconst B.1 (v := 0) d_M_join_57 rfl ?_
    cases h
    exact ej_iret B.1 B.2.1 B.2.2.1 (Nat.zero_le _) (Nat.zero_le _) d_M_join_58
set_option maxRecDepth 100000 in
set_option maxHeartbeats 4000000 in
theorem ew_M_join_45 {p : Program} {l : Launch} {e : Env} {s : State} {m : MethodId} {args : Array Value} {below : List Frame} {meth : Method} {c : Code} {G : er_G} (B : er_B p s m c meth b_M_join "EntryRowsModel" G (some .int) 5 21 39) (x1 x2 t1 : Int32) (σ : er_S) (r : Int32 × er_S) (h : ef_M_join_45 x1 x2 t1 σ = some r) : er_J p l e { frames := 3, cells := 0, slots := 0, locals := 64 } s m args below meth c G (er_A G s.heap.size) s.heap (er_fin below G s 0 0 (.inl (some (.int r.1)), r.2)) 0 0 σ 45 [some (.ref 21), some (.int x1), some (.int x2), none, none] [.int t1, .ref 21] := by
  unfold ef_M_join_45 at h
  refine ej_iconst B.1 (v := 1) d_M_join_45 rfl ?_
  refine ej_goto B.1 (tgt := 50) d_M_join_46 (by decide) ?_
  exact ej_le (lv' := [some (.ref 21), some (.int x1), some (.int x2), none, none]) ⟨rfl, ⟨rfl, ⟨rfl, trivial⟩⟩⟩ (ew_M_join_50 B x1 x2 t1 1 σ _ h)
set_option maxRecDepth 100000 in
set_option maxHeartbeats 4000000 in
theorem ew_M_join_21 {p : Program} {l : Launch} {e : Env} {s : State} {m : MethodId} {args : Array Value} {below : List Frame} {meth : Method} {c : Code} {G : er_G} (B : er_B p s m c meth b_M_join "EntryRowsModel" G (some .int) 5 21 39) (x1 x2 t0 : Int32) (σ : er_S) (r : Int32 × er_S) (h : ef_M_join_21 x1 x2 t0 σ = some r) : er_J p l e { frames := 3, cells := 0, slots := 0, locals := 64 } s m args below meth c G (er_A G s.heap.size) s.heap (er_fin below G s 0 0 (.inl (some (.int r.1)), r.2)) 0 0 σ 21 [some (.ref 21), some (.int x1), some (.int x2), none, none] [.int t0] := by
  unfold ef_M_join_21 at h
  refine ej_istore_n B.1 (lv' := [some (.ref 21), some (.int x1), some (.int x2), some (.int t0), none]) d_M_join_21 rfl rfl rfl ?_
  refine ej_aload_n B.1 d_M_join_22 rfl ?_
  refine ej_iload_n B.1 d_M_join_23 rfl ?_
  refine ej_aload_n B.1 d_M_join_24 rfl ?_
  refine ej_iload_n B.1 d_M_join_25 rfl ?_
  obtain ⟨v4, e5, h⟩ := er_bd_some h
  refine ej_cv_i (nc := 0) (ns := 0) B.1 [.int x1] [.int t0, .ref 21] (ec_M_isShut (er_pr B) x1 σ v4 e5) cal_M_isShut lk_M_115 in_M_isShut (er_at B 21 rfl rfl) rfl rfl se_M_isShut rfl B.2.2.2.1 d_M_join_26 ⟨Nat.le_of_ble_eq_true rfl, Nat.le_of_ble_eq_true rfl, Nat.zero_le _, Nat.zero_le _⟩ (Nat.le_of_ble_eq_true rfl) rfl ?_
  refine ej_if_ne B.1 (tgt := 45) d_M_join_29 (by decide) (fun q6 => ?_) (fun q6 => ?_)
  · replace h := er_if h q6
    exact ej_le (lv' := [some (.ref 21), some (.int x1), some (.int x2), none, none]) ⟨rfl, ⟨rfl, ⟨rfl, trivial⟩⟩⟩ (ew_M_join_45 B x1 x2 t0 σ _ h)
  · replace h := er_it h q6
    refine ej_aload_n B.1 d_M_join_32 rfl ?_
    refine ej_iload_n B.1 d_M_join_33 rfl ?_
    obtain ⟨v24, e25, h⟩ := er_bd_some h
    refine ej_cv_i (nc := 0) (ns := 0) B.1 [.int x2] [.int t0, .ref 21] (ec_M_isShut (er_pr B) x2 σ v24 e25) cal_M_isShut lk_M_115 in_M_isShut (er_at B 21 rfl rfl) rfl rfl se_M_isShut rfl B.2.2.2.1 d_M_join_34 ⟨Nat.le_of_ble_eq_true rfl, Nat.le_of_ble_eq_true rfl, Nat.zero_le _, Nat.zero_le _⟩ (Nat.le_of_ble_eq_true rfl) rfl ?_
    refine ej_if_ne B.1 (tgt := 45) d_M_join_37 (by decide) (fun q26 => ?_) (fun q26 => ?_)
    · replace h := er_if h q26
      exact ej_le (lv' := [some (.ref 21), some (.int x1), some (.int x2), none, none]) ⟨rfl, ⟨rfl, ⟨rfl, trivial⟩⟩⟩ (ew_M_join_45 B x1 x2 t0 σ _ h)
    · replace h := er_it h q26
      refine ej_iload_n B.1 d_M_join_40 rfl ?_
      refine ej_iload_n B.1 d_M_join_41 rfl ?_
      refine ej_icmp_ne B.1 (tgt := 49) d_M_join_42 (by decide) (fun q27 => ?_) (fun q27 => ?_)
      · replace h := er_if h q27
        refine ej_iconst B.1 (v := 0) d_M_join_49 rfl ?_
        exact ej_le (lv' := [some (.ref 21), some (.int x1), some (.int x2), none, none]) ⟨rfl, ⟨rfl, ⟨rfl, trivial⟩⟩⟩ (ew_M_join_50 B x1 x2 t0 0 σ _ h)
      · replace h := er_it h q27
        exact ej_le (lv' := [some (.ref 21), some (.int x1), some (.int x2), none, none]) ⟨rfl, ⟨rfl, ⟨rfl, trivial⟩⟩⟩ (ew_M_join_45 B x1 x2 t0 σ _ h)
set_option maxRecDepth 100000 in
set_option maxHeartbeats 4000000 in
theorem ew_M_join_16 {p : Program} {l : Launch} {e : Env} {s : State} {m : MethodId} {args : Array Value} {below : List Frame} {meth : Method} {c : Code} {G : er_G} (B : er_B p s m c meth b_M_join "EntryRowsModel" G (some .int) 5 21 39) (x1 x2 : Int32) (σ : er_S) (r : Int32 × er_S) (h : ef_M_join_16 x1 x2 σ = some r) : er_J p l e { frames := 3, cells := 0, slots := 0, locals := 64 } s m args below meth c G (er_A G s.heap.size) s.heap (er_fin below G s 0 0 (.inl (some (.int r.1)), r.2)) 0 0 σ 16 [some (.ref 21), some (.int x1), some (.int x2), none, none] [] := by
  unfold ef_M_join_16 at h
  refine ej_iconst B.1 (v := 1) d_M_join_16 rfl ?_
  refine ej_goto B.1 (tgt := 21) d_M_join_17 (by decide) ?_
  exact ej_le (lv' := [some (.ref 21), some (.int x1), some (.int x2), none, none]) ⟨rfl, ⟨rfl, ⟨rfl, trivial⟩⟩⟩ (ew_M_join_21 B x1 x2 1 σ _ h)
set_option maxRecDepth 100000 in
set_option maxHeartbeats 4000000 in
theorem ec_M_join {l : Launch} {G : er_G} (hE : er_Pr G 21 39) (x1 x2 : Int32) (σ : er_S) (r : Int32 × er_S) (h : ef_M_join x1 x2 σ = some r) : er_Con l y_M_join w_M_join 3 64 0 0 G [.ref 21, .int x1, .int x2] σ ((.inl (some (.int r.1)), r.2)) := by
  refine er_ofJ (ret := some .int) (cc := b_M_join) (maxL := 5) (lv0 := [some (.ref 21), some (.int x1), some (.int x2), none, none]) (hh := []) (by decide +kernel) rfl (Or.inl rfl) (by intro v hv; simp only [List.mem_cons, List.not_mem_nil, or_false] at hv; rcases hv with rfl | rfl | rfl <;> rfl) (Nat.le_of_ble_eq_true rfl) ?_
  intro p e s m args below meth c hadm C hr hlk hml hw hnm hm hcd
  have B : er_B p s m c meth b_M_join "EntryRowsModel" G (some .int) 5 21 39 := ⟨C, hr, hlk, hml, hE, er_noh hw hnm hm hcd⟩
  unfold ef_M_join at h
  refine ej_aload_n B.1 d_M_join_0 rfl ?_
  refine ej_iload_n B.1 d_M_join_1 rfl ?_
  obtain ⟨v1, e2, h⟩ := er_bd_some h
  refine ej_cv_i (nc := 0) (ns := 0) B.1 [.int x1] [] (ec_M_isBoard (er_pr B) x1 σ v1 e2) cal_M_isBoard lk_M_80 in_M_isBoard (er_at B 21 rfl rfl) rfl rfl se_M_isBoard rfl B.2.2.2.1 d_M_join_2 ⟨Nat.le_of_ble_eq_true rfl, Nat.le_of_ble_eq_true rfl, Nat.zero_le _, Nat.zero_le _⟩ (Nat.le_of_ble_eq_true rfl) rfl ?_
  refine ej_if_eq B.1 (tgt := 16) d_M_join_5 (by decide) (fun q3 => ?_) (fun q3 => ?_)
  · replace h := er_it h q3
    exact ej_le (lv' := [some (.ref 21), some (.int x1), some (.int x2), none, none]) ⟨rfl, ⟨rfl, ⟨rfl, trivial⟩⟩⟩ (ew_M_join_16 B x1 x2 σ _ h)
  · replace h := er_if h q3
    refine ej_aload_n B.1 d_M_join_8 rfl ?_
    refine ej_iload_n B.1 d_M_join_9 rfl ?_
    obtain ⟨v28, e29, h⟩ := er_bd_some h
    refine ej_cv_i (nc := 0) (ns := 0) B.1 [.int x2] [] (ec_M_isBoard (er_pr B) x2 σ v28 e29) cal_M_isBoard lk_M_80 in_M_isBoard (er_at B 21 rfl rfl) rfl rfl se_M_isBoard rfl B.2.2.2.1 d_M_join_10 ⟨Nat.le_of_ble_eq_true rfl, Nat.le_of_ble_eq_true rfl, Nat.zero_le _, Nat.zero_le _⟩ (Nat.le_of_ble_eq_true rfl) rfl ?_
    refine ej_if_ne B.1 (tgt := 20) d_M_join_13 (by decide) (fun q30 => ?_) (fun q30 => ?_)
    · replace h := er_if h q30
      refine ej_iconst B.1 (v := 0) d_M_join_20 rfl ?_
      exact ej_le (lv' := [some (.ref 21), some (.int x1), some (.int x2), none, none]) ⟨rfl, ⟨rfl, ⟨rfl, trivial⟩⟩⟩ (ew_M_join_21 B x1 x2 0 σ _ h)
    · replace h := er_it h q30
      exact ej_le (lv' := [some (.ref 21), some (.int x1), some (.int x2), none, none]) ⟨rfl, ⟨rfl, ⟨rfl, trivial⟩⟩⟩ (ew_M_join_16 B x1 x2 σ _ h)
set_option maxRecDepth 100000 in
set_option maxHeartbeats 4000000 in
theorem ew_M_close_53 {p : Program} {l : Launch} {e : Env} {s : State} {m : MethodId} {args : Array Value} {below : List Frame} {meth : Method} {c : Code} {G : er_G} (B : er_B p s m c meth b_M_close "EntryRowsModel" G (none) 3 21 39) : ∀ (n : Nat) (x1 x2 : Int32) (σ : er_S) (r : Unit × er_S), ef_M_close_53 n x1 x2 σ = some r → er_J p l e { frames := 3, cells := 0, slots := 0, locals := 64 } s m args below meth c G (er_A G s.heap.size) s.heap (er_fin below G s 0 0 (.inl none, r.2)) 0 0 σ 53 [some (.ref 21), some (.int x1), some (.int x2)] [] := by
  intro n
  induction n with
  | zero => intro x1 x2 σ r h; cases h
  | succ n ih =>
    intro x1 x2 σ r h
    rw [ef_M_close_53] at h
    refine ej_iload_n B.1 d_M_close_53 rfl ?_
    refine ej_bipush B.1 (v := 16) d_M_close_54 (by decide +kernel) ?_
    refine ej_icmp_ge B.1 (tgt := 82) d_M_close_56 (by decide) (fun q11 => ?_) (fun q11 => ?_)
    · replace h := er_it h q11
      refine ej_aload_n B.1 d_M_close_82 rfl ?_
      refine ej_getr B.1 (er_at B 21 rfl rfl) rfl rfl fl_M_17 d_M_close_83 ?_
      refine ej_iload_n B.1 d_M_close_86 rfl ?_
      refine ej_iconst B.1 (v := 0) d_M_close_87 rfl ?_
      obtain ⟨e12, h⟩ := er_gd_some h
      obtain ⟨e13, h⟩ := er_gd_some h
      refine ej_zast B.1 (er_at B 23 rfl rfl) rfl e12 e13 d_M_close_88 ?_
      refine ej_aload_n B.1 d_M_close_89 rfl ?_
      refine ej_getr B.1 (er_at B 21 rfl rfl) rfl rfl fl_M_30 d_M_close_90 ?_
      refine ej_iload_n B.1 d_M_close_93 rfl ?_
      refine ej_iconst B.1 (v := (-1)) d_M_close_94 rfl ?_
      obtain ⟨e14, h⟩ := er_gd_some h
      refine ej_iast B.1 (er_at B 27 rfl rfl) rfl e14 d_M_close_95 ?_
      cases h
      exact ej_vret B.1 B.2.1 B.2.2.1 (Nat.zero_le _) (Nat.zero_le _) d_M_close_96
    · replace h := er_if h q11
      refine ej_aload_n B.1 d_M_close_59 rfl ?_
      refine ej_getr B.1 (er_at B 21 rfl rfl) rfl rfl fl_M_33 d_M_close_60 ?_
      refine ej_iload_n B.1 d_M_close_63 rfl ?_
      obtain ⟨e15, h⟩ := er_gd_some h
      refine ej_iald B.1 (er_at B 28 rfl rfl) rfl e15 d_M_close_64 ?_
      refine ej_iload_n B.1 d_M_close_65 rfl ?_
      refine ej_icmp_ne B.1 (tgt := 76) d_M_close_66 (by decide) (fun q16 => ?_) (fun q16 => ?_)
      · replace h := er_if h q16
        refine ej_iinc B.1 (v := x2 + 1) (lv' := [some (.ref 21), some (.int x1), some (.int (x2 + 1))]) d_M_close_76 rfl rfl rfl rfl rfl ?_
        refine ej_goto B.1 (tgt := 53) d_M_close_79 (by decide) ?_
        exact ej_le (lv' := [some (.ref 21), some (.int x1), some (.int (x2 + 1))]) ⟨rfl, ⟨rfl, ⟨rfl, trivial⟩⟩⟩ (ih x1 (x2 + 1) σ _ h)
      · replace h := er_it h q16
        refine ej_aload_n B.1 d_M_close_69 rfl ?_
        refine ej_getr B.1 (er_at B 21 rfl rfl) rfl rfl fl_M_33 d_M_close_70 ?_
        refine ej_iload_n B.1 d_M_close_73 rfl ?_
        refine ej_iconst B.1 (v := (-1)) d_M_close_74 rfl ?_
        obtain ⟨e17, h⟩ := er_gd_some h
        refine ej_iast B.1 (er_at B 28 rfl rfl) rfl e17 d_M_close_75 ?_
        refine ej_iinc B.1 (v := x2 + 1) (lv' := [some (.ref 21), some (.int x1), some (.int (x2 + 1))]) d_M_close_76 rfl rfl rfl rfl rfl ?_
        refine ej_goto B.1 (tgt := 53) d_M_close_79 (by decide) ?_
        exact ej_le (lv' := [some (.ref 21), some (.int x1), some (.int (x2 + 1))]) ⟨rfl, ⟨rfl, ⟨rfl, trivial⟩⟩⟩ (ih x1 (x2 + 1) (er_up σ 28 (er_ix x2) (-1)) _ h)
set_option maxRecDepth 100000 in
set_option maxHeartbeats 4000000 in
theorem ew_M_close_43 {p : Program} {l : Launch} {e : Env} {s : State} {m : MethodId} {args : Array Value} {below : List Frame} {meth : Method} {c : Code} {G : er_G} (B : er_B p s m c meth b_M_close "EntryRowsModel" G (none) 3 21 39) (x1 t1 t2 : Int32) (σ : er_S) (r : Unit × er_S) (h : ef_M_close_43 x1 t1 t2 σ = some r) : er_J p l e { frames := 3, cells := 0, slots := 0, locals := 64 } s m args below meth c G (er_A G s.heap.size) s.heap (er_fin below G s 0 0 (.inl none, r.2)) 0 0 σ 43 [some (.ref 21), some (.int x1), none] [.int t2, .int t1, .ref 21] := by
  unfold ef_M_close_43 at h
  refine ej_iconst B.1 (v := 0) d_M_close_43 rfl ?_
  obtain ⟨v7, g9, e8, h⟩ := er_bw_some h
  refine ej_cv_i (nc := 0) (ns := 0) B.1 [.int t1, .int t2, .int 0] [] (ec_M_throwing (er_pr B) t1 t2 0 σ (v7, g9) e8) cal_M_throwing lk_M_84 in_M_throwing (er_at B 21 rfl rfl) rfl rfl se_M_throwing rfl B.2.2.2.1 d_M_close_44 ⟨Nat.le_of_ble_eq_true rfl, Nat.le_of_ble_eq_true rfl, Nat.zero_le _, Nat.zero_le _⟩ (Nat.le_of_ble_eq_true rfl) rfl ?_
  refine ej_if_eq B.1 (tgt := 51) d_M_close_47 (by decide) (fun q10 => ?_) (fun q10 => ?_)
  · replace h := er_it h q10
    refine ej_iconst B.1 (v := 0) d_M_close_51 rfl ?_
    refine ej_istore_n B.1 (lv' := [some (.ref 21), some (.int x1), some (.int 0)]) d_M_close_52 rfl rfl rfl ?_
    exact ej_le (lv' := [some (.ref 21), some (.int x1), some (.int 0)]) ⟨rfl, ⟨rfl, ⟨rfl, trivial⟩⟩⟩ (ew_M_close_53 B 64 x1 0 g9 _ h)
  · replace h := er_if h q10
    cases h
    exact ej_vret B.1 B.2.1 B.2.2.1 (Nat.zero_le _) (Nat.zero_le _) d_M_close_50
set_option maxRecDepth 100000 in
set_option maxHeartbeats 4000000 in
theorem ew_M_close_38 {p : Program} {l : Launch} {e : Env} {s : State} {m : MethodId} {args : Array Value} {below : List Frame} {meth : Method} {c : Code} {G : er_G} (B : er_B p s m c meth b_M_close "EntryRowsModel" G (none) 3 21 39) (x1 t1 : Int32) (σ : er_S) (r : Unit × er_S) (h : ef_M_close_38 x1 t1 σ = some r) : er_J p l e { frames := 3, cells := 0, slots := 0, locals := 64 } s m args below meth c G (er_A G s.heap.size) s.heap (er_fin below G s 0 0 (.inl none, r.2)) 0 0 σ 38 [some (.ref 21), some (.int x1), none] [.int t1, .ref 21] := by
  unfold ef_M_close_38 at h
  refine ej_iconst B.1 (v := 1) d_M_close_38 rfl ?_
  refine ej_goto B.1 (tgt := 43) d_M_close_39 (by decide) ?_
  exact ej_le (lv' := [some (.ref 21), some (.int x1), none]) ⟨rfl, ⟨rfl, trivial⟩⟩ (ew_M_close_43 B x1 t1 1 σ _ h)
set_option maxRecDepth 100000 in
set_option maxHeartbeats 4000000 in
theorem ew_M_close_42 {p : Program} {l : Launch} {e : Env} {s : State} {m : MethodId} {args : Array Value} {below : List Frame} {meth : Method} {c : Code} {G : er_G} (B : er_B p s m c meth b_M_close "EntryRowsModel" G (none) 3 21 39) (x1 t1 : Int32) (σ : er_S) (r : Unit × er_S) (h : ef_M_close_42 x1 t1 σ = some r) : er_J p l e { frames := 3, cells := 0, slots := 0, locals := 64 } s m args below meth c G (er_A G s.heap.size) s.heap (er_fin below G s 0 0 (.inl none, r.2)) 0 0 σ 42 [some (.ref 21), some (.int x1), none] [.int t1, .ref 21] := by
  unfold ef_M_close_42 at h
  refine ej_iconst B.1 (v := 0) d_M_close_42 rfl ?_
  exact ej_le (lv' := [some (.ref 21), some (.int x1), none]) ⟨rfl, ⟨rfl, trivial⟩⟩ (ew_M_close_43 B x1 t1 0 σ _ h)
set_option maxRecDepth 100000 in
set_option maxHeartbeats 4000000 in
theorem ew_M_close_14 {p : Program} {l : Launch} {e : Env} {s : State} {m : MethodId} {args : Array Value} {below : List Frame} {meth : Method} {c : Code} {G : er_G} (B : er_B p s m c meth b_M_close "EntryRowsModel" G (none) 3 21 39) (x1 t1 : Int32) (σ : er_S) (r : Unit × er_S) (h : ef_M_close_14 x1 t1 σ = some r) : er_J p l e { frames := 3, cells := 0, slots := 0, locals := 64 } s m args below meth c G (er_A G s.heap.size) s.heap (er_fin below G s 0 0 (.inl none, r.2)) 0 0 σ 14 [some (.ref 21), some (.int x1), none] [.int t1, .ref 21] := by
  unfold ef_M_close_14 at h
  refine ej_aload_n B.1 d_M_close_14 rfl ?_
  refine ej_iload_n B.1 d_M_close_15 rfl ?_
  obtain ⟨v4, e5, h⟩ := er_bd_some h
  refine ej_cv_i (nc := 0) (ns := 0) B.1 [.int x1] [.int t1, .ref 21] (ec_M_isShut (er_pr B) x1 σ v4 e5) cal_M_isShut lk_M_115 in_M_isShut (er_at B 21 rfl rfl) rfl rfl se_M_isShut rfl B.2.2.2.1 d_M_close_16 ⟨Nat.le_of_ble_eq_true rfl, Nat.le_of_ble_eq_true rfl, Nat.zero_le _, Nat.zero_le _⟩ (Nat.le_of_ble_eq_true rfl) rfl ?_
  refine ej_if_ne B.1 (tgt := 38) d_M_close_19 (by decide) (fun q6 => ?_) (fun q6 => ?_)
  · replace h := er_if h q6
    exact ej_le (lv' := [some (.ref 21), some (.int x1), none]) ⟨rfl, ⟨rfl, trivial⟩⟩ (ew_M_close_38 B x1 t1 σ _ h)
  · replace h := er_it h q6
    refine ej_aload_n B.1 d_M_close_22 rfl ?_
    refine ej_iload_n B.1 d_M_close_23 rfl ?_
    obtain ⟨v18, e19, h⟩ := er_bd_some h
    refine ej_cv_i (nc := 0) (ns := 0) B.1 [.int x1] [.int t1, .ref 21] (ec_M_isBoard (er_pr B) x1 σ v18 e19) cal_M_isBoard lk_M_80 in_M_isBoard (er_at B 21 rfl rfl) rfl rfl se_M_isBoard rfl B.2.2.2.1 d_M_close_24 ⟨Nat.le_of_ble_eq_true rfl, Nat.le_of_ble_eq_true rfl, Nat.zero_le _, Nat.zero_le _⟩ (Nat.le_of_ble_eq_true rfl) rfl ?_
    refine ej_if_eq B.1 (tgt := 42) d_M_close_27 (by decide) (fun q20 => ?_) (fun q20 => ?_)
    · replace h := er_it h q20
      exact ej_le (lv' := [some (.ref 21), some (.int x1), none]) ⟨rfl, ⟨rfl, trivial⟩⟩ (ew_M_close_42 B x1 t1 σ _ h)
    · replace h := er_if h q20
      refine ej_aload_n B.1 d_M_close_30 rfl ?_
      refine ej_iload_n B.1 d_M_close_31 rfl ?_
      obtain ⟨v21, e22, h⟩ := er_bd_some h
      refine ej_cv_i (nc := 0) (ns := 0) B.1 [.int x1] [.int t1, .ref 21] (ec_M_onBoard (er_pr B) x1 σ v21 e22) cal_M_onBoard lk_M_118 in_M_onBoard (er_at B 21 rfl rfl) rfl rfl se_M_onBoard rfl B.2.2.2.1 d_M_close_32 ⟨Nat.le_of_ble_eq_true rfl, Nat.le_of_ble_eq_true rfl, Nat.zero_le _, Nat.zero_le _⟩ (Nat.le_of_ble_eq_true rfl) rfl ?_
      refine ej_if_le B.1 (tgt := 42) d_M_close_35 (by decide) (fun q23 => ?_) (fun q23 => ?_)
      · replace h := er_it h q23
        exact ej_le (lv' := [some (.ref 21), some (.int x1), none]) ⟨rfl, ⟨rfl, trivial⟩⟩ (ew_M_close_42 B x1 t1 σ _ h)
      · replace h := er_if h q23
        exact ej_le (lv' := [some (.ref 21), some (.int x1), none]) ⟨rfl, ⟨rfl, trivial⟩⟩ (ew_M_close_38 B x1 t1 σ _ h)
set_option maxRecDepth 100000 in
set_option maxHeartbeats 4000000 in
theorem ec_M_close {l : Launch} {G : er_G} (hE : er_Pr G 21 39) (x1 : Int32) (σ : er_S) (r : Unit × er_S) (h : ef_M_close x1 σ = some r) : er_Con l y_M_close w_M_close 3 64 0 0 G [.ref 21, .int x1] σ ((.inl none, r.2)) := by
  refine er_ofJ (ret := none) (cc := b_M_close) (maxL := 3) (lv0 := [some (.ref 21), some (.int x1), none]) (hh := []) (by decide +kernel) rfl (Or.inl rfl) (by intro v hv; simp only [List.mem_cons, List.not_mem_nil, or_false] at hv; rcases hv with rfl | rfl <;> rfl) (Nat.le_of_ble_eq_true rfl) ?_
  intro p e s m args below meth c hadm C hr hlk hml hw hnm hm hcd
  have B : er_B p s m c meth b_M_close "EntryRowsModel" G (none) 3 21 39 := ⟨C, hr, hlk, hml, hE, er_noh hw hnm hm hcd⟩
  unfold ef_M_close at h
  refine ej_aload_n B.1 d_M_close_0 rfl ?_
  refine ej_aload_n B.1 d_M_close_1 rfl ?_
  refine ej_iload_n B.1 d_M_close_2 rfl ?_
  obtain ⟨v1, e2, h⟩ := er_bd_some h
  refine ej_cv_i (nc := 0) (ns := 0) B.1 [.int x1] [.ref 21] (ec_M_isBoard (er_pr B) x1 σ v1 e2) cal_M_isBoard lk_M_80 in_M_isBoard (er_at B 21 rfl rfl) rfl rfl se_M_isBoard rfl B.2.2.2.1 d_M_close_3 ⟨Nat.le_of_ble_eq_true rfl, Nat.le_of_ble_eq_true rfl, Nat.zero_le _, Nat.zero_le _⟩ (Nat.le_of_ble_eq_true rfl) rfl ?_
  refine ej_if_ne B.1 (tgt := 13) d_M_close_6 (by decide) (fun q3 => ?_) (fun q3 => ?_)
  · replace h := er_if h q3
    refine ej_iconst B.1 (v := 0) d_M_close_13 rfl ?_
    exact ej_le (lv' := [some (.ref 21), some (.int x1), none]) ⟨rfl, ⟨rfl, trivial⟩⟩ (ew_M_close_14 B x1 0 σ _ h)
  · replace h := er_it h q3
    refine ej_iconst B.1 (v := 1) d_M_close_9 rfl ?_
    refine ej_goto B.1 (tgt := 14) d_M_close_10 (by decide) ?_
    exact ej_le (lv' := [some (.ref 21), some (.int x1), none]) ⟨rfl, ⟨rfl, trivial⟩⟩ (ew_M_close_14 B x1 1 σ _ h)
set_option maxRecDepth 100000 in
set_option maxHeartbeats 4000000 in
theorem ew_M_isLate_36 {p : Program} {l : Launch} {e : Env} {s : State} {m : MethodId} {args : Array Value} {below : List Frame} {meth : Method} {c : Code} {G : er_G} (B : er_B p s m c meth b_M_isLate "EntryRowsModel" G (some .boolean) 3 21 39) (t0 : Int32) (σ : er_S) (r : Int32) (h : ef_M_isLate_36 t0 σ = some r) : er_J p l e { frames := 0, cells := 0, slots := 0, locals := 0 } s m args below meth c G (er_A G s.heap.size) s.heap (er_fin below G s 0 0 (.inl (some (.int r)), σ)) 0 0 σ 36 [none, none, none] [.int t0] := by
  unfold ef_M_isLate_36 at h
  obtain ⟨e3, h⟩ := er_gd_some h
  cases h
  exact ej_zret B.1 B.2.1 B.2.2.1 (Nat.zero_le _) (Nat.zero_le _) e3 d_M_isLate_36
set_option maxRecDepth 100000 in
set_option maxHeartbeats 4000000 in
theorem ew_M_isLate_35 {p : Program} {l : Launch} {e : Env} {s : State} {m : MethodId} {args : Array Value} {below : List Frame} {meth : Method} {c : Code} {G : er_G} (B : er_B p s m c meth b_M_isLate "EntryRowsModel" G (some .boolean) 3 21 39) (σ : er_S) (r : Int32) (h : ef_M_isLate_35  σ = some r) : er_J p l e { frames := 0, cells := 0, slots := 0, locals := 0 } s m args below meth c G (er_A G s.heap.size) s.heap (er_fin below G s 0 0 (.inl (some (.int r)), σ)) 0 0 σ 35 [none, none, none] [] := by
  unfold ef_M_isLate_35 at h
  refine ej_iconst B.1 (v := 0) d_M_isLate_35 rfl ?_
  exact ej_le (lv' := [none, none, none]) trivial (ew_M_isLate_36 B 0 σ _ h)
set_option maxRecDepth 100000 in
set_option maxHeartbeats 4000000 in
theorem ec_M_isLate {l : Launch} {G : er_G} (hE : er_Pr G 21 39) (x1 x2 : Int32) (σ : er_S) (r : Int32) (h : ef_M_isLate x1 x2 σ = some r) : er_Con l y_M_isLate w_M_isLate 0 0 0 0 G [.ref 21, .int x1, .int x2] σ ((.inl (some (.int r)), σ)) := by
  refine er_ofJ (ret := some .boolean) (cc := b_M_isLate) (maxL := 3) (lv0 := [some (.ref 21), some (.int x1), some (.int x2)]) (hh := []) (by decide +kernel) rfl (Or.inl rfl) (by intro v hv; simp only [List.mem_cons, List.not_mem_nil, or_false] at hv; rcases hv with rfl | rfl | rfl <;> rfl) (Nat.le_of_ble_eq_true rfl) ?_
  intro p e s m args below meth c hadm C hr hlk hml hw hnm hm hcd
  have B : er_B p s m c meth b_M_isLate "EntryRowsModel" G (some .boolean) 3 21 39 := ⟨C, hr, hlk, hml, hE, er_noh hw hnm hm hcd⟩
  unfold ef_M_isLate at h
  refine ej_aload_n B.1 d_M_isLate_0 rfl ?_
  refine ej_getr B.1 (er_at B 21 rfl rfl) rfl rfl fl_M_42 d_M_isLate_1 ?_
  refine ej_iload_n B.1 d_M_isLate_4 rfl ?_
  obtain ⟨e1, h⟩ := er_gd_some h
  refine ej_iald B.1 (er_at B 31 rfl rfl) rfl e1 d_M_isLate_5 ?_
  refine ej_if_lt B.1 (tgt := 35) d_M_isLate_6 (by decide) (fun q2 => ?_) (fun q2 => ?_)
  · replace h := er_it h q2
    exact ej_le (lv' := [none, none, none]) trivial (ew_M_isLate_35 B σ _ h)
  · replace h := er_if h q2
    refine ej_iload_n B.1 d_M_isLate_9 rfl ?_
    refine ej_aload_n B.1 d_M_isLate_10 rfl ?_
    refine ej_getr B.1 (er_at B 21 rfl rfl) rfl rfl fl_M_54 d_M_isLate_11 ?_
    refine ej_iload_n B.1 d_M_isLate_14 rfl ?_
    obtain ⟨e4, h⟩ := er_gd_some h
    refine ej_iald B.1 (er_at B 35 rfl rfl) rfl e4 d_M_isLate_15 ?_
    refine ej_isub B.1 d_M_isLate_16 ?_
    refine ej_aload_n B.1 d_M_isLate_17 rfl ?_
    refine ej_getr B.1 (er_at B 21 rfl rfl) rfl rfl fl_M_24 d_M_isLate_18 ?_
    refine ej_aload_n B.1 d_M_isLate_21 rfl ?_
    refine ej_getr B.1 (er_at B 21 rfl rfl) rfl rfl fl_M_42 d_M_isLate_22 ?_
    refine ej_iload_n B.1 d_M_isLate_25 rfl ?_
    obtain ⟨e5, h⟩ := er_gd_some h
    refine ej_iald B.1 (er_at B 31 rfl rfl) rfl e5 d_M_isLate_26 ?_
    obtain ⟨e6, h⟩ := er_gd_some h
    refine ej_iald B.1 (er_at B 25 rfl rfl) rfl e6 d_M_isLate_27 ?_
    refine ej_icmp_le B.1 (tgt := 35) d_M_isLate_28 (by decide) (fun q7 => ?_) (fun q7 => ?_)
    · replace h := er_it h q7
      exact ej_le (lv' := [none, none, none]) trivial (ew_M_isLate_35 B σ _ h)
    · replace h := er_if h q7
      refine ej_iconst B.1 (v := 1) d_M_isLate_31 rfl ?_
      refine ej_goto B.1 (tgt := 36) d_M_isLate_32 (by decide) ?_
      exact ej_le (lv' := [none, none, none]) trivial (ew_M_isLate_36 B 1 σ _ h)
set_option maxRecDepth 100000 in
set_option maxHeartbeats 4000000 in
theorem ew_M_tick_42 {p : Program} {l : Launch} {e : Env} {s : State} {m : MethodId} {args : Array Value} {below : List Frame} {meth : Method} {c : Code} {G : er_G} (B : er_B p s m c meth b_M_tick "EntryRowsModel" G (some .int) 4 21 39) : ∀ (n : Nat) (x1 x2 x3 : Int32) (σ : er_S) (r : Int32 × er_S), ef_M_tick_42 n x1 x2 x3 σ = some r → er_J p l e { frames := 1, cells := 0, slots := 0, locals := 23 } s m args below meth c G (er_A G s.heap.size) s.heap (er_fin below G s 0 0 (.inl (some (.int r.1)), r.2)) 0 0 σ 42 [some (.ref 21), some (.int x1), some (.int x2), some (.int x3)] [] := by
  intro n
  induction n with
  | zero => intro x1 x2 x3 σ r h; cases h
  | succ n ih =>
    intro x1 x2 x3 σ r h
    rw [ef_M_tick_42] at h
    refine ej_iload_n B.1 d_M_tick_42 rfl ?_
    refine ej_bipush B.1 (v := 40) d_M_tick_43 (by decide +kernel) ?_
    refine ej_icmp_ge B.1 (tgt := 88) d_M_tick_45 (by decide) (fun q8 => ?_) (fun q8 => ?_)
    · replace h := er_it h q8
      refine ej_aload_n B.1 d_M_tick_88 rfl ?_
      refine ej_dup B.1 d_M_tick_89 rfl ?_
      refine ej_geti B.1 (er_at B 21 rfl rfl) rfl rfl fl_M_101 d_M_tick_90 ?_
      refine ej_iload_n B.1 d_M_tick_93 rfl ?_
      refine ej_iadd B.1 d_M_tick_94 ?_
      refine ej_puti B.1 (er_at B 21 rfl rfl) rfl rfl fp_M_101 d_M_tick_95 ?_
      refine ej_iload_n B.1 d_M_tick_98 rfl ?_
      cases h
      exact ej_iret B.1 B.2.1 B.2.2.1 (Nat.zero_le _) (Nat.zero_le _) d_M_tick_99
    · replace h := er_if h q8
      refine ej_iload_n B.1 d_M_tick_48 rfl ?_
      refine ej_aload_n B.1 d_M_tick_49 rfl ?_
      refine ej_iload_n B.1 d_M_tick_50 rfl ?_
      refine ej_aload_n B.1 d_M_tick_51 rfl ?_
      refine ej_geti B.1 (er_at B 21 rfl rfl) rfl rfl fl_M_101 d_M_tick_52 ?_
      obtain ⟨v9, e10, h⟩ := er_bd_some h
      refine ej_cv_i (nc := 0) (ns := 0) B.1 [.int x3, .int (σ 21 1)] [.int x2] (ec_M_isLate (er_pr B) x3 (σ 21 1) σ v9 e10) cal_M_isLate lk_M_122 in_M_isLate (er_at B 21 rfl rfl) rfl rfl se_M_isLate rfl B.2.2.2.1 d_M_tick_55 ⟨Nat.le_of_ble_eq_true rfl, Nat.le_of_ble_eq_true rfl, Nat.zero_le _, Nat.zero_le _⟩ (Nat.le_of_ble_eq_true rfl) rfl ?_
      refine ej_if_ne B.1 (tgt := 79) d_M_tick_58 (by decide) (fun q11 => ?_) (fun q11 => ?_)
      · replace h := er_if h q11
        refine ej_iconst B.1 (v := 0) d_M_tick_79 rfl ?_
        refine ej_iadd B.1 d_M_tick_80 ?_
        refine ej_istore_n B.1 (lv' := [some (.ref 21), some (.int x1), some (.int (x2 + 0)), some (.int x3)]) d_M_tick_81 rfl rfl rfl ?_
        refine ej_iinc B.1 (v := x3 + 1) (lv' := [some (.ref 21), some (.int x1), some (.int (x2 + 0)), some (.int (x3 + 1))]) d_M_tick_82 rfl rfl rfl rfl rfl ?_
        refine ej_goto B.1 (tgt := 42) d_M_tick_85 (by decide) ?_
        exact ej_le (lv' := [some (.ref 21), some (.int x1), some (.int (x2 + 0)), some (.int (x3 + 1))]) ⟨rfl, ⟨rfl, ⟨rfl, ⟨rfl, trivial⟩⟩⟩⟩ (ih x1 (x2 + 0) (x3 + 1) σ _ h)
      · replace h := er_it h q11
        refine ej_aload_n B.1 d_M_tick_61 rfl ?_
        refine ej_iload_n B.1 d_M_tick_62 rfl ?_
        refine ej_aload_n B.1 d_M_tick_63 rfl ?_
        refine ej_geti B.1 (er_at B 21 rfl rfl) rfl rfl fl_M_101 d_M_tick_64 ?_
        refine ej_iload_n B.1 d_M_tick_67 rfl ?_
        refine ej_iadd B.1 d_M_tick_68 ?_
        obtain ⟨v12, e13, h⟩ := er_bd_some h
        refine ej_cv_i (nc := 0) (ns := 0) B.1 [.int x3, .int ((σ 21 1) + x1)] [.int x2] (ec_M_isLate (er_pr B) x3 ((σ 21 1) + x1) σ v12 e13) cal_M_isLate lk_M_122 in_M_isLate (er_at B 21 rfl rfl) rfl rfl se_M_isLate rfl B.2.2.2.1 d_M_tick_69 ⟨Nat.le_of_ble_eq_true rfl, Nat.le_of_ble_eq_true rfl, Nat.zero_le _, Nat.zero_le _⟩ (Nat.le_of_ble_eq_true rfl) rfl ?_
        refine ej_if_eq B.1 (tgt := 79) d_M_tick_72 (by decide) (fun q14 => ?_) (fun q14 => ?_)
        · replace h := er_it h q14
          refine ej_iconst B.1 (v := 0) d_M_tick_79 rfl ?_
          refine ej_iadd B.1 d_M_tick_80 ?_
          refine ej_istore_n B.1 (lv' := [some (.ref 21), some (.int x1), some (.int (x2 + 0)), some (.int x3)]) d_M_tick_81 rfl rfl rfl ?_
          refine ej_iinc B.1 (v := x3 + 1) (lv' := [some (.ref 21), some (.int x1), some (.int (x2 + 0)), some (.int (x3 + 1))]) d_M_tick_82 rfl rfl rfl rfl rfl ?_
          refine ej_goto B.1 (tgt := 42) d_M_tick_85 (by decide) ?_
          exact ej_le (lv' := [some (.ref 21), some (.int x1), some (.int (x2 + 0)), some (.int (x3 + 1))]) ⟨rfl, ⟨rfl, ⟨rfl, ⟨rfl, trivial⟩⟩⟩⟩ (ih x1 (x2 + 0) (x3 + 1) σ _ h)
        · replace h := er_if h q14
          refine ej_iconst B.1 (v := 1) d_M_tick_75 rfl ?_
          refine ej_goto B.1 (tgt := 80) d_M_tick_76 (by decide) ?_
          refine ej_iadd B.1 d_M_tick_80 ?_
          refine ej_istore_n B.1 (lv' := [some (.ref 21), some (.int x1), some (.int (x2 + 1)), some (.int x3)]) d_M_tick_81 rfl rfl rfl ?_
          refine ej_iinc B.1 (v := x3 + 1) (lv' := [some (.ref 21), some (.int x1), some (.int (x2 + 1)), some (.int (x3 + 1))]) d_M_tick_82 rfl rfl rfl rfl rfl ?_
          refine ej_goto B.1 (tgt := 42) d_M_tick_85 (by decide) ?_
          exact ej_le (lv' := [some (.ref 21), some (.int x1), some (.int (x2 + 1)), some (.int (x3 + 1))]) ⟨rfl, ⟨rfl, ⟨rfl, ⟨rfl, trivial⟩⟩⟩⟩ (ih x1 (x2 + 1) (x3 + 1) σ _ h)
set_option maxRecDepth 100000 in
set_option maxHeartbeats 4000000 in
theorem ew_M_tick_28 {p : Program} {l : Launch} {e : Env} {s : State} {m : MethodId} {args : Array Value} {below : List Frame} {meth : Method} {c : Code} {G : er_G} (B : er_B p s m c meth b_M_tick "EntryRowsModel" G (some .int) 4 21 39) (x1 t1 : Int32) (σ : er_S) (r : Int32 × er_S) (h : ef_M_tick_28 x1 t1 σ = some r) : er_J p l e { frames := 1, cells := 0, slots := 0, locals := 23 } s m args below meth c G (er_A G s.heap.size) s.heap (er_fin below G s 0 0 (.inl (some (.int r.1)), r.2)) 0 0 σ 28 [some (.ref 21), some (.int x1), none, none] [.int t1, .ref 21] := by
  unfold ef_M_tick_28 at h
  refine ej_iconst B.1 (v := 0) d_M_tick_28 rfl ?_
  refine ej_iconst B.1 (v := 0) d_M_tick_29 rfl ?_
  obtain ⟨v4, g6, e5, h⟩ := er_bw_some h
  refine ej_cv_i (nc := 0) (ns := 0) B.1 [.int t1, .int 0, .int 0] [] (ec_M_throwing (er_pr B) t1 0 0 σ (v4, g6) e5) cal_M_throwing lk_M_84 in_M_throwing (er_at B 21 rfl rfl) rfl rfl se_M_throwing rfl B.2.2.2.1 d_M_tick_30 ⟨Nat.le_of_ble_eq_true rfl, Nat.le_of_ble_eq_true rfl, Nat.zero_le _, Nat.zero_le _⟩ (Nat.le_of_ble_eq_true rfl) rfl ?_
  refine ej_if_eq B.1 (tgt := 38) d_M_tick_33 (by decide) (fun q7 => ?_) (fun q7 => ?_)
  · replace h := er_it h q7
    refine ej_iconst B.1 (v := 0) d_M_tick_38 rfl ?_
    refine ej_istore_n B.1 (lv' := [some (.ref 21), some (.int x1), some (.int 0), none]) d_M_tick_39 rfl rfl rfl ?_
    refine ej_iconst B.1 (v := 0) d_M_tick_40 rfl ?_
    refine ej_istore_n B.1 (lv' := [some (.ref 21), some (.int x1), some (.int 0), some (.int 0)]) d_M_tick_41 rfl rfl rfl ?_
    exact ej_le (lv' := [some (.ref 21), some (.int x1), some (.int 0), some (.int 0)]) ⟨rfl, ⟨rfl, ⟨rfl, ⟨rfl, trivial⟩⟩⟩⟩ (ew_M_tick_42 B 64 x1 0 0 g6 _ h)
  · replace h := er_if h q7
    refine ej_iconst B.1 (v := 0) d_M_tick_36 rfl ?_
    cases h
    exact ej_iret B.1 B.2.1 B.2.2.1 (Nat.zero_le _) (Nat.zero_le _) d_M_tick_37
set_option maxRecDepth 100000 in
set_option maxHeartbeats 4000000 in
theorem ew_M_tick_23 {p : Program} {l : Launch} {e : Env} {s : State} {m : MethodId} {args : Array Value} {below : List Frame} {meth : Method} {c : Code} {G : er_G} (B : er_B p s m c meth b_M_tick "EntryRowsModel" G (some .int) 4 21 39) (x1 : Int32) (σ : er_S) (r : Int32 × er_S) (h : ef_M_tick_23 x1 σ = some r) : er_J p l e { frames := 1, cells := 0, slots := 0, locals := 23 } s m args below meth c G (er_A G s.heap.size) s.heap (er_fin below G s 0 0 (.inl (some (.int r.1)), r.2)) 0 0 σ 23 [some (.ref 21), some (.int x1), none, none] [.ref 21] := by
  unfold ef_M_tick_23 at h
  refine ej_iconst B.1 (v := 1) d_M_tick_23 rfl ?_
  refine ej_goto B.1 (tgt := 28) d_M_tick_24 (by decide) ?_
  exact ej_le (lv' := [some (.ref 21), some (.int x1), none, none]) ⟨rfl, ⟨rfl, trivial⟩⟩ (ew_M_tick_28 B x1 1 σ _ h)
set_option maxRecDepth 100000 in
set_option maxHeartbeats 4000000 in
theorem ec_M_tick {l : Launch} {G : er_G} (hE : er_Pr G 21 39) (x1 : Int32) (σ : er_S) (r : Int32 × er_S) (h : ef_M_tick x1 σ = some r) : er_Con l y_M_tick w_M_tick 1 23 0 0 G [.ref 21, .int x1] σ ((.inl (some (.int r.1)), r.2)) := by
  refine er_ofJ (ret := some .int) (cc := b_M_tick) (maxL := 4) (lv0 := [some (.ref 21), some (.int x1), none, none]) (hh := []) (by decide +kernel) rfl (Or.inl rfl) (by intro v hv; simp only [List.mem_cons, List.not_mem_nil, or_false] at hv; rcases hv with rfl | rfl <;> rfl) (Nat.le_of_ble_eq_true rfl) ?_
  intro p e s m args below meth c hadm C hr hlk hml hw hnm hm hcd
  have B : er_B p s m c meth b_M_tick "EntryRowsModel" G (some .int) 4 21 39 := ⟨C, hr, hlk, hml, hE, er_noh hw hnm hm hcd⟩
  unfold ef_M_tick at h
  refine ej_aload_n B.1 d_M_tick_0 rfl ?_
  refine ej_iload_n B.1 d_M_tick_1 rfl ?_
  refine ej_iconst B.1 (v := 1) d_M_tick_2 rfl ?_
  refine ej_sipush B.1 (v := 5000) d_M_tick_3 (by decide +kernel) ?_
  obtain ⟨v1, e2, h⟩ := er_bd_some h
  refine ej_cs_i (nc := 0) (ns := 0) B.1 [.int x1, .int 1, .int 5000] [.ref 21] (ec_M_in (er_pr B) x1 1 5000 σ v1 e2) cal_M_in lk_M_73 st_M_in rfl B.2.2.2.1 d_M_tick_6 ⟨Nat.le_of_ble_eq_true rfl, Nat.le_of_ble_eq_true rfl, Nat.zero_le _, Nat.zero_le _⟩ (Nat.le_of_ble_eq_true rfl) rfl ?_
  refine ej_if_eq B.1 (tgt := 23) d_M_tick_9 (by decide) (fun q3 => ?_) (fun q3 => ?_)
  · replace h := er_it h q3
    exact ej_le (lv' := [some (.ref 21), some (.int x1), none, none]) ⟨rfl, ⟨rfl, trivial⟩⟩ (ew_M_tick_23 B x1 σ _ h)
  · replace h := er_if h q3
    refine ej_aload_n B.1 d_M_tick_12 rfl ?_
    refine ej_geti B.1 (er_at B 21 rfl rfl) rfl rfl fl_M_101 d_M_tick_13 ?_
    refine ej_iload_n B.1 d_M_tick_16 rfl ?_
    refine ej_iadd B.1 d_M_tick_17 ?_
    refine ej_ldc B.1 (v := 999999) k_M_121 d_M_tick_18 ?_
    refine ej_icmp_le B.1 (tgt := 27) d_M_tick_20 (by decide) (fun q15 => ?_) (fun q15 => ?_)
    · replace h := er_it h q15
      refine ej_iconst B.1 (v := 0) d_M_tick_27 rfl ?_
      exact ej_le (lv' := [some (.ref 21), some (.int x1), none, none]) ⟨rfl, ⟨rfl, trivial⟩⟩ (ew_M_tick_28 B x1 0 σ _ h)
    · replace h := er_if h q15
      exact ej_le (lv' := [some (.ref 21), some (.int x1), none, none]) ⟨rfl, ⟨rfl, trivial⟩⟩ (ew_M_tick_23 B x1 σ _ h)
