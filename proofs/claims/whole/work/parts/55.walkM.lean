set_option maxRecDepth 100000 in
set_option maxHeartbeats 4000000 in
theorem ew_M_count_129 {p : Program} {l : Launch} {e : Env} {s : State} {m : MethodId} {args : Array Value} {below : List Frame} {meth : Method} {c : Code} {G : er_G} (B : er_B p s m c meth b_M_count "EntryRowsModel" G (some .int) 5 21 39) (t0 : Int32) (σ : er_S) (r : Int32 × er_S) (h : ef_M_count_129 t0 σ = some r) : er_J p l e { frames := 1, cells := 0, slots := 0, locals := 23 } s m args below meth c G (er_A G s.heap.size) s.heap (er_fin below G s 0 0 (.inl (some (.int r.1)), r.2)) 0 0 σ 129 [none, none, none, none, none] [.int t0] := by
  unfold ef_M_count_129 at h
  cases h
  exact ej_iret B.1 B.2.1 B.2.2.1 (Nat.zero_le _) (Nat.zero_le _) d_M_count_129
set_option maxRecDepth 100000 in
set_option maxHeartbeats 4000000 in
theorem ew_M_count_63 {p : Program} {l : Launch} {e : Env} {s : State} {m : MethodId} {args : Array Value} {below : List Frame} {meth : Method} {c : Code} {G : er_G} (B : er_B p s m c meth b_M_count "EntryRowsModel" G (some .int) 5 21 39) : ∀ (n : Nat) (x1 x2 x3 x4 : Int32) (σ : er_S) (r : Int32 × er_S), ef_M_count_63 n x1 x2 x3 x4 σ = some r → er_J p l e { frames := 1, cells := 0, slots := 0, locals := 23 } s m args below meth c G (er_A G s.heap.size) s.heap (er_fin below G s 0 0 (.inl (some (.int r.1)), r.2)) 0 0 σ 63 [some (.ref 21), some (.int x1), some (.int x2), some (.int x3), some (.int x4)] [] := by
  intro n
  induction n with
  | zero => intro x1 x2 x3 x4 σ r h; cases h
  | succ n ih =>
    intro x1 x2 x3 x4 σ r h
    rw [ef_M_count_63] at h
    refine ej_iload B.1 d_M_count_63 rfl ?_
    refine ej_aload_n B.1 d_M_count_65 rfl ?_
    refine ej_geti B.1 (er_at B 21 rfl rfl) rfl rfl fl_M_77 d_M_count_66 ?_
    refine ej_icmp_ge B.1 (tgt := 96) d_M_count_69 (by decide) (fun q9 => ?_) (fun q9 => ?_)
    · replace h := er_it h q9
      refine ej_iload_n B.1 d_M_count_96 rfl ?_
      refine ej_if_ne B.1 (tgt := 107) d_M_count_97 (by decide) (fun q10 => ?_) (fun q10 => ?_)
      · replace h := er_if h q10
        refine ej_iload_n B.1 d_M_count_107 rfl ?_
        refine ej_iconst B.1 (v := 1) d_M_count_108 rfl ?_
        refine ej_icmp_ne B.1 (tgt := 116) d_M_count_109 (by decide) (fun q11 => ?_) (fun q11 => ?_)
        · replace h := er_if h q11
          refine ej_iload_n B.1 d_M_count_116 rfl ?_
          refine ej_iconst B.1 (v := 2) d_M_count_117 rfl ?_
          refine ej_icmp_ne B.1 (tgt := 128) d_M_count_118 (by decide) (fun q12 => ?_) (fun q12 => ?_)
          · replace h := er_if h q12
            refine ej_iload_n B.1 d_M_count_128 rfl ?_
            exact ej_le (lv' := [none, none, none, none, none]) trivial (ew_M_count_129 B x3 σ _ h)
          · replace h := er_it h q12
            refine ej_aload_n B.1 d_M_count_121 rfl ?_
            refine ej_geti B.1 (er_at B 21 rfl rfl) rfl rfl fl_M_112 d_M_count_122 ?_
            refine ej_goto B.1 (tgt := 129) d_M_count_125 (by decide) ?_
            exact ej_le (lv' := [none, none, none, none, none]) trivial (ew_M_count_129 B (σ 21 3) σ _ h)
        · replace h := er_it h q11
          refine ej_iload_n B.1 d_M_count_112 rfl ?_
          refine ej_goto B.1 (tgt := 129) d_M_count_113 (by decide) ?_
          exact ej_le (lv' := [none, none, none, none, none]) trivial (ew_M_count_129 B x2 σ _ h)
      · replace h := er_it h q10
        refine ej_aload_n B.1 d_M_count_100 rfl ?_
        refine ej_geti B.1 (er_at B 21 rfl rfl) rfl rfl fl_M_101 d_M_count_101 ?_
        refine ej_goto B.1 (tgt := 129) d_M_count_104 (by decide) ?_
        exact ej_le (lv' := [none, none, none, none, none]) trivial (ew_M_count_129 B (σ 21 1) σ _ h)
    · replace h := er_if h q9
      refine ej_iload_n B.1 d_M_count_72 rfl ?_
      refine ej_aload_n B.1 d_M_count_73 rfl ?_
      refine ej_getr B.1 (er_at B 21 rfl rfl) rfl rfl fl_M_17 d_M_count_74 ?_
      refine ej_iload B.1 d_M_count_77 rfl ?_
      obtain ⟨e13, h⟩ := er_gd_some h
      refine ej_zald B.1 (er_at B 23 rfl rfl) rfl e13 d_M_count_79 ?_
      refine ej_if_eq B.1 (tgt := 87) d_M_count_80 (by decide) (fun q14 => ?_) (fun q14 => ?_)
      · replace h := er_it h q14
        refine ej_iconst B.1 (v := 0) d_M_count_87 rfl ?_
        refine ej_iadd B.1 d_M_count_88 ?_
        refine ej_istore_n B.1 (lv' := [some (.ref 21), some (.int x1), some (.int x2), some (.int (x3 + 0)), some (.int x4)]) d_M_count_89 rfl rfl rfl ?_
        refine ej_iinc B.1 (v := x4 + 1) (lv' := [some (.ref 21), some (.int x1), some (.int x2), some (.int (x3 + 0)), some (.int (x4 + 1))]) d_M_count_90 rfl rfl rfl rfl rfl ?_
        refine ej_goto B.1 (tgt := 63) d_M_count_93 (by decide) ?_
        exact ej_le (lv' := [some (.ref 21), some (.int x1), some (.int x2), some (.int (x3 + 0)), some (.int (x4 + 1))]) ⟨rfl, ⟨rfl, ⟨rfl, ⟨rfl, ⟨rfl, trivial⟩⟩⟩⟩⟩ (ih x1 x2 (x3 + 0) (x4 + 1) σ _ h)
      · replace h := er_if h q14
        refine ej_iconst B.1 (v := 1) d_M_count_83 rfl ?_
        refine ej_goto B.1 (tgt := 88) d_M_count_84 (by decide) ?_
        refine ej_iadd B.1 d_M_count_88 ?_
        refine ej_istore_n B.1 (lv' := [some (.ref 21), some (.int x1), some (.int x2), some (.int (x3 + 1)), some (.int x4)]) d_M_count_89 rfl rfl rfl ?_
        refine ej_iinc B.1 (v := x4 + 1) (lv' := [some (.ref 21), some (.int x1), some (.int x2), some (.int (x3 + 1)), some (.int (x4 + 1))]) d_M_count_90 rfl rfl rfl rfl rfl ?_
        refine ej_goto B.1 (tgt := 63) d_M_count_93 (by decide) ?_
        exact ej_le (lv' := [some (.ref 21), some (.int x1), some (.int x2), some (.int (x3 + 1)), some (.int (x4 + 1))]) ⟨rfl, ⟨rfl, ⟨rfl, ⟨rfl, ⟨rfl, trivial⟩⟩⟩⟩⟩ (ih x1 x2 (x3 + 1) (x4 + 1) σ _ h)
set_option maxRecDepth 100000 in
set_option maxHeartbeats 4000000 in
theorem ew_M_count_29 {p : Program} {l : Launch} {e : Env} {s : State} {m : MethodId} {args : Array Value} {below : List Frame} {meth : Method} {c : Code} {G : er_G} (B : er_B p s m c meth b_M_count "EntryRowsModel" G (some .int) 5 21 39) : ∀ (n : Nat) (x1 x2 x3 : Int32) (σ : er_S) (r : Int32 × er_S), ef_M_count_29 n x1 x2 x3 σ = some r → er_J p l e { frames := 1, cells := 0, slots := 0, locals := 23 } s m args below meth c G (er_A G s.heap.size) s.heap (er_fin below G s 0 0 (.inl (some (.int r.1)), r.2)) 0 0 σ 29 [some (.ref 21), some (.int x1), some (.int x2), some (.int x3), none] [] := by
  intro n
  induction n with
  | zero => intro x1 x2 x3 σ r h; cases h
  | succ n ih =>
    intro x1 x2 x3 σ r h
    rw [ef_M_count_29] at h
    refine ej_iload_n B.1 d_M_count_29 rfl ?_
    refine ej_bipush B.1 (v := 40) d_M_count_30 (by decide +kernel) ?_
    refine ej_icmp_ge B.1 (tgt := 58) d_M_count_32 (by decide) (fun q8 => ?_) (fun q8 => ?_)
    · replace h := er_it h q8
      refine ej_iconst B.1 (v := 0) d_M_count_58 rfl ?_
      refine ej_istore_n B.1 (lv' := [some (.ref 21), some (.int x1), some (.int x2), some (.int 0), none]) d_M_count_59 rfl rfl rfl ?_
      refine ej_iconst B.1 (v := 0) d_M_count_60 rfl ?_
      refine ej_istore B.1 (lv' := [some (.ref 21), some (.int x1), some (.int x2), some (.int 0), some (.int 0)]) d_M_count_61 rfl rfl rfl ?_
      exact ej_le (lv' := [some (.ref 21), some (.int x1), some (.int x2), some (.int 0), some (.int 0)]) ⟨rfl, ⟨rfl, ⟨rfl, ⟨rfl, ⟨rfl, trivial⟩⟩⟩⟩⟩ (ew_M_count_63 B 64 x1 x2 0 0 σ _ h)
    · replace h := er_if h q8
      refine ej_iload_n B.1 d_M_count_35 rfl ?_
      refine ej_aload_n B.1 d_M_count_36 rfl ?_
      refine ej_getr B.1 (er_at B 21 rfl rfl) rfl rfl fl_M_42 d_M_count_37 ?_
      refine ej_iload_n B.1 d_M_count_40 rfl ?_
      obtain ⟨e15, h⟩ := er_gd_some h
      refine ej_iald B.1 (er_at B 31 rfl rfl) rfl e15 d_M_count_41 ?_
      refine ej_if_lt B.1 (tgt := 49) d_M_count_42 (by decide) (fun q16 => ?_) (fun q16 => ?_)
      · replace h := er_it h q16
        refine ej_iconst B.1 (v := 0) d_M_count_49 rfl ?_
        refine ej_iadd B.1 d_M_count_50 ?_
        refine ej_istore_n B.1 (lv' := [some (.ref 21), some (.int x1), some (.int (x2 + 0)), some (.int x3), none]) d_M_count_51 rfl rfl rfl ?_
        refine ej_iinc B.1 (v := x3 + 1) (lv' := [some (.ref 21), some (.int x1), some (.int (x2 + 0)), some (.int (x3 + 1)), none]) d_M_count_52 rfl rfl rfl rfl rfl ?_
        refine ej_goto B.1 (tgt := 29) d_M_count_55 (by decide) ?_
        exact ej_le (lv' := [some (.ref 21), some (.int x1), some (.int (x2 + 0)), some (.int (x3 + 1)), none]) ⟨rfl, ⟨rfl, ⟨rfl, ⟨rfl, trivial⟩⟩⟩⟩ (ih x1 (x2 + 0) (x3 + 1) σ _ h)
      · replace h := er_if h q16
        refine ej_iconst B.1 (v := 1) d_M_count_45 rfl ?_
        refine ej_goto B.1 (tgt := 50) d_M_count_46 (by decide) ?_
        refine ej_iadd B.1 d_M_count_50 ?_
        refine ej_istore_n B.1 (lv' := [some (.ref 21), some (.int x1), some (.int (x2 + 1)), some (.int x3), none]) d_M_count_51 rfl rfl rfl ?_
        refine ej_iinc B.1 (v := x3 + 1) (lv' := [some (.ref 21), some (.int x1), some (.int (x2 + 1)), some (.int (x3 + 1)), none]) d_M_count_52 rfl rfl rfl rfl rfl ?_
        refine ej_goto B.1 (tgt := 29) d_M_count_55 (by decide) ?_
        exact ej_le (lv' := [some (.ref 21), some (.int x1), some (.int (x2 + 1)), some (.int (x3 + 1)), none]) ⟨rfl, ⟨rfl, ⟨rfl, ⟨rfl, trivial⟩⟩⟩⟩ (ih x1 (x2 + 1) (x3 + 1) σ _ h)
set_option maxRecDepth 100000 in
set_option maxHeartbeats 4000000 in
theorem ew_M_count_15 {p : Program} {l : Launch} {e : Env} {s : State} {m : MethodId} {args : Array Value} {below : List Frame} {meth : Method} {c : Code} {G : er_G} (B : er_B p s m c meth b_M_count "EntryRowsModel" G (some .int) 5 21 39) (x1 t1 : Int32) (σ : er_S) (r : Int32 × er_S) (h : ef_M_count_15 x1 t1 σ = some r) : er_J p l e { frames := 1, cells := 0, slots := 0, locals := 23 } s m args below meth c G (er_A G s.heap.size) s.heap (er_fin below G s 0 0 (.inl (some (.int r.1)), r.2)) 0 0 σ 15 [some (.ref 21), some (.int x1), none, none, none] [.int t1, .ref 21] := by
  unfold ef_M_count_15 at h
  refine ej_iconst B.1 (v := 0) d_M_count_15 rfl ?_
  refine ej_iconst B.1 (v := 0) d_M_count_16 rfl ?_
  obtain ⟨v4, g6, e5, h⟩ := er_bw_some h
  refine ej_cv_i (nc := 0) (ns := 0) B.1 [.int t1, .int 0, .int 0] [] (ec_M_throwing (er_pr B) t1 0 0 σ (v4, g6) e5) cal_M_throwing lk_M_84 in_M_throwing (er_at B 21 rfl rfl) rfl rfl se_M_throwing rfl B.2.2.2.1 d_M_count_17 ⟨Nat.le_of_ble_eq_true rfl, Nat.le_of_ble_eq_true rfl, Nat.zero_le _, Nat.zero_le _⟩ (Nat.le_of_ble_eq_true rfl) rfl ?_
  refine ej_if_eq B.1 (tgt := 25) d_M_count_20 (by decide) (fun q7 => ?_) (fun q7 => ?_)
  · replace h := er_it h q7
    refine ej_iconst B.1 (v := 0) d_M_count_25 rfl ?_
    refine ej_istore_n B.1 (lv' := [some (.ref 21), some (.int x1), some (.int 0), none, none]) d_M_count_26 rfl rfl rfl ?_
    refine ej_iconst B.1 (v := 0) d_M_count_27 rfl ?_
    refine ej_istore_n B.1 (lv' := [some (.ref 21), some (.int x1), some (.int 0), some (.int 0), none]) d_M_count_28 rfl rfl rfl ?_
    exact ej_le (lv' := [some (.ref 21), some (.int x1), some (.int 0), some (.int 0), none]) ⟨rfl, ⟨rfl, ⟨rfl, ⟨rfl, trivial⟩⟩⟩⟩ (ew_M_count_29 B 64 x1 0 0 g6 _ h)
  · replace h := er_if h q7
    refine ej_iconst B.1 (v := 0) d_M_count_23 rfl ?_
    cases h
    exact ej_iret B.1 B.2.1 B.2.2.1 (Nat.zero_le _) (Nat.zero_le _) d_M_count_24
set_option maxRecDepth 100000 in
set_option maxHeartbeats 4000000 in
theorem ec_M_count {l : Launch} {G : er_G} (hE : er_Pr G 21 39) (x1 : Int32) (σ : er_S) (r : Int32 × er_S) (h : ef_M_count x1 σ = some r) : er_Con l y_M_count w_M_count 1 23 0 0 G [.ref 21, .int x1] σ ((.inl (some (.int r.1)), r.2)) := by
  refine er_ofJ (ret := some .int) (cc := b_M_count) (maxL := 5) (lv0 := [some (.ref 21), some (.int x1), none, none, none]) (hh := []) (by decide +kernel) rfl (Or.inl rfl) (by intro v hv; simp only [List.mem_cons, List.not_mem_nil, or_false] at hv; rcases hv with rfl | rfl <;> rfl) (Nat.le_of_ble_eq_true rfl) ?_
  intro p e s m args below meth c hadm C hr hlk hml hw hnm hm hcd
  have B : er_B p s m c meth b_M_count "EntryRowsModel" G (some .int) 5 21 39 := ⟨C, hr, hlk, hml, hE, er_noh hw hnm hm hcd⟩
  unfold ef_M_count at h
  refine ej_aload_n B.1 d_M_count_0 rfl ?_
  refine ej_iload_n B.1 d_M_count_1 rfl ?_
  refine ej_iconst B.1 (v := 0) d_M_count_2 rfl ?_
  refine ej_iconst B.1 (v := 3) d_M_count_3 rfl ?_
  obtain ⟨v1, e2, h⟩ := er_bd_some h
  refine ej_cs_i (nc := 0) (ns := 0) B.1 [.int x1, .int 0, .int 3] [.ref 21] (ec_M_in (er_pr B) x1 0 3 σ v1 e2) cal_M_in lk_M_73 st_M_in rfl B.2.2.2.1 d_M_count_4 ⟨Nat.le_of_ble_eq_true rfl, Nat.le_of_ble_eq_true rfl, Nat.zero_le _, Nat.zero_le _⟩ (Nat.le_of_ble_eq_true rfl) rfl ?_
  refine ej_if_ne B.1 (tgt := 14) d_M_count_7 (by decide) (fun q3 => ?_) (fun q3 => ?_)
  · replace h := er_if h q3
    refine ej_iconst B.1 (v := 0) d_M_count_14 rfl ?_
    exact ej_le (lv' := [some (.ref 21), some (.int x1), none, none, none]) ⟨rfl, ⟨rfl, trivial⟩⟩ (ew_M_count_15 B x1 0 σ _ h)
  · replace h := er_it h q3
    refine ej_iconst B.1 (v := 1) d_M_count_10 rfl ?_
    refine ej_goto B.1 (tgt := 15) d_M_count_11 (by decide) ?_
    exact ej_le (lv' := [some (.ref 21), some (.int x1), none, none, none]) ⟨rfl, ⟨rfl, trivial⟩⟩ (ew_M_count_15 B x1 1 σ _ h)
