set_option maxRecDepth 100000 in
set_option maxHeartbeats 4000000 in
theorem ew_M_behind_14 {p : Program} {l : Launch} {e : Env} {s : State} {m : MethodId} {args : Array Value} {below : List Frame} {meth : Method} {c : Code} {G : er_G} (B : er_B p s m c meth b_M_behind "EntryRowsModel" G (some .int) 6 21 39) {kk : Int32 → Int32 → Int32 → er_S → Option Int32} (hkk : ∀ (a0 a1 a2 : Int32) (σ : er_S) (r : Int32), kk a0 a1 a2 σ = some r → er_J p l e { frames := 0, cells := 0, slots := 0, locals := 0 } s m args below meth c G (er_A G s.heap.size) s.heap (er_fin below G s 0 0 (.inl (some (.int r)), σ)) 0 0 σ 2 [some (.ref 21), some (.int a0), some (.int a1), some (.int a2), none, none] []) : ∀ (n : Nat) (x1 x2 x3 x4 x5 : Int32) (σ : er_S) (r : Int32), ef_M_behind_14 kk n x1 x2 x3 x4 x5 σ = some r → er_J p l e { frames := 0, cells := 0, slots := 0, locals := 0 } s m args below meth c G (er_A G s.heap.size) s.heap (er_fin below G s 0 0 (.inl (some (.int r)), σ)) 0 0 σ 14 [some (.ref 21), some (.int x1), some (.int x2), some (.int x3), some (.int x4), some (.int x5)] [] := by
  intro n
  induction n with
  | zero => intro x1 x2 x3 x4 x5 σ r h; cases h
  | succ n ih =>
    intro x1 x2 x3 x4 x5 σ r h
    rw [ef_M_behind_14] at h
    refine ej_iload B.1 d_M_behind_14 rfl ?_
    refine ej_bipush B.1 (v := 40) d_M_behind_16 (by decide +kernel) ?_
    refine ej_icmp_ge B.1 (tgt := 64) d_M_behind_18 (by decide) (fun q2 => ?_) (fun q2 => ?_)
    · replace h := er_it h q2
      refine ej_aload_n B.1 d_M_behind_64 rfl ?_
      refine ej_getr B.1 (er_at B 21 rfl rfl) rfl rfl fl_M_42 d_M_behind_65 ?_
      refine ej_iload_n B.1 d_M_behind_68 rfl ?_
      obtain ⟨e3, h⟩ := er_gd_some h
      refine ej_iald B.1 (er_at B 31 rfl rfl) rfl e3 d_M_behind_69 ?_
      refine ej_iload_n B.1 d_M_behind_70 rfl ?_
      refine ej_icmp_ne B.1 (tgt := 82) d_M_behind_71 (by decide) (fun q4 => ?_) (fun q4 => ?_)
      · replace h := er_if h q4
        refine ej_iinc B.1 (v := x3 + 1) (lv' := [some (.ref 21), some (.int x1), some (.int x2), some (.int (x3 + 1)), some (.int x4), some (.int x5)]) d_M_behind_82 rfl rfl rfl rfl rfl ?_
        refine ej_goto B.1 (tgt := 2) d_M_behind_85 (by decide) ?_
        exact ej_le (lv' := [some (.ref 21), some (.int x1), some (.int x2), some (.int (x3 + 1)), none, none]) ⟨rfl, ⟨rfl, ⟨rfl, ⟨rfl, trivial⟩⟩⟩⟩ (hkk x1 x2 (x3 + 1) σ _ h)
      · replace h := er_it h q4
        refine ej_iload B.1 d_M_behind_74 rfl ?_
        refine ej_iload_n B.1 d_M_behind_76 rfl ?_
        refine ej_icmp_ne B.1 (tgt := 82) d_M_behind_77 (by decide) (fun q5 => ?_) (fun q5 => ?_)
        · replace h := er_if h q5
          refine ej_iinc B.1 (v := x3 + 1) (lv' := [some (.ref 21), some (.int x1), some (.int x2), some (.int (x3 + 1)), some (.int x4), some (.int x5)]) d_M_behind_82 rfl rfl rfl rfl rfl ?_
          refine ej_goto B.1 (tgt := 2) d_M_behind_85 (by decide) ?_
          exact ej_le (lv' := [some (.ref 21), some (.int x1), some (.int x2), some (.int (x3 + 1)), none, none]) ⟨rfl, ⟨rfl, ⟨rfl, ⟨rfl, trivial⟩⟩⟩⟩ (hkk x1 x2 (x3 + 1) σ _ h)
        · replace h := er_it h q5
          refine ej_iload_n B.1 d_M_behind_80 rfl ?_
          cases h
          exact ej_iret B.1 B.2.1 B.2.2.1 (Nat.zero_le _) (Nat.zero_le _) d_M_behind_81
    · replace h := er_if h q2
      refine ej_iload B.1 d_M_behind_21 rfl ?_
      refine ej_aload_n B.1 d_M_behind_23 rfl ?_
      refine ej_getr B.1 (er_at B 21 rfl rfl) rfl rfl fl_M_42 d_M_behind_24 ?_
      refine ej_iload B.1 d_M_behind_27 rfl ?_
      obtain ⟨e6, h⟩ := er_gd_some h
      refine ej_iald B.1 (er_at B 31 rfl rfl) rfl e6 d_M_behind_29 ?_
      refine ej_iload_n B.1 d_M_behind_30 rfl ?_
      refine ej_icmp_ne B.1 (tgt := 54) d_M_behind_31 (by decide) (fun q7 => ?_) (fun q7 => ?_)
      · replace h := er_if h q7
        refine ej_iconst B.1 (v := 0) d_M_behind_54 rfl ?_
        refine ej_iadd B.1 d_M_behind_55 ?_
        refine ej_istore B.1 (lv' := [some (.ref 21), some (.int x1), some (.int x2), some (.int x3), some (.int (x4 + 0)), some (.int x5)]) d_M_behind_56 rfl rfl rfl ?_
        refine ej_iinc B.1 (v := x5 + 1) (lv' := [some (.ref 21), some (.int x1), some (.int x2), some (.int x3), some (.int (x4 + 0)), some (.int (x5 + 1))]) d_M_behind_58 rfl rfl rfl rfl rfl ?_
        refine ej_goto B.1 (tgt := 14) d_M_behind_61 (by decide) ?_
        exact ej_le (lv' := [some (.ref 21), some (.int x1), some (.int x2), some (.int x3), some (.int (x4 + 0)), some (.int (x5 + 1))]) ⟨rfl, ⟨rfl, ⟨rfl, ⟨rfl, ⟨rfl, ⟨rfl, trivial⟩⟩⟩⟩⟩⟩ (ih x1 x2 x3 (x4 + 0) (x5 + 1) σ _ h)
      · replace h := er_it h q7
        refine ej_aload_n B.1 d_M_behind_34 rfl ?_
        refine ej_getr B.1 (er_at B 21 rfl rfl) rfl rfl fl_M_45 d_M_behind_35 ?_
        refine ej_iload B.1 d_M_behind_38 rfl ?_
        obtain ⟨e8, h⟩ := er_gd_some h
        refine ej_iald B.1 (er_at B 32 rfl rfl) rfl e8 d_M_behind_40 ?_
        refine ej_aload_n B.1 d_M_behind_41 rfl ?_
        refine ej_getr B.1 (er_at B 21 rfl rfl) rfl rfl fl_M_45 d_M_behind_42 ?_
        refine ej_iload_n B.1 d_M_behind_45 rfl ?_
        obtain ⟨e9, h⟩ := er_gd_some h
        refine ej_iald B.1 (er_at B 32 rfl rfl) rfl e9 d_M_behind_46 ?_
        refine ej_icmp_ge B.1 (tgt := 54) d_M_behind_47 (by decide) (fun q10 => ?_) (fun q10 => ?_)
        · replace h := er_it h q10
          refine ej_iconst B.1 (v := 0) d_M_behind_54 rfl ?_
          refine ej_iadd B.1 d_M_behind_55 ?_
          refine ej_istore B.1 (lv' := [some (.ref 21), some (.int x1), some (.int x2), some (.int x3), some (.int (x4 + 0)), some (.int x5)]) d_M_behind_56 rfl rfl rfl ?_
          refine ej_iinc B.1 (v := x5 + 1) (lv' := [some (.ref 21), some (.int x1), some (.int x2), some (.int x3), some (.int (x4 + 0)), some (.int (x5 + 1))]) d_M_behind_58 rfl rfl rfl rfl rfl ?_
          refine ej_goto B.1 (tgt := 14) d_M_behind_61 (by decide) ?_
          exact ej_le (lv' := [some (.ref 21), some (.int x1), some (.int x2), some (.int x3), some (.int (x4 + 0)), some (.int (x5 + 1))]) ⟨rfl, ⟨rfl, ⟨rfl, ⟨rfl, ⟨rfl, ⟨rfl, trivial⟩⟩⟩⟩⟩⟩ (ih x1 x2 x3 (x4 + 0) (x5 + 1) σ _ h)
        · replace h := er_if h q10
          refine ej_iconst B.1 (v := 1) d_M_behind_50 rfl ?_
          refine ej_goto B.1 (tgt := 55) d_M_behind_51 (by decide) ?_
          refine ej_iadd B.1 d_M_behind_55 ?_
          refine ej_istore B.1 (lv' := [some (.ref 21), some (.int x1), some (.int x2), some (.int x3), some (.int (x4 + 1)), some (.int x5)]) d_M_behind_56 rfl rfl rfl ?_
          refine ej_iinc B.1 (v := x5 + 1) (lv' := [some (.ref 21), some (.int x1), some (.int x2), some (.int x3), some (.int (x4 + 1)), some (.int (x5 + 1))]) d_M_behind_58 rfl rfl rfl rfl rfl ?_
          refine ej_goto B.1 (tgt := 14) d_M_behind_61 (by decide) ?_
          exact ej_le (lv' := [some (.ref 21), some (.int x1), some (.int x2), some (.int x3), some (.int (x4 + 1)), some (.int (x5 + 1))]) ⟨rfl, ⟨rfl, ⟨rfl, ⟨rfl, ⟨rfl, ⟨rfl, trivial⟩⟩⟩⟩⟩⟩ (ih x1 x2 x3 (x4 + 1) (x5 + 1) σ _ h)
set_option maxRecDepth 100000 in
set_option maxHeartbeats 4000000 in
theorem ew_M_behind_2 {p : Program} {l : Launch} {e : Env} {s : State} {m : MethodId} {args : Array Value} {below : List Frame} {meth : Method} {c : Code} {G : er_G} (B : er_B p s m c meth b_M_behind "EntryRowsModel" G (some .int) 6 21 39) : ∀ (n : Nat) (x1 x2 x3 : Int32) (σ : er_S) (r : Int32), ef_M_behind_2 n x1 x2 x3 σ = some r → er_J p l e { frames := 0, cells := 0, slots := 0, locals := 0 } s m args below meth c G (er_A G s.heap.size) s.heap (er_fin below G s 0 0 (.inl (some (.int r)), σ)) 0 0 σ 2 [some (.ref 21), some (.int x1), some (.int x2), some (.int x3), none, none] [] := by
  intro n
  induction n with
  | zero => intro x1 x2 x3 σ r h; cases h
  | succ n ih =>
    intro x1 x2 x3 σ r h
    rw [ef_M_behind_2] at h
    refine ej_iload_n B.1 d_M_behind_2 rfl ?_
    refine ej_bipush B.1 (v := 40) d_M_behind_3 (by decide +kernel) ?_
    refine ej_icmp_ge B.1 (tgt := 88) d_M_behind_5 (by decide) (fun q1 => ?_) (fun q1 => ?_)
    · replace h := er_it h q1
      refine ej_iconst B.1 (v := (-1)) d_M_behind_88 rfl ?_
      cases h
      exact ej_iret B.1 B.2.1 B.2.2.1 (Nat.zero_le _) (Nat.zero_le _) d_M_behind_89
    · replace h := er_if h q1
      refine ej_iconst B.1 (v := 0) d_M_behind_8 rfl ?_
      refine ej_istore B.1 (lv' := [some (.ref 21), some (.int x1), some (.int x2), some (.int x3), some (.int 0), none]) d_M_behind_9 rfl rfl rfl ?_
      refine ej_iconst B.1 (v := 0) d_M_behind_11 rfl ?_
      refine ej_istore B.1 (lv' := [some (.ref 21), some (.int x1), some (.int x2), some (.int x3), some (.int 0), some (.int 0)]) d_M_behind_12 rfl rfl rfl ?_
      exact ej_le (lv' := [some (.ref 21), some (.int x1), some (.int x2), some (.int x3), some (.int 0), some (.int 0)]) ⟨rfl, ⟨rfl, ⟨rfl, ⟨rfl, ⟨rfl, ⟨rfl, trivial⟩⟩⟩⟩⟩⟩ (ew_M_behind_14 B (fun a0 a1 a2 g r hg => ih a0 a1 a2 g r hg) 64 x1 x2 x3 0 0 σ _ h)
set_option maxRecDepth 100000 in
set_option maxHeartbeats 4000000 in
theorem ec_M_behind {l : Launch} {G : er_G} (hE : er_Pr G 21 39) (x1 x2 : Int32) (σ : er_S) (r : Int32) (h : ef_M_behind x1 x2 σ = some r) : er_Con l y_M_behind w_M_behind 0 0 0 0 G [.ref 21, .int x1, .int x2] σ ((.inl (some (.int r)), σ)) := by
  refine er_ofJ (ret := some .int) (cc := b_M_behind) (maxL := 6) (lv0 := [some (.ref 21), some (.int x1), some (.int x2), none, none, none]) (hh := []) (by decide +kernel) rfl (Or.inl rfl) (by intro v hv; simp only [List.mem_cons, List.not_mem_nil, or_false] at hv; rcases hv with rfl | rfl | rfl <;> rfl) (Nat.le_of_ble_eq_true rfl) ?_
  intro p e s m args below meth c hadm C hr hlk hml hw hnm hm hcd
  have B : er_B p s m c meth b_M_behind "EntryRowsModel" G (some .int) 6 21 39 := ⟨C, hr, hlk, hml, hE, er_noh hw hnm hm hcd⟩
  unfold ef_M_behind at h
  refine ej_iconst B.1 (v := 0) d_M_behind_0 rfl ?_
  refine ej_istore_n B.1 (lv' := [some (.ref 21), some (.int x1), some (.int x2), some (.int 0), none, none]) d_M_behind_1 rfl rfl rfl ?_
  exact ej_le (lv' := [some (.ref 21), some (.int x1), some (.int x2), some (.int 0), none, none]) ⟨rfl, ⟨rfl, ⟨rfl, ⟨rfl, trivial⟩⟩⟩⟩ (ew_M_behind_2 B 64 x1 x2 0 σ _ h)
set_option maxRecDepth 100000 in
set_option maxHeartbeats 4000000 in
theorem ew_M_on_23 {p : Program} {l : Launch} {e : Env} {s : State} {m : MethodId} {args : Array Value} {below : List Frame} {meth : Method} {c : Code} {G : er_G} (B : er_B p s m c meth b_M_on "EntryRowsModel" G (some .int) 3 21 39) (x1 x2 t1 t2 : Int32) (σ : er_S) (r : Int32 × er_S) (h : ef_M_on_23 x1 x2 t1 t2 σ = some r) : er_J p l e { frames := 2, cells := 0, slots := 0, locals := 43 } s m args below meth c G (er_A G s.heap.size) s.heap (er_fin below G s 0 0 (.inl (some (.int r.1)), r.2)) 0 0 σ 23 [some (.ref 21), some (.int x1), some (.int x2)] [.int t2, .int t1, .ref 21] := by
  unfold ef_M_on_23 at h
  refine ej_iconst B.1 (v := 0) d_M_on_23 rfl ?_
  obtain ⟨v5, g7, e6, h⟩ := er_bw_some h
  refine ej_cv_i (nc := 0) (ns := 0) B.1 [.int t1, .int t2, .int 0] [] (ec_M_throwing (er_pr B) t1 t2 0 σ (v5, g7) e6) cal_M_throwing lk_M_84 in_M_throwing (er_at B 21 rfl rfl) rfl rfl se_M_throwing rfl B.2.2.2.1 d_M_on_24 ⟨Nat.le_of_ble_eq_true rfl, Nat.le_of_ble_eq_true rfl, Nat.zero_le _, Nat.zero_le _⟩ (Nat.le_of_ble_eq_true rfl) rfl ?_
  refine ej_if_eq B.1 (tgt := 32) d_M_on_27 (by decide) (fun q8 => ?_) (fun q8 => ?_)
  · replace h := er_it h q8
    refine ej_aload_n B.1 d_M_on_32 rfl ?_
    refine ej_iload_n B.1 d_M_on_33 rfl ?_
    refine ej_iload_n B.1 d_M_on_34 rfl ?_
    obtain ⟨v9, e10, h⟩ := er_bd_some h
    refine ej_cv_i (nc := 0) (ns := 0) B.1 [.int x1, .int x2] [] (ec_M_behind (er_pr B) x1 x2 g7 v9 e10) cal_M_behind lk_M_125 in_M_behind (er_at B 21 rfl rfl) rfl rfl se_M_behind rfl B.2.2.2.1 d_M_on_35 ⟨Nat.le_of_ble_eq_true rfl, Nat.le_of_ble_eq_true rfl, Nat.zero_le _, Nat.zero_le _⟩ (Nat.le_of_ble_eq_true rfl) rfl ?_
    cases h
    exact ej_iret B.1 B.2.1 B.2.2.1 (Nat.zero_le _) (Nat.zero_le _) d_M_on_38
  · replace h := er_if h q8
    refine ej_iconst B.1 (v := 0) d_M_on_30 rfl ?_
    cases h
    exact ej_iret B.1 B.2.1 B.2.2.1 (Nat.zero_le _) (Nat.zero_le _) d_M_on_31
set_option maxRecDepth 100000 in
set_option maxHeartbeats 4000000 in
theorem ew_M_on_14 {p : Program} {l : Launch} {e : Env} {s : State} {m : MethodId} {args : Array Value} {below : List Frame} {meth : Method} {c : Code} {G : er_G} (B : er_B p s m c meth b_M_on "EntryRowsModel" G (some .int) 3 21 39) (x1 x2 t1 : Int32) (σ : er_S) (r : Int32 × er_S) (h : ef_M_on_14 x1 x2 t1 σ = some r) : er_J p l e { frames := 2, cells := 0, slots := 0, locals := 43 } s m args below meth c G (er_A G s.heap.size) s.heap (er_fin below G s 0 0 (.inl (some (.int r.1)), r.2)) 0 0 σ 14 [some (.ref 21), some (.int x1), some (.int x2)] [.int t1, .ref 21] := by
  unfold ef_M_on_14 at h
  refine ej_iload_n B.1 d_M_on_14 rfl ?_
  refine ej_if_ge B.1 (tgt := 22) d_M_on_15 (by decide) (fun q4 => ?_) (fun q4 => ?_)
  · replace h := er_it h q4
    refine ej_iconst B.1 (v := 0) d_M_on_22 rfl ?_
    exact ej_le (lv' := [some (.ref 21), some (.int x1), some (.int x2)]) ⟨rfl, ⟨rfl, ⟨rfl, trivial⟩⟩⟩ (ew_M_on_23 B x1 x2 t1 0 σ _ h)
  · replace h := er_if h q4
    refine ej_iconst B.1 (v := 1) d_M_on_18 rfl ?_
    refine ej_goto B.1 (tgt := 23) d_M_on_19 (by decide) ?_
    exact ej_le (lv' := [some (.ref 21), some (.int x1), some (.int x2)]) ⟨rfl, ⟨rfl, ⟨rfl, trivial⟩⟩⟩ (ew_M_on_23 B x1 x2 t1 1 σ _ h)
set_option maxRecDepth 100000 in
set_option maxHeartbeats 4000000 in
theorem ec_M_on {l : Launch} {G : er_G} (hE : er_Pr G 21 39) (x1 x2 : Int32) (σ : er_S) (r : Int32 × er_S) (h : ef_M_on x1 x2 σ = some r) : er_Con l y_M_on w_M_on 2 43 0 0 G [.ref 21, .int x1, .int x2] σ ((.inl (some (.int r.1)), r.2)) := by
  refine er_ofJ (ret := some .int) (cc := b_M_on) (maxL := 3) (lv0 := [some (.ref 21), some (.int x1), some (.int x2)]) (hh := []) (by decide +kernel) rfl (Or.inl rfl) (by intro v hv; simp only [List.mem_cons, List.not_mem_nil, or_false] at hv; rcases hv with rfl | rfl | rfl <;> rfl) (Nat.le_of_ble_eq_true rfl) ?_
  intro p e s m args below meth c hadm C hr hlk hml hw hnm hm hcd
  have B : er_B p s m c meth b_M_on "EntryRowsModel" G (some .int) 3 21 39 := ⟨C, hr, hlk, hml, hE, er_noh hw hnm hm hcd⟩
  unfold ef_M_on at h
  refine ej_aload_n B.1 d_M_on_0 rfl ?_
  refine ej_aload_n B.1 d_M_on_1 rfl ?_
  refine ej_iload_n B.1 d_M_on_2 rfl ?_
  obtain ⟨v1, e2, h⟩ := er_bd_some h
  refine ej_cv_i (nc := 0) (ns := 0) B.1 [.int x1] [.ref 21] (ec_M_isBoard (er_pr B) x1 σ v1 e2) cal_M_isBoard lk_M_80 in_M_isBoard (er_at B 21 rfl rfl) rfl rfl se_M_isBoard rfl B.2.2.2.1 d_M_on_3 ⟨Nat.le_of_ble_eq_true rfl, Nat.le_of_ble_eq_true rfl, Nat.zero_le _, Nat.zero_le _⟩ (Nat.le_of_ble_eq_true rfl) rfl ?_
  refine ej_if_ne B.1 (tgt := 13) d_M_on_6 (by decide) (fun q3 => ?_) (fun q3 => ?_)
  · replace h := er_if h q3
    refine ej_iconst B.1 (v := 0) d_M_on_13 rfl ?_
    exact ej_le (lv' := [some (.ref 21), some (.int x1), some (.int x2)]) ⟨rfl, ⟨rfl, ⟨rfl, trivial⟩⟩⟩ (ew_M_on_14 B x1 x2 0 σ _ h)
  · replace h := er_it h q3
    refine ej_iconst B.1 (v := 1) d_M_on_9 rfl ?_
    refine ej_goto B.1 (tgt := 14) d_M_on_10 (by decide) ?_
    exact ej_le (lv' := [some (.ref 21), some (.int x1), some (.int x2)]) ⟨rfl, ⟨rfl, ⟨rfl, trivial⟩⟩⟩ (ew_M_on_14 B x1 x2 1 σ _ h)
set_option maxRecDepth 100000 in
set_option maxHeartbeats 4000000 in
theorem ew_M_late_24 {p : Program} {l : Launch} {e : Env} {s : State} {m : MethodId} {args : Array Value} {below : List Frame} {meth : Method} {c : Code} {G : er_G} (B : er_B p s m c meth b_M_late "EntryRowsModel" G (some .int) 4 21 39) : ∀ (n : Nat) (x2 x3 : Int32) (σ : er_S) (r : Int32 × er_S), ef_M_late_24 n x2 x3 σ = some r → er_J p l e { frames := 1, cells := 0, slots := 0, locals := 23 } s m args below meth c G (er_A G s.heap.size) s.heap (er_fin below G s 0 0 (.inl (some (.int r.1)), r.2)) 0 0 σ 24 [some (.ref 21), none, some (.int x2), some (.int x3)] [] := by
  intro n
  induction n with
  | zero => intro x2 x3 σ r h; cases h
  | succ n ih =>
    intro x2 x3 σ r h
    rw [ef_M_late_24] at h
    refine ej_iload_n B.1 d_M_late_24 rfl ?_
    refine ej_bipush B.1 (v := 40) d_M_late_25 (by decide +kernel) ?_
    refine ej_icmp_ge B.1 (tgt := 57) d_M_late_27 (by decide) (fun q6 => ?_) (fun q6 => ?_)
    · replace h := er_it h q6
      refine ej_iconst B.1 (v := (-1)) d_M_late_57 rfl ?_
      cases h
      exact ej_iret B.1 B.2.1 B.2.2.1 (Nat.zero_le _) (Nat.zero_le _) d_M_late_58
    · replace h := er_if h q6
      refine ej_aload_n B.1 d_M_late_30 rfl ?_
      refine ej_iload_n B.1 d_M_late_31 rfl ?_
      refine ej_aload_n B.1 d_M_late_32 rfl ?_
      refine ej_geti B.1 (er_at B 21 rfl rfl) rfl rfl fl_M_101 d_M_late_33 ?_
      obtain ⟨v7, e8, h⟩ := er_bd_some h
      refine ej_cv_i (nc := 0) (ns := 0) B.1 [.int x3, .int (σ 21 1)] [] (ec_M_isLate (er_pr B) x3 (σ 21 1) σ v7 e8) cal_M_isLate lk_M_122 in_M_isLate (er_at B 21 rfl rfl) rfl rfl se_M_isLate rfl B.2.2.2.1 d_M_late_36 ⟨Nat.le_of_ble_eq_true rfl, Nat.le_of_ble_eq_true rfl, Nat.zero_le _, Nat.zero_le _⟩ (Nat.le_of_ble_eq_true rfl) rfl ?_
      refine ej_if_eq B.1 (tgt := 51) d_M_late_39 (by decide) (fun q9 => ?_) (fun q9 => ?_)
      · replace h := er_it h q9
        refine ej_iinc B.1 (v := x3 + 1) (lv' := [some (.ref 21), none, some (.int x2), some (.int (x3 + 1))]) d_M_late_51 rfl rfl rfl rfl rfl ?_
        refine ej_goto B.1 (tgt := 24) d_M_late_54 (by decide) ?_
        exact ej_le (lv' := [some (.ref 21), none, some (.int x2), some (.int (x3 + 1))]) ⟨rfl, ⟨rfl, ⟨rfl, trivial⟩⟩⟩ (ih x2 (x3 + 1) σ _ h)
      · replace h := er_if h q9
        refine ej_iload_n B.1 d_M_late_42 rfl ?_
        refine ej_if_ne B.1 (tgt := 48) d_M_late_43 (by decide) (fun q10 => ?_) (fun q10 => ?_)
        · replace h := er_if h q10
          refine ej_iinc B.1 (v := x2 + (-1)) (lv' := [some (.ref 21), none, some (.int (x2 + (-1))), some (.int x3)]) d_M_late_48 rfl rfl rfl rfl rfl ?_
          refine ej_iinc B.1 (v := x3 + 1) (lv' := [some (.ref 21), none, some (.int (x2 + (-1))), some (.int (x3 + 1))]) d_M_late_51 rfl rfl rfl rfl rfl ?_
          refine ej_goto B.1 (tgt := 24) d_M_late_54 (by decide) ?_
          exact ej_le (lv' := [some (.ref 21), none, some (.int (x2 + (-1))), some (.int (x3 + 1))]) ⟨rfl, ⟨rfl, ⟨rfl, trivial⟩⟩⟩ (ih (x2 + (-1)) (x3 + 1) σ _ h)
        · replace h := er_it h q10
          refine ej_iload_n B.1 d_M_late_46 rfl ?_
          cases h
          exact ej_iret B.1 B.2.1 B.2.2.1 (Nat.zero_le _) (Nat.zero_le _) d_M_late_47
set_option maxRecDepth 100000 in
set_option maxHeartbeats 4000000 in
theorem ew_M_late_10 {p : Program} {l : Launch} {e : Env} {s : State} {m : MethodId} {args : Array Value} {below : List Frame} {meth : Method} {c : Code} {G : er_G} (B : er_B p s m c meth b_M_late "EntryRowsModel" G (some .int) 4 21 39) (x1 t1 : Int32) (σ : er_S) (r : Int32 × er_S) (h : ef_M_late_10 x1 t1 σ = some r) : er_J p l e { frames := 1, cells := 0, slots := 0, locals := 23 } s m args below meth c G (er_A G s.heap.size) s.heap (er_fin below G s 0 0 (.inl (some (.int r.1)), r.2)) 0 0 σ 10 [some (.ref 21), some (.int x1), none, none] [.int t1, .ref 21] := by
  unfold ef_M_late_10 at h
  refine ej_iconst B.1 (v := 0) d_M_late_10 rfl ?_
  refine ej_iconst B.1 (v := 0) d_M_late_11 rfl ?_
  obtain ⟨v2, g4, e3, h⟩ := er_bw_some h
  refine ej_cv_i (nc := 0) (ns := 0) B.1 [.int t1, .int 0, .int 0] [] (ec_M_throwing (er_pr B) t1 0 0 σ (v2, g4) e3) cal_M_throwing lk_M_84 in_M_throwing (er_at B 21 rfl rfl) rfl rfl se_M_throwing rfl B.2.2.2.1 d_M_late_12 ⟨Nat.le_of_ble_eq_true rfl, Nat.le_of_ble_eq_true rfl, Nat.zero_le _, Nat.zero_le _⟩ (Nat.le_of_ble_eq_true rfl) rfl ?_
  refine ej_if_eq B.1 (tgt := 20) d_M_late_15 (by decide) (fun q5 => ?_) (fun q5 => ?_)
  · replace h := er_it h q5
    refine ej_iload_n B.1 d_M_late_20 rfl ?_
    refine ej_istore_n B.1 (lv' := [some (.ref 21), some (.int x1), some (.int x1), none]) d_M_late_21 rfl rfl rfl ?_
    refine ej_iconst B.1 (v := 0) d_M_late_22 rfl ?_
    refine ej_istore_n B.1 (lv' := [some (.ref 21), some (.int x1), some (.int x1), some (.int 0)]) d_M_late_23 rfl rfl rfl ?_
    exact ej_le (lv' := [some (.ref 21), none, some (.int x1), some (.int 0)]) ⟨rfl, ⟨rfl, ⟨rfl, trivial⟩⟩⟩ (ew_M_late_24 B 64 x1 0 g4 _ h)
  · replace h := er_if h q5
    refine ej_iconst B.1 (v := 0) d_M_late_18 rfl ?_
    cases h
    exact ej_iret B.1 B.2.1 B.2.2.1 (Nat.zero_le _) (Nat.zero_le _) d_M_late_19
set_option maxRecDepth 100000 in
set_option maxHeartbeats 4000000 in
theorem ec_M_late {l : Launch} {G : er_G} (hE : er_Pr G 21 39) (x1 : Int32) (σ : er_S) (r : Int32 × er_S) (h : ef_M_late x1 σ = some r) : er_Con l y_M_late w_M_late 1 23 0 0 G [.ref 21, .int x1] σ ((.inl (some (.int r.1)), r.2)) := by
  refine er_ofJ (ret := some .int) (cc := b_M_late) (maxL := 4) (lv0 := [some (.ref 21), some (.int x1), none, none]) (hh := []) (by decide +kernel) rfl (Or.inl rfl) (by intro v hv; simp only [List.mem_cons, List.not_mem_nil, or_false] at hv; rcases hv with rfl | rfl <;> rfl) (Nat.le_of_ble_eq_true rfl) ?_
  intro p e s m args below meth c hadm C hr hlk hml hw hnm hm hcd
  have B : er_B p s m c meth b_M_late "EntryRowsModel" G (some .int) 4 21 39 := ⟨C, hr, hlk, hml, hE, er_noh hw hnm hm hcd⟩
  unfold ef_M_late at h
  refine ej_aload_n B.1 d_M_late_0 rfl ?_
  refine ej_iload_n B.1 d_M_late_1 rfl ?_
  refine ej_if_ge B.1 (tgt := 9) d_M_late_2 (by decide) (fun q1 => ?_) (fun q1 => ?_)
  · replace h := er_it h q1
    refine ej_iconst B.1 (v := 0) d_M_late_9 rfl ?_
    exact ej_le (lv' := [some (.ref 21), some (.int x1), none, none]) ⟨rfl, ⟨rfl, trivial⟩⟩ (ew_M_late_10 B x1 0 σ _ h)
  · replace h := er_if h q1
    refine ej_iconst B.1 (v := 1) d_M_late_5 rfl ?_
    refine ej_goto B.1 (tgt := 10) d_M_late_6 (by decide) ?_
    exact ej_le (lv' := [some (.ref 21), some (.int x1), none, none]) ⟨rfl, ⟨rfl, trivial⟩⟩ (ew_M_late_10 B x1 1 σ _ h)
set_option maxRecDepth 100000 in
set_option maxHeartbeats 4000000 in
theorem ew_M_person_23 {p : Program} {l : Launch} {e : Env} {s : State} {m : MethodId} {args : Array Value} {below : List Frame} {meth : Method} {c : Code} {G : er_G} (B : er_B p s m c meth b_M_person "EntryRowsModel" G (some .int) 3 21 39) (x1 x2 t1 : Int32) (σ : er_S) (r : Int32 × er_S) (h : ef_M_person_23 x1 x2 t1 σ = some r) : er_J p l e { frames := 2, cells := 0, slots := 0, locals := 42 } s m args below meth c G (er_A G s.heap.size) s.heap (er_fin below G s 0 0 (.inl (some (.int r.1)), r.2)) 0 0 σ 23 [some (.ref 21), some (.int x1), some (.int x2)] [.int t1, .ref 21] := by
  unfold ef_M_person_23 at h
  refine ej_iconst B.1 (v := 0) d_M_person_23 rfl ?_
  refine ej_iconst B.1 (v := 0) d_M_person_24 rfl ?_
  obtain ⟨v4, g6, e5, h⟩ := er_bw_some h
  refine ej_cv_i (nc := 0) (ns := 0) B.1 [.int t1, .int 0, .int 0] [] (ec_M_throwing (er_pr B) t1 0 0 σ (v4, g6) e5) cal_M_throwing lk_M_84 in_M_throwing (er_at B 21 rfl rfl) rfl rfl se_M_throwing rfl B.2.2.2.1 d_M_person_25 ⟨Nat.le_of_ble_eq_true rfl, Nat.le_of_ble_eq_true rfl, Nat.zero_le _, Nat.zero_le _⟩ (Nat.le_of_ble_eq_true rfl) rfl ?_
  refine ej_if_eq B.1 (tgt := 33) d_M_person_28 (by decide) (fun q7 => ?_) (fun q7 => ?_)
  · replace h := er_it h q7
    refine ej_iload_n B.1 d_M_person_33 rfl ?_
    by_cases q8 : x2 = 0
    · replace h := er_it h q8
      refine ej_tin B.1 (off := 50) (tgt := 84) d_M_person_34 q8 (by decide) (by decide) (by decide +kernel) (by decide) ?_
      refine ej_aload_n B.1 d_M_person_84 rfl ?_
      refine ej_getr B.1 (er_at B 21 rfl rfl) rfl rfl fl_M_42 d_M_person_85 ?_
      refine ej_iload_n B.1 d_M_person_88 rfl ?_
      obtain ⟨e9, h⟩ := er_gd_some h
      refine ej_iald B.1 (er_at B 31 rfl rfl) rfl e9 d_M_person_89 ?_
      cases h
      exact ej_iret B.1 B.2.1 B.2.2.1 (Nat.zero_le _) (Nat.zero_le _) d_M_person_90
    replace h := er_if h q8
    by_cases q10 : x2 = 1
    · replace h := er_it h q10
      refine ej_tin B.1 (off := 57) (tgt := 91) d_M_person_34 q10 (by decide) (by decide) (by decide +kernel) (by decide) ?_
      refine ej_aload_n B.1 d_M_person_91 rfl ?_
      refine ej_getr B.1 (er_at B 21 rfl rfl) rfl rfl fl_M_45 d_M_person_92 ?_
      refine ej_iload_n B.1 d_M_person_95 rfl ?_
      obtain ⟨e11, h⟩ := er_gd_some h
      refine ej_iald B.1 (er_at B 32 rfl rfl) rfl e11 d_M_person_96 ?_
      cases h
      exact ej_iret B.1 B.2.1 B.2.2.1 (Nat.zero_le _) (Nat.zero_le _) d_M_person_97
    replace h := er_if h q10
    by_cases q12 : x2 = 2
    · replace h := er_it h q12
      refine ej_tin B.1 (off := 64) (tgt := 98) d_M_person_34 q12 (by decide) (by decide) (by decide +kernel) (by decide) ?_
      refine ej_aload_n B.1 d_M_person_98 rfl ?_
      refine ej_getr B.1 (er_at B 21 rfl rfl) rfl rfl fl_M_48 d_M_person_99 ?_
      refine ej_iload_n B.1 d_M_person_102 rfl ?_
      obtain ⟨e13, h⟩ := er_gd_some h
      refine ej_iald B.1 (er_at B 33 rfl rfl) rfl e13 d_M_person_103 ?_
      cases h
      exact ej_iret B.1 B.2.1 B.2.2.1 (Nat.zero_le _) (Nat.zero_le _) d_M_person_104
    replace h := er_if h q12
    by_cases q14 : x2 = 3
    · replace h := er_it h q14
      refine ej_tin B.1 (off := 71) (tgt := 105) d_M_person_34 q14 (by decide) (by decide) (by decide +kernel) (by decide) ?_
      refine ej_aload_n B.1 d_M_person_105 rfl ?_
      refine ej_getr B.1 (er_at B 21 rfl rfl) rfl rfl fl_M_51 d_M_person_106 ?_
      refine ej_iload_n B.1 d_M_person_109 rfl ?_
      obtain ⟨e15, h⟩ := er_gd_some h
      refine ej_iald B.1 (er_at B 34 rfl rfl) rfl e15 d_M_person_110 ?_
      cases h
      exact ej_iret B.1 B.2.1 B.2.2.1 (Nat.zero_le _) (Nat.zero_le _) d_M_person_111
    replace h := er_if h q14
    by_cases q16 : x2 = 4
    · replace h := er_it h q16
      refine ej_tin B.1 (off := 78) (tgt := 112) d_M_person_34 q16 (by decide) (by decide) (by decide +kernel) (by decide) ?_
      refine ej_aload_n B.1 d_M_person_112 rfl ?_
      refine ej_getr B.1 (er_at B 21 rfl rfl) rfl rfl fl_M_54 d_M_person_113 ?_
      refine ej_iload_n B.1 d_M_person_116 rfl ?_
      obtain ⟨e17, h⟩ := er_gd_some h
      refine ej_iald B.1 (er_at B 35 rfl rfl) rfl e17 d_M_person_117 ?_
      cases h
      exact ej_iret B.1 B.2.1 B.2.2.1 (Nat.zero_le _) (Nat.zero_le _) d_M_person_118
    replace h := er_if h q16
    by_cases q18 : x2 = 5
    · replace h := er_it h q18
      refine ej_tin B.1 (off := 85) (tgt := 119) d_M_person_34 q18 (by decide) (by decide) (by decide +kernel) (by decide) ?_
      refine ej_aload_n B.1 d_M_person_119 rfl ?_
      refine ej_getr B.1 (er_at B 21 rfl rfl) rfl rfl fl_M_57 d_M_person_120 ?_
      refine ej_iload_n B.1 d_M_person_123 rfl ?_
      obtain ⟨e19, h⟩ := er_gd_some h
      refine ej_iald B.1 (er_at B 36 rfl rfl) rfl e19 d_M_person_124 ?_
      cases h
      exact ej_iret B.1 B.2.1 B.2.2.1 (Nat.zero_le _) (Nat.zero_le _) d_M_person_125
    replace h := er_if h q18
    by_cases q20 : x2 = 6
    · replace h := er_it h q20
      refine ej_tin B.1 (off := 92) (tgt := 126) d_M_person_34 q20 (by decide) (by decide) (by decide +kernel) (by decide) ?_
      refine ej_aload_n B.1 d_M_person_126 rfl ?_
      refine ej_getr B.1 (er_at B 21 rfl rfl) rfl rfl fl_M_60 d_M_person_127 ?_
      refine ej_iload_n B.1 d_M_person_130 rfl ?_
      obtain ⟨e21, h⟩ := er_gd_some h
      refine ej_iald B.1 (er_at B 37 rfl rfl) rfl e21 d_M_person_131 ?_
      cases h
      exact ej_iret B.1 B.2.1 B.2.2.1 (Nat.zero_le _) (Nat.zero_le _) d_M_person_132
    replace h := er_if h q20
    by_cases q22 : x2 = 7
    · replace h := er_it h q22
      refine ej_tin B.1 (off := 99) (tgt := 133) d_M_person_34 q22 (by decide) (by decide) (by decide +kernel) (by decide) ?_
      refine ej_aload_n B.1 d_M_person_133 rfl ?_
      refine ej_getr B.1 (er_at B 21 rfl rfl) rfl rfl fl_M_63 d_M_person_134 ?_
      refine ej_iload_n B.1 d_M_person_137 rfl ?_
      obtain ⟨e23, h⟩ := er_gd_some h
      refine ej_iald B.1 (er_at B 38 rfl rfl) rfl e23 d_M_person_138 ?_
      cases h
      exact ej_iret B.1 B.2.1 B.2.2.1 (Nat.zero_le _) (Nat.zero_le _) d_M_person_139
    replace h := er_if h q22
    by_cases q24 : x2 = 8
    · replace h := er_it h q24
      refine ej_tin B.1 (off := 106) (tgt := 140) d_M_person_34 q24 (by decide) (by decide) (by decide +kernel) (by decide) ?_
      refine ej_aload_n B.1 d_M_person_140 rfl ?_
      refine ej_getr B.1 (er_at B 21 rfl rfl) rfl rfl fl_M_36 d_M_person_141 ?_
      refine ej_iload_n B.1 d_M_person_144 rfl ?_
      obtain ⟨e25, h⟩ := er_gd_some h
      refine ej_iald B.1 (er_at B 29 rfl rfl) rfl e25 d_M_person_145 ?_
      cases h
      exact ej_iret B.1 B.2.1 B.2.2.1 (Nat.zero_le _) (Nat.zero_le _) d_M_person_146
    replace h := er_if h q24
    refine ej_tout B.1 (tgt := 147) d_M_person_34 (by have z0 := lv_neT (a := 0) q8 (by decide); have z1 := lv_neT (a := 1) q10 (by decide); have z2 := lv_neT (a := 2) q12 (by decide); have z3 := lv_neT (a := 3) q14 (by decide); have z4 := lv_neT (a := 4) q16 (by decide); have z5 := lv_neT (a := 5) q18 (by decide); have z6 := lv_neT (a := 6) q20 (by decide); have z7 := lv_neT (a := 7) q22 (by decide); have z8 := lv_neT (a := 8) q24 (by decide); omega) (by decide) ?_
    refine ej_aload_n B.1 d_M_person_147 rfl ?_
    refine ej_iload_n B.1 d_M_person_148 rfl ?_
    obtain ⟨v26, e27, h⟩ := er_bd_some h
    refine ej_cv_i (nc := 0) (ns := 0) B.1 [.int x1] [] (ec_M_keeps (er_pr B) x1 g6 v26 e27) cal_M_keeps lk_M_91 in_M_keeps (er_at B 21 rfl rfl) rfl rfl se_M_keeps rfl B.2.2.2.1 d_M_person_149 ⟨Nat.le_of_ble_eq_true rfl, Nat.le_of_ble_eq_true rfl, Nat.zero_le _, Nat.zero_le _⟩ (Nat.le_of_ble_eq_true rfl) rfl ?_
    cases h
    exact ej_iret B.1 B.2.1 B.2.2.1 (Nat.zero_le _) (Nat.zero_le _) d_M_person_152
  · replace h := er_if h q7
    refine ej_iconst B.1 (v := 0) d_M_person_31 rfl ?_
    cases h
    exact ej_iret B.1 B.2.1 B.2.2.1 (Nat.zero_le _) (Nat.zero_le _) d_M_person_32
set_option maxRecDepth 100000 in
set_option maxHeartbeats 4000000 in
theorem ew_M_person_18 {p : Program} {l : Launch} {e : Env} {s : State} {m : MethodId} {args : Array Value} {below : List Frame} {meth : Method} {c : Code} {G : er_G} (B : er_B p s m c meth b_M_person "EntryRowsModel" G (some .int) 3 21 39) (x1 x2 : Int32) (σ : er_S) (r : Int32 × er_S) (h : ef_M_person_18 x1 x2 σ = some r) : er_J p l e { frames := 2, cells := 0, slots := 0, locals := 42 } s m args below meth c G (er_A G s.heap.size) s.heap (er_fin below G s 0 0 (.inl (some (.int r.1)), r.2)) 0 0 σ 18 [some (.ref 21), some (.int x1), some (.int x2)] [.ref 21] := by
  unfold ef_M_person_18 at h
  refine ej_iconst B.1 (v := 1) d_M_person_18 rfl ?_
  refine ej_goto B.1 (tgt := 23) d_M_person_19 (by decide) ?_
  exact ej_le (lv' := [some (.ref 21), some (.int x1), some (.int x2)]) ⟨rfl, ⟨rfl, ⟨rfl, trivial⟩⟩⟩ (ew_M_person_23 B x1 x2 1 σ _ h)
set_option maxRecDepth 100000 in
set_option maxHeartbeats 4000000 in
theorem ec_M_person {l : Launch} {G : er_G} (hE : er_Pr G 21 39) (x1 x2 : Int32) (σ : er_S) (r : Int32 × er_S) (h : ef_M_person x1 x2 σ = some r) : er_Con l y_M_person w_M_person 2 42 0 0 G [.ref 21, .int x1, .int x2] σ ((.inl (some (.int r.1)), r.2)) := by
  refine er_ofJ (ret := some .int) (cc := b_M_person) (maxL := 3) (lv0 := [some (.ref 21), some (.int x1), some (.int x2)]) (hh := []) (by decide +kernel) rfl (Or.inl rfl) (by intro v hv; simp only [List.mem_cons, List.not_mem_nil, or_false] at hv; rcases hv with rfl | rfl | rfl <;> rfl) (Nat.le_of_ble_eq_true rfl) ?_
  intro p e s m args below meth c hadm C hr hlk hml hw hnm hm hcd
  have B : er_B p s m c meth b_M_person "EntryRowsModel" G (some .int) 3 21 39 := ⟨C, hr, hlk, hml, hE, er_noh hw hnm hm hcd⟩
  unfold ef_M_person at h
  refine ej_aload_n B.1 d_M_person_0 rfl ?_
  refine ej_iload_n B.1 d_M_person_1 rfl ?_
  obtain ⟨v1, e2, h⟩ := er_bd_some h
  refine ej_cs_i (nc := 0) (ns := 0) B.1 [.int x1] [.ref 21] (ec_M_isPerson (er_pr B) x1 σ v1 e2) cal_M_isPerson lk_M_88 st_M_isPerson rfl B.2.2.2.1 d_M_person_2 ⟨Nat.le_of_ble_eq_true rfl, Nat.le_of_ble_eq_true rfl, Nat.zero_le _, Nat.zero_le _⟩ (Nat.le_of_ble_eq_true rfl) rfl ?_
  refine ej_if_eq B.1 (tgt := 18) d_M_person_5 (by decide) (fun q3 => ?_) (fun q3 => ?_)
  · replace h := er_it h q3
    exact ej_le (lv' := [some (.ref 21), some (.int x1), some (.int x2)]) ⟨rfl, ⟨rfl, ⟨rfl, trivial⟩⟩⟩ (ew_M_person_18 B x1 x2 σ _ h)
  · replace h := er_if h q3
    refine ej_iload_n B.1 d_M_person_8 rfl ?_
    refine ej_iconst B.1 (v := 0) d_M_person_9 rfl ?_
    refine ej_bipush B.1 (v := 9) d_M_person_10 (by decide +kernel) ?_
    obtain ⟨v28, e29, h⟩ := er_bd_some h
    refine ej_cs_i (nc := 0) (ns := 0) B.1 [.int x2, .int 0, .int 9] [.ref 21] (ec_M_in (er_pr B) x2 0 9 σ v28 e29) cal_M_in lk_M_73 st_M_in rfl B.2.2.2.1 d_M_person_12 ⟨Nat.le_of_ble_eq_true rfl, Nat.le_of_ble_eq_true rfl, Nat.zero_le _, Nat.zero_le _⟩ (Nat.le_of_ble_eq_true rfl) rfl ?_
    refine ej_if_ne B.1 (tgt := 22) d_M_person_15 (by decide) (fun q30 => ?_) (fun q30 => ?_)
    · replace h := er_if h q30
      refine ej_iconst B.1 (v := 0) d_M_person_22 rfl ?_
      exact ej_le (lv' := [some (.ref 21), some (.int x1), some (.int x2)]) ⟨rfl, ⟨rfl, ⟨rfl, trivial⟩⟩⟩ (ew_M_person_23 B x1 x2 0 σ _ h)
    · replace h := er_it h q30
      exact ej_le (lv' := [some (.ref 21), some (.int x1), some (.int x2)]) ⟨rfl, ⟨rfl, ⟨rfl, trivial⟩⟩⟩ (ew_M_person_18 B x1 x2 σ _ h)
set_option maxRecDepth 100000 in
set_option maxHeartbeats 4000000 in
theorem ew_M_sumOf_4 {p : Program} {l : Launch} {e : Env} {s : State} {m : MethodId} {args : Array Value} {below : List Frame} {meth : Method} {c : Code} {G : er_G} (B : er_B p s m c meth b_M_sumOf "EntryRowsModel" G (some .int) 6 21 39) : ∀ (n : Nat) (x1 x2 x3 : Int32) (σ : er_S) (r : Int32), ef_M_sumOf_4 n x1 x2 x3 σ = some r → er_J p l e { frames := 1, cells := 0, slots := 0, locals := 25 } s m args below meth c G (er_A G s.heap.size) s.heap (er_fin below G s 0 0 (.inl (some (.int r)), σ)) 0 0 σ 4 [some (.ref 21), some (.int x1), some (.int x2), some (.int x3), none, none] [] := by
  intro n
  induction n with
  | zero => intro x1 x2 x3 σ r h; cases h
  | succ n ih =>
    intro x1 x2 x3 σ r h
    rw [ef_M_sumOf_4] at h
    refine ej_iload_n B.1 d_M_sumOf_4 rfl ?_
    refine ej_aload_n B.1 d_M_sumOf_5 rfl ?_
    refine ej_iload_n B.1 d_M_sumOf_6 rfl ?_
    obtain ⟨v1, e2, h⟩ := er_bd_some h
    refine ej_cv_i (nc := 0) (ns := 0) B.1 [.int x1] [.int x3] (ec_M_onBoard (er_pr B) x1 σ v1 e2) cal_M_onBoard lk_M_118 in_M_onBoard (er_at B 21 rfl rfl) rfl rfl se_M_onBoard rfl B.2.2.2.1 d_M_sumOf_7 ⟨Nat.le_of_ble_eq_true rfl, Nat.le_of_ble_eq_true rfl, Nat.zero_le _, Nat.zero_le _⟩ (Nat.le_of_ble_eq_true rfl) rfl ?_
    refine ej_icmp_ge B.1 (tgt := 63) d_M_sumOf_10 (by decide) (fun q3 => ?_) (fun q3 => ?_)
    · replace h := er_it h q3
      refine ej_iload_n B.1 d_M_sumOf_63 rfl ?_
      cases h
      exact ej_iret B.1 B.2.1 B.2.2.1 (Nat.zero_le _) (Nat.zero_le _) d_M_sumOf_64
    · replace h := er_if h q3
      refine ej_aload_n B.1 d_M_sumOf_13 rfl ?_
      refine ej_iload_n B.1 d_M_sumOf_14 rfl ?_
      refine ej_iload_n B.1 d_M_sumOf_15 rfl ?_
      obtain ⟨v4, e5, h⟩ := er_bd_some h
      refine ej_cv_i (nc := 0) (ns := 0) B.1 [.int x1, .int x3] [] (ec_M_behind (er_pr B) x1 x3 σ v4 e5) cal_M_behind lk_M_125 in_M_behind (er_at B 21 rfl rfl) rfl rfl se_M_behind rfl B.2.2.2.1 d_M_sumOf_16 ⟨Nat.le_of_ble_eq_true rfl, Nat.le_of_ble_eq_true rfl, Nat.zero_le _, Nat.zero_le _⟩ (Nat.le_of_ble_eq_true rfl) rfl ?_
      refine ej_istore B.1 (lv' := [some (.ref 21), some (.int x1), some (.int x2), some (.int x3), some (.int v4), none]) d_M_sumOf_19 rfl rfl rfl ?_
      refine ej_iload_n B.1 d_M_sumOf_21 rfl ?_
      refine ej_sipush B.1 (v := 1000) d_M_sumOf_22 (by decide +kernel) ?_
      refine ej_iload B.1 d_M_sumOf_25 rfl ?_
      refine ej_imul B.1 d_M_sumOf_27 ?_
      refine ej_aload_n B.1 d_M_sumOf_28 rfl ?_
      refine ej_getr B.1 (er_at B 21 rfl rfl) rfl rfl fl_M_45 d_M_sumOf_29 ?_
      refine ej_iload B.1 d_M_sumOf_32 rfl ?_
      obtain ⟨e6, h⟩ := er_gd_some h
      refine ej_iald B.1 (er_at B 32 rfl rfl) rfl e6 d_M_sumOf_34 ?_
      refine ej_sipush B.1 (v := 1000) d_M_sumOf_35 (by decide +kernel) ?_
      refine ej_irem B.1 d_M_sumOf_38 (by decide) ?_
      refine ej_iadd B.1 d_M_sumOf_39 ?_
      refine ej_ixor B.1 d_M_sumOf_40 ?_
      refine ej_istore B.1 (lv' := [some (.ref 21), some (.int x1), some (.int x2), some (.int x3), some (.int v4), some (.int (x2 ^^^ ((1000 * v4) + ((σ 32 (er_ix v4)) - (σ 32 (er_ix v4)) / 1000 * 1000))))]) d_M_sumOf_41 rfl rfl rfl ?_
      refine ej_iload B.1 d_M_sumOf_43 rfl ?_
      refine ej_iconst B.1 (v := 5) d_M_sumOf_45 rfl ?_
      refine ej_ishl B.1 d_M_sumOf_46 ?_
      refine ej_iload B.1 d_M_sumOf_47 rfl ?_
      refine ej_bipush B.1 (v := 27) d_M_sumOf_49 (by decide +kernel) ?_
      refine ej_iushr B.1 d_M_sumOf_51 ?_
      refine ej_ior B.1 d_M_sumOf_52 ?_
      refine ej_ldc B.1 (v := (-2048144789)) k_M_128 d_M_sumOf_53 ?_
      refine ej_imul B.1 d_M_sumOf_55 ?_
      refine ej_istore_n B.1 (lv' := [some (.ref 21), some (.int x1), some (.int ((((x2 ^^^ ((1000 * v4) + ((σ 32 (er_ix v4)) - (σ 32 (er_ix v4)) / 1000 * 1000))) <<< (5 &&& 31)) ||| (((x2 ^^^ ((1000 * v4) + ((σ 32 (er_ix v4)) - (σ 32 (er_ix v4)) / 1000 * 1000))).toUInt32 >>> (Int32.toUInt32 27 &&& Int32.toUInt32 31)).toInt32)) * (-2048144789))), some (.int x3), some (.int v4), some (.int (x2 ^^^ ((1000 * v4) + ((σ 32 (er_ix v4)) - (σ 32 (er_ix v4)) / 1000 * 1000))))]) d_M_sumOf_56 rfl rfl rfl ?_
      refine ej_iinc B.1 (v := x3 + 1) (lv' := [some (.ref 21), some (.int x1), some (.int ((((x2 ^^^ ((1000 * v4) + ((σ 32 (er_ix v4)) - (σ 32 (er_ix v4)) / 1000 * 1000))) <<< (5 &&& 31)) ||| (((x2 ^^^ ((1000 * v4) + ((σ 32 (er_ix v4)) - (σ 32 (er_ix v4)) / 1000 * 1000))).toUInt32 >>> (Int32.toUInt32 27 &&& Int32.toUInt32 31)).toInt32)) * (-2048144789))), some (.int (x3 + 1)), some (.int v4), some (.int (x2 ^^^ ((1000 * v4) + ((σ 32 (er_ix v4)) - (σ 32 (er_ix v4)) / 1000 * 1000))))]) d_M_sumOf_57 rfl rfl rfl rfl rfl ?_
      refine ej_goto B.1 (tgt := 4) d_M_sumOf_60 (by decide) ?_
      exact ej_le (lv' := [some (.ref 21), some (.int x1), some (.int ((((x2 ^^^ ((1000 * v4) + ((σ 32 (er_ix v4)) - (σ 32 (er_ix v4)) / 1000 * 1000))) <<< (5 &&& 31)) ||| (((x2 ^^^ ((1000 * v4) + ((σ 32 (er_ix v4)) - (σ 32 (er_ix v4)) / 1000 * 1000))).toUInt32 >>> (Int32.toUInt32 27 &&& Int32.toUInt32 31)).toInt32)) * (-2048144789))), some (.int (x3 + 1)), none, none]) ⟨rfl, ⟨rfl, ⟨rfl, ⟨rfl, trivial⟩⟩⟩⟩ (ih x1 ((((x2 ^^^ ((1000 * v4) + ((σ 32 (er_ix v4)) - (σ 32 (er_ix v4)) / 1000 * 1000))) <<< (5 &&& 31)) ||| (((x2 ^^^ ((1000 * v4) + ((σ 32 (er_ix v4)) - (σ 32 (er_ix v4)) / 1000 * 1000))).toUInt32 >>> (Int32.toUInt32 27 &&& Int32.toUInt32 31)).toInt32)) * (-2048144789)) (x3 + 1) σ _ h)
set_option maxRecDepth 100000 in
set_option maxHeartbeats 4000000 in
theorem ec_M_sumOf {l : Launch} {G : er_G} (hE : er_Pr G 21 39) (x1 : Int32) (σ : er_S) (r : Int32) (h : ef_M_sumOf x1 σ = some r) : er_Con l y_M_sumOf w_M_sumOf 1 25 0 0 G [.ref 21, .int x1] σ ((.inl (some (.int r)), σ)) := by
  refine er_ofJ (ret := some .int) (cc := b_M_sumOf) (maxL := 6) (lv0 := [some (.ref 21), some (.int x1), none, none, none, none]) (hh := []) (by decide +kernel) rfl (Or.inl rfl) (by intro v hv; simp only [List.mem_cons, List.not_mem_nil, or_false] at hv; rcases hv with rfl | rfl <;> rfl) (Nat.le_of_ble_eq_true rfl) ?_
  intro p e s m args below meth c hadm C hr hlk hml hw hnm hm hcd
  have B : er_B p s m c meth b_M_sumOf "EntryRowsModel" G (some .int) 6 21 39 := ⟨C, hr, hlk, hml, hE, er_noh hw hnm hm hcd⟩
  unfold ef_M_sumOf at h
  refine ej_iconst B.1 (v := 0) d_M_sumOf_0 rfl ?_
  refine ej_istore_n B.1 (lv' := [some (.ref 21), some (.int x1), some (.int 0), none, none, none]) d_M_sumOf_1 rfl rfl rfl ?_
  refine ej_iconst B.1 (v := 0) d_M_sumOf_2 rfl ?_
  refine ej_istore_n B.1 (lv' := [some (.ref 21), some (.int x1), some (.int 0), some (.int 0), none, none]) d_M_sumOf_3 rfl rfl rfl ?_
  exact ej_le (lv' := [some (.ref 21), some (.int x1), some (.int 0), some (.int 0), none, none]) ⟨rfl, ⟨rfl, ⟨rfl, ⟨rfl, trivial⟩⟩⟩⟩ (ew_M_sumOf_4 B 64 x1 0 0 σ _ h)
set_option maxRecDepth 100000 in
set_option maxHeartbeats 4000000 in
theorem ew_M_boardAt_78 {p : Program} {l : Launch} {e : Env} {s : State} {m : MethodId} {args : Array Value} {below : List Frame} {meth : Method} {c : Code} {G : er_G} (B : er_B p s m c meth b_M_boardAt "EntryRowsModel" G (some .int) 3 21 39) (t0 : Int32) (σ : er_S) (r : Int32 × er_S) (h : ef_M_boardAt_78 t0 σ = some r) : er_J p l e { frames := 3, cells := 0, slots := 0, locals := 71 } s m args below meth c G (er_A G s.heap.size) s.heap (er_fin below G s 0 0 (.inl (some (.int r.1)), r.2)) 0 0 σ 78 [none, none, none] [.int t0] := by
  unfold ef_M_boardAt_78 at h
  cases h
  exact ej_iret B.1 B.2.1 B.2.2.1 (Nat.zero_le _) (Nat.zero_le _) d_M_boardAt_78
set_option maxRecDepth 100000 in
set_option maxHeartbeats 4000000 in
theorem ew_M_boardAt_23 {p : Program} {l : Launch} {e : Env} {s : State} {m : MethodId} {args : Array Value} {below : List Frame} {meth : Method} {c : Code} {G : er_G} (B : er_B p s m c meth b_M_boardAt "EntryRowsModel" G (some .int) 3 21 39) (x1 x2 t1 : Int32) (σ : er_S) (r : Int32 × er_S) (h : ef_M_boardAt_23 x1 x2 t1 σ = some r) : er_J p l e { frames := 3, cells := 0, slots := 0, locals := 71 } s m args below meth c G (er_A G s.heap.size) s.heap (er_fin below G s 0 0 (.inl (some (.int r.1)), r.2)) 0 0 σ 23 [some (.ref 21), some (.int x1), some (.int x2)] [.int t1, .ref 21] := by
  unfold ef_M_boardAt_23 at h
  refine ej_iconst B.1 (v := 0) d_M_boardAt_23 rfl ?_
  refine ej_iconst B.1 (v := 0) d_M_boardAt_24 rfl ?_
  obtain ⟨v4, g6, e5, h⟩ := er_bw_some h
  refine ej_cv_i (nc := 0) (ns := 0) B.1 [.int t1, .int 0, .int 0] [] (ec_M_throwing (er_pr B) t1 0 0 σ (v4, g6) e5) cal_M_throwing lk_M_84 in_M_throwing (er_at B 21 rfl rfl) rfl rfl se_M_throwing rfl B.2.2.2.1 d_M_boardAt_25 ⟨Nat.le_of_ble_eq_true rfl, Nat.le_of_ble_eq_true rfl, Nat.zero_le _, Nat.zero_le _⟩ (Nat.le_of_ble_eq_true rfl) rfl ?_
  refine ej_if_eq B.1 (tgt := 33) d_M_boardAt_28 (by decide) (fun q7 => ?_) (fun q7 => ?_)
  · replace h := er_it h q7
    refine ej_iload_n B.1 d_M_boardAt_33 rfl ?_
    by_cases q8 : x2 = 0
    · replace h := er_it h q8
      refine ej_tin B.1 (off := 30) (tgt := 64) d_M_boardAt_34 q8 (by decide) (by decide) (by decide +kernel) (by decide) ?_
      refine ej_aload_n B.1 d_M_boardAt_64 rfl ?_
      refine ej_getr B.1 (er_at B 21 rfl rfl) rfl rfl fl_M_17 d_M_boardAt_65 ?_
      refine ej_iload_n B.1 d_M_boardAt_68 rfl ?_
      obtain ⟨e9, h⟩ := er_gd_some h
      refine ej_zald B.1 (er_at B 23 rfl rfl) rfl e9 d_M_boardAt_69 ?_
      refine ej_if_eq B.1 (tgt := 77) d_M_boardAt_70 (by decide) (fun q10 => ?_) (fun q10 => ?_)
      · replace h := er_it h q10
        refine ej_iconst B.1 (v := 0) d_M_boardAt_77 rfl ?_
        exact ej_le (lv' := [none, none, none]) trivial (ew_M_boardAt_78 B 0 g6 _ h)
      · replace h := er_if h q10
        refine ej_iconst B.1 (v := 1) d_M_boardAt_73 rfl ?_
        refine ej_goto B.1 (tgt := 78) d_M_boardAt_74 (by decide) ?_
        exact ej_le (lv' := [none, none, none]) trivial (ew_M_boardAt_78 B 1 g6 _ h)
    replace h := er_if h q8
    by_cases q11 : x2 = 1
    · replace h := er_it h q11
      refine ej_tin B.1 (off := 45) (tgt := 79) d_M_boardAt_34 q11 (by decide) (by decide) (by decide +kernel) (by decide) ?_
      refine ej_aload_n B.1 d_M_boardAt_79 rfl ?_
      refine ej_getr B.1 (er_at B 21 rfl rfl) rfl rfl fl_M_30 d_M_boardAt_80 ?_
      refine ej_iload_n B.1 d_M_boardAt_83 rfl ?_
      obtain ⟨e12, h⟩ := er_gd_some h
      refine ej_iald B.1 (er_at B 27 rfl rfl) rfl e12 d_M_boardAt_84 ?_
      cases h
      exact ej_iret B.1 B.2.1 B.2.2.1 (Nat.zero_le _) (Nat.zero_le _) d_M_boardAt_85
    replace h := er_if h q11
    by_cases q13 : x2 = 2
    · replace h := er_it h q13
      refine ej_tin B.1 (off := 52) (tgt := 86) d_M_boardAt_34 q13 (by decide) (by decide) (by decide +kernel) (by decide) ?_
      refine ej_aload_n B.1 d_M_boardAt_86 rfl ?_
      refine ej_iload_n B.1 d_M_boardAt_87 rfl ?_
      obtain ⟨v14, e15, h⟩ := er_bd_some h
      refine ej_cv_i (nc := 0) (ns := 0) B.1 [.int x1] [] (ec_M_onBoard (er_pr B) x1 g6 v14 e15) cal_M_onBoard lk_M_118 in_M_onBoard (er_at B 21 rfl rfl) rfl rfl se_M_onBoard rfl B.2.2.2.1 d_M_boardAt_88 ⟨Nat.le_of_ble_eq_true rfl, Nat.le_of_ble_eq_true rfl, Nat.zero_le _, Nat.zero_le _⟩ (Nat.le_of_ble_eq_true rfl) rfl ?_
      cases h
      exact ej_iret B.1 B.2.1 B.2.2.1 (Nat.zero_le _) (Nat.zero_le _) d_M_boardAt_91
    replace h := er_if h q13
    by_cases q16 : x2 = 3
    · replace h := er_it h q16
      refine ej_tin B.1 (off := 58) (tgt := 92) d_M_boardAt_34 q16 (by decide) (by decide) (by decide +kernel) (by decide) ?_
      refine ej_aload_n B.1 d_M_boardAt_92 rfl ?_
      refine ej_iload_n B.1 d_M_boardAt_93 rfl ?_
      refine ej_iconst B.1 (v := (-1)) d_M_boardAt_94 rfl ?_
      obtain ⟨v17, e18, h⟩ := er_bd_some h
      refine ej_cv_i (nc := 0) (ns := 0) B.1 [.int x1, .int (-1)] [] (ec_M_safe (er_pr B) x1 (-1) g6 v17 e18) cal_M_safe lk_M_108 in_M_safe (er_at B 21 rfl rfl) rfl rfl se_M_safe rfl B.2.2.2.1 d_M_boardAt_95 ⟨Nat.le_of_ble_eq_true rfl, Nat.le_of_ble_eq_true rfl, Nat.zero_le _, Nat.zero_le _⟩ (Nat.le_of_ble_eq_true rfl) rfl ?_
      cases h
      exact ej_iret B.1 B.2.1 B.2.2.1 (Nat.zero_le _) (Nat.zero_le _) d_M_boardAt_98
    replace h := er_if h q16
    refine ej_tout B.1 (tgt := 99) d_M_boardAt_34 (by have z0 := lv_neT (a := 0) q8 (by decide); have z1 := lv_neT (a := 1) q11 (by decide); have z2 := lv_neT (a := 2) q13 (by decide); have z3 := lv_neT (a := 3) q16 (by decide); omega) (by decide) ?_
    refine ej_aload_n B.1 d_M_boardAt_99 rfl ?_
    refine ej_iload_n B.1 d_M_boardAt_100 rfl ?_
    obtain ⟨v19, e20, h⟩ := er_bd_some h
    refine ej_cv_i (nc := 0) (ns := 0) B.1 [.int x1] [] (ec_M_sumOf (er_pr B) x1 g6 v19 e20) cal_M_sumOf lk_M_129 in_M_sumOf (er_at B 21 rfl rfl) rfl rfl se_M_sumOf rfl B.2.2.2.1 d_M_boardAt_101 ⟨Nat.le_of_ble_eq_true rfl, Nat.le_of_ble_eq_true rfl, Nat.zero_le _, Nat.zero_le _⟩ (Nat.le_of_ble_eq_true rfl) rfl ?_
    cases h
    exact ej_iret B.1 B.2.1 B.2.2.1 (Nat.zero_le _) (Nat.zero_le _) d_M_boardAt_104
  · replace h := er_if h q7
    refine ej_iconst B.1 (v := 0) d_M_boardAt_31 rfl ?_
    cases h
    exact ej_iret B.1 B.2.1 B.2.2.1 (Nat.zero_le _) (Nat.zero_le _) d_M_boardAt_32
set_option maxRecDepth 100000 in
set_option maxHeartbeats 4000000 in
theorem ew_M_boardAt_18 {p : Program} {l : Launch} {e : Env} {s : State} {m : MethodId} {args : Array Value} {below : List Frame} {meth : Method} {c : Code} {G : er_G} (B : er_B p s m c meth b_M_boardAt "EntryRowsModel" G (some .int) 3 21 39) (x1 x2 : Int32) (σ : er_S) (r : Int32 × er_S) (h : ef_M_boardAt_18 x1 x2 σ = some r) : er_J p l e { frames := 3, cells := 0, slots := 0, locals := 71 } s m args below meth c G (er_A G s.heap.size) s.heap (er_fin below G s 0 0 (.inl (some (.int r.1)), r.2)) 0 0 σ 18 [some (.ref 21), some (.int x1), some (.int x2)] [.ref 21] := by
  unfold ef_M_boardAt_18 at h
  refine ej_iconst B.1 (v := 1) d_M_boardAt_18 rfl ?_
  refine ej_goto B.1 (tgt := 23) d_M_boardAt_19 (by decide) ?_
  exact ej_le (lv' := [some (.ref 21), some (.int x1), some (.int x2)]) ⟨rfl, ⟨rfl, ⟨rfl, trivial⟩⟩⟩ (ew_M_boardAt_23 B x1 x2 1 σ _ h)
set_option maxRecDepth 100000 in
set_option maxHeartbeats 4000000 in
theorem ec_M_boardAt {l : Launch} {G : er_G} (hE : er_Pr G 21 39) (x1 x2 : Int32) (σ : er_S) (r : Int32 × er_S) (h : ef_M_boardAt x1 x2 σ = some r) : er_Con l y_M_boardAt w_M_boardAt 3 71 0 0 G [.ref 21, .int x1, .int x2] σ ((.inl (some (.int r.1)), r.2)) := by
  refine er_ofJ (ret := some .int) (cc := b_M_boardAt) (maxL := 3) (lv0 := [some (.ref 21), some (.int x1), some (.int x2)]) (hh := []) (by decide +kernel) rfl (Or.inl rfl) (by intro v hv; simp only [List.mem_cons, List.not_mem_nil, or_false] at hv; rcases hv with rfl | rfl | rfl <;> rfl) (Nat.le_of_ble_eq_true rfl) ?_
  intro p e s m args below meth c hadm C hr hlk hml hw hnm hm hcd
  have B : er_B p s m c meth b_M_boardAt "EntryRowsModel" G (some .int) 3 21 39 := ⟨C, hr, hlk, hml, hE, er_noh hw hnm hm hcd⟩
  unfold ef_M_boardAt at h
  refine ej_aload_n B.1 d_M_boardAt_0 rfl ?_
  refine ej_aload_n B.1 d_M_boardAt_1 rfl ?_
  refine ej_iload_n B.1 d_M_boardAt_2 rfl ?_
  obtain ⟨v1, e2, h⟩ := er_bd_some h
  refine ej_cv_i (nc := 0) (ns := 0) B.1 [.int x1] [.ref 21] (ec_M_isBoard (er_pr B) x1 σ v1 e2) cal_M_isBoard lk_M_80 in_M_isBoard (er_at B 21 rfl rfl) rfl rfl se_M_isBoard rfl B.2.2.2.1 d_M_boardAt_3 ⟨Nat.le_of_ble_eq_true rfl, Nat.le_of_ble_eq_true rfl, Nat.zero_le _, Nat.zero_le _⟩ (Nat.le_of_ble_eq_true rfl) rfl ?_
  refine ej_if_eq B.1 (tgt := 18) d_M_boardAt_6 (by decide) (fun q3 => ?_) (fun q3 => ?_)
  · replace h := er_it h q3
    exact ej_le (lv' := [some (.ref 21), some (.int x1), some (.int x2)]) ⟨rfl, ⟨rfl, ⟨rfl, trivial⟩⟩⟩ (ew_M_boardAt_18 B x1 x2 σ _ h)
  · replace h := er_if h q3
    refine ej_iload_n B.1 d_M_boardAt_9 rfl ?_
    refine ej_iconst B.1 (v := 0) d_M_boardAt_10 rfl ?_
    refine ej_iconst B.1 (v := 4) d_M_boardAt_11 rfl ?_
    obtain ⟨v21, e22, h⟩ := er_bd_some h
    refine ej_cs_i (nc := 0) (ns := 0) B.1 [.int x2, .int 0, .int 4] [.ref 21] (ec_M_in (er_pr B) x2 0 4 σ v21 e22) cal_M_in lk_M_73 st_M_in rfl B.2.2.2.1 d_M_boardAt_12 ⟨Nat.le_of_ble_eq_true rfl, Nat.le_of_ble_eq_true rfl, Nat.zero_le _, Nat.zero_le _⟩ (Nat.le_of_ble_eq_true rfl) rfl ?_
    refine ej_if_ne B.1 (tgt := 22) d_M_boardAt_15 (by decide) (fun q23 => ?_) (fun q23 => ?_)
    · replace h := er_if h q23
      refine ej_iconst B.1 (v := 0) d_M_boardAt_22 rfl ?_
      exact ej_le (lv' := [some (.ref 21), some (.int x1), some (.int x2)]) ⟨rfl, ⟨rfl, ⟨rfl, trivial⟩⟩⟩ (ew_M_boardAt_23 B x1 x2 0 σ _ h)
    · replace h := er_it h q23
      exact ej_le (lv' := [some (.ref 21), some (.int x1), some (.int x2)]) ⟨rfl, ⟨rfl, ⟨rfl, trivial⟩⟩⟩ (ew_M_boardAt_18 B x1 x2 σ _ h)
