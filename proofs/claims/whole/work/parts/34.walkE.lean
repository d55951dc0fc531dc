set_option maxRecDepth 100000 in
set_option maxHeartbeats 4000000 in
theorem ew_E_late_8 {p : Program} {l : Launch} {e : Env} {s : State} {m : MethodId} {args : Array Value} {below : List Frame} {meth : Method} {c : Code} {G : er_G} (hl : l.admits e ∧ l.stackTraces = false) (B : er_B p s m c meth b_E_late "EntryRows" G (some .int) 4 0 21) : ∀ (n : Nat) (x1 x2 x3 : Int32) (σ : er_S) (r : (Int32 ⊕ Nat) × er_S), ef_E_late_8 n x1 x2 x3 σ = some r → er_J p l e { frames := 8, cells := er_nc r.1, slots := er_ns r.1, locals := 125 } s m args below meth c G (er_A G s.heap.size) s.heap (er_fin below G s (er_nc r.1) (er_ns r.1) (er_cvi r)) 0 0 σ 8 [some (.ref 0), some (.int x1), some (.int x2), some (.int x3)] [] := by
  intro n
  induction n with
  | zero => intro x1 x2 x3 σ r h; cases h
  | succ n ih =>
    intro x1 x2 x3 σ r h
    rw [ef_E_late_8] at h
    refine ej_iload_n B.1 d_E_late_8 rfl ?_
    refine ej_bipush B.1 (v := 40) d_E_late_9 (by decide +kernel) ?_
    refine ej_icmp_ge B.1 (tgt := 42) d_E_late_11 (by decide) (fun q4 => ?_) (fun q4 => ?_)
    · replace h := er_it h q4
      refine ej_iconst B.1 (v := (-1)) d_E_late_42 rfl ?_
      cases h
      exact ej_iret B.1 B.2.1 B.2.2.1 (Nat.zero_le _) (Nat.zero_le _) d_E_late_43
    · replace h := er_if h q4
      refine ej_aload_n B.1 d_E_late_14 rfl ?_
      refine ej_iload_n B.1 d_E_late_15 rfl ?_
      refine ej_aload_n B.1 d_E_late_16 rfl ?_
      refine ej_geti B.1 (er_at B 0 rfl rfl) rfl rfl fl_E_30 d_E_late_17 ?_
      obtain ⟨v5, e6, h⟩ := er_bd_some h
      refine ej_cv_i (nc := 0) (ns := 0) B.1 [.int x3, .int (σ 0 4)] [] (ec_E_isLateAt (er_pr B) x3 (σ 0 4) σ v5 e6) cal_E_isLateAt lk_E_159 in_E_isLateAt (er_at B 0 rfl rfl) rfl rfl se_E_isLateAt rfl B.2.2.2.1 d_E_late_20 ⟨Nat.le_of_ble_eq_true rfl, Nat.le_of_ble_eq_true rfl, Nat.zero_le _, Nat.zero_le _⟩ (Nat.le_of_ble_eq_true rfl) rfl ?_
      refine ej_if_eq B.1 (tgt := 36) d_E_late_23 (by decide) (fun q7 => ?_) (fun q7 => ?_)
      · replace h := er_it h q7
        refine ej_iinc B.1 (v := x3 + 1) (lv' := [some (.ref 0), some (.int x1), some (.int x2), some (.int (x3 + 1))]) d_E_late_36 rfl rfl rfl rfl rfl ?_
        refine ej_goto B.1 (tgt := 8) d_E_late_39 (by decide) ?_
        exact ej_le (lv' := [some (.ref 0), some (.int x1), some (.int x2), some (.int (x3 + 1))]) ⟨rfl, ⟨rfl, ⟨rfl, ⟨rfl, trivial⟩⟩⟩⟩ (ih x1 x2 (x3 + 1) σ _ h)
      · replace h := er_if h q7
        refine ej_iload_n B.1 d_E_late_26 rfl ?_
        refine ej_iload_n B.1 d_E_late_27 rfl ?_
        refine ej_icmp_ne B.1 (tgt := 33) d_E_late_28 (by decide) (fun q8 => ?_) (fun q8 => ?_)
        · replace h := er_if h q8
          refine ej_iinc B.1 (v := x2 + 1) (lv' := [some (.ref 0), some (.int x1), some (.int (x2 + 1)), some (.int x3)]) d_E_late_33 rfl rfl rfl rfl rfl ?_
          refine ej_iinc B.1 (v := x3 + 1) (lv' := [some (.ref 0), some (.int x1), some (.int (x2 + 1)), some (.int (x3 + 1))]) d_E_late_36 rfl rfl rfl rfl rfl ?_
          refine ej_goto B.1 (tgt := 8) d_E_late_39 (by decide) ?_
          exact ej_le (lv' := [some (.ref 0), some (.int x1), some (.int (x2 + 1)), some (.int (x3 + 1))]) ⟨rfl, ⟨rfl, ⟨rfl, ⟨rfl, trivial⟩⟩⟩⟩ (ih x1 (x2 + 1) (x3 + 1) σ _ h)
        · replace h := er_it h q8
          refine ej_iload_n B.1 d_E_late_31 rfl ?_
          cases h
          exact ej_iret B.1 B.2.1 B.2.2.1 (Nat.zero_le _) (Nat.zero_le _) d_E_late_32
set_option maxRecDepth 100000 in
set_option maxHeartbeats 4000000 in
theorem ec_E_late {l : Launch} {G : er_G} (hl : l.stackTraces = false) (hE : er_Pr G 0 21) (x1 : Int32) (σ : er_S) (r : (Int32 ⊕ Nat) × er_S) (h : ef_E_late x1 σ = some r) : er_Con l y_E_late w_E_late 8 125 (er_nc r.1) (er_ns r.1) G [.ref 0, .int x1] σ (er_cvi r) := by
  refine er_ofJ (ret := some .int) (cc := b_E_late) (maxL := 4) (lv0 := [some (.ref 0), some (.int x1), none, none]) (hh := []) (by decide +kernel) rfl (Or.inl rfl) (by intro v hv; simp only [List.mem_cons, List.not_mem_nil, or_false] at hv; rcases hv with rfl | rfl <;> rfl) (Nat.le_of_ble_eq_true rfl) ?_
  intro p e s m args below meth c hadm C hr hlk hml hw hnm hm hcd
  have B : er_B p s m c meth b_E_late "EntryRows" G (some .int) 4 0 21 := ⟨C, hr, hlk, hml, hE, er_noh hw hnm hm hcd⟩
  have hl := And.intro hadm hl
  unfold ef_E_late at h
  refine ej_iload_n B.1 d_E_late_0 rfl ?_
  rcases er_tb_some h with ⟨v1, g3, e2, h⟩ | ⟨k9, g3, e2, h⟩
  · refine ej_cs_v (nc := 0) (ns := 0) B.1 [.int x1] [] (ec_E_requireNotNegative hl.2 (er_pr B) x1 σ (.inl v1, g3) e2) cal_E_requireNotNegative lk_E_162 st_E_requireNotNegative rfl B.2.2.2.1 d_E_late_1 ⟨Nat.le_of_ble_eq_true rfl, Nat.le_of_ble_eq_true rfl, Nat.zero_le _, Nat.zero_le _⟩ (Nat.le_of_ble_eq_true rfl) rfl ?_
    refine ej_iconst B.1 (v := 0) d_E_late_4 rfl ?_
    refine ej_istore_n B.1 (lv' := [some (.ref 0), some (.int x1), some (.int 0), none]) d_E_late_5 rfl rfl rfl ?_
    refine ej_iconst B.1 (v := 0) d_E_late_6 rfl ?_
    refine ej_istore_n B.1 (lv' := [some (.ref 0), some (.int x1), some (.int 0), some (.int 0)]) d_E_late_7 rfl rfl rfl ?_
    exact ej_le (lv' := [some (.ref 0), some (.int x1), some (.int 0), some (.int 0)]) ⟨rfl, ⟨rfl, ⟨rfl, ⟨rfl, trivial⟩⟩⟩⟩ (ew_E_late_8 hl B 64 x1 0 0 g3 _ h)
  · subst h
    exact ej_cs_t (nc := 1) (ns := 6) B.1 [.int x1] [] (ec_E_requireNotNegative hl.2 (er_pr B) x1 σ (.inr k9, g3) e2) cal_E_requireNotNegative lk_E_162 st_E_requireNotNegative rfl B.2.2.2.1 d_E_late_1 ⟨Nat.le_of_ble_eq_true rfl, Nat.le_of_ble_eq_true rfl, Nat.le_of_ble_eq_true rfl, Nat.le_of_ble_eq_true rfl⟩ (Nat.le_of_ble_eq_true rfl) rfl B.2.2.1 (B.2.2.2.2.2 _) ⟨Nat.le_of_ble_eq_true rfl, Nat.le_of_ble_eq_true rfl⟩
set_option maxRecDepth 100000 in
set_option maxHeartbeats 4000000 in
theorem ec_E_person {l : Launch} {G : er_G} (hl : l.stackTraces = false) (hE : er_Pr G 0 21) (x1 x2 : Int32) (σ : er_S) (r : (Int32 ⊕ Nat) × er_S) (h : ef_E_person x1 x2 σ = some r) : er_Con l y_E_person w_E_person 8 123 (er_nc r.1) (er_ns r.1) G [.ref 0, .int x1, .int x2] σ (er_cvi r) := by
  refine er_ofJ (ret := some .int) (cc := b_E_person) (maxL := 3) (lv0 := [some (.ref 0), some (.int x1), some (.int x2)]) (hh := []) (by decide +kernel) rfl (Or.inl rfl) (by intro v hv; simp only [List.mem_cons, List.not_mem_nil, or_false] at hv; rcases hv with rfl | rfl | rfl <;> rfl) (Nat.le_of_ble_eq_true rfl) ?_
  intro p e s m args below meth c hadm C hr hlk hml hw hnm hm hcd
  have B : er_B p s m c meth b_E_person "EntryRows" G (some .int) 3 0 21 := ⟨C, hr, hlk, hml, hE, er_noh hw hnm hm hcd⟩
  have hl := And.intro hadm hl
  unfold ef_E_person at h
  refine ej_iload_n B.1 d_E_person_0 rfl ?_
  rcases er_tb_some h with ⟨v1, g3, e2, h⟩ | ⟨k24, g3, e2, h⟩
  · refine ej_cs_v (nc := 0) (ns := 0) B.1 [.int x1] [] (ec_E_requirePerson hl.2 (er_pr B) x1 σ (.inl v1, g3) e2) cal_E_requirePerson lk_E_69 st_E_requirePerson rfl B.2.2.2.1 d_E_person_1 ⟨Nat.le_of_ble_eq_true rfl, Nat.le_of_ble_eq_true rfl, Nat.zero_le _, Nat.zero_le _⟩ (Nat.le_of_ble_eq_true rfl) rfl ?_
    refine ej_iload_n B.1 d_E_person_4 rfl ?_
    by_cases q4 : x2 = 0
    · replace h := er_it h q4
      refine ej_tin B.1 (off := 55) (tgt := 60) d_E_person_5 q4 (by decide) (by decide) (by decide +kernel) (by decide) ?_
      refine ej_aload_n B.1 d_E_person_60 rfl ?_
      refine ej_getr B.1 (er_at B 0 rfl rfl) rfl rfl fl_E_10 d_E_person_61 ?_
      refine ej_getr B.1 (er_at B 1 rfl rfl) rfl rfl fl_E_132 d_E_person_64 ?_
      refine ej_iload_n B.1 d_E_person_67 rfl ?_
      obtain ⟨e5, h⟩ := er_gd_some h
      refine ej_iald B.1 (er_at B 5 rfl rfl) rfl e5 d_E_person_68 ?_
      cases h
      exact ej_iret B.1 B.2.1 B.2.2.1 (Nat.zero_le _) (Nat.zero_le _) d_E_person_69
    replace h := er_if h q4
    by_cases q6 : x2 = 1
    · replace h := er_it h q6
      refine ej_tin B.1 (off := 65) (tgt := 70) d_E_person_5 q6 (by decide) (by decide) (by decide +kernel) (by decide) ?_
      refine ej_aload_n B.1 d_E_person_70 rfl ?_
      refine ej_getr B.1 (er_at B 0 rfl rfl) rfl rfl fl_E_10 d_E_person_71 ?_
      refine ej_getr B.1 (er_at B 1 rfl rfl) rfl rfl fl_E_145 d_E_person_74 ?_
      refine ej_iload_n B.1 d_E_person_77 rfl ?_
      obtain ⟨e7, h⟩ := er_gd_some h
      refine ej_iald B.1 (er_at B 6 rfl rfl) rfl e7 d_E_person_78 ?_
      cases h
      exact ej_iret B.1 B.2.1 B.2.2.1 (Nat.zero_le _) (Nat.zero_le _) d_E_person_79
    replace h := er_if h q6
    by_cases q8 : x2 = 2
    · replace h := er_it h q8
      refine ej_tin B.1 (off := 75) (tgt := 80) d_E_person_5 q8 (by decide) (by decide) (by decide +kernel) (by decide) ?_
      refine ej_aload_n B.1 d_E_person_80 rfl ?_
      refine ej_getr B.1 (er_at B 0 rfl rfl) rfl rfl fl_E_10 d_E_person_81 ?_
      refine ej_getr B.1 (er_at B 1 rfl rfl) rfl rfl fl_E_135 d_E_person_84 ?_
      refine ej_iload_n B.1 d_E_person_87 rfl ?_
      obtain ⟨e9, h⟩ := er_gd_some h
      refine ej_iald B.1 (er_at B 7 rfl rfl) rfl e9 d_E_person_88 ?_
      cases h
      exact ej_iret B.1 B.2.1 B.2.2.1 (Nat.zero_le _) (Nat.zero_le _) d_E_person_89
    replace h := er_if h q8
    by_cases q10 : x2 = 3
    · replace h := er_it h q10
      refine ej_tin B.1 (off := 85) (tgt := 90) d_E_person_5 q10 (by decide) (by decide) (by decide +kernel) (by decide) ?_
      refine ej_aload_n B.1 d_E_person_90 rfl ?_
      refine ej_getr B.1 (er_at B 0 rfl rfl) rfl rfl fl_E_10 d_E_person_91 ?_
      refine ej_getr B.1 (er_at B 1 rfl rfl) rfl rfl fl_E_176 d_E_person_94 ?_
      refine ej_iload_n B.1 d_E_person_97 rfl ?_
      obtain ⟨e11, h⟩ := er_gd_some h
      refine ej_iald B.1 (er_at B 8 rfl rfl) rfl e11 d_E_person_98 ?_
      cases h
      exact ej_iret B.1 B.2.1 B.2.2.1 (Nat.zero_le _) (Nat.zero_le _) d_E_person_99
    replace h := er_if h q10
    by_cases q12 : x2 = 4
    · replace h := er_it h q12
      refine ej_tin B.1 (off := 95) (tgt := 100) d_E_person_5 q12 (by decide) (by decide) (by decide +kernel) (by decide) ?_
      refine ej_aload_n B.1 d_E_person_100 rfl ?_
      refine ej_getr B.1 (er_at B 0 rfl rfl) rfl rfl fl_E_10 d_E_person_101 ?_
      refine ej_getr B.1 (er_at B 1 rfl rfl) rfl rfl fl_E_179 d_E_person_104 ?_
      refine ej_iload_n B.1 d_E_person_107 rfl ?_
      obtain ⟨e13, h⟩ := er_gd_some h
      refine ej_iald B.1 (er_at B 9 rfl rfl) rfl e13 d_E_person_108 ?_
      cases h
      exact ej_iret B.1 B.2.1 B.2.2.1 (Nat.zero_le _) (Nat.zero_le _) d_E_person_109
    replace h := er_if h q12
    by_cases q14 : x2 = 5
    · replace h := er_it h q14
      refine ej_tin B.1 (off := 105) (tgt := 110) d_E_person_5 q14 (by decide) (by decide) (by decide +kernel) (by decide) ?_
      refine ej_aload_n B.1 d_E_person_110 rfl ?_
      refine ej_getr B.1 (er_at B 0 rfl rfl) rfl rfl fl_E_10 d_E_person_111 ?_
      refine ej_getr B.1 (er_at B 1 rfl rfl) rfl rfl fl_E_182 d_E_person_114 ?_
      refine ej_iload_n B.1 d_E_person_117 rfl ?_
      obtain ⟨e15, h⟩ := er_gd_some h
      refine ej_iald B.1 (er_at B 10 rfl rfl) rfl e15 d_E_person_118 ?_
      cases h
      exact ej_iret B.1 B.2.1 B.2.2.1 (Nat.zero_le _) (Nat.zero_le _) d_E_person_119
    replace h := er_if h q14
    by_cases q16 : x2 = 6
    · replace h := er_it h q16
      refine ej_tin B.1 (off := 115) (tgt := 120) d_E_person_5 q16 (by decide) (by decide) (by decide +kernel) (by decide) ?_
      refine ej_aload_n B.1 d_E_person_120 rfl ?_
      refine ej_getr B.1 (er_at B 0 rfl rfl) rfl rfl fl_E_10 d_E_person_121 ?_
      refine ej_getr B.1 (er_at B 1 rfl rfl) rfl rfl fl_E_185 d_E_person_124 ?_
      refine ej_iload_n B.1 d_E_person_127 rfl ?_
      obtain ⟨e17, h⟩ := er_gd_some h
      refine ej_iald B.1 (er_at B 11 rfl rfl) rfl e17 d_E_person_128 ?_
      cases h
      exact ej_iret B.1 B.2.1 B.2.2.1 (Nat.zero_le _) (Nat.zero_le _) d_E_person_129
    replace h := er_if h q16
    by_cases q18 : x2 = 7
    · replace h := er_it h q18
      refine ej_tin B.1 (off := 125) (tgt := 130) d_E_person_5 q18 (by decide) (by decide) (by decide +kernel) (by decide) ?_
      refine ej_aload_n B.1 d_E_person_130 rfl ?_
      refine ej_getr B.1 (er_at B 0 rfl rfl) rfl rfl fl_E_10 d_E_person_131 ?_
      refine ej_getr B.1 (er_at B 1 rfl rfl) rfl rfl fl_E_188 d_E_person_134 ?_
      refine ej_iload_n B.1 d_E_person_137 rfl ?_
      obtain ⟨e19, h⟩ := er_gd_some h
      refine ej_iald B.1 (er_at B 12 rfl rfl) rfl e19 d_E_person_138 ?_
      cases h
      exact ej_iret B.1 B.2.1 B.2.2.1 (Nat.zero_le _) (Nat.zero_le _) d_E_person_139
    replace h := er_if h q18
    by_cases q20 : x2 = 8
    · replace h := er_it h q20
      refine ej_tin B.1 (off := 135) (tgt := 140) d_E_person_5 q20 (by decide) (by decide) (by decide +kernel) (by decide) ?_
      refine ej_aload_n B.1 d_E_person_140 rfl ?_
      refine ej_getr B.1 (er_at B 0 rfl rfl) rfl rfl fl_E_10 d_E_person_141 ?_
      refine ej_getr B.1 (er_at B 1 rfl rfl) rfl rfl fl_E_105 d_E_person_144 ?_
      refine ej_iload_n B.1 d_E_person_147 rfl ?_
      obtain ⟨e21, h⟩ := er_gd_some h
      refine ej_iald B.1 (er_at B 13 rfl rfl) rfl e21 d_E_person_148 ?_
      cases h
      exact ej_iret B.1 B.2.1 B.2.2.1 (Nat.zero_le _) (Nat.zero_le _) d_E_person_149
    replace h := er_if h q20
    by_cases q22 : x2 = 9
    · replace h := er_it h q22
      refine ej_tin B.1 (off := 145) (tgt := 150) d_E_person_5 q22 (by decide) (by decide) (by decide +kernel) (by decide) ?_
      refine ej_aload_n B.1 d_E_person_150 rfl ?_
      refine ej_getr B.1 (er_at B 0 rfl rfl) rfl rfl fl_E_10 d_E_person_151 ?_
      refine ej_getr B.1 (er_at B 1 rfl rfl) rfl rfl fl_E_78 d_E_person_154 ?_
      refine ej_iload_n B.1 d_E_person_157 rfl ?_
      obtain ⟨e23, h⟩ := er_gd_some h
      refine ej_iald B.1 (er_at B 14 rfl rfl) rfl e23 d_E_person_158 ?_
      cases h
      exact ej_iret B.1 B.2.1 B.2.2.1 (Nat.zero_le _) (Nat.zero_le _) d_E_person_159
    replace h := er_if h q22
    refine ej_tout B.1 (tgt := 160) d_E_person_5 (by have z0 := lv_neT (a := 0) q4 (by decide); have z1 := lv_neT (a := 1) q6 (by decide); have z2 := lv_neT (a := 2) q8 (by decide); have z3 := lv_neT (a := 3) q10 (by decide); have z4 := lv_neT (a := 4) q12 (by decide); have z5 := lv_neT (a := 5) q14 (by decide); have z6 := lv_neT (a := 6) q16 (by decide); have z7 := lv_neT (a := 7) q18 (by decide); have z8 := lv_neT (a := 8) q20 (by decide); have z9 := lv_neT (a := 9) q22 (by decide); omega) (by decide) ?_
    cases h
    exact th_E_person_160 B hl
  · subst h
    exact ej_cs_t (nc := 1) (ns := 6) B.1 [.int x1] [] (ec_E_requirePerson hl.2 (er_pr B) x1 σ (.inr k24, g3) e2) cal_E_requirePerson lk_E_69 st_E_requirePerson rfl B.2.2.2.1 d_E_person_1 ⟨Nat.le_of_ble_eq_true rfl, Nat.le_of_ble_eq_true rfl, Nat.le_of_ble_eq_true rfl, Nat.le_of_ble_eq_true rfl⟩ (Nat.le_of_ble_eq_true rfl) rfl B.2.2.1 (B.2.2.2.2.2 _) ⟨Nat.le_of_ble_eq_true rfl, Nat.le_of_ble_eq_true rfl⟩
set_option maxRecDepth 100000 in
set_option maxHeartbeats 4000000 in
theorem ec_I_rotateLeft {l : Launch} {G : er_G} (x0 x1 : Int32) (σ : er_S) (r : Int32) (h : ef_I_rotateLeft x0 x1 σ = some r) : er_Con l y_I_rotateLeft w_I_rotateLeft 0 0 0 0 G [.int x0, .int x1] σ ((.inl (some (.int r)), σ)) := by
  refine er_ofJ (ret := some .int) (cc := b_I_rotateLeft) (maxL := 2) (lv0 := [some (.int x0), some (.int x1)]) (hh := []) (by decide +kernel) rfl (Or.inl rfl) (by intro v hv; simp only [List.mem_cons, List.not_mem_nil, or_false] at hv; rcases hv with rfl | rfl <;> rfl) (Nat.le_of_ble_eq_true rfl) ?_
  intro p e s m args below meth c hadm C hr hlk hml hw hnm hm hcd
  have B : er_B p s m c meth b_I_rotateLeft "java/lang/Integer" G (some .int) 2 0 0 := ⟨C, hr, hlk, hml, er_none G, er_noh hw hnm hm hcd⟩
  unfold ef_I_rotateLeft at h
  refine ej_iload_n B.1 d_I_rotateLeft_0 rfl ?_
  refine ej_iload_n B.1 d_I_rotateLeft_1 rfl ?_
  refine ej_ishl B.1 d_I_rotateLeft_2 ?_
  refine ej_iload_n B.1 d_I_rotateLeft_3 rfl ?_
  refine ej_iload_n B.1 d_I_rotateLeft_4 rfl ?_
  refine ej_ineg B.1 d_I_rotateLeft_5 ?_
  refine ej_iushr B.1 d_I_rotateLeft_6 ?_
  refine ej_ior B.1 d_I_rotateLeft_7 ?_
  cases h
  exact ej_iret B.1 B.2.1 B.2.2.1 (Nat.zero_le _) (Nat.zero_le _) d_I_rotateLeft_8
set_option maxRecDepth 100000 in
set_option maxHeartbeats 4000000 in
theorem ew_E_sumOf_83 {p : Program} {l : Launch} {e : Env} {s : State} {m : MethodId} {args : Array Value} {below : List Frame} {meth : Method} {c : Code} {G : er_G} (B : er_B p s m c meth b_E_sumOf "EntryRows" G (some .int) 7 0 21) (x2 : Int32) (σ : er_S) (r : Int32) (h : ef_E_sumOf_83 x2 σ = some r) : er_J p l e { frames := 1, cells := 0, slots := 0, locals := 25 } s m args below meth c G (er_A G s.heap.size) s.heap (er_fin below G s 0 0 (.inl (some (.int r)), σ)) 0 0 σ 83 [none, none, some (.int x2), none, none, none, none] [] := by
  unfold ef_E_sumOf_83 at h
  refine ej_iload_n B.1 d_E_sumOf_83 rfl ?_
  cases h
  exact ej_iret B.1 B.2.1 B.2.2.1 (Nat.zero_le _) (Nat.zero_le _) d_E_sumOf_84
set_option maxRecDepth 100000 in
set_option maxHeartbeats 4000000 in
theorem ew_E_sumOf_15 {p : Program} {l : Launch} {e : Env} {s : State} {m : MethodId} {args : Array Value} {below : List Frame} {meth : Method} {c : Code} {G : er_G} (B : er_B p s m c meth b_E_sumOf "EntryRows" G (some .int) 7 0 21) : ∀ (n : Nat) (x1 x2 x3 x4 : Int32) (σ : er_S) (r : Int32), ef_E_sumOf_15 n x1 x2 x3 x4 σ = some r → er_J p l e { frames := 1, cells := 0, slots := 0, locals := 25 } s m args below meth c G (er_A G s.heap.size) s.heap (er_fin below G s 0 0 (.inl (some (.int r)), σ)) 0 0 σ 15 [some (.ref 0), some (.int x1), some (.int x2), some (.int x3), some (.int x4), none, none] [] := by
  intro n
  induction n with
  | zero => intro x1 x2 x3 x4 σ r h; cases h
  | succ n ih =>
    intro x1 x2 x3 x4 σ r h
    rw [ef_E_sumOf_15] at h
    refine ej_iload B.1 d_E_sumOf_15 rfl ?_
    refine ej_bipush B.1 (v := 40) d_E_sumOf_17 (by decide +kernel) ?_
    refine ej_icmp_ge B.1 (tgt := 83) d_E_sumOf_19 (by decide) (fun q3 => ?_) (fun q3 => ?_)
    · replace h := er_it h q3
      exact ej_le (lv' := [none, none, some (.int x2), none, none, none, none]) ⟨rfl, trivial⟩ (ew_E_sumOf_83 B x2 σ _ h)
    · replace h := er_if h q3
      refine ej_iload_n B.1 d_E_sumOf_22 rfl ?_
      obtain ⟨v4, e5, h⟩ := er_bd_some h
      refine ej_cs_i (nc := 0) (ns := 0) B.1 [.int x3] [] (ec_E_isPerson (er_pr B) x3 σ v4 e5) cal_E_isPerson lk_E_173 st_E_isPerson rfl B.2.2.2.1 d_E_sumOf_23 ⟨Nat.le_of_ble_eq_true rfl, Nat.le_of_ble_eq_true rfl, Nat.zero_le _, Nat.zero_le _⟩ (Nat.le_of_ble_eq_true rfl) rfl ?_
      refine ej_if_eq B.1 (tgt := 83) d_E_sumOf_26 (by decide) (fun q6 => ?_) (fun q6 => ?_)
      · replace h := er_it h q6
        exact ej_le (lv' := [none, none, some (.int x2), none, none, none, none]) ⟨rfl, trivial⟩ (ew_E_sumOf_83 B x2 σ _ h)
      · replace h := er_if h q6
        refine ej_aload_n B.1 d_E_sumOf_29 rfl ?_
        refine ej_getr B.1 (er_at B 0 rfl rfl) rfl rfl fl_E_10 d_E_sumOf_30 ?_
        refine ej_getr B.1 (er_at B 1 rfl rfl) rfl rfl fl_E_145 d_E_sumOf_33 ?_
        refine ej_iload_n B.1 d_E_sumOf_36 rfl ?_
        obtain ⟨e7, h⟩ := er_gd_some h
        refine ej_iald B.1 (er_at B 6 rfl rfl) rfl e7 d_E_sumOf_37 ?_
        refine ej_istore B.1 (lv' := [some (.ref 0), some (.int x1), some (.int x2), some (.int x3), some (.int x4), some (.int (σ 6 (er_ix x3))), none]) d_E_sumOf_38 rfl rfl rfl ?_
        refine ej_iload_n B.1 d_E_sumOf_40 rfl ?_
        refine ej_sipush B.1 (v := 1000) d_E_sumOf_41 (by decide +kernel) ?_
        refine ej_iload_n B.1 d_E_sumOf_44 rfl ?_
        refine ej_imul B.1 d_E_sumOf_45 ?_
        refine ej_iload B.1 d_E_sumOf_46 rfl ?_
        refine ej_sipush B.1 (v := 1000) d_E_sumOf_48 (by decide +kernel) ?_
        refine ej_irem B.1 d_E_sumOf_51 (by decide) ?_
        refine ej_iadd B.1 d_E_sumOf_52 ?_
        refine ej_ixor B.1 d_E_sumOf_53 ?_
        refine ej_istore B.1 (lv' := [some (.ref 0), some (.int x1), some (.int x2), some (.int x3), some (.int x4), some (.int (σ 6 (er_ix x3))), some (.int (x2 ^^^ ((1000 * x3) + ((σ 6 (er_ix x3)) - (σ 6 (er_ix x3)) / 1000 * 1000))))]) d_E_sumOf_54 rfl rfl rfl ?_
        refine ej_iload B.1 d_E_sumOf_56 rfl ?_
        refine ej_iconst B.1 (v := 5) d_E_sumOf_58 rfl ?_
        obtain ⟨v8, e9, h⟩ := er_bd_some h
        refine ej_cs_i (nc := 0) (ns := 0) B.1 [.int (x2 ^^^ ((1000 * x3) + ((σ 6 (er_ix x3)) - (σ 6 (er_ix x3)) / 1000 * 1000))), .int 5] [] (ec_I_rotateLeft (x2 ^^^ ((1000 * x3) + ((σ 6 (er_ix x3)) - (σ 6 (er_ix x3)) / 1000 * 1000))) 5 σ v8 e9) cal_I_rotateLeft lk_E_240 st_I_rotateLeft rfl B.2.2.2.1 d_E_sumOf_59 ⟨Nat.le_of_ble_eq_true rfl, Nat.le_of_ble_eq_true rfl, Nat.zero_le _, Nat.zero_le _⟩ (Nat.le_of_ble_eq_true rfl) rfl ?_
        refine ej_ldc B.1 (v := (-2048144789)) k_E_243 d_E_sumOf_62 ?_
        refine ej_imul B.1 d_E_sumOf_64 ?_
        refine ej_istore_n B.1 (lv' := [some (.ref 0), some (.int x1), some (.int (v8 * (-2048144789))), some (.int x3), some (.int x4), some (.int (σ 6 (er_ix x3))), some (.int (x2 ^^^ ((1000 * x3) + ((σ 6 (er_ix x3)) - (σ 6 (er_ix x3)) / 1000 * 1000))))]) d_E_sumOf_65 rfl rfl rfl ?_
        refine ej_aload_n B.1 d_E_sumOf_66 rfl ?_
        refine ej_getr B.1 (er_at B 0 rfl rfl) rfl rfl fl_E_10 d_E_sumOf_67 ?_
        refine ej_iload_n B.1 d_E_sumOf_70 rfl ?_
        refine ej_iload B.1 d_E_sumOf_71 rfl ?_
        obtain ⟨v10, e11, h⟩ := er_bd_some h
        refine ej_cv_i (nc := 0) (ns := 0) B.1 [.int x1, .int (σ 6 (er_ix x3))] [] (ec_P_nextOn (er_pr B) x1 (σ 6 (er_ix x3)) σ v10 e11) cal_P_nextOn lk_E_170 in_P_nextOn (er_at B 1 rfl rfl) rfl rfl se_P_nextOn rfl B.2.2.2.1 d_E_sumOf_73 ⟨Nat.le_of_ble_eq_true rfl, Nat.le_of_ble_eq_true rfl, Nat.zero_le _, Nat.zero_le _⟩ (Nat.le_of_ble_eq_true rfl) rfl ?_
        refine ej_istore_n B.1 (lv' := [some (.ref 0), some (.int x1), some (.int (v8 * (-2048144789))), some (.int v10), some (.int x4), some (.int (σ 6 (er_ix x3))), some (.int (x2 ^^^ ((1000 * x3) + ((σ 6 (er_ix x3)) - (σ 6 (er_ix x3)) / 1000 * 1000))))]) d_E_sumOf_76 rfl rfl rfl ?_
        refine ej_iinc B.1 (v := x4 + 1) (lv' := [some (.ref 0), some (.int x1), some (.int (v8 * (-2048144789))), some (.int v10), some (.int (x4 + 1)), some (.int (σ 6 (er_ix x3))), some (.int (x2 ^^^ ((1000 * x3) + ((σ 6 (er_ix x3)) - (σ 6 (er_ix x3)) / 1000 * 1000))))]) d_E_sumOf_77 rfl rfl rfl rfl rfl ?_
        refine ej_goto B.1 (tgt := 15) d_E_sumOf_80 (by decide) ?_
        exact ej_le (lv' := [some (.ref 0), some (.int x1), some (.int (v8 * (-2048144789))), some (.int v10), some (.int (x4 + 1)), none, none]) ⟨rfl, ⟨rfl, ⟨rfl, ⟨rfl, ⟨rfl, trivial⟩⟩⟩⟩⟩ (ih x1 (v8 * (-2048144789)) v10 (x4 + 1) σ _ h)
set_option maxRecDepth 100000 in
set_option maxHeartbeats 4000000 in
theorem ec_E_sumOf {l : Launch} {G : er_G} (hE : er_Pr G 0 21) (x1 : Int32) (σ : er_S) (r : Int32) (h : ef_E_sumOf x1 σ = some r) : er_Con l y_E_sumOf w_E_sumOf 1 25 0 0 G [.ref 0, .int x1] σ ((.inl (some (.int r)), σ)) := by
  refine er_ofJ (ret := some .int) (cc := b_E_sumOf) (maxL := 7) (lv0 := [some (.ref 0), some (.int x1), none, none, none, none, none]) (hh := []) (by decide +kernel) rfl (Or.inl rfl) (by intro v hv; simp only [List.mem_cons, List.not_mem_nil, or_false] at hv; rcases hv with rfl | rfl <;> rfl) (Nat.le_of_ble_eq_true rfl) ?_
  intro p e s m args below meth c hadm C hr hlk hml hw hnm hm hcd
  have B : er_B p s m c meth b_E_sumOf "EntryRows" G (some .int) 7 0 21 := ⟨C, hr, hlk, hml, hE, er_noh hw hnm hm hcd⟩
  unfold ef_E_sumOf at h
  refine ej_iconst B.1 (v := 0) d_E_sumOf_0 rfl ?_
  refine ej_istore_n B.1 (lv' := [some (.ref 0), some (.int x1), some (.int 0), none, none, none, none]) d_E_sumOf_1 rfl rfl rfl ?_
  refine ej_aload_n B.1 d_E_sumOf_2 rfl ?_
  refine ej_getr B.1 (er_at B 0 rfl rfl) rfl rfl fl_E_10 d_E_sumOf_3 ?_
  refine ej_iload_n B.1 d_E_sumOf_6 rfl ?_
  refine ej_iconst B.1 (v := (-1)) d_E_sumOf_7 rfl ?_
  obtain ⟨v1, e2, h⟩ := er_bd_some h
  refine ej_cv_i (nc := 0) (ns := 0) B.1 [.int x1, .int (-1)] [] (ec_P_nextOn (er_pr B) x1 (-1) σ v1 e2) cal_P_nextOn lk_E_170 in_P_nextOn (er_at B 1 rfl rfl) rfl rfl se_P_nextOn rfl B.2.2.2.1 d_E_sumOf_8 ⟨Nat.le_of_ble_eq_true rfl, Nat.le_of_ble_eq_true rfl, Nat.zero_le _, Nat.zero_le _⟩ (Nat.le_of_ble_eq_true rfl) rfl ?_
  refine ej_istore_n B.1 (lv' := [some (.ref 0), some (.int x1), some (.int 0), some (.int v1), none, none, none]) d_E_sumOf_11 rfl rfl rfl ?_
  refine ej_iconst B.1 (v := 0) d_E_sumOf_12 rfl ?_
  refine ej_istore B.1 (lv' := [some (.ref 0), some (.int x1), some (.int 0), some (.int v1), some (.int 0), none, none]) d_E_sumOf_13 rfl rfl rfl ?_
  exact ej_le (lv' := [some (.ref 0), some (.int x1), some (.int 0), some (.int v1), some (.int 0), none, none]) ⟨rfl, ⟨rfl, ⟨rfl, ⟨rfl, ⟨rfl, trivial⟩⟩⟩⟩⟩ (ew_E_sumOf_15 B 64 x1 0 v1 0 σ _ h)
set_option maxRecDepth 100000 in
set_option maxHeartbeats 4000000 in
theorem ew_E_boardAt_57 {p : Program} {l : Launch} {e : Env} {s : State} {m : MethodId} {args : Array Value} {below : List Frame} {meth : Method} {c : Code} {G : er_G} (hl : l.admits e ∧ l.stackTraces = false) (B : er_B p s m c meth b_E_boardAt "EntryRows" G (some .int) 3 0 21) (t0 : Int32) (σ : er_S) (r : (Int32 ⊕ Nat) × er_S) (h : ef_E_boardAt_57 t0 σ = some r) : er_J p l e { frames := 8, cells := er_nc r.1, slots := er_ns r.1, locals := 124 } s m args below meth c G (er_A G s.heap.size) s.heap (er_fin below G s (er_nc r.1) (er_ns r.1) (er_cvi r)) 0 0 σ 57 [none, none, none] [.int t0] := by
  unfold ef_E_boardAt_57 at h
  cases h
  exact ej_iret B.1 B.2.1 B.2.2.1 (Nat.zero_le _) (Nat.zero_le _) d_E_boardAt_57
set_option maxRecDepth 100000 in
set_option maxHeartbeats 4000000 in
theorem ec_E_boardAt {l : Launch} {G : er_G} (hl : l.stackTraces = false) (hE : er_Pr G 0 21) (x1 x2 : Int32) (σ : er_S) (r : (Int32 ⊕ Nat) × er_S) (h : ef_E_boardAt x1 x2 σ = some r) : er_Con l y_E_boardAt w_E_boardAt 8 124 (er_nc r.1) (er_ns r.1) G [.ref 0, .int x1, .int x2] σ (er_cvi r) := by
  refine er_ofJ (ret := some .int) (cc := b_E_boardAt) (maxL := 3) (lv0 := [some (.ref 0), some (.int x1), some (.int x2)]) (hh := []) (by decide +kernel) rfl (Or.inl rfl) (by intro v hv; simp only [List.mem_cons, List.not_mem_nil, or_false] at hv; rcases hv with rfl | rfl | rfl <;> rfl) (Nat.le_of_ble_eq_true rfl) ?_
  intro p e s m args below meth c hadm C hr hlk hml hw hnm hm hcd
  have B : er_B p s m c meth b_E_boardAt "EntryRows" G (some .int) 3 0 21 := ⟨C, hr, hlk, hml, hE, er_noh hw hnm hm hcd⟩
  have hl := And.intro hadm hl
  unfold ef_E_boardAt at h
  refine ej_aload_n B.1 d_E_boardAt_0 rfl ?_
  refine ej_iload_n B.1 d_E_boardAt_1 rfl ?_
  rcases er_tb_some h with ⟨v1, g3, e2, h⟩ | ⟨k18, g3, e2, h⟩
  · refine ej_cv_v (nc := 0) (ns := 0) B.1 [.int x1] [] (ec_E_requireBoard hl.2 (er_pr B) x1 σ (.inl v1, g3) e2) cal_E_requireBoard lk_E_65 in_E_requireBoard (er_at B 0 rfl rfl) rfl rfl se_E_requireBoard rfl B.2.2.2.1 d_E_boardAt_2 ⟨Nat.le_of_ble_eq_true rfl, Nat.le_of_ble_eq_true rfl, Nat.zero_le _, Nat.zero_le _⟩ (Nat.le_of_ble_eq_true rfl) rfl ?_
    refine ej_iload_n B.1 d_E_boardAt_5 rfl ?_
    by_cases q4 : x2 = 0
    · replace h := er_it h q4
      refine ej_tin B.1 (off := 34) (tgt := 40) d_E_boardAt_6 q4 (by decide) (by decide) (by decide +kernel) (by decide) ?_
      refine ej_aload_n B.1 d_E_boardAt_40 rfl ?_
      refine ej_getr B.1 (er_at B 0 rfl rfl) rfl rfl fl_E_19 d_E_boardAt_41 ?_
      refine ej_getr B.1 (er_at B 2 rfl rfl) rfl rfl fl_E_196 d_E_boardAt_44 ?_
      refine ej_iload_n B.1 d_E_boardAt_47 rfl ?_
      obtain ⟨e5, h⟩ := er_gd_some h
      refine ej_zald B.1 (er_at B 16 rfl rfl) rfl e5 d_E_boardAt_48 ?_
      refine ej_if_eq B.1 (tgt := 56) d_E_boardAt_49 (by decide) (fun q6 => ?_) (fun q6 => ?_)
      · replace h := er_it h q6
        refine ej_iconst B.1 (v := 0) d_E_boardAt_56 rfl ?_
        exact ej_le (lv' := [none, none, none]) trivial (ew_E_boardAt_57 hl B 0 g3 _ h)
      · replace h := er_if h q6
        refine ej_iconst B.1 (v := 1) d_E_boardAt_52 rfl ?_
        refine ej_goto B.1 (tgt := 57) d_E_boardAt_53 (by decide) ?_
        exact ej_le (lv' := [none, none, none]) trivial (ew_E_boardAt_57 hl B 1 g3 _ h)
    replace h := er_if h q4
    by_cases q7 : x2 = 1
    · replace h := er_it h q7
      refine ej_tin B.1 (off := 52) (tgt := 58) d_E_boardAt_6 q7 (by decide) (by decide) (by decide +kernel) (by decide) ?_
      refine ej_aload_n B.1 d_E_boardAt_58 rfl ?_
      refine ej_getr B.1 (er_at B 0 rfl rfl) rfl rfl fl_E_19 d_E_boardAt_59 ?_
      refine ej_getr B.1 (er_at B 2 rfl rfl) rfl rfl fl_E_88 d_E_boardAt_62 ?_
      refine ej_iload_n B.1 d_E_boardAt_65 rfl ?_
      obtain ⟨e8, h⟩ := er_gd_some h
      refine ej_iald B.1 (er_at B 20 rfl rfl) rfl e8 d_E_boardAt_66 ?_
      cases h
      exact ej_iret B.1 B.2.1 B.2.2.1 (Nat.zero_le _) (Nat.zero_le _) d_E_boardAt_67
    replace h := er_if h q7
    by_cases q9 : x2 = 2
    · replace h := er_it h q9
      refine ej_tin B.1 (off := 62) (tgt := 68) d_E_boardAt_6 q9 (by decide) (by decide) (by decide +kernel) (by decide) ?_
      refine ej_aload_n B.1 d_E_boardAt_68 rfl ?_
      refine ej_getr B.1 (er_at B 0 rfl rfl) rfl rfl fl_E_10 d_E_boardAt_69 ?_
      refine ej_iload_n B.1 d_E_boardAt_72 rfl ?_
      obtain ⟨v10, e11, h⟩ := er_bd_some h
      refine ej_cv_i (nc := 0) (ns := 0) B.1 [.int x1] [] (ec_P_countOn (er_pr B) x1 g3 v10 e11) cal_P_countOn lk_E_155 in_P_countOn (er_at B 1 rfl rfl) rfl rfl se_P_countOn rfl B.2.2.2.1 d_E_boardAt_73 ⟨Nat.le_of_ble_eq_true rfl, Nat.le_of_ble_eq_true rfl, Nat.zero_le _, Nat.zero_le _⟩ (Nat.le_of_ble_eq_true rfl) rfl ?_
      cases h
      exact ej_iret B.1 B.2.1 B.2.2.1 (Nat.zero_le _) (Nat.zero_le _) d_E_boardAt_76
    replace h := er_if h q9
    by_cases q12 : x2 = 3
    · replace h := er_it h q12
      refine ej_tin B.1 (off := 71) (tgt := 77) d_E_boardAt_6 q12 (by decide) (by decide) (by decide +kernel) (by decide) ?_
      refine ej_aload_n B.1 d_E_boardAt_77 rfl ?_
      refine ej_iload_n B.1 d_E_boardAt_78 rfl ?_
      refine ej_iconst B.1 (v := (-1)) d_E_boardAt_79 rfl ?_
      obtain ⟨v13, e14, h⟩ := er_bd_some h
      refine ej_cv_i (nc := 0) (ns := 0) B.1 [.int x1, .int (-1)] [] (ec_E_readySafetyTeams (er_pr B) x1 (-1) g3 v13 e14) cal_E_readySafetyTeams lk_E_114 in_E_readySafetyTeams (er_at B 0 rfl rfl) rfl rfl se_E_readySafetyTeams rfl B.2.2.2.1 d_E_boardAt_80 ⟨Nat.le_of_ble_eq_true rfl, Nat.le_of_ble_eq_true rfl, Nat.zero_le _, Nat.zero_le _⟩ (Nat.le_of_ble_eq_true rfl) rfl ?_
      cases h
      exact ej_iret B.1 B.2.1 B.2.2.1 (Nat.zero_le _) (Nat.zero_le _) d_E_boardAt_83
    replace h := er_if h q12
    by_cases q15 : x2 = 4
    · replace h := er_it h q15
      refine ej_tin B.1 (off := 78) (tgt := 84) d_E_boardAt_6 q15 (by decide) (by decide) (by decide +kernel) (by decide) ?_
      refine ej_aload_n B.1 d_E_boardAt_84 rfl ?_
      refine ej_iload_n B.1 d_E_boardAt_85 rfl ?_
      obtain ⟨v16, e17, h⟩ := er_bd_some h
      refine ej_cv_i (nc := 0) (ns := 0) B.1 [.int x1] [] (ec_E_sumOf (er_pr B) x1 g3 v16 e17) cal_E_sumOf lk_E_199 in_E_sumOf (er_at B 0 rfl rfl) rfl rfl se_E_sumOf rfl B.2.2.2.1 d_E_boardAt_86 ⟨Nat.le_of_ble_eq_true rfl, Nat.le_of_ble_eq_true rfl, Nat.zero_le _, Nat.zero_le _⟩ (Nat.le_of_ble_eq_true rfl) rfl ?_
      cases h
      exact ej_iret B.1 B.2.1 B.2.2.1 (Nat.zero_le _) (Nat.zero_le _) d_E_boardAt_89
    replace h := er_if h q15
    refine ej_tout B.1 (tgt := 90) d_E_boardAt_6 (by have z0 := lv_neT (a := 0) q4 (by decide); have z1 := lv_neT (a := 1) q7 (by decide); have z2 := lv_neT (a := 2) q9 (by decide); have z3 := lv_neT (a := 3) q12 (by decide); have z4 := lv_neT (a := 4) q15 (by decide); omega) (by decide) ?_
    cases h
    exact th_E_boardAt_90 B hl
  · subst h
    exact ej_cv_t (nc := 1) (ns := 6) B.1 [.int x1] [] (ec_E_requireBoard hl.2 (er_pr B) x1 σ (.inr k18, g3) e2) cal_E_requireBoard lk_E_65 in_E_requireBoard (er_at B 0 rfl rfl) rfl rfl se_E_requireBoard rfl B.2.2.2.1 d_E_boardAt_2 ⟨Nat.le_of_ble_eq_true rfl, Nat.le_of_ble_eq_true rfl, Nat.le_of_ble_eq_true rfl, Nat.le_of_ble_eq_true rfl⟩ (Nat.le_of_ble_eq_true rfl) rfl B.2.2.1 (B.2.2.2.2.2 _) ⟨Nat.le_of_ble_eq_true rfl, Nat.le_of_ble_eq_true rfl⟩
set_option maxRecDepth 100000 in
set_option maxHeartbeats 4000000 in
theorem ec_P_countInside {l : Launch} {G : er_G} (hE : er_Pr G 0 21) (σ : er_S) (r : Int32) (h : ef_P_countInside  σ = some r) : er_Con l y_P_countInside w_P_countInside 1 23 0 0 G [.ref 1] σ ((.inl (some (.int r)), σ)) := by
  refine er_ofJ (ret := some .int) (cc := b_P_countInside) (maxL := 1) (lv0 := [some (.ref 1)]) (hh := []) (by decide +kernel) rfl (Or.inl rfl) (by intro v hv; simp only [List.mem_cons, List.not_mem_nil, or_false] at hv; rcases hv with rfl <;> rfl) (Nat.le_of_ble_eq_true rfl) ?_
  intro p e s m args below meth c hadm C hr hlk hml hw hnm hm hcd
  have B : er_B p s m c meth b_P_countInside "EntryRows$Persons" G (some .int) 1 0 21 := ⟨C, hr, hlk, hml, hE, er_noh hw hnm hm hcd⟩
  unfold ef_P_countInside at h
  refine ej_bipush B.1 (v := 40) d_P_countInside_0 (by decide +kernel) ?_
  refine ej_aload_n B.1 d_P_countInside_2 rfl ?_
  refine ej_iconst B.1 (v := (-1)) d_P_countInside_3 rfl ?_
  obtain ⟨v1, e2, h⟩ := er_bd_some h
  refine ej_cv_i (nc := 0) (ns := 0) B.1 [.int (-1)] [.int 40] (ec_P_countOn (er_pr B) (-1) σ v1 e2) cal_P_countOn lk_P_68 in_P_countOn (er_at B 1 rfl rfl) rfl rfl se_P_countOn rfl B.2.2.2.1 d_P_countInside_4 ⟨Nat.le_of_ble_eq_true rfl, Nat.le_of_ble_eq_true rfl, Nat.zero_le _, Nat.zero_le _⟩ (Nat.le_of_ble_eq_true rfl) rfl ?_
  refine ej_isub B.1 d_P_countInside_7 ?_
  cases h
  exact ej_iret B.1 B.2.1 B.2.2.1 (Nat.zero_le _) (Nat.zero_le _) d_P_countInside_8
set_option maxRecDepth 100000 in
set_option maxHeartbeats 4000000 in
theorem ew_B_countOpen_4 {p : Program} {l : Launch} {e : Env} {s : State} {m : MethodId} {args : Array Value} {below : List Frame} {meth : Method} {c : Code} {G : er_G} (B : er_B p s m c meth b_B_countOpen "EntryRows$Boards" G (some .int) 3 0 21) : ∀ (n : Nat) (x1 x2 : Int32) (σ : er_S) (r : Int32), ef_B_countOpen_4 n x1 x2 σ = some r → er_J p l e { frames := 0, cells := 0, slots := 0, locals := 0 } s m args below meth c G (er_A G s.heap.size) s.heap (er_fin below G s 0 0 (.inl (some (.int r)), σ)) 0 0 σ 4 [some (.ref 2), some (.int x1), some (.int x2)] [] := by
  intro n
  induction n with
  | zero => intro x1 x2 σ r h; cases h
  | succ n ih =>
    intro x1 x2 σ r h
    rw [ef_B_countOpen_4] at h
    refine ej_iload_n B.1 d_B_countOpen_4 rfl ?_
    refine ej_aload_n B.1 d_B_countOpen_5 rfl ?_
    refine ej_geti B.1 (er_at B 2 rfl rfl) rfl rfl fl_B_28 d_B_countOpen_6 ?_
    refine ej_icmp_ge B.1 (tgt := 30) d_B_countOpen_9 (by decide) (fun q1 => ?_) (fun q1 => ?_)
    · replace h := er_it h q1
      refine ej_iload_n B.1 d_B_countOpen_30 rfl ?_
      cases h
      exact ej_iret B.1 B.2.1 B.2.2.1 (Nat.zero_le _) (Nat.zero_le _) d_B_countOpen_31
    · replace h := er_if h q1
      refine ej_aload_n B.1 d_B_countOpen_12 rfl ?_
      refine ej_getr B.1 (er_at B 2 rfl rfl) rfl rfl fl_B_9 d_B_countOpen_13 ?_
      refine ej_iload_n B.1 d_B_countOpen_16 rfl ?_
      obtain ⟨e2, h⟩ := er_gd_some h
      refine ej_zald B.1 (er_at B 16 rfl rfl) rfl e2 d_B_countOpen_17 ?_
      refine ej_if_eq B.1 (tgt := 24) d_B_countOpen_18 (by decide) (fun q3 => ?_) (fun q3 => ?_)
      · replace h := er_it h q3
        refine ej_iinc B.1 (v := x2 + 1) (lv' := [some (.ref 2), some (.int x1), some (.int (x2 + 1))]) d_B_countOpen_24 rfl rfl rfl rfl rfl ?_
        refine ej_goto B.1 (tgt := 4) d_B_countOpen_27 (by decide) ?_
        exact ej_le (lv' := [some (.ref 2), some (.int x1), some (.int (x2 + 1))]) ⟨rfl, ⟨rfl, ⟨rfl, trivial⟩⟩⟩ (ih x1 (x2 + 1) σ _ h)
      · replace h := er_if h q3
        refine ej_iinc B.1 (v := x1 + 1) (lv' := [some (.ref 2), some (.int (x1 + 1)), some (.int x2)]) d_B_countOpen_21 rfl rfl rfl rfl rfl ?_
        refine ej_iinc B.1 (v := x2 + 1) (lv' := [some (.ref 2), some (.int (x1 + 1)), some (.int (x2 + 1))]) d_B_countOpen_24 rfl rfl rfl rfl rfl ?_
        refine ej_goto B.1 (tgt := 4) d_B_countOpen_27 (by decide) ?_
        exact ej_le (lv' := [some (.ref 2), some (.int (x1 + 1)), some (.int (x2 + 1))]) ⟨rfl, ⟨rfl, ⟨rfl, trivial⟩⟩⟩ (ih (x1 + 1) (x2 + 1) σ _ h)
set_option maxRecDepth 100000 in
set_option maxHeartbeats 4000000 in
theorem ec_B_countOpen {l : Launch} {G : er_G} (hE : er_Pr G 0 21) (σ : er_S) (r : Int32) (h : ef_B_countOpen  σ = some r) : er_Con l y_B_countOpen w_B_countOpen 0 0 0 0 G [.ref 2] σ ((.inl (some (.int r)), σ)) := by
  refine er_ofJ (ret := some .int) (cc := b_B_countOpen) (maxL := 3) (lv0 := [some (.ref 2), none, none]) (hh := []) (by decide +kernel) rfl (Or.inl rfl) (by intro v hv; simp only [List.mem_cons, List.not_mem_nil, or_false] at hv; rcases hv with rfl <;> rfl) (Nat.le_of_ble_eq_true rfl) ?_
  intro p e s m args below meth c hadm C hr hlk hml hw hnm hm hcd
  have B : er_B p s m c meth b_B_countOpen "EntryRows$Boards" G (some .int) 3 0 21 := ⟨C, hr, hlk, hml, hE, er_noh hw hnm hm hcd⟩
  unfold ef_B_countOpen at h
  refine ej_iconst B.1 (v := 0) d_B_countOpen_0 rfl ?_
  refine ej_istore_n B.1 (lv' := [some (.ref 2), some (.int 0), none]) d_B_countOpen_1 rfl rfl rfl ?_
  refine ej_iconst B.1 (v := 0) d_B_countOpen_2 rfl ?_
  refine ej_istore_n B.1 (lv' := [some (.ref 2), some (.int 0), some (.int 0)]) d_B_countOpen_3 rfl rfl rfl ?_
  exact ej_le (lv' := [some (.ref 2), some (.int 0), some (.int 0)]) ⟨rfl, ⟨rfl, ⟨rfl, trivial⟩⟩⟩ (ew_B_countOpen_4 B 64 0 0 σ _ h)
set_option maxRecDepth 100000 in
set_option maxHeartbeats 4000000 in
theorem ec_E_count {l : Launch} {G : er_G} (hl : l.stackTraces = false) (hE : er_Pr G 0 21) (x1 : Int32) (σ : er_S) (r : (Int32 ⊕ Nat) × er_S) (h : ef_E_count x1 σ = some r) : er_Con l y_E_count w_E_count 6 83 (er_nc r.1) (er_ns r.1) G [.ref 0, .int x1] σ (er_cvi r) := by
  refine er_ofJ (ret := some .int) (cc := b_E_count) (maxL := 2) (lv0 := [some (.ref 0), some (.int x1)]) (hh := []) (by decide +kernel) rfl (Or.inl rfl) (by intro v hv; simp only [List.mem_cons, List.not_mem_nil, or_false] at hv; rcases hv with rfl | rfl <;> rfl) (Nat.le_of_ble_eq_true rfl) ?_
  intro p e s m args below meth c hadm C hr hlk hml hw hnm hm hcd
  have B : er_B p s m c meth b_E_count "EntryRows" G (some .int) 2 0 21 := ⟨C, hr, hlk, hml, hE, er_noh hw hnm hm hcd⟩
  have hl := And.intro hadm hl
  unfold ef_E_count at h
  refine ej_iload_n B.1 d_E_count_0 rfl ?_
  by_cases q1 : x1 = 0
  · replace h := er_it h q1
    refine ej_tin B.1 (off := 31) (tgt := 32) d_E_count_1 q1 (by decide) (by decide) (by decide +kernel) (by decide) ?_
    refine ej_aload_n B.1 d_E_count_32 rfl ?_
    refine ej_geti B.1 (er_at B 0 rfl rfl) rfl rfl fl_E_30 d_E_count_33 ?_
    cases h
    exact ej_iret B.1 B.2.1 B.2.2.1 (Nat.zero_le _) (Nat.zero_le _) d_E_count_36
  replace h := er_if h q1
  by_cases q2 : x1 = 1
  · replace h := er_it h q2
    refine ej_tin B.1 (off := 36) (tgt := 37) d_E_count_1 q2 (by decide) (by decide) (by decide +kernel) (by decide) ?_
    refine ej_aload_n B.1 d_E_count_37 rfl ?_
    refine ej_getr B.1 (er_at B 0 rfl rfl) rfl rfl fl_E_10 d_E_count_38 ?_
    obtain ⟨v3, e4, h⟩ := er_bd_some h
    refine ej_cv_i (nc := 0) (ns := 0) B.1 [] [] (ec_P_countInside (er_pr B) σ v3 e4) cal_P_countInside lk_E_202 in_P_countInside (er_at B 1 rfl rfl) rfl rfl se_P_countInside rfl B.2.2.2.1 d_E_count_41 ⟨Nat.le_of_ble_eq_true rfl, Nat.le_of_ble_eq_true rfl, Nat.zero_le _, Nat.zero_le _⟩ (Nat.le_of_ble_eq_true rfl) rfl ?_
    cases h
    exact ej_iret B.1 B.2.1 B.2.2.1 (Nat.zero_le _) (Nat.zero_le _) d_E_count_44
  replace h := er_if h q2
  by_cases q5 : x1 = 2
  · replace h := er_it h q5
    refine ej_tin B.1 (off := 44) (tgt := 45) d_E_count_1 q5 (by decide) (by decide) (by decide +kernel) (by decide) ?_
    refine ej_aload_n B.1 d_E_count_45 rfl ?_
    refine ej_geti B.1 (er_at B 0 rfl rfl) rfl rfl fl_E_34 d_E_count_46 ?_
    cases h
    exact ej_iret B.1 B.2.1 B.2.2.1 (Nat.zero_le _) (Nat.zero_le _) d_E_count_49
  replace h := er_if h q5
  by_cases q6 : x1 = 3
  · replace h := er_it h q6
    refine ej_tin B.1 (off := 49) (tgt := 50) d_E_count_1 q6 (by decide) (by decide) (by decide +kernel) (by decide) ?_
    refine ej_aload_n B.1 d_E_count_50 rfl ?_
    refine ej_getr B.1 (er_at B 0 rfl rfl) rfl rfl fl_E_19 d_E_count_51 ?_
    obtain ⟨v7, e8, h⟩ := er_bd_some h
    refine ej_cv_i (nc := 0) (ns := 0) B.1 [] [] (ec_B_countOpen (er_pr B) σ v7 e8) cal_B_countOpen lk_E_206 in_B_countOpen (er_at B 2 rfl rfl) rfl rfl se_B_countOpen rfl B.2.2.2.1 d_E_count_54 ⟨Nat.le_of_ble_eq_true rfl, Nat.le_of_ble_eq_true rfl, Nat.zero_le _, Nat.zero_le _⟩ (Nat.le_of_ble_eq_true rfl) rfl ?_
    cases h
    exact ej_iret B.1 B.2.1 B.2.2.1 (Nat.zero_le _) (Nat.zero_le _) d_E_count_57
  replace h := er_if h q6
  refine ej_tout B.1 (tgt := 58) d_E_count_1 (by have z0 := lv_neT (a := 0) q1 (by decide); have z1 := lv_neT (a := 1) q2 (by decide); have z2 := lv_neT (a := 2) q5 (by decide); have z3 := lv_neT (a := 3) q6 (by decide); omega) (by decide) ?_
  cases h
  exact th_E_count_58 B hl
