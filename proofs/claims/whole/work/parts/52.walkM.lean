set_option maxRecDepth 100000 in
set_option maxHeartbeats 4000000 in
theorem ew_M_enter_158 {p : Program} {l : Launch} {e : Env} {s : State} {m : MethodId} {args : Array Value} {below : List Frame} {meth : Method} {c : Code} {G : er_G} (B : er_B p s m c meth b_M_enter "EntryRowsModel" G (some .int) 11 21 39) : ∀ (n : Nat) (x1 x2 x3 x4 x9 x10 : Int32) (σ : er_S) (r : Int32 × er_S), ef_M_enter_158 n x1 x2 x3 x4 x9 x10 σ = some r → er_J p l e { frames := 3, cells := 0, slots := 0, locals := 71 } s m args below meth c G (er_A G s.heap.size) s.heap (er_fin below G s 0 0 (.inl (some (.int r.1)), r.2)) 0 0 σ 158 [some (.ref 21), some (.int x1), some (.int x2), some (.int x3), some (.int x4), none, none, none, none, some (.int x9), some (.int x10)] [] := by
  intro n
  induction n with
  | zero => intro x1 x2 x3 x4 x9 x10 σ r h; cases h
  | succ n ih =>
    intro x1 x2 x3 x4 x9 x10 σ r h
    rw [ef_M_enter_158] at h
    refine ej_iload B.1 d_M_enter_158 rfl ?_
    refine ej_bipush B.1 (v := 40) d_M_enter_160 (by decide +kernel) ?_
    refine ej_icmp_ge B.1 (tgt := 239) d_M_enter_162 (by decide) (fun q13 => ?_) (fun q13 => ?_)
    · replace h := er_it h q13
      refine ej_iload B.1 d_M_enter_239 rfl ?_
      cases h
      exact ej_iret B.1 B.2.1 B.2.2.1 (Nat.zero_le _) (Nat.zero_le _) d_M_enter_241
    · replace h := er_if h q13
      refine ej_aload_n B.1 d_M_enter_165 rfl ?_
      refine ej_getr B.1 (er_at B 21 rfl rfl) rfl rfl fl_M_36 d_M_enter_166 ?_
      refine ej_iload B.1 d_M_enter_169 rfl ?_
      obtain ⟨e14, h⟩ := er_gd_some h
      refine ej_iald B.1 (er_at B 29 rfl rfl) rfl e14 d_M_enter_171 ?_
      refine ej_iload_n B.1 d_M_enter_172 rfl ?_
      refine ej_icmp_ne B.1 (tgt := 233) d_M_enter_173 (by decide) (fun q15 => ?_) (fun q15 => ?_)
      · replace h := er_if h q15
        refine ej_iinc B.1 (v := x10 + 1) (lv' := [some (.ref 21), some (.int x1), some (.int x2), some (.int x3), some (.int x4), none, none, none, none, some (.int x9), some (.int (x10 + 1))]) d_M_enter_233 rfl rfl rfl rfl rfl ?_
        refine ej_goto B.1 (tgt := 158) d_M_enter_236 (by decide) ?_
        exact ej_le (lv' := [some (.ref 21), some (.int x1), some (.int x2), some (.int x3), some (.int x4), none, none, none, none, some (.int x9), some (.int (x10 + 1))]) ⟨rfl, ⟨rfl, ⟨rfl, ⟨rfl, ⟨rfl, ⟨rfl, ⟨rfl, trivial⟩⟩⟩⟩⟩⟩⟩ (ih x1 x2 x3 x4 x9 (x10 + 1) σ _ h)
      · replace h := er_it h q15
        refine ej_aload_n B.1 d_M_enter_176 rfl ?_
        refine ej_getr B.1 (er_at B 21 rfl rfl) rfl rfl fl_M_42 d_M_enter_177 ?_
        refine ej_iload B.1 d_M_enter_180 rfl ?_
        refine ej_iload_n B.1 d_M_enter_182 rfl ?_
        obtain ⟨e16, h⟩ := er_gd_some h
        refine ej_iast B.1 (er_at B 31 rfl rfl) rfl e16 d_M_enter_183 ?_
        refine ej_aload_n B.1 d_M_enter_184 rfl ?_
        refine ej_getr B.1 (er_at B 21 rfl rfl) rfl rfl fl_M_45 d_M_enter_185 ?_
        refine ej_iload B.1 d_M_enter_188 rfl ?_
        refine ej_aload_n B.1 d_M_enter_190 rfl ?_
        refine ej_geti B.1 (er_at B 21 rfl rfl) rfl rfl fl_M_112 d_M_enter_191 ?_
        obtain ⟨e17, h⟩ := er_gd_some h
        refine ej_iast B.1 (er_at B 32 rfl rfl) rfl e17 d_M_enter_194 ?_
        refine ej_aload_n B.1 d_M_enter_195 rfl ?_
        refine ej_getr B.1 (er_at B 21 rfl rfl) rfl rfl fl_M_48 d_M_enter_196 ?_
        refine ej_iload B.1 d_M_enter_199 rfl ?_
        refine ej_iload B.1 d_M_enter_201 rfl ?_
        obtain ⟨e18, h⟩ := er_gd_some h
        refine ej_iast B.1 (er_at B 33 rfl rfl) rfl e18 d_M_enter_203 ?_
        refine ej_aload_n B.1 d_M_enter_204 rfl ?_
        refine ej_getr B.1 (er_at B 21 rfl rfl) rfl rfl fl_M_51 d_M_enter_205 ?_
        refine ej_iload B.1 d_M_enter_208 rfl ?_
        refine ej_iload_n B.1 d_M_enter_210 rfl ?_
        obtain ⟨e19, h⟩ := er_gd_some h
        refine ej_iast B.1 (er_at B 34 rfl rfl) rfl e19 d_M_enter_211 ?_
        refine ej_aload_n B.1 d_M_enter_212 rfl ?_
        refine ej_getr B.1 (er_at B 21 rfl rfl) rfl rfl fl_M_54 d_M_enter_213 ?_
        refine ej_iload B.1 d_M_enter_216 rfl ?_
        refine ej_aload_n B.1 d_M_enter_218 rfl ?_
        refine ej_geti B.1 (er_at B 21 rfl rfl) rfl rfl fl_M_101 d_M_enter_219 ?_
        obtain ⟨e20, h⟩ := er_gd_some h
        refine ej_iast B.1 (er_at B 35 rfl rfl) rfl e20 d_M_enter_222 ?_
        refine ej_aload_n B.1 d_M_enter_223 rfl ?_
        refine ej_dup B.1 d_M_enter_224 rfl ?_
        refine ej_geti B.1 (er_at B 21 rfl rfl) rfl rfl fl_M_112 d_M_enter_225 ?_
        refine ej_iconst B.1 (v := 1) d_M_enter_228 rfl ?_
        refine ej_iadd B.1 d_M_enter_229 ?_
        refine ej_puti B.1 (er_at B 21 rfl rfl) rfl rfl fp_M_112 d_M_enter_230 ?_
        refine ej_iinc B.1 (v := x10 + 1) (lv' := [some (.ref 21), some (.int x1), some (.int x2), some (.int x3), some (.int x4), none, none, none, none, some (.int x9), some (.int (x10 + 1))]) d_M_enter_233 rfl rfl rfl rfl rfl ?_
        refine ej_goto B.1 (tgt := 158) d_M_enter_236 (by decide) ?_
        exact ej_le (lv' := [some (.ref 21), some (.int x1), some (.int x2), some (.int x3), some (.int x4), none, none, none, none, some (.int x9), some (.int (x10 + 1))]) ⟨rfl, ⟨rfl, ⟨rfl, ⟨rfl, ⟨rfl, ⟨rfl, ⟨rfl, trivial⟩⟩⟩⟩⟩⟩⟩ (ih x1 x2 x3 x4 x9 (x10 + 1) (er_up (er_up (er_up (er_up (er_up (er_up σ 31 (er_ix x10) x1) 32 (er_ix x10) ((er_up σ 31 (er_ix x10) x1) 21 3)) 33 (er_ix x10) x4) 34 (er_ix x10) x3) 35 (er_ix x10) ((er_up (er_up (er_up (er_up σ 31 (er_ix x10) x1) 32 (er_ix x10) ((er_up σ 31 (er_ix x10) x1) 21 3)) 33 (er_ix x10) x4) 34 (er_ix x10) x3) 21 1)) 21 3 (((er_up (er_up (er_up (er_up (er_up σ 31 (er_ix x10) x1) 32 (er_ix x10) ((er_up σ 31 (er_ix x10) x1) 21 3)) 33 (er_ix x10) x4) 34 (er_ix x10) x3) 35 (er_ix x10) ((er_up (er_up (er_up (er_up σ 31 (er_ix x10) x1) 32 (er_ix x10) ((er_up σ 31 (er_ix x10) x1) 21 3)) 33 (er_ix x10) x4) 34 (er_ix x10) x3) 21 1)) 21 3) + 1)) _ h)
set_option maxRecDepth 100000 in
set_option maxHeartbeats 4000000 in
theorem ew_M_enter_132 {p : Program} {l : Launch} {e : Env} {s : State} {m : MethodId} {args : Array Value} {below : List Frame} {meth : Method} {c : Code} {G : er_G} (B : er_B p s m c meth b_M_enter "EntryRowsModel" G (some .int) 11 21 39) (x1 x2 x3 x4 x6 x7 t0 : Int32) (σ : er_S) (r : Int32 × er_S) (h : ef_M_enter_132 x1 x2 x3 x4 x6 x7 t0 σ = some r) : er_J p l e { frames := 3, cells := 0, slots := 0, locals := 71 } s m args below meth c G (er_A G s.heap.size) s.heap (er_fin below G s 0 0 (.inl (some (.int r.1)), r.2)) 0 0 σ 132 [some (.ref 21), some (.int x1), some (.int x2), some (.int x3), some (.int x4), none, some (.int x6), some (.int x7), none, none, none] [.int t0] := by
  unfold ef_M_enter_132 at h
  refine ej_istore B.1 (lv' := [some (.ref 21), some (.int x1), some (.int x2), some (.int x3), some (.int x4), none, some (.int x6), some (.int x7), some (.int t0), none, none]) d_M_enter_132 rfl rfl rfl ?_
  refine ej_aload_n B.1 d_M_enter_134 rfl ?_
  refine ej_iload B.1 d_M_enter_135 rfl ?_
  refine ej_iload B.1 d_M_enter_137 rfl ?_
  refine ej_iload B.1 d_M_enter_139 rfl ?_
  obtain ⟨v9, g11, e10, h⟩ := er_bw_some h
  refine ej_cv_i (nc := 0) (ns := 0) B.1 [.int x6, .int x7, .int t0] [] (ec_M_throwing (er_pr B) x6 x7 t0 σ (v9, g11) e10) cal_M_throwing lk_M_84 in_M_throwing (er_at B 21 rfl rfl) rfl rfl se_M_throwing rfl B.2.2.2.1 d_M_enter_141 ⟨Nat.le_of_ble_eq_true rfl, Nat.le_of_ble_eq_true rfl, Nat.zero_le _, Nat.zero_le _⟩ (Nat.le_of_ble_eq_true rfl) rfl ?_
  refine ej_if_eq B.1 (tgt := 149) d_M_enter_144 (by decide) (fun q12 => ?_) (fun q12 => ?_)
  · replace h := er_it h q12
    refine ej_aload_n B.1 d_M_enter_149 rfl ?_
    refine ej_geti B.1 (er_at B 21 rfl rfl) rfl rfl fl_M_112 d_M_enter_150 ?_
    refine ej_istore B.1 (lv' := [some (.ref 21), some (.int x1), some (.int x2), some (.int x3), some (.int x4), none, some (.int x6), some (.int x7), some (.int t0), some (.int (g11 21 3)), none]) d_M_enter_153 rfl rfl rfl ?_
    refine ej_iconst B.1 (v := 0) d_M_enter_155 rfl ?_
    refine ej_istore B.1 (lv' := [some (.ref 21), some (.int x1), some (.int x2), some (.int x3), some (.int x4), none, some (.int x6), some (.int x7), some (.int t0), some (.int (g11 21 3)), some (.int 0)]) d_M_enter_156 rfl rfl rfl ?_
    exact ej_le (lv' := [some (.ref 21), some (.int x1), some (.int x2), some (.int x3), some (.int x4), none, none, none, none, some (.int (g11 21 3)), some (.int 0)]) ⟨rfl, ⟨rfl, ⟨rfl, ⟨rfl, ⟨rfl, ⟨rfl, ⟨rfl, trivial⟩⟩⟩⟩⟩⟩⟩ (ew_M_enter_158 B 64 x1 x2 x3 x4 (g11 21 3) 0 g11 _ h)
  · replace h := er_if h q12
    refine ej_iconst B.1 (v := 0) d_M_enter_147 rfl ?_
    cases h
    exact ej_iret B.1 B.2.1 B.2.2.1 (Nat.zero_le _) (Nat.zero_le _) d_M_enter_148
set_option maxRecDepth 100000 in
set_option maxHeartbeats 4000000 in
theorem ew_M_enter_127 {p : Program} {l : Launch} {e : Env} {s : State} {m : MethodId} {args : Array Value} {below : List Frame} {meth : Method} {c : Code} {G : er_G} (B : er_B p s m c meth b_M_enter "EntryRowsModel" G (some .int) 11 21 39) (x1 x2 x3 x4 x6 x7 : Int32) (σ : er_S) (r : Int32 × er_S) (h : ef_M_enter_127 x1 x2 x3 x4 x6 x7 σ = some r) : er_J p l e { frames := 3, cells := 0, slots := 0, locals := 71 } s m args below meth c G (er_A G s.heap.size) s.heap (er_fin below G s 0 0 (.inl (some (.int r.1)), r.2)) 0 0 σ 127 [some (.ref 21), some (.int x1), some (.int x2), some (.int x3), some (.int x4), none, some (.int x6), some (.int x7), none, none, none] [] := by
  unfold ef_M_enter_127 at h
  refine ej_iconst B.1 (v := 1) d_M_enter_127 rfl ?_
  refine ej_goto B.1 (tgt := 132) d_M_enter_128 (by decide) ?_
  exact ej_le (lv' := [some (.ref 21), some (.int x1), some (.int x2), some (.int x3), some (.int x4), none, some (.int x6), some (.int x7), none, none, none]) ⟨rfl, ⟨rfl, ⟨rfl, ⟨rfl, ⟨rfl, ⟨rfl, ⟨rfl, trivial⟩⟩⟩⟩⟩⟩⟩ (ew_M_enter_132 B x1 x2 x3 x4 x6 x7 1 σ _ h)
set_option maxRecDepth 100000 in
set_option maxHeartbeats 4000000 in
theorem ew_M_enter_131 {p : Program} {l : Launch} {e : Env} {s : State} {m : MethodId} {args : Array Value} {below : List Frame} {meth : Method} {c : Code} {G : er_G} (B : er_B p s m c meth b_M_enter "EntryRowsModel" G (some .int) 11 21 39) (x1 x2 x3 x4 x6 x7 : Int32) (σ : er_S) (r : Int32 × er_S) (h : ef_M_enter_131 x1 x2 x3 x4 x6 x7 σ = some r) : er_J p l e { frames := 3, cells := 0, slots := 0, locals := 71 } s m args below meth c G (er_A G s.heap.size) s.heap (er_fin below G s 0 0 (.inl (some (.int r.1)), r.2)) 0 0 σ 131 [some (.ref 21), some (.int x1), some (.int x2), some (.int x3), some (.int x4), none, some (.int x6), some (.int x7), none, none, none] [] := by
  unfold ef_M_enter_131 at h
  refine ej_iconst B.1 (v := 0) d_M_enter_131 rfl ?_
  exact ej_le (lv' := [some (.ref 21), some (.int x1), some (.int x2), some (.int x3), some (.int x4), none, some (.int x6), some (.int x7), none, none, none]) ⟨rfl, ⟨rfl, ⟨rfl, ⟨rfl, ⟨rfl, ⟨rfl, ⟨rfl, trivial⟩⟩⟩⟩⟩⟩⟩ (ew_M_enter_132 B x1 x2 x3 x4 x6 x7 0 σ _ h)
set_option maxRecDepth 100000 in
set_option maxHeartbeats 4000000 in
theorem ew_M_enter_86 {p : Program} {l : Launch} {e : Env} {s : State} {m : MethodId} {args : Array Value} {below : List Frame} {meth : Method} {c : Code} {G : er_G} (B : er_B p s m c meth b_M_enter "EntryRowsModel" G (some .int) 11 21 39) (x1 x2 x3 x4 x5 x6 x7 t0 : Int32) (σ : er_S) (r : Int32 × er_S) (h : ef_M_enter_86 x1 x2 x3 x4 x5 x6 x7 t0 σ = some r) : er_J p l e { frames := 3, cells := 0, slots := 0, locals := 71 } s m args below meth c G (er_A G s.heap.size) s.heap (er_fin below G s 0 0 (.inl (some (.int r.1)), r.2)) 0 0 σ 86 [some (.ref 21), some (.int x1), some (.int x2), some (.int x3), some (.int x4), some (.int x5), some (.int x6), some (.int x7), none, none, none] [.int t0] := by
  unfold ef_M_enter_86 at h
  refine ej_istore B.1 (lv' := [some (.ref 21), some (.int x1), some (.int x2), some (.int x3), some (.int x4), some (.int x5), some (.int x6), some (.int x7), some (.int t0), none, none]) d_M_enter_86 rfl rfl rfl ?_
  refine ej_iload B.1 d_M_enter_88 rfl ?_
  refine ej_if_ne B.1 (tgt := 127) d_M_enter_90 (by decide) (fun q8 => ?_) (fun q8 => ?_)
  · replace h := er_if h q8
    exact ej_le (lv' := [some (.ref 21), some (.int x1), some (.int x2), some (.int x3), some (.int x4), none, some (.int x6), some (.int x7), none, none, none]) ⟨rfl, ⟨rfl, ⟨rfl, ⟨rfl, ⟨rfl, ⟨rfl, ⟨rfl, trivial⟩⟩⟩⟩⟩⟩⟩ (ew_M_enter_127 B x1 x2 x3 x4 x6 x7 σ _ h)
  · replace h := er_it h q8
    refine ej_aload_n B.1 d_M_enter_93 rfl ?_
    refine ej_iload_n B.1 d_M_enter_94 rfl ?_
    refine ej_iload_n B.1 d_M_enter_95 rfl ?_
    obtain ⟨v21, e22, h⟩ := er_bd_some h
    refine ej_cv_i (nc := 0) (ns := 0) B.1 [.int x1, .int x2] [] (ec_M_safe (er_pr B) x1 x2 σ v21 e22) cal_M_safe lk_M_108 in_M_safe (er_at B 21 rfl rfl) rfl rfl se_M_safe rfl B.2.2.2.1 d_M_enter_96 ⟨Nat.le_of_ble_eq_true rfl, Nat.le_of_ble_eq_true rfl, Nat.zero_le _, Nat.zero_le _⟩ (Nat.le_of_ble_eq_true rfl) rfl ?_
    refine ej_aload_n B.1 d_M_enter_99 rfl ?_
    refine ej_getr B.1 (er_at B 21 rfl rfl) rfl rfl fl_M_27 d_M_enter_100 ?_
    refine ej_iload_n B.1 d_M_enter_103 rfl ?_
    obtain ⟨e23, h⟩ := er_gd_some h
    refine ej_iald B.1 (er_at B 26 rfl rfl) rfl e23 d_M_enter_104 ?_
    refine ej_icmp_ge B.1 (tgt := 131) d_M_enter_105 (by decide) (fun q24 => ?_) (fun q24 => ?_)
    · replace h := er_it h q24
      exact ej_le (lv' := [some (.ref 21), some (.int x1), some (.int x2), some (.int x3), some (.int x4), none, some (.int x6), some (.int x7), none, none, none]) ⟨rfl, ⟨rfl, ⟨rfl, ⟨rfl, ⟨rfl, ⟨rfl, ⟨rfl, trivial⟩⟩⟩⟩⟩⟩⟩ (ew_M_enter_131 B x1 x2 x3 x4 x6 x7 σ _ h)
    · replace h := er_if h q24
      refine ej_iload B.1 d_M_enter_108 rfl ?_
      refine ej_if_eq B.1 (tgt := 127) d_M_enter_110 (by decide) (fun q25 => ?_) (fun q25 => ?_)
      · replace h := er_it h q25
        exact ej_le (lv' := [some (.ref 21), some (.int x1), some (.int x2), some (.int x3), some (.int x4), none, some (.int x6), some (.int x7), none, none, none]) ⟨rfl, ⟨rfl, ⟨rfl, ⟨rfl, ⟨rfl, ⟨rfl, ⟨rfl, trivial⟩⟩⟩⟩⟩⟩⟩ (ew_M_enter_127 B x1 x2 x3 x4 x6 x7 σ _ h)
      · replace h := er_if h q25
        refine ej_aload_n B.1 d_M_enter_113 rfl ?_
        refine ej_getr B.1 (er_at B 21 rfl rfl) rfl rfl fl_M_39 d_M_enter_114 ?_
        refine ej_aload_n B.1 d_M_enter_117 rfl ?_
        refine ej_getr B.1 (er_at B 21 rfl rfl) rfl rfl fl_M_30 d_M_enter_118 ?_
        refine ej_iload_n B.1 d_M_enter_121 rfl ?_
        obtain ⟨e26, h⟩ := er_gd_some h
        refine ej_iald B.1 (er_at B 27 rfl rfl) rfl e26 d_M_enter_122 ?_
        obtain ⟨e27, h⟩ := er_gd_some h
        refine ej_zald B.1 (er_at B 30 rfl rfl) rfl e27 d_M_enter_123 ?_
        refine ej_if_ne B.1 (tgt := 131) d_M_enter_124 (by decide) (fun q28 => ?_) (fun q28 => ?_)
        · replace h := er_if h q28
          exact ej_le (lv' := [some (.ref 21), some (.int x1), some (.int x2), some (.int x3), some (.int x4), none, some (.int x6), some (.int x7), none, none, none]) ⟨rfl, ⟨rfl, ⟨rfl, ⟨rfl, ⟨rfl, ⟨rfl, ⟨rfl, trivial⟩⟩⟩⟩⟩⟩⟩ (ew_M_enter_131 B x1 x2 x3 x4 x6 x7 σ _ h)
        · replace h := er_it h q28
          exact ej_le (lv' := [some (.ref 21), some (.int x1), some (.int x2), some (.int x3), some (.int x4), none, some (.int x6), some (.int x7), none, none, none]) ⟨rfl, ⟨rfl, ⟨rfl, ⟨rfl, ⟨rfl, ⟨rfl, ⟨rfl, trivial⟩⟩⟩⟩⟩⟩⟩ (ew_M_enter_127 B x1 x2 x3 x4 x6 x7 σ _ h)
set_option maxRecDepth 100000 in
set_option maxHeartbeats 4000000 in
theorem ew_M_enter_81 {p : Program} {l : Launch} {e : Env} {s : State} {m : MethodId} {args : Array Value} {below : List Frame} {meth : Method} {c : Code} {G : er_G} (B : er_B p s m c meth b_M_enter "EntryRowsModel" G (some .int) 11 21 39) (x1 x2 x3 x4 x5 x6 x7 : Int32) (σ : er_S) (r : Int32 × er_S) (h : ef_M_enter_81 x1 x2 x3 x4 x5 x6 x7 σ = some r) : er_J p l e { frames := 3, cells := 0, slots := 0, locals := 71 } s m args below meth c G (er_A G s.heap.size) s.heap (er_fin below G s 0 0 (.inl (some (.int r.1)), r.2)) 0 0 σ 81 [some (.ref 21), some (.int x1), some (.int x2), some (.int x3), some (.int x4), some (.int x5), some (.int x6), some (.int x7), none, none, none] [] := by
  unfold ef_M_enter_81 at h
  refine ej_iconst B.1 (v := 1) d_M_enter_81 rfl ?_
  refine ej_goto B.1 (tgt := 86) d_M_enter_82 (by decide) ?_
  exact ej_le (lv' := [some (.ref 21), some (.int x1), some (.int x2), some (.int x3), some (.int x4), some (.int x5), some (.int x6), some (.int x7), none, none, none]) ⟨rfl, ⟨rfl, ⟨rfl, ⟨rfl, ⟨rfl, ⟨rfl, ⟨rfl, ⟨rfl, trivial⟩⟩⟩⟩⟩⟩⟩⟩ (ew_M_enter_86 B x1 x2 x3 x4 x5 x6 x7 1 σ _ h)
set_option maxRecDepth 100000 in
set_option maxHeartbeats 4000000 in
theorem ew_M_enter_47 {p : Program} {l : Launch} {e : Env} {s : State} {m : MethodId} {args : Array Value} {below : List Frame} {meth : Method} {c : Code} {G : er_G} (B : er_B p s m c meth b_M_enter "EntryRowsModel" G (some .int) 11 21 39) (x1 x2 x3 x4 x5 x6 t0 : Int32) (σ : er_S) (r : Int32 × er_S) (h : ef_M_enter_47 x1 x2 x3 x4 x5 x6 t0 σ = some r) : er_J p l e { frames := 3, cells := 0, slots := 0, locals := 71 } s m args below meth c G (er_A G s.heap.size) s.heap (er_fin below G s 0 0 (.inl (some (.int r.1)), r.2)) 0 0 σ 47 [some (.ref 21), some (.int x1), some (.int x2), some (.int x3), some (.int x4), some (.int x5), some (.int x6), none, none, none, none] [.int t0] := by
  unfold ef_M_enter_47 at h
  refine ej_istore B.1 (lv' := [some (.ref 21), some (.int x1), some (.int x2), some (.int x3), some (.int x4), some (.int x5), some (.int x6), some (.int t0), none, none, none]) d_M_enter_47 rfl rfl rfl ?_
  refine ej_iload B.1 d_M_enter_49 rfl ?_
  refine ej_if_ne B.1 (tgt := 81) d_M_enter_51 (by decide) (fun q7 => ?_) (fun q7 => ?_)
  · replace h := er_if h q7
    exact ej_le (lv' := [some (.ref 21), some (.int x1), some (.int x2), some (.int x3), some (.int x4), some (.int x5), some (.int x6), some (.int t0), none, none, none]) ⟨rfl, ⟨rfl, ⟨rfl, ⟨rfl, ⟨rfl, ⟨rfl, ⟨rfl, ⟨rfl, trivial⟩⟩⟩⟩⟩⟩⟩⟩ (ew_M_enter_81 B x1 x2 x3 x4 x5 x6 t0 σ _ h)
  · replace h := er_it h q7
    refine ej_aload_n B.1 d_M_enter_54 rfl ?_
    refine ej_getr B.1 (er_at B 21 rfl rfl) rfl rfl fl_M_17 d_M_enter_55 ?_
    refine ej_iload_n B.1 d_M_enter_58 rfl ?_
    obtain ⟨e29, h⟩ := er_gd_some h
    refine ej_zald B.1 (er_at B 23 rfl rfl) rfl e29 d_M_enter_59 ?_
    refine ej_if_eq B.1 (tgt := 81) d_M_enter_60 (by decide) (fun q30 => ?_) (fun q30 => ?_)
    · replace h := er_it h q30
      exact ej_le (lv' := [some (.ref 21), some (.int x1), some (.int x2), some (.int x3), some (.int x4), some (.int x5), some (.int x6), some (.int t0), none, none, none]) ⟨rfl, ⟨rfl, ⟨rfl, ⟨rfl, ⟨rfl, ⟨rfl, ⟨rfl, ⟨rfl, trivial⟩⟩⟩⟩⟩⟩⟩⟩ (ew_M_enter_81 B x1 x2 x3 x4 x5 x6 t0 σ _ h)
    · replace h := er_if h q30
      refine ej_aload_n B.1 d_M_enter_63 rfl ?_
      refine ej_getr B.1 (er_at B 21 rfl rfl) rfl rfl fl_M_30 d_M_enter_64 ?_
      refine ej_iload_n B.1 d_M_enter_67 rfl ?_
      obtain ⟨e31, h⟩ := er_gd_some h
      refine ej_iald B.1 (er_at B 27 rfl rfl) rfl e31 d_M_enter_68 ?_
      refine ej_if_lt B.1 (tgt := 81) d_M_enter_69 (by decide) (fun q32 => ?_) (fun q32 => ?_)
      · replace h := er_it h q32
        exact ej_le (lv' := [some (.ref 21), some (.int x1), some (.int x2), some (.int x3), some (.int x4), some (.int x5), some (.int x6), some (.int t0), none, none, none]) ⟨rfl, ⟨rfl, ⟨rfl, ⟨rfl, ⟨rfl, ⟨rfl, ⟨rfl, ⟨rfl, trivial⟩⟩⟩⟩⟩⟩⟩⟩ (ew_M_enter_81 B x1 x2 x3 x4 x5 x6 t0 σ _ h)
      · replace h := er_if h q32
        refine ej_aload_n B.1 d_M_enter_72 rfl ?_
        refine ej_iload_n B.1 d_M_enter_73 rfl ?_
        refine ej_iload_n B.1 d_M_enter_74 rfl ?_
        obtain ⟨v33, e34, h⟩ := er_bd_some h
        refine ej_cv_i (nc := 0) (ns := 0) B.1 [.int x2, .int x1] [] (ec_M_isReady (er_pr B) x2 x1 σ v33 e34) cal_M_isReady lk_M_104 in_M_isReady (er_at B 21 rfl rfl) rfl rfl se_M_isReady rfl B.2.2.2.1 d_M_enter_75 ⟨Nat.le_of_ble_eq_true rfl, Nat.le_of_ble_eq_true rfl, Nat.zero_le _, Nat.zero_le _⟩ (Nat.le_of_ble_eq_true rfl) rfl ?_
        refine ej_if_ne B.1 (tgt := 85) d_M_enter_78 (by decide) (fun q35 => ?_) (fun q35 => ?_)
        · replace h := er_if h q35
          refine ej_iconst B.1 (v := 0) d_M_enter_85 rfl ?_
          exact ej_le (lv' := [some (.ref 21), some (.int x1), some (.int x2), some (.int x3), some (.int x4), some (.int x5), some (.int x6), some (.int t0), none, none, none]) ⟨rfl, ⟨rfl, ⟨rfl, ⟨rfl, ⟨rfl, ⟨rfl, ⟨rfl, ⟨rfl, trivial⟩⟩⟩⟩⟩⟩⟩⟩ (ew_M_enter_86 B x1 x2 x3 x4 x5 x6 t0 0 σ _ h)
        · replace h := er_it h q35
          exact ej_le (lv' := [some (.ref 21), some (.int x1), some (.int x2), some (.int x3), some (.int x4), some (.int x5), some (.int x6), some (.int t0), none, none, none]) ⟨rfl, ⟨rfl, ⟨rfl, ⟨rfl, ⟨rfl, ⟨rfl, ⟨rfl, ⟨rfl, trivial⟩⟩⟩⟩⟩⟩⟩⟩ (ew_M_enter_81 B x1 x2 x3 x4 x5 x6 t0 σ _ h)
set_option maxRecDepth 100000 in
set_option maxHeartbeats 4000000 in
theorem ew_M_enter_42 {p : Program} {l : Launch} {e : Env} {s : State} {m : MethodId} {args : Array Value} {below : List Frame} {meth : Method} {c : Code} {G : er_G} (B : er_B p s m c meth b_M_enter "EntryRowsModel" G (some .int) 11 21 39) (x1 x2 x3 x4 x5 x6 : Int32) (σ : er_S) (r : Int32 × er_S) (h : ef_M_enter_42 x1 x2 x3 x4 x5 x6 σ = some r) : er_J p l e { frames := 3, cells := 0, slots := 0, locals := 71 } s m args below meth c G (er_A G s.heap.size) s.heap (er_fin below G s 0 0 (.inl (some (.int r.1)), r.2)) 0 0 σ 42 [some (.ref 21), some (.int x1), some (.int x2), some (.int x3), some (.int x4), some (.int x5), some (.int x6), none, none, none, none] [] := by
  unfold ef_M_enter_42 at h
  refine ej_iconst B.1 (v := 1) d_M_enter_42 rfl ?_
  refine ej_goto B.1 (tgt := 47) d_M_enter_43 (by decide) ?_
  exact ej_le (lv' := [some (.ref 21), some (.int x1), some (.int x2), some (.int x3), some (.int x4), some (.int x5), some (.int x6), none, none, none, none]) ⟨rfl, ⟨rfl, ⟨rfl, ⟨rfl, ⟨rfl, ⟨rfl, ⟨rfl, trivial⟩⟩⟩⟩⟩⟩⟩ (ew_M_enter_47 B x1 x2 x3 x4 x5 x6 1 σ _ h)
set_option maxRecDepth 100000 in
set_option maxHeartbeats 4000000 in
theorem ew_M_enter_20 {p : Program} {l : Launch} {e : Env} {s : State} {m : MethodId} {args : Array Value} {below : List Frame} {meth : Method} {c : Code} {G : er_G} (B : er_B p s m c meth b_M_enter "EntryRowsModel" G (some .int) 11 21 39) (x1 x2 x3 x4 x5 t0 : Int32) (σ : er_S) (r : Int32 × er_S) (h : ef_M_enter_20 x1 x2 x3 x4 x5 t0 σ = some r) : er_J p l e { frames := 3, cells := 0, slots := 0, locals := 71 } s m args below meth c G (er_A G s.heap.size) s.heap (er_fin below G s 0 0 (.inl (some (.int r.1)), r.2)) 0 0 σ 20 [some (.ref 21), some (.int x1), some (.int x2), some (.int x3), some (.int x4), some (.int x5), none, none, none, none, none] [.int t0] := by
  unfold ef_M_enter_20 at h
  refine ej_istore B.1 (lv' := [some (.ref 21), some (.int x1), some (.int x2), some (.int x3), some (.int x4), some (.int x5), some (.int t0), none, none, none, none]) d_M_enter_20 rfl rfl rfl ?_
  refine ej_iload_n B.1 d_M_enter_22 rfl ?_
  refine ej_iconst B.1 (v := 0) d_M_enter_23 rfl ?_
  refine ej_bipush B.1 (v := 9) d_M_enter_24 (by decide +kernel) ?_
  obtain ⟨v4, e5, h⟩ := er_bd_some h
  refine ej_cs_i (nc := 0) (ns := 0) B.1 [.int x3, .int 0, .int 9] [] (ec_M_in (er_pr B) x3 0 9 σ v4 e5) cal_M_in lk_M_73 st_M_in rfl B.2.2.2.1 d_M_enter_26 ⟨Nat.le_of_ble_eq_true rfl, Nat.le_of_ble_eq_true rfl, Nat.zero_le _, Nat.zero_le _⟩ (Nat.le_of_ble_eq_true rfl) rfl ?_
  refine ej_if_eq B.1 (tgt := 42) d_M_enter_29 (by decide) (fun q6 => ?_) (fun q6 => ?_)
  · replace h := er_it h q6
    exact ej_le (lv' := [some (.ref 21), some (.int x1), some (.int x2), some (.int x3), some (.int x4), some (.int x5), some (.int t0), none, none, none, none]) ⟨rfl, ⟨rfl, ⟨rfl, ⟨rfl, ⟨rfl, ⟨rfl, ⟨rfl, trivial⟩⟩⟩⟩⟩⟩⟩ (ew_M_enter_42 B x1 x2 x3 x4 x5 t0 σ _ h)
  · replace h := er_if h q6
    refine ej_iload B.1 d_M_enter_32 rfl ?_
    refine ej_iconst B.1 (v := 0) d_M_enter_34 rfl ?_
    refine ej_iconst B.1 (v := 5) d_M_enter_35 rfl ?_
    obtain ⟨v36, e37, h⟩ := er_bd_some h
    refine ej_cs_i (nc := 0) (ns := 0) B.1 [.int x4, .int 0, .int 5] [] (ec_M_in (er_pr B) x4 0 5 σ v36 e37) cal_M_in lk_M_73 st_M_in rfl B.2.2.2.1 d_M_enter_36 ⟨Nat.le_of_ble_eq_true rfl, Nat.le_of_ble_eq_true rfl, Nat.zero_le _, Nat.zero_le _⟩ (Nat.le_of_ble_eq_true rfl) rfl ?_
    refine ej_if_ne B.1 (tgt := 46) d_M_enter_39 (by decide) (fun q38 => ?_) (fun q38 => ?_)
    · replace h := er_if h q38
      refine ej_iconst B.1 (v := 0) d_M_enter_46 rfl ?_
      exact ej_le (lv' := [some (.ref 21), some (.int x1), some (.int x2), some (.int x3), some (.int x4), some (.int x5), some (.int t0), none, none, none, none]) ⟨rfl, ⟨rfl, ⟨rfl, ⟨rfl, ⟨rfl, ⟨rfl, ⟨rfl, trivial⟩⟩⟩⟩⟩⟩⟩ (ew_M_enter_47 B x1 x2 x3 x4 x5 t0 0 σ _ h)
    · replace h := er_it h q38
      exact ej_le (lv' := [some (.ref 21), some (.int x1), some (.int x2), some (.int x3), some (.int x4), some (.int x5), some (.int t0), none, none, none, none]) ⟨rfl, ⟨rfl, ⟨rfl, ⟨rfl, ⟨rfl, ⟨rfl, ⟨rfl, trivial⟩⟩⟩⟩⟩⟩⟩ (ew_M_enter_42 B x1 x2 x3 x4 x5 t0 σ _ h)
set_option maxRecDepth 100000 in
set_option maxHeartbeats 4000000 in
theorem ew_M_enter_15 {p : Program} {l : Launch} {e : Env} {s : State} {m : MethodId} {args : Array Value} {below : List Frame} {meth : Method} {c : Code} {G : er_G} (B : er_B p s m c meth b_M_enter "EntryRowsModel" G (some .int) 11 21 39) (x1 x2 x3 x4 x5 : Int32) (σ : er_S) (r : Int32 × er_S) (h : ef_M_enter_15 x1 x2 x3 x4 x5 σ = some r) : er_J p l e { frames := 3, cells := 0, slots := 0, locals := 71 } s m args below meth c G (er_A G s.heap.size) s.heap (er_fin below G s 0 0 (.inl (some (.int r.1)), r.2)) 0 0 σ 15 [some (.ref 21), some (.int x1), some (.int x2), some (.int x3), some (.int x4), some (.int x5), none, none, none, none, none] [] := by
  unfold ef_M_enter_15 at h
  refine ej_iconst B.1 (v := 1) d_M_enter_15 rfl ?_
  refine ej_goto B.1 (tgt := 20) d_M_enter_16 (by decide) ?_
  exact ej_le (lv' := [some (.ref 21), some (.int x1), some (.int x2), some (.int x3), some (.int x4), some (.int x5), none, none, none, none, none]) ⟨rfl, ⟨rfl, ⟨rfl, ⟨rfl, ⟨rfl, ⟨rfl, trivial⟩⟩⟩⟩⟩⟩ (ew_M_enter_20 B x1 x2 x3 x4 x5 1 σ _ h)
set_option maxRecDepth 100000 in
set_option maxHeartbeats 4000000 in
theorem ec_M_enter {l : Launch} {G : er_G} (hE : er_Pr G 21 39) (x1 x2 x3 x4 x5 : Int32) (σ : er_S) (r : Int32 × er_S) (h : ef_M_enter x1 x2 x3 x4 x5 σ = some r) : er_Con l y_M_enter w_M_enter 3 71 0 0 G [.ref 21, .int x1, .int x2, .int x3, .int x4, .int x5] σ ((.inl (some (.int r.1)), r.2)) := by
  refine er_ofJ (ret := some .int) (cc := b_M_enter) (maxL := 11) (lv0 := [some (.ref 21), some (.int x1), some (.int x2), some (.int x3), some (.int x4), some (.int x5), none, none, none, none, none]) (hh := []) (by decide +kernel) rfl (Or.inl rfl) (by intro v hv; simp only [List.mem_cons, List.not_mem_nil, or_false] at hv; rcases hv with rfl | rfl | rfl | rfl | rfl | rfl <;> rfl) (Nat.le_of_ble_eq_true rfl) ?_
  intro p e s m args below meth c hadm C hr hlk hml hw hnm hm hcd
  have B : er_B p s m c meth b_M_enter "EntryRowsModel" G (some .int) 11 21 39 := ⟨C, hr, hlk, hml, hE, er_noh hw hnm hm hcd⟩
  unfold ef_M_enter at h
  refine ej_aload_n B.1 d_M_enter_0 rfl ?_
  refine ej_iload_n B.1 d_M_enter_1 rfl ?_
  obtain ⟨v1, e2, h⟩ := er_bd_some h
  refine ej_cv_i (nc := 0) (ns := 0) B.1 [.int x1] [] (ec_M_isBoard (er_pr B) x1 σ v1 e2) cal_M_isBoard lk_M_80 in_M_isBoard (er_at B 21 rfl rfl) rfl rfl se_M_isBoard rfl B.2.2.2.1 d_M_enter_2 ⟨Nat.le_of_ble_eq_true rfl, Nat.le_of_ble_eq_true rfl, Nat.zero_le _, Nat.zero_le _⟩ (Nat.le_of_ble_eq_true rfl) rfl ?_
  refine ej_if_eq B.1 (tgt := 15) d_M_enter_5 (by decide) (fun q3 => ?_) (fun q3 => ?_)
  · replace h := er_it h q3
    exact ej_le (lv' := [some (.ref 21), some (.int x1), some (.int x2), some (.int x3), some (.int x4), some (.int x5), none, none, none, none, none]) ⟨rfl, ⟨rfl, ⟨rfl, ⟨rfl, ⟨rfl, ⟨rfl, trivial⟩⟩⟩⟩⟩⟩ (ew_M_enter_15 B x1 x2 x3 x4 x5 σ _ h)
  · replace h := er_if h q3
    refine ej_iload_n B.1 d_M_enter_8 rfl ?_
    obtain ⟨v39, e40, h⟩ := er_bd_some h
    refine ej_cs_i (nc := 0) (ns := 0) B.1 [.int x2] [] (ec_M_isTeam (er_pr B) x2 σ v39 e40) cal_M_isTeam lk_M_95 st_M_isTeam rfl B.2.2.2.1 d_M_enter_9 ⟨Nat.le_of_ble_eq_true rfl, Nat.le_of_ble_eq_true rfl, Nat.zero_le _, Nat.zero_le _⟩ (Nat.le_of_ble_eq_true rfl) rfl ?_
    refine ej_if_ne B.1 (tgt := 19) d_M_enter_12 (by decide) (fun q41 => ?_) (fun q41 => ?_)
    · replace h := er_if h q41
      refine ej_iconst B.1 (v := 0) d_M_enter_19 rfl ?_
      exact ej_le (lv' := [some (.ref 21), some (.int x1), some (.int x2), some (.int x3), some (.int x4), some (.int x5), none, none, none, none, none]) ⟨rfl, ⟨rfl, ⟨rfl, ⟨rfl, ⟨rfl, ⟨rfl, trivial⟩⟩⟩⟩⟩⟩ (ew_M_enter_20 B x1 x2 x3 x4 x5 0 σ _ h)
    · replace h := er_it h q41
      exact ej_le (lv' := [some (.ref 21), some (.int x1), some (.int x2), some (.int x3), some (.int x4), some (.int x5), none, none, none, none, none]) ⟨rfl, ⟨rfl, ⟨rfl, ⟨rfl, ⟨rfl, ⟨rfl, trivial⟩⟩⟩⟩⟩⟩ (ew_M_enter_15 B x1 x2 x3 x4 x5 σ _ h)
set_option maxRecDepth 100000 in
set_option maxHeartbeats 4000000 in
theorem ew_M_out_42 {p : Program} {l : Launch} {e : Env} {s : State} {m : MethodId} {args : Array Value} {below : List Frame} {meth : Method} {c : Code} {G : er_G} (B : er_B p s m c meth b_M_out "EntryRowsModel" G (some .int) 5 21 39) (x2 t1 t2 : Int32) (σ : er_S) (r : Int32 × er_S) (h : ef_M_out_42 x2 t1 t2 σ = some r) : er_J p l e { frames := 2, cells := 0, slots := 0, locals := 43 } s m args below meth c G (er_A G s.heap.size) s.heap (er_fin below G s 0 0 (.inl (some (.int r.1)), r.2)) 0 0 σ 42 [some (.ref 21), none, some (.int x2), none, none] [.int t2, .int t1, .ref 21] := by
  unfold ef_M_out_42 at h
  refine ej_iconst B.1 (v := 0) d_M_out_42 rfl ?_
  obtain ⟨v5, g7, e6, h⟩ := er_bw_some h
  refine ej_cv_i (nc := 0) (ns := 0) B.1 [.int t1, .int t2, .int 0] [] (ec_M_throwing (er_pr B) t1 t2 0 σ (v5, g7) e6) cal_M_throwing lk_M_84 in_M_throwing (er_at B 21 rfl rfl) rfl rfl se_M_throwing rfl B.2.2.2.1 d_M_out_43 ⟨Nat.le_of_ble_eq_true rfl, Nat.le_of_ble_eq_true rfl, Nat.zero_le _, Nat.zero_le _⟩ (Nat.le_of_ble_eq_true rfl) rfl ?_
  refine ej_if_eq B.1 (tgt := 51) d_M_out_46 (by decide) (fun q8 => ?_) (fun q8 => ?_)
  · replace h := er_it h q8
    refine ej_aload_n B.1 d_M_out_51 rfl ?_
    refine ej_geti B.1 (er_at B 21 rfl rfl) rfl rfl fl_M_101 d_M_out_52 ?_
    refine ej_aload_n B.1 d_M_out_55 rfl ?_
    refine ej_getr B.1 (er_at B 21 rfl rfl) rfl rfl fl_M_54 d_M_out_56 ?_
    refine ej_iload_n B.1 d_M_out_59 rfl ?_
    obtain ⟨e9, h⟩ := er_gd_some h
    refine ej_iald B.1 (er_at B 35 rfl rfl) rfl e9 d_M_out_60 ?_
    refine ej_isub B.1 d_M_out_61 ?_
    refine ej_istore B.1 (lv' := [some (.ref 21), none, some (.int x2), none, some (.int ((g7 21 1) - (g7 35 (er_ix x2))))]) d_M_out_62 rfl rfl rfl ?_
    refine ej_aload_n B.1 d_M_out_64 rfl ?_
    refine ej_getr B.1 (er_at B 21 rfl rfl) rfl rfl fl_M_60 d_M_out_65 ?_
    refine ej_iload_n B.1 d_M_out_68 rfl ?_
    refine ej_dup2 B.1 d_M_out_69 rfl rfl ?_
    obtain ⟨e10, h⟩ := er_gd_some h
    refine ej_iald B.1 (er_at B 37 rfl rfl) rfl e10 d_M_out_70 ?_
    refine ej_iload B.1 d_M_out_71 rfl ?_
    refine ej_iadd B.1 d_M_out_73 ?_
    obtain ⟨e11, h⟩ := er_gd_some h
    refine ej_iast B.1 (er_at B 37 rfl rfl) rfl e11 d_M_out_74 ?_
    refine ej_aload_n B.1 d_M_out_75 rfl ?_
    refine ej_getr B.1 (er_at B 21 rfl rfl) rfl rfl fl_M_63 d_M_out_76 ?_
    refine ej_iload_n B.1 d_M_out_79 rfl ?_
    refine ej_dup2 B.1 d_M_out_80 rfl rfl ?_
    obtain ⟨e12, h⟩ := er_gd_some h
    refine ej_iald B.1 (er_at B 38 rfl rfl) rfl e12 d_M_out_81 ?_
    refine ej_iload B.1 d_M_out_82 rfl ?_
    refine ej_aload_n B.1 d_M_out_84 rfl ?_
    refine ej_getr B.1 (er_at B 21 rfl rfl) rfl rfl fl_M_13 d_M_out_85 ?_
    refine ej_aload_n B.1 d_M_out_88 rfl ?_
    refine ej_getr B.1 (er_at B 21 rfl rfl) rfl rfl fl_M_48 d_M_out_89 ?_
    refine ej_iload_n B.1 d_M_out_92 rfl ?_
    obtain ⟨e13, h⟩ := er_gd_some h
    refine ej_iald B.1 (er_at B 33 rfl rfl) rfl e13 d_M_out_93 ?_
    obtain ⟨e14, h⟩ := er_gd_some h
    refine ej_iald B.1 (er_at B 22 rfl rfl) rfl e14 d_M_out_94 ?_
    refine ej_imul B.1 d_M_out_95 ?_
    refine ej_iadd B.1 d_M_out_96 ?_
    obtain ⟨e15, h⟩ := er_gd_some h
    refine ej_iast B.1 (er_at B 38 rfl rfl) rfl e15 d_M_out_97 ?_
    refine ej_aload_n B.1 d_M_out_98 rfl ?_
    refine ej_getr B.1 (er_at B 21 rfl rfl) rfl rfl fl_M_57 d_M_out_99 ?_
    refine ej_iload_n B.1 d_M_out_102 rfl ?_
    refine ej_aload_n B.1 d_M_out_103 rfl ?_
    refine ej_geti B.1 (er_at B 21 rfl rfl) rfl rfl fl_M_101 d_M_out_104 ?_
    refine ej_aload_n B.1 d_M_out_107 rfl ?_
    refine ej_geti B.1 (er_at B 21 rfl rfl) rfl rfl fl_M_7 d_M_out_108 ?_
    refine ej_iadd B.1 d_M_out_111 ?_
    obtain ⟨e16, h⟩ := er_gd_some h
    refine ej_iast B.1 (er_at B 36 rfl rfl) rfl e16 d_M_out_112 ?_
    refine ej_aload_n B.1 d_M_out_113 rfl ?_
    refine ej_iload_n B.1 d_M_out_114 rfl ?_
    obtain ⟨v17, g19, e18, h⟩ := er_bw_some h
    refine ej_cv_v (nc := 0) (ns := 0) B.1 [.int x2] [] (ec_M_outside (er_pr B) x2 (er_up (er_up (er_up g7 37 (er_ix x2) ((g7 37 (er_ix x2)) + ((g7 21 1) - (g7 35 (er_ix x2))))) 38 (er_ix x2) (((er_up g7 37 (er_ix x2) ((g7 37 (er_ix x2)) + ((g7 21 1) - (g7 35 (er_ix x2))))) 38 (er_ix x2)) + (((g7 21 1) - (g7 35 (er_ix x2))) * ((er_up g7 37 (er_ix x2) ((g7 37 (er_ix x2)) + ((g7 21 1) - (g7 35 (er_ix x2))))) 22 (er_ix ((er_up g7 37 (er_ix x2) ((g7 37 (er_ix x2)) + ((g7 21 1) - (g7 35 (er_ix x2))))) 33 (er_ix x2))))))) 36 (er_ix x2) (((er_up (er_up g7 37 (er_ix x2) ((g7 37 (er_ix x2)) + ((g7 21 1) - (g7 35 (er_ix x2))))) 38 (er_ix x2) (((er_up g7 37 (er_ix x2) ((g7 37 (er_ix x2)) + ((g7 21 1) - (g7 35 (er_ix x2))))) 38 (er_ix x2)) + (((g7 21 1) - (g7 35 (er_ix x2))) * ((er_up g7 37 (er_ix x2) ((g7 37 (er_ix x2)) + ((g7 21 1) - (g7 35 (er_ix x2))))) 22 (er_ix ((er_up g7 37 (er_ix x2) ((g7 37 (er_ix x2)) + ((g7 21 1) - (g7 35 (er_ix x2))))) 33 (er_ix x2))))))) 21 1) + ((er_up (er_up g7 37 (er_ix x2) ((g7 37 (er_ix x2)) + ((g7 21 1) - (g7 35 (er_ix x2))))) 38 (er_ix x2) (((er_up g7 37 (er_ix x2) ((g7 37 (er_ix x2)) + ((g7 21 1) - (g7 35 (er_ix x2))))) 38 (er_ix x2)) + (((g7 21 1) - (g7 35 (er_ix x2))) * ((er_up g7 37 (er_ix x2) ((g7 37 (er_ix x2)) + ((g7 21 1) - (g7 35 (er_ix x2))))) 22 (er_ix ((er_up g7 37 (er_ix x2) ((g7 37 (er_ix x2)) + ((g7 21 1) - (g7 35 (er_ix x2))))) 33 (er_ix x2))))))) 21 2))) (v17, g19) e18) cal_M_outside lk_M_66 in_M_outside (er_at B 21 rfl rfl) rfl rfl se_M_outside rfl B.2.2.2.1 d_M_out_115 ⟨Nat.le_of_ble_eq_true rfl, Nat.le_of_ble_eq_true rfl, Nat.zero_le _, Nat.zero_le _⟩ (Nat.le_of_ble_eq_true rfl) rfl ?_
    refine ej_iload B.1 d_M_out_118 rfl ?_
    cases h
    exact ej_iret B.1 B.2.1 B.2.2.1 (Nat.zero_le _) (Nat.zero_le _) d_M_out_120
  · replace h := er_if h q8
    refine ej_iconst B.1 (v := 0) d_M_out_49 rfl ?_
    cases h
    exact ej_iret B.1 B.2.1 B.2.2.1 (Nat.zero_le _) (Nat.zero_le _) d_M_out_50
set_option maxRecDepth 100000 in
set_option maxHeartbeats 4000000 in
theorem ew_M_out_41 {p : Program} {l : Launch} {e : Env} {s : State} {m : MethodId} {args : Array Value} {below : List Frame} {meth : Method} {c : Code} {G : er_G} (B : er_B p s m c meth b_M_out "EntryRowsModel" G (some .int) 5 21 39) (x2 t1 : Int32) (σ : er_S) (r : Int32 × er_S) (h : ef_M_out_41 x2 t1 σ = some r) : er_J p l e { frames := 2, cells := 0, slots := 0, locals := 43 } s m args below meth c G (er_A G s.heap.size) s.heap (er_fin below G s 0 0 (.inl (some (.int r.1)), r.2)) 0 0 σ 41 [some (.ref 21), none, some (.int x2), none, none] [.int t1, .ref 21] := by
  unfold ef_M_out_41 at h
  refine ej_iconst B.1 (v := 0) d_M_out_41 rfl ?_
  exact ej_le (lv' := [some (.ref 21), none, some (.int x2), none, none]) ⟨rfl, ⟨rfl, trivial⟩⟩ (ew_M_out_42 B x2 t1 0 σ _ h)
set_option maxRecDepth 100000 in
set_option maxHeartbeats 4000000 in
theorem ew_M_out_20 {p : Program} {l : Launch} {e : Env} {s : State} {m : MethodId} {args : Array Value} {below : List Frame} {meth : Method} {c : Code} {G : er_G} (B : er_B p s m c meth b_M_out "EntryRowsModel" G (some .int) 5 21 39) (x1 x2 t0 : Int32) (σ : er_S) (r : Int32 × er_S) (h : ef_M_out_20 x1 x2 t0 σ = some r) : er_J p l e { frames := 2, cells := 0, slots := 0, locals := 43 } s m args below meth c G (er_A G s.heap.size) s.heap (er_fin below G s 0 0 (.inl (some (.int r.1)), r.2)) 0 0 σ 20 [some (.ref 21), some (.int x1), some (.int x2), none, none] [.int t0] := by
  unfold ef_M_out_20 at h
  refine ej_istore_n B.1 (lv' := [some (.ref 21), some (.int x1), some (.int x2), some (.int t0), none]) d_M_out_20 rfl rfl rfl ?_
  refine ej_aload_n B.1 d_M_out_21 rfl ?_
  refine ej_iload_n B.1 d_M_out_22 rfl ?_
  refine ej_iload_n B.1 d_M_out_23 rfl ?_
  refine ej_if_ne B.1 (tgt := 41) d_M_out_24 (by decide) (fun q4 => ?_) (fun q4 => ?_)
  · replace h := er_if h q4
    exact ej_le (lv' := [some (.ref 21), none, some (.int x2), none, none]) ⟨rfl, ⟨rfl, trivial⟩⟩ (ew_M_out_41 B x2 t0 σ _ h)
  · replace h := er_it h q4
    refine ej_aload_n B.1 d_M_out_27 rfl ?_
    refine ej_getr B.1 (er_at B 21 rfl rfl) rfl rfl fl_M_42 d_M_out_28 ?_
    refine ej_iload_n B.1 d_M_out_31 rfl ?_
    obtain ⟨e20, h⟩ := er_gd_some h
    refine ej_iald B.1 (er_at B 31 rfl rfl) rfl e20 d_M_out_32 ?_
    refine ej_iload_n B.1 d_M_out_33 rfl ?_
    refine ej_icmp_eq B.1 (tgt := 41) d_M_out_34 (by decide) (fun q21 => ?_) (fun q21 => ?_)
    · replace h := er_it h q21
      exact ej_le (lv' := [some (.ref 21), none, some (.int x2), none, none]) ⟨rfl, ⟨rfl, trivial⟩⟩ (ew_M_out_41 B x2 t0 σ _ h)
    · replace h := er_if h q21
      refine ej_iconst B.1 (v := 1) d_M_out_37 rfl ?_
      refine ej_goto B.1 (tgt := 42) d_M_out_38 (by decide) ?_
      exact ej_le (lv' := [some (.ref 21), none, some (.int x2), none, none]) ⟨rfl, ⟨rfl, trivial⟩⟩ (ew_M_out_42 B x2 t0 1 σ _ h)
set_option maxRecDepth 100000 in
set_option maxHeartbeats 4000000 in
theorem ew_M_out_15 {p : Program} {l : Launch} {e : Env} {s : State} {m : MethodId} {args : Array Value} {below : List Frame} {meth : Method} {c : Code} {G : er_G} (B : er_B p s m c meth b_M_out "EntryRowsModel" G (some .int) 5 21 39) (x1 x2 : Int32) (σ : er_S) (r : Int32 × er_S) (h : ef_M_out_15 x1 x2 σ = some r) : er_J p l e { frames := 2, cells := 0, slots := 0, locals := 43 } s m args below meth c G (er_A G s.heap.size) s.heap (er_fin below G s 0 0 (.inl (some (.int r.1)), r.2)) 0 0 σ 15 [some (.ref 21), some (.int x1), some (.int x2), none, none] [] := by
  unfold ef_M_out_15 at h
  refine ej_iconst B.1 (v := 1) d_M_out_15 rfl ?_
  refine ej_goto B.1 (tgt := 20) d_M_out_16 (by decide) ?_
  exact ej_le (lv' := [some (.ref 21), some (.int x1), some (.int x2), none, none]) ⟨rfl, ⟨rfl, ⟨rfl, trivial⟩⟩⟩ (ew_M_out_20 B x1 x2 1 σ _ h)
set_option maxRecDepth 100000 in
set_option maxHeartbeats 4000000 in
theorem ec_M_out {l : Launch} {G : er_G} (hE : er_Pr G 21 39) (x1 x2 : Int32) (σ : er_S) (r : Int32 × er_S) (h : ef_M_out x1 x2 σ = some r) : er_Con l y_M_out w_M_out 2 43 0 0 G [.ref 21, .int x1, .int x2] σ ((.inl (some (.int r.1)), r.2)) := by
  refine er_ofJ (ret := some .int) (cc := b_M_out) (maxL := 5) (lv0 := [some (.ref 21), some (.int x1), some (.int x2), none, none]) (hh := []) (by decide +kernel) rfl (Or.inl rfl) (by intro v hv; simp only [List.mem_cons, List.not_mem_nil, or_false] at hv; rcases hv with rfl | rfl | rfl <;> rfl) (Nat.le_of_ble_eq_true rfl) ?_
  intro p e s m args below meth c hadm C hr hlk hml hw hnm hm hcd
  have B : er_B p s m c meth b_M_out "EntryRowsModel" G (some .int) 5 21 39 := ⟨C, hr, hlk, hml, hE, er_noh hw hnm hm hcd⟩
  unfold ef_M_out at h
  refine ej_aload_n B.1 d_M_out_0 rfl ?_
  refine ej_iload_n B.1 d_M_out_1 rfl ?_
  obtain ⟨v1, e2, h⟩ := er_bd_some h
  refine ej_cv_i (nc := 0) (ns := 0) B.1 [.int x1] [] (ec_M_isBoard (er_pr B) x1 σ v1 e2) cal_M_isBoard lk_M_80 in_M_isBoard (er_at B 21 rfl rfl) rfl rfl se_M_isBoard rfl B.2.2.2.1 d_M_out_2 ⟨Nat.le_of_ble_eq_true rfl, Nat.le_of_ble_eq_true rfl, Nat.zero_le _, Nat.zero_le _⟩ (Nat.le_of_ble_eq_true rfl) rfl ?_
  refine ej_if_eq B.1 (tgt := 15) d_M_out_5 (by decide) (fun q3 => ?_) (fun q3 => ?_)
  · replace h := er_it h q3
    exact ej_le (lv' := [some (.ref 21), some (.int x1), some (.int x2), none, none]) ⟨rfl, ⟨rfl, ⟨rfl, trivial⟩⟩⟩ (ew_M_out_15 B x1 x2 σ _ h)
  · replace h := er_if h q3
    refine ej_iload_n B.1 d_M_out_8 rfl ?_
    obtain ⟨v22, e23, h⟩ := er_bd_some h
    refine ej_cs_i (nc := 0) (ns := 0) B.1 [.int x2] [] (ec_M_isPerson (er_pr B) x2 σ v22 e23) cal_M_isPerson lk_M_88 st_M_isPerson rfl B.2.2.2.1 d_M_out_9 ⟨Nat.le_of_ble_eq_true rfl, Nat.le_of_ble_eq_true rfl, Nat.zero_le _, Nat.zero_le _⟩ (Nat.le_of_ble_eq_true rfl) rfl ?_
    refine ej_if_ne B.1 (tgt := 19) d_M_out_12 (by decide) (fun q24 => ?_) (fun q24 => ?_)
    · replace h := er_if h q24
      refine ej_iconst B.1 (v := 0) d_M_out_19 rfl ?_
      exact ej_le (lv' := [some (.ref 21), some (.int x1), some (.int x2), none, none]) ⟨rfl, ⟨rfl, ⟨rfl, trivial⟩⟩⟩ (ew_M_out_20 B x1 x2 0 σ _ h)
    · replace h := er_it h q24
      exact ej_le (lv' := [some (.ref 21), some (.int x1), some (.int x2), none, none]) ⟨rfl, ⟨rfl, ⟨rfl, trivial⟩⟩⟩ (ew_M_out_15 B x1 x2 σ _ h)
set_option maxRecDepth 100000 in
set_option maxHeartbeats 4000000 in
theorem ew_M_swap_54 {p : Program} {l : Launch} {e : Env} {s : State} {m : MethodId} {args : Array Value} {below : List Frame} {meth : Method} {c : Code} {G : er_G} (B : er_B p s m c meth b_M_swap "EntryRowsModel" G (none) 5 21 39) (x1 x2 t1 t2 : Int32) (σ : er_S) (r : Unit × er_S) (h : ef_M_swap_54 x1 x2 t1 t2 σ = some r) : er_J p l e { frames := 2, cells := 0, slots := 0, locals := 42 } s m args below meth c G (er_A G s.heap.size) s.heap (er_fin below G s 0 0 (.inl none, r.2)) 0 0 σ 54 [some (.ref 21), some (.int x1), some (.int x2), none, none] [.int t2, .int t1, .ref 21] := by
  unfold ef_M_swap_54 at h
  refine ej_iconst B.1 (v := 0) d_M_swap_54 rfl ?_
  obtain ⟨v5, g7, e6, h⟩ := er_bw_some h
  refine ej_cv_i (nc := 0) (ns := 0) B.1 [.int t1, .int t2, .int 0] [] (ec_M_throwing (er_pr B) t1 t2 0 σ (v5, g7) e6) cal_M_throwing lk_M_84 in_M_throwing (er_at B 21 rfl rfl) rfl rfl se_M_throwing rfl B.2.2.2.1 d_M_swap_55 ⟨Nat.le_of_ble_eq_true rfl, Nat.le_of_ble_eq_true rfl, Nat.zero_le _, Nat.zero_le _⟩ (Nat.le_of_ble_eq_true rfl) rfl ?_
  refine ej_if_eq B.1 (tgt := 62) d_M_swap_58 (by decide) (fun q8 => ?_) (fun q8 => ?_)
  · replace h := er_it h q8
    refine ej_aload_n B.1 d_M_swap_62 rfl ?_
    refine ej_getr B.1 (er_at B 21 rfl rfl) rfl rfl fl_M_45 d_M_swap_63 ?_
    refine ej_iload_n B.1 d_M_swap_66 rfl ?_
    obtain ⟨e9, h⟩ := er_gd_some h
    refine ej_iald B.1 (er_at B 32 rfl rfl) rfl e9 d_M_swap_67 ?_
    refine ej_istore B.1 (lv' := [some (.ref 21), some (.int x1), some (.int x2), none, some (.int (g7 32 (er_ix x1)))]) d_M_swap_68 rfl rfl rfl ?_
    refine ej_aload_n B.1 d_M_swap_70 rfl ?_
    refine ej_getr B.1 (er_at B 21 rfl rfl) rfl rfl fl_M_45 d_M_swap_71 ?_
    refine ej_iload_n B.1 d_M_swap_74 rfl ?_
    refine ej_aload_n B.1 d_M_swap_75 rfl ?_
    refine ej_getr B.1 (er_at B 21 rfl rfl) rfl rfl fl_M_45 d_M_swap_76 ?_
    refine ej_iload_n B.1 d_M_swap_79 rfl ?_
    obtain ⟨e10, h⟩ := er_gd_some h
    refine ej_iald B.1 (er_at B 32 rfl rfl) rfl e10 d_M_swap_80 ?_
    obtain ⟨e11, h⟩ := er_gd_some h
    refine ej_iast B.1 (er_at B 32 rfl rfl) rfl e11 d_M_swap_81 ?_
    refine ej_aload_n B.1 d_M_swap_82 rfl ?_
    refine ej_getr B.1 (er_at B 21 rfl rfl) rfl rfl fl_M_45 d_M_swap_83 ?_
    refine ej_iload_n B.1 d_M_swap_86 rfl ?_
    refine ej_iload B.1 d_M_swap_87 rfl ?_
    obtain ⟨e12, h⟩ := er_gd_some h
    refine ej_iast B.1 (er_at B 32 rfl rfl) rfl e12 d_M_swap_89 ?_
    cases h
    exact ej_vret B.1 B.2.1 B.2.2.1 (Nat.zero_le _) (Nat.zero_le _) d_M_swap_90
  · replace h := er_if h q8
    cases h
    exact ej_vret B.1 B.2.1 B.2.2.1 (Nat.zero_le _) (Nat.zero_le _) d_M_swap_61
set_option maxRecDepth 100000 in
set_option maxHeartbeats 4000000 in
theorem ew_M_swap_53 {p : Program} {l : Launch} {e : Env} {s : State} {m : MethodId} {args : Array Value} {below : List Frame} {meth : Method} {c : Code} {G : er_G} (B : er_B p s m c meth b_M_swap "EntryRowsModel" G (none) 5 21 39) (x1 x2 t1 : Int32) (σ : er_S) (r : Unit × er_S) (h : ef_M_swap_53 x1 x2 t1 σ = some r) : er_J p l e { frames := 2, cells := 0, slots := 0, locals := 42 } s m args below meth c G (er_A G s.heap.size) s.heap (er_fin below G s 0 0 (.inl none, r.2)) 0 0 σ 53 [some (.ref 21), some (.int x1), some (.int x2), none, none] [.int t1, .ref 21] := by
  unfold ef_M_swap_53 at h
  refine ej_iconst B.1 (v := 0) d_M_swap_53 rfl ?_
  exact ej_le (lv' := [some (.ref 21), some (.int x1), some (.int x2), none, none]) ⟨rfl, ⟨rfl, ⟨rfl, trivial⟩⟩⟩ (ew_M_swap_54 B x1 x2 t1 0 σ _ h)
set_option maxRecDepth 100000 in
set_option maxHeartbeats 4000000 in
theorem ew_M_swap_49 {p : Program} {l : Launch} {e : Env} {s : State} {m : MethodId} {args : Array Value} {below : List Frame} {meth : Method} {c : Code} {G : er_G} (B : er_B p s m c meth b_M_swap "EntryRowsModel" G (none) 5 21 39) (x1 x2 t1 : Int32) (σ : er_S) (r : Unit × er_S) (h : ef_M_swap_49 x1 x2 t1 σ = some r) : er_J p l e { frames := 2, cells := 0, slots := 0, locals := 42 } s m args below meth c G (er_A G s.heap.size) s.heap (er_fin below G s 0 0 (.inl none, r.2)) 0 0 σ 49 [some (.ref 21), some (.int x1), some (.int x2), none, none] [.int t1, .ref 21] := by
  unfold ef_M_swap_49 at h
  refine ej_iconst B.1 (v := 1) d_M_swap_49 rfl ?_
  refine ej_goto B.1 (tgt := 54) d_M_swap_50 (by decide) ?_
  exact ej_le (lv' := [some (.ref 21), some (.int x1), some (.int x2), none, none]) ⟨rfl, ⟨rfl, ⟨rfl, trivial⟩⟩⟩ (ew_M_swap_54 B x1 x2 t1 1 σ _ h)
set_option maxRecDepth 100000 in
set_option maxHeartbeats 4000000 in
theorem ew_M_swap_19 {p : Program} {l : Launch} {e : Env} {s : State} {m : MethodId} {args : Array Value} {below : List Frame} {meth : Method} {c : Code} {G : er_G} (B : er_B p s m c meth b_M_swap "EntryRowsModel" G (none) 5 21 39) (x1 x2 t0 : Int32) (σ : er_S) (r : Unit × er_S) (h : ef_M_swap_19 x1 x2 t0 σ = some r) : er_J p l e { frames := 2, cells := 0, slots := 0, locals := 42 } s m args below meth c G (er_A G s.heap.size) s.heap (er_fin below G s 0 0 (.inl none, r.2)) 0 0 σ 19 [some (.ref 21), some (.int x1), some (.int x2), none, none] [.int t0] := by
  unfold ef_M_swap_19 at h
  refine ej_istore_n B.1 (lv' := [some (.ref 21), some (.int x1), some (.int x2), some (.int t0), none]) d_M_swap_19 rfl rfl rfl ?_
  refine ej_aload_n B.1 d_M_swap_20 rfl ?_
  refine ej_iload_n B.1 d_M_swap_21 rfl ?_
  refine ej_iload_n B.1 d_M_swap_22 rfl ?_
  refine ej_if_ne B.1 (tgt := 53) d_M_swap_23 (by decide) (fun q4 => ?_) (fun q4 => ?_)
  · replace h := er_if h q4
    exact ej_le (lv' := [some (.ref 21), some (.int x1), some (.int x2), none, none]) ⟨rfl, ⟨rfl, ⟨rfl, trivial⟩⟩⟩ (ew_M_swap_53 B x1 x2 t0 σ _ h)
  · replace h := er_it h q4
    refine ej_aload_n B.1 d_M_swap_26 rfl ?_
    refine ej_getr B.1 (er_at B 21 rfl rfl) rfl rfl fl_M_42 d_M_swap_27 ?_
    refine ej_iload_n B.1 d_M_swap_30 rfl ?_
    obtain ⟨e13, h⟩ := er_gd_some h
    refine ej_iald B.1 (er_at B 31 rfl rfl) rfl e13 d_M_swap_31 ?_
    refine ej_if_lt B.1 (tgt := 49) d_M_swap_32 (by decide) (fun q14 => ?_) (fun q14 => ?_)
    · replace h := er_it h q14
      exact ej_le (lv' := [some (.ref 21), some (.int x1), some (.int x2), none, none]) ⟨rfl, ⟨rfl, ⟨rfl, trivial⟩⟩⟩ (ew_M_swap_49 B x1 x2 t0 σ _ h)
    · replace h := er_if h q14
      refine ej_aload_n B.1 d_M_swap_35 rfl ?_
      refine ej_getr B.1 (er_at B 21 rfl rfl) rfl rfl fl_M_42 d_M_swap_36 ?_
      refine ej_iload_n B.1 d_M_swap_39 rfl ?_
      obtain ⟨e15, h⟩ := er_gd_some h
      refine ej_iald B.1 (er_at B 31 rfl rfl) rfl e15 d_M_swap_40 ?_
      refine ej_if_lt B.1 (tgt := 49) d_M_swap_41 (by decide) (fun q16 => ?_) (fun q16 => ?_)
      · replace h := er_it h q16
        exact ej_le (lv' := [some (.ref 21), some (.int x1), some (.int x2), none, none]) ⟨rfl, ⟨rfl, ⟨rfl, trivial⟩⟩⟩ (ew_M_swap_49 B x1 x2 t0 σ _ h)
      · replace h := er_if h q16
        refine ej_iload_n B.1 d_M_swap_44 rfl ?_
        refine ej_iload_n B.1 d_M_swap_45 rfl ?_
        refine ej_icmp_ne B.1 (tgt := 53) d_M_swap_46 (by decide) (fun q17 => ?_) (fun q17 => ?_)
        · replace h := er_if h q17
          exact ej_le (lv' := [some (.ref 21), some (.int x1), some (.int x2), none, none]) ⟨rfl, ⟨rfl, ⟨rfl, trivial⟩⟩⟩ (ew_M_swap_53 B x1 x2 t0 σ _ h)
        · replace h := er_it h q17
          exact ej_le (lv' := [some (.ref 21), some (.int x1), some (.int x2), none, none]) ⟨rfl, ⟨rfl, ⟨rfl, trivial⟩⟩⟩ (ew_M_swap_49 B x1 x2 t0 σ _ h)
set_option maxRecDepth 100000 in
set_option maxHeartbeats 4000000 in
theorem ew_M_swap_14 {p : Program} {l : Launch} {e : Env} {s : State} {m : MethodId} {args : Array Value} {below : List Frame} {meth : Method} {c : Code} {G : er_G} (B : er_B p s m c meth b_M_swap "EntryRowsModel" G (none) 5 21 39) (x1 x2 : Int32) (σ : er_S) (r : Unit × er_S) (h : ef_M_swap_14 x1 x2 σ = some r) : er_J p l e { frames := 2, cells := 0, slots := 0, locals := 42 } s m args below meth c G (er_A G s.heap.size) s.heap (er_fin below G s 0 0 (.inl none, r.2)) 0 0 σ 14 [some (.ref 21), some (.int x1), some (.int x2), none, none] [] := by
  unfold ef_M_swap_14 at h
  refine ej_iconst B.1 (v := 1) d_M_swap_14 rfl ?_
  refine ej_goto B.1 (tgt := 19) d_M_swap_15 (by decide) ?_
  exact ej_le (lv' := [some (.ref 21), some (.int x1), some (.int x2), none, none]) ⟨rfl, ⟨rfl, ⟨rfl, trivial⟩⟩⟩ (ew_M_swap_19 B x1 x2 1 σ _ h)
set_option maxRecDepth 100000 in
set_option maxHeartbeats 4000000 in
theorem ec_M_swap {l : Launch} {G : er_G} (hE : er_Pr G 21 39) (x1 x2 : Int32) (σ : er_S) (r : Unit × er_S) (h : ef_M_swap x1 x2 σ = some r) : er_Con l y_M_swap w_M_swap 2 42 0 0 G [.ref 21, .int x1, .int x2] σ ((.inl none, r.2)) := by
  refine er_ofJ (ret := none) (cc := b_M_swap) (maxL := 5) (lv0 := [some (.ref 21), some (.int x1), some (.int x2), none, none]) (hh := []) (by decide +kernel) rfl (Or.inl rfl) (by intro v hv; simp only [List.mem_cons, List.not_mem_nil, or_false] at hv; rcases hv with rfl | rfl | rfl <;> rfl) (Nat.le_of_ble_eq_true rfl) ?_
  intro p e s m args below meth c hadm C hr hlk hml hw hnm hm hcd
  have B : er_B p s m c meth b_M_swap "EntryRowsModel" G (none) 5 21 39 := ⟨C, hr, hlk, hml, hE, er_noh hw hnm hm hcd⟩
  unfold ef_M_swap at h
  refine ej_iload_n B.1 d_M_swap_0 rfl ?_
  obtain ⟨v1, e2, h⟩ := er_bd_some h
  refine ej_cs_i (nc := 0) (ns := 0) B.1 [.int x1] [] (ec_M_isPerson (er_pr B) x1 σ v1 e2) cal_M_isPerson lk_M_88 st_M_isPerson rfl B.2.2.2.1 d_M_swap_1 ⟨Nat.le_of_ble_eq_true rfl, Nat.le_of_ble_eq_true rfl, Nat.zero_le _, Nat.zero_le _⟩ (Nat.le_of_ble_eq_true rfl) rfl ?_
  refine ej_if_eq B.1 (tgt := 14) d_M_swap_4 (by decide) (fun q3 => ?_) (fun q3 => ?_)
  · replace h := er_it h q3
    exact ej_le (lv' := [some (.ref 21), some (.int x1), some (.int x2), none, none]) ⟨rfl, ⟨rfl, ⟨rfl, trivial⟩⟩⟩ (ew_M_swap_14 B x1 x2 σ _ h)
  · replace h := er_if h q3
    refine ej_iload_n B.1 d_M_swap_7 rfl ?_
    obtain ⟨v18, e19, h⟩ := er_bd_some h
    refine ej_cs_i (nc := 0) (ns := 0) B.1 [.int x2] [] (ec_M_isPerson (er_pr B) x2 σ v18 e19) cal_M_isPerson lk_M_88 st_M_isPerson rfl B.2.2.2.1 d_M_swap_8 ⟨Nat.le_of_ble_eq_true rfl, Nat.le_of_ble_eq_true rfl, Nat.zero_le _, Nat.zero_le _⟩ (Nat.le_of_ble_eq_true rfl) rfl ?_
    refine ej_if_ne B.1 (tgt := 18) d_M_swap_11 (by decide) (fun q20 => ?_) (fun q20 => ?_)
    · replace h := er_if h q20
      refine ej_iconst B.1 (v := 0) d_M_swap_18 rfl ?_
      exact ej_le (lv' := [some (.ref 21), some (.int x1), some (.int x2), none, none]) ⟨rfl, ⟨rfl, ⟨rfl, trivial⟩⟩⟩ (ew_M_swap_19 B x1 x2 0 σ _ h)
    · replace h := er_it h q20
      exact ej_le (lv' := [some (.ref 21), some (.int x1), some (.int x2), none, none]) ⟨rfl, ⟨rfl, ⟨rfl, trivial⟩⟩⟩ (ew_M_swap_14 B x1 x2 σ _ h)
