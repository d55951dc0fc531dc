set_option maxRecDepth 100000 in
set_option maxHeartbeats 8000000 in
theorem ew_law_c0 {p : Program} {l : Launch} {e : Env} {s : State} {m : MethodId} {args : Array Value} {below : List Frame} {meth : Method} {c : Code} {G : er_G} {Q : State → Prop} {b L : Nat} {xs : Nat → Int32} {kc ks : Nat} (hl : l.admits e ∧ l.stackTraces = false) (B : er_BW p s m c G b L xs) (hkc : kc + 1 ≤ room_1.cells) (hks : ks + 6 ≤ room_1.slots) (x4 : Int32) (σ σ' : er_S) (h : el_c0 L xs x4 σ = some (some σ')) (hk : er_J p l e room_1 s m args below meth c G (fun q => s.heap.size ≤ q) s.heap Q (kc + 1) (ks + 6) σ' 1308 [some (.ref 40), some (.ref 0), some (.ref 21), some (.ref 39), some (.int x4), none, none] []) : er_J p l e room_1 s m args below meth c G (fun q => s.heap.size ≤ q) s.heap Q kc ks σ 128 [some (.ref 40), some (.ref 0), some (.ref 21), some (.ref 39), some (.int x4), none, none] [] := by
  unfold el_c0 at h
  refine ej_aload_n B.1 d_L_law_128 rfl ?_
  refine ej_aload_n B.1 d_L_law_129 rfl ?_
  refine ej_iload B.1 d_L_law_130 rfl ?_
  refine ej_iconst B.1 (v := 1) d_L_law_132 rfl ?_
  refine ej_iadd B.1 d_L_law_133 ?_
  obtain ⟨e1, h⟩ := er_gd_some h
  refine ej_sld B e1 d_L_law_134 ?_
  refine ej_aload_n B.1 d_L_law_135 rfl ?_
  refine ej_iload B.1 d_L_law_136 rfl ?_
  refine ej_iconst B.1 (v := 2) d_L_law_138 rfl ?_
  refine ej_iadd B.1 d_L_law_139 ?_
  obtain ⟨e2, h⟩ := er_gd_some h
  refine ej_sld B e2 d_L_law_140 ?_
  refine ej_aload_n B.1 d_L_law_141 rfl ?_
  refine ej_iload B.1 d_L_law_142 rfl ?_
  refine ej_iconst B.1 (v := 3) d_L_law_144 rfl ?_
  refine ej_iadd B.1 d_L_law_145 ?_
  obtain ⟨e3, h⟩ := er_gd_some h
  refine ej_sld B e3 d_L_law_146 ?_
  refine ej_aload_n B.1 d_L_law_147 rfl ?_
  obtain ⟨v4, g6, e5, h⟩ := er_bw_some h
  refine ej_cs_i (nc := 1) (ns := 6) B.1 [.ref 0, .int (xs (er_ix (x4 + 1))), .int (xs (er_ix (x4 + 2))), .int (xs (er_ix (x4 + 3))), .ref 39] [] (ec_L_board hl.2 (er_prW B) (xs (er_ix (x4 + 1))) (xs (er_ix (x4 + 2))) (xs (er_ix (x4 + 3))) σ (v4, g6) e5) cal_L_board lk_L_83 st_L_board rfl B.2.2.2.1 d_L_law_148 ⟨Nat.le_of_ble_eq_true rfl, Nat.le_of_ble_eq_true rfl, hkc, hks⟩ (Nat.le_of_ble_eq_true rfl) rfl ?_
  refine ej_istore B.1 (lv' := [some (.ref 40), some (.ref 0), some (.ref 21), some (.ref 39), some (.int x4), some (.int v4), none]) d_L_law_151 rfl rfl rfl ?_
  refine ej_aload_n B.1 d_L_law_153 rfl ?_
  refine ej_aload_n B.1 d_L_law_154 rfl ?_
  refine ej_iload B.1 d_L_law_155 rfl ?_
  refine ej_iconst B.1 (v := 1) d_L_law_157 rfl ?_
  refine ej_iadd B.1 d_L_law_158 ?_
  obtain ⟨e7, h⟩ := er_gd_some h
  refine ej_sld B e7 d_L_law_159 ?_
  refine ej_aload_n B.1 d_L_law_160 rfl ?_
  refine ej_iload B.1 d_L_law_161 rfl ?_
  refine ej_iconst B.1 (v := 2) d_L_law_163 rfl ?_
  refine ej_iadd B.1 d_L_law_164 ?_
  obtain ⟨e8, h⟩ := er_gd_some h
  refine ej_sld B e8 d_L_law_165 ?_
  refine ej_aload_n B.1 d_L_law_166 rfl ?_
  refine ej_iload B.1 d_L_law_167 rfl ?_
  refine ej_iconst B.1 (v := 3) d_L_law_169 rfl ?_
  refine ej_iadd B.1 d_L_law_170 ?_
  obtain ⟨e9, h⟩ := er_gd_some h
  refine ej_sld B e9 d_L_law_171 ?_
  obtain ⟨v10, g12, e11, h⟩ := er_bw_some h
  refine ej_cv_i (nc := 0) (ns := 0) B.1 [.int (xs (er_ix (x4 + 1))), .int (xs (er_ix (x4 + 2))), .int (xs (er_ix (x4 + 3)))] [] (ec_M_board (er_sub rfl rfl (er_prW B)) (xs (er_ix (x4 + 1))) (xs (er_ix (x4 + 2))) (xs (er_ix (x4 + 3))) g6 (v10, g12) e11) cal_M_board lk_L_88 in_M_board (er_atW B 21 rfl rfl) rfl rfl se_M_board rfl B.2.2.2.1 d_L_law_172 ⟨Nat.le_of_ble_eq_true rfl, Nat.le_of_ble_eq_true rfl, hkc, hks⟩ (Nat.le_of_ble_eq_true rfl) rfl ?_
  refine ej_istore B.1 (lv' := [some (.ref 40), some (.ref 0), some (.ref 21), some (.ref 39), some (.int x4), some (.int v4), some (.int v10)]) d_L_law_175 rfl rfl rfl ?_
  refine ej_aload_n B.1 d_L_law_177 rfl ?_
  obtain ⟨v13, e14, h⟩ := er_bd_some h
  refine ej_cv_i (nc := 0) (ns := 0) B.1 [] [] (ec_M_thrown (er_sub rfl rfl (er_prW B)) g12 v13 e14) cal_M_thrown lk_L_89 in_M_thrown (er_atW B 21 rfl rfl) rfl rfl se_M_thrown rfl B.2.2.2.1 d_L_law_178 ⟨Nat.le_of_ble_eq_true rfl, Nat.le_of_ble_eq_true rfl, hkc, hks⟩ (Nat.le_of_ble_eq_true rfl) rfl ?_
  refine ej_iload B.1 d_L_law_181 rfl ?_
  refine ej_icmp_eq B.1 (tgt := 188) d_L_law_183 (by decide) (fun q15 => ?_) (fun q15 => ?_)
  · replace h := er_it h q15
    refine ej_iload B.1 d_L_law_188 rfl ?_
    refine ej_if_ne B.1 (tgt := 205) d_L_law_190 (by decide) (fun q16 => ?_) (fun q16 => ?_)
    · replace h := er_if h q16
      refine ej_goto B.1 (tgt := 1308) d_L_law_205 (by decide) ?_
      cases h
      exact ej_le (lv' := [some (.ref 40), some (.ref 0), some (.ref 21), some (.ref 39), some (.int x4), none, none]) ⟨rfl, ⟨rfl, ⟨rfl, ⟨rfl, ⟨rfl, trivial⟩⟩⟩⟩⟩ hk
    · replace h := er_it h q16
      refine ej_aload_n B.1 d_L_law_193 rfl ?_
      refine ej_iconst B.1 (v := 0) d_L_law_194 rfl ?_
      obtain ⟨e17, h⟩ := er_gd_some h
      refine ej_lald B.1 (er_atW B 39 rfl rfl) rfl e17 d_L_law_195 ?_
      refine ej_iload B.1 d_L_law_196 rfl ?_
      refine ej_i2l B.1 d_L_law_198 ?_
      refine ej_lcmp B.1 d_L_law_199 ?_
      refine ej_if_eq B.1 (tgt := 205) d_L_law_200 (by decide) (fun q18 => ?_) (fun q18 => ?_)
      · replace h := er_it h q18
        refine ej_goto B.1 (tgt := 1308) d_L_law_205 (by decide) ?_
        cases h
        exact ej_le (lv' := [some (.ref 40), some (.ref 0), some (.ref 21), some (.ref 39), some (.int x4), none, none]) ⟨rfl, ⟨rfl, ⟨rfl, ⟨rfl, ⟨rfl, trivial⟩⟩⟩⟩⟩ hk
      · replace h := er_if h q18
        refine ej_iconst B.1 (v := 0) d_L_law_203 rfl ?_
        cases h
  · replace h := er_if h q15
    refine ej_iconst B.1 (v := 0) d_L_law_186 rfl ?_
    cases h
set_option maxRecDepth 100000 in
set_option maxHeartbeats 8000000 in
theorem ew_law_c1 {p : Program} {l : Launch} {e : Env} {s : State} {m : MethodId} {args : Array Value} {below : List Frame} {meth : Method} {c : Code} {G : er_G} {Q : State → Prop} {b L : Nat} {xs : Nat → Int32} {kc ks : Nat} (hl : l.admits e ∧ l.stackTraces = false) (B : er_BW p s m c G b L xs) (hkc : kc + 1 ≤ room_1.cells) (hks : ks + 6 ≤ room_1.slots) (x4 : Int32) (σ σ' : er_S) (h : el_c1 L xs x4 σ = some (some σ')) (hk : er_J p l e room_1 s m args below meth c G (fun q => s.heap.size ≤ q) s.heap Q (kc + 1) (ks + 6) σ' 1308 [some (.ref 40), some (.ref 0), some (.ref 21), some (.ref 39), some (.int x4), none, none] []) : er_J p l e room_1 s m args below meth c G (fun q => s.heap.size ≤ q) s.heap Q kc ks σ 208 [some (.ref 40), some (.ref 0), some (.ref 21), some (.ref 39), some (.int x4), none, none] [] := by
  unfold el_c1 at h
  refine ej_aload_n B.1 d_L_law_208 rfl ?_
  refine ej_aload_n B.1 d_L_law_209 rfl ?_
  refine ej_iload B.1 d_L_law_210 rfl ?_
  refine ej_iconst B.1 (v := 1) d_L_law_212 rfl ?_
  refine ej_iadd B.1 d_L_law_213 ?_
  obtain ⟨e19, h⟩ := er_gd_some h
  refine ej_sld B e19 d_L_law_214 ?_
  refine ej_aload_n B.1 d_L_law_215 rfl ?_
  refine ej_iload B.1 d_L_law_216 rfl ?_
  refine ej_iconst B.1 (v := 2) d_L_law_218 rfl ?_
  refine ej_iadd B.1 d_L_law_219 ?_
  obtain ⟨e20, h⟩ := er_gd_some h
  refine ej_sld B e20 d_L_law_220 ?_
  obtain ⟨v21, g23, e22, h⟩ := er_bw_some h
  refine ej_cs_i (nc := 1) (ns := 6) B.1 [.ref 0, .int (xs (er_ix (x4 + 1))), .int (xs (er_ix (x4 + 2)))] [] (ec_L_keep hl.2 (er_prW B) (xs (er_ix (x4 + 1))) (xs (er_ix (x4 + 2))) σ (v21, g23) e22) cal_L_keep lk_L_93 st_L_keep rfl B.2.2.2.1 d_L_law_221 ⟨Nat.le_of_ble_eq_true rfl, Nat.le_of_ble_eq_true rfl, hkc, hks⟩ (Nat.le_of_ble_eq_true rfl) rfl ?_
  refine ej_istore B.1 (lv' := [some (.ref 40), some (.ref 0), some (.ref 21), some (.ref 39), some (.int x4), some (.int v21), none]) d_L_law_224 rfl rfl rfl ?_
  refine ej_aload_n B.1 d_L_law_226 rfl ?_
  refine ej_aload_n B.1 d_L_law_227 rfl ?_
  refine ej_iload B.1 d_L_law_228 rfl ?_
  refine ej_iconst B.1 (v := 1) d_L_law_230 rfl ?_
  refine ej_iadd B.1 d_L_law_231 ?_
  obtain ⟨e24, h⟩ := er_gd_some h
  refine ej_sld B e24 d_L_law_232 ?_
  refine ej_aload_n B.1 d_L_law_233 rfl ?_
  refine ej_iload B.1 d_L_law_234 rfl ?_
  refine ej_iconst B.1 (v := 2) d_L_law_236 rfl ?_
  refine ej_iadd B.1 d_L_law_237 ?_
  obtain ⟨e25, h⟩ := er_gd_some h
  refine ej_sld B e25 d_L_law_238 ?_
  obtain ⟨v26, g28, e27, h⟩ := er_bw_some h
  refine ej_cv_v (nc := 0) (ns := 0) B.1 [.int (xs (er_ix (x4 + 1))), .int (xs (er_ix (x4 + 2)))] [] (ec_M_keep (er_sub rfl rfl (er_prW B)) (xs (er_ix (x4 + 1))) (xs (er_ix (x4 + 2))) g23 (v26, g28) e27) cal_M_keep lk_L_96 in_M_keep (er_atW B 21 rfl rfl) rfl rfl se_M_keep rfl B.2.2.2.1 d_L_law_239 ⟨Nat.le_of_ble_eq_true rfl, Nat.le_of_ble_eq_true rfl, hkc, hks⟩ (Nat.le_of_ble_eq_true rfl) rfl ?_
  refine ej_aload_n B.1 d_L_law_242 rfl ?_
  obtain ⟨v29, e30, h⟩ := er_bd_some h
  refine ej_cv_i (nc := 0) (ns := 0) B.1 [] [] (ec_M_thrown (er_sub rfl rfl (er_prW B)) g28 v29 e30) cal_M_thrown lk_L_89 in_M_thrown (er_atW B 21 rfl rfl) rfl rfl se_M_thrown rfl B.2.2.2.1 d_L_law_243 ⟨Nat.le_of_ble_eq_true rfl, Nat.le_of_ble_eq_true rfl, hkc, hks⟩ (Nat.le_of_ble_eq_true rfl) rfl ?_
  refine ej_iload B.1 d_L_law_246 rfl ?_
  refine ej_icmp_eq B.1 (tgt := 253) d_L_law_248 (by decide) (fun q31 => ?_) (fun q31 => ?_)
  · replace h := er_it h q31
    refine ej_goto B.1 (tgt := 1308) d_L_law_253 (by decide) ?_
    cases h
    exact ej_le (lv' := [some (.ref 40), some (.ref 0), some (.ref 21), some (.ref 39), some (.int x4), none, none]) ⟨rfl, ⟨rfl, ⟨rfl, ⟨rfl, ⟨rfl, trivial⟩⟩⟩⟩⟩ hk
  · replace h := er_if h q31
    refine ej_iconst B.1 (v := 0) d_L_law_251 rfl ?_
    cases h
set_option maxRecDepth 100000 in
set_option maxHeartbeats 8000000 in
theorem ew_law_c2 {p : Program} {l : Launch} {e : Env} {s : State} {m : MethodId} {args : Array Value} {below : List Frame} {meth : Method} {c : Code} {G : er_G} {Q : State → Prop} {b L : Nat} {xs : Nat → Int32} {kc ks : Nat} (hl : l.admits e ∧ l.stackTraces = false) (B : er_BW p s m c G b L xs) (hkc : kc + 1 ≤ room_1.cells) (hks : ks + 6 ≤ room_1.slots) (x4 : Int32) (σ σ' : er_S) (h : el_c2 L xs x4 σ = some (some σ')) (hk : er_J p l e room_1 s m args below meth c G (fun q => s.heap.size ≤ q) s.heap Q (kc + 1) (ks + 6) σ' 1308 [some (.ref 40), some (.ref 0), some (.ref 21), some (.ref 39), some (.int x4), none, none] []) : er_J p l e room_1 s m args below meth c G (fun q => s.heap.size ≤ q) s.heap Q kc ks σ 256 [some (.ref 40), some (.ref 0), some (.ref 21), some (.ref 39), some (.int x4), none, none] [] := by
  unfold el_c2 at h
  refine ej_aload_n B.1 d_L_law_256 rfl ?_
  refine ej_aload_n B.1 d_L_law_257 rfl ?_
  refine ej_iload B.1 d_L_law_258 rfl ?_
  refine ej_iconst B.1 (v := 1) d_L_law_260 rfl ?_
  refine ej_iadd B.1 d_L_law_261 ?_
  obtain ⟨e32, h⟩ := er_gd_some h
  refine ej_sld B e32 d_L_law_262 ?_
  refine ej_aload_n B.1 d_L_law_263 rfl ?_
  refine ej_iload B.1 d_L_law_264 rfl ?_
  refine ej_iconst B.1 (v := 2) d_L_law_266 rfl ?_
  refine ej_iadd B.1 d_L_law_267 ?_
  obtain ⟨e33, h⟩ := er_gd_some h
  refine ej_sld B e33 d_L_law_268 ?_
  refine ej_if_eq B.1 (tgt := 276) d_L_law_269 (by decide) (fun q34 => ?_) (fun q34 => ?_)
  · replace h := er_it h q34
    refine ej_iconst B.1 (v := 0) d_L_law_276 rfl ?_
    obtain ⟨v35, g37, e36, h⟩ := er_bw_some h
    refine ej_cs_i (nc := 1) (ns := 6) B.1 [.ref 0, .int (xs (er_ix (x4 + 1))), .int 0] [] (ec_L_right hl.2 (er_prW B) (xs (er_ix (x4 + 1))) 0 σ (v35, g37) e36) cal_L_right lk_L_97 st_L_right rfl B.2.2.2.1 d_L_law_277 ⟨Nat.le_of_ble_eq_true rfl, Nat.le_of_ble_eq_true rfl, hkc, hks⟩ (Nat.le_of_ble_eq_true rfl) rfl ?_
    refine ej_istore B.1 (lv' := [some (.ref 40), some (.ref 0), some (.ref 21), some (.ref 39), some (.int x4), some (.int v35), none]) d_L_law_280 rfl rfl rfl ?_
    refine ej_aload_n B.1 d_L_law_282 rfl ?_
    refine ej_aload_n B.1 d_L_law_283 rfl ?_
    refine ej_iload B.1 d_L_law_284 rfl ?_
    refine ej_iconst B.1 (v := 1) d_L_law_286 rfl ?_
    refine ej_iadd B.1 d_L_law_287 ?_
    obtain ⟨e38, h⟩ := er_gd_some h
    refine ej_sld B e38 d_L_law_288 ?_
    refine ej_aload_n B.1 d_L_law_289 rfl ?_
    refine ej_iload B.1 d_L_law_290 rfl ?_
    refine ej_iconst B.1 (v := 2) d_L_law_292 rfl ?_
    refine ej_iadd B.1 d_L_law_293 ?_
    obtain ⟨e39, h⟩ := er_gd_some h
    refine ej_sld B e39 d_L_law_294 ?_
    refine ej_if_eq B.1 (tgt := 302) d_L_law_295 (by decide) (fun q40 => ?_) (fun q40 => ?_)
    · replace h := er_it h q40
      refine ej_iconst B.1 (v := 0) d_L_law_302 rfl ?_
      obtain ⟨v41, g43, e42, h⟩ := er_bw_some h
      refine ej_cv_v (nc := 0) (ns := 0) B.1 [.int (xs (er_ix (x4 + 1))), .int 0] [] (ec_M_right (er_sub rfl rfl (er_prW B)) (xs (er_ix (x4 + 1))) 0 g37 (v41, g43) e42) cal_M_right lk_L_100 in_M_right (er_atW B 21 rfl rfl) rfl rfl se_M_right rfl B.2.2.2.1 d_L_law_303 ⟨Nat.le_of_ble_eq_true rfl, Nat.le_of_ble_eq_true rfl, hkc, hks⟩ (Nat.le_of_ble_eq_true rfl) rfl ?_
      refine ej_aload_n B.1 d_L_law_306 rfl ?_
      obtain ⟨v44, e45, h⟩ := er_bd_some h
      refine ej_cv_i (nc := 0) (ns := 0) B.1 [] [] (ec_M_thrown (er_sub rfl rfl (er_prW B)) g43 v44 e45) cal_M_thrown lk_L_89 in_M_thrown (er_atW B 21 rfl rfl) rfl rfl se_M_thrown rfl B.2.2.2.1 d_L_law_307 ⟨Nat.le_of_ble_eq_true rfl, Nat.le_of_ble_eq_true rfl, hkc, hks⟩ (Nat.le_of_ble_eq_true rfl) rfl ?_
      refine ej_iload B.1 d_L_law_310 rfl ?_
      refine ej_icmp_eq B.1 (tgt := 317) d_L_law_312 (by decide) (fun q46 => ?_) (fun q46 => ?_)
      · replace h := er_it h q46
        refine ej_goto B.1 (tgt := 1308) d_L_law_317 (by decide) ?_
        cases h
        exact ej_le (lv' := [some (.ref 40), some (.ref 0), some (.ref 21), some (.ref 39), some (.int x4), none, none]) ⟨rfl, ⟨rfl, ⟨rfl, ⟨rfl, ⟨rfl, trivial⟩⟩⟩⟩⟩ hk
      · replace h := er_if h q46
        refine ej_iconst B.1 (v := 0) d_L_law_315 rfl ?_
        cases h
    · replace h := er_if h q40
      refine ej_iconst B.1 (v := 1) d_L_law_298 rfl ?_
      refine ej_goto B.1 (tgt := 303) d_L_law_299 (by decide) ?_
      obtain ⟨v47, g49, e48, h⟩ := er_bw_some h
      refine ej_cv_v (nc := 0) (ns := 0) B.1 [.int (xs (er_ix (x4 + 1))), .int 1] [] (ec_M_right (er_sub rfl rfl (er_prW B)) (xs (er_ix (x4 + 1))) 1 g37 (v47, g49) e48) cal_M_right lk_L_100 in_M_right (er_atW B 21 rfl rfl) rfl rfl se_M_right rfl B.2.2.2.1 d_L_law_303 ⟨Nat.le_of_ble_eq_true rfl, Nat.le_of_ble_eq_true rfl, hkc, hks⟩ (Nat.le_of_ble_eq_true rfl) rfl ?_
      refine ej_aload_n B.1 d_L_law_306 rfl ?_
      obtain ⟨v50, e51, h⟩ := er_bd_some h
      refine ej_cv_i (nc := 0) (ns := 0) B.1 [] [] (ec_M_thrown (er_sub rfl rfl (er_prW B)) g49 v50 e51) cal_M_thrown lk_L_89 in_M_thrown (er_atW B 21 rfl rfl) rfl rfl se_M_thrown rfl B.2.2.2.1 d_L_law_307 ⟨Nat.le_of_ble_eq_true rfl, Nat.le_of_ble_eq_true rfl, hkc, hks⟩ (Nat.le_of_ble_eq_true rfl) rfl ?_
      refine ej_iload B.1 d_L_law_310 rfl ?_
      refine ej_icmp_eq B.1 (tgt := 317) d_L_law_312 (by decide) (fun q52 => ?_) (fun q52 => ?_)
      · replace h := er_it h q52
        refine ej_goto B.1 (tgt := 1308) d_L_law_317 (by decide) ?_
        cases h
        exact ej_le (lv' := [some (.ref 40), some (.ref 0), some (.ref 21), some (.ref 39), some (.int x4), none, none]) ⟨rfl, ⟨rfl, ⟨rfl, ⟨rfl, ⟨rfl, trivial⟩⟩⟩⟩⟩ hk
      · replace h := er_if h q52
        refine ej_iconst B.1 (v := 0) d_L_law_315 rfl ?_
        cases h
  · replace h := er_if h q34
    refine ej_iconst B.1 (v := 1) d_L_law_272 rfl ?_
    refine ej_goto B.1 (tgt := 277) d_L_law_273 (by decide) ?_
    obtain ⟨v53, g55, e54, h⟩ := er_bw_some h
    refine ej_cs_i (nc := 1) (ns := 6) B.1 [.ref 0, .int (xs (er_ix (x4 + 1))), .int 1] [] (ec_L_right hl.2 (er_prW B) (xs (er_ix (x4 + 1))) 1 σ (v53, g55) e54) cal_L_right lk_L_97 st_L_right rfl B.2.2.2.1 d_L_law_277 ⟨Nat.le_of_ble_eq_true rfl, Nat.le_of_ble_eq_true rfl, hkc, hks⟩ (Nat.le_of_ble_eq_true rfl) rfl ?_
    refine ej_istore B.1 (lv' := [some (.ref 40), some (.ref 0), some (.ref 21), some (.ref 39), some (.int x4), some (.int v53), none]) d_L_law_280 rfl rfl rfl ?_
    refine ej_aload_n B.1 d_L_law_282 rfl ?_
    refine ej_aload_n B.1 d_L_law_283 rfl ?_
    refine ej_iload B.1 d_L_law_284 rfl ?_
    refine ej_iconst B.1 (v := 1) d_L_law_286 rfl ?_
    refine ej_iadd B.1 d_L_law_287 ?_
    obtain ⟨e56, h⟩ := er_gd_some h
    refine ej_sld B e56 d_L_law_288 ?_
    refine ej_aload_n B.1 d_L_law_289 rfl ?_
    refine ej_iload B.1 d_L_law_290 rfl ?_
    refine ej_iconst B.1 (v := 2) d_L_law_292 rfl ?_
    refine ej_iadd B.1 d_L_law_293 ?_
    obtain ⟨e57, h⟩ := er_gd_some h
    refine ej_sld B e57 d_L_law_294 ?_
    refine ej_if_eq B.1 (tgt := 302) d_L_law_295 (by decide) (fun q58 => ?_) (fun q58 => ?_)
    · replace h := er_it h q58
      refine ej_iconst B.1 (v := 0) d_L_law_302 rfl ?_
      obtain ⟨v59, g61, e60, h⟩ := er_bw_some h
      refine ej_cv_v (nc := 0) (ns := 0) B.1 [.int (xs (er_ix (x4 + 1))), .int 0] [] (ec_M_right (er_sub rfl rfl (er_prW B)) (xs (er_ix (x4 + 1))) 0 g55 (v59, g61) e60) cal_M_right lk_L_100 in_M_right (er_atW B 21 rfl rfl) rfl rfl se_M_right rfl B.2.2.2.1 d_L_law_303 ⟨Nat.le_of_ble_eq_true rfl, Nat.le_of_ble_eq_true rfl, hkc, hks⟩ (Nat.le_of_ble_eq_true rfl) rfl ?_
      refine ej_aload_n B.1 d_L_law_306 rfl ?_
      obtain ⟨v62, e63, h⟩ := er_bd_some h
      refine ej_cv_i (nc := 0) (ns := 0) B.1 [] [] (ec_M_thrown (er_sub rfl rfl (er_prW B)) g61 v62 e63) cal_M_thrown lk_L_89 in_M_thrown (er_atW B 21 rfl rfl) rfl rfl se_M_thrown rfl B.2.2.2.1 d_L_law_307 ⟨Nat.le_of_ble_eq_true rfl, Nat.le_of_ble_eq_true rfl, hkc, hks⟩ (Nat.le_of_ble_eq_true rfl) rfl ?_
      refine ej_iload B.1 d_L_law_310 rfl ?_
      refine ej_icmp_eq B.1 (tgt := 317) d_L_law_312 (by decide) (fun q64 => ?_) (fun q64 => ?_)
      · replace h := er_it h q64
        refine ej_goto B.1 (tgt := 1308) d_L_law_317 (by decide) ?_
        cases h
        exact ej_le (lv' := [some (.ref 40), some (.ref 0), some (.ref 21), some (.ref 39), some (.int x4), none, none]) ⟨rfl, ⟨rfl, ⟨rfl, ⟨rfl, ⟨rfl, trivial⟩⟩⟩⟩⟩ hk
      · replace h := er_if h q64
        refine ej_iconst B.1 (v := 0) d_L_law_315 rfl ?_
        cases h
    · replace h := er_if h q58
      refine ej_iconst B.1 (v := 1) d_L_law_298 rfl ?_
      refine ej_goto B.1 (tgt := 303) d_L_law_299 (by decide) ?_
      obtain ⟨v65, g67, e66, h⟩ := er_bw_some h
      refine ej_cv_v (nc := 0) (ns := 0) B.1 [.int (xs (er_ix (x4 + 1))), .int 1] [] (ec_M_right (er_sub rfl rfl (er_prW B)) (xs (er_ix (x4 + 1))) 1 g55 (v65, g67) e66) cal_M_right lk_L_100 in_M_right (er_atW B 21 rfl rfl) rfl rfl se_M_right rfl B.2.2.2.1 d_L_law_303 ⟨Nat.le_of_ble_eq_true rfl, Nat.le_of_ble_eq_true rfl, hkc, hks⟩ (Nat.le_of_ble_eq_true rfl) rfl ?_
      refine ej_aload_n B.1 d_L_law_306 rfl ?_
      obtain ⟨v68, e69, h⟩ := er_bd_some h
      refine ej_cv_i (nc := 0) (ns := 0) B.1 [] [] (ec_M_thrown (er_sub rfl rfl (er_prW B)) g67 v68 e69) cal_M_thrown lk_L_89 in_M_thrown (er_atW B 21 rfl rfl) rfl rfl se_M_thrown rfl B.2.2.2.1 d_L_law_307 ⟨Nat.le_of_ble_eq_true rfl, Nat.le_of_ble_eq_true rfl, hkc, hks⟩ (Nat.le_of_ble_eq_true rfl) rfl ?_
      refine ej_iload B.1 d_L_law_310 rfl ?_
      refine ej_icmp_eq B.1 (tgt := 317) d_L_law_312 (by decide) (fun q70 => ?_) (fun q70 => ?_)
      · replace h := er_it h q70
        refine ej_goto B.1 (tgt := 1308) d_L_law_317 (by decide) ?_
        cases h
        exact ej_le (lv' := [some (.ref 40), some (.ref 0), some (.ref 21), some (.ref 39), some (.int x4), none, none]) ⟨rfl, ⟨rfl, ⟨rfl, ⟨rfl, ⟨rfl, trivial⟩⟩⟩⟩⟩ hk
      · replace h := er_if h q70
        refine ej_iconst B.1 (v := 0) d_L_law_315 rfl ?_
        cases h
set_option maxRecDepth 100000 in
set_option maxHeartbeats 8000000 in
theorem ew_law_c3 {p : Program} {l : Launch} {e : Env} {s : State} {m : MethodId} {args : Array Value} {below : List Frame} {meth : Method} {c : Code} {G : er_G} {Q : State → Prop} {b L : Nat} {xs : Nat → Int32} {kc ks : Nat} (hl : l.admits e ∧ l.stackTraces = false) (B : er_BW p s m c G b L xs) (hkc : kc + 1 ≤ room_1.cells) (hks : ks + 6 ≤ room_1.slots) (x4 : Int32) (σ σ' : er_S) (h : el_c3 L xs x4 σ = some (some σ')) (hk : er_J p l e room_1 s m args below meth c G (fun q => s.heap.size ≤ q) s.heap Q (kc + 1) (ks + 6) σ' 1308 [some (.ref 40), some (.ref 0), some (.ref 21), some (.ref 39), some (.int x4), none, none] []) : er_J p l e room_1 s m args below meth c G (fun q => s.heap.size ≤ q) s.heap Q kc ks σ 320 [some (.ref 40), some (.ref 0), some (.ref 21), some (.ref 39), some (.int x4), none, none] [] := by
  unfold el_c3 at h
  refine ej_aload_n B.1 d_L_law_320 rfl ?_
  refine ej_aload_n B.1 d_L_law_321 rfl ?_
  refine ej_iload B.1 d_L_law_322 rfl ?_
  refine ej_iconst B.1 (v := 1) d_L_law_324 rfl ?_
  refine ej_iadd B.1 d_L_law_325 ?_
  obtain ⟨e71, h⟩ := er_gd_some h
  refine ej_sld B e71 d_L_law_326 ?_
  obtain ⟨v72, g74, e73, h⟩ := er_bw_some h
  refine ej_cs_i (nc := 1) (ns := 6) B.1 [.ref 0, .int (xs (er_ix (x4 + 1)))] [] (ec_L_rest hl.2 (er_prW B) (xs (er_ix (x4 + 1))) σ (v72, g74) e73) cal_L_rest lk_L_101 st_L_rest rfl B.2.2.2.1 d_L_law_327 ⟨Nat.le_of_ble_eq_true rfl, Nat.le_of_ble_eq_true rfl, hkc, hks⟩ (Nat.le_of_ble_eq_true rfl) rfl ?_
  refine ej_istore B.1 (lv' := [some (.ref 40), some (.ref 0), some (.ref 21), some (.ref 39), some (.int x4), some (.int v72), none]) d_L_law_330 rfl rfl rfl ?_
  refine ej_aload_n B.1 d_L_law_332 rfl ?_
  refine ej_aload_n B.1 d_L_law_333 rfl ?_
  refine ej_iload B.1 d_L_law_334 rfl ?_
  refine ej_iconst B.1 (v := 1) d_L_law_336 rfl ?_
  refine ej_iadd B.1 d_L_law_337 ?_
  obtain ⟨e75, h⟩ := er_gd_some h
  refine ej_sld B e75 d_L_law_338 ?_
  obtain ⟨v76, g78, e77, h⟩ := er_bw_some h
  refine ej_cv_v (nc := 0) (ns := 0) B.1 [.int (xs (er_ix (x4 + 1)))] [] (ec_M_rest (er_sub rfl rfl (er_prW B)) (xs (er_ix (x4 + 1))) g74 (v76, g78) e77) cal_M_rest lk_L_104 in_M_rest (er_atW B 21 rfl rfl) rfl rfl se_M_rest rfl B.2.2.2.1 d_L_law_339 ⟨Nat.le_of_ble_eq_true rfl, Nat.le_of_ble_eq_true rfl, hkc, hks⟩ (Nat.le_of_ble_eq_true rfl) rfl ?_
  refine ej_aload_n B.1 d_L_law_342 rfl ?_
  obtain ⟨v79, e80, h⟩ := er_bd_some h
  refine ej_cv_i (nc := 0) (ns := 0) B.1 [] [] (ec_M_thrown (er_sub rfl rfl (er_prW B)) g78 v79 e80) cal_M_thrown lk_L_89 in_M_thrown (er_atW B 21 rfl rfl) rfl rfl se_M_thrown rfl B.2.2.2.1 d_L_law_343 ⟨Nat.le_of_ble_eq_true rfl, Nat.le_of_ble_eq_true rfl, hkc, hks⟩ (Nat.le_of_ble_eq_true rfl) rfl ?_
  refine ej_iload B.1 d_L_law_346 rfl ?_
  refine ej_icmp_eq B.1 (tgt := 353) d_L_law_348 (by decide) (fun q81 => ?_) (fun q81 => ?_)
  · replace h := er_it h q81
    refine ej_goto B.1 (tgt := 1308) d_L_law_353 (by decide) ?_
    cases h
    exact ej_le (lv' := [some (.ref 40), some (.ref 0), some (.ref 21), some (.ref 39), some (.int x4), none, none]) ⟨rfl, ⟨rfl, ⟨rfl, ⟨rfl, ⟨rfl, trivial⟩⟩⟩⟩⟩ hk
  · replace h := er_if h q81
    refine ej_iconst B.1 (v := 0) d_L_law_351 rfl ?_
    cases h
set_option maxRecDepth 100000 in
set_option maxHeartbeats 8000000 in
theorem ew_law_c4 {p : Program} {l : Launch} {e : Env} {s : State} {m : MethodId} {args : Array Value} {below : List Frame} {meth : Method} {c : Code} {G : er_G} {Q : State → Prop} {b L : Nat} {xs : Nat → Int32} {kc ks : Nat} (hl : l.admits e ∧ l.stackTraces = false) (B : er_BW p s m c G b L xs) (hkc : kc + 1 ≤ room_1.cells) (hks : ks + 6 ≤ room_1.slots) (x4 : Int32) (σ σ' : er_S) (h : el_c4 L xs x4 σ = some (some σ')) (hk : er_J p l e room_1 s m args below meth c G (fun q => s.heap.size ≤ q) s.heap Q (kc + 1) (ks + 6) σ' 1308 [some (.ref 40), some (.ref 0), some (.ref 21), some (.ref 39), some (.int x4), none, none] []) : er_J p l e room_1 s m args below meth c G (fun q => s.heap.size ≤ q) s.heap Q kc ks σ 356 [some (.ref 40), some (.ref 0), some (.ref 21), some (.ref 39), some (.int x4), none, none] [] := by
  unfold el_c4 at h
  refine ej_aload_n B.1 d_L_law_356 rfl ?_
  refine ej_aload_n B.1 d_L_law_357 rfl ?_
  refine ej_iload B.1 d_L_law_358 rfl ?_
  refine ej_iconst B.1 (v := 1) d_L_law_360 rfl ?_
  refine ej_iadd B.1 d_L_law_361 ?_
  obtain ⟨e82, h⟩ := er_gd_some h
  refine ej_sld B e82 d_L_law_362 ?_
  refine ej_aload_n B.1 d_L_law_363 rfl ?_
  refine ej_iload B.1 d_L_law_364 rfl ?_
  refine ej_iconst B.1 (v := 2) d_L_law_366 rfl ?_
  refine ej_iadd B.1 d_L_law_367 ?_
  obtain ⟨e83, h⟩ := er_gd_some h
  refine ej_sld B e83 d_L_law_368 ?_
  obtain ⟨v84, g86, e85, h⟩ := er_bw_some h
  refine ej_cs_i (nc := 1) (ns := 6) B.1 [.ref 0, .int (xs (er_ix (x4 + 1))), .int (xs (er_ix (x4 + 2)))] [] (ec_L_heat hl.2 (er_prW B) (xs (er_ix (x4 + 1))) (xs (er_ix (x4 + 2))) σ (v84, g86) e85) cal_L_heat lk_L_105 st_L_heat rfl B.2.2.2.1 d_L_law_369 ⟨Nat.le_of_ble_eq_true rfl, Nat.le_of_ble_eq_true rfl, hkc, hks⟩ (Nat.le_of_ble_eq_true rfl) rfl ?_
  refine ej_istore B.1 (lv' := [some (.ref 40), some (.ref 0), some (.ref 21), some (.ref 39), some (.int x4), some (.int v84), none]) d_L_law_372 rfl rfl rfl ?_
  refine ej_aload_n B.1 d_L_law_374 rfl ?_
  refine ej_aload_n B.1 d_L_law_375 rfl ?_
  refine ej_iload B.1 d_L_law_376 rfl ?_
  refine ej_iconst B.1 (v := 1) d_L_law_378 rfl ?_
  refine ej_iadd B.1 d_L_law_379 ?_
  obtain ⟨e87, h⟩ := er_gd_some h
  refine ej_sld B e87 d_L_law_380 ?_
  refine ej_aload_n B.1 d_L_law_381 rfl ?_
  refine ej_iload B.1 d_L_law_382 rfl ?_
  refine ej_iconst B.1 (v := 2) d_L_law_384 rfl ?_
  refine ej_iadd B.1 d_L_law_385 ?_
  obtain ⟨e88, h⟩ := er_gd_some h
  refine ej_sld B e88 d_L_law_386 ?_
  obtain ⟨v89, g91, e90, h⟩ := er_bw_some h
  refine ej_cv_v (nc := 0) (ns := 0) B.1 [.int (xs (er_ix (x4 + 1))), .int (xs (er_ix (x4 + 2)))] [] (ec_M_heat (er_sub rfl rfl (er_prW B)) (xs (er_ix (x4 + 1))) (xs (er_ix (x4 + 2))) g86 (v89, g91) e90) cal_M_heat lk_L_107 in_M_heat (er_atW B 21 rfl rfl) rfl rfl se_M_heat rfl B.2.2.2.1 d_L_law_387 ⟨Nat.le_of_ble_eq_true rfl, Nat.le_of_ble_eq_true rfl, hkc, hks⟩ (Nat.le_of_ble_eq_true rfl) rfl ?_
  refine ej_aload_n B.1 d_L_law_390 rfl ?_
  obtain ⟨v92, e93, h⟩ := er_bd_some h
  refine ej_cv_i (nc := 0) (ns := 0) B.1 [] [] (ec_M_thrown (er_sub rfl rfl (er_prW B)) g91 v92 e93) cal_M_thrown lk_L_89 in_M_thrown (er_atW B 21 rfl rfl) rfl rfl se_M_thrown rfl B.2.2.2.1 d_L_law_391 ⟨Nat.le_of_ble_eq_true rfl, Nat.le_of_ble_eq_true rfl, hkc, hks⟩ (Nat.le_of_ble_eq_true rfl) rfl ?_
  refine ej_iload B.1 d_L_law_394 rfl ?_
  refine ej_icmp_eq B.1 (tgt := 401) d_L_law_396 (by decide) (fun q94 => ?_) (fun q94 => ?_)
  · replace h := er_it h q94
    refine ej_goto B.1 (tgt := 1308) d_L_law_401 (by decide) ?_
    cases h
    exact ej_le (lv' := [some (.ref 40), some (.ref 0), some (.ref 21), some (.ref 39), some (.int x4), none, none]) ⟨rfl, ⟨rfl, ⟨rfl, ⟨rfl, ⟨rfl, trivial⟩⟩⟩⟩⟩ hk
  · replace h := er_if h q94
    refine ej_iconst B.1 (v := 0) d_L_law_399 rfl ?_
    cases h
set_option maxRecDepth 100000 in
set_option maxHeartbeats 8000000 in
theorem ew_law_c5 {p : Program} {l : Launch} {e : Env} {s : State} {m : MethodId} {args : Array Value} {below : List Frame} {meth : Method} {c : Code} {G : er_G} {Q : State → Prop} {b L : Nat} {xs : Nat → Int32} {kc ks : Nat} (hl : l.admits e ∧ l.stackTraces = false) (B : er_BW p s m c G b L xs) (hkc : kc + 1 ≤ room_1.cells) (hks : ks + 6 ≤ room_1.slots) (x4 : Int32) (σ σ' : er_S) (h : el_c5 L xs x4 σ = some (some σ')) (hk : er_J p l e room_1 s m args below meth c G (fun q => s.heap.size ≤ q) s.heap Q (kc + 1) (ks + 6) σ' 1308 [some (.ref 40), some (.ref 0), some (.ref 21), some (.ref 39), some (.int x4), none, none] []) : er_J p l e room_1 s m args below meth c G (fun q => s.heap.size ≤ q) s.heap Q kc ks σ 404 [some (.ref 40), some (.ref 0), some (.ref 21), some (.ref 39), some (.int x4), none, none] [] := by
  unfold el_c5 at h
  refine ej_aload_n B.1 d_L_law_404 rfl ?_
  refine ej_aload_n B.1 d_L_law_405 rfl ?_
  refine ej_iload B.1 d_L_law_406 rfl ?_
  refine ej_iconst B.1 (v := 1) d_L_law_408 rfl ?_
  refine ej_iadd B.1 d_L_law_409 ?_
  obtain ⟨e95, h⟩ := er_gd_some h
  refine ej_sld B e95 d_L_law_410 ?_
  refine ej_aload_n B.1 d_L_law_411 rfl ?_
  refine ej_iload B.1 d_L_law_412 rfl ?_
  refine ej_iconst B.1 (v := 2) d_L_law_414 rfl ?_
  refine ej_iadd B.1 d_L_law_415 ?_
  obtain ⟨e96, h⟩ := er_gd_some h
  refine ej_sld B e96 d_L_law_416 ?_
  refine ej_aload_n B.1 d_L_law_417 rfl ?_
  refine ej_iload B.1 d_L_law_418 rfl ?_
  refine ej_iconst B.1 (v := 3) d_L_law_420 rfl ?_
  refine ej_iadd B.1 d_L_law_421 ?_
  obtain ⟨e97, h⟩ := er_gd_some h
  refine ej_sld B e97 d_L_law_422 ?_
  refine ej_if_eq B.1 (tgt := 430) d_L_law_423 (by decide) (fun q98 => ?_) (fun q98 => ?_)
  · replace h := er_it h q98
    refine ej_iconst B.1 (v := 0) d_L_law_430 rfl ?_
    refine ej_aload_n B.1 d_L_law_431 rfl ?_
    obtain ⟨v99, g101, e100, h⟩ := er_bw_some h
    refine ej_cs_i (nc := 1) (ns := 6) B.1 [.ref 0, .int (xs (er_ix (x4 + 1))), .int (xs (er_ix (x4 + 2))), .int 0, .ref 39] [] (ec_L_member hl.2 (er_prW B) (xs (er_ix (x4 + 1))) (xs (er_ix (x4 + 2))) 0 σ (v99, g101) e100) cal_L_member lk_L_108 st_L_member rfl B.2.2.2.1 d_L_law_432 ⟨Nat.le_of_ble_eq_true rfl, Nat.le_of_ble_eq_true rfl, hkc, hks⟩ (Nat.le_of_ble_eq_true rfl) rfl ?_
    refine ej_istore B.1 (lv' := [some (.ref 40), some (.ref 0), some (.ref 21), some (.ref 39), some (.int x4), some (.int v99), none]) d_L_law_435 rfl rfl rfl ?_
    refine ej_aload_n B.1 d_L_law_437 rfl ?_
    refine ej_aload_n B.1 d_L_law_438 rfl ?_
    refine ej_iload B.1 d_L_law_439 rfl ?_
    refine ej_iconst B.1 (v := 1) d_L_law_441 rfl ?_
    refine ej_iadd B.1 d_L_law_442 ?_
    obtain ⟨e102, h⟩ := er_gd_some h
    refine ej_sld B e102 d_L_law_443 ?_
    refine ej_aload_n B.1 d_L_law_444 rfl ?_
    refine ej_iload B.1 d_L_law_445 rfl ?_
    refine ej_iconst B.1 (v := 2) d_L_law_447 rfl ?_
    refine ej_iadd B.1 d_L_law_448 ?_
    obtain ⟨e103, h⟩ := er_gd_some h
    refine ej_sld B e103 d_L_law_449 ?_
    refine ej_aload_n B.1 d_L_law_450 rfl ?_
    refine ej_iload B.1 d_L_law_451 rfl ?_
    refine ej_iconst B.1 (v := 3) d_L_law_453 rfl ?_
    refine ej_iadd B.1 d_L_law_454 ?_
    obtain ⟨e104, h⟩ := er_gd_some h
    refine ej_sld B e104 d_L_law_455 ?_
    refine ej_if_eq B.1 (tgt := 463) d_L_law_456 (by decide) (fun q105 => ?_) (fun q105 => ?_)
    · replace h := er_it h q105
      refine ej_iconst B.1 (v := 0) d_L_law_463 rfl ?_
      obtain ⟨v106, g108, e107, h⟩ := er_bw_some h
      refine ej_cv_i (nc := 0) (ns := 0) B.1 [.int (xs (er_ix (x4 + 1))), .int (xs (er_ix (x4 + 2))), .int 0] [] (ec_M_member (er_sub rfl rfl (er_prW B)) (xs (er_ix (x4 + 1))) (xs (er_ix (x4 + 2))) 0 g101 (v106, g108) e107) cal_M_member lk_L_111 in_M_member (er_atW B 21 rfl rfl) rfl rfl se_M_member rfl B.2.2.2.1 d_L_law_464 ⟨Nat.le_of_ble_eq_true rfl, Nat.le_of_ble_eq_true rfl, hkc, hks⟩ (Nat.le_of_ble_eq_true rfl) rfl ?_
      refine ej_istore B.1 (lv' := [some (.ref 40), some (.ref 0), some (.ref 21), some (.ref 39), some (.int x4), some (.int v99), some (.int v106)]) d_L_law_467 rfl rfl rfl ?_
      refine ej_aload_n B.1 d_L_law_469 rfl ?_
      obtain ⟨v109, e110, h⟩ := er_bd_some h
      refine ej_cv_i (nc := 0) (ns := 0) B.1 [] [] (ec_M_thrown (er_sub rfl rfl (er_prW B)) g108 v109 e110) cal_M_thrown lk_L_89 in_M_thrown (er_atW B 21 rfl rfl) rfl rfl se_M_thrown rfl B.2.2.2.1 d_L_law_470 ⟨Nat.le_of_ble_eq_true rfl, Nat.le_of_ble_eq_true rfl, hkc, hks⟩ (Nat.le_of_ble_eq_true rfl) rfl ?_
      refine ej_iload B.1 d_L_law_473 rfl ?_
      refine ej_icmp_eq B.1 (tgt := 480) d_L_law_475 (by decide) (fun q111 => ?_) (fun q111 => ?_)
      · replace h := er_it h q111
        refine ej_iload B.1 d_L_law_480 rfl ?_
        refine ej_if_ne B.1 (tgt := 497) d_L_law_482 (by decide) (fun q112 => ?_) (fun q112 => ?_)
        · replace h := er_if h q112
          refine ej_goto B.1 (tgt := 1308) d_L_law_497 (by decide) ?_
          cases h
          exact ej_le (lv' := [some (.ref 40), some (.ref 0), some (.ref 21), some (.ref 39), some (.int x4), none, none]) ⟨rfl, ⟨rfl, ⟨rfl, ⟨rfl, ⟨rfl, trivial⟩⟩⟩⟩⟩ hk
        · replace h := er_it h q112
          refine ej_aload_n B.1 d_L_law_485 rfl ?_
          refine ej_iconst B.1 (v := 0) d_L_law_486 rfl ?_
          obtain ⟨e113, h⟩ := er_gd_some h
          refine ej_lald B.1 (er_atW B 39 rfl rfl) rfl e113 d_L_law_487 ?_
          refine ej_iload B.1 d_L_law_488 rfl ?_
          refine ej_i2l B.1 d_L_law_490 ?_
          refine ej_lcmp B.1 d_L_law_491 ?_
          refine ej_if_eq B.1 (tgt := 497) d_L_law_492 (by decide) (fun q114 => ?_) (fun q114 => ?_)
          · replace h := er_it h q114
            refine ej_goto B.1 (tgt := 1308) d_L_law_497 (by decide) ?_
            cases h
            exact ej_le (lv' := [some (.ref 40), some (.ref 0), some (.ref 21), some (.ref 39), some (.int x4), none, none]) ⟨rfl, ⟨rfl, ⟨rfl, ⟨rfl, ⟨rfl, trivial⟩⟩⟩⟩⟩ hk
          · replace h := er_if h q114
            refine ej_iconst B.1 (v := 0) d_L_law_495 rfl ?_
            cases h
      · replace h := er_if h q111
        refine ej_iconst B.1 (v := 0) d_L_law_478 rfl ?_
        cases h
    · replace h := er_if h q105
      refine ej_iconst B.1 (v := 1) d_L_law_459 rfl ?_
      refine ej_goto B.1 (tgt := 464) d_L_law_460 (by decide) ?_
      obtain ⟨v115, g117, e116, h⟩ := er_bw_some h
      refine ej_cv_i (nc := 0) (ns := 0) B.1 [.int (xs (er_ix (x4 + 1))), .int (xs (er_ix (x4 + 2))), .int 1] [] (ec_M_member (er_sub rfl rfl (er_prW B)) (xs (er_ix (x4 + 1))) (xs (er_ix (x4 + 2))) 1 g101 (v115, g117) e116) cal_M_member lk_L_111 in_M_member (er_atW B 21 rfl rfl) rfl rfl se_M_member rfl B.2.2.2.1 d_L_law_464 ⟨Nat.le_of_ble_eq_true rfl, Nat.le_of_ble_eq_true rfl, hkc, hks⟩ (Nat.le_of_ble_eq_true rfl) rfl ?_
      refine ej_istore B.1 (lv' := [some (.ref 40), some (.ref 0), some (.ref 21), some (.ref 39), some (.int x4), some (.int v99), some (.int v115)]) d_L_law_467 rfl rfl rfl ?_
      refine ej_aload_n B.1 d_L_law_469 rfl ?_
      obtain ⟨v118, e119, h⟩ := er_bd_some h
      refine ej_cv_i (nc := 0) (ns := 0) B.1 [] [] (ec_M_thrown (er_sub rfl rfl (er_prW B)) g117 v118 e119) cal_M_thrown lk_L_89 in_M_thrown (er_atW B 21 rfl rfl) rfl rfl se_M_thrown rfl B.2.2.2.1 d_L_law_470 ⟨Nat.le_of_ble_eq_true rfl, Nat.le_of_ble_eq_true rfl, hkc, hks⟩ (Nat.le_of_ble_eq_true rfl) rfl ?_
      refine ej_iload B.1 d_L_law_473 rfl ?_
      refine ej_icmp_eq B.1 (tgt := 480) d_L_law_475 (by decide) (fun q120 => ?_) (fun q120 => ?_)
      · replace h := er_it h q120
        refine ej_iload B.1 d_L_law_480 rfl ?_
        refine ej_if_ne B.1 (tgt := 497) d_L_law_482 (by decide) (fun q121 => ?_) (fun q121 => ?_)
        · replace h := er_if h q121
          refine ej_goto B.1 (tgt := 1308) d_L_law_497 (by decide) ?_
          cases h
          exact ej_le (lv' := [some (.ref 40), some (.ref 0), some (.ref 21), some (.ref 39), some (.int x4), none, none]) ⟨rfl, ⟨rfl, ⟨rfl, ⟨rfl, ⟨rfl, trivial⟩⟩⟩⟩⟩ hk
        · replace h := er_it h q121
          refine ej_aload_n B.1 d_L_law_485 rfl ?_
          refine ej_iconst B.1 (v := 0) d_L_law_486 rfl ?_
          obtain ⟨e122, h⟩ := er_gd_some h
          refine ej_lald B.1 (er_atW B 39 rfl rfl) rfl e122 d_L_law_487 ?_
          refine ej_iload B.1 d_L_law_488 rfl ?_
          refine ej_i2l B.1 d_L_law_490 ?_
          refine ej_lcmp B.1 d_L_law_491 ?_
          refine ej_if_eq B.1 (tgt := 497) d_L_law_492 (by decide) (fun q123 => ?_) (fun q123 => ?_)
          · replace h := er_it h q123
            refine ej_goto B.1 (tgt := 1308) d_L_law_497 (by decide) ?_
            cases h
            exact ej_le (lv' := [some (.ref 40), some (.ref 0), some (.ref 21), some (.ref 39), some (.int x4), none, none]) ⟨rfl, ⟨rfl, ⟨rfl, ⟨rfl, ⟨rfl, trivial⟩⟩⟩⟩⟩ hk
          · replace h := er_if h q123
            refine ej_iconst B.1 (v := 0) d_L_law_495 rfl ?_
            cases h
      · replace h := er_if h q120
        refine ej_iconst B.1 (v := 0) d_L_law_478 rfl ?_
        cases h
  · replace h := er_if h q98
    refine ej_iconst B.1 (v := 1) d_L_law_426 rfl ?_
    refine ej_goto B.1 (tgt := 431) d_L_law_427 (by decide) ?_
    refine ej_aload_n B.1 d_L_law_431 rfl ?_
    obtain ⟨v124, g126, e125, h⟩ := er_bw_some h
    refine ej_cs_i (nc := 1) (ns := 6) B.1 [.ref 0, .int (xs (er_ix (x4 + 1))), .int (xs (er_ix (x4 + 2))), .int 1, .ref 39] [] (ec_L_member hl.2 (er_prW B) (xs (er_ix (x4 + 1))) (xs (er_ix (x4 + 2))) 1 σ (v124, g126) e125) cal_L_member lk_L_108 st_L_member rfl B.2.2.2.1 d_L_law_432 ⟨Nat.le_of_ble_eq_true rfl, Nat.le_of_ble_eq_true rfl, hkc, hks⟩ (Nat.le_of_ble_eq_true rfl) rfl ?_
    refine ej_istore B.1 (lv' := [some (.ref 40), some (.ref 0), some (.ref 21), some (.ref 39), some (.int x4), some (.int v124), none]) d_L_law_435 rfl rfl rfl ?_
    refine ej_aload_n B.1 d_L_law_437 rfl ?_
    refine ej_aload_n B.1 d_L_law_438 rfl ?_
    refine ej_iload B.1 d_L_law_439 rfl ?_
    refine ej_iconst B.1 (v := 1) d_L_law_441 rfl ?_
    refine ej_iadd B.1 d_L_law_442 ?_
    obtain ⟨e127, h⟩ := er_gd_some h
    refine ej_sld B e127 d_L_law_443 ?_
    refine ej_aload_n B.1 d_L_law_444 rfl ?_
    refine ej_iload B.1 d_L_law_445 rfl ?_
    refine ej_iconst B.1 (v := 2) d_L_law_447 rfl ?_
    refine ej_iadd B.1 d_L_law_448 ?_
    obtain ⟨e128, h⟩ := er_gd_some h
    refine ej_sld B e128 d_L_law_449 ?_
    refine ej_aload_n B.1 d_L_law_450 rfl ?_
    refine ej_iload B.1 d_L_law_451 rfl ?_
    refine ej_iconst B.1 (v := 3) d_L_law_453 rfl ?_
    refine ej_iadd B.1 d_L_law_454 ?_
    obtain ⟨e129, h⟩ := er_gd_some h
    refine ej_sld B e129 d_L_law_455 ?_
    refine ej_if_eq B.1 (tgt := 463) d_L_law_456 (by decide) (fun q130 => ?_) (fun q130 => ?_)
    · replace h := er_it h q130
      refine ej_iconst B.1 (v := 0) d_L_law_463 rfl ?_
      obtain ⟨v131, g133, e132, h⟩ := er_bw_some h
      refine ej_cv_i (nc := 0) (ns := 0) B.1 [.int (xs (er_ix (x4 + 1))), .int (xs (er_ix (x4 + 2))), .int 0] [] (ec_M_member (er_sub rfl rfl (er_prW B)) (xs (er_ix (x4 + 1))) (xs (er_ix (x4 + 2))) 0 g126 (v131, g133) e132) cal_M_member lk_L_111 in_M_member (er_atW B 21 rfl rfl) rfl rfl se_M_member rfl B.2.2.2.1 d_L_law_464 ⟨Nat.le_of_ble_eq_true rfl, Nat.le_of_ble_eq_true rfl, hkc, hks⟩ (Nat.le_of_ble_eq_true rfl) rfl ?_
      refine ej_istore B.1 (lv' := [some (.ref 40), some (.ref 0), some (.ref 21), some (.ref 39), some (.int x4), some (.int v124), some (.int v131)]) d_L_law_467 rfl rfl rfl ?_
      refine ej_aload_n B.1 d_L_law_469 rfl ?_
      obtain ⟨v134, e135, h⟩ := er_bd_some h
      refine ej_cv_i (nc := 0) (ns := 0) B.1 [] [] (ec_M_thrown (er_sub rfl rfl (er_prW B)) g133 v134 e135) cal_M_thrown lk_L_89 in_M_thrown (er_atW B 21 rfl rfl) rfl rfl se_M_thrown rfl B.2.2.2.1 d_L_law_470 ⟨Nat.le_of_ble_eq_true rfl, Nat.le_of_ble_eq_true rfl, hkc, hks⟩ (Nat.le_of_ble_eq_true rfl) rfl ?_
      refine ej_iload B.1 d_L_law_473 rfl ?_
      refine ej_icmp_eq B.1 (tgt := 480) d_L_law_475 (by decide) (fun q136 => ?_) (fun q136 => ?_)
      · replace h := er_it h q136
        refine ej_iload B.1 d_L_law_480 rfl ?_
        refine ej_if_ne B.1 (tgt := 497) d_L_law_482 (by decide) (fun q137 => ?_) (fun q137 => ?_)
        · replace h := er_if h q137
          refine ej_goto B.1 (tgt := 1308) d_L_law_497 (by decide) ?_
          cases h
          exact ej_le (lv' := [some (.ref 40), some (.ref 0), some (.ref 21), some (.ref 39), some (.int x4), none, none]) ⟨rfl, ⟨rfl, ⟨rfl, ⟨rfl, ⟨rfl, trivial⟩⟩⟩⟩⟩ hk
        · replace h := er_it h q137
          refine ej_aload_n B.1 d_L_law_485 rfl ?_
          refine ej_iconst B.1 (v := 0) d_L_law_486 rfl ?_
          obtain ⟨e138, h⟩ := er_gd_some h
          refine ej_lald B.1 (er_atW B 39 rfl rfl) rfl e138 d_L_law_487 ?_
          refine ej_iload B.1 d_L_law_488 rfl ?_
          refine ej_i2l B.1 d_L_law_490 ?_
          refine ej_lcmp B.1 d_L_law_491 ?_
          refine ej_if_eq B.1 (tgt := 497) d_L_law_492 (by decide) (fun q139 => ?_) (fun q139 => ?_)
          · replace h := er_it h q139
            refine ej_goto B.1 (tgt := 1308) d_L_law_497 (by decide) ?_
            cases h
            exact ej_le (lv' := [some (.ref 40), some (.ref 0), some (.ref 21), some (.ref 39), some (.int x4), none, none]) ⟨rfl, ⟨rfl, ⟨rfl, ⟨rfl, ⟨rfl, trivial⟩⟩⟩⟩⟩ hk
          · replace h := er_if h q139
            refine ej_iconst B.1 (v := 0) d_L_law_495 rfl ?_
            cases h
      · replace h := er_if h q136
        refine ej_iconst B.1 (v := 0) d_L_law_478 rfl ?_
        cases h
    · replace h := er_if h q130
      refine ej_iconst B.1 (v := 1) d_L_law_459 rfl ?_
      refine ej_goto B.1 (tgt := 464) d_L_law_460 (by decide) ?_
      obtain ⟨v140, g142, e141, h⟩ := er_bw_some h
      refine ej_cv_i (nc := 0) (ns := 0) B.1 [.int (xs (er_ix (x4 + 1))), .int (xs (er_ix (x4 + 2))), .int 1] [] (ec_M_member (er_sub rfl rfl (er_prW B)) (xs (er_ix (x4 + 1))) (xs (er_ix (x4 + 2))) 1 g126 (v140, g142) e141) cal_M_member lk_L_111 in_M_member (er_atW B 21 rfl rfl) rfl rfl se_M_member rfl B.2.2.2.1 d_L_law_464 ⟨Nat.le_of_ble_eq_true rfl, Nat.le_of_ble_eq_true rfl, hkc, hks⟩ (Nat.le_of_ble_eq_true rfl) rfl ?_
      refine ej_istore B.1 (lv' := [some (.ref 40), some (.ref 0), some (.ref 21), some (.ref 39), some (.int x4), some (.int v124), some (.int v140)]) d_L_law_467 rfl rfl rfl ?_
      refine ej_aload_n B.1 d_L_law_469 rfl ?_
      obtain ⟨v143, e144, h⟩ := er_bd_some h
      refine ej_cv_i (nc := 0) (ns := 0) B.1 [] [] (ec_M_thrown (er_sub rfl rfl (er_prW B)) g142 v143 e144) cal_M_thrown lk_L_89 in_M_thrown (er_atW B 21 rfl rfl) rfl rfl se_M_thrown rfl B.2.2.2.1 d_L_law_470 ⟨Nat.le_of_ble_eq_true rfl, Nat.le_of_ble_eq_true rfl, hkc, hks⟩ (Nat.le_of_ble_eq_true rfl) rfl ?_
      refine ej_iload B.1 d_L_law_473 rfl ?_
      refine ej_icmp_eq B.1 (tgt := 480) d_L_law_475 (by decide) (fun q145 => ?_) (fun q145 => ?_)
      · replace h := er_it h q145
        refine ej_iload B.1 d_L_law_480 rfl ?_
        refine ej_if_ne B.1 (tgt := 497) d_L_law_482 (by decide) (fun q146 => ?_) (fun q146 => ?_)
        · replace h := er_if h q146
          refine ej_goto B.1 (tgt := 1308) d_L_law_497 (by decide) ?_
          cases h
          exact ej_le (lv' := [some (.ref 40), some (.ref 0), some (.ref 21), some (.ref 39), some (.int x4), none, none]) ⟨rfl, ⟨rfl, ⟨rfl, ⟨rfl, ⟨rfl, trivial⟩⟩⟩⟩⟩ hk
        · replace h := er_it h q146
          refine ej_aload_n B.1 d_L_law_485 rfl ?_
          refine ej_iconst B.1 (v := 0) d_L_law_486 rfl ?_
          obtain ⟨e147, h⟩ := er_gd_some h
          refine ej_lald B.1 (er_atW B 39 rfl rfl) rfl e147 d_L_law_487 ?_
          refine ej_iload B.1 d_L_law_488 rfl ?_
          refine ej_i2l B.1 d_L_law_490 ?_
          refine ej_lcmp B.1 d_L_law_491 ?_
          refine ej_if_eq B.1 (tgt := 497) d_L_law_492 (by decide) (fun q148 => ?_) (fun q148 => ?_)
          · replace h := er_it h q148
            refine ej_goto B.1 (tgt := 1308) d_L_law_497 (by decide) ?_
            cases h
            exact ej_le (lv' := [some (.ref 40), some (.ref 0), some (.ref 21), some (.ref 39), some (.int x4), none, none]) ⟨rfl, ⟨rfl, ⟨rfl, ⟨rfl, ⟨rfl, trivial⟩⟩⟩⟩⟩ hk
          · replace h := er_if h q148
            refine ej_iconst B.1 (v := 0) d_L_law_495 rfl ?_
            cases h
      · replace h := er_if h q145
        refine ej_iconst B.1 (v := 0) d_L_law_478 rfl ?_
        cases h
set_option maxRecDepth 100000 in
set_option maxHeartbeats 8000000 in
theorem ew_law_c6 {p : Program} {l : Launch} {e : Env} {s : State} {m : MethodId} {args : Array Value} {below : List Frame} {meth : Method} {c : Code} {G : er_G} {Q : State → Prop} {b L : Nat} {xs : Nat → Int32} {kc ks : Nat} (hl : l.admits e ∧ l.stackTraces = false) (B : er_BW p s m c G b L xs) (hkc : kc + 1 ≤ room_1.cells) (hks : ks + 6 ≤ room_1.slots) (x4 : Int32) (σ σ' : er_S) (h : el_c6 L xs x4 σ = some (some σ')) (hk : er_J p l e room_1 s m args below meth c G (fun q => s.heap.size ≤ q) s.heap Q (kc + 1) (ks + 6) σ' 1308 [some (.ref 40), some (.ref 0), some (.ref 21), some (.ref 39), some (.int x4), none, none] []) : er_J p l e room_1 s m args below meth c G (fun q => s.heap.size ≤ q) s.heap Q kc ks σ 500 [some (.ref 40), some (.ref 0), some (.ref 21), some (.ref 39), some (.int x4), none, none] [] := by
  unfold el_c6 at h
  refine ej_aload_n B.1 d_L_law_500 rfl ?_
  refine ej_aload_n B.1 d_L_law_501 rfl ?_
  refine ej_iload B.1 d_L_law_502 rfl ?_
  refine ej_iconst B.1 (v := 1) d_L_law_504 rfl ?_
  refine ej_iadd B.1 d_L_law_505 ?_
  obtain ⟨e149, h⟩ := er_gd_some h
  refine ej_sld B e149 d_L_law_506 ?_
  refine ej_aload_n B.1 d_L_law_507 rfl ?_
  refine ej_iload B.1 d_L_law_508 rfl ?_
  refine ej_iconst B.1 (v := 2) d_L_law_510 rfl ?_
  refine ej_iadd B.1 d_L_law_511 ?_
  obtain ⟨e150, h⟩ := er_gd_some h
  refine ej_sld B e150 d_L_law_512 ?_
  refine ej_aload_n B.1 d_L_law_513 rfl ?_
  refine ej_iload B.1 d_L_law_514 rfl ?_
  refine ej_iconst B.1 (v := 3) d_L_law_516 rfl ?_
  refine ej_iadd B.1 d_L_law_517 ?_
  obtain ⟨e151, h⟩ := er_gd_some h
  refine ej_sld B e151 d_L_law_518 ?_
  refine ej_if_eq B.1 (tgt := 526) d_L_law_519 (by decide) (fun q152 => ?_) (fun q152 => ?_)
  · replace h := er_it h q152
    refine ej_iconst B.1 (v := 0) d_L_law_526 rfl ?_
    refine ej_aload_n B.1 d_L_law_527 rfl ?_
    obtain ⟨v153, g155, e154, h⟩ := er_bw_some h
    refine ej_cs_i (nc := 1) (ns := 6) B.1 [.ref 0, .int (xs (er_ix (x4 + 1))), .int (xs (er_ix (x4 + 2))), .int 0, .ref 39] [] (ec_L_safety hl.2 (er_prW B) (xs (er_ix (x4 + 1))) (xs (er_ix (x4 + 2))) 0 σ (v153, g155) e154) cal_L_safety lk_L_112 st_L_safety rfl B.2.2.2.1 d_L_law_528 ⟨Nat.le_of_ble_eq_true rfl, Nat.le_of_ble_eq_true rfl, hkc, hks⟩ (Nat.le_of_ble_eq_true rfl) rfl ?_
    refine ej_istore B.1 (lv' := [some (.ref 40), some (.ref 0), some (.ref 21), some (.ref 39), some (.int x4), some (.int v153), none]) d_L_law_531 rfl rfl rfl ?_
    refine ej_aload_n B.1 d_L_law_533 rfl ?_
    refine ej_aload_n B.1 d_L_law_534 rfl ?_
    refine ej_iload B.1 d_L_law_535 rfl ?_
    refine ej_iconst B.1 (v := 1) d_L_law_537 rfl ?_
    refine ej_iadd B.1 d_L_law_538 ?_
    obtain ⟨e156, h⟩ := er_gd_some h
    refine ej_sld B e156 d_L_law_539 ?_
    refine ej_aload_n B.1 d_L_law_540 rfl ?_
    refine ej_iload B.1 d_L_law_541 rfl ?_
    refine ej_iconst B.1 (v := 2) d_L_law_543 rfl ?_
    refine ej_iadd B.1 d_L_law_544 ?_
    obtain ⟨e157, h⟩ := er_gd_some h
    refine ej_sld B e157 d_L_law_545 ?_
    refine ej_aload_n B.1 d_L_law_546 rfl ?_
    refine ej_iload B.1 d_L_law_547 rfl ?_
    refine ej_iconst B.1 (v := 3) d_L_law_549 rfl ?_
    refine ej_iadd B.1 d_L_law_550 ?_
    obtain ⟨e158, h⟩ := er_gd_some h
    refine ej_sld B e158 d_L_law_551 ?_
    refine ej_if_eq B.1 (tgt := 559) d_L_law_552 (by decide) (fun q159 => ?_) (fun q159 => ?_)
    · replace h := er_it h q159
      refine ej_iconst B.1 (v := 0) d_L_law_559 rfl ?_
      obtain ⟨v160, g162, e161, h⟩ := er_bw_some h
      refine ej_cv_i (nc := 0) (ns := 0) B.1 [.int (xs (er_ix (x4 + 1))), .int (xs (er_ix (x4 + 2))), .int 0] [] (ec_M_safety (er_sub rfl rfl (er_prW B)) (xs (er_ix (x4 + 1))) (xs (er_ix (x4 + 2))) 0 g155 (v160, g162) e161) cal_M_safety lk_L_114 in_M_safety (er_atW B 21 rfl rfl) rfl rfl se_M_safety rfl B.2.2.2.1 d_L_law_560 ⟨Nat.le_of_ble_eq_true rfl, Nat.le_of_ble_eq_true rfl, hkc, hks⟩ (Nat.le_of_ble_eq_true rfl) rfl ?_
      refine ej_istore B.1 (lv' := [some (.ref 40), some (.ref 0), some (.ref 21), some (.ref 39), some (.int x4), some (.int v153), some (.int v160)]) d_L_law_563 rfl rfl rfl ?_
      refine ej_aload_n B.1 d_L_law_565 rfl ?_
      obtain ⟨v163, e164, h⟩ := er_bd_some h
      refine ej_cv_i (nc := 0) (ns := 0) B.1 [] [] (ec_M_thrown (er_sub rfl rfl (er_prW B)) g162 v163 e164) cal_M_thrown lk_L_89 in_M_thrown (er_atW B 21 rfl rfl) rfl rfl se_M_thrown rfl B.2.2.2.1 d_L_law_566 ⟨Nat.le_of_ble_eq_true rfl, Nat.le_of_ble_eq_true rfl, hkc, hks⟩ (Nat.le_of_ble_eq_true rfl) rfl ?_
      refine ej_iload B.1 d_L_law_569 rfl ?_
      refine ej_icmp_eq B.1 (tgt := 576) d_L_law_571 (by decide) (fun q165 => ?_) (fun q165 => ?_)
      · replace h := er_it h q165
        refine ej_iload B.1 d_L_law_576 rfl ?_
        refine ej_if_ne B.1 (tgt := 593) d_L_law_578 (by decide) (fun q166 => ?_) (fun q166 => ?_)
        · replace h := er_if h q166
          refine ej_goto B.1 (tgt := 1308) d_L_law_593 (by decide) ?_
          cases h
          exact ej_le (lv' := [some (.ref 40), some (.ref 0), some (.ref 21), some (.ref 39), some (.int x4), none, none]) ⟨rfl, ⟨rfl, ⟨rfl, ⟨rfl, ⟨rfl, trivial⟩⟩⟩⟩⟩ hk
        · replace h := er_it h q166
          refine ej_aload_n B.1 d_L_law_581 rfl ?_
          refine ej_iconst B.1 (v := 0) d_L_law_582 rfl ?_
          obtain ⟨e167, h⟩ := er_gd_some h
          refine ej_lald B.1 (er_atW B 39 rfl rfl) rfl e167 d_L_law_583 ?_
          refine ej_iload B.1 d_L_law_584 rfl ?_
          refine ej_i2l B.1 d_L_law_586 ?_
          refine ej_lcmp B.1 d_L_law_587 ?_
          refine ej_if_eq B.1 (tgt := 593) d_L_law_588 (by decide) (fun q168 => ?_) (fun q168 => ?_)
          · replace h := er_it h q168
            refine ej_goto B.1 (tgt := 1308) d_L_law_593 (by decide) ?_
            cases h
            exact ej_le (lv' := [some (.ref 40), some (.ref 0), some (.ref 21), some (.ref 39), some (.int x4), none, none]) ⟨rfl, ⟨rfl, ⟨rfl, ⟨rfl, ⟨rfl, trivial⟩⟩⟩⟩⟩ hk
          · replace h := er_if h q168
            refine ej_iconst B.1 (v := 0) d_L_law_591 rfl ?_
            cases h
      · replace h := er_if h q165
        refine ej_iconst B.1 (v := 0) d_L_law_574 rfl ?_
        cases h
    · replace h := er_if h q159
      refine ej_iconst B.1 (v := 1) d_L_law_555 rfl ?_
      refine ej_goto B.1 (tgt := 560) d_L_law_556 (by decide) ?_
      obtain ⟨v169, g171, e170, h⟩ := er_bw_some h
      refine ej_cv_i (nc := 0) (ns := 0) B.1 [.int (xs (er_ix (x4 + 1))), .int (xs (er_ix (x4 + 2))), .int 1] [] (ec_M_safety (er_sub rfl rfl (er_prW B)) (xs (er_ix (x4 + 1))) (xs (er_ix (x4 + 2))) 1 g155 (v169, g171) e170) cal_M_safety lk_L_114 in_M_safety (er_atW B 21 rfl rfl) rfl rfl se_M_safety rfl B.2.2.2.1 d_L_law_560 ⟨Nat.le_of_ble_eq_true rfl, Nat.le_of_ble_eq_true rfl, hkc, hks⟩ (Nat.le_of_ble_eq_true rfl) rfl ?_
      refine ej_istore B.1 (lv' := [some (.ref 40), some (.ref 0), some (.ref 21), some (.ref 39), some (.int x4), some (.int v153), some (.int v169)]) d_L_law_563 rfl rfl rfl ?_
      refine ej_aload_n B.1 d_L_law_565 rfl ?_
      obtain ⟨v172, e173, h⟩ := er_bd_some h
      refine ej_cv_i (nc := 0) (ns := 0) B.1 [] [] (ec_M_thrown (er_sub rfl rfl (er_prW B)) g171 v172 e173) cal_M_thrown lk_L_89 in_M_thrown (er_atW B 21 rfl rfl) rfl rfl se_M_thrown rfl B.2.2.2.1 d_L_law_566 ⟨Nat.le_of_ble_eq_true rfl, Nat.le_of_ble_eq_true rfl, hkc, hks⟩ (Nat.le_of_ble_eq_true rfl) rfl ?_
      refine ej_iload B.1 d_L_law_569 rfl ?_
      refine ej_icmp_eq B.1 (tgt := 576) d_L_law_571 (by decide) (fun q174 => ?_) (fun q174 => ?_)
      · replace h := er_it h q174
        refine ej_iload B.1 d_L_law_576 rfl ?_
        refine ej_if_ne B.1 (tgt := 593) d_L_law_578 (by decide) (fun q175 => ?_) (fun q175 => ?_)
        · replace h := er_if h q175
          refine ej_goto B.1 (tgt := 1308) d_L_law_593 (by decide) ?_
          cases h
          exact ej_le (lv' := [some (.ref 40), some (.ref 0), some (.ref 21), some (.ref 39), some (.int x4), none, none]) ⟨rfl, ⟨rfl, ⟨rfl, ⟨rfl, ⟨rfl, trivial⟩⟩⟩⟩⟩ hk
        · replace h := er_it h q175
          refine ej_aload_n B.1 d_L_law_581 rfl ?_
          refine ej_iconst B.1 (v := 0) d_L_law_582 rfl ?_
          obtain ⟨e176, h⟩ := er_gd_some h
          refine ej_lald B.1 (er_atW B 39 rfl rfl) rfl e176 d_L_law_583 ?_
          refine ej_iload B.1 d_L_law_584 rfl ?_
          refine ej_i2l B.1 d_L_law_586 ?_
          refine ej_lcmp B.1 d_L_law_587 ?_
          refine ej_if_eq B.1 (tgt := 593) d_L_law_588 (by decide) (fun q177 => ?_) (fun q177 => ?_)
          · replace h := er_it h q177
            refine ej_goto B.1 (tgt := 1308) d_L_law_593 (by decide) ?_
            cases h
            exact ej_le (lv' := [some (.ref 40), some (.ref 0), some (.ref 21), some (.ref 39), some (.int x4), none, none]) ⟨rfl, ⟨rfl, ⟨rfl, ⟨rfl, ⟨rfl, trivial⟩⟩⟩⟩⟩ hk
          · replace h := er_if h q177
            refine ej_iconst B.1 (v := 0) d_L_law_591 rfl ?_
            cases h
      · replace h := er_if h q174
        refine ej_iconst B.1 (v := 0) d_L_law_574 rfl ?_
        cases h
  · replace h := er_if h q152
    refine ej_iconst B.1 (v := 1) d_L_law_522 rfl ?_
    refine ej_goto B.1 (tgt := 527) d_L_law_523 (by decide) ?_
    refine ej_aload_n B.1 d_L_law_527 rfl ?_
    obtain ⟨v178, g180, e179, h⟩ := er_bw_some h
    refine ej_cs_i (nc := 1) (ns := 6) B.1 [.ref 0, .int (xs (er_ix (x4 + 1))), .int (xs (er_ix (x4 + 2))), .int 1, .ref 39] [] (ec_L_safety hl.2 (er_prW B) (xs (er_ix (x4 + 1))) (xs (er_ix (x4 + 2))) 1 σ (v178, g180) e179) cal_L_safety lk_L_112 st_L_safety rfl B.2.2.2.1 d_L_law_528 ⟨Nat.le_of_ble_eq_true rfl, Nat.le_of_ble_eq_true rfl, hkc, hks⟩ (Nat.le_of_ble_eq_true rfl) rfl ?_
    refine ej_istore B.1 (lv' := [some (.ref 40), some (.ref 0), some (.ref 21), some (.ref 39), some (.int x4), some (.int v178), none]) d_L_law_531 rfl rfl rfl ?_
    refine ej_aload_n B.1 d_L_law_533 rfl ?_
    refine ej_aload_n B.1 d_L_law_534 rfl ?_
    refine ej_iload B.1 d_L_law_535 rfl ?_
    refine ej_iconst B.1 (v := 1) d_L_law_537 rfl ?_
    refine ej_iadd B.1 d_L_law_538 ?_
    obtain ⟨e181, h⟩ := er_gd_some h
    refine ej_sld B e181 d_L_law_539 ?_
    refine ej_aload_n B.1 d_L_law_540 rfl ?_
    refine ej_iload B.1 d_L_law_541 rfl ?_
    refine ej_iconst B.1 (v := 2) d_L_law_543 rfl ?_
    refine ej_iadd B.1 d_L_law_544 ?_
    obtain ⟨e182, h⟩ := er_gd_some h
    refine ej_sld B e182 d_L_law_545 ?_
    refine ej_aload_n B.1 d_L_law_546 rfl ?_
    refine ej_iload B.1 d_L_law_547 rfl ?_
    refine ej_iconst B.1 (v := 3) d_L_law_549 rfl ?_
    refine ej_iadd B.1 d_L_law_550 ?_
    obtain ⟨e183, h⟩ := er_gd_some h
    refine ej_sld B e183 d_L_law_551 ?_
    refine ej_if_eq B.1 (tgt := 559) d_L_law_552 (by decide) (fun q184 => ?_) (fun q184 => ?_)
    · replace h := er_it h q184
      refine ej_iconst B.1 (v := 0) d_L_law_559 rfl ?_
      obtain ⟨v185, g187, e186, h⟩ := er_bw_some h
      refine ej_cv_i (nc := 0) (ns := 0) B.1 [.int (xs (er_ix (x4 + 1))), .int (xs (er_ix (x4 + 2))), .int 0] [] (ec_M_safety (er_sub rfl rfl (er_prW B)) (xs (er_ix (x4 + 1))) (xs (er_ix (x4 + 2))) 0 g180 (v185, g187) e186) cal_M_safety lk_L_114 in_M_safety (er_atW B 21 rfl rfl) rfl rfl se_M_safety rfl B.2.2.2.1 d_L_law_560 ⟨Nat.le_of_ble_eq_true rfl, Nat.le_of_ble_eq_true rfl, hkc, hks⟩ (Nat.le_of_ble_eq_true rfl) rfl ?_
      refine ej_istore B.1 (lv' := [some (.ref 40), some (.ref 0), some (.ref 21), some (.ref 39), some (.int x4), some (.int v178), some (.int v185)]) d_L_law_563 rfl rfl rfl ?_
      refine ej_aload_n B.1 d_L_law_565 rfl ?_
      obtain ⟨v188, e189, h⟩ := er_bd_some h
      refine ej_cv_i (nc := 0) (ns := 0) B.1 [] [] (ec_M_thrown (er_sub rfl rfl (er_prW B)) g187 v188 e189) cal_M_thrown lk_L_89 in_M_thrown (er_atW B 21 rfl rfl) rfl rfl se_M_thrown rfl B.2.2.2.1 d_L_law_566 ⟨Nat.le_of_ble_eq_true rfl, Nat.le_of_ble_eq_true rfl, hkc, hks⟩ (Nat.le_of_ble_eq_true rfl) rfl ?_
      refine ej_iload B.1 d_L_law_569 rfl ?_
      refine ej_icmp_eq B.1 (tgt := 576) d_L_law_571 (by decide) (fun q190 => ?_) (fun q190 => ?_)
      · replace h := er_it h q190
        refine ej_iload B.1 d_L_law_576 rfl ?_
        refine ej_if_ne B.1 (tgt := 593) d_L_law_578 (by decide) (fun q191 => ?_) (fun q191 => ?_)
        · replace h := er_if h q191
          refine ej_goto B.1 (tgt := 1308) d_L_law_593 (by decide) ?_
          cases h
          exact ej_le (lv' := [some (.ref 40), some (.ref 0), some (.ref 21), some (.ref 39), some (.int x4), none, none]) ⟨rfl, ⟨rfl, ⟨rfl, ⟨rfl, ⟨rfl, trivial⟩⟩⟩⟩⟩ hk
        · replace h := er_it h q191
          refine ej_aload_n B.1 d_L_law_581 rfl ?_
          refine ej_iconst B.1 (v := 0) d_L_law_582 rfl ?_
          obtain ⟨e192, h⟩ := er_gd_some h
          refine ej_lald B.1 (er_atW B 39 rfl rfl) rfl e192 d_L_law_583 ?_
          refine ej_iload B.1 d_L_law_584 rfl ?_
          refine ej_i2l B.1 d_L_law_586 ?_
          refine ej_lcmp B.1 d_L_law_587 ?_
          refine ej_if_eq B.1 (tgt := 593) d_L_law_588 (by decide) (fun q193 => ?_) (fun q193 => ?_)
          · replace h := er_it h q193
            refine ej_goto B.1 (tgt := 1308) d_L_law_593 (by decide) ?_
            cases h
            exact ej_le (lv' := [some (.ref 40), some (.ref 0), some (.ref 21), some (.ref 39), some (.int x4), none, none]) ⟨rfl, ⟨rfl, ⟨rfl, ⟨rfl, ⟨rfl, trivial⟩⟩⟩⟩⟩ hk
          · replace h := er_if h q193
            refine ej_iconst B.1 (v := 0) d_L_law_591 rfl ?_
            cases h
      · replace h := er_if h q190
        refine ej_iconst B.1 (v := 0) d_L_law_574 rfl ?_
        cases h
    · replace h := er_if h q184
      refine ej_iconst B.1 (v := 1) d_L_law_555 rfl ?_
      refine ej_goto B.1 (tgt := 560) d_L_law_556 (by decide) ?_
      obtain ⟨v194, g196, e195, h⟩ := er_bw_some h
      refine ej_cv_i (nc := 0) (ns := 0) B.1 [.int (xs (er_ix (x4 + 1))), .int (xs (er_ix (x4 + 2))), .int 1] [] (ec_M_safety (er_sub rfl rfl (er_prW B)) (xs (er_ix (x4 + 1))) (xs (er_ix (x4 + 2))) 1 g180 (v194, g196) e195) cal_M_safety lk_L_114 in_M_safety (er_atW B 21 rfl rfl) rfl rfl se_M_safety rfl B.2.2.2.1 d_L_law_560 ⟨Nat.le_of_ble_eq_true rfl, Nat.le_of_ble_eq_true rfl, hkc, hks⟩ (Nat.le_of_ble_eq_true rfl) rfl ?_
      refine ej_istore B.1 (lv' := [some (.ref 40), some (.ref 0), some (.ref 21), some (.ref 39), some (.int x4), some (.int v178), some (.int v194)]) d_L_law_563 rfl rfl rfl ?_
      refine ej_aload_n B.1 d_L_law_565 rfl ?_
      obtain ⟨v197, e198, h⟩ := er_bd_some h
      refine ej_cv_i (nc := 0) (ns := 0) B.1 [] [] (ec_M_thrown (er_sub rfl rfl (er_prW B)) g196 v197 e198) cal_M_thrown lk_L_89 in_M_thrown (er_atW B 21 rfl rfl) rfl rfl se_M_thrown rfl B.2.2.2.1 d_L_law_566 ⟨Nat.le_of_ble_eq_true rfl, Nat.le_of_ble_eq_true rfl, hkc, hks⟩ (Nat.le_of_ble_eq_true rfl) rfl ?_
      refine ej_iload B.1 d_L_law_569 rfl ?_
      refine ej_icmp_eq B.1 (tgt := 576) d_L_law_571 (by decide) (fun q199 => ?_) (fun q199 => ?_)
      · replace h := er_it h q199
        refine ej_iload B.1 d_L_law_576 rfl ?_
        refine ej_if_ne B.1 (tgt := 593) d_L_law_578 (by decide) (fun q200 => ?_) (fun q200 => ?_)
        · replace h := er_if h q200
          refine ej_goto B.1 (tgt := 1308) d_L_law_593 (by decide) ?_
          cases h
          exact ej_le (lv' := [some (.ref 40), some (.ref 0), some (.ref 21), some (.ref 39), some (.int x4), none, none]) ⟨rfl, ⟨rfl, ⟨rfl, ⟨rfl, ⟨rfl, trivial⟩⟩⟩⟩⟩ hk
        · replace h := er_it h q200
          refine ej_aload_n B.1 d_L_law_581 rfl ?_
          refine ej_iconst B.1 (v := 0) d_L_law_582 rfl ?_
          obtain ⟨e201, h⟩ := er_gd_some h
          refine ej_lald B.1 (er_atW B 39 rfl rfl) rfl e201 d_L_law_583 ?_
          refine ej_iload B.1 d_L_law_584 rfl ?_
          refine ej_i2l B.1 d_L_law_586 ?_
          refine ej_lcmp B.1 d_L_law_587 ?_
          refine ej_if_eq B.1 (tgt := 593) d_L_law_588 (by decide) (fun q202 => ?_) (fun q202 => ?_)
          · replace h := er_it h q202
            refine ej_goto B.1 (tgt := 1308) d_L_law_593 (by decide) ?_
            cases h
            exact ej_le (lv' := [some (.ref 40), some (.ref 0), some (.ref 21), some (.ref 39), some (.int x4), none, none]) ⟨rfl, ⟨rfl, ⟨rfl, ⟨rfl, ⟨rfl, trivial⟩⟩⟩⟩⟩ hk
          · replace h := er_if h q202
            refine ej_iconst B.1 (v := 0) d_L_law_591 rfl ?_
            cases h
      · replace h := er_if h q199
        refine ej_iconst B.1 (v := 0) d_L_law_574 rfl ?_
        cases h
set_option maxRecDepth 100000 in
set_option maxHeartbeats 8000000 in
theorem ew_law_c7 {p : Program} {l : Launch} {e : Env} {s : State} {m : MethodId} {args : Array Value} {below : List Frame} {meth : Method} {c : Code} {G : er_G} {Q : State → Prop} {b L : Nat} {xs : Nat → Int32} {kc ks : Nat} (hl : l.admits e ∧ l.stackTraces = false) (B : er_BW p s m c G b L xs) (hkc : kc + 1 ≤ room_1.cells) (hks : ks + 6 ≤ room_1.slots) (x4 : Int32) (σ σ' : er_S) (h : el_c7 L xs x4 σ = some (some σ')) (hk : er_J p l e room_1 s m args below meth c G (fun q => s.heap.size ≤ q) s.heap Q (kc + 1) (ks + 6) σ' 1308 [some (.ref 40), some (.ref 0), some (.ref 21), some (.ref 39), some (.int x4), none, none] []) : er_J p l e room_1 s m args below meth c G (fun q => s.heap.size ≤ q) s.heap Q kc ks σ 596 [some (.ref 40), some (.ref 0), some (.ref 21), some (.ref 39), some (.int x4), none, none] [] := by
  unfold el_c7 at h
  refine ej_aload_n B.1 d_L_law_596 rfl ?_
  refine ej_aload_n B.1 d_L_law_597 rfl ?_
  refine ej_iload B.1 d_L_law_598 rfl ?_
  refine ej_iconst B.1 (v := 1) d_L_law_600 rfl ?_
  refine ej_iadd B.1 d_L_law_601 ?_
  obtain ⟨e203, h⟩ := er_gd_some h
  refine ej_sld B e203 d_L_law_602 ?_
  refine ej_aload_n B.1 d_L_law_603 rfl ?_
  refine ej_iload B.1 d_L_law_604 rfl ?_
  refine ej_iconst B.1 (v := 2) d_L_law_606 rfl ?_
  refine ej_iadd B.1 d_L_law_607 ?_
  obtain ⟨e204, h⟩ := er_gd_some h
  refine ej_sld B e204 d_L_law_608 ?_
  refine ej_aload_n B.1 d_L_law_609 rfl ?_
  refine ej_iload B.1 d_L_law_610 rfl ?_
  refine ej_iconst B.1 (v := 3) d_L_law_612 rfl ?_
  refine ej_iadd B.1 d_L_law_613 ?_
  obtain ⟨e205, h⟩ := er_gd_some h
  refine ej_sld B e205 d_L_law_614 ?_
  refine ej_aload_n B.1 d_L_law_615 rfl ?_
  refine ej_iload B.1 d_L_law_616 rfl ?_
  refine ej_iconst B.1 (v := 4) d_L_law_618 rfl ?_
  refine ej_iadd B.1 d_L_law_619 ?_
  obtain ⟨e206, h⟩ := er_gd_some h
  refine ej_sld B e206 d_L_law_620 ?_
  refine ej_aload_n B.1 d_L_law_621 rfl ?_
  refine ej_iload B.1 d_L_law_622 rfl ?_
  refine ej_iconst B.1 (v := 5) d_L_law_624 rfl ?_
  refine ej_iadd B.1 d_L_law_625 ?_
  obtain ⟨e207, h⟩ := er_gd_some h
  refine ej_sld B e207 d_L_law_626 ?_
  refine ej_if_eq B.1 (tgt := 634) d_L_law_627 (by decide) (fun q208 => ?_) (fun q208 => ?_)
  · replace h := er_it h q208
    refine ej_iconst B.1 (v := 0) d_L_law_634 rfl ?_
    refine ej_aload_n B.1 d_L_law_635 rfl ?_
    obtain ⟨v209, g211, e210, h⟩ := er_bw_some h
    refine ej_cs_i (nc := 1) (ns := 6) B.1 [.ref 0, .int (xs (er_ix (x4 + 1))), .int (xs (er_ix (x4 + 2))), .int (xs (er_ix (x4 + 3))), .int (xs (er_ix (x4 + 4))), .int 0, .ref 39] [] (ec_L_enter hl.2 (er_prW B) (xs (er_ix (x4 + 1))) (xs (er_ix (x4 + 2))) (xs (er_ix (x4 + 3))) (xs (er_ix (x4 + 4))) 0 σ (v209, g211) e210) cal_L_enter lk_L_115 st_L_enter rfl B.2.2.2.1 d_L_law_636 ⟨Nat.le_of_ble_eq_true rfl, Nat.le_of_ble_eq_true rfl, hkc, hks⟩ (Nat.le_of_ble_eq_true rfl) rfl ?_
    refine ej_istore B.1 (lv' := [some (.ref 40), some (.ref 0), some (.ref 21), some (.ref 39), some (.int x4), some (.int v209), none]) d_L_law_639 rfl rfl rfl ?_
    refine ej_aload_n B.1 d_L_law_641 rfl ?_
    refine ej_aload_n B.1 d_L_law_642 rfl ?_
    refine ej_iload B.1 d_L_law_643 rfl ?_
    refine ej_iconst B.1 (v := 1) d_L_law_645 rfl ?_
    refine ej_iadd B.1 d_L_law_646 ?_
    obtain ⟨e212, h⟩ := er_gd_some h
    refine ej_sld B e212 d_L_law_647 ?_
    refine ej_aload_n B.1 d_L_law_648 rfl ?_
    refine ej_iload B.1 d_L_law_649 rfl ?_
    refine ej_iconst B.1 (v := 2) d_L_law_651 rfl ?_
    refine ej_iadd B.1 d_L_law_652 ?_
    obtain ⟨e213, h⟩ := er_gd_some h
    refine ej_sld B e213 d_L_law_653 ?_
    refine ej_aload_n B.1 d_L_law_654 rfl ?_
    refine ej_iload B.1 d_L_law_655 rfl ?_
    refine ej_iconst B.1 (v := 3) d_L_law_657 rfl ?_
    refine ej_iadd B.1 d_L_law_658 ?_
    obtain ⟨e214, h⟩ := er_gd_some h
    refine ej_sld B e214 d_L_law_659 ?_
    refine ej_aload_n B.1 d_L_law_660 rfl ?_
    refine ej_iload B.1 d_L_law_661 rfl ?_
    refine ej_iconst B.1 (v := 4) d_L_law_663 rfl ?_
    refine ej_iadd B.1 d_L_law_664 ?_
    obtain ⟨e215, h⟩ := er_gd_some h
    refine ej_sld B e215 d_L_law_665 ?_
    refine ej_aload_n B.1 d_L_law_666 rfl ?_
    refine ej_iload B.1 d_L_law_667 rfl ?_
    refine ej_iconst B.1 (v := 5) d_L_law_669 rfl ?_
    refine ej_iadd B.1 d_L_law_670 ?_
    obtain ⟨e216, h⟩ := er_gd_some h
    refine ej_sld B e216 d_L_law_671 ?_
    refine ej_if_eq B.1 (tgt := 679) d_L_law_672 (by decide) (fun q217 => ?_) (fun q217 => ?_)
    · replace h := er_it h q217
      refine ej_iconst B.1 (v := 0) d_L_law_679 rfl ?_
      obtain ⟨v218, g220, e219, h⟩ := er_bw_some h
      refine ej_cv_i (nc := 0) (ns := 0) B.1 [.int (xs (er_ix (x4 + 1))), .int (xs (er_ix (x4 + 2))), .int (xs (er_ix (x4 + 3))), .int (xs (er_ix (x4 + 4))), .int 0] [] (ec_M_enter (er_sub rfl rfl (er_prW B)) (xs (er_ix (x4 + 1))) (xs (er_ix (x4 + 2))) (xs (er_ix (x4 + 3))) (xs (er_ix (x4 + 4))) 0 g211 (v218, g220) e219) cal_M_enter lk_L_118 in_M_enter (er_atW B 21 rfl rfl) rfl rfl se_M_enter rfl B.2.2.2.1 d_L_law_680 ⟨Nat.le_of_ble_eq_true rfl, Nat.le_of_ble_eq_true rfl, hkc, hks⟩ (Nat.le_of_ble_eq_true rfl) rfl ?_
      refine ej_istore B.1 (lv' := [some (.ref 40), some (.ref 0), some (.ref 21), some (.ref 39), some (.int x4), some (.int v209), some (.int v218)]) d_L_law_683 rfl rfl rfl ?_
      refine ej_aload_n B.1 d_L_law_685 rfl ?_
      obtain ⟨v221, e222, h⟩ := er_bd_some h
      refine ej_cv_i (nc := 0) (ns := 0) B.1 [] [] (ec_M_thrown (er_sub rfl rfl (er_prW B)) g220 v221 e222) cal_M_thrown lk_L_89 in_M_thrown (er_atW B 21 rfl rfl) rfl rfl se_M_thrown rfl B.2.2.2.1 d_L_law_686 ⟨Nat.le_of_ble_eq_true rfl, Nat.le_of_ble_eq_true rfl, hkc, hks⟩ (Nat.le_of_ble_eq_true rfl) rfl ?_
      refine ej_iload B.1 d_L_law_689 rfl ?_
      refine ej_icmp_eq B.1 (tgt := 696) d_L_law_691 (by decide) (fun q223 => ?_) (fun q223 => ?_)
      · replace h := er_it h q223
        refine ej_iload B.1 d_L_law_696 rfl ?_
        refine ej_if_ne B.1 (tgt := 713) d_L_law_698 (by decide) (fun q224 => ?_) (fun q224 => ?_)
        · replace h := er_if h q224
          refine ej_goto B.1 (tgt := 1308) d_L_law_713 (by decide) ?_
          cases h
          exact ej_le (lv' := [some (.ref 40), some (.ref 0), some (.ref 21), some (.ref 39), some (.int x4), none, none]) ⟨rfl, ⟨rfl, ⟨rfl, ⟨rfl, ⟨rfl, trivial⟩⟩⟩⟩⟩ hk
        · replace h := er_it h q224
          refine ej_aload_n B.1 d_L_law_701 rfl ?_
          refine ej_iconst B.1 (v := 0) d_L_law_702 rfl ?_
          obtain ⟨e225, h⟩ := er_gd_some h
          refine ej_lald B.1 (er_atW B 39 rfl rfl) rfl e225 d_L_law_703 ?_
          refine ej_iload B.1 d_L_law_704 rfl ?_
          refine ej_i2l B.1 d_L_law_706 ?_
          refine ej_lcmp B.1 d_L_law_707 ?_
          refine ej_if_eq B.1 (tgt := 713) d_L_law_708 (by decide) (fun q226 => ?_) (fun q226 => ?_)
          · replace h := er_it h q226
            refine ej_goto B.1 (tgt := 1308) d_L_law_713 (by decide) ?_
            cases h
            exact ej_le (lv' := [some (.ref 40), some (.ref 0), some (.ref 21), some (.ref 39), some (.int x4), none, none]) ⟨rfl, ⟨rfl, ⟨rfl, ⟨rfl, ⟨rfl, trivial⟩⟩⟩⟩⟩ hk
          · replace h := er_if h q226
            refine ej_iconst B.1 (v := 0) d_L_law_711 rfl ?_
            cases h
      · replace h := er_if h q223
        refine ej_iconst B.1 (v := 0) d_L_law_694 rfl ?_
        cases h
    · replace h := er_if h q217
      refine ej_iconst B.1 (v := 1) d_L_law_675 rfl ?_
      refine ej_goto B.1 (tgt := 680) d_L_law_676 (by decide) ?_
      obtain ⟨v227, g229, e228, h⟩ := er_bw_some h
      refine ej_cv_i (nc := 0) (ns := 0) B.1 [.int (xs (er_ix (x4 + 1))), .int (xs (er_ix (x4 + 2))), .int (xs (er_ix (x4 + 3))), .int (xs (er_ix (x4 + 4))), .int 1] [] (ec_M_enter (er_sub rfl rfl (er_prW B)) (xs (er_ix (x4 + 1))) (xs (er_ix (x4 + 2))) (xs (er_ix (x4 + 3))) (xs (er_ix (x4 + 4))) 1 g211 (v227, g229) e228) cal_M_enter lk_L_118 in_M_enter (er_atW B 21 rfl rfl) rfl rfl se_M_enter rfl B.2.2.2.1 d_L_law_680 ⟨Nat.le_of_ble_eq_true rfl, Nat.le_of_ble_eq_true rfl, hkc, hks⟩ (Nat.le_of_ble_eq_true rfl) rfl ?_
      refine ej_istore B.1 (lv' := [some (.ref 40), some (.ref 0), some (.ref 21), some (.ref 39), some (.int x4), some (.int v209), some (.int v227)]) d_L_law_683 rfl rfl rfl ?_
      refine ej_aload_n B.1 d_L_law_685 rfl ?_
      obtain ⟨v230, e231, h⟩ := er_bd_some h
      refine ej_cv_i (nc := 0) (ns := 0) B.1 [] [] (ec_M_thrown (er_sub rfl rfl (er_prW B)) g229 v230 e231) cal_M_thrown lk_L_89 in_M_thrown (er_atW B 21 rfl rfl) rfl rfl se_M_thrown rfl B.2.2.2.1 d_L_law_686 ⟨Nat.le_of_ble_eq_true rfl, Nat.le_of_ble_eq_true rfl, hkc, hks⟩ (Nat.le_of_ble_eq_true rfl) rfl ?_
      refine ej_iload B.1 d_L_law_689 rfl ?_
      refine ej_icmp_eq B.1 (tgt := 696) d_L_law_691 (by decide) (fun q232 => ?_) (fun q232 => ?_)
      · replace h := er_it h q232
        refine ej_iload B.1 d_L_law_696 rfl ?_
        refine ej_if_ne B.1 (tgt := 713) d_L_law_698 (by decide) (fun q233 => ?_) (fun q233 => ?_)
        · replace h := er_if h q233
          refine ej_goto B.1 (tgt := 1308) d_L_law_713 (by decide) ?_
          cases h
          exact ej_le (lv' := [some (.ref 40), some (.ref 0), some (.ref 21), some (.ref 39), some (.int x4), none, none]) ⟨rfl, ⟨rfl, ⟨rfl, ⟨rfl, ⟨rfl, trivial⟩⟩⟩⟩⟩ hk
        · replace h := er_it h q233
          refine ej_aload_n B.1 d_L_law_701 rfl ?_
          refine ej_iconst B.1 (v := 0) d_L_law_702 rfl ?_
          obtain ⟨e234, h⟩ := er_gd_some h
          refine ej_lald B.1 (er_atW B 39 rfl rfl) rfl e234 d_L_law_703 ?_
          refine ej_iload B.1 d_L_law_704 rfl ?_
          refine ej_i2l B.1 d_L_law_706 ?_
          refine ej_lcmp B.1 d_L_law_707 ?_
          refine ej_if_eq B.1 (tgt := 713) d_L_law_708 (by decide) (fun q235 => ?_) (fun q235 => ?_)
          · replace h := er_it h q235
            refine ej_goto B.1 (tgt := 1308) d_L_law_713 (by decide) ?_
            cases h
            exact ej_le (lv' := [some (.ref 40), some (.ref 0), some (.ref 21), some (.ref 39), some (.int x4), none, none]) ⟨rfl, ⟨rfl, ⟨rfl, ⟨rfl, ⟨rfl, trivial⟩⟩⟩⟩⟩ hk
          · replace h := er_if h q235
            refine ej_iconst B.1 (v := 0) d_L_law_711 rfl ?_
            cases h
      · replace h := er_if h q232
        refine ej_iconst B.1 (v := 0) d_L_law_694 rfl ?_
        cases h
  · replace h := er_if h q208
    refine ej_iconst B.1 (v := 1) d_L_law_630 rfl ?_
    refine ej_goto B.1 (tgt := 635) d_L_law_631 (by decide) ?_
    refine ej_aload_n B.1 d_L_law_635 rfl ?_
    obtain ⟨v236, g238, e237, h⟩ := er_bw_some h
    refine ej_cs_i (nc := 1) (ns := 6) B.1 [.ref 0, .int (xs (er_ix (x4 + 1))), .int (xs (er_ix (x4 + 2))), .int (xs (er_ix (x4 + 3))), .int (xs (er_ix (x4 + 4))), .int 1, .ref 39] [] (ec_L_enter hl.2 (er_prW B) (xs (er_ix (x4 + 1))) (xs (er_ix (x4 + 2))) (xs (er_ix (x4 + 3))) (xs (er_ix (x4 + 4))) 1 σ (v236, g238) e237) cal_L_enter lk_L_115 st_L_enter rfl B.2.2.2.1 d_L_law_636 ⟨Nat.le_of_ble_eq_true rfl, Nat.le_of_ble_eq_true rfl, hkc, hks⟩ (Nat.le_of_ble_eq_true rfl) rfl ?_
    refine ej_istore B.1 (lv' := [some (.ref 40), some (.ref 0), some (.ref 21), some (.ref 39), some (.int x4), some (.int v236), none]) d_L_law_639 rfl rfl rfl ?_
    refine ej_aload_n B.1 d_L_law_641 rfl ?_
    refine ej_aload_n B.1 d_L_law_642 rfl ?_
    refine ej_iload B.1 d_L_law_643 rfl ?_
    refine ej_iconst B.1 (v := 1) d_L_law_645 rfl ?_
    refine ej_iadd B.1 d_L_law_646 ?_
    obtain ⟨e239, h⟩ := er_gd_some h
    refine ej_sld B e239 d_L_law_647 ?_
    refine ej_aload_n B.1 d_L_law_648 rfl ?_
    refine ej_iload B.1 d_L_law_649 rfl ?_
    refine ej_iconst B.1 (v := 2) d_L_law_651 rfl ?_
    refine ej_iadd B.1 d_L_law_652 ?_
    obtain ⟨e240, h⟩ := er_gd_some h
    refine ej_sld B e240 d_L_law_653 ?_
    refine ej_aload_n B.1 d_L_law_654 rfl ?_
    refine ej_iload B.1 d_L_law_655 rfl ?_
    refine ej_iconst B.1 (v := 3) d_L_law_657 rfl ?_
    refine ej_iadd B.1 d_L_law_658 ?_
    obtain ⟨e241, h⟩ := er_gd_some h
    refine ej_sld B e241 d_L_law_659 ?_
    refine ej_aload_n B.1 d_L_law_660 rfl ?_
    refine ej_iload B.1 d_L_law_661 rfl ?_
    refine ej_iconst B.1 (v := 4) d_L_law_663 rfl ?_
    refine ej_iadd B.1 d_L_law_664 ?_
    obtain ⟨e242, h⟩ := er_gd_some h
    refine ej_sld B e242 d_L_law_665 ?_
    refine ej_aload_n B.1 d_L_law_666 rfl ?_
    refine ej_iload B.1 d_L_law_667 rfl ?_
    refine ej_iconst B.1 (v := 5) d_L_law_669 rfl ?_
    refine ej_iadd B.1 d_L_law_670 ?_
    obtain ⟨e243, h⟩ := er_gd_some h
    refine ej_sld B e243 d_L_law_671 ?_
    refine ej_if_eq B.1 (tgt := 679) d_L_law_672 (by decide) (fun q244 => ?_) (fun q244 => ?_)
    · replace h := er_it h q244
      refine ej_iconst B.1 (v := 0) d_L_law_679 rfl ?_
      obtain ⟨v245, g247, e246, h⟩ := er_bw_some h
      refine ej_cv_i (nc := 0) (ns := 0) B.1 [.int (xs (er_ix (x4 + 1))), .int (xs (er_ix (x4 + 2))), .int (xs (er_ix (x4 + 3))), .int (xs (er_ix (x4 + 4))), .int 0] [] (ec_M_enter (er_sub rfl rfl (er_prW B)) (xs (er_ix (x4 + 1))) (xs (er_ix (x4 + 2))) (xs (er_ix (x4 + 3))) (xs (er_ix (x4 + 4))) 0 g238 (v245, g247) e246) cal_M_enter lk_L_118 in_M_enter (er_atW B 21 rfl rfl) rfl rfl se_M_enter rfl B.2.2.2.1 d_L_law_680 ⟨Nat.le_of_ble_eq_true rfl, Nat.le_of_ble_eq_true rfl, hkc, hks⟩ (Nat.le_of_ble_eq_true rfl) rfl ?_
      refine ej_istore B.1 (lv' := [some (.ref 40), some (.ref 0), some (.ref 21), some (.ref 39), some (.int x4), some (.int v236), some (.int v245)]) d_L_law_683 rfl rfl rfl ?_
      refine ej_aload_n B.1 d_L_law_685 rfl ?_
      obtain ⟨v248, e249, h⟩ := er_bd_some h
      refine ej_cv_i (nc := 0) (ns := 0) B.1 [] [] (ec_M_thrown (er_sub rfl rfl (er_prW B)) g247 v248 e249) cal_M_thrown lk_L_89 in_M_thrown (er_atW B 21 rfl rfl) rfl rfl se_M_thrown rfl B.2.2.2.1 d_L_law_686 ⟨Nat.le_of_ble_eq_true rfl, Nat.le_of_ble_eq_true rfl, hkc, hks⟩ (Nat.le_of_ble_eq_true rfl) rfl ?_
      refine ej_iload B.1 d_L_law_689 rfl ?_
      refine ej_icmp_eq B.1 (tgt := 696) d_L_law_691 (by decide) (fun q250 => ?_) (fun q250 => ?_)
      · replace h := er_it h q250
        refine ej_iload B.1 d_L_law_696 rfl ?_
        refine ej_if_ne B.1 (tgt := 713) d_L_law_698 (by decide) (fun q251 => ?_) (fun q251 => ?_)
        · replace h := er_if h q251
          refine ej_goto B.1 (tgt := 1308) d_L_law_713 (by decide) ?_
          cases h
          exact ej_le (lv' := [some (.ref 40), some (.ref 0), some (.ref 21), some (.ref 39), some (.int x4), none, none]) ⟨rfl, ⟨rfl, ⟨rfl, ⟨rfl, ⟨rfl, trivial⟩⟩⟩⟩⟩ hk
        · replace h := er_it h q251
          refine ej_aload_n B.1 d_L_law_701 rfl ?_
          refine ej_iconst B.1 (v := 0) d_L_law_702 rfl ?_
          obtain ⟨e252, h⟩ := er_gd_some h
          refine ej_lald B.1 (er_atW B 39 rfl rfl) rfl e252 d_L_law_703 ?_
          refine ej_iload B.1 d_L_law_704 rfl ?_
          refine ej_i2l B.1 d_L_law_706 ?_
          refine ej_lcmp B.1 d_L_law_707 ?_
          refine ej_if_eq B.1 (tgt := 713) d_L_law_708 (by decide) (fun q253 => ?_) (fun q253 => ?_)
          · replace h := er_it h q253
            refine ej_goto B.1 (tgt := 1308) d_L_law_713 (by decide) ?_
            cases h
            exact ej_le (lv' := [some (.ref 40), some (.ref 0), some (.ref 21), some (.ref 39), some (.int x4), none, none]) ⟨rfl, ⟨rfl, ⟨rfl, ⟨rfl, ⟨rfl, trivial⟩⟩⟩⟩⟩ hk
          · replace h := er_if h q253
            refine ej_iconst B.1 (v := 0) d_L_law_711 rfl ?_
            cases h
      · replace h := er_if h q250
        refine ej_iconst B.1 (v := 0) d_L_law_694 rfl ?_
        cases h
    · replace h := er_if h q244
      refine ej_iconst B.1 (v := 1) d_L_law_675 rfl ?_
      refine ej_goto B.1 (tgt := 680) d_L_law_676 (by decide) ?_
      obtain ⟨v254, g256, e255, h⟩ := er_bw_some h
      refine ej_cv_i (nc := 0) (ns := 0) B.1 [.int (xs (er_ix (x4 + 1))), .int (xs (er_ix (x4 + 2))), .int (xs (er_ix (x4 + 3))), .int (xs (er_ix (x4 + 4))), .int 1] [] (ec_M_enter (er_sub rfl rfl (er_prW B)) (xs (er_ix (x4 + 1))) (xs (er_ix (x4 + 2))) (xs (er_ix (x4 + 3))) (xs (er_ix (x4 + 4))) 1 g238 (v254, g256) e255) cal_M_enter lk_L_118 in_M_enter (er_atW B 21 rfl rfl) rfl rfl se_M_enter rfl B.2.2.2.1 d_L_law_680 ⟨Nat.le_of_ble_eq_true rfl, Nat.le_of_ble_eq_true rfl, hkc, hks⟩ (Nat.le_of_ble_eq_true rfl) rfl ?_
      refine ej_istore B.1 (lv' := [some (.ref 40), some (.ref 0), some (.ref 21), some (.ref 39), some (.int x4), some (.int v236), some (.int v254)]) d_L_law_683 rfl rfl rfl ?_
      refine ej_aload_n B.1 d_L_law_685 rfl ?_
      obtain ⟨v257, e258, h⟩ := er_bd_some h
      refine ej_cv_i (nc := 0) (ns := 0) B.1 [] [] (ec_M_thrown (er_sub rfl rfl (er_prW B)) g256 v257 e258) cal_M_thrown lk_L_89 in_M_thrown (er_atW B 21 rfl rfl) rfl rfl se_M_thrown rfl B.2.2.2.1 d_L_law_686 ⟨Nat.le_of_ble_eq_true rfl, Nat.le_of_ble_eq_true rfl, hkc, hks⟩ (Nat.le_of_ble_eq_true rfl) rfl ?_
      refine ej_iload B.1 d_L_law_689 rfl ?_
      refine ej_icmp_eq B.1 (tgt := 696) d_L_law_691 (by decide) (fun q259 => ?_) (fun q259 => ?_)
      · replace h := er_it h q259
        refine ej_iload B.1 d_L_law_696 rfl ?_
        refine ej_if_ne B.1 (tgt := 713) d_L_law_698 (by decide) (fun q260 => ?_) (fun q260 => ?_)
        · replace h := er_if h q260
          refine ej_goto B.1 (tgt := 1308) d_L_law_713 (by decide) ?_
          cases h
          exact ej_le (lv' := [some (.ref 40), some (.ref 0), some (.ref 21), some (.ref 39), some (.int x4), none, none]) ⟨rfl, ⟨rfl, ⟨rfl, ⟨rfl, ⟨rfl, trivial⟩⟩⟩⟩⟩ hk
        · replace h := er_it h q260
          refine ej_aload_n B.1 d_L_law_701 rfl ?_
          refine ej_iconst B.1 (v := 0) d_L_law_702 rfl ?_
          obtain ⟨e261, h⟩ := er_gd_some h
          refine ej_lald B.1 (er_atW B 39 rfl rfl) rfl e261 d_L_law_703 ?_
          refine ej_iload B.1 d_L_law_704 rfl ?_
          refine ej_i2l B.1 d_L_law_706 ?_
          refine ej_lcmp B.1 d_L_law_707 ?_
          refine ej_if_eq B.1 (tgt := 713) d_L_law_708 (by decide) (fun q262 => ?_) (fun q262 => ?_)
          · replace h := er_it h q262
            refine ej_goto B.1 (tgt := 1308) d_L_law_713 (by decide) ?_
            cases h
            exact ej_le (lv' := [some (.ref 40), some (.ref 0), some (.ref 21), some (.ref 39), some (.int x4), none, none]) ⟨rfl, ⟨rfl, ⟨rfl, ⟨rfl, ⟨rfl, trivial⟩⟩⟩⟩⟩ hk
          · replace h := er_if h q262
            refine ej_iconst B.1 (v := 0) d_L_law_711 rfl ?_
            cases h
      · replace h := er_if h q259
        refine ej_iconst B.1 (v := 0) d_L_law_694 rfl ?_
        cases h
set_option maxRecDepth 100000 in
set_option maxHeartbeats 8000000 in
theorem ew_law_c8 {p : Program} {l : Launch} {e : Env} {s : State} {m : MethodId} {args : Array Value} {below : List Frame} {meth : Method} {c : Code} {G : er_G} {Q : State → Prop} {b L : Nat} {xs : Nat → Int32} {kc ks : Nat} (hl : l.admits e ∧ l.stackTraces = false) (B : er_BW p s m c G b L xs) (hkc : kc + 1 ≤ room_1.cells) (hks : ks + 6 ≤ room_1.slots) (x4 : Int32) (σ σ' : er_S) (h : el_c8 L xs x4 σ = some (some σ')) (hk : er_J p l e room_1 s m args below meth c G (fun q => s.heap.size ≤ q) s.heap Q (kc + 1) (ks + 6) σ' 1308 [some (.ref 40), some (.ref 0), some (.ref 21), some (.ref 39), some (.int x4), none, none] []) : er_J p l e room_1 s m args below meth c G (fun q => s.heap.size ≤ q) s.heap Q kc ks σ 716 [some (.ref 40), some (.ref 0), some (.ref 21), some (.ref 39), some (.int x4), none, none] [] := by
  unfold el_c8 at h
  refine ej_aload_n B.1 d_L_law_716 rfl ?_
  refine ej_aload_n B.1 d_L_law_717 rfl ?_
  refine ej_iload B.1 d_L_law_718 rfl ?_
  refine ej_iconst B.1 (v := 1) d_L_law_720 rfl ?_
  refine ej_iadd B.1 d_L_law_721 ?_
  obtain ⟨e263, h⟩ := er_gd_some h
  refine ej_sld B e263 d_L_law_722 ?_
  refine ej_aload_n B.1 d_L_law_723 rfl ?_
  refine ej_iload B.1 d_L_law_724 rfl ?_
  refine ej_iconst B.1 (v := 2) d_L_law_726 rfl ?_
  refine ej_iadd B.1 d_L_law_727 ?_
  obtain ⟨e264, h⟩ := er_gd_some h
  refine ej_sld B e264 d_L_law_728 ?_
  refine ej_aload_n B.1 d_L_law_729 rfl ?_
  obtain ⟨v265, g267, e266, h⟩ := er_bw_some h
  refine ej_cs_i (nc := 1) (ns := 6) B.1 [.ref 0, .int (xs (er_ix (x4 + 1))), .int (xs (er_ix (x4 + 2))), .ref 39] [] (ec_L_out hl.2 (er_prW B) (xs (er_ix (x4 + 1))) (xs (er_ix (x4 + 2))) σ (v265, g267) e266) cal_L_out lk_L_119 st_L_out rfl B.2.2.2.1 d_L_law_730 ⟨Nat.le_of_ble_eq_true rfl, Nat.le_of_ble_eq_true rfl, hkc, hks⟩ (Nat.le_of_ble_eq_true rfl) rfl ?_
  refine ej_istore B.1 (lv' := [some (.ref 40), some (.ref 0), some (.ref 21), some (.ref 39), some (.int x4), some (.int v265), none]) d_L_law_733 rfl rfl rfl ?_
  refine ej_aload_n B.1 d_L_law_735 rfl ?_
  refine ej_aload_n B.1 d_L_law_736 rfl ?_
  refine ej_iload B.1 d_L_law_737 rfl ?_
  refine ej_iconst B.1 (v := 1) d_L_law_739 rfl ?_
  refine ej_iadd B.1 d_L_law_740 ?_
  obtain ⟨e268, h⟩ := er_gd_some h
  refine ej_sld B e268 d_L_law_741 ?_
  refine ej_aload_n B.1 d_L_law_742 rfl ?_
  refine ej_iload B.1 d_L_law_743 rfl ?_
  refine ej_iconst B.1 (v := 2) d_L_law_745 rfl ?_
  refine ej_iadd B.1 d_L_law_746 ?_
  obtain ⟨e269, h⟩ := er_gd_some h
  refine ej_sld B e269 d_L_law_747 ?_
  obtain ⟨v270, g272, e271, h⟩ := er_bw_some h
  refine ej_cv_i (nc := 0) (ns := 0) B.1 [.int (xs (er_ix (x4 + 1))), .int (xs (er_ix (x4 + 2)))] [] (ec_M_out (er_sub rfl rfl (er_prW B)) (xs (er_ix (x4 + 1))) (xs (er_ix (x4 + 2))) g267 (v270, g272) e271) cal_M_out lk_L_122 in_M_out (er_atW B 21 rfl rfl) rfl rfl se_M_out rfl B.2.2.2.1 d_L_law_748 ⟨Nat.le_of_ble_eq_true rfl, Nat.le_of_ble_eq_true rfl, hkc, hks⟩ (Nat.le_of_ble_eq_true rfl) rfl ?_
  refine ej_istore B.1 (lv' := [some (.ref 40), some (.ref 0), some (.ref 21), some (.ref 39), some (.int x4), some (.int v265), some (.int v270)]) d_L_law_751 rfl rfl rfl ?_
  refine ej_aload_n B.1 d_L_law_753 rfl ?_
  obtain ⟨v273, e274, h⟩ := er_bd_some h
  refine ej_cv_i (nc := 0) (ns := 0) B.1 [] [] (ec_M_thrown (er_sub rfl rfl (er_prW B)) g272 v273 e274) cal_M_thrown lk_L_89 in_M_thrown (er_atW B 21 rfl rfl) rfl rfl se_M_thrown rfl B.2.2.2.1 d_L_law_754 ⟨Nat.le_of_ble_eq_true rfl, Nat.le_of_ble_eq_true rfl, hkc, hks⟩ (Nat.le_of_ble_eq_true rfl) rfl ?_
  refine ej_iload B.1 d_L_law_757 rfl ?_
  refine ej_icmp_eq B.1 (tgt := 764) d_L_law_759 (by decide) (fun q275 => ?_) (fun q275 => ?_)
  · replace h := er_it h q275
    refine ej_iload B.1 d_L_law_764 rfl ?_
    refine ej_if_ne B.1 (tgt := 781) d_L_law_766 (by decide) (fun q276 => ?_) (fun q276 => ?_)
    · replace h := er_if h q276
      refine ej_goto B.1 (tgt := 1308) d_L_law_781 (by decide) ?_
      cases h
      exact ej_le (lv' := [some (.ref 40), some (.ref 0), some (.ref 21), some (.ref 39), some (.int x4), none, none]) ⟨rfl, ⟨rfl, ⟨rfl, ⟨rfl, ⟨rfl, trivial⟩⟩⟩⟩⟩ hk
    · replace h := er_it h q276
      refine ej_aload_n B.1 d_L_law_769 rfl ?_
      refine ej_iconst B.1 (v := 0) d_L_law_770 rfl ?_
      obtain ⟨e277, h⟩ := er_gd_some h
      refine ej_lald B.1 (er_atW B 39 rfl rfl) rfl e277 d_L_law_771 ?_
      refine ej_iload B.1 d_L_law_772 rfl ?_
      refine ej_i2l B.1 d_L_law_774 ?_
      refine ej_lcmp B.1 d_L_law_775 ?_
      refine ej_if_eq B.1 (tgt := 781) d_L_law_776 (by decide) (fun q278 => ?_) (fun q278 => ?_)
      · replace h := er_it h q278
        refine ej_goto B.1 (tgt := 1308) d_L_law_781 (by decide) ?_
        cases h
        exact ej_le (lv' := [some (.ref 40), some (.ref 0), some (.ref 21), some (.ref 39), some (.int x4), none, none]) ⟨rfl, ⟨rfl, ⟨rfl, ⟨rfl, ⟨rfl, trivial⟩⟩⟩⟩⟩ hk
      · replace h := er_if h q278
        refine ej_iconst B.1 (v := 0) d_L_law_779 rfl ?_
        cases h
  · replace h := er_if h q275
    refine ej_iconst B.1 (v := 0) d_L_law_762 rfl ?_
    cases h
set_option maxRecDepth 100000 in
set_option maxHeartbeats 8000000 in
theorem ew_law_c9 {p : Program} {l : Launch} {e : Env} {s : State} {m : MethodId} {args : Array Value} {below : List Frame} {meth : Method} {c : Code} {G : er_G} {Q : State → Prop} {b L : Nat} {xs : Nat → Int32} {kc ks : Nat} (hl : l.admits e ∧ l.stackTraces = false) (B : er_BW p s m c G b L xs) (hkc : kc + 1 ≤ room_1.cells) (hks : ks + 6 ≤ room_1.slots) (x4 : Int32) (σ σ' : er_S) (h : el_c9 L xs x4 σ = some (some σ')) (hk : er_J p l e room_1 s m args below meth c G (fun q => s.heap.size ≤ q) s.heap Q (kc + 1) (ks + 6) σ' 1308 [some (.ref 40), some (.ref 0), some (.ref 21), some (.ref 39), some (.int x4), none, none] []) : er_J p l e room_1 s m args below meth c G (fun q => s.heap.size ≤ q) s.heap Q kc ks σ 784 [some (.ref 40), some (.ref 0), some (.ref 21), some (.ref 39), some (.int x4), none, none] [] := by
  unfold el_c9 at h
  refine ej_aload_n B.1 d_L_law_784 rfl ?_
  refine ej_aload_n B.1 d_L_law_785 rfl ?_
  refine ej_iload B.1 d_L_law_786 rfl ?_
  refine ej_iconst B.1 (v := 1) d_L_law_788 rfl ?_
  refine ej_iadd B.1 d_L_law_789 ?_
  obtain ⟨e279, h⟩ := er_gd_some h
  refine ej_sld B e279 d_L_law_790 ?_
  refine ej_aload_n B.1 d_L_law_791 rfl ?_
  refine ej_iload B.1 d_L_law_792 rfl ?_
  refine ej_iconst B.1 (v := 2) d_L_law_794 rfl ?_
  refine ej_iadd B.1 d_L_law_795 ?_
  obtain ⟨e280, h⟩ := er_gd_some h
  refine ej_sld B e280 d_L_law_796 ?_
  obtain ⟨v281, g283, e282, h⟩ := er_bw_some h
  refine ej_cs_i (nc := 1) (ns := 6) B.1 [.ref 0, .int (xs (er_ix (x4 + 1))), .int (xs (er_ix (x4 + 2)))] [] (ec_L_swap hl.2 (er_prW B) (xs (er_ix (x4 + 1))) (xs (er_ix (x4 + 2))) σ (v281, g283) e282) cal_L_swap lk_L_123 st_L_swap rfl B.2.2.2.1 d_L_law_797 ⟨Nat.le_of_ble_eq_true rfl, Nat.le_of_ble_eq_true rfl, hkc, hks⟩ (Nat.le_of_ble_eq_true rfl) rfl ?_
  refine ej_istore B.1 (lv' := [some (.ref 40), some (.ref 0), some (.ref 21), some (.ref 39), some (.int x4), some (.int v281), none]) d_L_law_800 rfl rfl rfl ?_
  refine ej_aload_n B.1 d_L_law_802 rfl ?_
  refine ej_aload_n B.1 d_L_law_803 rfl ?_
  refine ej_iload B.1 d_L_law_804 rfl ?_
  refine ej_iconst B.1 (v := 1) d_L_law_806 rfl ?_
  refine ej_iadd B.1 d_L_law_807 ?_
  obtain ⟨e284, h⟩ := er_gd_some h
  refine ej_sld B e284 d_L_law_808 ?_
  refine ej_aload_n B.1 d_L_law_809 rfl ?_
  refine ej_iload B.1 d_L_law_810 rfl ?_
  refine ej_iconst B.1 (v := 2) d_L_law_812 rfl ?_
  refine ej_iadd B.1 d_L_law_813 ?_
  obtain ⟨e285, h⟩ := er_gd_some h
  refine ej_sld B e285 d_L_law_814 ?_
  obtain ⟨v286, g288, e287, h⟩ := er_bw_some h
  refine ej_cv_v (nc := 0) (ns := 0) B.1 [.int (xs (er_ix (x4 + 1))), .int (xs (er_ix (x4 + 2)))] [] (ec_M_swap (er_sub rfl rfl (er_prW B)) (xs (er_ix (x4 + 1))) (xs (er_ix (x4 + 2))) g283 (v286, g288) e287) cal_M_swap lk_L_125 in_M_swap (er_atW B 21 rfl rfl) rfl rfl se_M_swap rfl B.2.2.2.1 d_L_law_815 ⟨Nat.le_of_ble_eq_true rfl, Nat.le_of_ble_eq_true rfl, hkc, hks⟩ (Nat.le_of_ble_eq_true rfl) rfl ?_
  refine ej_aload_n B.1 d_L_law_818 rfl ?_
  obtain ⟨v289, e290, h⟩ := er_bd_some h
  refine ej_cv_i (nc := 0) (ns := 0) B.1 [] [] (ec_M_thrown (er_sub rfl rfl (er_prW B)) g288 v289 e290) cal_M_thrown lk_L_89 in_M_thrown (er_atW B 21 rfl rfl) rfl rfl se_M_thrown rfl B.2.2.2.1 d_L_law_819 ⟨Nat.le_of_ble_eq_true rfl, Nat.le_of_ble_eq_true rfl, hkc, hks⟩ (Nat.le_of_ble_eq_true rfl) rfl ?_
  refine ej_iload B.1 d_L_law_822 rfl ?_
  refine ej_icmp_eq B.1 (tgt := 829) d_L_law_824 (by decide) (fun q291 => ?_) (fun q291 => ?_)
  · replace h := er_it h q291
    refine ej_goto B.1 (tgt := 1308) d_L_law_829 (by decide) ?_
    cases h
    exact ej_le (lv' := [some (.ref 40), some (.ref 0), some (.ref 21), some (.ref 39), some (.int x4), none, none]) ⟨rfl, ⟨rfl, ⟨rfl, ⟨rfl, ⟨rfl, trivial⟩⟩⟩⟩⟩ hk
  · replace h := er_if h q291
    refine ej_iconst B.1 (v := 0) d_L_law_827 rfl ?_
    cases h
set_option maxRecDepth 100000 in
set_option maxHeartbeats 8000000 in
theorem ew_law_c10 {p : Program} {l : Launch} {e : Env} {s : State} {m : MethodId} {args : Array Value} {below : List Frame} {meth : Method} {c : Code} {G : er_G} {Q : State → Prop} {b L : Nat} {xs : Nat → Int32} {kc ks : Nat} (hl : l.admits e ∧ l.stackTraces = false) (B : er_BW p s m c G b L xs) (hkc : kc + 1 ≤ room_1.cells) (hks : ks + 6 ≤ room_1.slots) (x4 : Int32) (σ σ' : er_S) (h : el_c10 L xs x4 σ = some (some σ')) (hk : er_J p l e room_1 s m args below meth c G (fun q => s.heap.size ≤ q) s.heap Q (kc + 1) (ks + 6) σ' 1308 [some (.ref 40), some (.ref 0), some (.ref 21), some (.ref 39), some (.int x4), none, none] []) : er_J p l e room_1 s m args below meth c G (fun q => s.heap.size ≤ q) s.heap Q kc ks σ 832 [some (.ref 40), some (.ref 0), some (.ref 21), some (.ref 39), some (.int x4), none, none] [] := by
  unfold el_c10 at h
  refine ej_aload_n B.1 d_L_law_832 rfl ?_
  refine ej_aload_n B.1 d_L_law_833 rfl ?_
  refine ej_iload B.1 d_L_law_834 rfl ?_
  refine ej_iconst B.1 (v := 1) d_L_law_836 rfl ?_
  refine ej_iadd B.1 d_L_law_837 ?_
  obtain ⟨e292, h⟩ := er_gd_some h
  refine ej_sld B e292 d_L_law_838 ?_
  refine ej_aload_n B.1 d_L_law_839 rfl ?_
  refine ej_iload B.1 d_L_law_840 rfl ?_
  refine ej_iconst B.1 (v := 2) d_L_law_842 rfl ?_
  refine ej_iadd B.1 d_L_law_843 ?_
  obtain ⟨e293, h⟩ := er_gd_some h
  refine ej_sld B e293 d_L_law_844 ?_
  refine ej_aload_n B.1 d_L_law_845 rfl ?_
  obtain ⟨v294, g296, e295, h⟩ := er_bw_some h
  refine ej_cs_i (nc := 1) (ns := 6) B.1 [.ref 0, .int (xs (er_ix (x4 + 1))), .int (xs (er_ix (x4 + 2))), .ref 39] [] (ec_L_join hl.2 (er_prW B) (xs (er_ix (x4 + 1))) (xs (er_ix (x4 + 2))) σ (v294, g296) e295) cal_L_join lk_L_126 st_L_join rfl B.2.2.2.1 d_L_law_846 ⟨Nat.le_of_ble_eq_true rfl, Nat.le_of_ble_eq_true rfl, hkc, hks⟩ (Nat.le_of_ble_eq_true rfl) rfl ?_
  refine ej_istore B.1 (lv' := [some (.ref 40), some (.ref 0), some (.ref 21), some (.ref 39), some (.int x4), some (.int v294), none]) d_L_law_849 rfl rfl rfl ?_
  refine ej_aload_n B.1 d_L_law_851 rfl ?_
  refine ej_aload_n B.1 d_L_law_852 rfl ?_
  refine ej_iload B.1 d_L_law_853 rfl ?_
  refine ej_iconst B.1 (v := 1) d_L_law_855 rfl ?_
  refine ej_iadd B.1 d_L_law_856 ?_
  obtain ⟨e297, h⟩ := er_gd_some h
  refine ej_sld B e297 d_L_law_857 ?_
  refine ej_aload_n B.1 d_L_law_858 rfl ?_
  refine ej_iload B.1 d_L_law_859 rfl ?_
  refine ej_iconst B.1 (v := 2) d_L_law_861 rfl ?_
  refine ej_iadd B.1 d_L_law_862 ?_
  obtain ⟨e298, h⟩ := er_gd_some h
  refine ej_sld B e298 d_L_law_863 ?_
  obtain ⟨v299, g301, e300, h⟩ := er_bw_some h
  refine ej_cv_i (nc := 0) (ns := 0) B.1 [.int (xs (er_ix (x4 + 1))), .int (xs (er_ix (x4 + 2)))] [] (ec_M_join (er_sub rfl rfl (er_prW B)) (xs (er_ix (x4 + 1))) (xs (er_ix (x4 + 2))) g296 (v299, g301) e300) cal_M_join lk_L_128 in_M_join (er_atW B 21 rfl rfl) rfl rfl se_M_join rfl B.2.2.2.1 d_L_law_864 ⟨Nat.le_of_ble_eq_true rfl, Nat.le_of_ble_eq_true rfl, hkc, hks⟩ (Nat.le_of_ble_eq_true rfl) rfl ?_
  refine ej_istore B.1 (lv' := [some (.ref 40), some (.ref 0), some (.ref 21), some (.ref 39), some (.int x4), some (.int v294), some (.int v299)]) d_L_law_867 rfl rfl rfl ?_
  refine ej_aload_n B.1 d_L_law_869 rfl ?_
  obtain ⟨v302, e303, h⟩ := er_bd_some h
  refine ej_cv_i (nc := 0) (ns := 0) B.1 [] [] (ec_M_thrown (er_sub rfl rfl (er_prW B)) g301 v302 e303) cal_M_thrown lk_L_89 in_M_thrown (er_atW B 21 rfl rfl) rfl rfl se_M_thrown rfl B.2.2.2.1 d_L_law_870 ⟨Nat.le_of_ble_eq_true rfl, Nat.le_of_ble_eq_true rfl, hkc, hks⟩ (Nat.le_of_ble_eq_true rfl) rfl ?_
  refine ej_iload B.1 d_L_law_873 rfl ?_
  refine ej_icmp_eq B.1 (tgt := 880) d_L_law_875 (by decide) (fun q304 => ?_) (fun q304 => ?_)
  · replace h := er_it h q304
    refine ej_iload B.1 d_L_law_880 rfl ?_
    refine ej_if_ne B.1 (tgt := 897) d_L_law_882 (by decide) (fun q305 => ?_) (fun q305 => ?_)
    · replace h := er_if h q305
      refine ej_goto B.1 (tgt := 1308) d_L_law_897 (by decide) ?_
      cases h
      exact ej_le (lv' := [some (.ref 40), some (.ref 0), some (.ref 21), some (.ref 39), some (.int x4), none, none]) ⟨rfl, ⟨rfl, ⟨rfl, ⟨rfl, ⟨rfl, trivial⟩⟩⟩⟩⟩ hk
    · replace h := er_it h q305
      refine ej_aload_n B.1 d_L_law_885 rfl ?_
      refine ej_iconst B.1 (v := 0) d_L_law_886 rfl ?_
      obtain ⟨e306, h⟩ := er_gd_some h
      refine ej_lald B.1 (er_atW B 39 rfl rfl) rfl e306 d_L_law_887 ?_
      refine ej_iload B.1 d_L_law_888 rfl ?_
      refine ej_i2l B.1 d_L_law_890 ?_
      refine ej_lcmp B.1 d_L_law_891 ?_
      refine ej_if_eq B.1 (tgt := 897) d_L_law_892 (by decide) (fun q307 => ?_) (fun q307 => ?_)
      · replace h := er_it h q307
        refine ej_goto B.1 (tgt := 1308) d_L_law_897 (by decide) ?_
        cases h
        exact ej_le (lv' := [some (.ref 40), some (.ref 0), some (.ref 21), some (.ref 39), some (.int x4), none, none]) ⟨rfl, ⟨rfl, ⟨rfl, ⟨rfl, ⟨rfl, trivial⟩⟩⟩⟩⟩ hk
      · replace h := er_if h q307
        refine ej_iconst B.1 (v := 0) d_L_law_895 rfl ?_
        cases h
  · replace h := er_if h q304
    refine ej_iconst B.1 (v := 0) d_L_law_878 rfl ?_
    cases h
set_option maxRecDepth 100000 in
set_option maxHeartbeats 8000000 in
theorem ew_law_c11 {p : Program} {l : Launch} {e : Env} {s : State} {m : MethodId} {args : Array Value} {below : List Frame} {meth : Method} {c : Code} {G : er_G} {Q : State → Prop} {b L : Nat} {xs : Nat → Int32} {kc ks : Nat} (hl : l.admits e ∧ l.stackTraces = false) (B : er_BW p s m c G b L xs) (hkc : kc + 1 ≤ room_1.cells) (hks : ks + 6 ≤ room_1.slots) (x4 : Int32) (σ σ' : er_S) (h : el_c11 L xs x4 σ = some (some σ')) (hk : er_J p l e room_1 s m args below meth c G (fun q => s.heap.size ≤ q) s.heap Q (kc + 1) (ks + 6) σ' 1308 [some (.ref 40), some (.ref 0), some (.ref 21), some (.ref 39), some (.int x4), none, none] []) : er_J p l e room_1 s m args below meth c G (fun q => s.heap.size ≤ q) s.heap Q kc ks σ 900 [some (.ref 40), some (.ref 0), some (.ref 21), some (.ref 39), some (.int x4), none, none] [] := by
  unfold el_c11 at h
  refine ej_aload_n B.1 d_L_law_900 rfl ?_
  refine ej_aload_n B.1 d_L_law_901 rfl ?_
  refine ej_iload B.1 d_L_law_902 rfl ?_
  refine ej_iconst B.1 (v := 1) d_L_law_904 rfl ?_
  refine ej_iadd B.1 d_L_law_905 ?_
  obtain ⟨e308, h⟩ := er_gd_some h
  refine ej_sld B e308 d_L_law_906 ?_
  obtain ⟨v309, g311, e310, h⟩ := er_bw_some h
  refine ej_cs_i (nc := 1) (ns := 6) B.1 [.ref 0, .int (xs (er_ix (x4 + 1)))] [] (ec_L_close hl.2 (er_prW B) (xs (er_ix (x4 + 1))) σ (v309, g311) e310) cal_L_close lk_L_129 st_L_close rfl B.2.2.2.1 d_L_law_907 ⟨Nat.le_of_ble_eq_true rfl, Nat.le_of_ble_eq_true rfl, hkc, hks⟩ (Nat.le_of_ble_eq_true rfl) rfl ?_
  refine ej_istore B.1 (lv' := [some (.ref 40), some (.ref 0), some (.ref 21), some (.ref 39), some (.int x4), some (.int v309), none]) d_L_law_910 rfl rfl rfl ?_
  refine ej_aload_n B.1 d_L_law_912 rfl ?_
  refine ej_aload_n B.1 d_L_law_913 rfl ?_
  refine ej_iload B.1 d_L_law_914 rfl ?_
  refine ej_iconst B.1 (v := 1) d_L_law_916 rfl ?_
  refine ej_iadd B.1 d_L_law_917 ?_
  obtain ⟨e312, h⟩ := er_gd_some h
  refine ej_sld B e312 d_L_law_918 ?_
  obtain ⟨v313, g315, e314, h⟩ := er_bw_some h
  refine ej_cv_v (nc := 0) (ns := 0) B.1 [.int (xs (er_ix (x4 + 1)))] [] (ec_M_close (er_sub rfl rfl (er_prW B)) (xs (er_ix (x4 + 1))) g311 (v313, g315) e314) cal_M_close lk_L_131 in_M_close (er_atW B 21 rfl rfl) rfl rfl se_M_close rfl B.2.2.2.1 d_L_law_919 ⟨Nat.le_of_ble_eq_true rfl, Nat.le_of_ble_eq_true rfl, hkc, hks⟩ (Nat.le_of_ble_eq_true rfl) rfl ?_
  refine ej_aload_n B.1 d_L_law_922 rfl ?_
  obtain ⟨v316, e317, h⟩ := er_bd_some h
  refine ej_cv_i (nc := 0) (ns := 0) B.1 [] [] (ec_M_thrown (er_sub rfl rfl (er_prW B)) g315 v316 e317) cal_M_thrown lk_L_89 in_M_thrown (er_atW B 21 rfl rfl) rfl rfl se_M_thrown rfl B.2.2.2.1 d_L_law_923 ⟨Nat.le_of_ble_eq_true rfl, Nat.le_of_ble_eq_true rfl, hkc, hks⟩ (Nat.le_of_ble_eq_true rfl) rfl ?_
  refine ej_iload B.1 d_L_law_926 rfl ?_
  refine ej_icmp_eq B.1 (tgt := 933) d_L_law_928 (by decide) (fun q318 => ?_) (fun q318 => ?_)
  · replace h := er_it h q318
    refine ej_goto B.1 (tgt := 1308) d_L_law_933 (by decide) ?_
    cases h
    exact ej_le (lv' := [some (.ref 40), some (.ref 0), some (.ref 21), some (.ref 39), some (.int x4), none, none]) ⟨rfl, ⟨rfl, ⟨rfl, ⟨rfl, ⟨rfl, trivial⟩⟩⟩⟩⟩ hk
  · replace h := er_if h q318
    refine ej_iconst B.1 (v := 0) d_L_law_931 rfl ?_
    cases h
set_option maxRecDepth 100000 in
set_option maxHeartbeats 8000000 in
theorem ew_law_c12 {p : Program} {l : Launch} {e : Env} {s : State} {m : MethodId} {args : Array Value} {below : List Frame} {meth : Method} {c : Code} {G : er_G} {Q : State → Prop} {b L : Nat} {xs : Nat → Int32} {kc ks : Nat} (hl : l.admits e ∧ l.stackTraces = false) (B : er_BW p s m c G b L xs) (hkc : kc + 1 ≤ room_1.cells) (hks : ks + 6 ≤ room_1.slots) (x4 : Int32) (σ σ' : er_S) (h : el_c12 L xs x4 σ = some (some σ')) (hk : er_J p l e room_1 s m args below meth c G (fun q => s.heap.size ≤ q) s.heap Q (kc + 1) (ks + 6) σ' 1308 [some (.ref 40), some (.ref 0), some (.ref 21), some (.ref 39), some (.int x4), none, none] []) : er_J p l e room_1 s m args below meth c G (fun q => s.heap.size ≤ q) s.heap Q kc ks σ 936 [some (.ref 40), some (.ref 0), some (.ref 21), some (.ref 39), some (.int x4), none, none] [] := by
  unfold el_c12 at h
  refine ej_aload_n B.1 d_L_law_936 rfl ?_
  refine ej_aload_n B.1 d_L_law_937 rfl ?_
  refine ej_iload B.1 d_L_law_938 rfl ?_
  refine ej_iconst B.1 (v := 1) d_L_law_940 rfl ?_
  refine ej_iadd B.1 d_L_law_941 ?_
  obtain ⟨e319, h⟩ := er_gd_some h
  refine ej_sld B e319 d_L_law_942 ?_
  refine ej_aload_n B.1 d_L_law_943 rfl ?_
  obtain ⟨v320, g322, e321, h⟩ := er_bw_some h
  refine ej_cs_i (nc := 1) (ns := 6) B.1 [.ref 0, .int (xs (er_ix (x4 + 1))), .ref 39] [] (ec_L_tick hl.2 (er_prW B) (xs (er_ix (x4 + 1))) σ (v320, g322) e321) cal_L_tick lk_L_132 st_L_tick rfl B.2.2.2.1 d_L_law_944 ⟨Nat.le_of_ble_eq_true rfl, Nat.le_of_ble_eq_true rfl, hkc, hks⟩ (Nat.le_of_ble_eq_true rfl) rfl ?_
  refine ej_istore B.1 (lv' := [some (.ref 40), some (.ref 0), some (.ref 21), some (.ref 39), some (.int x4), some (.int v320), none]) d_L_law_947 rfl rfl rfl ?_
  refine ej_aload_n B.1 d_L_law_949 rfl ?_
  refine ej_aload_n B.1 d_L_law_950 rfl ?_
  refine ej_iload B.1 d_L_law_951 rfl ?_
  refine ej_iconst B.1 (v := 1) d_L_law_953 rfl ?_
  refine ej_iadd B.1 d_L_law_954 ?_
  obtain ⟨e323, h⟩ := er_gd_some h
  refine ej_sld B e323 d_L_law_955 ?_
  obtain ⟨v324, g326, e325, h⟩ := er_bw_some h
  refine ej_cv_i (nc := 0) (ns := 0) B.1 [.int (xs (er_ix (x4 + 1)))] [] (ec_M_tick (er_sub rfl rfl (er_prW B)) (xs (er_ix (x4 + 1))) g322 (v324, g326) e325) cal_M_tick lk_L_135 in_M_tick (er_atW B 21 rfl rfl) rfl rfl se_M_tick rfl B.2.2.2.1 d_L_law_956 ⟨Nat.le_of_ble_eq_true rfl, Nat.le_of_ble_eq_true rfl, hkc, hks⟩ (Nat.le_of_ble_eq_true rfl) rfl ?_
  refine ej_istore B.1 (lv' := [some (.ref 40), some (.ref 0), some (.ref 21), some (.ref 39), some (.int x4), some (.int v320), some (.int v324)]) d_L_law_959 rfl rfl rfl ?_
  refine ej_aload_n B.1 d_L_law_961 rfl ?_
  obtain ⟨v327, e328, h⟩ := er_bd_some h
  refine ej_cv_i (nc := 0) (ns := 0) B.1 [] [] (ec_M_thrown (er_sub rfl rfl (er_prW B)) g326 v327 e328) cal_M_thrown lk_L_89 in_M_thrown (er_atW B 21 rfl rfl) rfl rfl se_M_thrown rfl B.2.2.2.1 d_L_law_962 ⟨Nat.le_of_ble_eq_true rfl, Nat.le_of_ble_eq_true rfl, hkc, hks⟩ (Nat.le_of_ble_eq_true rfl) rfl ?_
  refine ej_iload B.1 d_L_law_965 rfl ?_
  refine ej_icmp_eq B.1 (tgt := 972) d_L_law_967 (by decide) (fun q329 => ?_) (fun q329 => ?_)
  · replace h := er_it h q329
    refine ej_iload B.1 d_L_law_972 rfl ?_
    refine ej_if_ne B.1 (tgt := 989) d_L_law_974 (by decide) (fun q330 => ?_) (fun q330 => ?_)
    · replace h := er_if h q330
      refine ej_goto B.1 (tgt := 1308) d_L_law_989 (by decide) ?_
      cases h
      exact ej_le (lv' := [some (.ref 40), some (.ref 0), some (.ref 21), some (.ref 39), some (.int x4), none, none]) ⟨rfl, ⟨rfl, ⟨rfl, ⟨rfl, ⟨rfl, trivial⟩⟩⟩⟩⟩ hk
    · replace h := er_it h q330
      refine ej_aload_n B.1 d_L_law_977 rfl ?_
      refine ej_iconst B.1 (v := 0) d_L_law_978 rfl ?_
      obtain ⟨e331, h⟩ := er_gd_some h
      refine ej_lald B.1 (er_atW B 39 rfl rfl) rfl e331 d_L_law_979 ?_
      refine ej_iload B.1 d_L_law_980 rfl ?_
      refine ej_i2l B.1 d_L_law_982 ?_
      refine ej_lcmp B.1 d_L_law_983 ?_
      refine ej_if_eq B.1 (tgt := 989) d_L_law_984 (by decide) (fun q332 => ?_) (fun q332 => ?_)
      · replace h := er_it h q332
        refine ej_goto B.1 (tgt := 1308) d_L_law_989 (by decide) ?_
        cases h
        exact ej_le (lv' := [some (.ref 40), some (.ref 0), some (.ref 21), some (.ref 39), some (.int x4), none, none]) ⟨rfl, ⟨rfl, ⟨rfl, ⟨rfl, ⟨rfl, trivial⟩⟩⟩⟩⟩ hk
      · replace h := er_if h q332
        refine ej_iconst B.1 (v := 0) d_L_law_987 rfl ?_
        cases h
  · replace h := er_if h q329
    refine ej_iconst B.1 (v := 0) d_L_law_970 rfl ?_
    cases h
set_option maxRecDepth 100000 in
set_option maxHeartbeats 8000000 in
theorem ew_law_c13 {p : Program} {l : Launch} {e : Env} {s : State} {m : MethodId} {args : Array Value} {below : List Frame} {meth : Method} {c : Code} {G : er_G} {Q : State → Prop} {b L : Nat} {xs : Nat → Int32} {kc ks : Nat} (hl : l.admits e ∧ l.stackTraces = false) (B : er_BW p s m c G b L xs) (hkc : kc + 1 ≤ room_1.cells) (hks : ks + 6 ≤ room_1.slots) (x4 : Int32) (σ σ' : er_S) (h : el_c13 L xs x4 σ = some (some σ')) (hk : er_J p l e room_1 s m args below meth c G (fun q => s.heap.size ≤ q) s.heap Q (kc + 1) (ks + 6) σ' 1308 [some (.ref 40), some (.ref 0), some (.ref 21), some (.ref 39), some (.int x4), none, none] []) : er_J p l e room_1 s m args below meth c G (fun q => s.heap.size ≤ q) s.heap Q kc ks σ 992 [some (.ref 40), some (.ref 0), some (.ref 21), some (.ref 39), some (.int x4), none, none] [] := by
  unfold el_c13 at h
  refine ej_aload_n B.1 d_L_law_992 rfl ?_
  refine ej_aload_n B.1 d_L_law_993 rfl ?_
  refine ej_iload B.1 d_L_law_994 rfl ?_
  refine ej_iconst B.1 (v := 1) d_L_law_996 rfl ?_
  refine ej_iadd B.1 d_L_law_997 ?_
  obtain ⟨e333, h⟩ := er_gd_some h
  refine ej_sld B e333 d_L_law_998 ?_
  refine ej_aload_n B.1 d_L_law_999 rfl ?_
  refine ej_iload B.1 d_L_law_1000 rfl ?_
  refine ej_iconst B.1 (v := 2) d_L_law_1002 rfl ?_
  refine ej_iadd B.1 d_L_law_1003 ?_
  obtain ⟨e334, h⟩ := er_gd_some h
  refine ej_sld B e334 d_L_law_1004 ?_
  refine ej_aload_n B.1 d_L_law_1005 rfl ?_
  obtain ⟨v335, g337, e336, h⟩ := er_bw_some h
  refine ej_cs_i (nc := 1) (ns := 6) B.1 [.ref 0, .int (xs (er_ix (x4 + 1))), .int (xs (er_ix (x4 + 2))), .ref 39] [] (ec_L_on hl.2 (er_prW B) (xs (er_ix (x4 + 1))) (xs (er_ix (x4 + 2))) σ (v335, g337) e336) cal_L_on lk_L_136 st_L_on rfl B.2.2.2.1 d_L_law_1006 ⟨Nat.le_of_ble_eq_true rfl, Nat.le_of_ble_eq_true rfl, hkc, hks⟩ (Nat.le_of_ble_eq_true rfl) rfl ?_
  refine ej_istore B.1 (lv' := [some (.ref 40), some (.ref 0), some (.ref 21), some (.ref 39), some (.int x4), some (.int v335), none]) d_L_law_1009 rfl rfl rfl ?_
  refine ej_aload_n B.1 d_L_law_1011 rfl ?_
  refine ej_aload_n B.1 d_L_law_1012 rfl ?_
  refine ej_iload B.1 d_L_law_1013 rfl ?_
  refine ej_iconst B.1 (v := 1) d_L_law_1015 rfl ?_
  refine ej_iadd B.1 d_L_law_1016 ?_
  obtain ⟨e338, h⟩ := er_gd_some h
  refine ej_sld B e338 d_L_law_1017 ?_
  refine ej_aload_n B.1 d_L_law_1018 rfl ?_
  refine ej_iload B.1 d_L_law_1019 rfl ?_
  refine ej_iconst B.1 (v := 2) d_L_law_1021 rfl ?_
  refine ej_iadd B.1 d_L_law_1022 ?_
  obtain ⟨e339, h⟩ := er_gd_some h
  refine ej_sld B e339 d_L_law_1023 ?_
  obtain ⟨v340, g342, e341, h⟩ := er_bw_some h
  refine ej_cv_i (nc := 0) (ns := 0) B.1 [.int (xs (er_ix (x4 + 1))), .int (xs (er_ix (x4 + 2)))] [] (ec_M_on (er_sub rfl rfl (er_prW B)) (xs (er_ix (x4 + 1))) (xs (er_ix (x4 + 2))) g337 (v340, g342) e341) cal_M_on lk_L_138 in_M_on (er_atW B 21 rfl rfl) rfl rfl se_M_on rfl B.2.2.2.1 d_L_law_1024 ⟨Nat.le_of_ble_eq_true rfl, Nat.le_of_ble_eq_true rfl, hkc, hks⟩ (Nat.le_of_ble_eq_true rfl) rfl ?_
  refine ej_istore B.1 (lv' := [some (.ref 40), some (.ref 0), some (.ref 21), some (.ref 39), some (.int x4), some (.int v335), some (.int v340)]) d_L_law_1027 rfl rfl rfl ?_
  refine ej_aload_n B.1 d_L_law_1029 rfl ?_
  obtain ⟨v343, e344, h⟩ := er_bd_some h
  refine ej_cv_i (nc := 0) (ns := 0) B.1 [] [] (ec_M_thrown (er_sub rfl rfl (er_prW B)) g342 v343 e344) cal_M_thrown lk_L_89 in_M_thrown (er_atW B 21 rfl rfl) rfl rfl se_M_thrown rfl B.2.2.2.1 d_L_law_1030 ⟨Nat.le_of_ble_eq_true rfl, Nat.le_of_ble_eq_true rfl, hkc, hks⟩ (Nat.le_of_ble_eq_true rfl) rfl ?_
  refine ej_iload B.1 d_L_law_1033 rfl ?_
  refine ej_icmp_eq B.1 (tgt := 1040) d_L_law_1035 (by decide) (fun q345 => ?_) (fun q345 => ?_)
  · replace h := er_it h q345
    refine ej_iload B.1 d_L_law_1040 rfl ?_
    refine ej_if_ne B.1 (tgt := 1057) d_L_law_1042 (by decide) (fun q346 => ?_) (fun q346 => ?_)
    · replace h := er_if h q346
      refine ej_goto B.1 (tgt := 1308) d_L_law_1057 (by decide) ?_
      cases h
      exact ej_le (lv' := [some (.ref 40), some (.ref 0), some (.ref 21), some (.ref 39), some (.int x4), none, none]) ⟨rfl, ⟨rfl, ⟨rfl, ⟨rfl, ⟨rfl, trivial⟩⟩⟩⟩⟩ hk
    · replace h := er_it h q346
      refine ej_aload_n B.1 d_L_law_1045 rfl ?_
      refine ej_iconst B.1 (v := 0) d_L_law_1046 rfl ?_
      obtain ⟨e347, h⟩ := er_gd_some h
      refine ej_lald B.1 (er_atW B 39 rfl rfl) rfl e347 d_L_law_1047 ?_
      refine ej_iload B.1 d_L_law_1048 rfl ?_
      refine ej_i2l B.1 d_L_law_1050 ?_
      refine ej_lcmp B.1 d_L_law_1051 ?_
      refine ej_if_eq B.1 (tgt := 1057) d_L_law_1052 (by decide) (fun q348 => ?_) (fun q348 => ?_)
      · replace h := er_it h q348
        refine ej_goto B.1 (tgt := 1308) d_L_law_1057 (by decide) ?_
        cases h
        exact ej_le (lv' := [some (.ref 40), some (.ref 0), some (.ref 21), some (.ref 39), some (.int x4), none, none]) ⟨rfl, ⟨rfl, ⟨rfl, ⟨rfl, ⟨rfl, trivial⟩⟩⟩⟩⟩ hk
      · replace h := er_if h q348
        refine ej_iconst B.1 (v := 0) d_L_law_1055 rfl ?_
        cases h
  · replace h := er_if h q345
    refine ej_iconst B.1 (v := 0) d_L_law_1038 rfl ?_
    cases h
set_option maxRecDepth 100000 in
set_option maxHeartbeats 8000000 in
theorem ew_law_c14 {p : Program} {l : Launch} {e : Env} {s : State} {m : MethodId} {args : Array Value} {below : List Frame} {meth : Method} {c : Code} {G : er_G} {Q : State → Prop} {b L : Nat} {xs : Nat → Int32} {kc ks : Nat} (hl : l.admits e ∧ l.stackTraces = false) (B : er_BW p s m c G b L xs) (hkc : kc + 1 ≤ room_1.cells) (hks : ks + 6 ≤ room_1.slots) (x4 : Int32) (σ σ' : er_S) (h : el_c14 L xs x4 σ = some (some σ')) (hk : er_J p l e room_1 s m args below meth c G (fun q => s.heap.size ≤ q) s.heap Q (kc + 1) (ks + 6) σ' 1308 [some (.ref 40), some (.ref 0), some (.ref 21), some (.ref 39), some (.int x4), none, none] []) : er_J p l e room_1 s m args below meth c G (fun q => s.heap.size ≤ q) s.heap Q kc ks σ 1060 [some (.ref 40), some (.ref 0), some (.ref 21), some (.ref 39), some (.int x4), none, none] [] := by
  unfold el_c14 at h
  refine ej_aload_n B.1 d_L_law_1060 rfl ?_
  refine ej_aload_n B.1 d_L_law_1061 rfl ?_
  refine ej_iload B.1 d_L_law_1062 rfl ?_
  refine ej_iconst B.1 (v := 1) d_L_law_1064 rfl ?_
  refine ej_iadd B.1 d_L_law_1065 ?_
  obtain ⟨e349, h⟩ := er_gd_some h
  refine ej_sld B e349 d_L_law_1066 ?_
  refine ej_aload_n B.1 d_L_law_1067 rfl ?_
  obtain ⟨v350, g352, e351, h⟩ := er_bw_some h
  refine ej_cs_i (nc := 1) (ns := 6) B.1 [.ref 0, .int (xs (er_ix (x4 + 1))), .ref 39] [] (ec_L_late hl.2 (er_prW B) (xs (er_ix (x4 + 1))) σ (v350, g352) e351) cal_L_late lk_L_139 st_L_late rfl B.2.2.2.1 d_L_law_1068 ⟨Nat.le_of_ble_eq_true rfl, Nat.le_of_ble_eq_true rfl, hkc, hks⟩ (Nat.le_of_ble_eq_true rfl) rfl ?_
  refine ej_istore B.1 (lv' := [some (.ref 40), some (.ref 0), some (.ref 21), some (.ref 39), some (.int x4), some (.int v350), none]) d_L_law_1071 rfl rfl rfl ?_
  refine ej_aload_n B.1 d_L_law_1073 rfl ?_
  refine ej_aload_n B.1 d_L_law_1074 rfl ?_
  refine ej_iload B.1 d_L_law_1075 rfl ?_
  refine ej_iconst B.1 (v := 1) d_L_law_1077 rfl ?_
  refine ej_iadd B.1 d_L_law_1078 ?_
  obtain ⟨e353, h⟩ := er_gd_some h
  refine ej_sld B e353 d_L_law_1079 ?_
  obtain ⟨v354, g356, e355, h⟩ := er_bw_some h
  refine ej_cv_i (nc := 0) (ns := 0) B.1 [.int (xs (er_ix (x4 + 1)))] [] (ec_M_late (er_sub rfl rfl (er_prW B)) (xs (er_ix (x4 + 1))) g352 (v354, g356) e355) cal_M_late lk_L_141 in_M_late (er_atW B 21 rfl rfl) rfl rfl se_M_late rfl B.2.2.2.1 d_L_law_1080 ⟨Nat.le_of_ble_eq_true rfl, Nat.le_of_ble_eq_true rfl, hkc, hks⟩ (Nat.le_of_ble_eq_true rfl) rfl ?_
  refine ej_istore B.1 (lv' := [some (.ref 40), some (.ref 0), some (.ref 21), some (.ref 39), some (.int x4), some (.int v350), some (.int v354)]) d_L_law_1083 rfl rfl rfl ?_
  refine ej_aload_n B.1 d_L_law_1085 rfl ?_
  obtain ⟨v357, e358, h⟩ := er_bd_some h
  refine ej_cv_i (nc := 0) (ns := 0) B.1 [] [] (ec_M_thrown (er_sub rfl rfl (er_prW B)) g356 v357 e358) cal_M_thrown lk_L_89 in_M_thrown (er_atW B 21 rfl rfl) rfl rfl se_M_thrown rfl B.2.2.2.1 d_L_law_1086 ⟨Nat.le_of_ble_eq_true rfl, Nat.le_of_ble_eq_true rfl, hkc, hks⟩ (Nat.le_of_ble_eq_true rfl) rfl ?_
  refine ej_iload B.1 d_L_law_1089 rfl ?_
  refine ej_icmp_eq B.1 (tgt := 1096) d_L_law_1091 (by decide) (fun q359 => ?_) (fun q359 => ?_)
  · replace h := er_it h q359
    refine ej_iload B.1 d_L_law_1096 rfl ?_
    refine ej_if_ne B.1 (tgt := 1113) d_L_law_1098 (by decide) (fun q360 => ?_) (fun q360 => ?_)
    · replace h := er_if h q360
      refine ej_goto B.1 (tgt := 1308) d_L_law_1113 (by decide) ?_
      cases h
      exact ej_le (lv' := [some (.ref 40), some (.ref 0), some (.ref 21), some (.ref 39), some (.int x4), none, none]) ⟨rfl, ⟨rfl, ⟨rfl, ⟨rfl, ⟨rfl, trivial⟩⟩⟩⟩⟩ hk
    · replace h := er_it h q360
      refine ej_aload_n B.1 d_L_law_1101 rfl ?_
      refine ej_iconst B.1 (v := 0) d_L_law_1102 rfl ?_
      obtain ⟨e361, h⟩ := er_gd_some h
      refine ej_lald B.1 (er_atW B 39 rfl rfl) rfl e361 d_L_law_1103 ?_
      refine ej_iload B.1 d_L_law_1104 rfl ?_
      refine ej_i2l B.1 d_L_law_1106 ?_
      refine ej_lcmp B.1 d_L_law_1107 ?_
      refine ej_if_eq B.1 (tgt := 1113) d_L_law_1108 (by decide) (fun q362 => ?_) (fun q362 => ?_)
      · replace h := er_it h q362
        refine ej_goto B.1 (tgt := 1308) d_L_law_1113 (by decide) ?_
        cases h
        exact ej_le (lv' := [some (.ref 40), some (.ref 0), some (.ref 21), some (.ref 39), some (.int x4), none, none]) ⟨rfl, ⟨rfl, ⟨rfl, ⟨rfl, ⟨rfl, trivial⟩⟩⟩⟩⟩ hk
      · replace h := er_if h q362
        refine ej_iconst B.1 (v := 0) d_L_law_1111 rfl ?_
        cases h
  · replace h := er_if h q359
    refine ej_iconst B.1 (v := 0) d_L_law_1094 rfl ?_
    cases h
set_option maxRecDepth 100000 in
set_option maxHeartbeats 8000000 in
theorem ew_law_c15 {p : Program} {l : Launch} {e : Env} {s : State} {m : MethodId} {args : Array Value} {below : List Frame} {meth : Method} {c : Code} {G : er_G} {Q : State → Prop} {b L : Nat} {xs : Nat → Int32} {kc ks : Nat} (hl : l.admits e ∧ l.stackTraces = false) (B : er_BW p s m c G b L xs) (hkc : kc + 1 ≤ room_1.cells) (hks : ks + 6 ≤ room_1.slots) (x4 : Int32) (σ σ' : er_S) (h : el_c15 L xs x4 σ = some (some σ')) (hk : er_J p l e room_1 s m args below meth c G (fun q => s.heap.size ≤ q) s.heap Q (kc + 1) (ks + 6) σ' 1308 [some (.ref 40), some (.ref 0), some (.ref 21), some (.ref 39), some (.int x4), none, none] []) : er_J p l e room_1 s m args below meth c G (fun q => s.heap.size ≤ q) s.heap Q kc ks σ 1116 [some (.ref 40), some (.ref 0), some (.ref 21), some (.ref 39), some (.int x4), none, none] [] := by
  unfold el_c15 at h
  refine ej_aload_n B.1 d_L_law_1116 rfl ?_
  refine ej_aload_n B.1 d_L_law_1117 rfl ?_
  refine ej_iload B.1 d_L_law_1118 rfl ?_
  refine ej_iconst B.1 (v := 1) d_L_law_1120 rfl ?_
  refine ej_iadd B.1 d_L_law_1121 ?_
  obtain ⟨e363, h⟩ := er_gd_some h
  refine ej_sld B e363 d_L_law_1122 ?_
  refine ej_aload_n B.1 d_L_law_1123 rfl ?_
  refine ej_iload B.1 d_L_law_1124 rfl ?_
  refine ej_iconst B.1 (v := 2) d_L_law_1126 rfl ?_
  refine ej_iadd B.1 d_L_law_1127 ?_
  obtain ⟨e364, h⟩ := er_gd_some h
  refine ej_sld B e364 d_L_law_1128 ?_
  refine ej_aload_n B.1 d_L_law_1129 rfl ?_
  obtain ⟨v365, g367, e366, h⟩ := er_bw_some h
  refine ej_cs_i (nc := 1) (ns := 6) B.1 [.ref 0, .int (xs (er_ix (x4 + 1))), .int (xs (er_ix (x4 + 2))), .ref 39] [] (ec_L_person hl.2 (er_prW B) (xs (er_ix (x4 + 1))) (xs (er_ix (x4 + 2))) σ (v365, g367) e366) cal_L_person lk_L_142 st_L_person rfl B.2.2.2.1 d_L_law_1130 ⟨Nat.le_of_ble_eq_true rfl, Nat.le_of_ble_eq_true rfl, hkc, hks⟩ (Nat.le_of_ble_eq_true rfl) rfl ?_
  refine ej_istore B.1 (lv' := [some (.ref 40), some (.ref 0), some (.ref 21), some (.ref 39), some (.int x4), some (.int v365), none]) d_L_law_1133 rfl rfl rfl ?_
  refine ej_aload_n B.1 d_L_law_1135 rfl ?_
  refine ej_aload_n B.1 d_L_law_1136 rfl ?_
  refine ej_iload B.1 d_L_law_1137 rfl ?_
  refine ej_iconst B.1 (v := 1) d_L_law_1139 rfl ?_
  refine ej_iadd B.1 d_L_law_1140 ?_
  obtain ⟨e368, h⟩ := er_gd_some h
  refine ej_sld B e368 d_L_law_1141 ?_
  refine ej_aload_n B.1 d_L_law_1142 rfl ?_
  refine ej_iload B.1 d_L_law_1143 rfl ?_
  refine ej_iconst B.1 (v := 2) d_L_law_1145 rfl ?_
  refine ej_iadd B.1 d_L_law_1146 ?_
  obtain ⟨e369, h⟩ := er_gd_some h
  refine ej_sld B e369 d_L_law_1147 ?_
  obtain ⟨v370, g372, e371, h⟩ := er_bw_some h
  refine ej_cv_i (nc := 0) (ns := 0) B.1 [.int (xs (er_ix (x4 + 1))), .int (xs (er_ix (x4 + 2)))] [] (ec_M_person (er_sub rfl rfl (er_prW B)) (xs (er_ix (x4 + 1))) (xs (er_ix (x4 + 2))) g367 (v370, g372) e371) cal_M_person lk_L_144 in_M_person (er_atW B 21 rfl rfl) rfl rfl se_M_person rfl B.2.2.2.1 d_L_law_1148 ⟨Nat.le_of_ble_eq_true rfl, Nat.le_of_ble_eq_true rfl, hkc, hks⟩ (Nat.le_of_ble_eq_true rfl) rfl ?_
  refine ej_istore B.1 (lv' := [some (.ref 40), some (.ref 0), some (.ref 21), some (.ref 39), some (.int x4), some (.int v365), some (.int v370)]) d_L_law_1151 rfl rfl rfl ?_
  refine ej_aload_n B.1 d_L_law_1153 rfl ?_
  obtain ⟨v373, e374, h⟩ := er_bd_some h
  refine ej_cv_i (nc := 0) (ns := 0) B.1 [] [] (ec_M_thrown (er_sub rfl rfl (er_prW B)) g372 v373 e374) cal_M_thrown lk_L_89 in_M_thrown (er_atW B 21 rfl rfl) rfl rfl se_M_thrown rfl B.2.2.2.1 d_L_law_1154 ⟨Nat.le_of_ble_eq_true rfl, Nat.le_of_ble_eq_true rfl, hkc, hks⟩ (Nat.le_of_ble_eq_true rfl) rfl ?_
  refine ej_iload B.1 d_L_law_1157 rfl ?_
  refine ej_icmp_eq B.1 (tgt := 1164) d_L_law_1159 (by decide) (fun q375 => ?_) (fun q375 => ?_)
  · replace h := er_it h q375
    refine ej_iload B.1 d_L_law_1164 rfl ?_
    refine ej_if_ne B.1 (tgt := 1181) d_L_law_1166 (by decide) (fun q376 => ?_) (fun q376 => ?_)
    · replace h := er_if h q376
      refine ej_goto B.1 (tgt := 1308) d_L_law_1181 (by decide) ?_
      cases h
      exact ej_le (lv' := [some (.ref 40), some (.ref 0), some (.ref 21), some (.ref 39), some (.int x4), none, none]) ⟨rfl, ⟨rfl, ⟨rfl, ⟨rfl, ⟨rfl, trivial⟩⟩⟩⟩⟩ hk
    · replace h := er_it h q376
      refine ej_aload_n B.1 d_L_law_1169 rfl ?_
      refine ej_iconst B.1 (v := 0) d_L_law_1170 rfl ?_
      obtain ⟨e377, h⟩ := er_gd_some h
      refine ej_lald B.1 (er_atW B 39 rfl rfl) rfl e377 d_L_law_1171 ?_
      refine ej_iload B.1 d_L_law_1172 rfl ?_
      refine ej_i2l B.1 d_L_law_1174 ?_
      refine ej_lcmp B.1 d_L_law_1175 ?_
      refine ej_if_eq B.1 (tgt := 1181) d_L_law_1176 (by decide) (fun q378 => ?_) (fun q378 => ?_)
      · replace h := er_it h q378
        refine ej_goto B.1 (tgt := 1308) d_L_law_1181 (by decide) ?_
        cases h
        exact ej_le (lv' := [some (.ref 40), some (.ref 0), some (.ref 21), some (.ref 39), some (.int x4), none, none]) ⟨rfl, ⟨rfl, ⟨rfl, ⟨rfl, ⟨rfl, trivial⟩⟩⟩⟩⟩ hk
      · replace h := er_if h q378
        refine ej_iconst B.1 (v := 0) d_L_law_1179 rfl ?_
        cases h
  · replace h := er_if h q375
    refine ej_iconst B.1 (v := 0) d_L_law_1162 rfl ?_
    cases h
set_option maxRecDepth 100000 in
set_option maxHeartbeats 8000000 in
theorem ew_law_c16 {p : Program} {l : Launch} {e : Env} {s : State} {m : MethodId} {args : Array Value} {below : List Frame} {meth : Method} {c : Code} {G : er_G} {Q : State → Prop} {b L : Nat} {xs : Nat → Int32} {kc ks : Nat} (hl : l.admits e ∧ l.stackTraces = false) (B : er_BW p s m c G b L xs) (hkc : kc + 1 ≤ room_1.cells) (hks : ks + 6 ≤ room_1.slots) (x4 : Int32) (σ σ' : er_S) (h : el_c16 L xs x4 σ = some (some σ')) (hk : er_J p l e room_1 s m args below meth c G (fun q => s.heap.size ≤ q) s.heap Q (kc + 1) (ks + 6) σ' 1308 [some (.ref 40), some (.ref 0), some (.ref 21), some (.ref 39), some (.int x4), none, none] []) : er_J p l e room_1 s m args below meth c G (fun q => s.heap.size ≤ q) s.heap Q kc ks σ 1184 [some (.ref 40), some (.ref 0), some (.ref 21), some (.ref 39), some (.int x4), none, none] [] := by
  unfold el_c16 at h
  refine ej_aload_n B.1 d_L_law_1184 rfl ?_
  refine ej_aload_n B.1 d_L_law_1185 rfl ?_
  refine ej_iload B.1 d_L_law_1186 rfl ?_
  refine ej_iconst B.1 (v := 1) d_L_law_1188 rfl ?_
  refine ej_iadd B.1 d_L_law_1189 ?_
  obtain ⟨e379, h⟩ := er_gd_some h
  refine ej_sld B e379 d_L_law_1190 ?_
  refine ej_aload_n B.1 d_L_law_1191 rfl ?_
  refine ej_iload B.1 d_L_law_1192 rfl ?_
  refine ej_iconst B.1 (v := 2) d_L_law_1194 rfl ?_
  refine ej_iadd B.1 d_L_law_1195 ?_
  obtain ⟨e380, h⟩ := er_gd_some h
  refine ej_sld B e380 d_L_law_1196 ?_
  refine ej_aload_n B.1 d_L_law_1197 rfl ?_
  obtain ⟨v381, g383, e382, h⟩ := er_bw_some h
  refine ej_cs_i (nc := 1) (ns := 6) B.1 [.ref 0, .int (xs (er_ix (x4 + 1))), .int (xs (er_ix (x4 + 2))), .ref 39] [] (ec_L_boardAt hl.2 (er_prW B) (xs (er_ix (x4 + 1))) (xs (er_ix (x4 + 2))) σ (v381, g383) e382) cal_L_boardAt lk_L_145 st_L_boardAt rfl B.2.2.2.1 d_L_law_1198 ⟨Nat.le_of_ble_eq_true rfl, Nat.le_of_ble_eq_true rfl, hkc, hks⟩ (Nat.le_of_ble_eq_true rfl) rfl ?_
  refine ej_istore B.1 (lv' := [some (.ref 40), some (.ref 0), some (.ref 21), some (.ref 39), some (.int x4), some (.int v381), none]) d_L_law_1201 rfl rfl rfl ?_
  refine ej_aload_n B.1 d_L_law_1203 rfl ?_
  refine ej_aload_n B.1 d_L_law_1204 rfl ?_
  refine ej_iload B.1 d_L_law_1205 rfl ?_
  refine ej_iconst B.1 (v := 1) d_L_law_1207 rfl ?_
  refine ej_iadd B.1 d_L_law_1208 ?_
  obtain ⟨e384, h⟩ := er_gd_some h
  refine ej_sld B e384 d_L_law_1209 ?_
  refine ej_aload_n B.1 d_L_law_1210 rfl ?_
  refine ej_iload B.1 d_L_law_1211 rfl ?_
  refine ej_iconst B.1 (v := 2) d_L_law_1213 rfl ?_
  refine ej_iadd B.1 d_L_law_1214 ?_
  obtain ⟨e385, h⟩ := er_gd_some h
  refine ej_sld B e385 d_L_law_1215 ?_
  obtain ⟨v386, g388, e387, h⟩ := er_bw_some h
  refine ej_cv_i (nc := 0) (ns := 0) B.1 [.int (xs (er_ix (x4 + 1))), .int (xs (er_ix (x4 + 2)))] [] (ec_M_boardAt (er_sub rfl rfl (er_prW B)) (xs (er_ix (x4 + 1))) (xs (er_ix (x4 + 2))) g383 (v386, g388) e387) cal_M_boardAt lk_L_147 in_M_boardAt (er_atW B 21 rfl rfl) rfl rfl se_M_boardAt rfl B.2.2.2.1 d_L_law_1216 ⟨Nat.le_of_ble_eq_true rfl, Nat.le_of_ble_eq_true rfl, hkc, hks⟩ (Nat.le_of_ble_eq_true rfl) rfl ?_
  refine ej_istore B.1 (lv' := [some (.ref 40), some (.ref 0), some (.ref 21), some (.ref 39), some (.int x4), some (.int v381), some (.int v386)]) d_L_law_1219 rfl rfl rfl ?_
  refine ej_aload_n B.1 d_L_law_1221 rfl ?_
  obtain ⟨v389, e390, h⟩ := er_bd_some h
  refine ej_cv_i (nc := 0) (ns := 0) B.1 [] [] (ec_M_thrown (er_sub rfl rfl (er_prW B)) g388 v389 e390) cal_M_thrown lk_L_89 in_M_thrown (er_atW B 21 rfl rfl) rfl rfl se_M_thrown rfl B.2.2.2.1 d_L_law_1222 ⟨Nat.le_of_ble_eq_true rfl, Nat.le_of_ble_eq_true rfl, hkc, hks⟩ (Nat.le_of_ble_eq_true rfl) rfl ?_
  refine ej_iload B.1 d_L_law_1225 rfl ?_
  refine ej_icmp_eq B.1 (tgt := 1232) d_L_law_1227 (by decide) (fun q391 => ?_) (fun q391 => ?_)
  · replace h := er_it h q391
    refine ej_iload B.1 d_L_law_1232 rfl ?_
    refine ej_if_ne B.1 (tgt := 1249) d_L_law_1234 (by decide) (fun q392 => ?_) (fun q392 => ?_)
    · replace h := er_if h q392
      refine ej_goto B.1 (tgt := 1308) d_L_law_1249 (by decide) ?_
      cases h
      exact ej_le (lv' := [some (.ref 40), some (.ref 0), some (.ref 21), some (.ref 39), some (.int x4), none, none]) ⟨rfl, ⟨rfl, ⟨rfl, ⟨rfl, ⟨rfl, trivial⟩⟩⟩⟩⟩ hk
    · replace h := er_it h q392
      refine ej_aload_n B.1 d_L_law_1237 rfl ?_
      refine ej_iconst B.1 (v := 0) d_L_law_1238 rfl ?_
      obtain ⟨e393, h⟩ := er_gd_some h
      refine ej_lald B.1 (er_atW B 39 rfl rfl) rfl e393 d_L_law_1239 ?_
      refine ej_iload B.1 d_L_law_1240 rfl ?_
      refine ej_i2l B.1 d_L_law_1242 ?_
      refine ej_lcmp B.1 d_L_law_1243 ?_
      refine ej_if_eq B.1 (tgt := 1249) d_L_law_1244 (by decide) (fun q394 => ?_) (fun q394 => ?_)
      · replace h := er_it h q394
        refine ej_goto B.1 (tgt := 1308) d_L_law_1249 (by decide) ?_
        cases h
        exact ej_le (lv' := [some (.ref 40), some (.ref 0), some (.ref 21), some (.ref 39), some (.int x4), none, none]) ⟨rfl, ⟨rfl, ⟨rfl, ⟨rfl, ⟨rfl, trivial⟩⟩⟩⟩⟩ hk
      · replace h := er_if h q394
        refine ej_iconst B.1 (v := 0) d_L_law_1247 rfl ?_
        cases h
  · replace h := er_if h q391
    refine ej_iconst B.1 (v := 0) d_L_law_1230 rfl ?_
    cases h
set_option maxRecDepth 100000 in
set_option maxHeartbeats 8000000 in
theorem ew_law_c17 {p : Program} {l : Launch} {e : Env} {s : State} {m : MethodId} {args : Array Value} {below : List Frame} {meth : Method} {c : Code} {G : er_G} {Q : State → Prop} {b L : Nat} {xs : Nat → Int32} {kc ks : Nat} (hl : l.admits e ∧ l.stackTraces = false) (B : er_BW p s m c G b L xs) (hkc : kc + 1 ≤ room_1.cells) (hks : ks + 6 ≤ room_1.slots) (x4 : Int32) (σ σ' : er_S) (h : el_c17 L xs x4 σ = some (some σ')) (hk : er_J p l e room_1 s m args below meth c G (fun q => s.heap.size ≤ q) s.heap Q (kc + 1) (ks + 6) σ' 1308 [some (.ref 40), some (.ref 0), some (.ref 21), some (.ref 39), some (.int x4), none, none] []) : er_J p l e room_1 s m args below meth c G (fun q => s.heap.size ≤ q) s.heap Q kc ks σ 1252 [some (.ref 40), some (.ref 0), some (.ref 21), some (.ref 39), some (.int x4), none, none] [] := by
  unfold el_c17 at h
  refine ej_aload_n B.1 d_L_law_1252 rfl ?_
  refine ej_aload_n B.1 d_L_law_1253 rfl ?_
  refine ej_iload B.1 d_L_law_1254 rfl ?_
  refine ej_iconst B.1 (v := 1) d_L_law_1256 rfl ?_
  refine ej_iadd B.1 d_L_law_1257 ?_
  obtain ⟨e395, h⟩ := er_gd_some h
  refine ej_sld B e395 d_L_law_1258 ?_
  refine ej_aload_n B.1 d_L_law_1259 rfl ?_
  obtain ⟨v396, g398, e397, h⟩ := er_bw_some h
  refine ej_cs_i (nc := 1) (ns := 6) B.1 [.ref 0, .int (xs (er_ix (x4 + 1))), .ref 39] [] (ec_L_count hl.2 (er_prW B) (xs (er_ix (x4 + 1))) σ (v396, g398) e397) cal_L_count lk_L_148 st_L_count rfl B.2.2.2.1 d_L_law_1260 ⟨Nat.le_of_ble_eq_true rfl, Nat.le_of_ble_eq_true rfl, hkc, hks⟩ (Nat.le_of_ble_eq_true rfl) rfl ?_
  refine ej_istore B.1 (lv' := [some (.ref 40), some (.ref 0), some (.ref 21), some (.ref 39), some (.int x4), some (.int v396), none]) d_L_law_1263 rfl rfl rfl ?_
  refine ej_aload_n B.1 d_L_law_1265 rfl ?_
  refine ej_aload_n B.1 d_L_law_1266 rfl ?_
  refine ej_iload B.1 d_L_law_1267 rfl ?_
  refine ej_iconst B.1 (v := 1) d_L_law_1269 rfl ?_
  refine ej_iadd B.1 d_L_law_1270 ?_
  obtain ⟨e399, h⟩ := er_gd_some h
  refine ej_sld B e399 d_L_law_1271 ?_
  obtain ⟨v400, g402, e401, h⟩ := er_bw_some h
  refine ej_cv_i (nc := 0) (ns := 0) B.1 [.int (xs (er_ix (x4 + 1)))] [] (ec_M_count (er_sub rfl rfl (er_prW B)) (xs (er_ix (x4 + 1))) g398 (v400, g402) e401) cal_M_count lk_L_150 in_M_count (er_atW B 21 rfl rfl) rfl rfl se_M_count rfl B.2.2.2.1 d_L_law_1272 ⟨Nat.le_of_ble_eq_true rfl, Nat.le_of_ble_eq_true rfl, hkc, hks⟩ (Nat.le_of_ble_eq_true rfl) rfl ?_
  refine ej_istore B.1 (lv' := [some (.ref 40), some (.ref 0), some (.ref 21), some (.ref 39), some (.int x4), some (.int v396), some (.int v400)]) d_L_law_1275 rfl rfl rfl ?_
  refine ej_aload_n B.1 d_L_law_1277 rfl ?_
  obtain ⟨v403, e404, h⟩ := er_bd_some h
  refine ej_cv_i (nc := 0) (ns := 0) B.1 [] [] (ec_M_thrown (er_sub rfl rfl (er_prW B)) g402 v403 e404) cal_M_thrown lk_L_89 in_M_thrown (er_atW B 21 rfl rfl) rfl rfl se_M_thrown rfl B.2.2.2.1 d_L_law_1278 ⟨Nat.le_of_ble_eq_true rfl, Nat.le_of_ble_eq_true rfl, hkc, hks⟩ (Nat.le_of_ble_eq_true rfl) rfl ?_
  refine ej_iload B.1 d_L_law_1281 rfl ?_
  refine ej_icmp_eq B.1 (tgt := 1288) d_L_law_1283 (by decide) (fun q405 => ?_) (fun q405 => ?_)
  · replace h := er_it h q405
    refine ej_iload B.1 d_L_law_1288 rfl ?_
    refine ej_if_ne B.1 (tgt := 1305) d_L_law_1290 (by decide) (fun q406 => ?_) (fun q406 => ?_)
    · replace h := er_if h q406
      refine ej_goto B.1 (tgt := 1308) d_L_law_1305 (by decide) ?_
      cases h
      exact ej_le (lv' := [some (.ref 40), some (.ref 0), some (.ref 21), some (.ref 39), some (.int x4), none, none]) ⟨rfl, ⟨rfl, ⟨rfl, ⟨rfl, ⟨rfl, trivial⟩⟩⟩⟩⟩ hk
    · replace h := er_it h q406
      refine ej_aload_n B.1 d_L_law_1293 rfl ?_
      refine ej_iconst B.1 (v := 0) d_L_law_1294 rfl ?_
      obtain ⟨e407, h⟩ := er_gd_some h
      refine ej_lald B.1 (er_atW B 39 rfl rfl) rfl e407 d_L_law_1295 ?_
      refine ej_iload B.1 d_L_law_1296 rfl ?_
      refine ej_i2l B.1 d_L_law_1298 ?_
      refine ej_lcmp B.1 d_L_law_1299 ?_
      refine ej_if_eq B.1 (tgt := 1305) d_L_law_1300 (by decide) (fun q408 => ?_) (fun q408 => ?_)
      · replace h := er_it h q408
        refine ej_goto B.1 (tgt := 1308) d_L_law_1305 (by decide) ?_
        cases h
        exact ej_le (lv' := [some (.ref 40), some (.ref 0), some (.ref 21), some (.ref 39), some (.int x4), none, none]) ⟨rfl, ⟨rfl, ⟨rfl, ⟨rfl, ⟨rfl, trivial⟩⟩⟩⟩⟩ hk
      · replace h := er_if h q408
        refine ej_iconst B.1 (v := 0) d_L_law_1303 rfl ?_
        cases h
  · replace h := er_if h q405
    refine ej_iconst B.1 (v := 0) d_L_law_1286 rfl ?_
    cases h
set_option maxRecDepth 100000 in
set_option maxHeartbeats 8000000 in
theorem ew_law_33 {p : Program} {l : Launch} {e : Env} {s : State} {m : MethodId} {args : Array Value} {below : List Frame} {meth : Method} {c : Code} {G : er_G} {Q : State → Prop} {b L : Nat} {xs : Nat → Int32} {kc ks : Nat} (hl : l.admits e ∧ l.stackTraces = false) (B : er_BW p s m c G b L xs) (hkc : kc + 1 ≤ room_1.cells) (hks : ks + 6 ≤ room_1.slots) (x4 : Int32) (σ σ' : er_S) (h : el_step L xs x4 σ = some (some σ')) (hk : er_J p l e room_1 s m args below meth c G (fun q => s.heap.size ≤ q) s.heap Q (kc + 1) (ks + 6) σ' 1308 [some (.ref 40), some (.ref 0), some (.ref 21), some (.ref 39), some (.int x4), none, none] []) : er_J p l e room_1 s m args below meth c G (fun q => s.heap.size ≤ q) s.heap Q kc ks σ 33 [some (.ref 40), some (.ref 0), some (.ref 21), some (.ref 39), some (.int x4), none, none] [] := by
  unfold el_step at h
  refine ej_aload_n B.1 d_L_law_33 rfl ?_
  refine ej_iload B.1 d_L_law_34 rfl ?_
  obtain ⟨e1, h⟩ := er_gd_some h
  refine ej_sld B e1 d_L_law_36 ?_
  refine ej_bipush B.1 (v := 31) d_L_law_37 (by decide +kernel) ?_
  refine ej_iand B.1 d_L_law_39 ?_
  by_cases q0 : ((xs (er_ix x4)) &&& 31) = 0
  · replace h := er_it h q0
    exact ej_tin B.1 (off := 88) (tgt := 128) d_L_law_40 q0 (by decide) (by decide) (by decide +kernel) (by decide) (ew_law_c0 hl B hkc hks x4 σ σ' h hk)
  replace h := er_if h q0
  by_cases q1 : ((xs (er_ix x4)) &&& 31) = 1
  · replace h := er_it h q1
    exact ej_tin B.1 (off := 168) (tgt := 208) d_L_law_40 q1 (by decide) (by decide) (by decide +kernel) (by decide) (ew_law_c1 hl B hkc hks x4 σ σ' h hk)
  replace h := er_if h q1
  by_cases q2 : ((xs (er_ix x4)) &&& 31) = 2
  · replace h := er_it h q2
    exact ej_tin B.1 (off := 216) (tgt := 256) d_L_law_40 q2 (by decide) (by decide) (by decide +kernel) (by decide) (ew_law_c2 hl B hkc hks x4 σ σ' h hk)
  replace h := er_if h q2
  by_cases q3 : ((xs (er_ix x4)) &&& 31) = 3
  · replace h := er_it h q3
    exact ej_tin B.1 (off := 280) (tgt := 320) d_L_law_40 q3 (by decide) (by decide) (by decide +kernel) (by decide) (ew_law_c3 hl B hkc hks x4 σ σ' h hk)
  replace h := er_if h q3
  by_cases q4 : ((xs (er_ix x4)) &&& 31) = 4
  · replace h := er_it h q4
    exact ej_tin B.1 (off := 316) (tgt := 356) d_L_law_40 q4 (by decide) (by decide) (by decide +kernel) (by decide) (ew_law_c4 hl B hkc hks x4 σ σ' h hk)
  replace h := er_if h q4
  by_cases q5 : ((xs (er_ix x4)) &&& 31) = 5
  · replace h := er_it h q5
    exact ej_tin B.1 (off := 364) (tgt := 404) d_L_law_40 q5 (by decide) (by decide) (by decide +kernel) (by decide) (ew_law_c5 hl B hkc hks x4 σ σ' h hk)
  replace h := er_if h q5
  by_cases q6 : ((xs (er_ix x4)) &&& 31) = 6
  · replace h := er_it h q6
    exact ej_tin B.1 (off := 460) (tgt := 500) d_L_law_40 q6 (by decide) (by decide) (by decide +kernel) (by decide) (ew_law_c6 hl B hkc hks x4 σ σ' h hk)
  replace h := er_if h q6
  by_cases q7 : ((xs (er_ix x4)) &&& 31) = 7
  · replace h := er_it h q7
    exact ej_tin B.1 (off := 556) (tgt := 596) d_L_law_40 q7 (by decide) (by decide) (by decide +kernel) (by decide) (ew_law_c7 hl B hkc hks x4 σ σ' h hk)
  replace h := er_if h q7
  by_cases q8 : ((xs (er_ix x4)) &&& 31) = 8
  · replace h := er_it h q8
    exact ej_tin B.1 (off := 676) (tgt := 716) d_L_law_40 q8 (by decide) (by decide) (by decide +kernel) (by decide) (ew_law_c8 hl B hkc hks x4 σ σ' h hk)
  replace h := er_if h q8
  by_cases q9 : ((xs (er_ix x4)) &&& 31) = 9
  · replace h := er_it h q9
    exact ej_tin B.1 (off := 744) (tgt := 784) d_L_law_40 q9 (by decide) (by decide) (by decide +kernel) (by decide) (ew_law_c9 hl B hkc hks x4 σ σ' h hk)
  replace h := er_if h q9
  by_cases q10 : ((xs (er_ix x4)) &&& 31) = 10
  · replace h := er_it h q10
    exact ej_tin B.1 (off := 792) (tgt := 832) d_L_law_40 q10 (by decide) (by decide) (by decide +kernel) (by decide) (ew_law_c10 hl B hkc hks x4 σ σ' h hk)
  replace h := er_if h q10
  by_cases q11 : ((xs (er_ix x4)) &&& 31) = 11
  · replace h := er_it h q11
    exact ej_tin B.1 (off := 860) (tgt := 900) d_L_law_40 q11 (by decide) (by decide) (by decide +kernel) (by decide) (ew_law_c11 hl B hkc hks x4 σ σ' h hk)
  replace h := er_if h q11
  by_cases q12 : ((xs (er_ix x4)) &&& 31) = 12
  · replace h := er_it h q12
    exact ej_tin B.1 (off := 896) (tgt := 936) d_L_law_40 q12 (by decide) (by decide) (by decide +kernel) (by decide) (ew_law_c12 hl B hkc hks x4 σ σ' h hk)
  replace h := er_if h q12
  by_cases q13 : ((xs (er_ix x4)) &&& 31) = 13
  · replace h := er_it h q13
    exact ej_tin B.1 (off := 952) (tgt := 992) d_L_law_40 q13 (by decide) (by decide) (by decide +kernel) (by decide) (ew_law_c13 hl B hkc hks x4 σ σ' h hk)
  replace h := er_if h q13
  by_cases q14 : ((xs (er_ix x4)) &&& 31) = 14
  · replace h := er_it h q14
    exact ej_tin B.1 (off := 1020) (tgt := 1060) d_L_law_40 q14 (by decide) (by decide) (by decide +kernel) (by decide) (ew_law_c14 hl B hkc hks x4 σ σ' h hk)
  replace h := er_if h q14
  by_cases q15 : ((xs (er_ix x4)) &&& 31) = 15
  · replace h := er_it h q15
    exact ej_tin B.1 (off := 1076) (tgt := 1116) d_L_law_40 q15 (by decide) (by decide) (by decide +kernel) (by decide) (ew_law_c15 hl B hkc hks x4 σ σ' h hk)
  replace h := er_if h q15
  by_cases q16 : ((xs (er_ix x4)) &&& 31) = 16
  · replace h := er_it h q16
    exact ej_tin B.1 (off := 1144) (tgt := 1184) d_L_law_40 q16 (by decide) (by decide) (by decide +kernel) (by decide) (ew_law_c16 hl B hkc hks x4 σ σ' h hk)
  replace h := er_if h q16
  by_cases q17 : ((xs (er_ix x4)) &&& 31) = 17
  · replace h := er_it h q17
    exact ej_tin B.1 (off := 1212) (tgt := 1252) d_L_law_40 q17 (by decide) (by decide) (by decide +kernel) (by decide) (ew_law_c17 hl B hkc hks x4 σ σ' h hk)
  replace h := er_if h q17
  cases h
  refine ej_tout B.1 (tgt := 1308) d_L_law_40 (by have z0 := lv_neT (a := 0) q0 (by decide); have z1 := lv_neT (a := 1) q1 (by decide); have z2 := lv_neT (a := 2) q2 (by decide); have z3 := lv_neT (a := 3) q3 (by decide); have z4 := lv_neT (a := 4) q4 (by decide); have z5 := lv_neT (a := 5) q5 (by decide); have z6 := lv_neT (a := 6) q6 (by decide); have z7 := lv_neT (a := 7) q7 (by decide); have z8 := lv_neT (a := 8) q8 (by decide); have z9 := lv_neT (a := 9) q9 (by decide); have z10 := lv_neT (a := 10) q10 (by decide); have z11 := lv_neT (a := 11) q11 (by decide); have z12 := lv_neT (a := 12) q12 (by decide); have z13 := lv_neT (a := 13) q13 (by decide); have z14 := lv_neT (a := 14) q14 (by decide); have z15 := lv_neT (a := 15) q15 (by decide); have z16 := lv_neT (a := 16) q16 (by decide); have z17 := lv_neT (a := 17) q17 (by decide); omega) (by decide) ?_
  exact ej_widen (Nat.le_add_right kc 1) (Nat.le_add_right ks 6) hk
