set_option maxRecDepth 100000 in
set_option maxHeartbeats 8000000 in
theorem ec_B_init {l : Launch} : er_CI l y_B_init (.code y_B_init b_B_init 1 none) 1 23 5 40 2 2 [.null, .null, .null, .null, .null, .int 0] [2, 16, 17, 18, 19, 20] er_s0 := by
  refine er_ofI (by decide +kernel) rfl (by decide) ?_
  intro p e s m args below meth c D cs h0 ls C hZ hin hr hlk hml hP hD hl
  have hsz : ls.size = c.maxLocals := hl.1.trans hml.symm
  have hS : va_S (er_A1 h0 s.heap.size) s.heap s.heap [] := va_S.rf
  refine lv_aload_n C.1 C.2.1 d_B_init_0 rfl (lv_at hl 0 rfl) ?_
  refine ei_obj C ol_B oi_i oi_c hsz d_B_init_1 (by decide) (by decide) ?_
  refine lv_aload_n C.1 C.2.1 d_B_init_4 rfl (lv_at hl 0 rfl) ?_
  refine lv_bipush (v := 8) C.1 C.2.1 d_B_init_5 (by decide +kernel) ?_
  refine ei_newz C hP hD hS 8 (by decide) (by decide +kernel) (by decide) (by decide) (by decide) d_B_init_7 (fun q1 H hP hD hS => ?_)
  have hP : va_P D er_cl [(h0, .inr (2, [.null, .null, .null, .null, .null, .int 0])), (q1, .inl (cs.2.1, 8, .inl (fun _ => 0)))] H := hP
  have hD : va_D (er_A1 h0 s.heap.size) [(h0, .inr (2, [.null, .null, .null, .null, .null, .int 0])), (q1, .inl (cs.2.1, 8, .inl (fun _ => 0)))] := hD
  refine ei_putF C hin hP hD hS ff_B_9 rfl d_B_init_9 (fun H locs hP hD hS => ?_)
  have hP : va_P D er_cl [(h0, .inr (2, [.ref q1, .null, .null, .null, .null, .int 0])), (q1, .inl (cs.2.1, 8, .inl (fun _ => 0)))] H := hP
  have hD : va_D (er_A1 h0 s.heap.size) [(h0, .inr (2, [.ref q1, .null, .null, .null, .null, .int 0])), (q1, .inl (cs.2.1, 8, .inl (fun _ => 0)))] := hD
  refine lv_aload_n C.1 C.2.1 d_B_init_12 rfl (lv_at hl 0 rfl) ?_
  refine lv_bipush (v := 8) C.1 C.2.1 d_B_init_13 (by decide +kernel) ?_
  refine ei_newi C hP hD hS 8 (by decide) (by decide +kernel) (by decide) (by decide) (by decide) d_B_init_15 (fun q2 H hP hD hS => ?_)
  have hP : va_P D er_cl [(h0, .inr (2, [.ref q1, .null, .null, .null, .null, .int 0])), (q1, .inl (cs.2.1, 8, .inl (fun _ => 0))), (q2, .inl (cs.1, 8, .inl (fun _ => 0)))] H := hP
  have hD : va_D (er_A1 h0 s.heap.size) [(h0, .inr (2, [.ref q1, .null, .null, .null, .null, .int 0])), (q1, .inl (cs.2.1, 8, .inl (fun _ => 0))), (q2, .inl (cs.1, 8, .inl (fun _ => 0)))] := hD
  refine ei_putF C hin hP hD hS ff_B_15 rfl d_B_init_17 (fun H locs hP hD hS => ?_)
  have hP : va_P D er_cl [(h0, .inr (2, [.ref q1, .ref q2, .null, .null, .null, .int 0])), (q1, .inl (cs.2.1, 8, .inl (fun _ => 0))), (q2, .inl (cs.1, 8, .inl (fun _ => 0)))] H := hP
  have hD : va_D (er_A1 h0 s.heap.size) [(h0, .inr (2, [.ref q1, .ref q2, .null, .null, .null, .int 0])), (q1, .inl (cs.2.1, 8, .inl (fun _ => 0))), (q2, .inl (cs.1, 8, .inl (fun _ => 0)))] := hD
  refine lv_aload_n C.1 C.2.1 d_B_init_20 rfl (lv_at hl 0 rfl) ?_
  refine lv_bipush (v := 8) C.1 C.2.1 d_B_init_21 (by decide +kernel) ?_
  refine ei_newi C hP hD hS 8 (by decide) (by decide +kernel) (by decide) (by decide) (by decide) d_B_init_23 (fun q3 H hP hD hS => ?_)
  have hP : va_P D er_cl [(h0, .inr (2, [.ref q1, .ref q2, .null, .null, .null, .int 0])), (q1, .inl (cs.2.1, 8, .inl (fun _ => 0))), (q2, .inl (cs.1, 8, .inl (fun _ => 0))), (q3, .inl (cs.1, 8, .inl (fun _ => 0)))] H := hP
  have hD : va_D (er_A1 h0 s.heap.size) [(h0, .inr (2, [.ref q1, .ref q2, .null, .null, .null, .int 0])), (q1, .inl (cs.2.1, 8, .inl (fun _ => 0))), (q2, .inl (cs.1, 8, .inl (fun _ => 0))), (q3, .inl (cs.1, 8, .inl (fun _ => 0)))] := hD
  refine ei_putF C hin hP hD hS ff_B_19 rfl d_B_init_25 (fun H locs hP hD hS => ?_)
  have hP : va_P D er_cl [(h0, .inr (2, [.ref q1, .ref q2, .ref q3, .null, .null, .int 0])), (q1, .inl (cs.2.1, 8, .inl (fun _ => 0))), (q2, .inl (cs.1, 8, .inl (fun _ => 0))), (q3, .inl (cs.1, 8, .inl (fun _ => 0)))] H := hP
  have hD : va_D (er_A1 h0 s.heap.size) [(h0, .inr (2, [.ref q1, .ref q2, .ref q3, .null, .null, .int 0])), (q1, .inl (cs.2.1, 8, .inl (fun _ => 0))), (q2, .inl (cs.1, 8, .inl (fun _ => 0))), (q3, .inl (cs.1, 8, .inl (fun _ => 0)))] := hD
  refine lv_aload_n C.1 C.2.1 d_B_init_28 rfl (lv_at hl 0 rfl) ?_
  refine lv_bipush (v := 8) C.1 C.2.1 d_B_init_29 (by decide +kernel) ?_
  refine ei_newi C hP hD hS 8 (by decide) (by decide +kernel) (by decide) (by decide) (by decide) d_B_init_31 (fun q4 H hP hD hS => ?_)
  have hP : va_P D er_cl [(h0, .inr (2, [.ref q1, .ref q2, .ref q3, .null, .null, .int 0])), (q1, .inl (cs.2.1, 8, .inl (fun _ => 0))), (q2, .inl (cs.1, 8, .inl (fun _ => 0))), (q3, .inl (cs.1, 8, .inl (fun _ => 0))), (q4, .inl (cs.1, 8, .inl (fun _ => 0)))] H := hP
  have hD : va_D (er_A1 h0 s.heap.size) [(h0, .inr (2, [.ref q1, .ref q2, .ref q3, .null, .null, .int 0])), (q1, .inl (cs.2.1, 8, .inl (fun _ => 0))), (q2, .inl (cs.1, 8, .inl (fun _ => 0))), (q3, .inl (cs.1, 8, .inl (fun _ => 0))), (q4, .inl (cs.1, 8, .inl (fun _ => 0)))] := hD
  refine ei_putF C hin hP hD hS ff_B_22 rfl d_B_init_33 (fun H locs hP hD hS => ?_)
  have hP : va_P D er_cl [(h0, .inr (2, [.ref q1, .ref q2, .ref q3, .ref q4, .null, .int 0])), (q1, .inl (cs.2.1, 8, .inl (fun _ => 0))), (q2, .inl (cs.1, 8, .inl (fun _ => 0))), (q3, .inl (cs.1, 8, .inl (fun _ => 0))), (q4, .inl (cs.1, 8, .inl (fun _ => 0)))] H := hP
  have hD : va_D (er_A1 h0 s.heap.size) [(h0, .inr (2, [.ref q1, .ref q2, .ref q3, .ref q4, .null, .int 0])), (q1, .inl (cs.2.1, 8, .inl (fun _ => 0))), (q2, .inl (cs.1, 8, .inl (fun _ => 0))), (q3, .inl (cs.1, 8, .inl (fun _ => 0))), (q4, .inl (cs.1, 8, .inl (fun _ => 0)))] := hD
  refine lv_aload_n C.1 C.2.1 d_B_init_36 rfl (lv_at hl 0 rfl) ?_
  refine lv_bipush (v := 8) C.1 C.2.1 d_B_init_37 (by decide +kernel) ?_
  refine ei_newi C hP hD hS 8 (by decide) (by decide +kernel) (by decide) (by decide) (by decide) d_B_init_39 (fun q5 H hP hD hS => ?_)
  have hP : va_P D er_cl [(h0, .inr (2, [.ref q1, .ref q2, .ref q3, .ref q4, .null, .int 0])), (q1, .inl (cs.2.1, 8, .inl (fun _ => 0))), (q2, .inl (cs.1, 8, .inl (fun _ => 0))), (q3, .inl (cs.1, 8, .inl (fun _ => 0))), (q4, .inl (cs.1, 8, .inl (fun _ => 0))), (q5, .inl (cs.1, 8, .inl (fun _ => 0)))] H := hP
  have hD : va_D (er_A1 h0 s.heap.size) [(h0, .inr (2, [.ref q1, .ref q2, .ref q3, .ref q4, .null, .int 0])), (q1, .inl (cs.2.1, 8, .inl (fun _ => 0))), (q2, .inl (cs.1, 8, .inl (fun _ => 0))), (q3, .inl (cs.1, 8, .inl (fun _ => 0))), (q4, .inl (cs.1, 8, .inl (fun _ => 0))), (q5, .inl (cs.1, 8, .inl (fun _ => 0)))] := hD
  refine ei_putF C hin hP hD hS ff_B_25 rfl d_B_init_41 (fun H locs hP hD hS => ?_)
  have hP : va_P D er_cl [(h0, .inr (2, [.ref q1, .ref q2, .ref q3, .ref q4, .ref q5, .int 0])), (q1, .inl (cs.2.1, 8, .inl (fun _ => 0))), (q2, .inl (cs.1, 8, .inl (fun _ => 0))), (q3, .inl (cs.1, 8, .inl (fun _ => 0))), (q4, .inl (cs.1, 8, .inl (fun _ => 0))), (q5, .inl (cs.1, 8, .inl (fun _ => 0)))] H := hP
  have hD : va_D (er_A1 h0 s.heap.size) [(h0, .inr (2, [.ref q1, .ref q2, .ref q3, .ref q4, .ref q5, .int 0])), (q1, .inl (cs.2.1, 8, .inl (fun _ => 0))), (q2, .inl (cs.1, 8, .inl (fun _ => 0))), (q3, .inl (cs.1, 8, .inl (fun _ => 0))), (q4, .inl (cs.1, 8, .inl (fun _ => 0))), (q5, .inl (cs.1, 8, .inl (fun _ => 0)))] := hD
  refine lv_aload_n C.1 C.2.1 d_B_init_44 rfl (lv_at hl 0 rfl) ?_
  refine lv_iconst (v := 0) C.1 C.2.1 d_B_init_45 rfl ?_
  refine ei_puti C hP hD hS fq_B_28 rfl d_B_init_46 (fun H locs hP hD hS => ?_)
  have hP : va_P D er_cl [(h0, .inr (2, [.ref q1, .ref q2, .ref q3, .ref q4, .ref q5, .int 0])), (q1, .inl (cs.2.1, 8, .inl (fun _ => 0))), (q2, .inl (cs.1, 8, .inl (fun _ => 0))), (q3, .inl (cs.1, 8, .inl (fun _ => 0))), (q4, .inl (cs.1, 8, .inl (fun _ => 0))), (q5, .inl (cs.1, 8, .inl (fun _ => 0)))] H := hP
  have hD : va_D (er_A1 h0 s.heap.size) [(h0, .inr (2, [.ref q1, .ref q2, .ref q3, .ref q4, .ref q5, .int 0])), (q1, .inl (cs.2.1, 8, .inl (fun _ => 0))), (q2, .inl (cs.1, 8, .inl (fun _ => 0))), (q3, .inl (cs.1, 8, .inl (fun _ => 0))), (q4, .inl (cs.1, 8, .inl (fun _ => 0))), (q5, .inl (cs.1, 8, .inl (fun _ => 0)))] := hD
  have hPG : va_P D er_cl (er_ws (D, cs, (fun k => if k = 2 then h0 else if k = 16 then q1 else if k = 17 then q2 else if k = 18 then q3 else if k = 19 then q4 else q5), [2, 16, 17, 18, 19, 20]) (fun _ _ => 0)) H := hP
  have hDG : va_D (er_A1 h0 s.heap.size) (er_ws (D, cs, (fun k => if k = 2 then h0 else if k = 16 then q1 else if k = 17 then q2 else if k = 18 then q3 else if k = 19 then q4 else q5), [2, 16, 17, 18, 19, 20]) (fun _ _ => 0)) := hD
  have CC : er_C p s m c b_B_init "EntryRows$Boards" (D, cs, (fun k => if k = 2 then h0 else if k = 16 then q1 else if k = 17 then q2 else if k = 18 then q3 else if k = 19 then q4 else q5), [2, 16, 17, 18, 19, 20]) (er_A1 h0 s.heap.size) s.heap := ⟨C.1, C.2.1, C.2.2.1, C.2.2.2.1, C.2.2.2.2.1, (show List.Nodup [2, 16, 17, 18, 19, 20] by decide), C.2.2.2.2.2.2, hZ⟩
  have J : er_J p l e { frames := 1, cells := 5, slots := 40, locals := 23 } s m args below meth c (D, cs, (fun k => if k = 2 then h0 else if k = 16 then q1 else if k = 17 then q2 else if k = 18 then q3 else if k = 19 then q4 else q5), [2, 16, 17, 18, 19, 20]) (er_A1 h0 s.heap.size) s.heap (er_fI below D cs h0 s 2 5 40 [2, 16, 17, 18, 19, 20] er_s0) 5 40 (fun _ _ => 0) 49 [some (.ref 2)] [] := by
    refine ej_aload_n CC d_B_init_49 rfl ?_
    refine ej_getr CC (List.mem_of_getElem? (i := 0) rfl) rfl rfl fg_B_25 d_B_init_50 ?_
    refine ej_iconst CC (v := (-1)) d_B_init_53 rfl ?_
    refine ej_cs_v (nc := 0) (ns := 0) CC [.ref 20, .int (-1)] [] (ec_fill (n := 8) (List.mem_of_getElem? (i := 5) rfl) rfl (by decide) (-1) (fun _ _ => 0)) cal_fill lf_B st_fill rfl hml d_B_init_54 ⟨by decide, by decide, by decide, by decide⟩ (by decide) rfl ?_
    exact ej_iretJ CC hr hlk rfl (by decide) (by decide) er_eqs_B d_B_init_57
  exact J H locs ls hPG hDG hS hl
set_option maxRecDepth 100000 in
set_option maxHeartbeats 8000000 in
theorem ec_P_init {l : Launch} : er_CI l y_P_init (.code y_P_init b_P_init 1 none) 1 23 11 440 1 1 [.null, .null, .null, .null, .null, .null, .null, .null, .null, .null, .null] [1, 5, 6, 7, 8, 9, 10, 11, 12, 13, 14, 15] er_s0 := by
  refine er_ofI (by decide +kernel) rfl (by decide) ?_
  intro p e s m args below meth c D cs h0 ls C hZ hin hr hlk hml hP hD hl
  have hsz : ls.size = c.maxLocals := hl.1.trans hml.symm
  have hS : va_S (er_A1 h0 s.heap.size) s.heap s.heap [] := va_S.rf
  refine lv_aload_n C.1 C.2.1 d_P_init_0 rfl (lv_at hl 0 rfl) ?_
  refine ei_obj C ol_P oi_i oi_c hsz d_P_init_1 (by decide) (by decide) ?_
  refine lv_aload_n C.1 C.2.1 d_P_init_4 rfl (lv_at hl 0 rfl) ?_
  refine lv_bipush (v := 40) C.1 C.2.1 d_P_init_5 (by decide +kernel) ?_
  refine ei_newi C hP hD hS 40 (by decide) (by decide +kernel) (by decide) (by decide) (by decide) d_P_init_7 (fun q1 H hP hD hS => ?_)
  have hP : va_P D er_cl [(h0, .inr (1, [.null, .null, .null, .null, .null, .null, .null, .null, .null, .null, .null])), (q1, .inl (cs.1, 40, .inl (fun _ => 0)))] H := hP
  have hD : va_D (er_A1 h0 s.heap.size) [(h0, .inr (1, [.null, .null, .null, .null, .null, .null, .null, .null, .null, .null, .null])), (q1, .inl (cs.1, 40, .inl (fun _ => 0)))] := hD
  refine ei_putF C hin hP hD hS ff_P_9 rfl d_P_init_9 (fun H locs hP hD hS => ?_)
  have hP : va_P D er_cl [(h0, .inr (1, [.ref q1, .null, .null, .null, .null, .null, .null, .null, .null, .null, .null])), (q1, .inl (cs.1, 40, .inl (fun _ => 0)))] H := hP
  have hD : va_D (er_A1 h0 s.heap.size) [(h0, .inr (1, [.ref q1, .null, .null, .null, .null, .null, .null, .null, .null, .null, .null])), (q1, .inl (cs.1, 40, .inl (fun _ => 0)))] := hD
  refine lv_aload_n C.1 C.2.1 d_P_init_12 rfl (lv_at hl 0 rfl) ?_
  refine lv_bipush (v := 40) C.1 C.2.1 d_P_init_13 (by decide +kernel) ?_
  refine ei_newi C hP hD hS 40 (by decide) (by decide +kernel) (by decide) (by decide) (by decide) d_P_init_15 (fun q2 H hP hD hS => ?_)
  have hP : va_P D er_cl [(h0, .inr (1, [.ref q1, .null, .null, .null, .null, .null, .null, .null, .null, .null, .null])), (q1, .inl (cs.1, 40, .inl (fun _ => 0))), (q2, .inl (cs.1, 40, .inl (fun _ => 0)))] H := hP
  have hD : va_D (er_A1 h0 s.heap.size) [(h0, .inr (1, [.ref q1, .null, .null, .null, .null, .null, .null, .null, .null, .null, .null])), (q1, .inl (cs.1, 40, .inl (fun _ => 0))), (q2, .inl (cs.1, 40, .inl (fun _ => 0)))] := hD
  refine ei_putF C hin hP hD hS ff_P_15 rfl d_P_init_17 (fun H locs hP hD hS => ?_)
  have hP : va_P D er_cl [(h0, .inr (1, [.ref q1, .ref q2, .null, .null, .null, .null, .null, .null, .null, .null, .null])), (q1, .inl (cs.1, 40, .inl (fun _ => 0))), (q2, .inl (cs.1, 40, .inl (fun _ => 0)))] H := hP
  have hD : va_D (er_A1 h0 s.heap.size) [(h0, .inr (1, [.ref q1, .ref q2, .null, .null, .null, .null, .null, .null, .null, .null, .null])), (q1, .inl (cs.1, 40, .inl (fun _ => 0))), (q2, .inl (cs.1, 40, .inl (fun _ => 0)))] := hD
  refine lv_aload_n C.1 C.2.1 d_P_init_20 rfl (lv_at hl 0 rfl) ?_
  refine lv_bipush (v := 40) C.1 C.2.1 d_P_init_21 (by decide +kernel) ?_
  refine ei_newi C hP hD hS 40 (by decide) (by decide +kernel) (by decide) (by decide) (by decide) d_P_init_23 (fun q3 H hP hD hS => ?_)
  have hP : va_P D er_cl [(h0, .inr (1, [.ref q1, .ref q2, .null, .null, .null, .null, .null, .null, .null, .null, .null])), (q1, .inl (cs.1, 40, .inl (fun _ => 0))), (q2, .inl (cs.1, 40, .inl (fun _ => 0))), (q3, .inl (cs.1, 40, .inl (fun _ => 0)))] H := hP
  have hD : va_D (er_A1 h0 s.heap.size) [(h0, .inr (1, [.ref q1, .ref q2, .null, .null, .null, .null, .null, .null, .null, .null, .null])), (q1, .inl (cs.1, 40, .inl (fun _ => 0))), (q2, .inl (cs.1, 40, .inl (fun _ => 0))), (q3, .inl (cs.1, 40, .inl (fun _ => 0)))] := hD
  refine ei_putF C hin hP hD hS ff_P_18 rfl d_P_init_25 (fun H locs hP hD hS => ?_)
  have hP : va_P D er_cl [(h0, .inr (1, [.ref q1, .ref q2, .ref q3, .null, .null, .null, .null, .null, .null, .null, .null])), (q1, .inl (cs.1, 40, .inl (fun _ => 0))), (q2, .inl (cs.1, 40, .inl (fun _ => 0))), (q3, .inl (cs.1, 40, .inl (fun _ => 0)))] H := hP
  have hD : va_D (er_A1 h0 s.heap.size) [(h0, .inr (1, [.ref q1, .ref q2, .ref q3, .null, .null, .null, .null, .null, .null, .null, .null])), (q1, .inl (cs.1, 40, .inl (fun _ => 0))), (q2, .inl (cs.1, 40, .inl (fun _ => 0))), (q3, .inl (cs.1, 40, .inl (fun _ => 0)))] := hD
  refine lv_aload_n C.1 C.2.1 d_P_init_28 rfl (lv_at hl 0 rfl) ?_
  refine lv_bipush (v := 40) C.1 C.2.1 d_P_init_29 (by decide +kernel) ?_
  refine ei_newi C hP hD hS 40 (by decide) (by decide +kernel) (by decide) (by decide) (by decide) d_P_init_31 (fun q4 H hP hD hS => ?_)
  have hP : va_P D er_cl [(h0, .inr (1, [.ref q1, .ref q2, .ref q3, .null, .null, .null, .null, .null, .null, .null, .null])), (q1, .inl (cs.1, 40, .inl (fun _ => 0))), (q2, .inl (cs.1, 40, .inl (fun _ => 0))), (q3, .inl (cs.1, 40, .inl (fun _ => 0))), (q4, .inl (cs.1, 40, .inl (fun _ => 0)))] H := hP
  have hD : va_D (er_A1 h0 s.heap.size) [(h0, .inr (1, [.ref q1, .ref q2, .ref q3, .null, .null, .null, .null, .null, .null, .null, .null])), (q1, .inl (cs.1, 40, .inl (fun _ => 0))), (q2, .inl (cs.1, 40, .inl (fun _ => 0))), (q3, .inl (cs.1, 40, .inl (fun _ => 0))), (q4, .inl (cs.1, 40, .inl (fun _ => 0)))] := hD
  refine ei_putF C hin hP hD hS ff_P_21 rfl d_P_init_33 (fun H locs hP hD hS => ?_)
  have hP : va_P D er_cl [(h0, .inr (1, [.ref q1, .ref q2, .ref q3, .ref q4, .null, .null, .null, .null, .null, .null, .null])), (q1, .inl (cs.1, 40, .inl (fun _ => 0))), (q2, .inl (cs.1, 40, .inl (fun _ => 0))), (q3, .inl (cs.1, 40, .inl (fun _ => 0))), (q4, .inl (cs.1, 40, .inl (fun _ => 0)))] H := hP
  have hD : va_D (er_A1 h0 s.heap.size) [(h0, .inr (1, [.ref q1, .ref q2, .ref q3, .ref q4, .null, .null, .null, .null, .null, .null, .null])), (q1, .inl (cs.1, 40, .inl (fun _ => 0))), (q2, .inl (cs.1, 40, .inl (fun _ => 0))), (q3, .inl (cs.1, 40, .inl (fun _ => 0))), (q4, .inl (cs.1, 40, .inl (fun _ => 0)))] := hD
  refine lv_aload_n C.1 C.2.1 d_P_init_36 rfl (lv_at hl 0 rfl) ?_
  refine lv_bipush (v := 40) C.1 C.2.1 d_P_init_37 (by decide +kernel) ?_
  refine ei_newi C hP hD hS 40 (by decide) (by decide +kernel) (by decide) (by decide) (by decide) d_P_init_39 (fun q5 H hP hD hS => ?_)
  have hP : va_P D er_cl [(h0, .inr (1, [.ref q1, .ref q2, .ref q3, .ref q4, .null, .null, .null, .null, .null, .null, .null])), (q1, .inl (cs.1, 40, .inl (fun _ => 0))), (q2, .inl (cs.1, 40, .inl (fun _ => 0))), (q3, .inl (cs.1, 40, .inl (fun _ => 0))), (q4, .inl (cs.1, 40, .inl (fun _ => 0))), (q5, .inl (cs.1, 40, .inl (fun _ => 0)))] H := hP
  have hD : va_D (er_A1 h0 s.heap.size) [(h0, .inr (1, [.ref q1, .ref q2, .ref q3, .ref q4, .null, .null, .null, .null, .null, .null, .null])), (q1, .inl (cs.1, 40, .inl (fun _ => 0))), (q2, .inl (cs.1, 40, .inl (fun _ => 0))), (q3, .inl (cs.1, 40, .inl (fun _ => 0))), (q4, .inl (cs.1, 40, .inl (fun _ => 0))), (q5, .inl (cs.1, 40, .inl (fun _ => 0)))] := hD
  refine ei_putF C hin hP hD hS ff_P_24 rfl d_P_init_41 (fun H locs hP hD hS => ?_)
  have hP : va_P D er_cl [(h0, .inr (1, [.ref q1, .ref q2, .ref q3, .ref q4, .ref q5, .null, .null, .null, .null, .null, .null])), (q1, .inl (cs.1, 40, .inl (fun _ => 0))), (q2, .inl (cs.1, 40, .inl (fun _ => 0))), (q3, .inl (cs.1, 40, .inl (fun _ => 0))), (q4, .inl (cs.1, 40, .inl (fun _ => 0))), (q5, .inl (cs.1, 40, .inl (fun _ => 0)))] H := hP
  have hD : va_D (er_A1 h0 s.heap.size) [(h0, .inr (1, [.ref q1, .ref q2, .ref q3, .ref q4, .ref q5, .null, .null, .null, .null, .null, .null])), (q1, .inl (cs.1, 40, .inl (fun _ => 0))), (q2, .inl (cs.1, 40, .inl (fun _ => 0))), (q3, .inl (cs.1, 40, .inl (fun _ => 0))), (q4, .inl (cs.1, 40, .inl (fun _ => 0))), (q5, .inl (cs.1, 40, .inl (fun _ => 0)))] := hD
  refine lv_aload_n C.1 C.2.1 d_P_init_44 rfl (lv_at hl 0 rfl) ?_
  refine lv_bipush (v := 40) C.1 C.2.1 d_P_init_45 (by decide +kernel) ?_
  refine ei_newi C hP hD hS 40 (by decide) (by decide +kernel) (by decide) (by decide) (by decide) d_P_init_47 (fun q6 H hP hD hS => ?_)
  have hP : va_P D er_cl [(h0, .inr (1, [.ref q1, .ref q2, .ref q3, .ref q4, .ref q5, .null, .null, .null, .null, .null, .null])), (q1, .inl (cs.1, 40, .inl (fun _ => 0))), (q2, .inl (cs.1, 40, .inl (fun _ => 0))), (q3, .inl (cs.1, 40, .inl (fun _ => 0))), (q4, .inl (cs.1, 40, .inl (fun _ => 0))), (q5, .inl (cs.1, 40, .inl (fun _ => 0))), (q6, .inl (cs.1, 40, .inl (fun _ => 0)))] H := hP
  have hD : va_D (er_A1 h0 s.heap.size) [(h0, .inr (1, [.ref q1, .ref q2, .ref q3, .ref q4, .ref q5, .null, .null, .null, .null, .null, .null])), (q1, .inl (cs.1, 40, .inl (fun _ => 0))), (q2, .inl (cs.1, 40, .inl (fun _ => 0))), (q3, .inl (cs.1, 40, .inl (fun _ => 0))), (q4, .inl (cs.1, 40, .inl (fun _ => 0))), (q5, .inl (cs.1, 40, .inl (fun _ => 0))), (q6, .inl (cs.1, 40, .inl (fun _ => 0)))] := hD
  refine ei_putF C hin hP hD hS ff_P_27 rfl d_P_init_49 (fun H locs hP hD hS => ?_)
  have hP : va_P D er_cl [(h0, .inr (1, [.ref q1, .ref q2, .ref q3, .ref q4, .ref q5, .ref q6, .null, .null, .null, .null, .null])), (q1, .inl (cs.1, 40, .inl (fun _ => 0))), (q2, .inl (cs.1, 40, .inl (fun _ => 0))), (q3, .inl (cs.1, 40, .inl (fun _ => 0))), (q4, .inl (cs.1, 40, .inl (fun _ => 0))), (q5, .inl (cs.1, 40, .inl (fun _ => 0))), (q6, .inl (cs.1, 40, .inl (fun _ => 0)))] H := hP
  have hD : va_D (er_A1 h0 s.heap.size) [(h0, .inr (1, [.ref q1, .ref q2, .ref q3, .ref q4, .ref q5, .ref q6, .null, .null, .null, .null, .null])), (q1, .inl (cs.1, 40, .inl (fun _ => 0))), (q2, .inl (cs.1, 40, .inl (fun _ => 0))), (q3, .inl (cs.1, 40, .inl (fun _ => 0))), (q4, .inl (cs.1, 40, .inl (fun _ => 0))), (q5, .inl (cs.1, 40, .inl (fun _ => 0))), (q6, .inl (cs.1, 40, .inl (fun _ => 0)))] := hD
  refine lv_aload_n C.1 C.2.1 d_P_init_52 rfl (lv_at hl 0 rfl) ?_
  refine lv_bipush (v := 40) C.1 C.2.1 d_P_init_53 (by decide +kernel) ?_
  refine ei_newi C hP hD hS 40 (by decide) (by decide +kernel) (by decide) (by decide) (by decide) d_P_init_55 (fun q7 H hP hD hS => ?_)
  have hP : va_P D er_cl [(h0, .inr (1, [.ref q1, .ref q2, .ref q3, .ref q4, .ref q5, .ref q6, .null, .null, .null, .null, .null])), (q1, .inl (cs.1, 40, .inl (fun _ => 0))), (q2, .inl (cs.1, 40, .inl (fun _ => 0))), (q3, .inl (cs.1, 40, .inl (fun _ => 0))), (q4, .inl (cs.1, 40, .inl (fun _ => 0))), (q5, .inl (cs.1, 40, .inl (fun _ => 0))), (q6, .inl (cs.1, 40, .inl (fun _ => 0))), (q7, .inl (cs.1, 40, .inl (fun _ => 0)))] H := hP
  have hD : va_D (er_A1 h0 s.heap.size) [(h0, .inr (1, [.ref q1, .ref q2, .ref q3, .ref q4, .ref q5, .ref q6, .null, .null, .null, .null, .null])), (q1, .inl (cs.1, 40, .inl (fun _ => 0))), (q2, .inl (cs.1, 40, .inl (fun _ => 0))), (q3, .inl (cs.1, 40, .inl (fun _ => 0))), (q4, .inl (cs.1, 40, .inl (fun _ => 0))), (q5, .inl (cs.1, 40, .inl (fun _ => 0))), (q6, .inl (cs.1, 40, .inl (fun _ => 0))), (q7, .inl (cs.1, 40, .inl (fun _ => 0)))] := hD
  refine ei_putF C hin hP hD hS ff_P_30 rfl d_P_init_57 (fun H locs hP hD hS => ?_)
  have hP : va_P D er_cl [(h0, .inr (1, [.ref q1, .ref q2, .ref q3, .ref q4, .ref q5, .ref q6, .ref q7, .null, .null, .null, .null])), (q1, .inl (cs.1, 40, .inl (fun _ => 0))), (q2, .inl (cs.1, 40, .inl (fun _ => 0))), (q3, .inl (cs.1, 40, .inl (fun _ => 0))), (q4, .inl (cs.1, 40, .inl (fun _ => 0))), (q5, .inl (cs.1, 40, .inl (fun _ => 0))), (q6, .inl (cs.1, 40, .inl (fun _ => 0))), (q7, .inl (cs.1, 40, .inl (fun _ => 0)))] H := hP
  have hD : va_D (er_A1 h0 s.heap.size) [(h0, .inr (1, [.ref q1, .ref q2, .ref q3, .ref q4, .ref q5, .ref q6, .ref q7, .null, .null, .null, .null])), (q1, .inl (cs.1, 40, .inl (fun _ => 0))), (q2, .inl (cs.1, 40, .inl (fun _ => 0))), (q3, .inl (cs.1, 40, .inl (fun _ => 0))), (q4, .inl (cs.1, 40, .inl (fun _ => 0))), (q5, .inl (cs.1, 40, .inl (fun _ => 0))), (q6, .inl (cs.1, 40, .inl (fun _ => 0))), (q7, .inl (cs.1, 40, .inl (fun _ => 0)))] := hD
  refine lv_aload_n C.1 C.2.1 d_P_init_60 rfl (lv_at hl 0 rfl) ?_
  refine lv_bipush (v := 40) C.1 C.2.1 d_P_init_61 (by decide +kernel) ?_
  refine ei_newi C hP hD hS 40 (by decide) (by decide +kernel) (by decide) (by decide) (by decide) d_P_init_63 (fun q8 H hP hD hS => ?_)
  have hP : va_P D er_cl [(h0, .inr (1, [.ref q1, .ref q2, .ref q3, .ref q4, .ref q5, .ref q6, .ref q7, .null, .null, .null, .null])), (q1, .inl (cs.1, 40, .inl (fun _ => 0))), (q2, .inl (cs.1, 40, .inl (fun _ => 0))), (q3, .inl (cs.1, 40, .inl (fun _ => 0))), (q4, .inl (cs.1, 40, .inl (fun _ => 0))), (q5, .inl (cs.1, 40, .inl (fun _ => 0))), (q6, .inl (cs.1, 40, .inl (fun _ => 0))), (q7, .inl (cs.1, 40, .inl (fun _ => 0))), (q8, .inl (cs.1, 40, .inl (fun _ => 0)))] H := hP
  have hD : va_D (er_A1 h0 s.heap.size) [(h0, .inr (1, [.ref q1, .ref q2, .ref q3, .ref q4, .ref q5, .ref q6, .ref q7, .null, .null, .null, .null])), (q1, .inl (cs.1, 40, .inl (fun _ => 0))), (q2, .inl (cs.1, 40, .inl (fun _ => 0))), (q3, .inl (cs.1, 40, .inl (fun _ => 0))), (q4, .inl (cs.1, 40, .inl (fun _ => 0))), (q5, .inl (cs.1, 40, .inl (fun _ => 0))), (q6, .inl (cs.1, 40, .inl (fun _ => 0))), (q7, .inl (cs.1, 40, .inl (fun _ => 0))), (q8, .inl (cs.1, 40, .inl (fun _ => 0)))] := hD
  refine ei_putF C hin hP hD hS ff_P_33 rfl d_P_init_65 (fun H locs hP hD hS => ?_)
  have hP : va_P D er_cl [(h0, .inr (1, [.ref q1, .ref q2, .ref q3, .ref q4, .ref q5, .ref q6, .ref q7, .ref q8, .null, .null, .null])), (q1, .inl (cs.1, 40, .inl (fun _ => 0))), (q2, .inl (cs.1, 40, .inl (fun _ => 0))), (q3, .inl (cs.1, 40, .inl (fun _ => 0))), (q4, .inl (cs.1, 40, .inl (fun _ => 0))), (q5, .inl (cs.1, 40, .inl (fun _ => 0))), (q6, .inl (cs.1, 40, .inl (fun _ => 0))), (q7, .inl (cs.1, 40, .inl (fun _ => 0))), (q8, .inl (cs.1, 40, .inl (fun _ => 0)))] H := hP
  have hD : va_D (er_A1 h0 s.heap.size) [(h0, .inr (1, [.ref q1, .ref q2, .ref q3, .ref q4, .ref q5, .ref q6, .ref q7, .ref q8, .null, .null, .null])), (q1, .inl (cs.1, 40, .inl (fun _ => 0))), (q2, .inl (cs.1, 40, .inl (fun _ => 0))), (q3, .inl (cs.1, 40, .inl (fun _ => 0))), (q4, .inl (cs.1, 40, .inl (fun _ => 0))), (q5, .inl (cs.1, 40, .inl (fun _ => 0))), (q6, .inl (cs.1, 40, .inl (fun _ => 0))), (q7, .inl (cs.1, 40, .inl (fun _ => 0))), (q8, .inl (cs.1, 40, .inl (fun _ => 0)))] := hD
  refine lv_aload_n C.1 C.2.1 d_P_init_68 rfl (lv_at hl 0 rfl) ?_
  refine lv_bipush (v := 40) C.1 C.2.1 d_P_init_69 (by decide +kernel) ?_
  refine ei_newi C hP hD hS 40 (by decide) (by decide +kernel) (by decide) (by decide) (by decide) d_P_init_71 (fun q9 H hP hD hS => ?_)
  have hP : va_P D er_cl [(h0, .inr (1, [.ref q1, .ref q2, .ref q3, .ref q4, .ref q5, .ref q6, .ref q7, .ref q8, .null, .null, .null])), (q1, .inl (cs.1, 40, .inl (fun _ => 0))), (q2, .inl (cs.1, 40, .inl (fun _ => 0))), (q3, .inl (cs.1, 40, .inl (fun _ => 0))), (q4, .inl (cs.1, 40, .inl (fun _ => 0))), (q5, .inl (cs.1, 40, .inl (fun _ => 0))), (q6, .inl (cs.1, 40, .inl (fun _ => 0))), (q7, .inl (cs.1, 40, .inl (fun _ => 0))), (q8, .inl (cs.1, 40, .inl (fun _ => 0))), (q9, .inl (cs.1, 40, .inl (fun _ => 0)))] H := hP
  have hD : va_D (er_A1 h0 s.heap.size) [(h0, .inr (1, [.ref q1, .ref q2, .ref q3, .ref q4, .ref q5, .ref q6, .ref q7, .ref q8, .null, .null, .null])), (q1, .inl (cs.1, 40, .inl (fun _ => 0))), (q2, .inl (cs.1, 40, .inl (fun _ => 0))), (q3, .inl (cs.1, 40, .inl (fun _ => 0))), (q4, .inl (cs.1, 40, .inl (fun _ => 0))), (q5, .inl (cs.1, 40, .inl (fun _ => 0))), (q6, .inl (cs.1, 40, .inl (fun _ => 0))), (q7, .inl (cs.1, 40, .inl (fun _ => 0))), (q8, .inl (cs.1, 40, .inl (fun _ => 0))), (q9, .inl (cs.1, 40, .inl (fun _ => 0)))] := hD
  refine ei_putF C hin hP hD hS ff_P_36 rfl d_P_init_73 (fun H locs hP hD hS => ?_)
  have hP : va_P D er_cl [(h0, .inr (1, [.ref q1, .ref q2, .ref q3, .ref q4, .ref q5, .ref q6, .ref q7, .ref q8, .ref q9, .null, .null])), (q1, .inl (cs.1, 40, .inl (fun _ => 0))), (q2, .inl (cs.1, 40, .inl (fun _ => 0))), (q3, .inl (cs.1, 40, .inl (fun _ => 0))), (q4, .inl (cs.1, 40, .inl (fun _ => 0))), (q5, .inl (cs.1, 40, .inl (fun _ => 0))), (q6, .inl (cs.1, 40, .inl (fun _ => 0))), (q7, .inl (cs.1, 40, .inl (fun _ => 0))), (q8, .inl (cs.1, 40, .inl (fun _ => 0))), (q9, .inl (cs.1, 40, .inl (fun _ => 0)))] H := hP
  have hD : va_D (er_A1 h0 s.heap.size) [(h0, .inr (1, [.ref q1, .ref q2, .ref q3, .ref q4, .ref q5, .ref q6, .ref q7, .ref q8, .ref q9, .null, .null])), (q1, .inl (cs.1, 40, .inl (fun _ => 0))), (q2, .inl (cs.1, 40, .inl (fun _ => 0))), (q3, .inl (cs.1, 40, .inl (fun _ => 0))), (q4, .inl (cs.1, 40, .inl (fun _ => 0))), (q5, .inl (cs.1, 40, .inl (fun _ => 0))), (q6, .inl (cs.1, 40, .inl (fun _ => 0))), (q7, .inl (cs.1, 40, .inl (fun _ => 0))), (q8, .inl (cs.1, 40, .inl (fun _ => 0))), (q9, .inl (cs.1, 40, .inl (fun _ => 0)))] := hD
  refine lv_aload_n C.1 C.2.1 d_P_init_76 rfl (lv_at hl 0 rfl) ?_
  refine lv_bipush (v := 40) C.1 C.2.1 d_P_init_77 (by decide +kernel) ?_
  refine ei_newi C hP hD hS 40 (by decide) (by decide +kernel) (by decide) (by decide) (by decide) d_P_init_79 (fun q10 H hP hD hS => ?_)
  have hP : va_P D er_cl [(h0, .inr (1, [.ref q1, .ref q2, .ref q3, .ref q4, .ref q5, .ref q6, .ref q7, .ref q8, .ref q9, .null, .null])), (q1, .inl (cs.1, 40, .inl (fun _ => 0))), (q2, .inl (cs.1, 40, .inl (fun _ => 0))), (q3, .inl (cs.1, 40, .inl (fun _ => 0))), (q4, .inl (cs.1, 40, .inl (fun _ => 0))), (q5, .inl (cs.1, 40, .inl (fun _ => 0))), (q6, .inl (cs.1, 40, .inl (fun _ => 0))), (q7, .inl (cs.1, 40, .inl (fun _ => 0))), (q8, .inl (cs.1, 40, .inl (fun _ => 0))), (q9, .inl (cs.1, 40, .inl (fun _ => 0))), (q10, .inl (cs.1, 40, .inl (fun _ => 0)))] H := hP
  have hD : va_D (er_A1 h0 s.heap.size) [(h0, .inr (1, [.ref q1, .ref q2, .ref q3, .ref q4, .ref q5, .ref q6, .ref q7, .ref q8, .ref q9, .null, .null])), (q1, .inl (cs.1, 40, .inl (fun _ => 0))), (q2, .inl (cs.1, 40, .inl (fun _ => 0))), (q3, .inl (cs.1, 40, .inl (fun _ => 0))), (q4, .inl (cs.1, 40, .inl (fun _ => 0))), (q5, .inl (cs.1, 40, .inl (fun _ => 0))), (q6, .inl (cs.1, 40, .inl (fun _ => 0))), (q7, .inl (cs.1, 40, .inl (fun _ => 0))), (q8, .inl (cs.1, 40, .inl (fun _ => 0))), (q9, .inl (cs.1, 40, .inl (fun _ => 0))), (q10, .inl (cs.1, 40, .inl (fun _ => 0)))] := hD
  refine ei_putF C hin hP hD hS ff_P_39 rfl d_P_init_81 (fun H locs hP hD hS => ?_)
  have hP : va_P D er_cl [(h0, .inr (1, [.ref q1, .ref q2, .ref q3, .ref q4, .ref q5, .ref q6, .ref q7, .ref q8, .ref q9, .ref q10, .null])), (q1, .inl (cs.1, 40, .inl (fun _ => 0))), (q2, .inl (cs.1, 40, .inl (fun _ => 0))), (q3, .inl (cs.1, 40, .inl (fun _ => 0))), (q4, .inl (cs.1, 40, .inl (fun _ => 0))), (q5, .inl (cs.1, 40, .inl (fun _ => 0))), (q6, .inl (cs.1, 40, .inl (fun _ => 0))), (q7, .inl (cs.1, 40, .inl (fun _ => 0))), (q8, .inl (cs.1, 40, .inl (fun _ => 0))), (q9, .inl (cs.1, 40, .inl (fun _ => 0))), (q10, .inl (cs.1, 40, .inl (fun _ => 0)))] H := hP
  have hD : va_D (er_A1 h0 s.heap.size) [(h0, .inr (1, [.ref q1, .ref q2, .ref q3, .ref q4, .ref q5, .ref q6, .ref q7, .ref q8, .ref q9, .ref q10, .null])), (q1, .inl (cs.1, 40, .inl (fun _ => 0))), (q2, .inl (cs.1, 40, .inl (fun _ => 0))), (q3, .inl (cs.1, 40, .inl (fun _ => 0))), (q4, .inl (cs.1, 40, .inl (fun _ => 0))), (q5, .inl (cs.1, 40, .inl (fun _ => 0))), (q6, .inl (cs.1, 40, .inl (fun _ => 0))), (q7, .inl (cs.1, 40, .inl (fun _ => 0))), (q8, .inl (cs.1, 40, .inl (fun _ => 0))), (q9, .inl (cs.1, 40, .inl (fun _ => 0))), (q10, .inl (cs.1, 40, .inl (fun _ => 0)))] := hD
  refine lv_aload_n C.1 C.2.1 d_P_init_84 rfl (lv_at hl 0 rfl) ?_
  refine lv_bipush (v := 40) C.1 C.2.1 d_P_init_85 (by decide +kernel) ?_
  refine ei_newz C hP hD hS 40 (by decide) (by decide +kernel) (by decide) (by decide) (by decide) d_P_init_87 (fun q11 H hP hD hS => ?_)
  have hP : va_P D er_cl [(h0, .inr (1, [.ref q1, .ref q2, .ref q3, .ref q4, .ref q5, .ref q6, .ref q7, .ref q8, .ref q9, .ref q10, .null])), (q1, .inl (cs.1, 40, .inl (fun _ => 0))), (q2, .inl (cs.1, 40, .inl (fun _ => 0))), (q3, .inl (cs.1, 40, .inl (fun _ => 0))), (q4, .inl (cs.1, 40, .inl (fun _ => 0))), (q5, .inl (cs.1, 40, .inl (fun _ => 0))), (q6, .inl (cs.1, 40, .inl (fun _ => 0))), (q7, .inl (cs.1, 40, .inl (fun _ => 0))), (q8, .inl (cs.1, 40, .inl (fun _ => 0))), (q9, .inl (cs.1, 40, .inl (fun _ => 0))), (q10, .inl (cs.1, 40, .inl (fun _ => 0))), (q11, .inl (cs.2.1, 40, .inl (fun _ => 0)))] H := hP
  have hD : va_D (er_A1 h0 s.heap.size) [(h0, .inr (1, [.ref q1, .ref q2, .ref q3, .ref q4, .ref q5, .ref q6, .ref q7, .ref q8, .ref q9, .ref q10, .null])), (q1, .inl (cs.1, 40, .inl (fun _ => 0))), (q2, .inl (cs.1, 40, .inl (fun _ => 0))), (q3, .inl (cs.1, 40, .inl (fun _ => 0))), (q4, .inl (cs.1, 40, .inl (fun _ => 0))), (q5, .inl (cs.1, 40, .inl (fun _ => 0))), (q6, .inl (cs.1, 40, .inl (fun _ => 0))), (q7, .inl (cs.1, 40, .inl (fun _ => 0))), (q8, .inl (cs.1, 40, .inl (fun _ => 0))), (q9, .inl (cs.1, 40, .inl (fun _ => 0))), (q10, .inl (cs.1, 40, .inl (fun _ => 0))), (q11, .inl (cs.2.1, 40, .inl (fun _ => 0)))] := hD
  refine ei_putF C hin hP hD hS ff_P_42 rfl d_P_init_89 (fun H locs hP hD hS => ?_)
  have hP : va_P D er_cl [(h0, .inr (1, [.ref q1, .ref q2, .ref q3, .ref q4, .ref q5, .ref q6, .ref q7, .ref q8, .ref q9, .ref q10, .ref q11])), (q1, .inl (cs.1, 40, .inl (fun _ => 0))), (q2, .inl (cs.1, 40, .inl (fun _ => 0))), (q3, .inl (cs.1, 40, .inl (fun _ => 0))), (q4, .inl (cs.1, 40, .inl (fun _ => 0))), (q5, .inl (cs.1, 40, .inl (fun _ => 0))), (q6, .inl (cs.1, 40, .inl (fun _ => 0))), (q7, .inl (cs.1, 40, .inl (fun _ => 0))), (q8, .inl (cs.1, 40, .inl (fun _ => 0))), (q9, .inl (cs.1, 40, .inl (fun _ => 0))), (q10, .inl (cs.1, 40, .inl (fun _ => 0))), (q11, .inl (cs.2.1, 40, .inl (fun _ => 0)))] H := hP
  have hD : va_D (er_A1 h0 s.heap.size) [(h0, .inr (1, [.ref q1, .ref q2, .ref q3, .ref q4, .ref q5, .ref q6, .ref q7, .ref q8, .ref q9, .ref q10, .ref q11])), (q1, .inl (cs.1, 40, .inl (fun _ => 0))), (q2, .inl (cs.1, 40, .inl (fun _ => 0))), (q3, .inl (cs.1, 40, .inl (fun _ => 0))), (q4, .inl (cs.1, 40, .inl (fun _ => 0))), (q5, .inl (cs.1, 40, .inl (fun _ => 0))), (q6, .inl (cs.1, 40, .inl (fun _ => 0))), (q7, .inl (cs.1, 40, .inl (fun _ => 0))), (q8, .inl (cs.1, 40, .inl (fun _ => 0))), (q9, .inl (cs.1, 40, .inl (fun _ => 0))), (q10, .inl (cs.1, 40, .inl (fun _ => 0))), (q11, .inl (cs.2.1, 40, .inl (fun _ => 0)))] := hD
  have hPG : va_P D er_cl (er_ws (D, cs, (fun k => if k = 1 then h0 else if k = 5 then q1 else if k = 6 then q2 else if k = 7 then q3 else if k = 8 then q4 else if k = 9 then q5 else if k = 10 then q6 else if k = 11 then q7 else if k = 12 then q8 else if k = 13 then q9 else if k = 14 then q10 else q11), [1, 5, 6, 7, 8, 9, 10, 11, 12, 13, 14, 15]) (fun _ _ => 0)) H := hP
  have hDG : va_D (er_A1 h0 s.heap.size) (er_ws (D, cs, (fun k => if k = 1 then h0 else if k = 5 then q1 else if k = 6 then q2 else if k = 7 then q3 else if k = 8 then q4 else if k = 9 then q5 else if k = 10 then q6 else if k = 11 then q7 else if k = 12 then q8 else if k = 13 then q9 else if k = 14 then q10 else q11), [1, 5, 6, 7, 8, 9, 10, 11, 12, 13, 14, 15]) (fun _ _ => 0)) := hD
  have CC : er_C p s m c b_P_init "EntryRows$Persons" (D, cs, (fun k => if k = 1 then h0 else if k = 5 then q1 else if k = 6 then q2 else if k = 7 then q3 else if k = 8 then q4 else if k = 9 then q5 else if k = 10 then q6 else if k = 11 then q7 else if k = 12 then q8 else if k = 13 then q9 else if k = 14 then q10 else q11), [1, 5, 6, 7, 8, 9, 10, 11, 12, 13, 14, 15]) (er_A1 h0 s.heap.size) s.heap := ⟨C.1, C.2.1, C.2.2.1, C.2.2.2.1, C.2.2.2.2.1, (show List.Nodup [1, 5, 6, 7, 8, 9, 10, 11, 12, 13, 14, 15] by decide), C.2.2.2.2.2.2, hZ⟩
  have J : er_J p l e { frames := 1, cells := 11, slots := 440, locals := 23 } s m args below meth c (D, cs, (fun k => if k = 1 then h0 else if k = 5 then q1 else if k = 6 then q2 else if k = 7 then q3 else if k = 8 then q4 else if k = 9 then q5 else if k = 10 then q6 else if k = 11 then q7 else if k = 12 then q8 else if k = 13 then q9 else if k = 14 then q10 else q11), [1, 5, 6, 7, 8, 9, 10, 11, 12, 13, 14, 15]) (er_A1 h0 s.heap.size) s.heap (er_fI below D cs h0 s 1 11 440 [1, 5, 6, 7, 8, 9, 10, 11, 12, 13, 14, 15] er_s0) 11 440 (fun _ _ => 0) 92 [some (.ref 1)] [] := by
    refine ej_aload_n CC d_P_init_92 rfl ?_
    refine ej_getr CC (List.mem_of_getElem? (i := 0) rfl) rfl rfl fg_P_9 d_P_init_93 ?_
    refine ej_iconst CC (v := (-1)) d_P_init_96 rfl ?_
    refine ej_cs_v (nc := 0) (ns := 0) CC [.ref 5, .int (-1)] [] (ec_fill (n := 40) (List.mem_of_getElem? (i := 1) rfl) rfl (by decide) (-1) (fun _ _ => 0)) cal_fill lf_P st_fill rfl hml d_P_init_97 ⟨by decide, by decide, by decide, by decide⟩ (by decide) rfl ?_
    refine ej_aload_n CC d_P_init_100 rfl ?_
    refine ej_getr CC (List.mem_of_getElem? (i := 0) rfl) rfl rfl fg_P_15 d_P_init_101 ?_
    refine ej_iconst CC (v := (-1)) d_P_init_104 rfl ?_
    refine ej_cs_v (nc := 0) (ns := 0) CC [.ref 6, .int (-1)] [] (ec_fill (n := 40) (List.mem_of_getElem? (i := 2) rfl) rfl (by decide) (-1) (er_fill (fun _ _ => 0) 5 40 (-1))) cal_fill lf_P st_fill rfl hml d_P_init_105 ⟨by decide, by decide, by decide, by decide⟩ (by decide) rfl ?_
    refine ej_aload_n CC d_P_init_108 rfl ?_
    refine ej_getr CC (List.mem_of_getElem? (i := 0) rfl) rfl rfl fg_P_18 d_P_init_109 ?_
    refine ej_iconst CC (v := (-1)) d_P_init_112 rfl ?_
    refine ej_cs_v (nc := 0) (ns := 0) CC [.ref 7, .int (-1)] [] (ec_fill (n := 40) (List.mem_of_getElem? (i := 3) rfl) rfl (by decide) (-1) (er_fill (er_fill (fun _ _ => 0) 5 40 (-1)) 6 40 (-1))) cal_fill lf_P st_fill rfl hml d_P_init_113 ⟨by decide, by decide, by decide, by decide⟩ (by decide) rfl ?_
    refine ej_aload_n CC d_P_init_116 rfl ?_
    refine ej_getr CC (List.mem_of_getElem? (i := 0) rfl) rfl rfl fg_P_21 d_P_init_117 ?_
    refine ej_iconst CC (v := (-1)) d_P_init_120 rfl ?_
    refine ej_cs_v (nc := 0) (ns := 0) CC [.ref 8, .int (-1)] [] (ec_fill (n := 40) (List.mem_of_getElem? (i := 4) rfl) rfl (by decide) (-1) (er_fill (er_fill (er_fill (fun _ _ => 0) 5 40 (-1)) 6 40 (-1)) 7 40 (-1))) cal_fill lf_P st_fill rfl hml d_P_init_121 ⟨by decide, by decide, by decide, by decide⟩ (by decide) rfl ?_
    refine ej_aload_n CC d_P_init_124 rfl ?_
    refine ej_getr CC (List.mem_of_getElem? (i := 0) rfl) rfl rfl fg_P_24 d_P_init_125 ?_
    refine ej_iconst CC (v := (-1)) d_P_init_128 rfl ?_
    refine ej_cs_v (nc := 0) (ns := 0) CC [.ref 9, .int (-1)] [] (ec_fill (n := 40) (List.mem_of_getElem? (i := 5) rfl) rfl (by decide) (-1) (er_fill (er_fill (er_fill (er_fill (fun _ _ => 0) 5 40 (-1)) 6 40 (-1)) 7 40 (-1)) 8 40 (-1))) cal_fill lf_P st_fill rfl hml d_P_init_129 ⟨by decide, by decide, by decide, by decide⟩ (by decide) rfl ?_
    refine ej_aload_n CC d_P_init_132 rfl ?_
    refine ej_getr CC (List.mem_of_getElem? (i := 0) rfl) rfl rfl fg_P_36 d_P_init_133 ?_
    refine ej_iconst CC (v := (-1)) d_P_init_136 rfl ?_
    refine ej_cs_v (nc := 0) (ns := 0) CC [.ref 13, .int (-1)] [] (ec_fill (n := 40) (List.mem_of_getElem? (i := 9) rfl) rfl (by decide) (-1) (er_fill (er_fill (er_fill (er_fill (er_fill (fun _ _ => 0) 5 40 (-1)) 6 40 (-1)) 7 40 (-1)) 8 40 (-1)) 9 40 (-1))) cal_fill lf_P st_fill rfl hml d_P_init_137 ⟨by decide, by decide, by decide, by decide⟩ (by decide) rfl ?_
    refine ej_aload_n CC d_P_init_140 rfl ?_
    refine ej_getr CC (List.mem_of_getElem? (i := 0) rfl) rfl rfl fg_P_39 d_P_init_141 ?_
    refine ej_iconst CC (v := (-1)) d_P_init_144 rfl ?_
    refine ej_cs_v (nc := 0) (ns := 0) CC [.ref 14, .int (-1)] [] (ec_fill (n := 40) (List.mem_of_getElem? (i := 10) rfl) rfl (by decide) (-1) (er_fill (er_fill (er_fill (er_fill (er_fill (er_fill (fun _ _ => 0) 5 40 (-1)) 6 40 (-1)) 7 40 (-1)) 8 40 (-1)) 9 40 (-1)) 13 40 (-1))) cal_fill lf_P st_fill rfl hml d_P_init_145 ⟨by decide, by decide, by decide, by decide⟩ (by decide) rfl ?_
    exact ej_iretJ CC hr hlk rfl (by decide) (by decide) er_eqs_P d_P_init_148
  exact J H locs ls hPG hDG hS hl
