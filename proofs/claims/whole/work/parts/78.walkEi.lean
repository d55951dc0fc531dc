/-! EntryRows' constructor -/
def er_adE (h0 : Nat) (ad1 ad2 : Nat → Nat) (q3 q4 : Nat) : Nat → Nat
  | 0 => h0
  | 2 => ad2 2
  | 16 => ad2 16
  | 17 => ad2 17
  | 18 => ad2 18
  | 19 => ad2 19
  | 20 => ad2 20
  | 3 => q3
  | 4 => q4
  | k => ad1 k
def er_sE : er_S := fun k b => match k with
  | 3 => 0
  | k => er_s0 k b
set_option maxRecDepth 100000 in
theorem er_eqs_E : ∀ k ∈ [0, 1, 5, 6, 7, 8, 9, 10, 11, 12, 13, 14, 15, 2, 16, 17, 18, 19, 20, 3, 4], (er_fill er_sE 3 16 (-1)) k = er_s0 k := by
  intro k hk
  funext b
  simp only [List.mem_cons, List.not_mem_nil, or_false] at hk
  rcases hk with rfl | rfl | rfl | rfl | rfl | rfl | rfl | rfl | rfl | rfl | rfl | rfl | rfl | rfl | rfl | rfl | rfl | rfl | rfl | rfl | rfl <;> simp [er_fill, er_sE, er_s0, er_m1]
set_option maxRecDepth 100000 in
set_option maxHeartbeats 8000000 in
theorem ec_E_init {l : Launch} : er_CI l y_E_init (.code y_E_init b_E_init 1 none) 2 43 20 519 0 0 [.null, .null, .null, .null, .int 0, .int 0, .int 0] [0, 1, 5, 6, 7, 8, 9, 10, 11, 12, 13, 14, 15, 2, 16, 17, 18, 19, 20, 3, 4] er_s0 := by
  refine er_ofI (by decide +kernel) rfl (by decide) ?_
  intro p e s m args below meth c D cs h0 ls C hZ hin hr hlk hml hP hD hl
  have hsz : ls.size = c.maxLocals := hl.1.trans hml.symm
  have hS : va_S (er_A1 h0 s.heap.size) s.heap s.heap [] := va_S.rf
  refine lv_aload_n C.1 C.2.1 d_E_init_0 rfl (lv_at hl 0 rfl) ?_
  refine ei_obj C ol_E oi_i oi_c hsz d_E_init_1 (by decide) (by decide) ?_
  refine lv_aload_n C.1 C.2.1 d_E_init_4 rfl (lv_at hl 0 rfl) ?_
  refine ei_new C hP hD hS nw_E_7 (Nat.le_of_ble_eq_true rfl) (Nat.le_of_ble_eq_true rfl) d_E_init_5 (fun q1 H hP hD hS => ?_)
  refine lv_dup C.1 C.2.1 d_E_init_8 rfl ?_
  refine ei_ctor (ws := [(h0, .inr (0, [.null, .null, .null, .null, .int 0, .int 0, .int 0]))]) (kl := [1, 5, 6, 7, 8, 9, 10, 11, 12, 13, 14, 15]) (fs := [.null, .null, .null, .null, .null, .null, .null, .null, .null, .null, .null]) C hZ ec_P_init rfl (by decide +kernel) ⟨by decide, by decide⟩ lk_E_9 in_P_init cw_P_init ini_P_init d_E_init_9 hsz.symm ⟨Nat.le_of_ble_eq_true rfl, Nat.le_of_ble_eq_true rfl, Nat.le_of_ble_eq_true rfl, Nat.le_of_ble_eq_true rfl⟩ (Nat.le_of_ble_eq_true rfl) hP hD hS (fun ad1 H locs had hP2 hD2 hS => ?_)
  subst had
  have hP : va_P D er_cl ((h0, .inr (0, [.null, .null, .null, .null, .int 0, .int 0, .int 0])) :: (er_ws (D, cs, ad1, [1, 5, 6, 7, 8, 9, 10, 11, 12, 13, 14, 15]) er_s0)) H := hP2
  have hD : va_D (er_A1 h0 s.heap.size) ((h0, .inr (0, [.null, .null, .null, .null, .int 0, .int 0, .int 0])) :: (er_ws (D, cs, ad1, [1, 5, 6, 7, 8, 9, 10, 11, 12, 13, 14, 15]) er_s0)) := hD2
  refine ei_putF C hin hP hD hS ff_E_10 rfl d_E_init_12 (fun H locs hP hD hS => ?_)
  have hP : va_P D er_cl ((h0, .inr (0, [.ref (ad1 1), .null, .null, .null, .int 0, .int 0, .int 0])) :: (er_ws (D, cs, ad1, [1, 5, 6, 7, 8, 9, 10, 11, 12, 13, 14, 15]) er_s0)) H := hP
  have hD : va_D (er_A1 h0 s.heap.size) ((h0, .inr (0, [.ref (ad1 1), .null, .null, .null, .int 0, .int 0, .int 0])) :: (er_ws (D, cs, ad1, [1, 5, 6, 7, 8, 9, 10, 11, 12, 13, 14, 15]) er_s0)) := hD
  refine lv_aload_n C.1 C.2.1 d_E_init_15 rfl (lv_at hl 0 rfl) ?_
  refine ei_new C hP hD hS nw_E_16 (Nat.le_of_ble_eq_true rfl) (Nat.le_of_ble_eq_true rfl) d_E_init_16 (fun q2 H hP hD hS => ?_)
  refine lv_dup C.1 C.2.1 d_E_init_19 rfl ?_
  refine ei_ctor (ws := ((h0, .inr (0, [.ref (ad1 1), .null, .null, .null, .int 0, .int 0, .int 0])) :: (er_ws (D, cs, ad1, [1, 5, 6, 7, 8, 9, 10, 11, 12, 13, 14, 15]) er_s0))) (kl := [2, 16, 17, 18, 19, 20]) (fs := [.null, .null, .null, .null, .null, .int 0]) C hZ ec_B_init rfl (by decide +kernel) ⟨by decide, by decide⟩ lk_E_18 in_B_init cw_B_init ini_B_init d_E_init_20 hsz.symm ⟨Nat.le_of_ble_eq_true rfl, Nat.le_of_ble_eq_true rfl, Nat.le_of_ble_eq_true rfl, Nat.le_of_ble_eq_true rfl⟩ (Nat.le_of_ble_eq_true rfl) hP hD hS (fun ad2 H locs had hP2 hD2 hS => ?_)
  subst had
  have hP : va_P D er_cl ((h0, .inr (0, [.ref (ad1 1), .null, .null, .null, .int 0, .int 0, .int 0])) :: (er_ws (D, cs, ad1, [1, 5, 6, 7, 8, 9, 10, 11, 12, 13, 14, 15]) er_s0 ++ er_ws (D, cs, ad2, [2, 16, 17, 18, 19, 20]) er_s0)) H := hP2
  have hD : va_D (er_A1 h0 s.heap.size) ((h0, .inr (0, [.ref (ad1 1), .null, .null, .null, .int 0, .int 0, .int 0])) :: (er_ws (D, cs, ad1, [1, 5, 6, 7, 8, 9, 10, 11, 12, 13, 14, 15]) er_s0 ++ er_ws (D, cs, ad2, [2, 16, 17, 18, 19, 20]) er_s0)) := hD2
  refine ei_putF C hin hP hD hS ff_E_19 rfl d_E_init_23 (fun H locs hP hD hS => ?_)
  have hP : va_P D er_cl ((h0, .inr (0, [.ref (ad1 1), .ref (ad2 2), .null, .null, .int 0, .int 0, .int 0])) :: (er_ws (D, cs, ad1, [1, 5, 6, 7, 8, 9, 10, 11, 12, 13, 14, 15]) er_s0 ++ er_ws (D, cs, ad2, [2, 16, 17, 18, 19, 20]) er_s0)) H := hP
  have hD : va_D (er_A1 h0 s.heap.size) ((h0, .inr (0, [.ref (ad1 1), .ref (ad2 2), .null, .null, .int 0, .int 0, .int 0])) :: (er_ws (D, cs, ad1, [1, 5, 6, 7, 8, 9, 10, 11, 12, 13, 14, 15]) er_s0 ++ er_ws (D, cs, ad2, [2, 16, 17, 18, 19, 20]) er_s0)) := hD
  refine lv_aload_n C.1 C.2.1 d_E_init_26 rfl (lv_at hl 0 rfl) ?_
  refine lv_bipush (v := 16) C.1 C.2.1 d_E_init_27 (by decide +kernel) ?_
  refine ei_newi C hP hD hS 16 (by decide) (by decide +kernel) (by decide) (Nat.le_of_ble_eq_true rfl) (Nat.le_of_ble_eq_true rfl) d_E_init_29 (fun q3 H hP hD hS => ?_)
  have hP : va_P D er_cl ((h0, .inr (0, [.ref (ad1 1), .ref (ad2 2), .null, .null, .int 0, .int 0, .int 0])) :: (er_ws (D, cs, ad1, [1, 5, 6, 7, 8, 9, 10, 11, 12, 13, 14, 15]) er_s0 ++ er_ws (D, cs, ad2, [2, 16, 17, 18, 19, 20]) er_s0 ++ [(q3, .inl (cs.1, 16, .inl (fun _ => 0)))])) H := hP
  have hD : va_D (er_A1 h0 s.heap.size) ((h0, .inr (0, [.ref (ad1 1), .ref (ad2 2), .null, .null, .int 0, .int 0, .int 0])) :: (er_ws (D, cs, ad1, [1, 5, 6, 7, 8, 9, 10, 11, 12, 13, 14, 15]) er_s0 ++ er_ws (D, cs, ad2, [2, 16, 17, 18, 19, 20]) er_s0 ++ [(q3, .inl (cs.1, 16, .inl (fun _ => 0)))])) := hD
  refine ei_putF C hin hP hD hS ff_E_23 rfl d_E_init_31 (fun H locs hP hD hS => ?_)
  have hP : va_P D er_cl ((h0, .inr (0, [.ref (ad1 1), .ref (ad2 2), .ref q3, .null, .int 0, .int 0, .int 0])) :: (er_ws (D, cs, ad1, [1, 5, 6, 7, 8, 9, 10, 11, 12, 13, 14, 15]) er_s0 ++ er_ws (D, cs, ad2, [2, 16, 17, 18, 19, 20]) er_s0 ++ [(q3, .inl (cs.1, 16, .inl (fun _ => 0)))])) H := hP
  have hD : va_D (er_A1 h0 s.heap.size) ((h0, .inr (0, [.ref (ad1 1), .ref (ad2 2), .ref q3, .null, .int 0, .int 0, .int 0])) :: (er_ws (D, cs, ad1, [1, 5, 6, 7, 8, 9, 10, 11, 12, 13, 14, 15]) er_s0 ++ er_ws (D, cs, ad2, [2, 16, 17, 18, 19, 20]) er_s0 ++ [(q3, .inl (cs.1, 16, .inl (fun _ => 0)))])) := hD
  refine lv_aload_n C.1 C.2.1 d_E_init_34 rfl (lv_at hl 0 rfl) ?_
  refine lv_bipush (v := 6) C.1 C.2.1 d_E_init_35 (by decide +kernel) ?_
  refine ei_newi C hP hD hS 6 (by decide) (by decide +kernel) (by decide) (Nat.le_of_ble_eq_true rfl) (Nat.le_of_ble_eq_true rfl) d_E_init_37 (fun q4 H hP hD hS => ?_)
  have hP : va_P D er_cl ((h0, .inr (0, [.ref (ad1 1), .ref (ad2 2), .ref q3, .null, .int 0, .int 0, .int 0])) :: (er_ws (D, cs, ad1, [1, 5, 6, 7, 8, 9, 10, 11, 12, 13, 14, 15]) er_s0 ++ er_ws (D, cs, ad2, [2, 16, 17, 18, 19, 20]) er_s0 ++ [(q3, .inl (cs.1, 16, .inl (fun _ => 0)))] ++ [(q4, .inl (cs.1, 6, .inl (fun _ => 0)))])) H := hP
  have hD : va_D (er_A1 h0 s.heap.size) ((h0, .inr (0, [.ref (ad1 1), .ref (ad2 2), .ref q3, .null, .int 0, .int 0, .int 0])) :: (er_ws (D, cs, ad1, [1, 5, 6, 7, 8, 9, 10, 11, 12, 13, 14, 15]) er_s0 ++ er_ws (D, cs, ad2, [2, 16, 17, 18, 19, 20]) er_s0 ++ [(q3, .inl (cs.1, 16, .inl (fun _ => 0)))] ++ [(q4, .inl (cs.1, 6, .inl (fun _ => 0)))])) := hD
  refine ei_putF C hin hP hD hS ff_E_27 rfl d_E_init_39 (fun H locs hP hD hS => ?_)
  have hP : va_P D er_cl ((h0, .inr (0, [.ref (ad1 1), .ref (ad2 2), .ref q3, .ref q4, .int 0, .int 0, .int 0])) :: (er_ws (D, cs, ad1, [1, 5, 6, 7, 8, 9, 10, 11, 12, 13, 14, 15]) er_s0 ++ er_ws (D, cs, ad2, [2, 16, 17, 18, 19, 20]) er_s0 ++ [(q3, .inl (cs.1, 16, .inl (fun _ => 0)))] ++ [(q4, .inl (cs.1, 6, .inl (fun _ => 0)))])) H := hP
  have hD : va_D (er_A1 h0 s.heap.size) ((h0, .inr (0, [.ref (ad1 1), .ref (ad2 2), .ref q3, .ref q4, .int 0, .int 0, .int 0])) :: (er_ws (D, cs, ad1, [1, 5, 6, 7, 8, 9, 10, 11, 12, 13, 14, 15]) er_s0 ++ er_ws (D, cs, ad2, [2, 16, 17, 18, 19, 20]) er_s0 ++ [(q3, .inl (cs.1, 16, .inl (fun _ => 0)))] ++ [(q4, .inl (cs.1, 6, .inl (fun _ => 0)))])) := hD
  refine lv_aload_n C.1 C.2.1 d_E_init_42 rfl (lv_at hl 0 rfl) ?_
  refine lv_iconst (v := 0) C.1 C.2.1 d_E_init_43 rfl ?_
  refine ei_puti C hP hD hS fq_E_30 rfl d_E_init_44 (fun H locs hP hD hS => ?_)
  have hP : va_P D er_cl ((h0, .inr (0, [.ref (ad1 1), .ref (ad2 2), .ref q3, .ref q4, .int 0, .int 0, .int 0])) :: (er_ws (D, cs, ad1, [1, 5, 6, 7, 8, 9, 10, 11, 12, 13, 14, 15]) er_s0 ++ er_ws (D, cs, ad2, [2, 16, 17, 18, 19, 20]) er_s0 ++ [(q3, .inl (cs.1, 16, .inl (fun _ => 0)))] ++ [(q4, .inl (cs.1, 6, .inl (fun _ => 0)))])) H := hP
  have hD : va_D (er_A1 h0 s.heap.size) ((h0, .inr (0, [.ref (ad1 1), .ref (ad2 2), .ref q3, .ref q4, .int 0, .int 0, .int 0])) :: (er_ws (D, cs, ad1, [1, 5, 6, 7, 8, 9, 10, 11, 12, 13, 14, 15]) er_s0 ++ er_ws (D, cs, ad2, [2, 16, 17, 18, 19, 20]) er_s0 ++ [(q3, .inl (cs.1, 16, .inl (fun _ => 0)))] ++ [(q4, .inl (cs.1, 6, .inl (fun _ => 0)))])) := hD
  refine lv_aload_n C.1 C.2.1 d_E_init_47 rfl (lv_at hl 0 rfl) ?_
  refine lv_iconst (v := 0) C.1 C.2.1 d_E_init_48 rfl ?_
  refine ei_puti C hP hD hS fq_E_34 rfl d_E_init_49 (fun H locs hP hD hS => ?_)
  have hP : va_P D er_cl ((h0, .inr (0, [.ref (ad1 1), .ref (ad2 2), .ref q3, .ref q4, .int 0, .int 0, .int 0])) :: (er_ws (D, cs, ad1, [1, 5, 6, 7, 8, 9, 10, 11, 12, 13, 14, 15]) er_s0 ++ er_ws (D, cs, ad2, [2, 16, 17, 18, 19, 20]) er_s0 ++ [(q3, .inl (cs.1, 16, .inl (fun _ => 0)))] ++ [(q4, .inl (cs.1, 6, .inl (fun _ => 0)))])) H := hP
  have hD : va_D (er_A1 h0 s.heap.size) ((h0, .inr (0, [.ref (ad1 1), .ref (ad2 2), .ref q3, .ref q4, .int 0, .int 0, .int 0])) :: (er_ws (D, cs, ad1, [1, 5, 6, 7, 8, 9, 10, 11, 12, 13, 14, 15]) er_s0 ++ er_ws (D, cs, ad2, [2, 16, 17, 18, 19, 20]) er_s0 ++ [(q3, .inl (cs.1, 16, .inl (fun _ => 0)))] ++ [(q4, .inl (cs.1, 6, .inl (fun _ => 0)))])) := hD
  refine lv_aload_n C.1 C.2.1 d_E_init_52 rfl (lv_at hl 0 rfl) ?_
  refine lv_sipush (v := 600) C.1 C.2.1 d_E_init_53 (by decide +kernel) ?_
  refine ei_puti C hP hD hS fq_E_37 rfl d_E_init_56 (fun H locs hP hD hS => ?_)
  have hP : va_P D er_cl ((h0, .inr (0, [.ref (ad1 1), .ref (ad2 2), .ref q3, .ref q4, .int 0, .int 0, .int 600])) :: (er_ws (D, cs, ad1, [1, 5, 6, 7, 8, 9, 10, 11, 12, 13, 14, 15]) er_s0 ++ er_ws (D, cs, ad2, [2, 16, 17, 18, 19, 20]) er_s0 ++ [(q3, .inl (cs.1, 16, .inl (fun _ => 0)))] ++ [(q4, .inl (cs.1, 6, .inl (fun _ => 0)))])) H := hP
  have hD : va_D (er_A1 h0 s.heap.size) ((h0, .inr (0, [.ref (ad1 1), .ref (ad2 2), .ref q3, .ref q4, .int 0, .int 0, .int 600])) :: (er_ws (D, cs, ad1, [1, 5, 6, 7, 8, 9, 10, 11, 12, 13, 14, 15]) er_s0 ++ er_ws (D, cs, ad2, [2, 16, 17, 18, 19, 20]) er_s0 ++ [(q3, .inl (cs.1, 16, .inl (fun _ => 0)))] ++ [(q4, .inl (cs.1, 6, .inl (fun _ => 0)))])) := hD
  have hPG : va_P D er_cl (er_ws (D, cs, (er_adE h0 ad1 ad2 q3 q4), [0, 1, 5, 6, 7, 8, 9, 10, 11, 12, 13, 14, 15, 2, 16, 17, 18, 19, 20, 3, 4]) er_sE) H := hP
  have hDG : va_D (er_A1 h0 s.heap.size) (er_ws (D, cs, (er_adE h0 ad1 ad2 q3 q4), [0, 1, 5, 6, 7, 8, 9, 10, 11, 12, 13, 14, 15, 2, 16, 17, 18, 19, 20, 3, 4]) er_sE) := hD
  have CC : er_C p s m c b_E_init "EntryRows" (D, cs, (er_adE h0 ad1 ad2 q3 q4), [0, 1, 5, 6, 7, 8, 9, 10, 11, 12, 13, 14, 15, 2, 16, 17, 18, 19, 20, 3, 4]) (er_A1 h0 s.heap.size) s.heap := ⟨C.1, C.2.1, C.2.2.1, C.2.2.2.1, C.2.2.2.2.1, (show List.Nodup [0, 1, 5, 6, 7, 8, 9, 10, 11, 12, 13, 14, 15, 2, 16, 17, 18, 19, 20, 3, 4] by decide), C.2.2.2.2.2.2, hZ⟩
  have J : er_J p l e { frames := 2, cells := 20, slots := 519, locals := 43 } s m args below meth c (D, cs, (er_adE h0 ad1 ad2 q3 q4), [0, 1, 5, 6, 7, 8, 9, 10, 11, 12, 13, 14, 15, 2, 16, 17, 18, 19, 20, 3, 4]) (er_A1 h0 s.heap.size) s.heap (er_fI below D cs h0 s 0 20 519 [0, 1, 5, 6, 7, 8, 9, 10, 11, 12, 13, 14, 15, 2, 16, 17, 18, 19, 20, 3, 4] er_s0) 20 519 er_sE 59 [some (.ref 0)] [] := by
    refine ej_aload_n CC d_E_init_59 rfl ?_
    refine ej_getr CC (List.mem_of_getElem? (i := 0) rfl) rfl rfl fg_E_23 d_E_init_60 ?_
    refine ej_iconst CC (v := (-1)) d_E_init_63 rfl ?_
    refine ej_cs_v (nc := 0) (ns := 0) CC [.ref 3, .int (-1)] [] (ec_fill (n := 16) (List.mem_of_getElem? (i := 19) rfl) rfl (by decide) (-1) er_sE) cal_fill lf_E st_fill rfl hml d_E_init_64 ⟨by decide, by decide, by decide, by decide⟩ (by decide) rfl ?_
    exact ej_iretJ CC hr hlk rfl (by decide) (by decide) er_eqs_E d_E_init_67
  exact J H locs ls hPG hDG hS hl
