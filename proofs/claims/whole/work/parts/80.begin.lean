/-! the law's beginning: what the Statement gives of the start; the cells are made; then the loop -/
theorem er_lt {i : Nat} {w : Cond} (h : tables_1[i]? = some w) : w ∈ lw_tbl := List.mem_append_right _ (List.mem_of_getElem? h)
theorem er_str {s : State} {args : Array Value} {own tx : String} {k : Nat} (h : (Cond.stringRef own k tx).before args s = true) : ∃ a, vk_R own k tx a s := by
  have hcur : ∃ cur, s.vm.findClass own = some cur := by
    have h1 := h
    simp only [Cond.before, Cond.holds, Cond.value] at h1
    cases hc : s.vm.findClass own with
    | none => simp [hc] at h1
    | some cur => exact ⟨cur, rfl⟩
  obtain ⟨cur, hcur⟩ := hcur
  obtain ⟨k', cf, i, a, -, -, -, -, -, hev⟩ := Cond.stringRef_spec hcur h
  exact ⟨a, vk_R.of h hev⟩
theorem er_nc0 : ∀ j ∈ [0, 1, 2, 3], ∀ k ∈ [0, 1, 2, 3], j ≠ k → Cond.not (.castable (er_exc j) (er_exc k)) ∈ flatC (Jvm.Cond.and given_1 narrow_1) := by decide +kernel
theorem er_T0s {s : State} {b : Nat} (hts : ∀ w ∈ lw_tbl, w.before #[Value.ref b] s = true) (hgv : (Jvm.Cond.and given_1 narrow_1).before #[Value.ref b] s = true) : er_T s := by
  refine ⟨fun w hw => ?_, fun q hq => ?_, fun j k hj hk hne => ?_⟩
  · have hm := List.mem_filter.mp hw
    have ho := hm.2
    unfold er_ok at ho
    rw [Bool.and_eq_true] at ho
    exact va_Nw.of (A := #[Value.ref b]) ho.1 (hts w hm.1)
  · simp only [er_strs, List.mem_cons, List.not_mem_nil, or_false] at hq
    rcases hq with rfl | rfl | rfl | rfl | rfl | rfl
    · exact er_str (hts _ (er_lt (i := 187) (by decide +kernel)))
    · exact er_str (hts _ (er_lt (i := 227) (by decide +kernel)))
    · exact er_str (hts _ (er_lt (i := 267) (by decide +kernel)))
    · exact er_str (hts _ (er_lt (i := 296) (by decide +kernel)))
    · exact er_str (hts _ (er_lt (i := 353) (by decide +kernel)))
    · exact er_str (hts _ (er_lt (i := 488) (by decide +kernel)))
  · exact va_Nc.of (flat_of_before _ hgv _ (er_nc0 j (by simp only [List.mem_cons, List.not_mem_nil, or_false]; omega) k (by simp only [List.mem_cons, List.not_mem_nil, or_false]; omega) hne))
theorem er_Z0s {s : State} {b : Nat} (hts : ∀ w ∈ lw_tbl, w.before #[Value.ref b] s = true) (hgv : (Jvm.Cond.and given_1 narrow_1).before #[Value.ref b] s = true) : er_Z (fun q => s.heap.size ≤ q) s s.heap :=
  ⟨vx_Zqof (hts (.laysStatic "java/lang/Throwable" "UNASSIGNED_STACK" "[Ljava/lang/StackTraceElement;") (er_lt (i := 172) (by decide +kernel))) (hts (.initialized "java/lang/Throwable") (er_lt (i := 6) (by decide +kernel))) (flat_of_before _ hgv (.isRef (.static "java/lang/Throwable" "UNASSIGNED_STACK" "[Ljava/lang/StackTraceElement;")) (by decide +kernel)) (fun a h => Nat.not_le.mpr h),
   vx_Zqof (hts (.laysStatic "java/lang/Throwable" "SUPPRESSED_SENTINEL" "Ljava/util/List;") (er_lt (i := 174) (by decide +kernel))) (hts (.initialized "java/lang/Throwable") (er_lt (i := 6) (by decide +kernel))) (flat_of_before _ hgv (.isRef (.static "java/lang/Throwable" "SUPPRESSED_SENTINEL" "Ljava/util/List;")) (by decide +kernel)) (fun a h => Nat.not_le.mpr h)⟩
theorem er_AC0 {s : State} {b : Nat} (hts : ∀ w ∈ lw_tbl, w.before #[Value.ref b] s = true) : er_AC s :=
  ⟨word_at (State.WarmedH.refl s) (Or.inr ⟨_, rfl⟩) (hts (.arrayClass .int) (er_lt (i := 77) (by decide +kernel))), word_at (State.WarmedH.refl s) (Or.inr ⟨_, rfl⟩) (hts (.arrayClass .boolean) (er_lt (i := 78) (by decide +kernel))), word_at (State.WarmedH.refl s) (Or.inr ⟨_, rfl⟩) (hts (.arrayClass .long) (er_lt (i := 728) (by decide +kernel)))⟩
theorem er_ca {s : State} {ty : FieldType} (h : (Cond.arrayClass ty).before #[] s = true) : ∃ cA : ClassId, ArrOfT s cA ty ∧ s.vm.findClass ("[" ++ ty.toString) = some cA := by
  obtain ⟨cA, kA, comp, h1, h2, h3⟩ := Cond.arrayClass_spec h
  exact ⟨cA, fun n z => ⟨fun k h => (by cases h), kA, h2, comp, h3⟩, h1⟩
theorem er_K0 {s : State} {b : Nat} (hts : ∀ w ∈ lw_tbl, w.before #[Value.ref b] s = true) : ∃ (D : va_G) (cs : ClassId × ClassId × ClassId), va_K D er_cl (er_tyc cs) s := by
  have hsub : ∀ w ∈ er_tbl, w.before #[Value.ref b] s = true := fun w hw => hts w (List.mem_filter.mp hw).1
  obtain ⟨c0, i0, k0⟩ := u_known (C := "EntryRows") (T := er_T0) (N := 7) (n := 7) hsub er_i0 (hts (.instantiable "EntryRows" 7) (er_lt (i := 16) (by decide +kernel)))
  obtain ⟨c1, i1, k1⟩ := u_known (C := "EntryRows$Persons") (T := er_T1) (N := 11) (n := 11) hsub er_i1 (hts (.instantiable "EntryRows$Persons" 11) (er_lt (i := 24) (by decide +kernel)))
  obtain ⟨c2, i2, k2⟩ := u_known (C := "EntryRows$Boards") (T := er_T2) (N := 6) (n := 6) hsub er_i2 (hts (.instantiable "EntryRows$Boards" 6) (er_lt (i := 80) (by decide +kernel)))
  obtain ⟨c3, i3, k3⟩ := u_known (C := "EntryRowsModel") (T := er_T3) (N := 22) (n := 22) hsub er_i3 (hts (.instantiable "EntryRowsModel" 22) (er_lt (i := 521) (by decide +kernel)))
  obtain ⟨cI, a1, a2⟩ := er_ca (er_AC0 hts).1
  obtain ⟨cZ, b1, b2⟩ := er_ca (er_AC0 hts).2.1
  obtain ⟨cJ, d1, d2⟩ := er_ca (er_AC0 hts).2.2
  refine ⟨(fun k => if k = 0 then c0 else if k = 1 then c1 else if k = 2 then c2 else c3, fun k => if k = 0 then i0 else if k = 1 then i1 else if k = 2 then i2 else i3), (cI, cZ, cJ), fun c q hq => ?_, fun k q hq => ?_⟩
  · match c, hq with
    | 0, hq => cases hq; exact k0
    | 1, hq => cases hq; exact k1
    | 2, hq => cases hq; exact k2
    | 3, hq => cases hq; exact k3
    | c + 4, hq => simp [er_cl] at hq
  · match k, hq with
    | 0, hq => cases hq; exact ⟨a1, a2⟩
    | 1, hq => cases hq; exact ⟨b1, b2⟩
    | 2, hq => cases hq; exact ⟨d1, d2⟩
    | k + 3, hq => simp [er_tyc] at hq
def er_adL (b : Nat) (ad1 ad2 : Nat → Nat) (q2 : Nat) : Nat → Nat := fun k => if k = 40 then b else if k = 39 then q2 else if k < 21 then ad1 k else ad2 k
def er_sL : er_S := fun k b => match k with
  | 39 => 0
  | k => er_s0 k b
theorem er_eqs_L : ∀ k ∈ [0, 1, 5, 6, 7, 8, 9, 10, 11, 12, 13, 14, 15, 2, 16, 17, 18, 19, 20, 3, 4, 21, 22, 23, 24, 25, 26, 27, 28, 29, 30, 31, 32, 33, 34, 35, 36, 37, 38, 39], er_sL k = er_s0 k := by
  intro k hk
  funext b
  by_cases h : k = 39
  · subst h
    simp [er_sL, er_s0, er_m1]
  · unfold er_sL
    split
    · exact absurd rfl h
    · rfl
theorem er_prL (D : va_G) (cs : ClassId × ClassId × ClassId) (ad : Nat → Nat) : er_Pr (D, cs, ad, [0, 1, 5, 6, 7, 8, 9, 10, 11, 12, 13, 14, 15, 2, 16, 17, 18, 19, 20, 3, 4, 21, 22, 23, 24, 25, 26, 27, 28, 29, 30, 31, 32, 33, 34, 35, 36, 37, 38, 39]) 0 40 := by
  intro k h1 h2
  have h2 : k < 40 := Nat.le_of_ble_eq_true h2
  show k ∈ [0, 1, 5, 6, 7, 8, 9, 10, 11, 12, 13, 14, 15, 2, 16, 17, 18, 19, 20, 3, 4, 21, 22, 23, 24, 25, 26, 27, 28, 29, 30, 31, 32, 33, 34, 35, 36, 37, 38, 39]
  simp only [List.mem_cons, List.not_mem_nil, or_false]
  omega
set_option maxRecDepth 100000 in
set_option maxHeartbeats 8000000 in
theorem er_start {p : Program} {e : Env} {s : State} {m : MethodId} {below : List Frame} {meth : Method} {c : Code} (l : Launch) {b L : Nat} {xs : Nat → Int32} (hadm : l.admits e) (htr : l.stackTraces = false) (Iv : Nat → er_S → Prop) (hI0 : Iv 0 er_s0)
    (hstep : ∀ (t : Nat) (σ : er_S), t ≤ 512 → 6 * t + 6 ≤ L → Iv t σ → ∃ σ', el_step L xs (nI (6 * t)) σ = some (some σ') ∧ Iv (t + 1) σ') (hL : L ≤ 3072) (C0 : lw_At p s m meth c b L xs) : W p l e room_1 s m #[Value.ref b] below meth c s.heap [] 0 0 (lw_Z below #[Value.ref b] s) (entryFrame m ([Value.ref b] : List Value).toArray 7) := by
  obtain ⟨hx, hb, hr, hml, hown, hts, hX, hbl, hlocks, hgv⟩ := id C0
  obtain ⟨D, cs, hK⟩ := er_K0 hts
  have hT := er_T0s hts hgv
  have hZ := er_Z0s hts hgv
  have C : er_D p s m c code "EntryRowsLaw" D cs (fun q => s.heap.size ≤ q) := ⟨hx, hb, hown, hT, hK, er_AC0 hts, fun q h => h⟩
  have hS : va_S (fun q : Nat => s.heap.size ≤ q) s.heap s.heap [] := va_S.rf
  have hP : va_P D er_cl [] s.heap := fun k q h => by simp at h
  have hD : va_D (fun q : Nat => s.heap.size ≤ q) [] := ⟨fun i j p q h => by simp at h, fun k q h => by simp at h⟩
  have hl := lv_entry ([.ref b]) (n := 7) (Nat.le_of_ble_eq_true rfl)
  rw [lg_entry_eq]
  generalize (lg_sl ([.ref b]) ++ List.replicate (7 - (lg_sl ([.ref b])).length) Slot.unset).toArray = ls at hl ⊢
  have hl : lv_has ls 7 [(0, .ref b)] := hl
  refine ei_new C hP hD hS nw_L_8 (Nat.le_of_ble_eq_true rfl) (Nat.le_of_ble_eq_true rfl) d_L_law_0 (fun q0 H hP hD hS => ?_)
  refine lv_dup C.1 C.2.1 d_L_law_3 rfl ?_
  refine ei_ctor (ws := []) (kl := [0, 1, 5, 6, 7, 8, 9, 10, 11, 12, 13, 14, 15, 2, 16, 17, 18, 19, 20, 3, 4]) (fs := [.null, .null, .null, .null, .int 0, .int 0, .int 0]) C hZ ec_E_init rfl (by decide +kernel) ⟨by decide, by decide⟩ lk_L_79 in_E_init cw_E_init ini_E_init d_L_law_4 (hml.trans hl.1.symm) ⟨Nat.le_of_ble_eq_true rfl, Nat.le_of_ble_eq_true rfl, Nat.le_of_ble_eq_true rfl, Nat.le_of_ble_eq_true rfl⟩ (Nat.le_of_ble_eq_true rfl) hP hD hS (fun ad1 H locs had hP2 hD2 hS => ?_)
  subst had
  have hP : va_P D er_cl (er_ws (D, cs, ad1, [0, 1, 5, 6, 7, 8, 9, 10, 11, 12, 13, 14, 15, 2, 16, 17, 18, 19, 20, 3, 4]) er_s0) H := hP2
  have hD : va_D (fun q : Nat => s.heap.size ≤ q) (er_ws (D, cs, ad1, [0, 1, 5, 6, 7, 8, 9, 10, 11, 12, 13, 14, 15, 2, 16, 17, 18, 19, 20, 3, 4]) er_s0) := hD2
  refine lv_astore_n (lv' := [(1, .ref (ad1 0)), (0, .ref b)]) C.1 C.2.1 d_L_law_7 rfl hl (by decide) rfl (fun ls hl => ?_)
  refine ei_new C hP hD hS nw_L_80 (Nat.le_of_ble_eq_true rfl) (Nat.le_of_ble_eq_true rfl) d_L_law_8 (fun q1 H hP hD hS => ?_)
  refine lv_dup C.1 C.2.1 d_L_law_11 rfl ?_
  refine ei_ctor (ws := er_ws (D, cs, ad1, [0, 1, 5, 6, 7, 8, 9, 10, 11, 12, 13, 14, 15, 2, 16, 17, 18, 19, 20, 3, 4]) er_s0) (kl := [21, 22, 23, 24, 25, 26, 27, 28, 29, 30, 31, 32, 33, 34, 35, 36, 37, 38]) (fs := [.int 0, .int 0, .int 0, .int 0, .null, .int 0, .null, .null, .null, .null, .null, .null, .null, .null, .null, .null, .null, .null, .null, .null, .null, .null]) C hZ ec_M_init rfl (by decide +kernel) ⟨by decide, by decide⟩ lk_L_82 in_M_init cw_M_init ini_M_init d_L_law_12 (hml.trans hl.1.symm) ⟨Nat.le_of_ble_eq_true rfl, Nat.le_of_ble_eq_true rfl, Nat.le_of_ble_eq_true rfl, Nat.le_of_ble_eq_true rfl⟩ (Nat.le_of_ble_eq_true rfl) hP hD hS (fun ad2 H locs had hP2 hD2 hS => ?_)
  subst had
  refine lv_astore_n (lv' := [(2, .ref (ad2 21)), (1, .ref (ad1 0)), (0, .ref b)]) C.1 C.2.1 d_L_law_15 rfl hl (by decide) rfl (fun ls hl => ?_)
  refine lv_iconst (v := 1) C.1 C.2.1 d_L_law_16 rfl ?_
  refine ei_newl C hP2 hD2 hS 1 (by decide) (by decide +kernel) (by decide) (Nat.le_of_ble_eq_true rfl) (Nat.le_of_ble_eq_true rfl) d_L_law_17 (fun q2 H hP3 hD3 hS => ?_)
  refine lv_astore_n (lv' := [(3, .ref q2), (2, .ref (ad2 21)), (1, .ref (ad1 0)), (0, .ref b)]) C.1 C.2.1 d_L_law_19 rfl hl (by decide) rfl (fun ls hl => ?_)
  refine lv_iconst (v := 0) C.1 C.2.1 d_L_law_20 rfl ?_
  refine lv_istore (lv' := [(4, .int 0), (3, .ref q2), (2, .ref (ad2 21)), (1, .ref (ad1 0)), (0, .ref b)]) C.1 C.2.1 d_L_law_21 hl (by decide) rfl (fun ls hl => ?_)
  have hPG : va_P D er_cl (er_ws (D, cs, er_adL b ad1 ad2 q2, [0, 1, 5, 6, 7, 8, 9, 10, 11, 12, 13, 14, 15, 2, 16, 17, 18, 19, 20, 3, 4, 21, 22, 23, 24, 25, 26, 27, 28, 29, 30, 31, 32, 33, 34, 35, 36, 37, 38, 39]) er_sL) H := hP3
  have hDG : va_D (fun q : Nat => s.heap.size ≤ q) (er_ws (D, cs, er_adL b ad1 ad2 q2, [0, 1, 5, 6, 7, 8, 9, 10, 11, 12, 13, 14, 15, 2, 16, 17, 18, 19, 20, 3, 4, 21, 22, 23, 24, 25, 26, 27, 28, 29, 30, 31, 32, 33, 34, 35, 36, 37, 38, 39]) er_sL) := hD3
  have hw := er_ws_congr (D := D) (cs := cs) (ad := er_adL b ad1 ad2 q2) er_eqs_L
  rw [hw] at hPG hDG
  have B : er_BW p s m c (D, cs, er_adL b ad1 ad2 q2, [0, 1, 5, 6, 7, 8, 9, 10, 11, 12, 13, 14, 15, 2, 16, 17, 18, 19, 20, 3, 4, 21, 22, 23, 24, 25, 26, 27, 28, 29, 30, 31, 32, 33, 34, 35, 36, 37, 38, 39]) b L xs := ⟨⟨hx, hb, hown, hT, hK, (show List.Nodup [0, 1, 5, 6, 7, 8, 9, 10, 11, 12, 13, 14, 15, 2, 16, 17, 18, 19, 20, 3, 4, 21, 22, 23, 24, 25, 26, 27, 28, 29, 30, 31, 32, 33, 34, 35, 36, 37, 38, 39] by decide), fun q h => h, hZ⟩, trivial, trivial, hml, er_prL D cs _, hX, hbl, rfl⟩
  have J := ew_law_loop (l := l) (e := e) (below := below) (meth := meth) ⟨hadm, htr⟩ B hr hlocks hL (fun t σ => t ≤ 512 ∧ Iv t σ) (fun t σ h1 h2 => by
    obtain ⟨σ', e1, e2⟩ := hstep t σ h2.1 h1 h2.2
    exact ⟨σ', e1, by omega, e2⟩) (L + 1) 0 er_s0 (Nat.zero_le _) (by omega) ⟨by omega, hI0⟩
  exact J H _ ls hPG hDG hS (lv_sub hl [4, 3, 2, 1, 0] rfl)
