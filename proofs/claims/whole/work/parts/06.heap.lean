/-! reads and writes of the cells -/
/-- the pool's entry idx of the class own is the field i of the class number ci -/
def er_F (own : String) (idx ci i : Nat) : Prop := ∃ (C : String) (T : u_T) (N : Nat), er_cl[ci]? = some (C, T, N) ∧ i < N ∧ (∀ w ∈ u_ws C T N, w ∈ er_tbl) ∧ (T i).1 = C ∧ (Cond.fieldLink own idx C (T i).2.1 (T i).2.2.1 ∈ er_tbl ∨ ∃ host, Cond.fieldLinkNest own idx C (T i).2.1 (T i).2.2.1 host ∈ er_tbl)
/-- the same, an int field that may be written -/
def er_Fp (own : String) (idx ci i : Nat) : Prop := ∃ (C : String) (T : u_T) (N : Nat) (ty : Nat → FieldType), er_cl[ci]? = some (C, T, N) ∧ i < N ∧ (∀ w ∈ u_ws C T N, w ∈ er_tbl) ∧ (T i).1 = C ∧ Cond.fieldLink own idx C (T i).2.1 (T i).2.2.1 ∈ er_tbl ∧ (T i).2.2.2 = false ∧ parseFieldDescriptor (T i).2.2.1 = some .int ∧ (∀ k, k < N → parseFieldDescriptor (T k).2.2.1 = some (ty k)) ∧ (∀ a, a < N → ∀ b, b < N → a ≠ b → (T a).2.1 ≠ (T b).2.1)
section ERH
variable {p : Program} {l : Launch} {e : Env} {R : Room} {s : State} {m : MethodId} {args : Array Value} {below : List Frame} {meth : Method} {c : Code} {Q : State → Prop} {G : er_G} {A : Nat → Prop} {H0 : Heap} {kc ks : Nat} {σ : er_S} {pc : Nat} {lv lv' : List (Option Value)} {st : List Value} {cc : ByteArray} {own : String}
theorem er_obj {k ci : Nat} {fs : List (Option Nat)} (hk : k ∈ er_ks G) (hy : er_lay k = .inl (ci, fs)) : ∃ q0 : Nat, (er_ks G)[q0]? = some k ∧ ∀ σ : er_S, (er_ws G σ)[q0]? = some (er_ad G k, .inr (ci, er_fs G σ k 0 fs)) := by
  obtain ⟨q0, hq, hw⟩ := er_ws_at hk
  refine ⟨q0, hq, fun σ => ?_⟩
  rw [hw σ]
  simp only [er_ent, hy]
theorem ej_getr (C : er_C p s m c cc own G A H0) {k ci i t idx : Nat} {fs : List (Option Nat)} (hk : k ∈ er_ks G) (hy : er_lay k = .inl (ci, fs)) (hf : fs[i]? = some (some t)) (hF : er_F own idx ci i) (hd : decode cc pc = .ok (.getfield idx, 3)) (kk : er_J p l e R s m args below meth c G A H0 Q kc ks σ (pc + 3) lv (.ref t :: st)) : er_J p l e R s m args below meth c G A H0 Q kc ks σ pc lv (.ref k :: st) := by
  intro H locs ls hP hD hS hl
  obtain ⟨C0, T, N, h1, h2, h3, h4, h5⟩ := hF
  obtain ⟨q0, -, hw⟩ := er_obj (G := G) hk hy
  have hv := er_fs_get G σ k fs 0 i _ hf
  rcases h5 with h5 | ⟨host, h5⟩
  · exact va_get (D := G.1) (ci := ci) (C := C0) (T := T) (N := N) (ref := C0) C.1 C.2.1 (fun w hw => C.2.2.2.1.use hw) h3 C.2.2.1 C.2.2.2.2.1 hP q0 (hw σ) h1 i h2 (C.2.2.2.1.use h5) (fun x hx => by rw [h4] at hx; exact hx) hv hd (kk H locs ls hP hD hS hl)
  · exact va_getN (D := G.1) (ci := ci) (C := C0) (T := T) (N := N) (ref := C0) C.1 C.2.1 (fun w hw => C.2.2.2.1.use hw) h3 C.2.2.1 C.2.2.2.2.1 hP q0 (hw σ) h1 i h2 (C.2.2.2.1.use h5) (fun x hx => by rw [h4] at hx; exact hx) hv hd (kk H locs ls hP hD hS hl)
theorem ej_geti (C : er_C p s m c cc own G A H0) {k ci i idx : Nat} {fs : List (Option Nat)} (hk : k ∈ er_ks G) (hy : er_lay k = .inl (ci, fs)) (hf : fs[i]? = some none) (hF : er_F own idx ci i) (hd : decode cc pc = .ok (.getfield idx, 3)) (kk : er_J p l e R s m args below meth c G A H0 Q kc ks σ (pc + 3) lv (.int (σ k i) :: st)) : er_J p l e R s m args below meth c G A H0 Q kc ks σ pc lv (.ref k :: st) := by
  intro H locs ls hP hD hS hl
  obtain ⟨C0, T, N, h1, h2, h3, h4, h5⟩ := hF
  obtain ⟨q0, -, hw⟩ := er_obj (G := G) hk hy
  have hv := er_fs_get G σ k fs 0 i _ hf
  rw [Nat.zero_add] at hv
  rcases h5 with h5 | ⟨host, h5⟩
  · exact va_get (D := G.1) (ci := ci) (C := C0) (T := T) (N := N) (ref := C0) C.1 C.2.1 (fun w hw => C.2.2.2.1.use hw) h3 C.2.2.1 C.2.2.2.2.1 hP q0 (hw σ) h1 i h2 (C.2.2.2.1.use h5) (fun x hx => by rw [h4] at hx; exact hx) hv hd (kk H locs ls hP hD hS hl)
  · exact va_getN (D := G.1) (ci := ci) (C := C0) (T := T) (N := N) (ref := C0) C.1 C.2.1 (fun w hw => C.2.2.2.1.use hw) h3 C.2.2.1 C.2.2.2.2.1 hP q0 (hw σ) h1 i h2 (C.2.2.2.1.use h5) (fun x hx => by rw [h4] at hx; exact hx) hv hd (kk H locs ls hP hD hS hl)
theorem ej_puti (C : er_C p s m c cc own G A H0) {k ci i idx : Nat} {fs : List (Option Nat)} {v : Int32} (hk : k ∈ er_ks G) (hy : er_lay k = .inl (ci, fs)) (hf : fs[i]? = some none) (hF : er_Fp own idx ci i) (hd : decode cc pc = .ok (.putfield idx, 3)) (kk : er_J p l e R s m args below meth c G A H0 Q kc ks (er_up σ k i v) (pc + 3) lv st) : er_J p l e R s m args below meth c G A H0 Q kc ks σ pc lv (.int v :: .ref k :: st) := by
  intro H locs ls hP hD hS hl
  obtain ⟨C0, T, N, ty, h1, h2, h3, h4, h5, h6, h7, h8, h9⟩ := hF
  obtain ⟨q0, hq, hw⟩ := er_obj (G := G) hk hy
  have hlen : i < (er_fs G σ k 0 fs).length := by rw [er_fs_len]; exact (List.getElem?_eq_some_iff.mp hf).1
  have hset : (er_ws G σ).set q0 (er_ad G k, .inr (ci, (er_fs G σ k 0 fs).set i (.int v))) = er_ws G (er_up σ k i v) := by
    rw [er_fs_set G σ k v fs 0 i hf, Nat.zero_add, ← er_ws_set C.2.2.2.2.2.1 hq (σ := σ) (σ' := er_up σ k i v) (fun j hj => er_up_other σ i v hj)]
    simp only [er_ent, hy]
  refine va_put (D := G.1) (ci := ci) (C := C0) (T := T) (N := N) (ref := C0) (ty := .int) (v := .int v) C.1 C.2.1 (fun w hw => C.2.2.2.1.use hw) h3 ty h8 h9 C.2.2.1 C.2.2.2.2.1 hP hD hS q0 (hw σ) h1 i h2 (C.2.2.2.1.use h5) (fun x hx => by rw [h4] at hx; exact hx) h6 h7 rfl rfl hlen hd (fun H1 locs1 hP1 hD1 hS1 => ?_)
  rw [hset] at hP1 hD1
  exact kk H1 locs1 ls hP1 hD1 hS1 hl
theorem ej_iald (C : er_C p s m c cc own G A H0) {k n : Nat} {j : Int32} (hk : k ∈ er_ks G) (hy : er_lay k = .inr (0, n)) (hin : er_inb j n = true) (hd : decode cc pc = .ok (.iaload, 1)) (kk : er_J p l e R s m args below meth c G A H0 Q kc ks σ (pc + 1) lv (.int (σ k (er_ix j)) :: st)) : er_J p l e R s m args below meth c G A H0 Q kc ks σ pc lv (.int j :: .ref k :: st) := by
  intro H locs ls hP hD hS hl
  obtain ⟨q0, hq, hw⟩ := er_ws_at (G := G) hk
  have he : (er_ws G σ)[q0]? = some (er_ad G k, .inl (G.2.1.1, n, .inl (σ k))) := by rw [hw σ]; simp only [er_ent, hy]
  exact va_iald C.1 C.2.1 C.2.2.2.2.1 hP q0 0 he rfl (er_inb_in hin) hd (kk H locs ls hP hD hS hl)
theorem ej_zald (C : er_C p s m c cc own G A H0) {k n : Nat} {j : Int32} (hk : k ∈ er_ks G) (hy : er_lay k = .inr (1, n)) (hin : er_inb j n = true) (hd : decode cc pc = .ok (.baload, 1)) (kk : er_J p l e R s m args below meth c G A H0 Q kc ks σ (pc + 1) lv (.int (σ k (er_ix j)) :: st)) : er_J p l e R s m args below meth c G A H0 Q kc ks σ pc lv (.int j :: .ref k :: st) := by
  intro H locs ls hP hD hS hl
  obtain ⟨q0, hq, hw⟩ := er_ws_at (G := G) hk
  have he : (er_ws G σ)[q0]? = some (er_ad G k, .inl (G.2.1.2.1, n, .inl (σ k))) := by rw [hw σ]; simp only [er_ent, hy]
  exact va_zald C.1 C.2.1 C.2.2.2.2.1 hP q0 1 he rfl (er_inb_in hin) hd (kk H locs ls hP hD hS hl)
theorem ej_lald (C : er_C p s m c cc own G A H0) {k n : Nat} {j : Int32} (hk : k ∈ er_ks G) (hy : er_lay k = .inr (2, n)) (hin : er_inb j n = true) (hd : decode cc pc = .ok (.laload, 1)) (kk : er_J p l e R s m args below meth c G A H0 Q kc ks σ (pc + 1) lv (.long (σ k (er_ix j)).toInt64 :: st)) : er_J p l e R s m args below meth c G A H0 Q kc ks σ pc lv (.int j :: .ref k :: st) := by
  intro H locs ls hP hD hS hl
  obtain ⟨q0, hq, hw⟩ := er_ws_at (G := G) hk
  have he : (er_ws G σ)[q0]? = some (er_ad G k, .inl (G.2.1.2.2, n, .inr (.inl (fun j => (σ k j).toInt64)))) := by rw [hw σ]; simp only [er_ent, hy]
  exact va_lald C.1 C.2.1 C.2.2.2.2.1 hP q0 2 he rfl (er_inb_in hin) hd (kk H locs ls hP hD hS hl)
theorem ej_iast (C : er_C p s m c cc own G A H0) {k n : Nat} {j v : Int32} (hk : k ∈ er_ks G) (hy : er_lay k = .inr (0, n)) (hin : er_inb j n = true) (hd : decode cc pc = .ok (.iastore, 1)) (kk : er_J p l e R s m args below meth c G A H0 Q kc ks (er_up σ k (er_ix j) v) (pc + 1) lv st) : er_J p l e R s m args below meth c G A H0 Q kc ks σ pc lv (.int v :: .int j :: .ref k :: st) := by
  intro H locs ls hP hD hS hl
  obtain ⟨q0, hq, hw⟩ := er_ws_at (G := G) hk
  have he : (er_ws G σ)[q0]? = some (er_ad G k, .inl (G.2.1.1, n, .inl (σ k))) := by rw [hw σ]; simp only [er_ent, hy]
  have hset : (er_ws G σ).set q0 (er_ad G k, .inl (G.2.1.1, n, .inl (upd (σ k) j.toNatClampNeg v))) = er_ws G (er_up σ k (er_ix j) v) := by
    rw [← er_ws_set C.2.2.2.2.2.1 hq (σ := σ) (σ' := er_up σ k (er_ix j) v) (fun i hi => er_up_other σ _ v hi)]
    simp only [er_ent, hy, er_up_same, er_ix]
  refine va_iast C.1 C.2.1 C.2.2.2.2.1 hP hD hS q0 0 he rfl (er_inb_in hin) hd (fun H1 locs1 hP1 hD1 hS1 => ?_)
  rw [hset] at hP1 hD1
  exact kk H1 locs1 ls hP1 hD1 hS1 hl
theorem ej_zast (C : er_C p s m c cc own G A H0) {k n : Nat} {j v : Int32} (hk : k ∈ er_ks G) (hy : er_lay k = .inr (1, n)) (hin : er_inb j n = true) (hb : er_isb v = true) (hd : decode cc pc = .ok (.bastore, 1)) (kk : er_J p l e R s m args below meth c G A H0 Q kc ks (er_up σ k (er_ix j) v) (pc + 1) lv st) : er_J p l e R s m args below meth c G A H0 Q kc ks σ pc lv (.int v :: .int j :: .ref k :: st) := by
  intro H locs ls hP hD hS hl
  obtain ⟨q0, hq, hw⟩ := er_ws_at (G := G) hk
  have he : (er_ws G σ)[q0]? = some (er_ad G k, .inl (G.2.1.2.1, n, .inl (σ k))) := by rw [hw σ]; simp only [er_ent, hy]
  have hset : (er_ws G σ).set q0 (er_ad G k, .inl (G.2.1.2.1, n, .inl (upd (σ k) j.toNatClampNeg (vp_nar .boolean v)))) = er_ws G (er_up σ k (er_ix j) v) := by
    rw [← er_ws_set C.2.2.2.2.2.1 hq (σ := σ) (σ' := er_up σ k (er_ix j) v) (fun i hi => er_up_other σ _ v hi), er_isb_z hb]
    simp only [er_ent, hy, er_up_same, er_ix]
  refine va_zast C.1 C.2.1 C.2.2.2.2.1 hP hD hS q0 1 he rfl (er_inb_in hin) hd (fun H1 locs1 hP1 hD1 hS1 => ?_)
  rw [hset] at hP1 hD1
  exact kk H1 locs1 ls hP1 hD1 hS1 hl
theorem ej_last (C : er_C p s m c cc own G A H0) {k n : Nat} {j v : Int32} (hk : k ∈ er_ks G) (hy : er_lay k = .inr (2, n)) (hin : er_inb j n = true) (hd : decode cc pc = .ok (.lastore, 1)) (kk : er_J p l e R s m args below meth c G A H0 Q kc ks (er_up σ k (er_ix j) v) (pc + 1) lv st) : er_J p l e R s m args below meth c G A H0 Q kc ks σ pc lv (.long v.toInt64 :: .int j :: .ref k :: st) := by
  intro H locs ls hP hD hS hl
  obtain ⟨q0, hq, hw⟩ := er_ws_at (G := G) hk
  have he : (er_ws G σ)[q0]? = some (er_ad G k, .inl (G.2.1.2.2, n, .inr (.inl (fun j => (σ k j).toInt64)))) := by rw [hw σ]; simp only [er_ent, hy]
  have hset : (er_ws G σ).set q0 (er_ad G k, .inl (G.2.1.2.2, n, .inr (.inl (vp_updL (fun j => (σ k j).toInt64) j.toNatClampNeg v.toInt64)))) = er_ws G (er_up σ k (er_ix j) v) := by
    rw [← er_ws_set C.2.2.2.2.2.1 hq (σ := σ) (σ' := er_up σ k (er_ix j) v) (fun i hi => er_up_other σ _ v hi)]
    have hu : vp_updL (fun j => (σ k j).toInt64) j.toNatClampNeg v.toInt64 = fun i => (er_up σ k (er_ix j) v k i).toInt64 := by
      funext i
      by_cases hi : i = j.toNatClampNeg
      · subst hi
        simp [vp_updL, er_up, er_ix]
      · simp [vp_updL, er_up, er_ix, hi]
    rw [hu]
    simp only [er_ent, hy]
  refine va_last C.1 C.2.1 C.2.2.2.2.1 hP hD hS q0 2 he rfl (er_inb_in hin) hd (fun H1 locs1 hP1 hD1 hS1 => ?_)
  rw [hset] at hP1 hD1
  exact kk H1 locs1 ls hP1 hD1 hS1 hl
theorem ej_tin (C : er_C p s m c cc own G A H0) {dflt lo hi : Int} {offs : Array Int} {len : Nat} {x v : Int32} {off : Int} {tgt : Nat} (hd : decode cc pc = .ok (.tableswitch dflt lo hi offs, len)) (hx : x = v) (h1 : ¬ v.toInt < lo) (h2 : ¬ hi < v.toInt) (ho : offs[(v.toInt - lo).toNat]? = some off) (ht : (pc : Int) + off = (tgt : Int)) (k : er_J p l e R s m args below meth c G A H0 Q kc ks σ tgt lv st) : er_J p l e R s m args below meth c G A H0 Q kc ks σ pc lv (.int x :: st) :=
  fun H locs ls hP hD hS hl => by
    subst hx
    exact lv_tableIn C.1 C.2.1 hd h1 h2 ho ht (k H locs ls hP hD hS hl)
theorem ej_tout (C : er_C p s m c cc own G A H0) {dflt lo hi : Int} {offs : Array Int} {len : Nat} {x : Int32} {tgt : Nat} (hd : decode cc pc = .ok (.tableswitch dflt lo hi offs, len)) (h : x.toInt < lo ∨ hi < x.toInt) (ht : (pc : Int) + dflt = (tgt : Int)) (k : er_J p l e R s m args below meth c G A H0 Q kc ks σ tgt lv st) : er_J p l e R s m args below meth c G A H0 Q kc ks σ pc lv (.int x :: st) :=
  fun H locs ls hP hD hS hl => lv_tableOut C.1 C.2.1 hd h ht (k H locs ls hP hD hS hl)
end ERH
