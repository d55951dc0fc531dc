/-! Arrays.fill; a constructor's contract out of its walk; the call of a constructor -/
abbrev y_fill : MethodName := ⟨"java/util/Arrays", "fill", "([II)V"⟩
abbrev b_fill : ByteArray := prog_16_method_103_code
abbrev w_fill : Cond := .code y_fill b_fill 4 none
theorem cal_fill : er_Cal y_fill w_fill 4 2 := ⟨er_mt (i := 31) (by decide +kernel) rfl, er_mt (i := 3) (by decide +kernel) rfl, ⟨by decide, by decide⟩, by decide +kernel, b_fill, none, [], Or.inl rfl⟩
theorem st_fill : Cond.static y_fill ∈ er_tbl := er_mt (i := 30) (by decide +kernel) rfl
theorem d_fill_0 : decode b_fill 0 = .ok (.iconst 0, 1) := by decide +kernel
theorem d_fill_1 : decode b_fill 1 = .ok (.istore_n 2, 1) := by decide +kernel
theorem d_fill_2 : decode b_fill 2 = .ok (.aload_n 0, 1) := by decide +kernel
theorem d_fill_3 : decode b_fill 3 = .ok (.arraylength, 1) := by decide +kernel
theorem d_fill_4 : decode b_fill 4 = .ok (.istore_n 3, 1) := by decide +kernel
theorem d_fill_5 : decode b_fill 5 = .ok (.iload_n 2, 1) := by decide +kernel
theorem d_fill_6 : decode b_fill 6 = .ok (.iload_n 3, 1) := by decide +kernel
theorem d_fill_7 : decode b_fill 7 = .ok (.if_icmp .ge 13, 3) := by decide +kernel
theorem d_fill_10 : decode b_fill 10 = .ok (.aload_n 0, 1) := by decide +kernel
theorem d_fill_11 : decode b_fill 11 = .ok (.iload_n 2, 1) := by decide +kernel
theorem d_fill_12 : decode b_fill 12 = .ok (.iload_n 1, 1) := by decide +kernel
theorem d_fill_13 : decode b_fill 13 = .ok (.iastore, 1) := by decide +kernel
theorem d_fill_14 : decode b_fill 14 = .ok (.iinc 2 1, 3) := by decide +kernel
theorem d_fill_17 : decode b_fill 17 = .ok (.goto (-12), 3) := by decide +kernel
theorem d_fill_20 : decode b_fill 20 = .ok (.return_, 1) := by decide +kernel
theorem ej_alen {p : Program} {l : Launch} {e : Env} {R : Room} {s : State} {m : MethodId} {args : Array Value} {below : List Frame} {meth : Method} {c : Code} {Q : State → Prop} {G : er_G} {A : Nat → Prop} {H0 : Heap} {kc ks : Nat} {σ : er_S} {pc : Nat} {lv : List (Option Value)} {st : List Value} {cc : ByteArray} {own : String} (C : er_C p s m c cc own G A H0) {k n : Nat} (hk : k ∈ er_ks G) (hy : er_lay k = .inr (0, n)) (hd : decode cc pc = .ok (.arraylength, 1)) (kk : er_J p l e R s m args below meth c G A H0 Q kc ks σ (pc + 1) lv (.int (nI n) :: st)) : er_J p l e R s m args below meth c G A H0 Q kc ks σ pc lv (.ref k :: st) := by
  intro H locs ls hP hD hS hl
  obtain ⟨q0, hq, hw⟩ := er_ws_at (G := G) hk
  have he : (er_ws G σ)[q0]? = some (er_ad G k, .inl (G.2.1.1, n, .inl (σ k))) := by rw [hw σ]; simp only [er_ent, hy]
  have hc : H[er_ad G k]? = some (vp_cell G.2.1.1 (n, .inl (σ k))) := hP q0 _ he
  refine W.alen (n := nI n) C.1 C.2.1 hc ((C.2.2.2.2.1.2 0 _ rfl).1 n (fun j => .int (σ k j))) ?_ rfl rfl hd (kk H locs ls hP hD hS hl)
  show (arrV _ _ _).slots.size.toInt32 = nI n
  rw [arrV_size]
  rfl
def er_fill (σ : er_S) (k n : Nat) (v : Int32) : er_S := fun a b => if a = k ∧ b < n then v else σ a b
theorem er_fill_0 (σ : er_S) (k : Nat) (v : Int32) : er_fill σ k 0 v = σ := by
  funext a b
  simp [er_fill]
theorem er_fill_s (σ : er_S) (k i : Nat) (v : Int32) : er_up (er_fill σ k i v) k i v = er_fill σ k (i + 1) v := by
  funext a b
  simp only [er_up, er_fill]
  by_cases h1 : a = k
  · by_cases h2 : b = i
    · subst h2; simp [h1]
    · by_cases h3 : b < i
      · simp [h1, h2, h3, Nat.lt_succ_of_lt h3]
      · have h4 : ¬ b < i + 1 := by omega
        simp [h1, h2, h3, h4]
  · simp [h1]
set_option maxRecDepth 100000 in
set_option maxHeartbeats 4000000 in
theorem ew_fill_5 {p : Program} {l : Launch} {e : Env} {s : State} {m : MethodId} {args : Array Value} {below : List Frame} {meth : Method} {c : Code} {G : er_G} (B : er_B p s m c meth b_fill "java/util/Arrays" G none 4 0 0) {k n : Nat} (hk : k ∈ er_ks G) (hy : er_lay k = .inr (0, n)) (hn : n < 2 ^ 31) (v : Int32) (σ : er_S) : ∀ (f i : Nat), i ≤ n → n < i + f →
    er_J p l e { frames := 0, cells := 0, slots := 0, locals := 0 } s m args below meth c G (er_A G s.heap.size) s.heap (er_fin below G s 0 0 (.inl none, er_fill σ k n v)) 0 0 (er_fill σ k i v) 5 [some (.ref k), some (.int v), some (.int (nI i)), some (.int (nI n))] [] := by
  intro f
  induction f with
  | zero => intro i h1 h2; omega
  | succ f ih =>
    intro i h1 h2
    refine ej_iload_n B.1 d_fill_5 rfl ?_
    refine ej_iload_n B.1 d_fill_6 rfl ?_
    refine ej_icmp_ge B.1 (tgt := 20) d_fill_7 (by decide) (fun q => ?_) (fun q => ?_)
    · have : i = n := by
        rw [nI_leI hn (by omega)] at q
        omega
      subst this
      exact ej_vret B.1 B.2.1 B.2.2.1 (Nat.zero_le _) (Nat.zero_le _) d_fill_20
    · have hlt : i < n := by
        rw [nI_leI hn (by omega)] at q
        omega
      refine ej_aload_n B.1 d_fill_10 rfl ?_
      refine ej_iload_n B.1 d_fill_11 rfl ?_
      refine ej_iload_n B.1 d_fill_12 rfl ?_
      refine ej_iast B.1 hk hy (decide_eq_true (vp_in_nI hlt hn)) d_fill_13 ?_
      rw [show er_ix (nI i) = i from nI_clamp (by omega), er_fill_s]
      refine ej_iinc B.1 (v := nI (i + 1)) (lv' := [some (.ref k), some (.int v), some (.int (nI (i + 1))), some (.int (nI n))]) d_fill_14 rfl rfl rfl (nI_1 i) rfl ?_
      refine ej_goto B.1 (tgt := 5) d_fill_17 (by decide) ?_
      exact ih (i + 1) (by omega) (by omega)
set_option maxRecDepth 100000 in
set_option maxHeartbeats 4000000 in
theorem ec_fill {l : Launch} {G : er_G} {k n : Nat} (hk : k ∈ er_ks G) (hy : er_lay k = .inr (0, n)) (hn : n < 2 ^ 31) (v : Int32) (σ : er_S) : er_Con l y_fill w_fill 0 0 0 0 G [.ref k, .int v] σ (.inl none, er_fill σ k n v) := by
  refine er_ofJ (ret := none) (cc := b_fill) (maxL := 4) (lv0 := [some (.ref k), some (.int v), none, none]) (hh := []) (by decide +kernel) rfl (Or.inl rfl) (by intro v hv; simp only [List.mem_cons, List.not_mem_nil, or_false] at hv; rcases hv with rfl | rfl <;> rfl) (Nat.le_of_ble_eq_true rfl) ?_
  intro p e s m args below meth c hadm C hr hlk hml hw hnm hm hcd
  have B : er_B p s m c meth b_fill "java/util/Arrays" G none 4 0 0 := ⟨C, hr, hlk, hml, er_none G, er_noh hw hnm hm hcd⟩
  refine ej_iconst B.1 (v := 0) d_fill_0 rfl ?_
  refine ej_istore_n B.1 (lv' := [some (.ref k), some (.int v), some (.int 0), none]) d_fill_1 rfl rfl rfl ?_
  refine ej_aload_n B.1 d_fill_2 rfl ?_
  refine ej_alen B.1 hk hy d_fill_3 ?_
  refine ej_istore_n B.1 (lv' := [some (.ref k), some (.int v), some (.int 0), some (.int (nI n))]) d_fill_4 rfl rfl rfl ?_
  have h := ew_fill_5 (l := l) (e := e) (args := args) (below := below) B hk hy hn v σ (n + 1) 0 (Nat.zero_le n) (by omega)
  rw [er_fill_0, nI_0] at h
  exact h
/-- a constructor's end -/
def er_fI (below : List Frame) (D : va_G) (cs : ClassId × ClassId × ClassId) (h0 : Nat) (s : State) (k0 nc ns : Nat) (ks : List Nat) (σ0 : er_S) : State → Prop := fun t => ∃ o, t.status = .running ∧ Ended t below o ∧ er_QI D cs h0 s.heap.size k0 nc ns ks σ0 #[] s o t
theorem ej_iretI {p : Program} {l : Launch} {e : Env} {R : Room} {s : State} {m : MethodId} {args : Array Value} {below : List Frame} {meth : Method} {c : Code} {D : va_G} {cs : ClassId × ClassId × ClassId} {ad : Nat → Nat} {kl : List Nat} {kc ks nc ns k0 h0 : Nat} {σ : er_S} {pc : Nat} {lv : List (Option Value)} {cc : ByteArray} {own : String} (C : er_C p s m c cc own (D, cs, ad, kl) (er_A1 h0 s.heap.size) s.heap) (hr : meth.sig.returnType = none) (hlocks : meth.locks = false) (hk0 : ad k0 = h0) (h1 : kc ≤ nc) (h2 : ks ≤ ns) (hd : decode cc pc = .ok (.return_, 1)) : er_J p l e R s m args below meth c (D, cs, ad, kl) (er_A1 h0 s.heap.size) s.heap (er_fI below D cs h0 s k0 nc ns kl σ) kc ks σ pc lv [] := by
  intro H locs ls hP hD hS hl
  refine er_wm (fun t h => ?_) (W.vret (Qc := fun _ _ o t => o = .returned none ∧ t.heap = H) (free := er_A1 h0 s.heap.size) C.1 C.2.1 hr (fun t ht _ => ⟨rfl, ht⟩) hS.2.2 hd hlocks)
  obtain ⟨o, a1, a2, ⟨rfl, a3⟩, L, ⟨-, a4, a5⟩, a6⟩ := h
  exact ⟨.returned none, a1, a2, rfl, ⟨ad, hk0, by rw [a3]; exact hP, hD⟩, hS.F a3, L, a4, a5.mono h1 h2, a6⟩
/-- a constructor's contract out of the walk of its body -/
theorem er_ofI {l : Launch} {y : MethodName} {cc : ByteArray} {maxL : Nat} {fr lo nc ns ci k0 : Nat} {fs : List Value} {ks : List Nat} {σ0 : er_S} (hy : plainFor y = true) (hyn : y.name = "<init>") (hn : 1 ≤ maxL)
    (body : ∀ (p : Program) (e : Env) (s : State) (m : MethodId) (args : Array Value) (below : List Frame) (meth : Method) (c : Code) (D : va_G) (cs : ClassId × ClassId × ClassId) (h0 : Nat) (ls : Array Slot), er_D p s m c cc y.cls D cs (er_A1 h0 s.heap.size) → er_Z (er_A1 h0 s.heap.size) s s.heap → meth.name = "<init>" → meth.sig.returnType = none → meth.locks = false → c.maxLocals = maxL →
      va_P D er_cl [(h0, .inr (ci, fs))] s.heap → va_D (er_A1 h0 s.heap.size) [(h0, .inr (ci, fs))] → lv_has ls maxL [(0, .ref h0)] →
      W p l e { frames := fr, cells := nc, slots := ns, locals := lo } s m args below meth c s.heap [] 0 0 (er_fI below D cs h0 s k0 nc ns ks σ0) (F0 m 0 ls [])) : er_CI l y (.code y cc maxL none) fr lo nc ns ci k0 fs ks σ0 := by
  intro D cs h0 sz
  refine MetFree.of_bodySF (code := cc) (maxLocals := maxL) (ret := none) hy ?_ ?_
  · intro args s m h hn
    obtain ⟨meth, c, h1, h2, h3, h4, h5, h6, -, -⟩ := Cond.code_spec hn (atoms_spec (ws := [.code y cc maxL none]) h _ List.mem_cons_self)
    exact ⟨meth, c, h1, h2, h3, h4, h5, h6⟩
  · intro p e s m args below meth c s₁ B hml hPI _
    obtain ⟨rfl, hsz, hP, hK, hT, hAC, hZ⟩ := hPI
    subst hsz
    have hh0 : s₁.heap = s.heap := by rw [B.state]; rfl
    have X := Stand.of_body B
    have hl := lv_entry ([.ref h0]) (n := maxL) (by show 1 ≤ maxL; exact hn)
    have hD : va_D (er_A1 h0 s.heap.size) [(h0, Sum.inr (ci, fs))] := by
      refine ⟨fun i j x y hx hy e => ?_, fun i q hq => ?_⟩
      · match i, j, hx, hy with
        | 0, 0, _, _ => rfl
        | 0, j + 1, _, hy => simp at hy
        | i + 1, _, hx, _ => simp at hx
      · match i, hq with
        | 0, hq => cases hq; exact Or.inl rfl
        | i + 1, hq => simp at hq
    have K := body p e s m #[Value.ref h0] below meth c D cs h0 _ ⟨B.exec, B.bytes, findClass_of_methodNamed B.named, hT, hK, hAC, fun q h => Or.inr h⟩ hZ ((name_of_methodNamed B.named B.method).1.trans hyn) B.returns B.notSynchronized hml hP hD hl
    rw [← lg_entry_eq] at K
    obtain ⟨t, a1, o, b1, b2, b3⟩ := K s₁ hh0 X
    exact ⟨t, o, a1, b1, b2, b3⟩
