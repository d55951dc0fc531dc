/-! the state that the constructors make -/
def er_m1 (k : Nat) : Nat := if k = 3 ∨ k = 28 then 16 else if k = 20 then 8 else if k = 5 ∨ k = 6 ∨ k = 7 ∨ k = 8 ∨ k = 9 ∨ k = 13 ∨ k = 14 ∨ k = 29 ∨ k = 31 ∨ k = 32 ∨ k = 33 ∨ k = 34 ∨ k = 35 then 40 else 0
def er_s0 : er_S := fun k b => if b < er_m1 k then -1 else if (k = 0 ∧ b = 6) ∨ (k = 21 ∧ b = 2) then 600 else 0
theorem er_ws_congr {D : va_G} {cs : ClassId × ClassId × ClassId} {ad : Nat → Nat} {kl : List Nat} {σ σ' : er_S} (h : ∀ k ∈ kl, σ k = σ' k) : er_ws (D, cs, ad, kl) σ = er_ws (D, cs, ad, kl) σ' := by
  apply List.map_congr_left
  intro k hk
  have hk : k ∈ kl := hk
  rw [er_ent_congr (D, cs, ad, kl) (h k hk)]
theorem ej_iretJ {p : Program} {l : Launch} {e : Env} {R : Room} {s : State} {m : MethodId} {args : Array Value} {below : List Frame} {meth : Method} {c : Code} {D : va_G} {cs : ClassId × ClassId × ClassId} {ad : Nat → Nat} {kl : List Nat} {kc ks nc ns k0 h0 : Nat} {σ : er_S} {pc : Nat} {lv : List (Option Value)} {cc : ByteArray} {own : String} (C : er_C p s m c cc own (D, cs, ad, kl) (er_A1 h0 s.heap.size) s.heap) (hr : meth.sig.returnType = none) (hlocks : meth.locks = false) (hk0 : ad k0 = h0) (h1 : kc ≤ nc) (h2 : ks ≤ ns) (hσ : ∀ k ∈ kl, σ k = er_s0 k) (hd : decode cc pc = .ok (.return_, 1)) : er_J p l e R s m args below meth c (D, cs, ad, kl) (er_A1 h0 s.heap.size) s.heap (er_fI below D cs h0 s k0 nc ns kl er_s0) kc ks σ pc lv [] := by
  intro H locs ls hP hD hS hl
  have he := er_ws_congr (D := D) (cs := cs) (ad := ad) hσ
  have k := ej_iretI (l := l) (e := e) (R := R) (args := args) (below := below) (kc := kc) (ks := ks) (nc := nc) (ns := ns) (lv := lv) (σ := er_s0) C hr hlocks hk0 h1 h2 hd
  rw [he] at hP hD
  exact k H locs ls hP hD hS hl
set_option maxRecDepth 100000 in
theorem er_eqs_B : ∀ k ∈ [2, 16, 17, 18, 19, 20], (er_fill (fun _ _ => 0) 20 8 (-1)) k = er_s0 k := by
  intro k hk
  funext b
  simp only [List.mem_cons, List.not_mem_nil, or_false] at hk
  rcases hk with rfl | rfl | rfl | rfl | rfl | rfl <;> simp [er_fill, er_s0, er_m1]
set_option maxRecDepth 100000 in
theorem er_eqs_P : ∀ k ∈ [1, 5, 6, 7, 8, 9, 10, 11, 12, 13, 14, 15], (er_fill (er_fill (er_fill (er_fill (er_fill (er_fill (er_fill (fun _ _ => 0) 5 40 (-1)) 6 40 (-1)) 7 40 (-1)) 8 40 (-1)) 9 40 (-1)) 13 40 (-1)) 14 40 (-1)) k = er_s0 k := by
  intro k hk
  funext b
  simp only [List.mem_cons, List.not_mem_nil, or_false] at hk
  rcases hk with rfl | rfl | rfl | rfl | rfl | rfl | rfl | rfl | rfl | rfl | rfl | rfl <;> simp [er_fill, er_s0, er_m1]
