/-! what the walk of the law's loop stands on -/
def er_BW (p : Program) (s : State) (m : MethodId) (c : Code) (G : er_G) (b L : Nat) (xs : Nat → Int32) : Prop :=
  er_C p s m c code "EntryRowsLaw" G (fun q => s.heap.size ≤ q) s.heap ∧ True ∧ True ∧ c.maxLocals = 7 ∧ er_Pr G 0 40 ∧ va_X b L xs s s.heap ∧ b < s.heap.size ∧ er_ad G 40 = b
theorem er_atW {p : Program} {s : State} {m : MethodId} {c : Code} {G : er_G} {b L : Nat} {xs : Nat → Int32} (B : er_BW p s m c G b L xs) (k : Nat) (h1 : Nat.ble 0 k = true) (h2 : Nat.blt k 40 = true) : k ∈ er_ks G := B.2.2.2.2.1 k h1 h2
theorem er_prW {p : Program} {s : State} {m : MethodId} {c : Code} {G : er_G} {b L : Nat} {xs : Nat → Int32} (B : er_BW p s m c G b L xs) : er_Pr G 0 40 := B.2.2.2.2.1
section ERW
variable {p : Program} {l : Launch} {e : Env} {R : Room} {s : State} {m : MethodId} {args : Array Value} {below : List Frame} {meth : Method} {c : Code} {Q : State → Prop} {G : er_G} {A : Nat → Prop} {H0 : Heap} {kc ks : Nat} {σ σ' : er_S} {pc : Nat} {lv lv' : List (Option Value)} {st : List Value}
theorem ej_widen {k n : Nat} (h1 : kc ≤ k) (h2 : ks ≤ n) (kk : er_J p l e R s m args below meth c G A H0 Q k n σ pc lv st) : er_J p l e R s m args below meth c G A H0 Q kc ks σ pc lv st :=
  fun H locs ls hP hD hS hl => W.widen h1 h2 (kk H locs ls hP hD hS hl)
theorem ej_sld {b L : Nat} {xs : Nat → Int32} (B : er_BW p s m c G b L xs) {j : Int32} (hin : er_inb j L = true) (hd : decode code pc = .ok (.iaload, 1)) (kk : er_J p l e R s m args below meth c G (fun q => s.heap.size ≤ q) s.heap Q kc ks σ (pc + 1) lv (.int (xs (er_ix j)) :: st)) : er_J p l e R s m args below meth c G (fun q => s.heap.size ≤ q) s.heap Q kc ks σ pc lv (.int j :: .ref 40 :: st) := by
  intro H locs ls hP hD hS hl
  have h40 : er_cz G (.ref 40) = .ref b := by show Value.ref (er_ad G 40) = _; rw [B.2.2.2.2.2.2.2]
  rw [List.map_cons, List.map_cons, h40]
  exact va_sld B.1.1 B.1.2.1 B.2.2.2.2.2.1 B.2.2.2.2.2.2.1 (Nat.not_le.mpr B.2.2.2.2.2.2.1) hS (er_inb_in hin) hd (kk H locs ls hP hD hS hl)
theorem ej_slen {b L : Nat} {xs : Nat → Int32} (B : er_BW p s m c G b L xs) (hd : decode code pc = .ok (.arraylength, 1)) (kk : er_J p l e R s m args below meth c G (fun q => s.heap.size ≤ q) s.heap Q kc ks σ (pc + 1) lv (.int (nI L) :: st)) : er_J p l e R s m args below meth c G (fun q => s.heap.size ≤ q) s.heap Q kc ks σ pc lv (.ref 40 :: st) := by
  intro H locs ls hP hD hS hl
  have h40 : er_cz G (.ref 40) = .ref b := by show Value.ref (er_ad G 40) = _; rw [B.2.2.2.2.2.2.2]
  rw [List.map_cons, h40]
  exact va_slen B.1.1 B.1.2.1 B.2.2.2.2.2.1 B.2.2.2.2.2.2.1 (Nat.not_le.mpr B.2.2.2.2.2.2.1) hS hd (kk H locs ls hP hD hS hl)
end ERW
