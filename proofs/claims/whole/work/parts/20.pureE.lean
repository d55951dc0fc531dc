def ef_J_min_10 (t0 : Int32) (σ : er_S) : Option Int32 := some (t0)
def ef_J_min (x0 x1 : Int32) (σ : er_S) : Option Int32 := if x1 < x0 then ef_J_min_10 x1 σ else ef_J_min_10 x0 σ
def ef_E_requireRange_10 (σ : er_S) : Option ((Unit ⊕ Nat) × er_S) := some (.inr 1, σ)
def ef_E_requireRange (x0 x1 x2 : Int32) (σ : er_S) : Option ((Unit ⊕ Nat) × er_S) := if x0 < x1 then ef_E_requireRange_10 σ else if x0 ≤ x2 then some (.inl (), σ) else ef_E_requireRange_10 σ
def ef_B_hasRoom_14 (t0 : Int32) (σ : er_S) : Option Int32 := er_gd (er_isb t0) (some (t0))
def ef_B_hasRoom (σ : er_S) : Option Int32 := if 8 ≤ (σ 2 5) then ef_B_hasRoom_14 0 σ else ef_B_hasRoom_14 1 σ
def ef_B_make (x1 x2 x3 : Int32) (σ : er_S) : Option (Int32 × er_S) := er_gd (er_inb (σ 2 5) 8) (er_gd (er_isb 1) (er_gd (er_inb (σ 2 5) 8) (er_gd (er_inb (σ 2 5) 8) (er_gd (er_inb (σ 2 5) 8) (some (σ 2 5, er_up (er_up (er_up (er_up (er_up σ 16 (er_ix (σ 2 5)) 1) 17 (er_ix (σ 2 5)) x1) 18 (er_ix (σ 2 5)) x2) 19 (er_ix (σ 2 5)) x3) 2 5 (((er_up (er_up (er_up (er_up σ 16 (er_ix (σ 2 5)) 1) 17 (er_ix (σ 2 5)) x1) 18 (er_ix (σ 2 5)) x2) 19 (er_ix (σ 2 5)) x3) 2 5) + 1)))))))
def ef_E_board (x1 x2 x3 : Int32) (σ : er_S) : Option ((Int32 ⊕ Nat) × er_S) := er_tb (ef_E_requireRange x1 1 6 σ) (fun _ g3 => er_tb (ef_E_requireRange x2 1 10000 g3) (fun _ g6 => er_tb (ef_E_requireRange x3 0 3 g6) (fun _ g9 => er_bd (ef_B_hasRoom g9) (fun v10 => if v10 = 0 then some (.inr 3, g9) else er_bw (ef_B_make x1 x2 x3 g9) (fun v13 g15 => some (.inl (v13), g15))))))
def ef_B_has_17 (t0 : Int32) (σ : er_S) : Option Int32 := er_gd (er_isb t0) (some (t0))
def ef_B_has_16 (σ : er_S) : Option Int32 := ef_B_has_17 0 σ
def ef_B_has (x1 : Int32) (σ : er_S) : Option Int32 := if x1 < 0 then ef_B_has_16 σ else if (σ 2 5) ≤ x1 then ef_B_has_16 σ else ef_B_has_17 1 σ
def ef_E_requireKnown (x0 : Int32) (σ : er_S) : Option ((Unit ⊕ Nat) × er_S) := if x0 = 0 then some (.inr 0, σ) else some (.inl (), σ)
def ef_E_requireBoard (x1 : Int32) (σ : er_S) : Option ((Unit ⊕ Nat) × er_S) := er_bd (ef_B_has x1 σ) (fun v1 => er_tb (ef_E_requireKnown v1 σ) (fun _ g5 => some (.inl (), g5)))
def ef_E_isPerson_15 (t0 : Int32) (σ : er_S) : Option Int32 := er_gd (er_isb t0) (some (t0))
def ef_E_isPerson_14 (σ : er_S) : Option Int32 := ef_E_isPerson_15 0 σ
def ef_E_isPerson (x0 : Int32) (σ : er_S) : Option Int32 := if x0 < 0 then ef_E_isPerson_14 σ else if 40 ≤ x0 then ef_E_isPerson_14 σ else ef_E_isPerson_15 1 σ
def ef_E_requirePerson (x0 : Int32) (σ : er_S) : Option ((Unit ⊕ Nat) × er_S) := er_bd (ef_E_isPerson x0 σ) (fun v1 => er_tb (ef_E_requireKnown v1 σ) (fun _ g5 => some (.inl (), g5)))
def ef_E_requireState (x0 : Int32) (σ : er_S) : Option ((Unit ⊕ Nat) × er_S) := if x0 = 0 then some (.inr 2, σ) else some (.inl (), σ)
def ef_E_requireOpen (x1 : Int32) (σ : er_S) : Option ((Unit ⊕ Nat) × er_S) := er_gd (er_inb x1 8) (er_tb (ef_E_requireState (σ 16 (er_ix x1)) σ) (fun _ g4 => some (.inl (), g4)))
def ef_P_isInside_15 (t0 : Int32) (σ : er_S) : Option Int32 := er_gd (er_isb t0) (some (t0))
def ef_P_isInside (x1 : Int32) (σ : er_S) : Option Int32 := er_gd (er_inb x1 40) (if (σ 5 (er_ix x1)) = (-1) then ef_P_isInside_15 0 σ else ef_P_isInside_15 1 σ)
def ef_E_requireOutside_16 (t0 : Int32) (σ : er_S) : Option ((Unit ⊕ Nat) × er_S) := er_tb (ef_E_requireState t0 σ) (fun _ g6 => some (.inl (), g6))
def ef_E_requireOutside (x1 : Int32) (σ : er_S) : Option ((Unit ⊕ Nat) × er_S) := er_bd (ef_P_isInside x1 σ) (fun v1 => if v1 = 0 then ef_E_requireOutside_16 1 σ else ef_E_requireOutside_16 0 σ)
def ef_E_dropKeeper_27 (x1 : Int32) (σ : er_S) : Option (Unit × er_S) := er_gd (er_inb x1 8) (some ((), er_up σ 20 (er_ix x1) (-1)))
def ef_E_dropKeeper (x1 : Int32) (σ : er_S) : Option (Unit × er_S) := er_gd (er_inb x1 8) (er_bd (ef_E_isPerson (σ 20 (er_ix x1)) σ) (fun v2 => if v2 = 0 then ef_E_dropKeeper_27 x1 σ else er_gd (er_inb (σ 20 (er_ix x1)) 40) (ef_E_dropKeeper_27 x1 (er_up σ 14 (er_ix (σ 20 (er_ix x1))) (-1)))))
def ef_E_keep_37 (x1 x2 t0 : Int32) (σ : er_S) : Option ((Unit ⊕ Nat) × er_S) := er_tb (ef_E_requireState t0 σ) (fun _ g17 => er_bw (ef_E_dropKeeper x1 g17) (fun _ g20 => er_gd (er_inb x1 8) (er_gd (er_inb x2 40) (some (.inl (), er_up (er_up g20 20 (er_ix x1) x2) 14 (er_ix x2) x1)))))
def ef_E_keep (x1 x2 : Int32) (σ : er_S) : Option ((Unit ⊕ Nat) × er_S) := er_tb (ef_E_requireBoard x1 σ) (fun _ g3 => er_tb (ef_E_requirePerson x2 g3) (fun _ g6 => er_tb (ef_E_requireOpen x1 g6) (fun _ g9 => er_tb (ef_E_requireOutside x2 g9) (fun _ g12 => er_gd (er_inb x2 40) (if (g12 14 (er_ix x2)) = (-1) then ef_E_keep_37 x1 x2 1 g12 else ef_E_keep_37 x1 x2 0 g12)))))
def ef_E_right (x1 x2 : Int32) (σ : er_S) : Option ((Unit ⊕ Nat) × er_S) := er_tb (ef_E_requirePerson x1 σ) (fun _ g3 => er_gd (er_inb x1 40) (er_gd (er_isb x2) (some (.inl (), er_up g3 15 (er_ix x1) x2))))
def ef_E_rest (x1 : Int32) (σ : er_S) : Option ((Unit ⊕ Nat) × er_S) := er_tb (ef_E_requireRange x1 0 10000 σ) (fun _ g3 => some (.inl (), er_up g3 0 6 x1))
def ef_E_isPlace_15 (t0 : Int32) (σ : er_S) : Option Int32 := er_gd (er_isb t0) (some (t0))
def ef_E_isPlace_14 (σ : er_S) : Option Int32 := ef_E_isPlace_15 0 σ
def ef_E_isPlace (x0 : Int32) (σ : er_S) : Option Int32 := if x0 < 0 then ef_E_isPlace_14 σ else if 6 ≤ x0 then ef_E_isPlace_14 σ else ef_E_isPlace_15 1 σ
def ef_E_heat (x1 x2 : Int32) (σ : er_S) : Option ((Unit ⊕ Nat) × er_S) := er_bd (ef_E_isPlace x1 σ) (fun v1 => er_tb (ef_E_requireKnown v1 σ) (fun _ g5 => er_tb (ef_E_requireRange x2 0 100 g5) (fun _ g8 => er_gd (er_inb x1 6) (some (.inl (), er_up g8 4 (er_ix x1) x2)))))
def ef_E_requireTeam_15 (t0 : Int32) (σ : er_S) : Option ((Unit ⊕ Nat) × er_S) := er_tb (ef_E_requireKnown t0 σ) (fun _ g4 => some (.inl (), g4))
def ef_E_requireTeam_14 (σ : er_S) : Option ((Unit ⊕ Nat) × er_S) := ef_E_requireTeam_15 0 σ
def ef_E_requireTeam (x0 : Int32) (σ : er_S) : Option ((Unit ⊕ Nat) × er_S) := if x0 < 0 then ef_E_requireTeam_14 σ else if 16 ≤ x0 then ef_E_requireTeam_14 σ else ef_E_requireTeam_15 1 σ
def ef_P_sizeOfTeam_4 : Nat → Int32 → Int32 → Int32 → er_S → Option Int32
  | 0, _, _, _, _ => none
  | n + 1, x1, x2, x3, σ => if 40 ≤ x3 then some (x2) else er_gd (er_inb x3 40) (if (σ 13 (er_ix x3)) = x1 then ef_P_sizeOfTeam_4 n x1 (x2 + 1) (x3 + 1) σ else ef_P_sizeOfTeam_4 n x1 x2 (x3 + 1) σ)
def ef_P_sizeOfTeam (x1 : Int32) (σ : er_S) : Option Int32 := ef_P_sizeOfTeam_4 64 x1 0 0 σ
def ef_E_member_86 (x1 t1 t2 : Int32) (σ : er_S) : Option ((Int32 ⊕ Nat) × er_S) := er_gd (er_inb t1 40) (er_bd (ef_P_sizeOfTeam x1 (er_up σ 13 (er_ix t1) t2)) (fun v19 => some (.inl (v19), er_up σ 13 (er_ix t1) t2)))
def ef_E_member_69 (x1 x2 x3 : Int32) (σ : er_S) : Option ((Int32 ⊕ Nat) × er_S) := if x3 = 0 then ef_E_member_86 x1 x2 (-1) σ else ef_E_member_86 x1 x2 x1 σ
def ef_E_member_34 (x1 x2 x3 t0 : Int32) (σ : er_S) : Option ((Int32 ⊕ Nat) × er_S) := er_tb (ef_E_requireState t0 σ) (fun _ g12 => er_tb (ef_E_requireOutside x2 g12) (fun _ g15 => if x3 = 0 then ef_E_member_69 x1 x2 x3 g15 else er_bd (ef_P_sizeOfTeam x1 g15) (fun v21 => if v21 < 6 then ef_E_member_69 x1 x2 x3 g15 else some (.inr 3, g15))))
def ef_E_member_26 (x1 x2 x3 t0 t1 : Int32) (σ : er_S) : Option ((Int32 ⊕ Nat) × er_S) := if t0 = t1 then ef_E_member_34 x1 x2 x3 1 σ else ef_E_member_34 x1 x2 x3 0 σ
def ef_E_member (x1 x2 x3 : Int32) (σ : er_S) : Option ((Int32 ⊕ Nat) × er_S) := er_tb (ef_E_requireTeam x1 σ) (fun _ g3 => er_tb (ef_E_requirePerson x2 g3) (fun _ g6 => er_gd (er_inb x2 40) (if x3 = 0 then ef_E_member_26 x1 x2 x3 (g6 13 (er_ix x2)) x1 g6 else ef_E_member_26 x1 x2 x3 (g6 13 (er_ix x2)) (-1) g6)))
def ef_P_isFree_33 (t0 : Int32) (σ : er_S) : Option Int32 := er_gd (er_isb t0) (some (t0))
def ef_P_isFree_32 (σ : er_S) : Option Int32 := ef_P_isFree_33 0 σ
def ef_P_isFree (x1 x2 : Int32) (σ : er_S) : Option Int32 := er_bd (ef_P_isInside x1 σ) (fun v1 => if v1 = 0 then er_gd (er_inb x1 40) (if x2 < (σ 10 (er_ix x1)) then ef_P_isFree_32 σ else er_gd (er_inb x1 40) (if (σ 14 (er_ix x1)) = (-1) then ef_P_isFree_33 1 σ else ef_P_isFree_32 σ)) else ef_P_isFree_32 σ)
def ef_P_isTeamReady_53 (t0 : Int32) (σ : er_S) : Option Int32 := er_gd (er_isb t0) (some (t0))
def ef_P_isTeamReady_3 : Nat → Int32 → Int32 → Int32 → Int32 → er_S → Option Int32
  | 0, _, _, _, _, _ => none
  | n + 1, x1, x2, x3, x4, σ => if 40 ≤ x4 then er_bd (ef_P_sizeOfTeam x1 σ) (fun v2 => if v2 < x2 then ef_P_isTeamReady_53 0 σ else ef_P_isTeamReady_53 1 σ) else er_gd (er_inb x4 40) (if (σ 13 (er_ix x4)) = x1 then er_bd (ef_P_isFree x4 x3 σ) (fun v8 => if v8 = 0 then er_gd (er_isb 0) (some (0)) else ef_P_isTeamReady_3 n x1 x2 x3 (x4 + 1) σ) else ef_P_isTeamReady_3 n x1 x2 x3 (x4 + 1) σ)
def ef_P_isTeamReady (x1 x2 x3 : Int32) (σ : er_S) : Option Int32 := ef_P_isTeamReady_3 64 x1 x2 x3 0 σ
def ef_E_isReady (x1 x2 : Int32) (σ : er_S) : Option Int32 := er_gd (er_inb x2 8) (er_bd (ef_P_isTeamReady x1 (σ 17 (er_ix x2)) (σ 0 4) σ) (fun v2 => er_gd (er_isb v2) (some (v2))))
def ef_E_readySafetyTeams_5 : Nat → Int32 → Int32 → Int32 → Int32 → er_S → Option Int32
  | 0, _, _, _, _, _ => none
  | n + 1, x1, x2, x3, x4, σ => if 16 ≤ x4 then some (x3) else if x4 = x2 then ef_E_readySafetyTeams_5 n x1 x2 x3 (x4 + 1) σ else er_gd (er_inb x4 16) (if (σ 3 (er_ix x4)) = x1 then er_bd (ef_E_isReady x4 x1 σ) (fun v5 => if v5 = 0 then ef_E_readySafetyTeams_5 n x1 x2 x3 (x4 + 1) σ else ef_E_readySafetyTeams_5 n x1 x2 (x3 + 1) (x4 + 1) σ) else ef_E_readySafetyTeams_5 n x1 x2 x3 (x4 + 1) σ)
def ef_E_readySafetyTeams (x1 x2 : Int32) (σ : er_S) : Option Int32 := ef_E_readySafetyTeams_5 64 x1 x2 0 0 σ
def ef_E_safety_54 (x1 t1 t2 : Int32) (σ : er_S) : Option ((Int32 ⊕ Nat) × er_S) := er_gd (er_inb t1 16) (er_bd (ef_E_readySafetyTeams x1 (-1) (er_up σ 3 (er_ix t1) t2)) (fun v18 => some (.inl (v18), er_up σ 3 (er_ix t1) t2)))
def ef_E_safety_37 (x1 x2 x3 t0 : Int32) (σ : er_S) : Option ((Int32 ⊕ Nat) × er_S) := er_tb (ef_E_requireState t0 σ) (fun _ g15 => if x3 = 0 then ef_E_safety_54 x1 x2 (-1) g15 else ef_E_safety_54 x1 x2 x1 g15)
def ef_E_safety_29 (x1 x2 x3 t0 t1 : Int32) (σ : er_S) : Option ((Int32 ⊕ Nat) × er_S) := if t0 = t1 then ef_E_safety_37 x1 x2 x3 1 σ else ef_E_safety_37 x1 x2 x3 0 σ
def ef_E_safety (x1 x2 x3 : Int32) (σ : er_S) : Option ((Int32 ⊕ Nat) × er_S) := er_tb (ef_E_requireBoard x1 σ) (fun _ g3 => er_tb (ef_E_requireTeam x2 g3) (fun _ g6 => er_tb (ef_E_requireOpen x1 g6) (fun _ g9 => er_gd (er_inb x2 16) (if x3 = 0 then ef_E_safety_29 x1 x2 x3 (g9 3 (er_ix x2)) x1 g9 else ef_E_safety_29 x1 x2 x3 (g9 3 (er_ix x2)) (-1) g9))))
def ef_E_isCovered_23 (t0 : Int32) (σ : er_S) : Option Int32 := er_gd (er_isb t0) (some (t0))
def ef_E_isCovered (x1 x2 : Int32) (σ : er_S) : Option Int32 := er_bd (ef_E_readySafetyTeams x1 x2 σ) (fun v1 => er_gd (er_inb x1 8) (if v1 < (σ 19 (er_ix x1)) then ef_E_isCovered_23 0 σ else ef_E_isCovered_23 1 σ))
def ef_E_keeperMayLetRescue_34 (t0 : Int32) (σ : er_S) : Option Int32 := er_gd (er_isb t0) (some (t0))
def ef_E_keeperMayLetRescue_33 (σ : er_S) : Option Int32 := ef_E_keeperMayLetRescue_34 0 σ
def ef_E_keeperMayLetRescue (x1 : Int32) (σ : er_S) : Option Int32 := er_gd (er_inb x1 8) (er_bd (ef_E_isPerson (σ 20 (er_ix x1)) σ) (fun v2 => if v2 = 0 then ef_E_keeperMayLetRescue_33 σ else er_gd (er_inb (σ 20 (er_ix x1)) 40) (if (σ 15 (er_ix (σ 20 (er_ix x1)))) = 0 then ef_E_keeperMayLetRescue_33 σ else ef_E_keeperMayLetRescue_34 1 σ)))
def ef_P_setEntry (x1 x2 x3 x4 x5 x6 : Int32) (σ : er_S) : Option (Unit × er_S) := er_gd (er_inb x1 40) (er_gd (er_inb x1 40) (er_gd (er_inb x1 40) (er_gd (er_inb x1 40) (er_gd (er_inb x1 40) (some ((), er_up (er_up (er_up (er_up (er_up σ 5 (er_ix x1) x2) 6 (er_ix x1) x3) 8 (er_ix x1) x4) 7 (er_ix x1) x5) 9 (er_ix x1) x6))))))
def ef_E_enter_97 : Nat → Int32 → Int32 → Int32 → Int32 → Int32 → Int32 → er_S → Option ((Int32 ⊕ Nat) × er_S)
  | 0, _, _, _, _, _, _, _ => none
  | n + 1, x1, x2, x3, x4, x6, x7, σ => if 40 ≤ x7 then some (.inl (x6), σ) else er_gd (er_inb x7 40) (if (σ 13 (er_ix x7)) = x2 then er_bw (ef_P_setEntry x7 x1 (σ 0 5) x3 x4 (σ 0 4) σ) (fun _ g37 => ef_E_enter_97 n x1 x2 x3 x4 x6 (x7 + 1) (er_up g37 0 5 ((g37 0 5) + 1))) else ef_E_enter_97 n x1 x2 x3 x4 x6 (x7 + 1) σ)
def ef_E_enter_85 (x1 x2 x3 x4 t0 : Int32) (σ : er_S) : Option ((Int32 ⊕ Nat) × er_S) := er_tb (ef_E_requireState t0 σ) (fun _ g31 => ef_E_enter_97 64 x1 x2 x3 x4 (g31 0 5) 0 g31)
def ef_E_enter_80 (x1 x2 x3 x4 : Int32) (σ : er_S) : Option ((Int32 ⊕ Nat) × er_S) := ef_E_enter_85 x1 x2 x3 x4 1 σ
def ef_E_enter_84 (x1 x2 x3 x4 : Int32) (σ : er_S) : Option ((Int32 ⊕ Nat) × er_S) := ef_E_enter_85 x1 x2 x3 x4 0 σ
def ef_E_enter_46 (x1 x2 x3 x4 x5 t0 : Int32) (σ : er_S) : Option ((Int32 ⊕ Nat) × er_S) := er_tb (ef_E_requireState t0 σ) (fun _ g20 => er_bd (ef_E_isReady x2 x1 g20) (fun v21 => er_tb (ef_E_requireState v21 g20) (fun _ g25 => er_bd (ef_E_isCovered x1 x2 g25) (fun v26 => if v26 = 0 then if x5 = 0 then ef_E_enter_84 x1 x2 x3 x4 g25 else er_bd (ef_E_keeperMayLetRescue x1 g25) (fun v40 => if v40 = 0 then ef_E_enter_84 x1 x2 x3 x4 g25 else ef_E_enter_80 x1 x2 x3 x4 g25) else ef_E_enter_80 x1 x2 x3 x4 g25))))
def ef_E_enter (x1 x2 x3 x4 x5 : Int32) (σ : er_S) : Option ((Int32 ⊕ Nat) × er_S) := er_tb (ef_E_requireBoard x1 σ) (fun _ g3 => er_tb (ef_E_requireTeam x2 g3) (fun _ g6 => er_tb (ef_E_requireRange x3 0 9 g6) (fun _ g9 => er_tb (ef_E_requireRange x4 0 5 g9) (fun _ g12 => er_tb (ef_E_requireOpen x1 g12) (fun _ g15 => er_gd (er_inb x1 8) (if (g15 20 (er_ix x1)) = (-1) then ef_E_enter_46 x1 x2 x3 x4 x5 0 g15 else ef_E_enter_46 x1 x2 x3 x4 x5 1 g15))))))
def ef_P_comeOut (x1 x2 x3 x4 : Int32) (σ : er_S) : Option (Int32 × er_S) := er_gd (er_inb x1 40) (er_gd (er_inb x1 40) (er_gd (er_inb x1 40) (er_gd (er_inb x1 40) (er_gd (er_inb x1 40) (er_gd (er_inb x1 40) (er_bw (ef_P_setEntry x1 (-1) (-1) (-1) (-1) (-1) (er_up (er_up (er_up σ 11 (er_ix x1) ((σ 11 (er_ix x1)) + (x2 - (σ 9 (er_ix x1))))) 12 (er_ix x1) (((er_up σ 11 (er_ix x1) ((σ 11 (er_ix x1)) + (x2 - (σ 9 (er_ix x1))))) 12 (er_ix x1)) + ((x2 - (σ 9 (er_ix x1))) * x3))) 10 (er_ix x1) (x2 + x4))) (fun _ g9 => some (x2 - (σ 9 (er_ix x1)), g9))))))))
def ef_E_out_57 (x2 t0 : Int32) (σ : er_S) : Option ((Int32 ⊕ Nat) × er_S) := er_bw (ef_P_comeOut x2 (σ 0 4) t0 (σ 0 6) σ) (fun v16 g18 => some (.inl (v16), g18))
def ef_E_out_27 (x2 t0 : Int32) (σ : er_S) : Option ((Int32 ⊕ Nat) × er_S) := er_tb (ef_E_requireState t0 σ) (fun _ g11 => er_gd (er_inb x2 40) (er_bd (ef_E_isPlace (g11 7 (er_ix x2)) g11) (fun v13 => if v13 = 0 then ef_E_out_57 x2 0 g11 else er_gd (er_inb (g11 7 (er_ix x2)) 6) (ef_E_out_57 x2 (g11 4 (er_ix (g11 7 (er_ix x2)))) g11))))
def ef_E_out (x1 x2 : Int32) (σ : er_S) : Option ((Int32 ⊕ Nat) × er_S) := er_tb (ef_E_requireBoard x1 σ) (fun _ g3 => er_tb (ef_E_requirePerson x2 g3) (fun _ g6 => er_gd (er_inb x2 40) (if (g6 5 (er_ix x2)) = x1 then ef_E_out_27 x2 1 g6 else ef_E_out_27 x2 0 g6)))
def ef_E_swap_48 (x1 x2 t0 : Int32) (σ : er_S) : Option ((Unit ⊕ Nat) × er_S) := er_tb (ef_E_requireState t0 σ) (fun _ g16 => er_gd (er_inb x1 40) (er_gd (er_inb x2 40) (er_gd (er_inb x1 40) (er_gd (er_inb x2 40) (some (.inl (), er_up (er_up g16 6 (er_ix x1) (g16 6 (er_ix x2))) 6 (er_ix x2) (g16 6 (er_ix x1))))))))
def ef_E_swap_35 (x1 x2 t0 : Int32) (σ : er_S) : Option ((Unit ⊕ Nat) × er_S) := er_tb (ef_E_requireState t0 σ) (fun _ g12 => if x1 = x2 then ef_E_swap_48 x1 x2 0 g12 else ef_E_swap_48 x1 x2 1 g12)
def ef_E_swap_34 (x1 x2 : Int32) (σ : er_S) : Option ((Unit ⊕ Nat) × er_S) := ef_E_swap_35 x1 x2 0 σ
def ef_E_swap (x1 x2 : Int32) (σ : er_S) : Option ((Unit ⊕ Nat) × er_S) := er_tb (ef_E_requirePerson x1 σ) (fun _ g3 => er_tb (ef_E_requirePerson x2 g3) (fun _ g6 => er_bd (ef_P_isInside x1 g6) (fun v7 => if v7 = 0 then ef_E_swap_34 x1 x2 g6 else er_bd (ef_P_isInside x2 g6) (fun v23 => if v23 = 0 then ef_E_swap_34 x1 x2 g6 else ef_E_swap_35 x1 x2 1 g6))))
def ef_P_moveAll_2 : Nat → Int32 → Int32 → Int32 → er_S → Option (Unit × er_S)
  | 0, _, _, _, _ => none
  | n + 1, x1, x2, x3, σ => if 40 ≤ x3 then some ((), σ) else er_gd (er_inb x3 40) (if (σ 5 (er_ix x3)) = x1 then er_gd (er_inb x3 40) (ef_P_moveAll_2 n x1 x2 (x3 + 1) (er_up σ 5 (er_ix x3) x2)) else ef_P_moveAll_2 n x1 x2 (x3 + 1) σ)
def ef_P_moveAll (x1 x2 : Int32) (σ : er_S) : Option (Unit × er_S) := ef_P_moveAll_2 64 x1 x2 0 σ
def ef_E_shut_17 : Nat → Int32 → Int32 → Int32 → er_S → Option (Unit × er_S)
  | 0, _, _, _, _ => none
  | n + 1, x1, x2, x3, σ => if 16 ≤ x3 then some ((), σ) else er_gd (er_inb x3 16) (if (σ 3 (er_ix x3)) = x1 then er_gd (er_inb x3 16) (ef_E_shut_17 n x1 x2 (x3 + 1) (er_up σ 3 (er_ix x3) x2)) else ef_E_shut_17 n x1 x2 (x3 + 1) σ)
def ef_E_shut (x1 x2 : Int32) (σ : er_S) : Option (Unit × er_S) := er_bw (ef_E_dropKeeper x1 σ) (fun _ g3 => er_gd (er_inb x1 8) (er_gd (er_isb 0) (ef_E_shut_17 64 x1 x2 0 (er_up g3 16 (er_ix x1) 0))))
def ef_P_countOn_4 : Nat → Int32 → Int32 → Int32 → er_S → Option Int32
  | 0, _, _, _, _ => none
  | n + 1, x1, x2, x3, σ => if 40 ≤ x3 then some (x2) else er_gd (er_inb x3 40) (if (σ 5 (er_ix x3)) = x1 then ef_P_countOn_4 n x1 (x2 + 1) (x3 + 1) σ else ef_P_countOn_4 n x1 x2 (x3 + 1) σ)
def ef_P_countOn (x1 : Int32) (σ : er_S) : Option Int32 := ef_P_countOn_4 64 x1 0 0 σ
def ef_E_join_30 (x1 x2 t0 : Int32) (σ : er_S) : Option ((Int32 ⊕ Nat) × er_S) := er_tb (ef_E_requireState t0 σ) (fun _ g16 => er_bw (ef_P_moveAll x1 x2 g16) (fun _ g19 => er_bw (ef_E_shut x1 x2 g19) (fun _ g22 => er_bd (ef_P_countOn x2 g22) (fun v23 => some (.inl (v23), g22)))))
def ef_E_join (x1 x2 : Int32) (σ : er_S) : Option ((Int32 ⊕ Nat) × er_S) := er_tb (ef_E_requireBoard x1 σ) (fun _ g3 => er_tb (ef_E_requireBoard x2 g3) (fun _ g6 => er_tb (ef_E_requireOpen x1 g6) (fun _ g9 => er_tb (ef_E_requireOpen x2 g9) (fun _ g12 => if x1 = x2 then ef_E_join_30 x1 x2 0 g12 else ef_E_join_30 x1 x2 1 g12))))
def ef_E_close_26 (x1 t0 : Int32) (σ : er_S) : Option ((Unit ⊕ Nat) × er_S) := er_tb (ef_E_requireState t0 σ) (fun _ g12 => er_bw (ef_E_shut x1 (-1) g12) (fun _ g15 => some (.inl (), g15)))
def ef_E_close (x1 : Int32) (σ : er_S) : Option ((Unit ⊕ Nat) × er_S) := er_tb (ef_E_requireBoard x1 σ) (fun _ g3 => er_tb (ef_E_requireOpen x1 g3) (fun _ g6 => er_bd (ef_P_countOn x1 g6) (fun v7 => if v7 = 0 then ef_E_close_26 x1 1 g6 else ef_E_close_26 x1 0 g6)))
def ef_E_isLateAt_49 (t0 : Int32) (σ : er_S) : Option Int32 := er_gd (er_isb t0) (some (t0))
def ef_E_isLateAt_48 (σ : er_S) : Option Int32 := ef_E_isLateAt_49 0 σ
def ef_E_isLateAt (x1 x2 : Int32) (σ : er_S) : Option Int32 := er_gd (er_inb x1 40) (er_bd (ef_B_has (σ 5 (er_ix x1)) σ) (fun v2 => if v2 = 0 then ef_E_isLateAt_48 σ else er_gd (er_inb x1 40) (er_gd (er_inb (σ 5 (er_ix x1)) 8) (if (x2 - (σ 9 (er_ix x1))) ≤ (σ 18 (er_ix (σ 5 (er_ix x1)))) then ef_E_isLateAt_48 σ else ef_E_isLateAt_49 1 σ))))
def ef_E_tick_40 : Nat → Int32 → Int32 → Int32 → er_S → Option ((Int32 ⊕ Nat) × er_S)
  | 0, _, _, _, _ => none
  | n + 1, x2, x3, x4, σ => if 40 ≤ x4 then some (.inl (x3), σ) else er_bd (ef_E_isLateAt x4 (σ 0 4) σ) (fun v8 => if v8 = 0 then ef_E_tick_40 n x2 x3 (x4 + 1) σ else er_bd (ef_E_isLateAt x4 x2 σ) (fun v11 => if v11 = 0 then ef_E_tick_40 n x2 (x3 + 1) (x4 + 1) σ else ef_E_tick_40 n x2 x3 (x4 + 1) σ))
def ef_E_tick (x1 : Int32) (σ : er_S) : Option ((Int32 ⊕ Nat) × er_S) := er_tb (ef_E_requireRange x1 1 5000 σ) (fun _ g3 => er_tb (ef_E_requireRange ((g3 0 4) + x1) 0 999999 g3) (fun _ g6 => ef_E_tick_40 64 (g6 0 4) 0 0 (er_up g6 0 4 ((g6 0 4) + x1))))
def ef_E_requireNotNegative (x0 : Int32) (σ : er_S) : Option ((Unit ⊕ Nat) × er_S) := er_tb (ef_E_requireRange x0 0 2147483647 σ) (fun _ g3 => some (.inl (), g3))
def ef_P_nextOn_9 : Nat → Int32 → Int32 → Int32 → Int32 → Int32 → er_S → Option Int32
  | 0, _, _, _, _, _, _ => none
  | n + 1, x1, x2, x3, x4, x5, σ => if 40 ≤ x5 then some (x3) else er_gd (er_inb x5 40) (if (σ 5 (er_ix x5)) = x1 then er_gd (er_inb x5 40) (if (σ 6 (er_ix x5)) ≤ x2 then ef_P_nextOn_9 n x1 x2 x3 x4 (x5 + 1) σ else er_gd (er_inb x5 40) (if x4 ≤ (σ 6 (er_ix x5)) then ef_P_nextOn_9 n x1 x2 x3 x4 (x5 + 1) σ else er_gd (er_inb x5 40) (ef_P_nextOn_9 n x1 x2 x5 (σ 6 (er_ix x5)) (x5 + 1) σ))) else ef_P_nextOn_9 n x1 x2 x3 x4 (x5 + 1) σ)
def ef_P_nextOn (x1 x2 : Int32) (σ : er_S) : Option Int32 := ef_P_nextOn_9 64 x1 x2 (-1) 2147483647 0 σ
def ef_E_on_70 (x4 : Int32) (σ : er_S) : Option ((Int32 ⊕ Nat) × er_S) := some (.inl (x4), σ)
def ef_E_on_30 : Nat → Int32 → Int32 → Int32 → Int32 → er_S → Option ((Int32 ⊕ Nat) × er_S)
  | 0, _, _, _, _, _ => none
  | n + 1, x1, x3, x4, x5, σ => if x3 ≤ x5 then ef_E_on_70 x4 σ else er_bd (ef_E_isPerson x4 σ) (fun v12 => if v12 = 0 then ef_E_on_70 x4 σ else er_gd (er_inb x4 40) (er_bd (ef_P_nextOn x1 (σ 6 (er_ix x4)) σ) (fun v16 => ef_E_on_30 n x1 x3 v16 (x5 + 1) σ)))
def ef_E_on (x1 x2 : Int32) (σ : er_S) : Option ((Int32 ⊕ Nat) × er_S) := er_tb (ef_E_requireBoard x1 σ) (fun _ g3 => er_tb (ef_E_requireNotNegative x2 g3) (fun _ g6 => er_bd (ef_J_min x2 40 g6) (fun v7 => er_bd (ef_P_nextOn x1 (-1) g6) (fun v9 => ef_E_on_30 64 x1 v7 v9 0 g6))))
def ef_E_late_8 : Nat → Int32 → Int32 → Int32 → er_S → Option ((Int32 ⊕ Nat) × er_S)
  | 0, _, _, _, _ => none
  | n + 1, x1, x2, x3, σ => if 40 ≤ x3 then some (.inl ((-1)), σ) else er_bd (ef_E_isLateAt x3 (σ 0 4) σ) (fun v5 => if v5 = 0 then ef_E_late_8 n x1 x2 (x3 + 1) σ else if x2 = x1 then some (.inl (x3), σ) else ef_E_late_8 n x1 (x2 + 1) (x3 + 1) σ)
def ef_E_late (x1 : Int32) (σ : er_S) : Option ((Int32 ⊕ Nat) × er_S) := er_tb (ef_E_requireNotNegative x1 σ) (fun _ g3 => ef_E_late_8 64 x1 0 0 g3)
def ef_E_person (x1 x2 : Int32) (σ : er_S) : Option ((Int32 ⊕ Nat) × er_S) := er_tb (ef_E_requirePerson x1 σ) (fun _ g3 => if x2 = 0 then er_gd (er_inb x1 40) (some (.inl (g3 5 (er_ix x1)), g3)) else if x2 = 1 then er_gd (er_inb x1 40) (some (.inl (g3 6 (er_ix x1)), g3)) else if x2 = 2 then er_gd (er_inb x1 40) (some (.inl (g3 7 (er_ix x1)), g3)) else if x2 = 3 then er_gd (er_inb x1 40) (some (.inl (g3 8 (er_ix x1)), g3)) else if x2 = 4 then er_gd (er_inb x1 40) (some (.inl (g3 9 (er_ix x1)), g3)) else if x2 = 5 then er_gd (er_inb x1 40) (some (.inl (g3 10 (er_ix x1)), g3)) else if x2 = 6 then er_gd (er_inb x1 40) (some (.inl (g3 11 (er_ix x1)), g3)) else if x2 = 7 then er_gd (er_inb x1 40) (some (.inl (g3 12 (er_ix x1)), g3)) else if x2 = 8 then er_gd (er_inb x1 40) (some (.inl (g3 13 (er_ix x1)), g3)) else if x2 = 9 then er_gd (er_inb x1 40) (some (.inl (g3 14 (er_ix x1)), g3)) else some (.inr 0, g3))
def ef_I_rotateLeft (x0 x1 : Int32) (σ : er_S) : Option Int32 := some ((x0 <<< (x1 &&& 31)) ||| ((x0.toUInt32 >>> (Int32.toUInt32 (-x1) &&& Int32.toUInt32 31)).toInt32))
def ef_E_sumOf_83 (x2 : Int32) (σ : er_S) : Option Int32 := some (x2)
def ef_E_sumOf_15 : Nat → Int32 → Int32 → Int32 → Int32 → er_S → Option Int32
  | 0, _, _, _, _, _ => none
  | n + 1, x1, x2, x3, x4, σ => if 40 ≤ x4 then ef_E_sumOf_83 x2 σ else er_bd (ef_E_isPerson x3 σ) (fun v4 => if v4 = 0 then ef_E_sumOf_83 x2 σ else er_gd (er_inb x3 40) (er_bd (ef_I_rotateLeft (x2 ^^^ ((1000 * x3) + ((σ 6 (er_ix x3)) - (σ 6 (er_ix x3)) / 1000 * 1000))) 5 σ) (fun v8 => er_bd (ef_P_nextOn x1 (σ 6 (er_ix x3)) σ) (fun v10 => ef_E_sumOf_15 n x1 (v8 * (-2048144789)) v10 (x4 + 1) σ))))
def ef_E_sumOf (x1 : Int32) (σ : er_S) : Option Int32 := er_bd (ef_P_nextOn x1 (-1) σ) (fun v1 => ef_E_sumOf_15 64 x1 0 v1 0 σ)
def ef_E_boardAt_57 (t0 : Int32) (σ : er_S) : Option ((Int32 ⊕ Nat) × er_S) := some (.inl (t0), σ)
def ef_E_boardAt (x1 x2 : Int32) (σ : er_S) : Option ((Int32 ⊕ Nat) × er_S) := er_tb (ef_E_requireBoard x1 σ) (fun _ g3 => if x2 = 0 then er_gd (er_inb x1 8) (if (g3 16 (er_ix x1)) = 0 then ef_E_boardAt_57 0 g3 else ef_E_boardAt_57 1 g3) else if x2 = 1 then er_gd (er_inb x1 8) (some (.inl (g3 20 (er_ix x1)), g3)) else if x2 = 2 then er_bd (ef_P_countOn x1 g3) (fun v10 => some (.inl (v10), g3)) else if x2 = 3 then er_bd (ef_E_readySafetyTeams x1 (-1) g3) (fun v13 => some (.inl (v13), g3)) else if x2 = 4 then er_bd (ef_E_sumOf x1 g3) (fun v16 => some (.inl (v16), g3)) else some (.inr 0, g3))
def ef_P_countInside (σ : er_S) : Option Int32 := er_bd (ef_P_countOn (-1) σ) (fun v1 => some (40 - v1))
def ef_B_countOpen_4 : Nat → Int32 → Int32 → er_S → Option Int32
  | 0, _, _, _ => none
  | n + 1, x1, x2, σ => if (σ 2 5) ≤ x2 then some (x1) else er_gd (er_inb x2 8) (if (σ 16 (er_ix x2)) = 0 then ef_B_countOpen_4 n x1 (x2 + 1) σ else ef_B_countOpen_4 n (x1 + 1) (x2 + 1) σ)
def ef_B_countOpen (σ : er_S) : Option Int32 := ef_B_countOpen_4 64 0 0 σ
def ef_E_count (x1 : Int32) (σ : er_S) : Option ((Int32 ⊕ Nat) × er_S) := if x1 = 0 then some (.inl (σ 0 4), σ) else if x1 = 1 then er_bd (ef_P_countInside σ) (fun v3 => some (.inl (v3), σ)) else if x1 = 2 then some (.inl (σ 0 5), σ) else if x1 = 3 then er_bd (ef_B_countOpen σ) (fun v7 => some (.inl (v7), σ)) else some (.inr 0, σ)
