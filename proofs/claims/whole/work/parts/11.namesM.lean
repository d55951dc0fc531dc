abbrev y_M_thrown : MethodName := ⟨"EntryRowsModel", "thrown", "()I"⟩
abbrev b_M_thrown : ByteArray := prog_5_method_2_code
abbrev w_M_thrown : Cond := .code y_M_thrown b_M_thrown 1 (some .int)
theorem cal_M_thrown : er_Cal y_M_thrown w_M_thrown 1 0 := ⟨er_mt (i := 600) (by decide +kernel) rfl, er_mt (i := 5) (by decide +kernel) rfl, ⟨by decide, by decide⟩, by decide +kernel, b_M_thrown, (some .int), [], Or.inl rfl⟩
theorem in_M_thrown : Cond.instanceMethod y_M_thrown ∈ er_tbl := er_mt (i := 598) (by decide +kernel) rfl
theorem se_M_thrown : Cond.selects "EntryRowsModel" y_M_thrown y_M_thrown ∈ er_tbl := er_mt (i := 599) (by decide +kernel) rfl
theorem d_M_thrown_0 : decode b_M_thrown 0 = .ok (.aload_n 0, 1) := by decide +kernel
theorem d_M_thrown_1 : decode b_M_thrown 1 = .ok (.getfield 70, 3) := by decide +kernel
theorem d_M_thrown_4 : decode b_M_thrown 4 = .ok (.ireturn, 1) := by decide +kernel
theorem fl_M_70 : er_F "EntryRowsModel" 70 3 0 := ⟨_, er_T3, 22, rfl, by decide, er_i3, rfl, Or.inl (er_mt (i := 530) (by decide +kernel) rfl)⟩
abbrev y_M_throwing : MethodName := ⟨"EntryRowsModel", "throwing", "(ZZZ)Z"⟩
abbrev b_M_throwing : ByteArray := prog_5_method_3_code
abbrev w_M_throwing : Cond := .code y_M_throwing b_M_throwing 4 (some .boolean)
theorem cal_M_throwing : er_Cal y_M_throwing w_M_throwing 4 3 := ⟨er_mt (i := 611) (by decide +kernel) rfl, er_mt (i := 5) (by decide +kernel) rfl, ⟨by decide, by decide⟩, by decide +kernel, b_M_throwing, (some .boolean), [], Or.inl rfl⟩
theorem in_M_throwing : Cond.instanceMethod y_M_throwing ∈ er_tbl := er_mt (i := 610) (by decide +kernel) rfl
theorem se_M_throwing : Cond.selects "EntryRowsModel" y_M_throwing y_M_throwing ∈ er_tbl := er_ms (i := 27) (by decide +kernel) rfl
theorem d_M_throwing_0 : decode b_M_throwing 0 = .ok (.aload_n 0, 1) := by decide +kernel
theorem d_M_throwing_1 : decode b_M_throwing 1 = .ok (.iload_n 1, 1) := by decide +kernel
theorem d_M_throwing_2 : decode b_M_throwing 2 = .ok (.ifCond .eq 7, 3) := by decide +kernel
theorem d_M_throwing_5 : decode b_M_throwing 5 = .ok (.iconst 1, 1) := by decide +kernel
theorem d_M_throwing_6 : decode b_M_throwing 6 = .ok (.goto 20, 3) := by decide +kernel
theorem d_M_throwing_9 : decode b_M_throwing 9 = .ok (.iload_n 2, 1) := by decide +kernel
theorem d_M_throwing_10 : decode b_M_throwing 10 = .ok (.ifCond .eq 7, 3) := by decide +kernel
theorem d_M_throwing_13 : decode b_M_throwing 13 = .ok (.iconst 2, 1) := by decide +kernel
theorem d_M_throwing_14 : decode b_M_throwing 14 = .ok (.goto 12, 3) := by decide +kernel
theorem d_M_throwing_17 : decode b_M_throwing 17 = .ok (.iload_n 3, 1) := by decide +kernel
theorem d_M_throwing_18 : decode b_M_throwing 18 = .ok (.ifCond .eq 7, 3) := by decide +kernel
theorem d_M_throwing_21 : decode b_M_throwing 21 = .ok (.iconst 3, 1) := by decide +kernel
theorem d_M_throwing_22 : decode b_M_throwing 22 = .ok (.goto 4, 3) := by decide +kernel
theorem d_M_throwing_25 : decode b_M_throwing 25 = .ok (.iconst 0, 1) := by decide +kernel
theorem d_M_throwing_26 : decode b_M_throwing 26 = .ok (.putfield 70, 3) := by decide +kernel
theorem d_M_throwing_29 : decode b_M_throwing 29 = .ok (.aload_n 0, 1) := by decide +kernel
theorem d_M_throwing_30 : decode b_M_throwing 30 = .ok (.getfield 70, 3) := by decide +kernel
theorem d_M_throwing_33 : decode b_M_throwing 33 = .ok (.ifCond .le 7, 3) := by decide +kernel
theorem d_M_throwing_36 : decode b_M_throwing 36 = .ok (.iconst 1, 1) := by decide +kernel
theorem d_M_throwing_37 : decode b_M_throwing 37 = .ok (.goto 4, 3) := by decide +kernel
theorem d_M_throwing_40 : decode b_M_throwing 40 = .ok (.iconst 0, 1) := by decide +kernel
theorem d_M_throwing_41 : decode b_M_throwing 41 = .ok (.ireturn, 1) := by decide +kernel
theorem fp_M_70 : er_Fp "EntryRowsModel" 70 3 0 := ⟨_, er_T3, 22, er_ty3, rfl, by decide, er_i3, rfl, er_mt (i := 530) (by decide +kernel) rfl, rfl, by decide +kernel, er_tyok3, er_nm3⟩
abbrev y_M_in : MethodName := ⟨"EntryRowsModel", "in", "(III)Z"⟩
abbrev b_M_in : ByteArray := prog_5_method_4_code
abbrev w_M_in : Cond := .code y_M_in b_M_in 3 (some .boolean)
theorem cal_M_in : er_Cal y_M_in w_M_in 3 3 := ⟨er_mt (i := 607) (by decide +kernel) rfl, er_mt (i := 5) (by decide +kernel) rfl, ⟨by decide, by decide⟩, by decide +kernel, b_M_in, (some .boolean), [], Or.inl rfl⟩
theorem st_M_in : Cond.static y_M_in ∈ er_tbl := er_mt (i := 606) (by decide +kernel) rfl
theorem d_M_in_0 : decode b_M_in 0 = .ok (.iload_n 0, 1) := by decide +kernel
theorem d_M_in_1 : decode b_M_in 1 = .ok (.iload_n 1, 1) := by decide +kernel
theorem d_M_in_2 : decode b_M_in 2 = .ok (.if_icmp .lt 12, 3) := by decide +kernel
theorem d_M_in_5 : decode b_M_in 5 = .ok (.iload_n 0, 1) := by decide +kernel
theorem d_M_in_6 : decode b_M_in 6 = .ok (.iload_n 2, 1) := by decide +kernel
theorem d_M_in_7 : decode b_M_in 7 = .ok (.if_icmp .gt 7, 3) := by decide +kernel
theorem d_M_in_10 : decode b_M_in 10 = .ok (.iconst 1, 1) := by decide +kernel
theorem d_M_in_11 : decode b_M_in 11 = .ok (.goto 4, 3) := by decide +kernel
theorem d_M_in_14 : decode b_M_in 14 = .ok (.iconst 0, 1) := by decide +kernel
theorem d_M_in_15 : decode b_M_in 15 = .ok (.ireturn, 1) := by decide +kernel
abbrev y_M_isPerson : MethodName := ⟨"EntryRowsModel", "isPerson", "(I)Z"⟩
abbrev b_M_isPerson : ByteArray := prog_5_method_5_code
abbrev w_M_isPerson : Cond := .code y_M_isPerson b_M_isPerson 1 (some .boolean)
theorem cal_M_isPerson : er_Cal y_M_isPerson w_M_isPerson 1 1 := ⟨er_mt (i := 622) (by decide +kernel) rfl, er_mt (i := 5) (by decide +kernel) rfl, ⟨by decide, by decide⟩, by decide +kernel, b_M_isPerson, (some .boolean), [], Or.inl rfl⟩
theorem st_M_isPerson : Cond.static y_M_isPerson ∈ er_tbl := er_mt (i := 621) (by decide +kernel) rfl
theorem d_M_isPerson_0 : decode b_M_isPerson 0 = .ok (.iload_n 0, 1) := by decide +kernel
theorem d_M_isPerson_1 : decode b_M_isPerson 1 = .ok (.iconst 0, 1) := by decide +kernel
theorem d_M_isPerson_2 : decode b_M_isPerson 2 = .ok (.bipush 39, 2) := by decide +kernel
theorem d_M_isPerson_4 : decode b_M_isPerson 4 = .ok (.invokestatic 73, 3) := by decide +kernel
theorem d_M_isPerson_7 : decode b_M_isPerson 7 = .ok (.ireturn, 1) := by decide +kernel
theorem lk_M_73 : Cond.methodLink "EntryRowsModel" 73 y_M_in ∈ er_tbl := er_mt (i := 605) (by decide +kernel) rfl
abbrev y_M_isTeam : MethodName := ⟨"EntryRowsModel", "isTeam", "(I)Z"⟩
abbrev b_M_isTeam : ByteArray := prog_5_method_6_code
abbrev w_M_isTeam : Cond := .code y_M_isTeam b_M_isTeam 1 (some .boolean)
theorem cal_M_isTeam : er_Cal y_M_isTeam w_M_isTeam 1 1 := ⟨er_mt (i := 645) (by decide +kernel) rfl, er_mt (i := 5) (by decide +kernel) rfl, ⟨by decide, by decide⟩, by decide +kernel, b_M_isTeam, (some .boolean), [], Or.inl rfl⟩
theorem st_M_isTeam : Cond.static y_M_isTeam ∈ er_tbl := er_mt (i := 644) (by decide +kernel) rfl
theorem d_M_isTeam_0 : decode b_M_isTeam 0 = .ok (.iload_n 0, 1) := by decide +kernel
theorem d_M_isTeam_1 : decode b_M_isTeam 1 = .ok (.iconst 0, 1) := by decide +kernel
theorem d_M_isTeam_2 : decode b_M_isTeam 2 = .ok (.bipush 15, 2) := by decide +kernel
theorem d_M_isTeam_4 : decode b_M_isTeam 4 = .ok (.invokestatic 73, 3) := by decide +kernel
theorem d_M_isTeam_7 : decode b_M_isTeam 7 = .ok (.ireturn, 1) := by decide +kernel
abbrev y_M_isBoard : MethodName := ⟨"EntryRowsModel", "isBoard", "(I)Z"⟩
abbrev b_M_isBoard : ByteArray := prog_5_method_7_code
abbrev w_M_isBoard : Cond := .code y_M_isBoard b_M_isBoard 2 (some .boolean)
theorem cal_M_isBoard : er_Cal y_M_isBoard w_M_isBoard 2 1 := ⟨er_mt (i := 619) (by decide +kernel) rfl, er_mt (i := 5) (by decide +kernel) rfl, ⟨by decide, by decide⟩, by decide +kernel, b_M_isBoard, (some .boolean), [], Or.inl rfl⟩
theorem in_M_isBoard : Cond.instanceMethod y_M_isBoard ∈ er_tbl := er_mt (i := 618) (by decide +kernel) rfl
theorem se_M_isBoard : Cond.selects "EntryRowsModel" y_M_isBoard y_M_isBoard ∈ er_tbl := er_ms (i := 28) (by decide +kernel) rfl
theorem d_M_isBoard_0 : decode b_M_isBoard 0 = .ok (.iload_n 1, 1) := by decide +kernel
theorem d_M_isBoard_1 : decode b_M_isBoard 1 = .ok (.iconst 0, 1) := by decide +kernel
theorem d_M_isBoard_2 : decode b_M_isBoard 2 = .ok (.aload_n 0, 1) := by decide +kernel
theorem d_M_isBoard_3 : decode b_M_isBoard 3 = .ok (.getfield 77, 3) := by decide +kernel
theorem d_M_isBoard_6 : decode b_M_isBoard 6 = .ok (.iconst 1, 1) := by decide +kernel
theorem d_M_isBoard_7 : decode b_M_isBoard 7 = .ok (.isub, 1) := by decide +kernel
theorem d_M_isBoard_8 : decode b_M_isBoard 8 = .ok (.invokestatic 73, 3) := by decide +kernel
theorem d_M_isBoard_11 : decode b_M_isBoard 11 = .ok (.ireturn, 1) := by decide +kernel
theorem fl_M_77 : er_F "EntryRowsModel" 77 3 5 := ⟨_, er_T3, 22, rfl, by decide, er_i3, rfl, Or.inl (er_mt (i := 535) (by decide +kernel) rfl)⟩
abbrev y_M_isShut : MethodName := ⟨"EntryRowsModel", "isShut", "(I)Z"⟩
abbrev b_M_isShut : ByteArray := prog_5_method_8_code
abbrev w_M_isShut : Cond := .code y_M_isShut b_M_isShut 2 (some .boolean)
theorem cal_M_isShut : er_Cal y_M_isShut w_M_isShut 2 1 := ⟨er_mt (i := 681) (by decide +kernel) rfl, er_mt (i := 5) (by decide +kernel) rfl, ⟨by decide, by decide⟩, by decide +kernel, b_M_isShut, (some .boolean), [], Or.inl rfl⟩
theorem in_M_isShut : Cond.instanceMethod y_M_isShut ∈ er_tbl := er_mt (i := 680) (by decide +kernel) rfl
theorem se_M_isShut : Cond.selects "EntryRowsModel" y_M_isShut y_M_isShut ∈ er_tbl := er_ms (i := 33) (by decide +kernel) rfl
theorem d_M_isShut_0 : decode b_M_isShut 0 = .ok (.aload_n 0, 1) := by decide +kernel
theorem d_M_isShut_1 : decode b_M_isShut 1 = .ok (.iload_n 1, 1) := by decide +kernel
theorem d_M_isShut_2 : decode b_M_isShut 2 = .ok (.invokevirtual 80, 3) := by decide +kernel
theorem d_M_isShut_5 : decode b_M_isShut 5 = .ok (.ifCond .eq 16, 3) := by decide +kernel
theorem d_M_isShut_8 : decode b_M_isShut 8 = .ok (.aload_n 0, 1) := by decide +kernel
theorem d_M_isShut_9 : decode b_M_isShut 9 = .ok (.getfield 17, 3) := by decide +kernel
theorem d_M_isShut_12 : decode b_M_isShut 12 = .ok (.iload_n 1, 1) := by decide +kernel
theorem d_M_isShut_13 : decode b_M_isShut 13 = .ok (.baload, 1) := by decide +kernel
theorem d_M_isShut_14 : decode b_M_isShut 14 = .ok (.ifCond .ne 7, 3) := by decide +kernel
theorem d_M_isShut_17 : decode b_M_isShut 17 = .ok (.iconst 1, 1) := by decide +kernel
theorem d_M_isShut_18 : decode b_M_isShut 18 = .ok (.goto 4, 3) := by decide +kernel
theorem d_M_isShut_21 : decode b_M_isShut 21 = .ok (.iconst 0, 1) := by decide +kernel
theorem d_M_isShut_22 : decode b_M_isShut 22 = .ok (.ireturn, 1) := by decide +kernel
theorem lk_M_80 : Cond.methodLink "EntryRowsModel" 80 y_M_isBoard ∈ er_tbl ∨ ∃ host, Cond.methodLinkNest "EntryRowsModel" 80 y_M_isBoard host ∈ er_tbl := Or.inl (er_mt (i := 616) (by decide +kernel) rfl)
theorem fl_M_17 : er_F "EntryRowsModel" 17 3 6 := ⟨_, er_T3, 22, rfl, by decide, er_i3, rfl, Or.inl (er_mt (i := 536) (by decide +kernel) rfl)⟩
abbrev y_M_outside : MethodName := ⟨"EntryRowsModel", "outside", "(I)V"⟩
abbrev b_M_outside : ByteArray := prog_5_method_9_code
abbrev w_M_outside : Cond := .code y_M_outside b_M_outside 2 none
theorem cal_M_outside : er_Cal y_M_outside w_M_outside 2 1 := ⟨er_mt (i := 529) (by decide +kernel) rfl, er_mt (i := 5) (by decide +kernel) rfl, ⟨by decide, by decide⟩, by decide +kernel, b_M_outside, none, [], Or.inl rfl⟩
theorem in_M_outside : Cond.instanceMethod y_M_outside ∈ er_tbl := er_mt (i := 528) (by decide +kernel) rfl
theorem se_M_outside : Cond.selects "EntryRowsModel" y_M_outside y_M_outside ∈ er_tbl := er_ms (i := 26) (by decide +kernel) rfl
theorem d_M_outside_0 : decode b_M_outside 0 = .ok (.aload_n 0, 1) := by decide +kernel
theorem d_M_outside_1 : decode b_M_outside 1 = .ok (.getfield 42, 3) := by decide +kernel
theorem d_M_outside_4 : decode b_M_outside 4 = .ok (.iload_n 1, 1) := by decide +kernel
theorem d_M_outside_5 : decode b_M_outside 5 = .ok (.iconst (-1), 1) := by decide +kernel
theorem d_M_outside_6 : decode b_M_outside 6 = .ok (.iastore, 1) := by decide +kernel
theorem d_M_outside_7 : decode b_M_outside 7 = .ok (.aload_n 0, 1) := by decide +kernel
theorem d_M_outside_8 : decode b_M_outside 8 = .ok (.getfield 45, 3) := by decide +kernel
theorem d_M_outside_11 : decode b_M_outside 11 = .ok (.iload_n 1, 1) := by decide +kernel
theorem d_M_outside_12 : decode b_M_outside 12 = .ok (.iconst (-1), 1) := by decide +kernel
theorem d_M_outside_13 : decode b_M_outside 13 = .ok (.iastore, 1) := by decide +kernel
theorem d_M_outside_14 : decode b_M_outside 14 = .ok (.aload_n 0, 1) := by decide +kernel
theorem d_M_outside_15 : decode b_M_outside 15 = .ok (.getfield 48, 3) := by decide +kernel
theorem d_M_outside_18 : decode b_M_outside 18 = .ok (.iload_n 1, 1) := by decide +kernel
theorem d_M_outside_19 : decode b_M_outside 19 = .ok (.iconst (-1), 1) := by decide +kernel
theorem d_M_outside_20 : decode b_M_outside 20 = .ok (.iastore, 1) := by decide +kernel
theorem d_M_outside_21 : decode b_M_outside 21 = .ok (.aload_n 0, 1) := by decide +kernel
theorem d_M_outside_22 : decode b_M_outside 22 = .ok (.getfield 51, 3) := by decide +kernel
theorem d_M_outside_25 : decode b_M_outside 25 = .ok (.iload_n 1, 1) := by decide +kernel
theorem d_M_outside_26 : decode b_M_outside 26 = .ok (.iconst (-1), 1) := by decide +kernel
theorem d_M_outside_27 : decode b_M_outside 27 = .ok (.iastore, 1) := by decide +kernel
theorem d_M_outside_28 : decode b_M_outside 28 = .ok (.aload_n 0, 1) := by decide +kernel
theorem d_M_outside_29 : decode b_M_outside 29 = .ok (.getfield 54, 3) := by decide +kernel
theorem d_M_outside_32 : decode b_M_outside 32 = .ok (.iload_n 1, 1) := by decide +kernel
theorem d_M_outside_33 : decode b_M_outside 33 = .ok (.iconst (-1), 1) := by decide +kernel
theorem d_M_outside_34 : decode b_M_outside 34 = .ok (.iastore, 1) := by decide +kernel
theorem d_M_outside_35 : decode b_M_outside 35 = .ok (.return_, 1) := by decide +kernel
theorem fl_M_42 : er_F "EntryRowsModel" 42 3 14 := ⟨_, er_T3, 22, rfl, by decide, er_i3, rfl, Or.inl (er_mt (i := 544) (by decide +kernel) rfl)⟩
theorem fl_M_45 : er_F "EntryRowsModel" 45 3 15 := ⟨_, er_T3, 22, rfl, by decide, er_i3, rfl, Or.inl (er_mt (i := 545) (by decide +kernel) rfl)⟩
theorem fl_M_48 : er_F "EntryRowsModel" 48 3 16 := ⟨_, er_T3, 22, rfl, by decide, er_i3, rfl, Or.inl (er_mt (i := 546) (by decide +kernel) rfl)⟩
theorem fl_M_51 : er_F "EntryRowsModel" 51 3 17 := ⟨_, er_T3, 22, rfl, by decide, er_i3, rfl, Or.inl (er_mt (i := 547) (by decide +kernel) rfl)⟩
theorem fl_M_54 : er_F "EntryRowsModel" 54 3 18 := ⟨_, er_T3, 22, rfl, by decide, er_i3, rfl, Or.inl (er_mt (i := 548) (by decide +kernel) rfl)⟩
abbrev y_M_keeps : MethodName := ⟨"EntryRowsModel", "keeps", "(I)I"⟩
abbrev b_M_keeps : ByteArray := prog_5_method_10_code
abbrev w_M_keeps : Cond := .code y_M_keeps b_M_keeps 4 (some .int)
theorem cal_M_keeps : er_Cal y_M_keeps w_M_keeps 4 1 := ⟨er_mt (i := 626) (by decide +kernel) rfl, er_mt (i := 5) (by decide +kernel) rfl, ⟨by decide, by decide⟩, by decide +kernel, b_M_keeps, (some .int), [], Or.inl rfl⟩
theorem in_M_keeps : Cond.instanceMethod y_M_keeps ∈ er_tbl := er_mt (i := 625) (by decide +kernel) rfl
theorem se_M_keeps : Cond.selects "EntryRowsModel" y_M_keeps y_M_keeps ∈ er_tbl := er_ms (i := 29) (by decide +kernel) rfl
theorem d_M_keeps_0 : decode b_M_keeps 0 = .ok (.iconst (-1), 1) := by decide +kernel
theorem d_M_keeps_1 : decode b_M_keeps 1 = .ok (.istore_n 2, 1) := by decide +kernel
theorem d_M_keeps_2 : decode b_M_keeps 2 = .ok (.iconst 0, 1) := by decide +kernel
theorem d_M_keeps_3 : decode b_M_keeps 3 = .ok (.istore_n 3, 1) := by decide +kernel
theorem d_M_keeps_4 : decode b_M_keeps 4 = .ok (.iload_n 3, 1) := by decide +kernel
theorem d_M_keeps_5 : decode b_M_keeps 5 = .ok (.aload_n 0, 1) := by decide +kernel
theorem d_M_keeps_6 : decode b_M_keeps 6 = .ok (.getfield 77, 3) := by decide +kernel
theorem d_M_keeps_9 : decode b_M_keeps 9 = .ok (.if_icmp .ge 25, 3) := by decide +kernel
theorem d_M_keeps_12 : decode b_M_keeps 12 = .ok (.aload_n 0, 1) := by decide +kernel
theorem d_M_keeps_13 : decode b_M_keeps 13 = .ok (.getfield 30, 3) := by decide +kernel
theorem d_M_keeps_16 : decode b_M_keeps 16 = .ok (.iload_n 3, 1) := by decide +kernel
theorem d_M_keeps_17 : decode b_M_keeps 17 = .ok (.iaload, 1) := by decide +kernel
theorem d_M_keeps_18 : decode b_M_keeps 18 = .ok (.iload_n 1, 1) := by decide +kernel
theorem d_M_keeps_19 : decode b_M_keeps 19 = .ok (.if_icmp .ne 7, 3) := by decide +kernel
theorem d_M_keeps_22 : decode b_M_keeps 22 = .ok (.iload_n 3, 1) := by decide +kernel
theorem d_M_keeps_23 : decode b_M_keeps 23 = .ok (.goto 4, 3) := by decide +kernel
theorem d_M_keeps_26 : decode b_M_keeps 26 = .ok (.iload_n 2, 1) := by decide +kernel
theorem d_M_keeps_27 : decode b_M_keeps 27 = .ok (.istore_n 2, 1) := by decide +kernel
theorem d_M_keeps_28 : decode b_M_keeps 28 = .ok (.iinc 3 1, 3) := by decide +kernel
theorem d_M_keeps_31 : decode b_M_keeps 31 = .ok (.goto (-27), 3) := by decide +kernel
theorem d_M_keeps_34 : decode b_M_keeps 34 = .ok (.iload_n 2, 1) := by decide +kernel
theorem d_M_keeps_35 : decode b_M_keeps 35 = .ok (.ireturn, 1) := by decide +kernel
theorem fl_M_30 : er_F "EntryRowsModel" 30 3 10 := ⟨_, er_T3, 22, rfl, by decide, er_i3, rfl, Or.inl (er_mt (i := 540) (by decide +kernel) rfl)⟩
abbrev y_M_board : MethodName := ⟨"EntryRowsModel", "board", "(III)I"⟩
abbrev b_M_board : ByteArray := prog_5_method_11_code
abbrev w_M_board : Cond := .code y_M_board b_M_board 5 (some .int)
theorem cal_M_board : er_Cal y_M_board w_M_board 5 3 := ⟨er_mt (i := 604) (by decide +kernel) rfl, er_mt (i := 5) (by decide +kernel) rfl, ⟨by decide, by decide⟩, by decide +kernel, b_M_board, (some .int), [], Or.inl rfl⟩
theorem in_M_board : Cond.instanceMethod y_M_board ∈ er_tbl := er_mt (i := 602) (by decide +kernel) rfl
theorem se_M_board : Cond.selects "EntryRowsModel" y_M_board y_M_board ∈ er_tbl := er_mt (i := 603) (by decide +kernel) rfl
theorem d_M_board_0 : decode b_M_board 0 = .ok (.iload_n 1, 1) := by decide +kernel
theorem d_M_board_1 : decode b_M_board 1 = .ok (.iconst 1, 1) := by decide +kernel
theorem d_M_board_2 : decode b_M_board 2 = .ok (.bipush 6, 2) := by decide +kernel
theorem d_M_board_4 : decode b_M_board 4 = .ok (.invokestatic 73, 3) := by decide +kernel
theorem d_M_board_7 : decode b_M_board 7 = .ok (.ifCond .eq 23, 3) := by decide +kernel
theorem d_M_board_10 : decode b_M_board 10 = .ok (.iload_n 2, 1) := by decide +kernel
theorem d_M_board_11 : decode b_M_board 11 = .ok (.iconst 1, 1) := by decide +kernel
theorem d_M_board_12 : decode b_M_board 12 = .ok (.sipush 10000, 3) := by decide +kernel
theorem d_M_board_15 : decode b_M_board 15 = .ok (.invokestatic 73, 3) := by decide +kernel
theorem d_M_board_18 : decode b_M_board 18 = .ok (.ifCond .eq 12, 3) := by decide +kernel
theorem d_M_board_21 : decode b_M_board 21 = .ok (.iload_n 3, 1) := by decide +kernel
theorem d_M_board_22 : decode b_M_board 22 = .ok (.iconst 0, 1) := by decide +kernel
theorem d_M_board_23 : decode b_M_board 23 = .ok (.iconst 3, 1) := by decide +kernel
theorem d_M_board_24 : decode b_M_board 24 = .ok (.invokestatic 73, 3) := by decide +kernel
theorem d_M_board_27 : decode b_M_board 27 = .ok (.ifCond .ne 7, 3) := by decide +kernel
theorem d_M_board_30 : decode b_M_board 30 = .ok (.iconst 1, 1) := by decide +kernel
theorem d_M_board_31 : decode b_M_board 31 = .ok (.goto 4, 3) := by decide +kernel
theorem d_M_board_34 : decode b_M_board 34 = .ok (.iconst 0, 1) := by decide +kernel
theorem d_M_board_35 : decode b_M_board 35 = .ok (.istore 4, 2) := by decide +kernel
theorem d_M_board_37 : decode b_M_board 37 = .ok (.aload_n 0, 1) := by decide +kernel
theorem d_M_board_38 : decode b_M_board 38 = .ok (.iload 4, 2) := by decide +kernel
theorem d_M_board_40 : decode b_M_board 40 = .ok (.aload_n 0, 1) := by decide +kernel
theorem d_M_board_41 : decode b_M_board 41 = .ok (.getfield 77, 3) := by decide +kernel
theorem d_M_board_44 : decode b_M_board 44 = .ok (.bipush 8, 2) := by decide +kernel
theorem d_M_board_46 : decode b_M_board 46 = .ok (.if_icmp .ne 7, 3) := by decide +kernel
theorem d_M_board_49 : decode b_M_board 49 = .ok (.iconst 1, 1) := by decide +kernel
theorem d_M_board_50 : decode b_M_board 50 = .ok (.goto 4, 3) := by decide +kernel
theorem d_M_board_53 : decode b_M_board 53 = .ok (.iconst 0, 1) := by decide +kernel
theorem d_M_board_54 : decode b_M_board 54 = .ok (.iconst 0, 1) := by decide +kernel
theorem d_M_board_55 : decode b_M_board 55 = .ok (.invokevirtual 84, 3) := by decide +kernel
theorem d_M_board_58 : decode b_M_board 58 = .ok (.ifCond .eq 5, 3) := by decide +kernel
theorem d_M_board_61 : decode b_M_board 61 = .ok (.iconst 0, 1) := by decide +kernel
theorem d_M_board_62 : decode b_M_board 62 = .ok (.ireturn, 1) := by decide +kernel
theorem d_M_board_63 : decode b_M_board 63 = .ok (.aload_n 0, 1) := by decide +kernel
theorem d_M_board_64 : decode b_M_board 64 = .ok (.getfield 17, 3) := by decide +kernel
theorem d_M_board_67 : decode b_M_board 67 = .ok (.aload_n 0, 1) := by decide +kernel
theorem d_M_board_68 : decode b_M_board 68 = .ok (.getfield 77, 3) := by decide +kernel
theorem d_M_board_71 : decode b_M_board 71 = .ok (.iconst 1, 1) := by decide +kernel
theorem d_M_board_72 : decode b_M_board 72 = .ok (.bastore, 1) := by decide +kernel
theorem d_M_board_73 : decode b_M_board 73 = .ok (.aload_n 0, 1) := by decide +kernel
theorem d_M_board_74 : decode b_M_board 74 = .ok (.getfield 21, 3) := by decide +kernel
theorem d_M_board_77 : decode b_M_board 77 = .ok (.aload_n 0, 1) := by decide +kernel
theorem d_M_board_78 : decode b_M_board 78 = .ok (.getfield 77, 3) := by decide +kernel
theorem d_M_board_81 : decode b_M_board 81 = .ok (.iload_n 1, 1) := by decide +kernel
theorem d_M_board_82 : decode b_M_board 82 = .ok (.iastore, 1) := by decide +kernel
theorem d_M_board_83 : decode b_M_board 83 = .ok (.aload_n 0, 1) := by decide +kernel
theorem d_M_board_84 : decode b_M_board 84 = .ok (.getfield 24, 3) := by decide +kernel
theorem d_M_board_87 : decode b_M_board 87 = .ok (.aload_n 0, 1) := by decide +kernel
theorem d_M_board_88 : decode b_M_board 88 = .ok (.getfield 77, 3) := by decide +kernel
theorem d_M_board_91 : decode b_M_board 91 = .ok (.iload_n 2, 1) := by decide +kernel
theorem d_M_board_92 : decode b_M_board 92 = .ok (.iastore, 1) := by decide +kernel
theorem d_M_board_93 : decode b_M_board 93 = .ok (.aload_n 0, 1) := by decide +kernel
theorem d_M_board_94 : decode b_M_board 94 = .ok (.getfield 27, 3) := by decide +kernel
theorem d_M_board_97 : decode b_M_board 97 = .ok (.aload_n 0, 1) := by decide +kernel
theorem d_M_board_98 : decode b_M_board 98 = .ok (.getfield 77, 3) := by decide +kernel
theorem d_M_board_101 : decode b_M_board 101 = .ok (.iload_n 3, 1) := by decide +kernel
theorem d_M_board_102 : decode b_M_board 102 = .ok (.iastore, 1) := by decide +kernel
theorem d_M_board_103 : decode b_M_board 103 = .ok (.aload_n 0, 1) := by decide +kernel
theorem d_M_board_104 : decode b_M_board 104 = .ok (.getfield 30, 3) := by decide +kernel
theorem d_M_board_107 : decode b_M_board 107 = .ok (.aload_n 0, 1) := by decide +kernel
theorem d_M_board_108 : decode b_M_board 108 = .ok (.getfield 77, 3) := by decide +kernel
theorem d_M_board_111 : decode b_M_board 111 = .ok (.iconst (-1), 1) := by decide +kernel
theorem d_M_board_112 : decode b_M_board 112 = .ok (.iastore, 1) := by decide +kernel
theorem d_M_board_113 : decode b_M_board 113 = .ok (.aload_n 0, 1) := by decide +kernel
theorem d_M_board_114 : decode b_M_board 114 = .ok (.dup, 1) := by decide +kernel
theorem d_M_board_115 : decode b_M_board 115 = .ok (.getfield 77, 3) := by decide +kernel
theorem d_M_board_118 : decode b_M_board 118 = .ok (.iconst 1, 1) := by decide +kernel
theorem d_M_board_119 : decode b_M_board 119 = .ok (.iadd, 1) := by decide +kernel
theorem d_M_board_120 : decode b_M_board 120 = .ok (.putfield 77, 3) := by decide +kernel
theorem d_M_board_123 : decode b_M_board 123 = .ok (.aload_n 0, 1) := by decide +kernel
theorem d_M_board_124 : decode b_M_board 124 = .ok (.getfield 77, 3) := by decide +kernel
theorem d_M_board_127 : decode b_M_board 127 = .ok (.iconst 1, 1) := by decide +kernel
theorem d_M_board_128 : decode b_M_board 128 = .ok (.isub, 1) := by decide +kernel
theorem d_M_board_129 : decode b_M_board 129 = .ok (.ireturn, 1) := by decide +kernel
theorem lk_M_84 : Cond.methodLink "EntryRowsModel" 84 y_M_throwing ∈ er_tbl ∨ ∃ host, Cond.methodLinkNest "EntryRowsModel" 84 y_M_throwing host ∈ er_tbl := Or.inl (er_mt (i := 608) (by decide +kernel) rfl)
theorem fl_M_21 : er_F "EntryRowsModel" 21 3 7 := ⟨_, er_T3, 22, rfl, by decide, er_i3, rfl, Or.inl (er_mt (i := 537) (by decide +kernel) rfl)⟩
theorem fl_M_24 : er_F "EntryRowsModel" 24 3 8 := ⟨_, er_T3, 22, rfl, by decide, er_i3, rfl, Or.inl (er_mt (i := 538) (by decide +kernel) rfl)⟩
theorem fl_M_27 : er_F "EntryRowsModel" 27 3 9 := ⟨_, er_T3, 22, rfl, by decide, er_i3, rfl, Or.inl (er_mt (i := 539) (by decide +kernel) rfl)⟩
theorem fp_M_77 : er_Fp "EntryRowsModel" 77 3 5 := ⟨_, er_T3, 22, er_ty3, rfl, by decide, er_i3, rfl, er_mt (i := 535) (by decide +kernel) rfl, rfl, by decide +kernel, er_tyok3, er_nm3⟩
abbrev y_M_keep : MethodName := ⟨"EntryRowsModel", "keep", "(II)V"⟩
abbrev b_M_keep : ByteArray := prog_5_method_12_code
abbrev w_M_keep : Cond := .code y_M_keep b_M_keep 4 none
theorem cal_M_keep : er_Cal y_M_keep w_M_keep 4 2 := ⟨er_mt (i := 615) (by decide +kernel) rfl, er_mt (i := 5) (by decide +kernel) rfl, ⟨by decide, by decide⟩, by decide +kernel, b_M_keep, none, [], Or.inl rfl⟩
theorem in_M_keep : Cond.instanceMethod y_M_keep ∈ er_tbl := er_mt (i := 613) (by decide +kernel) rfl
theorem se_M_keep : Cond.selects "EntryRowsModel" y_M_keep y_M_keep ∈ er_tbl := er_mt (i := 614) (by decide +kernel) rfl
theorem d_M_keep_0 : decode b_M_keep 0 = .ok (.aload_n 0, 1) := by decide +kernel
theorem d_M_keep_1 : decode b_M_keep 1 = .ok (.iload_n 1, 1) := by decide +kernel
theorem d_M_keep_2 : decode b_M_keep 2 = .ok (.invokevirtual 80, 3) := by decide +kernel
theorem d_M_keep_5 : decode b_M_keep 5 = .ok (.ifCond .eq 10, 3) := by decide +kernel
theorem d_M_keep_8 : decode b_M_keep 8 = .ok (.iload_n 2, 1) := by decide +kernel
theorem d_M_keep_9 : decode b_M_keep 9 = .ok (.invokestatic 88, 3) := by decide +kernel
theorem d_M_keep_12 : decode b_M_keep 12 = .ok (.ifCond .ne 7, 3) := by decide +kernel
theorem d_M_keep_15 : decode b_M_keep 15 = .ok (.iconst 1, 1) := by decide +kernel
theorem d_M_keep_16 : decode b_M_keep 16 = .ok (.goto 4, 3) := by decide +kernel
theorem d_M_keep_19 : decode b_M_keep 19 = .ok (.iconst 0, 1) := by decide +kernel
theorem d_M_keep_20 : decode b_M_keep 20 = .ok (.istore_n 3, 1) := by decide +kernel
theorem d_M_keep_21 : decode b_M_keep 21 = .ok (.aload_n 0, 1) := by decide +kernel
theorem d_M_keep_22 : decode b_M_keep 22 = .ok (.iload_n 3, 1) := by decide +kernel
theorem d_M_keep_23 : decode b_M_keep 23 = .ok (.iload_n 3, 1) := by decide +kernel
theorem d_M_keep_24 : decode b_M_keep 24 = .ok (.ifCond .ne 33, 3) := by decide +kernel
theorem d_M_keep_27 : decode b_M_keep 27 = .ok (.aload_n 0, 1) := by decide +kernel
theorem d_M_keep_28 : decode b_M_keep 28 = .ok (.getfield 17, 3) := by decide +kernel
theorem d_M_keep_31 : decode b_M_keep 31 = .ok (.iload_n 1, 1) := by decide +kernel
theorem d_M_keep_32 : decode b_M_keep 32 = .ok (.baload, 1) := by decide +kernel
theorem d_M_keep_33 : decode b_M_keep 33 = .ok (.ifCond .eq 20, 3) := by decide +kernel
theorem d_M_keep_36 : decode b_M_keep 36 = .ok (.aload_n 0, 1) := by decide +kernel
theorem d_M_keep_37 : decode b_M_keep 37 = .ok (.getfield 42, 3) := by decide +kernel
theorem d_M_keep_40 : decode b_M_keep 40 = .ok (.iload_n 2, 1) := by decide +kernel
theorem d_M_keep_41 : decode b_M_keep 41 = .ok (.iaload, 1) := by decide +kernel
theorem d_M_keep_42 : decode b_M_keep 42 = .ok (.ifCond .ge 11, 3) := by decide +kernel
theorem d_M_keep_45 : decode b_M_keep 45 = .ok (.aload_n 0, 1) := by decide +kernel
theorem d_M_keep_46 : decode b_M_keep 46 = .ok (.iload_n 2, 1) := by decide +kernel
theorem d_M_keep_47 : decode b_M_keep 47 = .ok (.invokevirtual 91, 3) := by decide +kernel
theorem d_M_keep_50 : decode b_M_keep 50 = .ok (.ifCond .lt 7, 3) := by decide +kernel
theorem d_M_keep_53 : decode b_M_keep 53 = .ok (.iconst 1, 1) := by decide +kernel
theorem d_M_keep_54 : decode b_M_keep 54 = .ok (.goto 4, 3) := by decide +kernel
theorem d_M_keep_57 : decode b_M_keep 57 = .ok (.iconst 0, 1) := by decide +kernel
theorem d_M_keep_58 : decode b_M_keep 58 = .ok (.iconst 0, 1) := by decide +kernel
theorem d_M_keep_59 : decode b_M_keep 59 = .ok (.invokevirtual 84, 3) := by decide +kernel
theorem d_M_keep_62 : decode b_M_keep 62 = .ok (.ifCond .eq 4, 3) := by decide +kernel
theorem d_M_keep_65 : decode b_M_keep 65 = .ok (.return_, 1) := by decide +kernel
theorem d_M_keep_66 : decode b_M_keep 66 = .ok (.aload_n 0, 1) := by decide +kernel
theorem d_M_keep_67 : decode b_M_keep 67 = .ok (.getfield 30, 3) := by decide +kernel
theorem d_M_keep_70 : decode b_M_keep 70 = .ok (.iload_n 1, 1) := by decide +kernel
theorem d_M_keep_71 : decode b_M_keep 71 = .ok (.iload_n 2, 1) := by decide +kernel
theorem d_M_keep_72 : decode b_M_keep 72 = .ok (.iastore, 1) := by decide +kernel
theorem d_M_keep_73 : decode b_M_keep 73 = .ok (.return_, 1) := by decide +kernel
theorem lk_M_88 : Cond.methodLink "EntryRowsModel" 88 y_M_isPerson ∈ er_tbl := er_mt (i := 620) (by decide +kernel) rfl
theorem lk_M_91 : Cond.methodLink "EntryRowsModel" 91 y_M_keeps ∈ er_tbl ∨ ∃ host, Cond.methodLinkNest "EntryRowsModel" 91 y_M_keeps host ∈ er_tbl := Or.inl (er_mt (i := 623) (by decide +kernel) rfl)
abbrev y_M_right : MethodName := ⟨"EntryRowsModel", "right", "(IZ)V"⟩
abbrev b_M_right : ByteArray := prog_5_method_13_code
abbrev w_M_right : Cond := .code y_M_right b_M_right 3 none
theorem cal_M_right : er_Cal y_M_right w_M_right 3 2 := ⟨er_mt (i := 630) (by decide +kernel) rfl, er_mt (i := 5) (by decide +kernel) rfl, ⟨by decide, by decide⟩, by decide +kernel, b_M_right, none, [], Or.inl rfl⟩
theorem in_M_right : Cond.instanceMethod y_M_right ∈ er_tbl := er_mt (i := 628) (by decide +kernel) rfl
theorem se_M_right : Cond.selects "EntryRowsModel" y_M_right y_M_right ∈ er_tbl := er_mt (i := 629) (by decide +kernel) rfl
theorem d_M_right_0 : decode b_M_right 0 = .ok (.aload_n 0, 1) := by decide +kernel
theorem d_M_right_1 : decode b_M_right 1 = .ok (.iload_n 1, 1) := by decide +kernel
theorem d_M_right_2 : decode b_M_right 2 = .ok (.invokestatic 88, 3) := by decide +kernel
theorem d_M_right_5 : decode b_M_right 5 = .ok (.ifCond .ne 7, 3) := by decide +kernel
theorem d_M_right_8 : decode b_M_right 8 = .ok (.iconst 1, 1) := by decide +kernel
theorem d_M_right_9 : decode b_M_right 9 = .ok (.goto 4, 3) := by decide +kernel
theorem d_M_right_12 : decode b_M_right 12 = .ok (.iconst 0, 1) := by decide +kernel
theorem d_M_right_13 : decode b_M_right 13 = .ok (.iconst 0, 1) := by decide +kernel
theorem d_M_right_14 : decode b_M_right 14 = .ok (.iconst 0, 1) := by decide +kernel
theorem d_M_right_15 : decode b_M_right 15 = .ok (.invokevirtual 84, 3) := by decide +kernel
theorem d_M_right_18 : decode b_M_right 18 = .ok (.ifCond .eq 4, 3) := by decide +kernel
theorem d_M_right_21 : decode b_M_right 21 = .ok (.return_, 1) := by decide +kernel
theorem d_M_right_22 : decode b_M_right 22 = .ok (.aload_n 0, 1) := by decide +kernel
theorem d_M_right_23 : decode b_M_right 23 = .ok (.getfield 39, 3) := by decide +kernel
theorem d_M_right_26 : decode b_M_right 26 = .ok (.iload_n 1, 1) := by decide +kernel
theorem d_M_right_27 : decode b_M_right 27 = .ok (.iload_n 2, 1) := by decide +kernel
theorem d_M_right_28 : decode b_M_right 28 = .ok (.bastore, 1) := by decide +kernel
theorem d_M_right_29 : decode b_M_right 29 = .ok (.return_, 1) := by decide +kernel
theorem fl_M_39 : er_F "EntryRowsModel" 39 3 13 := ⟨_, er_T3, 22, rfl, by decide, er_i3, rfl, Or.inl (er_mt (i := 543) (by decide +kernel) rfl)⟩
abbrev y_M_rest : MethodName := ⟨"EntryRowsModel", "rest", "(I)V"⟩
abbrev b_M_rest : ByteArray := prog_5_method_14_code
abbrev w_M_rest : Cond := .code y_M_rest b_M_rest 2 none
theorem cal_M_rest : er_Cal y_M_rest w_M_rest 2 1 := ⟨er_mt (i := 634) (by decide +kernel) rfl, er_mt (i := 5) (by decide +kernel) rfl, ⟨by decide, by decide⟩, by decide +kernel, b_M_rest, none, [], Or.inl rfl⟩
theorem in_M_rest : Cond.instanceMethod y_M_rest ∈ er_tbl := er_mt (i := 632) (by decide +kernel) rfl
theorem se_M_rest : Cond.selects "EntryRowsModel" y_M_rest y_M_rest ∈ er_tbl := er_mt (i := 633) (by decide +kernel) rfl
theorem d_M_rest_0 : decode b_M_rest 0 = .ok (.aload_n 0, 1) := by decide +kernel
theorem d_M_rest_1 : decode b_M_rest 1 = .ok (.iload_n 1, 1) := by decide +kernel
theorem d_M_rest_2 : decode b_M_rest 2 = .ok (.iconst 0, 1) := by decide +kernel
theorem d_M_rest_3 : decode b_M_rest 3 = .ok (.sipush 10000, 3) := by decide +kernel
theorem d_M_rest_6 : decode b_M_rest 6 = .ok (.invokestatic 73, 3) := by decide +kernel
theorem d_M_rest_9 : decode b_M_rest 9 = .ok (.ifCond .ne 7, 3) := by decide +kernel
theorem d_M_rest_12 : decode b_M_rest 12 = .ok (.iconst 1, 1) := by decide +kernel
theorem d_M_rest_13 : decode b_M_rest 13 = .ok (.goto 4, 3) := by decide +kernel
theorem d_M_rest_16 : decode b_M_rest 16 = .ok (.iconst 0, 1) := by decide +kernel
theorem d_M_rest_17 : decode b_M_rest 17 = .ok (.iconst 0, 1) := by decide +kernel
theorem d_M_rest_18 : decode b_M_rest 18 = .ok (.iconst 0, 1) := by decide +kernel
theorem d_M_rest_19 : decode b_M_rest 19 = .ok (.invokevirtual 84, 3) := by decide +kernel
theorem d_M_rest_22 : decode b_M_rest 22 = .ok (.ifCond .eq 4, 3) := by decide +kernel
theorem d_M_rest_25 : decode b_M_rest 25 = .ok (.return_, 1) := by decide +kernel
theorem d_M_rest_26 : decode b_M_rest 26 = .ok (.aload_n 0, 1) := by decide +kernel
theorem d_M_rest_27 : decode b_M_rest 27 = .ok (.iload_n 1, 1) := by decide +kernel
theorem d_M_rest_28 : decode b_M_rest 28 = .ok (.putfield 7, 3) := by decide +kernel
theorem d_M_rest_31 : decode b_M_rest 31 = .ok (.return_, 1) := by decide +kernel
theorem fp_M_7 : er_Fp "EntryRowsModel" 7 3 2 := ⟨_, er_T3, 22, er_ty3, rfl, by decide, er_i3, rfl, er_mt (i := 532) (by decide +kernel) rfl, rfl, by decide +kernel, er_tyok3, er_nm3⟩
abbrev y_M_heat : MethodName := ⟨"EntryRowsModel", "heat", "(II)V"⟩
abbrev b_M_heat : ByteArray := prog_5_method_15_code
abbrev w_M_heat : Cond := .code y_M_heat b_M_heat 3 none
theorem cal_M_heat : er_Cal y_M_heat w_M_heat 3 2 := ⟨er_mt (i := 638) (by decide +kernel) rfl, er_mt (i := 5) (by decide +kernel) rfl, ⟨by decide, by decide⟩, by decide +kernel, b_M_heat, none, [], Or.inl rfl⟩
theorem in_M_heat : Cond.instanceMethod y_M_heat ∈ er_tbl := er_mt (i := 636) (by decide +kernel) rfl
theorem se_M_heat : Cond.selects "EntryRowsModel" y_M_heat y_M_heat ∈ er_tbl := er_mt (i := 637) (by decide +kernel) rfl
theorem d_M_heat_0 : decode b_M_heat 0 = .ok (.aload_n 0, 1) := by decide +kernel
theorem d_M_heat_1 : decode b_M_heat 1 = .ok (.iload_n 1, 1) := by decide +kernel
theorem d_M_heat_2 : decode b_M_heat 2 = .ok (.iconst 0, 1) := by decide +kernel
theorem d_M_heat_3 : decode b_M_heat 3 = .ok (.iconst 5, 1) := by decide +kernel
theorem d_M_heat_4 : decode b_M_heat 4 = .ok (.invokestatic 73, 3) := by decide +kernel
theorem d_M_heat_7 : decode b_M_heat 7 = .ok (.ifCond .ne 7, 3) := by decide +kernel
theorem d_M_heat_10 : decode b_M_heat 10 = .ok (.iconst 1, 1) := by decide +kernel
theorem d_M_heat_11 : decode b_M_heat 11 = .ok (.goto 4, 3) := by decide +kernel
theorem d_M_heat_14 : decode b_M_heat 14 = .ok (.iconst 0, 1) := by decide +kernel
theorem d_M_heat_15 : decode b_M_heat 15 = .ok (.iload_n 2, 1) := by decide +kernel
theorem d_M_heat_16 : decode b_M_heat 16 = .ok (.iconst 0, 1) := by decide +kernel
theorem d_M_heat_17 : decode b_M_heat 17 = .ok (.bipush 100, 2) := by decide +kernel
theorem d_M_heat_19 : decode b_M_heat 19 = .ok (.invokestatic 73, 3) := by decide +kernel
theorem d_M_heat_22 : decode b_M_heat 22 = .ok (.ifCond .ne 7, 3) := by decide +kernel
theorem d_M_heat_25 : decode b_M_heat 25 = .ok (.iconst 1, 1) := by decide +kernel
theorem d_M_heat_26 : decode b_M_heat 26 = .ok (.goto 4, 3) := by decide +kernel
theorem d_M_heat_29 : decode b_M_heat 29 = .ok (.iconst 0, 1) := by decide +kernel
theorem d_M_heat_30 : decode b_M_heat 30 = .ok (.iconst 0, 1) := by decide +kernel
theorem d_M_heat_31 : decode b_M_heat 31 = .ok (.invokevirtual 84, 3) := by decide +kernel
theorem d_M_heat_34 : decode b_M_heat 34 = .ok (.ifCond .eq 4, 3) := by decide +kernel
theorem d_M_heat_37 : decode b_M_heat 37 = .ok (.return_, 1) := by decide +kernel
theorem d_M_heat_38 : decode b_M_heat 38 = .ok (.aload_n 0, 1) := by decide +kernel
theorem d_M_heat_39 : decode b_M_heat 39 = .ok (.getfield 13, 3) := by decide +kernel
theorem d_M_heat_42 : decode b_M_heat 42 = .ok (.iload_n 1, 1) := by decide +kernel
theorem d_M_heat_43 : decode b_M_heat 43 = .ok (.iload_n 2, 1) := by decide +kernel
theorem d_M_heat_44 : decode b_M_heat 44 = .ok (.iastore, 1) := by decide +kernel
theorem d_M_heat_45 : decode b_M_heat 45 = .ok (.return_, 1) := by decide +kernel
theorem fl_M_13 : er_F "EntryRowsModel" 13 3 4 := ⟨_, er_T3, 22, rfl, by decide, er_i3, rfl, Or.inl (er_mt (i := 534) (by decide +kernel) rfl)⟩
abbrev y_M_sizeOf : MethodName := ⟨"EntryRowsModel", "sizeOf", "(I)I"⟩
abbrev b_M_sizeOf : ByteArray := prog_5_method_16_code
abbrev w_M_sizeOf : Cond := .code y_M_sizeOf b_M_sizeOf 4 (some .int)
theorem cal_M_sizeOf : er_Cal y_M_sizeOf w_M_sizeOf 4 1 := ⟨er_mt (i := 649) (by decide +kernel) rfl, er_mt (i := 5) (by decide +kernel) rfl, ⟨by decide, by decide⟩, by decide +kernel, b_M_sizeOf, (some .int), [], Or.inl rfl⟩
theorem in_M_sizeOf : Cond.instanceMethod y_M_sizeOf ∈ er_tbl := er_mt (i := 648) (by decide +kernel) rfl
theorem se_M_sizeOf : Cond.selects "EntryRowsModel" y_M_sizeOf y_M_sizeOf ∈ er_tbl := er_ms (i := 30) (by decide +kernel) rfl
theorem d_M_sizeOf_0 : decode b_M_sizeOf 0 = .ok (.iconst 0, 1) := by decide +kernel
theorem d_M_sizeOf_1 : decode b_M_sizeOf 1 = .ok (.istore_n 2, 1) := by decide +kernel
theorem d_M_sizeOf_2 : decode b_M_sizeOf 2 = .ok (.iconst 0, 1) := by decide +kernel
theorem d_M_sizeOf_3 : decode b_M_sizeOf 3 = .ok (.istore_n 3, 1) := by decide +kernel
theorem d_M_sizeOf_4 : decode b_M_sizeOf 4 = .ok (.iload_n 3, 1) := by decide +kernel
theorem d_M_sizeOf_5 : decode b_M_sizeOf 5 = .ok (.bipush 40, 2) := by decide +kernel
theorem d_M_sizeOf_7 : decode b_M_sizeOf 7 = .ok (.if_icmp .ge 27, 3) := by decide +kernel
theorem d_M_sizeOf_10 : decode b_M_sizeOf 10 = .ok (.iload_n 2, 1) := by decide +kernel
theorem d_M_sizeOf_11 : decode b_M_sizeOf 11 = .ok (.aload_n 0, 1) := by decide +kernel
theorem d_M_sizeOf_12 : decode b_M_sizeOf 12 = .ok (.getfield 36, 3) := by decide +kernel
theorem d_M_sizeOf_15 : decode b_M_sizeOf 15 = .ok (.iload_n 3, 1) := by decide +kernel
theorem d_M_sizeOf_16 : decode b_M_sizeOf 16 = .ok (.iaload, 1) := by decide +kernel
theorem d_M_sizeOf_17 : decode b_M_sizeOf 17 = .ok (.iload_n 1, 1) := by decide +kernel
theorem d_M_sizeOf_18 : decode b_M_sizeOf 18 = .ok (.if_icmp .ne 7, 3) := by decide +kernel
theorem d_M_sizeOf_21 : decode b_M_sizeOf 21 = .ok (.iconst 1, 1) := by decide +kernel
theorem d_M_sizeOf_22 : decode b_M_sizeOf 22 = .ok (.goto 4, 3) := by decide +kernel
theorem d_M_sizeOf_25 : decode b_M_sizeOf 25 = .ok (.iconst 0, 1) := by decide +kernel
theorem d_M_sizeOf_26 : decode b_M_sizeOf 26 = .ok (.iadd, 1) := by decide +kernel
theorem d_M_sizeOf_27 : decode b_M_sizeOf 27 = .ok (.istore_n 2, 1) := by decide +kernel
theorem d_M_sizeOf_28 : decode b_M_sizeOf 28 = .ok (.iinc 3 1, 3) := by decide +kernel
theorem d_M_sizeOf_31 : decode b_M_sizeOf 31 = .ok (.goto (-27), 3) := by decide +kernel
theorem d_M_sizeOf_34 : decode b_M_sizeOf 34 = .ok (.iload_n 2, 1) := by decide +kernel
theorem d_M_sizeOf_35 : decode b_M_sizeOf 35 = .ok (.ireturn, 1) := by decide +kernel
theorem fl_M_36 : er_F "EntryRowsModel" 36 3 12 := ⟨_, er_T3, 22, rfl, by decide, er_i3, rfl, Or.inl (er_mt (i := 542) (by decide +kernel) rfl)⟩
abbrev y_M_member : MethodName := ⟨"EntryRowsModel", "member", "(IIZ)I"⟩
abbrev b_M_member : ByteArray := prog_5_method_17_code
abbrev w_M_member : Cond := .code y_M_member b_M_member 6 (some .int)
theorem cal_M_member : er_Cal y_M_member w_M_member 6 3 := ⟨er_mt (i := 642) (by decide +kernel) rfl, er_mt (i := 5) (by decide +kernel) rfl, ⟨by decide, by decide⟩, by decide +kernel, b_M_member, (some .int), [], Or.inl rfl⟩
theorem in_M_member : Cond.instanceMethod y_M_member ∈ er_tbl := er_mt (i := 640) (by decide +kernel) rfl
theorem se_M_member : Cond.selects "EntryRowsModel" y_M_member y_M_member ∈ er_tbl := er_mt (i := 641) (by decide +kernel) rfl
theorem d_M_member_0 : decode b_M_member 0 = .ok (.iload_n 1, 1) := by decide +kernel
theorem d_M_member_1 : decode b_M_member 1 = .ok (.invokestatic 95, 3) := by decide +kernel
theorem d_M_member_4 : decode b_M_member 4 = .ok (.ifCond .eq 10, 3) := by decide +kernel
theorem d_M_member_7 : decode b_M_member 7 = .ok (.iload_n 2, 1) := by decide +kernel
theorem d_M_member_8 : decode b_M_member 8 = .ok (.invokestatic 88, 3) := by decide +kernel
theorem d_M_member_11 : decode b_M_member 11 = .ok (.ifCond .ne 7, 3) := by decide +kernel
theorem d_M_member_14 : decode b_M_member 14 = .ok (.iconst 1, 1) := by decide +kernel
theorem d_M_member_15 : decode b_M_member 15 = .ok (.goto 4, 3) := by decide +kernel
theorem d_M_member_18 : decode b_M_member 18 = .ok (.iconst 0, 1) := by decide +kernel
theorem d_M_member_19 : decode b_M_member 19 = .ok (.istore 4, 2) := by decide +kernel
theorem d_M_member_21 : decode b_M_member 21 = .ok (.iload 4, 2) := by decide +kernel
theorem d_M_member_23 : decode b_M_member 23 = .ok (.ifCond .ne 42, 3) := by decide +kernel
theorem d_M_member_26 : decode b_M_member 26 = .ok (.aload_n 0, 1) := by decide +kernel
theorem d_M_member_27 : decode b_M_member 27 = .ok (.getfield 42, 3) := by decide +kernel
theorem d_M_member_30 : decode b_M_member 30 = .ok (.iload_n 2, 1) := by decide +kernel
theorem d_M_member_31 : decode b_M_member 31 = .ok (.iaload, 1) := by decide +kernel
theorem d_M_member_32 : decode b_M_member 32 = .ok (.ifCond .ge 29, 3) := by decide +kernel
theorem d_M_member_35 : decode b_M_member 35 = .ok (.iload_n 3, 1) := by decide +kernel
theorem d_M_member_36 : decode b_M_member 36 = .ok (.ifCond .eq 15, 3) := by decide +kernel
theorem d_M_member_39 : decode b_M_member 39 = .ok (.aload_n 0, 1) := by decide +kernel
theorem d_M_member_40 : decode b_M_member 40 = .ok (.getfield 36, 3) := by decide +kernel
theorem d_M_member_43 : decode b_M_member 43 = .ok (.iload_n 2, 1) := by decide +kernel
theorem d_M_member_44 : decode b_M_member 44 = .ok (.iaload, 1) := by decide +kernel
theorem d_M_member_45 : decode b_M_member 45 = .ok (.ifCond .lt 20, 3) := by decide +kernel
theorem d_M_member_48 : decode b_M_member 48 = .ok (.goto 13, 3) := by decide +kernel
theorem d_M_member_51 : decode b_M_member 51 = .ok (.aload_n 0, 1) := by decide +kernel
theorem d_M_member_52 : decode b_M_member 52 = .ok (.getfield 36, 3) := by decide +kernel
theorem d_M_member_55 : decode b_M_member 55 = .ok (.iload_n 2, 1) := by decide +kernel
theorem d_M_member_56 : decode b_M_member 56 = .ok (.iaload, 1) := by decide +kernel
theorem d_M_member_57 : decode b_M_member 57 = .ok (.iload_n 1, 1) := by decide +kernel
theorem d_M_member_58 : decode b_M_member 58 = .ok (.if_icmp .eq 7, 3) := by decide +kernel
theorem d_M_member_61 : decode b_M_member 61 = .ok (.iconst 1, 1) := by decide +kernel
theorem d_M_member_62 : decode b_M_member 62 = .ok (.goto 4, 3) := by decide +kernel
theorem d_M_member_65 : decode b_M_member 65 = .ok (.iconst 0, 1) := by decide +kernel
theorem d_M_member_66 : decode b_M_member 66 = .ok (.istore 5, 2) := by decide +kernel
theorem d_M_member_68 : decode b_M_member 68 = .ok (.aload_n 0, 1) := by decide +kernel
theorem d_M_member_69 : decode b_M_member 69 = .ok (.iload 4, 2) := by decide +kernel
theorem d_M_member_71 : decode b_M_member 71 = .ok (.iload 5, 2) := by decide +kernel
theorem d_M_member_73 : decode b_M_member 73 = .ok (.iload 4, 2) := by decide +kernel
theorem d_M_member_75 : decode b_M_member 75 = .ok (.ifCond .ne 21, 3) := by decide +kernel
theorem d_M_member_78 : decode b_M_member 78 = .ok (.iload_n 3, 1) := by decide +kernel
theorem d_M_member_79 : decode b_M_member 79 = .ok (.ifCond .eq 17, 3) := by decide +kernel
theorem d_M_member_82 : decode b_M_member 82 = .ok (.aload_n 0, 1) := by decide +kernel
theorem d_M_member_83 : decode b_M_member 83 = .ok (.iload_n 1, 1) := by decide +kernel
theorem d_M_member_84 : decode b_M_member 84 = .ok (.invokevirtual 98, 3) := by decide +kernel
theorem d_M_member_87 : decode b_M_member 87 = .ok (.bipush 6, 2) := by decide +kernel
theorem d_M_member_89 : decode b_M_member 89 = .ok (.if_icmp .ne 7, 3) := by decide +kernel
theorem d_M_member_92 : decode b_M_member 92 = .ok (.iconst 1, 1) := by decide +kernel
theorem d_M_member_93 : decode b_M_member 93 = .ok (.goto 4, 3) := by decide +kernel
theorem d_M_member_96 : decode b_M_member 96 = .ok (.iconst 0, 1) := by decide +kernel
theorem d_M_member_97 : decode b_M_member 97 = .ok (.invokevirtual 84, 3) := by decide +kernel
theorem d_M_member_100 : decode b_M_member 100 = .ok (.ifCond .eq 5, 3) := by decide +kernel
theorem d_M_member_103 : decode b_M_member 103 = .ok (.iconst 0, 1) := by decide +kernel
theorem d_M_member_104 : decode b_M_member 104 = .ok (.ireturn, 1) := by decide +kernel
theorem d_M_member_105 : decode b_M_member 105 = .ok (.aload_n 0, 1) := by decide +kernel
theorem d_M_member_106 : decode b_M_member 106 = .ok (.getfield 36, 3) := by decide +kernel
theorem d_M_member_109 : decode b_M_member 109 = .ok (.iload_n 2, 1) := by decide +kernel
theorem d_M_member_110 : decode b_M_member 110 = .ok (.iload_n 3, 1) := by decide +kernel
theorem d_M_member_111 : decode b_M_member 111 = .ok (.ifCond .eq 7, 3) := by decide +kernel
theorem d_M_member_114 : decode b_M_member 114 = .ok (.iload_n 1, 1) := by decide +kernel
theorem d_M_member_115 : decode b_M_member 115 = .ok (.goto 4, 3) := by decide +kernel
theorem d_M_member_118 : decode b_M_member 118 = .ok (.iconst (-1), 1) := by decide +kernel
theorem d_M_member_119 : decode b_M_member 119 = .ok (.iastore, 1) := by decide +kernel
theorem d_M_member_120 : decode b_M_member 120 = .ok (.aload_n 0, 1) := by decide +kernel
theorem d_M_member_121 : decode b_M_member 121 = .ok (.iload_n 1, 1) := by decide +kernel
theorem d_M_member_122 : decode b_M_member 122 = .ok (.invokevirtual 98, 3) := by decide +kernel
theorem d_M_member_125 : decode b_M_member 125 = .ok (.ireturn, 1) := by decide +kernel
theorem lk_M_95 : Cond.methodLink "EntryRowsModel" 95 y_M_isTeam ∈ er_tbl := er_mt (i := 643) (by decide +kernel) rfl
theorem lk_M_98 : Cond.methodLink "EntryRowsModel" 98 y_M_sizeOf ∈ er_tbl ∨ ∃ host, Cond.methodLinkNest "EntryRowsModel" 98 y_M_sizeOf host ∈ er_tbl := Or.inl (er_mt (i := 646) (by decide +kernel) rfl)
abbrev y_M_isReady : MethodName := ⟨"EntryRowsModel", "isReady", "(II)Z"⟩
abbrev b_M_isReady : ByteArray := prog_5_method_18_code
abbrev w_M_isReady : Cond := .code y_M_isReady b_M_isReady 5 (some .boolean)
theorem cal_M_isReady : er_Cal y_M_isReady w_M_isReady 5 2 := ⟨er_mt (i := 661) (by decide +kernel) rfl, er_mt (i := 5) (by decide +kernel) rfl, ⟨by decide, by decide⟩, by decide +kernel, b_M_isReady, (some .boolean), [], Or.inl rfl⟩
theorem in_M_isReady : Cond.instanceMethod y_M_isReady ∈ er_tbl := er_mt (i := 660) (by decide +kernel) rfl
theorem se_M_isReady : Cond.selects "EntryRowsModel" y_M_isReady y_M_isReady ∈ er_tbl := er_ms (i := 32) (by decide +kernel) rfl
theorem d_M_isReady_0 : decode b_M_isReady 0 = .ok (.aload_n 0, 1) := by decide +kernel
theorem d_M_isReady_1 : decode b_M_isReady 1 = .ok (.iload_n 1, 1) := by decide +kernel
theorem d_M_isReady_2 : decode b_M_isReady 2 = .ok (.invokevirtual 98, 3) := by decide +kernel
theorem d_M_isReady_5 : decode b_M_isReady 5 = .ok (.aload_n 0, 1) := by decide +kernel
theorem d_M_isReady_6 : decode b_M_isReady 6 = .ok (.getfield 21, 3) := by decide +kernel
theorem d_M_isReady_9 : decode b_M_isReady 9 = .ok (.iload_n 2, 1) := by decide +kernel
theorem d_M_isReady_10 : decode b_M_isReady 10 = .ok (.iaload, 1) := by decide +kernel
theorem d_M_isReady_11 : decode b_M_isReady 11 = .ok (.if_icmp .lt 7, 3) := by decide +kernel
theorem d_M_isReady_14 : decode b_M_isReady 14 = .ok (.iconst 1, 1) := by decide +kernel
theorem d_M_isReady_15 : decode b_M_isReady 15 = .ok (.goto 4, 3) := by decide +kernel
theorem d_M_isReady_18 : decode b_M_isReady 18 = .ok (.iconst 0, 1) := by decide +kernel
theorem d_M_isReady_19 : decode b_M_isReady 19 = .ok (.istore_n 3, 1) := by decide +kernel
theorem d_M_isReady_20 : decode b_M_isReady 20 = .ok (.iconst 0, 1) := by decide +kernel
theorem d_M_isReady_21 : decode b_M_isReady 21 = .ok (.istore 4, 2) := by decide +kernel
theorem d_M_isReady_23 : decode b_M_isReady 23 = .ok (.iload 4, 2) := by decide +kernel
theorem d_M_isReady_25 : decode b_M_isReady 25 = .ok (.bipush 40, 2) := by decide +kernel
theorem d_M_isReady_27 : decode b_M_isReady 27 = .ok (.if_icmp .ge 55, 3) := by decide +kernel
theorem d_M_isReady_30 : decode b_M_isReady 30 = .ok (.aload_n 0, 1) := by decide +kernel
theorem d_M_isReady_31 : decode b_M_isReady 31 = .ok (.getfield 36, 3) := by decide +kernel
theorem d_M_isReady_34 : decode b_M_isReady 34 = .ok (.iload 4, 2) := by decide +kernel
theorem d_M_isReady_36 : decode b_M_isReady 36 = .ok (.iaload, 1) := by decide +kernel
theorem d_M_isReady_37 : decode b_M_isReady 37 = .ok (.iload_n 1, 1) := by decide +kernel
theorem d_M_isReady_38 : decode b_M_isReady 38 = .ok (.if_icmp .ne 38, 3) := by decide +kernel
theorem d_M_isReady_41 : decode b_M_isReady 41 = .ok (.aload_n 0, 1) := by decide +kernel
theorem d_M_isReady_42 : decode b_M_isReady 42 = .ok (.getfield 42, 3) := by decide +kernel
theorem d_M_isReady_45 : decode b_M_isReady 45 = .ok (.iload 4, 2) := by decide +kernel
theorem d_M_isReady_47 : decode b_M_isReady 47 = .ok (.iaload, 1) := by decide +kernel
theorem d_M_isReady_48 : decode b_M_isReady 48 = .ok (.ifCond .ge 26, 3) := by decide +kernel
theorem d_M_isReady_51 : decode b_M_isReady 51 = .ok (.aload_n 0, 1) := by decide +kernel
theorem d_M_isReady_52 : decode b_M_isReady 52 = .ok (.getfield 101, 3) := by decide +kernel
theorem d_M_isReady_55 : decode b_M_isReady 55 = .ok (.aload_n 0, 1) := by decide +kernel
theorem d_M_isReady_56 : decode b_M_isReady 56 = .ok (.getfield 57, 3) := by decide +kernel
theorem d_M_isReady_59 : decode b_M_isReady 59 = .ok (.iload 4, 2) := by decide +kernel
theorem d_M_isReady_61 : decode b_M_isReady 61 = .ok (.iaload, 1) := by decide +kernel
theorem d_M_isReady_62 : decode b_M_isReady 62 = .ok (.if_icmp .lt 12, 3) := by decide +kernel
theorem d_M_isReady_65 : decode b_M_isReady 65 = .ok (.aload_n 0, 1) := by decide +kernel
theorem d_M_isReady_66 : decode b_M_isReady 66 = .ok (.iload 4, 2) := by decide +kernel
theorem d_M_isReady_68 : decode b_M_isReady 68 = .ok (.invokevirtual 91, 3) := by decide +kernel
theorem d_M_isReady_71 : decode b_M_isReady 71 = .ok (.ifCond .lt 5, 3) := by decide +kernel
theorem d_M_isReady_74 : decode b_M_isReady 74 = .ok (.iconst 0, 1) := by decide +kernel
theorem d_M_isReady_75 : decode b_M_isReady 75 = .ok (.istore_n 3, 1) := by decide +kernel
theorem d_M_isReady_76 : decode b_M_isReady 76 = .ok (.iinc 4 1, 3) := by decide +kernel
theorem d_M_isReady_79 : decode b_M_isReady 79 = .ok (.goto (-56), 3) := by decide +kernel
theorem d_M_isReady_82 : decode b_M_isReady 82 = .ok (.iload_n 3, 1) := by decide +kernel
theorem d_M_isReady_83 : decode b_M_isReady 83 = .ok (.ireturn, 1) := by decide +kernel
theorem fl_M_101 : er_F "EntryRowsModel" 101 3 1 := ⟨_, er_T3, 22, rfl, by decide, er_i3, rfl, Or.inl (er_mt (i := 531) (by decide +kernel) rfl)⟩
theorem fl_M_57 : er_F "EntryRowsModel" 57 3 19 := ⟨_, er_T3, 22, rfl, by decide, er_i3, rfl, Or.inl (er_mt (i := 549) (by decide +kernel) rfl)⟩
abbrev y_M_safe : MethodName := ⟨"EntryRowsModel", "safe", "(II)I"⟩
abbrev b_M_safe : ByteArray := prog_5_method_19_code
abbrev w_M_safe : Cond := .code y_M_safe b_M_safe 5 (some .int)
theorem cal_M_safe : er_Cal y_M_safe w_M_safe 5 2 := ⟨er_mt (i := 657) (by decide +kernel) rfl, er_mt (i := 5) (by decide +kernel) rfl, ⟨by decide, by decide⟩, by decide +kernel, b_M_safe, (some .int), [], Or.inl rfl⟩
theorem in_M_safe : Cond.instanceMethod y_M_safe ∈ er_tbl := er_mt (i := 656) (by decide +kernel) rfl
theorem se_M_safe : Cond.selects "EntryRowsModel" y_M_safe y_M_safe ∈ er_tbl := er_ms (i := 31) (by decide +kernel) rfl
theorem d_M_safe_0 : decode b_M_safe 0 = .ok (.iconst 0, 1) := by decide +kernel
theorem d_M_safe_1 : decode b_M_safe 1 = .ok (.istore_n 3, 1) := by decide +kernel
theorem d_M_safe_2 : decode b_M_safe 2 = .ok (.iconst 0, 1) := by decide +kernel
theorem d_M_safe_3 : decode b_M_safe 3 = .ok (.istore 4, 2) := by decide +kernel
theorem d_M_safe_5 : decode b_M_safe 5 = .ok (.iload 4, 2) := by decide +kernel
theorem d_M_safe_7 : decode b_M_safe 7 = .ok (.bipush 16, 2) := by decide +kernel
theorem d_M_safe_9 : decode b_M_safe 9 = .ok (.if_icmp .ge 44, 3) := by decide +kernel
theorem d_M_safe_12 : decode b_M_safe 12 = .ok (.iload_n 3, 1) := by decide +kernel
theorem d_M_safe_13 : decode b_M_safe 13 = .ok (.aload_n 0, 1) := by decide +kernel
theorem d_M_safe_14 : decode b_M_safe 14 = .ok (.getfield 33, 3) := by decide +kernel
theorem d_M_safe_17 : decode b_M_safe 17 = .ok (.iload 4, 2) := by decide +kernel
theorem d_M_safe_19 : decode b_M_safe 19 = .ok (.iaload, 1) := by decide +kernel
theorem d_M_safe_20 : decode b_M_safe 20 = .ok (.iload_n 1, 1) := by decide +kernel
theorem d_M_safe_21 : decode b_M_safe 21 = .ok (.if_icmp .ne 23, 3) := by decide +kernel
theorem d_M_safe_24 : decode b_M_safe 24 = .ok (.iload 4, 2) := by decide +kernel
theorem d_M_safe_26 : decode b_M_safe 26 = .ok (.iload_n 2, 1) := by decide +kernel
theorem d_M_safe_27 : decode b_M_safe 27 = .ok (.if_icmp .eq 17, 3) := by decide +kernel
theorem d_M_safe_30 : decode b_M_safe 30 = .ok (.aload_n 0, 1) := by decide +kernel
theorem d_M_safe_31 : decode b_M_safe 31 = .ok (.iload 4, 2) := by decide +kernel
theorem d_M_safe_33 : decode b_M_safe 33 = .ok (.iload_n 1, 1) := by decide +kernel
theorem d_M_safe_34 : decode b_M_safe 34 = .ok (.invokevirtual 104, 3) := by decide +kernel
theorem d_M_safe_37 : decode b_M_safe 37 = .ok (.ifCond .eq 7, 3) := by decide +kernel
theorem d_M_safe_40 : decode b_M_safe 40 = .ok (.iconst 1, 1) := by decide +kernel
theorem d_M_safe_41 : decode b_M_safe 41 = .ok (.goto 4, 3) := by decide +kernel
theorem d_M_safe_44 : decode b_M_safe 44 = .ok (.iconst 0, 1) := by decide +kernel
theorem d_M_safe_45 : decode b_M_safe 45 = .ok (.iadd, 1) := by decide +kernel
theorem d_M_safe_46 : decode b_M_safe 46 = .ok (.istore_n 3, 1) := by decide +kernel
theorem d_M_safe_47 : decode b_M_safe 47 = .ok (.iinc 4 1, 3) := by decide +kernel
theorem d_M_safe_50 : decode b_M_safe 50 = .ok (.goto (-45), 3) := by decide +kernel
theorem d_M_safe_53 : decode b_M_safe 53 = .ok (.iload_n 3, 1) := by decide +kernel
theorem d_M_safe_54 : decode b_M_safe 54 = .ok (.ireturn, 1) := by decide +kernel
theorem fl_M_33 : er_F "EntryRowsModel" 33 3 11 := ⟨_, er_T3, 22, rfl, by decide, er_i3, rfl, Or.inl (er_mt (i := 541) (by decide +kernel) rfl)⟩
theorem lk_M_104 : Cond.methodLink "EntryRowsModel" 104 y_M_isReady ∈ er_tbl ∨ ∃ host, Cond.methodLinkNest "EntryRowsModel" 104 y_M_isReady host ∈ er_tbl := Or.inl (er_mt (i := 658) (by decide +kernel) rfl)
abbrev y_M_safety : MethodName := ⟨"EntryRowsModel", "safety", "(IIZ)I"⟩
abbrev b_M_safety : ByteArray := prog_5_method_20_code
abbrev w_M_safety : Cond := .code y_M_safety b_M_safety 6 (some .int)
theorem cal_M_safety : er_Cal y_M_safety w_M_safety 6 3 := ⟨er_mt (i := 653) (by decide +kernel) rfl, er_mt (i := 5) (by decide +kernel) rfl, ⟨by decide, by decide⟩, by decide +kernel, b_M_safety, (some .int), [], Or.inl rfl⟩
theorem in_M_safety : Cond.instanceMethod y_M_safety ∈ er_tbl := er_mt (i := 651) (by decide +kernel) rfl
theorem se_M_safety : Cond.selects "EntryRowsModel" y_M_safety y_M_safety ∈ er_tbl := er_mt (i := 652) (by decide +kernel) rfl
theorem d_M_safety_0 : decode b_M_safety 0 = .ok (.aload_n 0, 1) := by decide +kernel
theorem d_M_safety_1 : decode b_M_safety 1 = .ok (.iload_n 1, 1) := by decide +kernel
theorem d_M_safety_2 : decode b_M_safety 2 = .ok (.invokevirtual 80, 3) := by decide +kernel
theorem d_M_safety_5 : decode b_M_safety 5 = .ok (.ifCond .eq 10, 3) := by decide +kernel
theorem d_M_safety_8 : decode b_M_safety 8 = .ok (.iload_n 2, 1) := by decide +kernel
theorem d_M_safety_9 : decode b_M_safety 9 = .ok (.invokestatic 95, 3) := by decide +kernel
theorem d_M_safety_12 : decode b_M_safety 12 = .ok (.ifCond .ne 7, 3) := by decide +kernel
theorem d_M_safety_15 : decode b_M_safety 15 = .ok (.iconst 1, 1) := by decide +kernel
theorem d_M_safety_16 : decode b_M_safety 16 = .ok (.goto 4, 3) := by decide +kernel
theorem d_M_safety_19 : decode b_M_safety 19 = .ok (.iconst 0, 1) := by decide +kernel
theorem d_M_safety_20 : decode b_M_safety 20 = .ok (.istore 4, 2) := by decide +kernel
theorem d_M_safety_22 : decode b_M_safety 22 = .ok (.iload 4, 2) := by decide +kernel
theorem d_M_safety_24 : decode b_M_safety 24 = .ok (.ifCond .ne 42, 3) := by decide +kernel
theorem d_M_safety_27 : decode b_M_safety 27 = .ok (.aload_n 0, 1) := by decide +kernel
theorem d_M_safety_28 : decode b_M_safety 28 = .ok (.getfield 17, 3) := by decide +kernel
theorem d_M_safety_31 : decode b_M_safety 31 = .ok (.iload_n 1, 1) := by decide +kernel
theorem d_M_safety_32 : decode b_M_safety 32 = .ok (.baload, 1) := by decide +kernel
theorem d_M_safety_33 : decode b_M_safety 33 = .ok (.ifCond .eq 29, 3) := by decide +kernel
theorem d_M_safety_36 : decode b_M_safety 36 = .ok (.iload_n 3, 1) := by decide +kernel
theorem d_M_safety_37 : decode b_M_safety 37 = .ok (.ifCond .eq 15, 3) := by decide +kernel
theorem d_M_safety_40 : decode b_M_safety 40 = .ok (.aload_n 0, 1) := by decide +kernel
theorem d_M_safety_41 : decode b_M_safety 41 = .ok (.getfield 33, 3) := by decide +kernel
theorem d_M_safety_44 : decode b_M_safety 44 = .ok (.iload_n 2, 1) := by decide +kernel
theorem d_M_safety_45 : decode b_M_safety 45 = .ok (.iaload, 1) := by decide +kernel
theorem d_M_safety_46 : decode b_M_safety 46 = .ok (.ifCond .lt 20, 3) := by decide +kernel
theorem d_M_safety_49 : decode b_M_safety 49 = .ok (.goto 13, 3) := by decide +kernel
theorem d_M_safety_52 : decode b_M_safety 52 = .ok (.aload_n 0, 1) := by decide +kernel
theorem d_M_safety_53 : decode b_M_safety 53 = .ok (.getfield 33, 3) := by decide +kernel
theorem d_M_safety_56 : decode b_M_safety 56 = .ok (.iload_n 2, 1) := by decide +kernel
theorem d_M_safety_57 : decode b_M_safety 57 = .ok (.iaload, 1) := by decide +kernel
theorem d_M_safety_58 : decode b_M_safety 58 = .ok (.iload_n 1, 1) := by decide +kernel
theorem d_M_safety_59 : decode b_M_safety 59 = .ok (.if_icmp .eq 7, 3) := by decide +kernel
theorem d_M_safety_62 : decode b_M_safety 62 = .ok (.iconst 1, 1) := by decide +kernel
theorem d_M_safety_63 : decode b_M_safety 63 = .ok (.goto 4, 3) := by decide +kernel
theorem d_M_safety_66 : decode b_M_safety 66 = .ok (.iconst 0, 1) := by decide +kernel
theorem d_M_safety_67 : decode b_M_safety 67 = .ok (.istore 5, 2) := by decide +kernel
theorem d_M_safety_69 : decode b_M_safety 69 = .ok (.aload_n 0, 1) := by decide +kernel
theorem d_M_safety_70 : decode b_M_safety 70 = .ok (.iload 4, 2) := by decide +kernel
theorem d_M_safety_72 : decode b_M_safety 72 = .ok (.iload 5, 2) := by decide +kernel
theorem d_M_safety_74 : decode b_M_safety 74 = .ok (.iconst 0, 1) := by decide +kernel
theorem d_M_safety_75 : decode b_M_safety 75 = .ok (.invokevirtual 84, 3) := by decide +kernel
theorem d_M_safety_78 : decode b_M_safety 78 = .ok (.ifCond .eq 5, 3) := by decide +kernel
theorem d_M_safety_81 : decode b_M_safety 81 = .ok (.iconst 0, 1) := by decide +kernel
theorem d_M_safety_82 : decode b_M_safety 82 = .ok (.ireturn, 1) := by decide +kernel
theorem d_M_safety_83 : decode b_M_safety 83 = .ok (.aload_n 0, 1) := by decide +kernel
theorem d_M_safety_84 : decode b_M_safety 84 = .ok (.getfield 33, 3) := by decide +kernel
theorem d_M_safety_87 : decode b_M_safety 87 = .ok (.iload_n 2, 1) := by decide +kernel
theorem d_M_safety_88 : decode b_M_safety 88 = .ok (.iload_n 3, 1) := by decide +kernel
theorem d_M_safety_89 : decode b_M_safety 89 = .ok (.ifCond .eq 7, 3) := by decide +kernel
theorem d_M_safety_92 : decode b_M_safety 92 = .ok (.iload_n 1, 1) := by decide +kernel
theorem d_M_safety_93 : decode b_M_safety 93 = .ok (.goto 4, 3) := by decide +kernel
theorem d_M_safety_96 : decode b_M_safety 96 = .ok (.iconst (-1), 1) := by decide +kernel
theorem d_M_safety_97 : decode b_M_safety 97 = .ok (.iastore, 1) := by decide +kernel
theorem d_M_safety_98 : decode b_M_safety 98 = .ok (.aload_n 0, 1) := by decide +kernel
theorem d_M_safety_99 : decode b_M_safety 99 = .ok (.iload_n 1, 1) := by decide +kernel
theorem d_M_safety_100 : decode b_M_safety 100 = .ok (.iconst (-1), 1) := by decide +kernel
theorem d_M_safety_101 : decode b_M_safety 101 = .ok (.invokevirtual 108, 3) := by decide +kernel
theorem d_M_safety_104 : decode b_M_safety 104 = .ok (.ireturn, 1) := by decide +kernel
theorem lk_M_108 : Cond.methodLink "EntryRowsModel" 108 y_M_safe ∈ er_tbl ∨ ∃ host, Cond.methodLinkNest "EntryRowsModel" 108 y_M_safe host ∈ er_tbl := Or.inl (er_mt (i := 654) (by decide +kernel) rfl)
abbrev y_M_enter : MethodName := ⟨"EntryRowsModel", "enter", "(IIIIZ)I"⟩
abbrev b_M_enter : ByteArray := prog_5_method_21_code
abbrev w_M_enter : Cond := .code y_M_enter b_M_enter 11 (some .int)
theorem cal_M_enter : er_Cal y_M_enter w_M_enter 11 5 := ⟨er_mt (i := 665) (by decide +kernel) rfl, er_mt (i := 5) (by decide +kernel) rfl, ⟨by decide, by decide⟩, by decide +kernel, b_M_enter, (some .int), [], Or.inl rfl⟩
theorem in_M_enter : Cond.instanceMethod y_M_enter ∈ er_tbl := er_mt (i := 663) (by decide +kernel) rfl
theorem se_M_enter : Cond.selects "EntryRowsModel" y_M_enter y_M_enter ∈ er_tbl := er_mt (i := 664) (by decide +kernel) rfl
theorem d_M_enter_0 : decode b_M_enter 0 = .ok (.aload_n 0, 1) := by decide +kernel
theorem d_M_enter_1 : decode b_M_enter 1 = .ok (.iload_n 1, 1) := by decide +kernel
theorem d_M_enter_2 : decode b_M_enter 2 = .ok (.invokevirtual 80, 3) := by decide +kernel
theorem d_M_enter_5 : decode b_M_enter 5 = .ok (.ifCond .eq 10, 3) := by decide +kernel
theorem d_M_enter_8 : decode b_M_enter 8 = .ok (.iload_n 2, 1) := by decide +kernel
theorem d_M_enter_9 : decode b_M_enter 9 = .ok (.invokestatic 95, 3) := by decide +kernel
theorem d_M_enter_12 : decode b_M_enter 12 = .ok (.ifCond .ne 7, 3) := by decide +kernel
theorem d_M_enter_15 : decode b_M_enter 15 = .ok (.iconst 1, 1) := by decide +kernel
theorem d_M_enter_16 : decode b_M_enter 16 = .ok (.goto 4, 3) := by decide +kernel
theorem d_M_enter_19 : decode b_M_enter 19 = .ok (.iconst 0, 1) := by decide +kernel
theorem d_M_enter_20 : decode b_M_enter 20 = .ok (.istore 6, 2) := by decide +kernel
theorem d_M_enter_22 : decode b_M_enter 22 = .ok (.iload_n 3, 1) := by decide +kernel
theorem d_M_enter_23 : decode b_M_enter 23 = .ok (.iconst 0, 1) := by decide +kernel
theorem d_M_enter_24 : decode b_M_enter 24 = .ok (.bipush 9, 2) := by decide +kernel
theorem d_M_enter_26 : decode b_M_enter 26 = .ok (.invokestatic 73, 3) := by decide +kernel
theorem d_M_enter_29 : decode b_M_enter 29 = .ok (.ifCond .eq 13, 3) := by decide +kernel
theorem d_M_enter_32 : decode b_M_enter 32 = .ok (.iload 4, 2) := by decide +kernel
theorem d_M_enter_34 : decode b_M_enter 34 = .ok (.iconst 0, 1) := by decide +kernel
theorem d_M_enter_35 : decode b_M_enter 35 = .ok (.iconst 5, 1) := by decide +kernel
theorem d_M_enter_36 : decode b_M_enter 36 = .ok (.invokestatic 73, 3) := by decide +kernel
theorem d_M_enter_39 : decode b_M_enter 39 = .ok (.ifCond .ne 7, 3) := by decide +kernel
theorem d_M_enter_42 : decode b_M_enter 42 = .ok (.iconst 1, 1) := by decide +kernel
theorem d_M_enter_43 : decode b_M_enter 43 = .ok (.goto 4, 3) := by decide +kernel
theorem d_M_enter_46 : decode b_M_enter 46 = .ok (.iconst 0, 1) := by decide +kernel
theorem d_M_enter_47 : decode b_M_enter 47 = .ok (.istore 7, 2) := by decide +kernel
theorem d_M_enter_49 : decode b_M_enter 49 = .ok (.iload 6, 2) := by decide +kernel
theorem d_M_enter_51 : decode b_M_enter 51 = .ok (.ifCond .ne 30, 3) := by decide +kernel
theorem d_M_enter_54 : decode b_M_enter 54 = .ok (.aload_n 0, 1) := by decide +kernel
theorem d_M_enter_55 : decode b_M_enter 55 = .ok (.getfield 17, 3) := by decide +kernel
theorem d_M_enter_58 : decode b_M_enter 58 = .ok (.iload_n 1, 1) := by decide +kernel
theorem d_M_enter_59 : decode b_M_enter 59 = .ok (.baload, 1) := by decide +kernel
theorem d_M_enter_60 : decode b_M_enter 60 = .ok (.ifCond .eq 21, 3) := by decide +kernel
theorem d_M_enter_63 : decode b_M_enter 63 = .ok (.aload_n 0, 1) := by decide +kernel
theorem d_M_enter_64 : decode b_M_enter 64 = .ok (.getfield 30, 3) := by decide +kernel
theorem d_M_enter_67 : decode b_M_enter 67 = .ok (.iload_n 1, 1) := by decide +kernel
theorem d_M_enter_68 : decode b_M_enter 68 = .ok (.iaload, 1) := by decide +kernel
theorem d_M_enter_69 : decode b_M_enter 69 = .ok (.ifCond .lt 12, 3) := by decide +kernel
theorem d_M_enter_72 : decode b_M_enter 72 = .ok (.aload_n 0, 1) := by decide +kernel
theorem d_M_enter_73 : decode b_M_enter 73 = .ok (.iload_n 2, 1) := by decide +kernel
theorem d_M_enter_74 : decode b_M_enter 74 = .ok (.iload_n 1, 1) := by decide +kernel
theorem d_M_enter_75 : decode b_M_enter 75 = .ok (.invokevirtual 104, 3) := by decide +kernel
theorem d_M_enter_78 : decode b_M_enter 78 = .ok (.ifCond .ne 7, 3) := by decide +kernel
theorem d_M_enter_81 : decode b_M_enter 81 = .ok (.iconst 1, 1) := by decide +kernel
theorem d_M_enter_82 : decode b_M_enter 82 = .ok (.goto 4, 3) := by decide +kernel
theorem d_M_enter_85 : decode b_M_enter 85 = .ok (.iconst 0, 1) := by decide +kernel
theorem d_M_enter_86 : decode b_M_enter 86 = .ok (.istore 8, 2) := by decide +kernel
theorem d_M_enter_88 : decode b_M_enter 88 = .ok (.iload 8, 2) := by decide +kernel
theorem d_M_enter_90 : decode b_M_enter 90 = .ok (.ifCond .ne 37, 3) := by decide +kernel
theorem d_M_enter_93 : decode b_M_enter 93 = .ok (.aload_n 0, 1) := by decide +kernel
theorem d_M_enter_94 : decode b_M_enter 94 = .ok (.iload_n 1, 1) := by decide +kernel
theorem d_M_enter_95 : decode b_M_enter 95 = .ok (.iload_n 2, 1) := by decide +kernel
theorem d_M_enter_96 : decode b_M_enter 96 = .ok (.invokevirtual 108, 3) := by decide +kernel
theorem d_M_enter_99 : decode b_M_enter 99 = .ok (.aload_n 0, 1) := by decide +kernel
theorem d_M_enter_100 : decode b_M_enter 100 = .ok (.getfield 27, 3) := by decide +kernel
theorem d_M_enter_103 : decode b_M_enter 103 = .ok (.iload_n 1, 1) := by decide +kernel
theorem d_M_enter_104 : decode b_M_enter 104 = .ok (.iaload, 1) := by decide +kernel
theorem d_M_enter_105 : decode b_M_enter 105 = .ok (.if_icmp .ge 26, 3) := by decide +kernel
theorem d_M_enter_108 : decode b_M_enter 108 = .ok (.iload 5, 2) := by decide +kernel
theorem d_M_enter_110 : decode b_M_enter 110 = .ok (.ifCond .eq 17, 3) := by decide +kernel
theorem d_M_enter_113 : decode b_M_enter 113 = .ok (.aload_n 0, 1) := by decide +kernel
theorem d_M_enter_114 : decode b_M_enter 114 = .ok (.getfield 39, 3) := by decide +kernel
theorem d_M_enter_117 : decode b_M_enter 117 = .ok (.aload_n 0, 1) := by decide +kernel
theorem d_M_enter_118 : decode b_M_enter 118 = .ok (.getfield 30, 3) := by decide +kernel
theorem d_M_enter_121 : decode b_M_enter 121 = .ok (.iload_n 1, 1) := by decide +kernel
theorem d_M_enter_122 : decode b_M_enter 122 = .ok (.iaload, 1) := by decide +kernel
theorem d_M_enter_123 : decode b_M_enter 123 = .ok (.baload, 1) := by decide +kernel
theorem d_M_enter_124 : decode b_M_enter 124 = .ok (.ifCond .ne 7, 3) := by decide +kernel
theorem d_M_enter_127 : decode b_M_enter 127 = .ok (.iconst 1, 1) := by decide +kernel
theorem d_M_enter_128 : decode b_M_enter 128 = .ok (.goto 4, 3) := by decide +kernel
theorem d_M_enter_131 : decode b_M_enter 131 = .ok (.iconst 0, 1) := by decide +kernel
theorem d_M_enter_132 : decode b_M_enter 132 = .ok (.istore 8, 2) := by decide +kernel
theorem d_M_enter_134 : decode b_M_enter 134 = .ok (.aload_n 0, 1) := by decide +kernel
theorem d_M_enter_135 : decode b_M_enter 135 = .ok (.iload 6, 2) := by decide +kernel
theorem d_M_enter_137 : decode b_M_enter 137 = .ok (.iload 7, 2) := by decide +kernel
theorem d_M_enter_139 : decode b_M_enter 139 = .ok (.iload 8, 2) := by decide +kernel
theorem d_M_enter_141 : decode b_M_enter 141 = .ok (.invokevirtual 84, 3) := by decide +kernel
theorem d_M_enter_144 : decode b_M_enter 144 = .ok (.ifCond .eq 5, 3) := by decide +kernel
theorem d_M_enter_147 : decode b_M_enter 147 = .ok (.iconst 0, 1) := by decide +kernel
theorem d_M_enter_148 : decode b_M_enter 148 = .ok (.ireturn, 1) := by decide +kernel
theorem d_M_enter_149 : decode b_M_enter 149 = .ok (.aload_n 0, 1) := by decide +kernel
theorem d_M_enter_150 : decode b_M_enter 150 = .ok (.getfield 112, 3) := by decide +kernel
theorem d_M_enter_153 : decode b_M_enter 153 = .ok (.istore 9, 2) := by decide +kernel
theorem d_M_enter_155 : decode b_M_enter 155 = .ok (.iconst 0, 1) := by decide +kernel
theorem d_M_enter_156 : decode b_M_enter 156 = .ok (.istore 10, 2) := by decide +kernel
theorem d_M_enter_158 : decode b_M_enter 158 = .ok (.iload 10, 2) := by decide +kernel
theorem d_M_enter_160 : decode b_M_enter 160 = .ok (.bipush 40, 2) := by decide +kernel
theorem d_M_enter_162 : decode b_M_enter 162 = .ok (.if_icmp .ge 77, 3) := by decide +kernel
theorem d_M_enter_165 : decode b_M_enter 165 = .ok (.aload_n 0, 1) := by decide +kernel
theorem d_M_enter_166 : decode b_M_enter 166 = .ok (.getfield 36, 3) := by decide +kernel
theorem d_M_enter_169 : decode b_M_enter 169 = .ok (.iload 10, 2) := by decide +kernel
theorem d_M_enter_171 : decode b_M_enter 171 = .ok (.iaload, 1) := by decide +kernel
theorem d_M_enter_172 : decode b_M_enter 172 = .ok (.iload_n 2, 1) := by decide +kernel
theorem d_M_enter_173 : decode b_M_enter 173 = .ok (.if_icmp .ne 60, 3) := by decide +kernel
theorem d_M_enter_176 : decode b_M_enter 176 = .ok (.aload_n 0, 1) := by decide +kernel
theorem d_M_enter_177 : decode b_M_enter 177 = .ok (.getfield 42, 3) := by decide +kernel
theorem d_M_enter_180 : decode b_M_enter 180 = .ok (.iload 10, 2) := by decide +kernel
theorem d_M_enter_182 : decode b_M_enter 182 = .ok (.iload_n 1, 1) := by decide +kernel
theorem d_M_enter_183 : decode b_M_enter 183 = .ok (.iastore, 1) := by decide +kernel
theorem d_M_enter_184 : decode b_M_enter 184 = .ok (.aload_n 0, 1) := by decide +kernel
theorem d_M_enter_185 : decode b_M_enter 185 = .ok (.getfield 45, 3) := by decide +kernel
theorem d_M_enter_188 : decode b_M_enter 188 = .ok (.iload 10, 2) := by decide +kernel
theorem d_M_enter_190 : decode b_M_enter 190 = .ok (.aload_n 0, 1) := by decide +kernel
theorem d_M_enter_191 : decode b_M_enter 191 = .ok (.getfield 112, 3) := by decide +kernel
theorem d_M_enter_194 : decode b_M_enter 194 = .ok (.iastore, 1) := by decide +kernel
theorem d_M_enter_195 : decode b_M_enter 195 = .ok (.aload_n 0, 1) := by decide +kernel
theorem d_M_enter_196 : decode b_M_enter 196 = .ok (.getfield 48, 3) := by decide +kernel
theorem d_M_enter_199 : decode b_M_enter 199 = .ok (.iload 10, 2) := by decide +kernel
theorem d_M_enter_201 : decode b_M_enter 201 = .ok (.iload 4, 2) := by decide +kernel
theorem d_M_enter_203 : decode b_M_enter 203 = .ok (.iastore, 1) := by decide +kernel
theorem d_M_enter_204 : decode b_M_enter 204 = .ok (.aload_n 0, 1) := by decide +kernel
theorem d_M_enter_205 : decode b_M_enter 205 = .ok (.getfield 51, 3) := by decide +kernel
theorem d_M_enter_208 : decode b_M_enter 208 = .ok (.iload 10, 2) := by decide +kernel
theorem d_M_enter_210 : decode b_M_enter 210 = .ok (.iload_n 3, 1) := by decide +kernel
theorem d_M_enter_211 : decode b_M_enter 211 = .ok (.iastore, 1) := by decide +kernel
theorem d_M_enter_212 : decode b_M_enter 212 = .ok (.aload_n 0, 1) := by decide +kernel
theorem d_M_enter_213 : decode b_M_enter 213 = .ok (.getfield 54, 3) := by decide +kernel
theorem d_M_enter_216 : decode b_M_enter 216 = .ok (.iload 10, 2) := by decide +kernel
theorem d_M_enter_218 : decode b_M_enter 218 = .ok (.aload_n 0, 1) := by decide +kernel
theorem d_M_enter_219 : decode b_M_enter 219 = .ok (.getfield 101, 3) := by decide +kernel
theorem d_M_enter_222 : decode b_M_enter 222 = .ok (.iastore, 1) := by decide +kernel
theorem d_M_enter_223 : decode b_M_enter 223 = .ok (.aload_n 0, 1) := by decide +kernel
theorem d_M_enter_224 : decode b_M_enter 224 = .ok (.dup, 1) := by decide +kernel
theorem d_M_enter_225 : decode b_M_enter 225 = .ok (.getfield 112, 3) := by decide +kernel
theorem d_M_enter_228 : decode b_M_enter 228 = .ok (.iconst 1, 1) := by decide +kernel
theorem d_M_enter_229 : decode b_M_enter 229 = .ok (.iadd, 1) := by decide +kernel
theorem d_M_enter_230 : decode b_M_enter 230 = .ok (.putfield 112, 3) := by decide +kernel
theorem d_M_enter_233 : decode b_M_enter 233 = .ok (.iinc 10 1, 3) := by decide +kernel
theorem d_M_enter_236 : decode b_M_enter 236 = .ok (.goto (-78), 3) := by decide +kernel
theorem d_M_enter_239 : decode b_M_enter 239 = .ok (.iload 9, 2) := by decide +kernel
theorem d_M_enter_241 : decode b_M_enter 241 = .ok (.ireturn, 1) := by decide +kernel
theorem fl_M_112 : er_F "EntryRowsModel" 112 3 3 := ⟨_, er_T3, 22, rfl, by decide, er_i3, rfl, Or.inl (er_mt (i := 533) (by decide +kernel) rfl)⟩
theorem fp_M_112 : er_Fp "EntryRowsModel" 112 3 3 := ⟨_, er_T3, 22, er_ty3, rfl, by decide, er_i3, rfl, er_mt (i := 533) (by decide +kernel) rfl, rfl, by decide +kernel, er_tyok3, er_nm3⟩
abbrev y_M_out : MethodName := ⟨"EntryRowsModel", "out", "(II)I"⟩
abbrev b_M_out : ByteArray := prog_5_method_22_code
abbrev w_M_out : Cond := .code y_M_out b_M_out 5 (some .int)
theorem cal_M_out : er_Cal y_M_out w_M_out 5 2 := ⟨er_mt (i := 669) (by decide +kernel) rfl, er_mt (i := 5) (by decide +kernel) rfl, ⟨by decide, by decide⟩, by decide +kernel, b_M_out, (some .int), [], Or.inl rfl⟩
theorem in_M_out : Cond.instanceMethod y_M_out ∈ er_tbl := er_mt (i := 667) (by decide +kernel) rfl
theorem se_M_out : Cond.selects "EntryRowsModel" y_M_out y_M_out ∈ er_tbl := er_mt (i := 668) (by decide +kernel) rfl
theorem d_M_out_0 : decode b_M_out 0 = .ok (.aload_n 0, 1) := by decide +kernel
theorem d_M_out_1 : decode b_M_out 1 = .ok (.iload_n 1, 1) := by decide +kernel
theorem d_M_out_2 : decode b_M_out 2 = .ok (.invokevirtual 80, 3) := by decide +kernel
theorem d_M_out_5 : decode b_M_out 5 = .ok (.ifCond .eq 10, 3) := by decide +kernel
theorem d_M_out_8 : decode b_M_out 8 = .ok (.iload_n 2, 1) := by decide +kernel
theorem d_M_out_9 : decode b_M_out 9 = .ok (.invokestatic 88, 3) := by decide +kernel
theorem d_M_out_12 : decode b_M_out 12 = .ok (.ifCond .ne 7, 3) := by decide +kernel
theorem d_M_out_15 : decode b_M_out 15 = .ok (.iconst 1, 1) := by decide +kernel
theorem d_M_out_16 : decode b_M_out 16 = .ok (.goto 4, 3) := by decide +kernel
theorem d_M_out_19 : decode b_M_out 19 = .ok (.iconst 0, 1) := by decide +kernel
theorem d_M_out_20 : decode b_M_out 20 = .ok (.istore_n 3, 1) := by decide +kernel
theorem d_M_out_21 : decode b_M_out 21 = .ok (.aload_n 0, 1) := by decide +kernel
theorem d_M_out_22 : decode b_M_out 22 = .ok (.iload_n 3, 1) := by decide +kernel
theorem d_M_out_23 : decode b_M_out 23 = .ok (.iload_n 3, 1) := by decide +kernel
theorem d_M_out_24 : decode b_M_out 24 = .ok (.ifCond .ne 17, 3) := by decide +kernel
theorem d_M_out_27 : decode b_M_out 27 = .ok (.aload_n 0, 1) := by decide +kernel
theorem d_M_out_28 : decode b_M_out 28 = .ok (.getfield 42, 3) := by decide +kernel
theorem d_M_out_31 : decode b_M_out 31 = .ok (.iload_n 2, 1) := by decide +kernel
theorem d_M_out_32 : decode b_M_out 32 = .ok (.iaload, 1) := by decide +kernel
theorem d_M_out_33 : decode b_M_out 33 = .ok (.iload_n 1, 1) := by decide +kernel
theorem d_M_out_34 : decode b_M_out 34 = .ok (.if_icmp .eq 7, 3) := by decide +kernel
theorem d_M_out_37 : decode b_M_out 37 = .ok (.iconst 1, 1) := by decide +kernel
theorem d_M_out_38 : decode b_M_out 38 = .ok (.goto 4, 3) := by decide +kernel
theorem d_M_out_41 : decode b_M_out 41 = .ok (.iconst 0, 1) := by decide +kernel
theorem d_M_out_42 : decode b_M_out 42 = .ok (.iconst 0, 1) := by decide +kernel
theorem d_M_out_43 : decode b_M_out 43 = .ok (.invokevirtual 84, 3) := by decide +kernel
theorem d_M_out_46 : decode b_M_out 46 = .ok (.ifCond .eq 5, 3) := by decide +kernel
theorem d_M_out_49 : decode b_M_out 49 = .ok (.iconst 0, 1) := by decide +kernel
theorem d_M_out_50 : decode b_M_out 50 = .ok (.ireturn, 1) := by decide +kernel
theorem d_M_out_51 : decode b_M_out 51 = .ok (.aload_n 0, 1) := by decide +kernel
theorem d_M_out_52 : decode b_M_out 52 = .ok (.getfield 101, 3) := by decide +kernel
theorem d_M_out_55 : decode b_M_out 55 = .ok (.aload_n 0, 1) := by decide +kernel
theorem d_M_out_56 : decode b_M_out 56 = .ok (.getfield 54, 3) := by decide +kernel
theorem d_M_out_59 : decode b_M_out 59 = .ok (.iload_n 2, 1) := by decide +kernel
theorem d_M_out_60 : decode b_M_out 60 = .ok (.iaload, 1) := by decide +kernel
theorem d_M_out_61 : decode b_M_out 61 = .ok (.isub, 1) := by decide +kernel
theorem d_M_out_62 : decode b_M_out 62 = .ok (.istore 4, 2) := by decide +kernel
theorem d_M_out_64 : decode b_M_out 64 = .ok (.aload_n 0, 1) := by decide +kernel
theorem d_M_out_65 : decode b_M_out 65 = .ok (.getfield 60, 3) := by decide +kernel
theorem d_M_out_68 : decode b_M_out 68 = .ok (.iload_n 2, 1) := by decide +kernel
theorem d_M_out_69 : decode b_M_out 69 = .ok (.dup2, 1) := by decide +kernel
theorem d_M_out_70 : decode b_M_out 70 = .ok (.iaload, 1) := by decide +kernel
theorem d_M_out_71 : decode b_M_out 71 = .ok (.iload 4, 2) := by decide +kernel
theorem d_M_out_73 : decode b_M_out 73 = .ok (.iadd, 1) := by decide +kernel
theorem d_M_out_74 : decode b_M_out 74 = .ok (.iastore, 1) := by decide +kernel
theorem d_M_out_75 : decode b_M_out 75 = .ok (.aload_n 0, 1) := by decide +kernel
theorem d_M_out_76 : decode b_M_out 76 = .ok (.getfield 63, 3) := by decide +kernel
theorem d_M_out_79 : decode b_M_out 79 = .ok (.iload_n 2, 1) := by decide +kernel
theorem d_M_out_80 : decode b_M_out 80 = .ok (.dup2, 1) := by decide +kernel
theorem d_M_out_81 : decode b_M_out 81 = .ok (.iaload, 1) := by decide +kernel
theorem d_M_out_82 : decode b_M_out 82 = .ok (.iload 4, 2) := by decide +kernel
theorem d_M_out_84 : decode b_M_out 84 = .ok (.aload_n 0, 1) := by decide +kernel
theorem d_M_out_85 : decode b_M_out 85 = .ok (.getfield 13, 3) := by decide +kernel
theorem d_M_out_88 : decode b_M_out 88 = .ok (.aload_n 0, 1) := by decide +kernel
theorem d_M_out_89 : decode b_M_out 89 = .ok (.getfield 48, 3) := by decide +kernel
theorem d_M_out_92 : decode b_M_out 92 = .ok (.iload_n 2, 1) := by decide +kernel
theorem d_M_out_93 : decode b_M_out 93 = .ok (.iaload, 1) := by decide +kernel
theorem d_M_out_94 : decode b_M_out 94 = .ok (.iaload, 1) := by decide +kernel
theorem d_M_out_95 : decode b_M_out 95 = .ok (.imul, 1) := by decide +kernel
theorem d_M_out_96 : decode b_M_out 96 = .ok (.iadd, 1) := by decide +kernel
theorem d_M_out_97 : decode b_M_out 97 = .ok (.iastore, 1) := by decide +kernel
theorem d_M_out_98 : decode b_M_out 98 = .ok (.aload_n 0, 1) := by decide +kernel
theorem d_M_out_99 : decode b_M_out 99 = .ok (.getfield 57, 3) := by decide +kernel
theorem d_M_out_102 : decode b_M_out 102 = .ok (.iload_n 2, 1) := by decide +kernel
theorem d_M_out_103 : decode b_M_out 103 = .ok (.aload_n 0, 1) := by decide +kernel
theorem d_M_out_104 : decode b_M_out 104 = .ok (.getfield 101, 3) := by decide +kernel
theorem d_M_out_107 : decode b_M_out 107 = .ok (.aload_n 0, 1) := by decide +kernel
theorem d_M_out_108 : decode b_M_out 108 = .ok (.getfield 7, 3) := by decide +kernel
theorem d_M_out_111 : decode b_M_out 111 = .ok (.iadd, 1) := by decide +kernel
theorem d_M_out_112 : decode b_M_out 112 = .ok (.iastore, 1) := by decide +kernel
theorem d_M_out_113 : decode b_M_out 113 = .ok (.aload_n 0, 1) := by decide +kernel
theorem d_M_out_114 : decode b_M_out 114 = .ok (.iload_n 2, 1) := by decide +kernel
theorem d_M_out_115 : decode b_M_out 115 = .ok (.invokevirtual 66, 3) := by decide +kernel
theorem d_M_out_118 : decode b_M_out 118 = .ok (.iload 4, 2) := by decide +kernel
theorem d_M_out_120 : decode b_M_out 120 = .ok (.ireturn, 1) := by decide +kernel
theorem fl_M_60 : er_F "EntryRowsModel" 60 3 20 := ⟨_, er_T3, 22, rfl, by decide, er_i3, rfl, Or.inl (er_mt (i := 550) (by decide +kernel) rfl)⟩
theorem fl_M_63 : er_F "EntryRowsModel" 63 3 21 := ⟨_, er_T3, 22, rfl, by decide, er_i3, rfl, Or.inl (er_mt (i := 551) (by decide +kernel) rfl)⟩
theorem fl_M_7 : er_F "EntryRowsModel" 7 3 2 := ⟨_, er_T3, 22, rfl, by decide, er_i3, rfl, Or.inl (er_mt (i := 532) (by decide +kernel) rfl)⟩
theorem lk_M_66 : Cond.methodLink "EntryRowsModel" 66 y_M_outside ∈ er_tbl ∨ ∃ host, Cond.methodLinkNest "EntryRowsModel" 66 y_M_outside host ∈ er_tbl := Or.inl (er_mt (i := 526) (by decide +kernel) rfl)
abbrev y_M_swap : MethodName := ⟨"EntryRowsModel", "swap", "(II)V"⟩
abbrev b_M_swap : ByteArray := prog_5_method_23_code
abbrev w_M_swap : Cond := .code y_M_swap b_M_swap 5 none
theorem cal_M_swap : er_Cal y_M_swap w_M_swap 5 2 := ⟨er_mt (i := 673) (by decide +kernel) rfl, er_mt (i := 5) (by decide +kernel) rfl, ⟨by decide, by decide⟩, by decide +kernel, b_M_swap, none, [], Or.inl rfl⟩
theorem in_M_swap : Cond.instanceMethod y_M_swap ∈ er_tbl := er_mt (i := 671) (by decide +kernel) rfl
theorem se_M_swap : Cond.selects "EntryRowsModel" y_M_swap y_M_swap ∈ er_tbl := er_mt (i := 672) (by decide +kernel) rfl
theorem d_M_swap_0 : decode b_M_swap 0 = .ok (.iload_n 1, 1) := by decide +kernel
theorem d_M_swap_1 : decode b_M_swap 1 = .ok (.invokestatic 88, 3) := by decide +kernel
theorem d_M_swap_4 : decode b_M_swap 4 = .ok (.ifCond .eq 10, 3) := by decide +kernel
theorem d_M_swap_7 : decode b_M_swap 7 = .ok (.iload_n 2, 1) := by decide +kernel
theorem d_M_swap_8 : decode b_M_swap 8 = .ok (.invokestatic 88, 3) := by decide +kernel
theorem d_M_swap_11 : decode b_M_swap 11 = .ok (.ifCond .ne 7, 3) := by decide +kernel
theorem d_M_swap_14 : decode b_M_swap 14 = .ok (.iconst 1, 1) := by decide +kernel
theorem d_M_swap_15 : decode b_M_swap 15 = .ok (.goto 4, 3) := by decide +kernel
theorem d_M_swap_18 : decode b_M_swap 18 = .ok (.iconst 0, 1) := by decide +kernel
theorem d_M_swap_19 : decode b_M_swap 19 = .ok (.istore_n 3, 1) := by decide +kernel
theorem d_M_swap_20 : decode b_M_swap 20 = .ok (.aload_n 0, 1) := by decide +kernel
theorem d_M_swap_21 : decode b_M_swap 21 = .ok (.iload_n 3, 1) := by decide +kernel
theorem d_M_swap_22 : decode b_M_swap 22 = .ok (.iload_n 3, 1) := by decide +kernel
theorem d_M_swap_23 : decode b_M_swap 23 = .ok (.ifCond .ne 30, 3) := by decide +kernel
theorem d_M_swap_26 : decode b_M_swap 26 = .ok (.aload_n 0, 1) := by decide +kernel
theorem d_M_swap_27 : decode b_M_swap 27 = .ok (.getfield 42, 3) := by decide +kernel
theorem d_M_swap_30 : decode b_M_swap 30 = .ok (.iload_n 1, 1) := by decide +kernel
theorem d_M_swap_31 : decode b_M_swap 31 = .ok (.iaload, 1) := by decide +kernel
theorem d_M_swap_32 : decode b_M_swap 32 = .ok (.ifCond .lt 17, 3) := by decide +kernel
theorem d_M_swap_35 : decode b_M_swap 35 = .ok (.aload_n 0, 1) := by decide +kernel
theorem d_M_swap_36 : decode b_M_swap 36 = .ok (.getfield 42, 3) := by decide +kernel
theorem d_M_swap_39 : decode b_M_swap 39 = .ok (.iload_n 2, 1) := by decide +kernel
theorem d_M_swap_40 : decode b_M_swap 40 = .ok (.iaload, 1) := by decide +kernel
theorem d_M_swap_41 : decode b_M_swap 41 = .ok (.ifCond .lt 8, 3) := by decide +kernel
theorem d_M_swap_44 : decode b_M_swap 44 = .ok (.iload_n 1, 1) := by decide +kernel
theorem d_M_swap_45 : decode b_M_swap 45 = .ok (.iload_n 2, 1) := by decide +kernel
theorem d_M_swap_46 : decode b_M_swap 46 = .ok (.if_icmp .ne 7, 3) := by decide +kernel
theorem d_M_swap_49 : decode b_M_swap 49 = .ok (.iconst 1, 1) := by decide +kernel
theorem d_M_swap_50 : decode b_M_swap 50 = .ok (.goto 4, 3) := by decide +kernel
theorem d_M_swap_53 : decode b_M_swap 53 = .ok (.iconst 0, 1) := by decide +kernel
theorem d_M_swap_54 : decode b_M_swap 54 = .ok (.iconst 0, 1) := by decide +kernel
theorem d_M_swap_55 : decode b_M_swap 55 = .ok (.invokevirtual 84, 3) := by decide +kernel
theorem d_M_swap_58 : decode b_M_swap 58 = .ok (.ifCond .eq 4, 3) := by decide +kernel
theorem d_M_swap_61 : decode b_M_swap 61 = .ok (.return_, 1) := by decide +kernel
theorem d_M_swap_62 : decode b_M_swap 62 = .ok (.aload_n 0, 1) := by decide +kernel
theorem d_M_swap_63 : decode b_M_swap 63 = .ok (.getfield 45, 3) := by decide +kernel
theorem d_M_swap_66 : decode b_M_swap 66 = .ok (.iload_n 1, 1) := by decide +kernel
theorem d_M_swap_67 : decode b_M_swap 67 = .ok (.iaload, 1) := by decide +kernel
theorem d_M_swap_68 : decode b_M_swap 68 = .ok (.istore 4, 2) := by decide +kernel
theorem d_M_swap_70 : decode b_M_swap 70 = .ok (.aload_n 0, 1) := by decide +kernel
theorem d_M_swap_71 : decode b_M_swap 71 = .ok (.getfield 45, 3) := by decide +kernel
theorem d_M_swap_74 : decode b_M_swap 74 = .ok (.iload_n 1, 1) := by decide +kernel
theorem d_M_swap_75 : decode b_M_swap 75 = .ok (.aload_n 0, 1) := by decide +kernel
theorem d_M_swap_76 : decode b_M_swap 76 = .ok (.getfield 45, 3) := by decide +kernel
theorem d_M_swap_79 : decode b_M_swap 79 = .ok (.iload_n 2, 1) := by decide +kernel
theorem d_M_swap_80 : decode b_M_swap 80 = .ok (.iaload, 1) := by decide +kernel
theorem d_M_swap_81 : decode b_M_swap 81 = .ok (.iastore, 1) := by decide +kernel
theorem d_M_swap_82 : decode b_M_swap 82 = .ok (.aload_n 0, 1) := by decide +kernel
theorem d_M_swap_83 : decode b_M_swap 83 = .ok (.getfield 45, 3) := by decide +kernel
theorem d_M_swap_86 : decode b_M_swap 86 = .ok (.iload_n 2, 1) := by decide +kernel
theorem d_M_swap_87 : decode b_M_swap 87 = .ok (.iload 4, 2) := by decide +kernel
theorem d_M_swap_89 : decode b_M_swap 89 = .ok (.iastore, 1) := by decide +kernel
theorem d_M_swap_90 : decode b_M_swap 90 = .ok (.return_, 1) := by decide +kernel
abbrev y_M_onBoard : MethodName := ⟨"EntryRowsModel", "onBoard", "(I)I"⟩
abbrev b_M_onBoard : ByteArray := prog_5_method_24_code
abbrev w_M_onBoard : Cond := .code y_M_onBoard b_M_onBoard 4 (some .int)
theorem cal_M_onBoard : er_Cal y_M_onBoard w_M_onBoard 4 1 := ⟨er_mt (i := 685) (by decide +kernel) rfl, er_mt (i := 5) (by decide +kernel) rfl, ⟨by decide, by decide⟩, by decide +kernel, b_M_onBoard, (some .int), [], Or.inl rfl⟩
theorem in_M_onBoard : Cond.instanceMethod y_M_onBoard ∈ er_tbl := er_mt (i := 684) (by decide +kernel) rfl
theorem se_M_onBoard : Cond.selects "EntryRowsModel" y_M_onBoard y_M_onBoard ∈ er_tbl := er_ms (i := 34) (by decide +kernel) rfl
theorem d_M_onBoard_0 : decode b_M_onBoard 0 = .ok (.iconst 0, 1) := by decide +kernel
theorem d_M_onBoard_1 : decode b_M_onBoard 1 = .ok (.istore_n 2, 1) := by decide +kernel
theorem d_M_onBoard_2 : decode b_M_onBoard 2 = .ok (.iconst 0, 1) := by decide +kernel
theorem d_M_onBoard_3 : decode b_M_onBoard 3 = .ok (.istore_n 3, 1) := by decide +kernel
theorem d_M_onBoard_4 : decode b_M_onBoard 4 = .ok (.iload_n 3, 1) := by decide +kernel
theorem d_M_onBoard_5 : decode b_M_onBoard 5 = .ok (.bipush 40, 2) := by decide +kernel
theorem d_M_onBoard_7 : decode b_M_onBoard 7 = .ok (.if_icmp .ge 27, 3) := by decide +kernel
theorem d_M_onBoard_10 : decode b_M_onBoard 10 = .ok (.iload_n 2, 1) := by decide +kernel
theorem d_M_onBoard_11 : decode b_M_onBoard 11 = .ok (.aload_n 0, 1) := by decide +kernel
theorem d_M_onBoard_12 : decode b_M_onBoard 12 = .ok (.getfield 42, 3) := by decide +kernel
theorem d_M_onBoard_15 : decode b_M_onBoard 15 = .ok (.iload_n 3, 1) := by decide +kernel
theorem d_M_onBoard_16 : decode b_M_onBoard 16 = .ok (.iaload, 1) := by decide +kernel
theorem d_M_onBoard_17 : decode b_M_onBoard 17 = .ok (.iload_n 1, 1) := by decide +kernel
theorem d_M_onBoard_18 : decode b_M_onBoard 18 = .ok (.if_icmp .ne 7, 3) := by decide +kernel
theorem d_M_onBoard_21 : decode b_M_onBoard 21 = .ok (.iconst 1, 1) := by decide +kernel
theorem d_M_onBoard_22 : decode b_M_onBoard 22 = .ok (.goto 4, 3) := by decide +kernel
theorem d_M_onBoard_25 : decode b_M_onBoard 25 = .ok (.iconst 0, 1) := by decide +kernel
theorem d_M_onBoard_26 : decode b_M_onBoard 26 = .ok (.iadd, 1) := by decide +kernel
theorem d_M_onBoard_27 : decode b_M_onBoard 27 = .ok (.istore_n 2, 1) := by decide +kernel
theorem d_M_onBoard_28 : decode b_M_onBoard 28 = .ok (.iinc 3 1, 3) := by decide +kernel
theorem d_M_onBoard_31 : decode b_M_onBoard 31 = .ok (.goto (-27), 3) := by decide +kernel
theorem d_M_onBoard_34 : decode b_M_onBoard 34 = .ok (.iload_n 2, 1) := by decide +kernel
theorem d_M_onBoard_35 : decode b_M_onBoard 35 = .ok (.ireturn, 1) := by decide +kernel
abbrev y_M_join : MethodName := ⟨"EntryRowsModel", "join", "(II)I"⟩
abbrev b_M_join : ByteArray := prog_5_method_25_code
abbrev w_M_join : Cond := .code y_M_join b_M_join 5 (some .int)
theorem cal_M_join : er_Cal y_M_join w_M_join 5 2 := ⟨er_mt (i := 677) (by decide +kernel) rfl, er_mt (i := 5) (by decide +kernel) rfl, ⟨by decide, by decide⟩, by decide +kernel, b_M_join, (some .int), [], Or.inl rfl⟩
theorem in_M_join : Cond.instanceMethod y_M_join ∈ er_tbl := er_mt (i := 675) (by decide +kernel) rfl
theorem se_M_join : Cond.selects "EntryRowsModel" y_M_join y_M_join ∈ er_tbl := er_mt (i := 676) (by decide +kernel) rfl
theorem d_M_join_0 : decode b_M_join 0 = .ok (.aload_n 0, 1) := by decide +kernel
theorem d_M_join_1 : decode b_M_join 1 = .ok (.iload_n 1, 1) := by decide +kernel
theorem d_M_join_2 : decode b_M_join 2 = .ok (.invokevirtual 80, 3) := by decide +kernel
theorem d_M_join_5 : decode b_M_join 5 = .ok (.ifCond .eq 11, 3) := by decide +kernel
theorem d_M_join_8 : decode b_M_join 8 = .ok (.aload_n 0, 1) := by decide +kernel
theorem d_M_join_9 : decode b_M_join 9 = .ok (.iload_n 2, 1) := by decide +kernel
theorem d_M_join_10 : decode b_M_join 10 = .ok (.invokevirtual 80, 3) := by decide +kernel
theorem d_M_join_13 : decode b_M_join 13 = .ok (.ifCond .ne 7, 3) := by decide +kernel
theorem d_M_join_16 : decode b_M_join 16 = .ok (.iconst 1, 1) := by decide +kernel
theorem d_M_join_17 : decode b_M_join 17 = .ok (.goto 4, 3) := by decide +kernel
theorem d_M_join_20 : decode b_M_join 20 = .ok (.iconst 0, 1) := by decide +kernel
theorem d_M_join_21 : decode b_M_join 21 = .ok (.istore_n 3, 1) := by decide +kernel
theorem d_M_join_22 : decode b_M_join 22 = .ok (.aload_n 0, 1) := by decide +kernel
theorem d_M_join_23 : decode b_M_join 23 = .ok (.iload_n 3, 1) := by decide +kernel
theorem d_M_join_24 : decode b_M_join 24 = .ok (.aload_n 0, 1) := by decide +kernel
theorem d_M_join_25 : decode b_M_join 25 = .ok (.iload_n 1, 1) := by decide +kernel
theorem d_M_join_26 : decode b_M_join 26 = .ok (.invokevirtual 115, 3) := by decide +kernel
theorem d_M_join_29 : decode b_M_join 29 = .ok (.ifCond .ne 16, 3) := by decide +kernel
theorem d_M_join_32 : decode b_M_join 32 = .ok (.aload_n 0, 1) := by decide +kernel
theorem d_M_join_33 : decode b_M_join 33 = .ok (.iload_n 2, 1) := by decide +kernel
theorem d_M_join_34 : decode b_M_join 34 = .ok (.invokevirtual 115, 3) := by decide +kernel
theorem d_M_join_37 : decode b_M_join 37 = .ok (.ifCond .ne 8, 3) := by decide +kernel
theorem d_M_join_40 : decode b_M_join 40 = .ok (.iload_n 1, 1) := by decide +kernel
theorem d_M_join_41 : decode b_M_join 41 = .ok (.iload_n 2, 1) := by decide +kernel
theorem d_M_join_42 : decode b_M_join 42 = .ok (.if_icmp .ne 7, 3) := by decide +kernel
theorem d_M_join_45 : decode b_M_join 45 = .ok (.iconst 1, 1) := by decide +kernel
theorem d_M_join_46 : decode b_M_join 46 = .ok (.goto 4, 3) := by decide +kernel
theorem d_M_join_49 : decode b_M_join 49 = .ok (.iconst 0, 1) := by decide +kernel
theorem d_M_join_50 : decode b_M_join 50 = .ok (.iconst 0, 1) := by decide +kernel
theorem d_M_join_51 : decode b_M_join 51 = .ok (.invokevirtual 84, 3) := by decide +kernel
theorem d_M_join_54 : decode b_M_join 54 = .ok (.ifCond .eq 5, 3) := by decide +kernel
theorem d_M_join_57 : decode b_M_join 57 = .ok (.iconst 0, 1) := by decide +kernel
theorem d_M_join_58 : decode b_M_join 58 = .ok (.ireturn, 1) := by decide +kernel
theorem d_M_join_59 : decode b_M_join 59 = .ok (.iconst 0, 1) := by decide +kernel
theorem d_M_join_60 : decode b_M_join 60 = .ok (.istore 4, 2) := by decide +kernel
theorem d_M_join_62 : decode b_M_join 62 = .ok (.iload 4, 2) := by decide +kernel
theorem d_M_join_64 : decode b_M_join 64 = .ok (.bipush 40, 2) := by decide +kernel
theorem d_M_join_66 : decode b_M_join 66 = .ok (.if_icmp .ge 28, 3) := by decide +kernel
theorem d_M_join_69 : decode b_M_join 69 = .ok (.aload_n 0, 1) := by decide +kernel
theorem d_M_join_70 : decode b_M_join 70 = .ok (.getfield 42, 3) := by decide +kernel
theorem d_M_join_73 : decode b_M_join 73 = .ok (.iload 4, 2) := by decide +kernel
theorem d_M_join_75 : decode b_M_join 75 = .ok (.iaload, 1) := by decide +kernel
theorem d_M_join_76 : decode b_M_join 76 = .ok (.iload_n 1, 1) := by decide +kernel
theorem d_M_join_77 : decode b_M_join 77 = .ok (.if_icmp .ne 11, 3) := by decide +kernel
theorem d_M_join_80 : decode b_M_join 80 = .ok (.aload_n 0, 1) := by decide +kernel
theorem d_M_join_81 : decode b_M_join 81 = .ok (.getfield 42, 3) := by decide +kernel
theorem d_M_join_84 : decode b_M_join 84 = .ok (.iload 4, 2) := by decide +kernel
theorem d_M_join_86 : decode b_M_join 86 = .ok (.iload_n 2, 1) := by decide +kernel
theorem d_M_join_87 : decode b_M_join 87 = .ok (.iastore, 1) := by decide +kernel
theorem d_M_join_88 : decode b_M_join 88 = .ok (.iinc 4 1, 3) := by decide +kernel
theorem d_M_join_91 : decode b_M_join 91 = .ok (.goto (-29), 3) := by decide +kernel
theorem d_M_join_94 : decode b_M_join 94 = .ok (.iconst 0, 1) := by decide +kernel
theorem d_M_join_95 : decode b_M_join 95 = .ok (.istore 4, 2) := by decide +kernel
theorem d_M_join_97 : decode b_M_join 97 = .ok (.iload 4, 2) := by decide +kernel
theorem d_M_join_99 : decode b_M_join 99 = .ok (.bipush 16, 2) := by decide +kernel
theorem d_M_join_101 : decode b_M_join 101 = .ok (.if_icmp .ge 28, 3) := by decide +kernel
theorem d_M_join_104 : decode b_M_join 104 = .ok (.aload_n 0, 1) := by decide +kernel
theorem d_M_join_105 : decode b_M_join 105 = .ok (.getfield 33, 3) := by decide +kernel
theorem d_M_join_108 : decode b_M_join 108 = .ok (.iload 4, 2) := by decide +kernel
theorem d_M_join_110 : decode b_M_join 110 = .ok (.iaload, 1) := by decide +kernel
theorem d_M_join_111 : decode b_M_join 111 = .ok (.iload_n 1, 1) := by decide +kernel
theorem d_M_join_112 : decode b_M_join 112 = .ok (.if_icmp .ne 11, 3) := by decide +kernel
theorem d_M_join_115 : decode b_M_join 115 = .ok (.aload_n 0, 1) := by decide +kernel
theorem d_M_join_116 : decode b_M_join 116 = .ok (.getfield 33, 3) := by decide +kernel
theorem d_M_join_119 : decode b_M_join 119 = .ok (.iload 4, 2) := by decide +kernel
theorem d_M_join_121 : decode b_M_join 121 = .ok (.iload_n 2, 1) := by decide +kernel
theorem d_M_join_122 : decode b_M_join 122 = .ok (.iastore, 1) := by decide +kernel
theorem d_M_join_123 : decode b_M_join 123 = .ok (.iinc 4 1, 3) := by decide +kernel
theorem d_M_join_126 : decode b_M_join 126 = .ok (.goto (-29), 3) := by decide +kernel
theorem d_M_join_129 : decode b_M_join 129 = .ok (.aload_n 0, 1) := by decide +kernel
theorem d_M_join_130 : decode b_M_join 130 = .ok (.getfield 17, 3) := by decide +kernel
theorem d_M_join_133 : decode b_M_join 133 = .ok (.iload_n 1, 1) := by decide +kernel
theorem d_M_join_134 : decode b_M_join 134 = .ok (.iconst 0, 1) := by decide +kernel
theorem d_M_join_135 : decode b_M_join 135 = .ok (.bastore, 1) := by decide +kernel
theorem d_M_join_136 : decode b_M_join 136 = .ok (.aload_n 0, 1) := by decide +kernel
theorem d_M_join_137 : decode b_M_join 137 = .ok (.getfield 30, 3) := by decide +kernel
theorem d_M_join_140 : decode b_M_join 140 = .ok (.iload_n 1, 1) := by decide +kernel
theorem d_M_join_141 : decode b_M_join 141 = .ok (.iconst (-1), 1) := by decide +kernel
theorem d_M_join_142 : decode b_M_join 142 = .ok (.iastore, 1) := by decide +kernel
theorem d_M_join_143 : decode b_M_join 143 = .ok (.aload_n 0, 1) := by decide +kernel
theorem d_M_join_144 : decode b_M_join 144 = .ok (.iload_n 2, 1) := by decide +kernel
theorem d_M_join_145 : decode b_M_join 145 = .ok (.invokevirtual 118, 3) := by decide +kernel
theorem d_M_join_148 : decode b_M_join 148 = .ok (.ireturn, 1) := by decide +kernel
theorem lk_M_115 : Cond.methodLink "EntryRowsModel" 115 y_M_isShut ∈ er_tbl ∨ ∃ host, Cond.methodLinkNest "EntryRowsModel" 115 y_M_isShut host ∈ er_tbl := Or.inl (er_mt (i := 678) (by decide +kernel) rfl)
theorem lk_M_118 : Cond.methodLink "EntryRowsModel" 118 y_M_onBoard ∈ er_tbl ∨ ∃ host, Cond.methodLinkNest "EntryRowsModel" 118 y_M_onBoard host ∈ er_tbl := Or.inl (er_mt (i := 682) (by decide +kernel) rfl)
abbrev y_M_close : MethodName := ⟨"EntryRowsModel", "close", "(I)V"⟩
abbrev b_M_close : ByteArray := prog_5_method_26_code
abbrev w_M_close : Cond := .code y_M_close b_M_close 3 none
theorem cal_M_close : er_Cal y_M_close w_M_close 3 1 := ⟨er_mt (i := 689) (by decide +kernel) rfl, er_mt (i := 5) (by decide +kernel) rfl, ⟨by decide, by decide⟩, by decide +kernel, b_M_close, none, [], Or.inl rfl⟩
theorem in_M_close : Cond.instanceMethod y_M_close ∈ er_tbl := er_mt (i := 687) (by decide +kernel) rfl
theorem se_M_close : Cond.selects "EntryRowsModel" y_M_close y_M_close ∈ er_tbl := er_mt (i := 688) (by decide +kernel) rfl
theorem d_M_close_0 : decode b_M_close 0 = .ok (.aload_n 0, 1) := by decide +kernel
theorem d_M_close_1 : decode b_M_close 1 = .ok (.aload_n 0, 1) := by decide +kernel
theorem d_M_close_2 : decode b_M_close 2 = .ok (.iload_n 1, 1) := by decide +kernel
theorem d_M_close_3 : decode b_M_close 3 = .ok (.invokevirtual 80, 3) := by decide +kernel
theorem d_M_close_6 : decode b_M_close 6 = .ok (.ifCond .ne 7, 3) := by decide +kernel
theorem d_M_close_9 : decode b_M_close 9 = .ok (.iconst 1, 1) := by decide +kernel
theorem d_M_close_10 : decode b_M_close 10 = .ok (.goto 4, 3) := by decide +kernel
theorem d_M_close_13 : decode b_M_close 13 = .ok (.iconst 0, 1) := by decide +kernel
theorem d_M_close_14 : decode b_M_close 14 = .ok (.aload_n 0, 1) := by decide +kernel
theorem d_M_close_15 : decode b_M_close 15 = .ok (.iload_n 1, 1) := by decide +kernel
theorem d_M_close_16 : decode b_M_close 16 = .ok (.invokevirtual 115, 3) := by decide +kernel
theorem d_M_close_19 : decode b_M_close 19 = .ok (.ifCond .ne 19, 3) := by decide +kernel
theorem d_M_close_22 : decode b_M_close 22 = .ok (.aload_n 0, 1) := by decide +kernel
theorem d_M_close_23 : decode b_M_close 23 = .ok (.iload_n 1, 1) := by decide +kernel
theorem d_M_close_24 : decode b_M_close 24 = .ok (.invokevirtual 80, 3) := by decide +kernel
theorem d_M_close_27 : decode b_M_close 27 = .ok (.ifCond .eq 15, 3) := by decide +kernel
theorem d_M_close_30 : decode b_M_close 30 = .ok (.aload_n 0, 1) := by decide +kernel
theorem d_M_close_31 : decode b_M_close 31 = .ok (.iload_n 1, 1) := by decide +kernel
theorem d_M_close_32 : decode b_M_close 32 = .ok (.invokevirtual 118, 3) := by decide +kernel
theorem d_M_close_35 : decode b_M_close 35 = .ok (.ifCond .le 7, 3) := by decide +kernel
theorem d_M_close_38 : decode b_M_close 38 = .ok (.iconst 1, 1) := by decide +kernel
theorem d_M_close_39 : decode b_M_close 39 = .ok (.goto 4, 3) := by decide +kernel
theorem d_M_close_42 : decode b_M_close 42 = .ok (.iconst 0, 1) := by decide +kernel
theorem d_M_close_43 : decode b_M_close 43 = .ok (.iconst 0, 1) := by decide +kernel
theorem d_M_close_44 : decode b_M_close 44 = .ok (.invokevirtual 84, 3) := by decide +kernel
theorem d_M_close_47 : decode b_M_close 47 = .ok (.ifCond .eq 4, 3) := by decide +kernel
theorem d_M_close_50 : decode b_M_close 50 = .ok (.return_, 1) := by decide +kernel
theorem d_M_close_51 : decode b_M_close 51 = .ok (.iconst 0, 1) := by decide +kernel
theorem d_M_close_52 : decode b_M_close 52 = .ok (.istore_n 2, 1) := by decide +kernel
theorem d_M_close_53 : decode b_M_close 53 = .ok (.iload_n 2, 1) := by decide +kernel
theorem d_M_close_54 : decode b_M_close 54 = .ok (.bipush 16, 2) := by decide +kernel
theorem d_M_close_56 : decode b_M_close 56 = .ok (.if_icmp .ge 26, 3) := by decide +kernel
theorem d_M_close_59 : decode b_M_close 59 = .ok (.aload_n 0, 1) := by decide +kernel
theorem d_M_close_60 : decode b_M_close 60 = .ok (.getfield 33, 3) := by decide +kernel
theorem d_M_close_63 : decode b_M_close 63 = .ok (.iload_n 2, 1) := by decide +kernel
theorem d_M_close_64 : decode b_M_close 64 = .ok (.iaload, 1) := by decide +kernel
theorem d_M_close_65 : decode b_M_close 65 = .ok (.iload_n 1, 1) := by decide +kernel
theorem d_M_close_66 : decode b_M_close 66 = .ok (.if_icmp .ne 10, 3) := by decide +kernel
theorem d_M_close_69 : decode b_M_close 69 = .ok (.aload_n 0, 1) := by decide +kernel
theorem d_M_close_70 : decode b_M_close 70 = .ok (.getfield 33, 3) := by decide +kernel
theorem d_M_close_73 : decode b_M_close 73 = .ok (.iload_n 2, 1) := by decide +kernel
theorem d_M_close_74 : decode b_M_close 74 = .ok (.iconst (-1), 1) := by decide +kernel
theorem d_M_close_75 : decode b_M_close 75 = .ok (.iastore, 1) := by decide +kernel
theorem d_M_close_76 : decode b_M_close 76 = .ok (.iinc 2 1, 3) := by decide +kernel
theorem d_M_close_79 : decode b_M_close 79 = .ok (.goto (-26), 3) := by decide +kernel
theorem d_M_close_82 : decode b_M_close 82 = .ok (.aload_n 0, 1) := by decide +kernel
theorem d_M_close_83 : decode b_M_close 83 = .ok (.getfield 17, 3) := by decide +kernel
theorem d_M_close_86 : decode b_M_close 86 = .ok (.iload_n 1, 1) := by decide +kernel
theorem d_M_close_87 : decode b_M_close 87 = .ok (.iconst 0, 1) := by decide +kernel
theorem d_M_close_88 : decode b_M_close 88 = .ok (.bastore, 1) := by decide +kernel
theorem d_M_close_89 : decode b_M_close 89 = .ok (.aload_n 0, 1) := by decide +kernel
theorem d_M_close_90 : decode b_M_close 90 = .ok (.getfield 30, 3) := by decide +kernel
theorem d_M_close_93 : decode b_M_close 93 = .ok (.iload_n 1, 1) := by decide +kernel
theorem d_M_close_94 : decode b_M_close 94 = .ok (.iconst (-1), 1) := by decide +kernel
theorem d_M_close_95 : decode b_M_close 95 = .ok (.iastore, 1) := by decide +kernel
theorem d_M_close_96 : decode b_M_close 96 = .ok (.return_, 1) := by decide +kernel
abbrev y_M_isLate : MethodName := ⟨"EntryRowsModel", "isLate", "(II)Z"⟩
abbrev b_M_isLate : ByteArray := prog_5_method_27_code
abbrev w_M_isLate : Cond := .code y_M_isLate b_M_isLate 3 (some .boolean)
theorem cal_M_isLate : er_Cal y_M_isLate w_M_isLate 3 2 := ⟨er_mt (i := 698) (by decide +kernel) rfl, er_mt (i := 5) (by decide +kernel) rfl, ⟨by decide, by decide⟩, by decide +kernel, b_M_isLate, (some .boolean), [], Or.inl rfl⟩
theorem in_M_isLate : Cond.instanceMethod y_M_isLate ∈ er_tbl := er_mt (i := 697) (by decide +kernel) rfl
theorem se_M_isLate : Cond.selects "EntryRowsModel" y_M_isLate y_M_isLate ∈ er_tbl := er_ms (i := 35) (by decide +kernel) rfl
theorem d_M_isLate_0 : decode b_M_isLate 0 = .ok (.aload_n 0, 1) := by decide +kernel
theorem d_M_isLate_1 : decode b_M_isLate 1 = .ok (.getfield 42, 3) := by decide +kernel
theorem d_M_isLate_4 : decode b_M_isLate 4 = .ok (.iload_n 1, 1) := by decide +kernel
theorem d_M_isLate_5 : decode b_M_isLate 5 = .ok (.iaload, 1) := by decide +kernel
theorem d_M_isLate_6 : decode b_M_isLate 6 = .ok (.ifCond .lt 29, 3) := by decide +kernel
theorem d_M_isLate_9 : decode b_M_isLate 9 = .ok (.iload_n 2, 1) := by decide +kernel
theorem d_M_isLate_10 : decode b_M_isLate 10 = .ok (.aload_n 0, 1) := by decide +kernel
theorem d_M_isLate_11 : decode b_M_isLate 11 = .ok (.getfield 54, 3) := by decide +kernel
theorem d_M_isLate_14 : decode b_M_isLate 14 = .ok (.iload_n 1, 1) := by decide +kernel
theorem d_M_isLate_15 : decode b_M_isLate 15 = .ok (.iaload, 1) := by decide +kernel
theorem d_M_isLate_16 : decode b_M_isLate 16 = .ok (.isub, 1) := by decide +kernel
theorem d_M_isLate_17 : decode b_M_isLate 17 = .ok (.aload_n 0, 1) := by decide +kernel
theorem d_M_isLate_18 : decode b_M_isLate 18 = .ok (.getfield 24, 3) := by decide +kernel
theorem d_M_isLate_21 : decode b_M_isLate 21 = .ok (.aload_n 0, 1) := by decide +kernel
theorem d_M_isLate_22 : decode b_M_isLate 22 = .ok (.getfield 42, 3) := by decide +kernel
theorem d_M_isLate_25 : decode b_M_isLate 25 = .ok (.iload_n 1, 1) := by decide +kernel
theorem d_M_isLate_26 : decode b_M_isLate 26 = .ok (.iaload, 1) := by decide +kernel
theorem d_M_isLate_27 : decode b_M_isLate 27 = .ok (.iaload, 1) := by decide +kernel
theorem d_M_isLate_28 : decode b_M_isLate 28 = .ok (.if_icmp .le 7, 3) := by decide +kernel
theorem d_M_isLate_31 : decode b_M_isLate 31 = .ok (.iconst 1, 1) := by decide +kernel
theorem d_M_isLate_32 : decode b_M_isLate 32 = .ok (.goto 4, 3) := by decide +kernel
theorem d_M_isLate_35 : decode b_M_isLate 35 = .ok (.iconst 0, 1) := by decide +kernel
theorem d_M_isLate_36 : decode b_M_isLate 36 = .ok (.ireturn, 1) := by decide +kernel
abbrev y_M_tick : MethodName := ⟨"EntryRowsModel", "tick", "(I)I"⟩
abbrev b_M_tick : ByteArray := prog_5_method_28_code
abbrev w_M_tick : Cond := .code y_M_tick b_M_tick 4 (some .int)
theorem cal_M_tick : er_Cal y_M_tick w_M_tick 4 1 := ⟨er_mt (i := 693) (by decide +kernel) rfl, er_mt (i := 5) (by decide +kernel) rfl, ⟨by decide, by decide⟩, by decide +kernel, b_M_tick, (some .int), [], Or.inl rfl⟩
theorem in_M_tick : Cond.instanceMethod y_M_tick ∈ er_tbl := er_mt (i := 691) (by decide +kernel) rfl
theorem se_M_tick : Cond.selects "EntryRowsModel" y_M_tick y_M_tick ∈ er_tbl := er_mt (i := 692) (by decide +kernel) rfl
theorem d_M_tick_0 : decode b_M_tick 0 = .ok (.aload_n 0, 1) := by decide +kernel
theorem d_M_tick_1 : decode b_M_tick 1 = .ok (.iload_n 1, 1) := by decide +kernel
theorem d_M_tick_2 : decode b_M_tick 2 = .ok (.iconst 1, 1) := by decide +kernel
theorem d_M_tick_3 : decode b_M_tick 3 = .ok (.sipush 5000, 3) := by decide +kernel
theorem d_M_tick_6 : decode b_M_tick 6 = .ok (.invokestatic 73, 3) := by decide +kernel
theorem d_M_tick_9 : decode b_M_tick 9 = .ok (.ifCond .eq 14, 3) := by decide +kernel
theorem d_M_tick_12 : decode b_M_tick 12 = .ok (.aload_n 0, 1) := by decide +kernel
theorem d_M_tick_13 : decode b_M_tick 13 = .ok (.getfield 101, 3) := by decide +kernel
theorem d_M_tick_16 : decode b_M_tick 16 = .ok (.iload_n 1, 1) := by decide +kernel
theorem d_M_tick_17 : decode b_M_tick 17 = .ok (.iadd, 1) := by decide +kernel
theorem d_M_tick_18 : decode b_M_tick 18 = .ok (.ldc 121, 2) := by decide +kernel
theorem d_M_tick_20 : decode b_M_tick 20 = .ok (.if_icmp .le 7, 3) := by decide +kernel
theorem d_M_tick_23 : decode b_M_tick 23 = .ok (.iconst 1, 1) := by decide +kernel
theorem d_M_tick_24 : decode b_M_tick 24 = .ok (.goto 4, 3) := by decide +kernel
theorem d_M_tick_27 : decode b_M_tick 27 = .ok (.iconst 0, 1) := by decide +kernel
theorem d_M_tick_28 : decode b_M_tick 28 = .ok (.iconst 0, 1) := by decide +kernel
theorem d_M_tick_29 : decode b_M_tick 29 = .ok (.iconst 0, 1) := by decide +kernel
theorem d_M_tick_30 : decode b_M_tick 30 = .ok (.invokevirtual 84, 3) := by decide +kernel
theorem d_M_tick_33 : decode b_M_tick 33 = .ok (.ifCond .eq 5, 3) := by decide +kernel
theorem d_M_tick_36 : decode b_M_tick 36 = .ok (.iconst 0, 1) := by decide +kernel
theorem d_M_tick_37 : decode b_M_tick 37 = .ok (.ireturn, 1) := by decide +kernel
theorem d_M_tick_38 : decode b_M_tick 38 = .ok (.iconst 0, 1) := by decide +kernel
theorem d_M_tick_39 : decode b_M_tick 39 = .ok (.istore_n 2, 1) := by decide +kernel
theorem d_M_tick_40 : decode b_M_tick 40 = .ok (.iconst 0, 1) := by decide +kernel
theorem d_M_tick_41 : decode b_M_tick 41 = .ok (.istore_n 3, 1) := by decide +kernel
theorem d_M_tick_42 : decode b_M_tick 42 = .ok (.iload_n 3, 1) := by decide +kernel
theorem d_M_tick_43 : decode b_M_tick 43 = .ok (.bipush 40, 2) := by decide +kernel
theorem d_M_tick_45 : decode b_M_tick 45 = .ok (.if_icmp .ge 43, 3) := by decide +kernel
theorem d_M_tick_48 : decode b_M_tick 48 = .ok (.iload_n 2, 1) := by decide +kernel
theorem d_M_tick_49 : decode b_M_tick 49 = .ok (.aload_n 0, 1) := by decide +kernel
theorem d_M_tick_50 : decode b_M_tick 50 = .ok (.iload_n 3, 1) := by decide +kernel
theorem d_M_tick_51 : decode b_M_tick 51 = .ok (.aload_n 0, 1) := by decide +kernel
theorem d_M_tick_52 : decode b_M_tick 52 = .ok (.getfield 101, 3) := by decide +kernel
theorem d_M_tick_55 : decode b_M_tick 55 = .ok (.invokevirtual 122, 3) := by decide +kernel
theorem d_M_tick_58 : decode b_M_tick 58 = .ok (.ifCond .ne 21, 3) := by decide +kernel
theorem d_M_tick_61 : decode b_M_tick 61 = .ok (.aload_n 0, 1) := by decide +kernel
theorem d_M_tick_62 : decode b_M_tick 62 = .ok (.iload_n 3, 1) := by decide +kernel
theorem d_M_tick_63 : decode b_M_tick 63 = .ok (.aload_n 0, 1) := by decide +kernel
theorem d_M_tick_64 : decode b_M_tick 64 = .ok (.getfield 101, 3) := by decide +kernel
theorem d_M_tick_67 : decode b_M_tick 67 = .ok (.iload_n 1, 1) := by decide +kernel
theorem d_M_tick_68 : decode b_M_tick 68 = .ok (.iadd, 1) := by decide +kernel
theorem d_M_tick_69 : decode b_M_tick 69 = .ok (.invokevirtual 122, 3) := by decide +kernel
theorem d_M_tick_72 : decode b_M_tick 72 = .ok (.ifCond .eq 7, 3) := by decide +kernel
theorem d_M_tick_75 : decode b_M_tick 75 = .ok (.iconst 1, 1) := by decide +kernel
theorem d_M_tick_76 : decode b_M_tick 76 = .ok (.goto 4, 3) := by decide +kernel
theorem d_M_tick_79 : decode b_M_tick 79 = .ok (.iconst 0, 1) := by decide +kernel
theorem d_M_tick_80 : decode b_M_tick 80 = .ok (.iadd, 1) := by decide +kernel
theorem d_M_tick_81 : decode b_M_tick 81 = .ok (.istore_n 2, 1) := by decide +kernel
theorem d_M_tick_82 : decode b_M_tick 82 = .ok (.iinc 3 1, 3) := by decide +kernel
theorem d_M_tick_85 : decode b_M_tick 85 = .ok (.goto (-43), 3) := by decide +kernel
theorem d_M_tick_88 : decode b_M_tick 88 = .ok (.aload_n 0, 1) := by decide +kernel
theorem d_M_tick_89 : decode b_M_tick 89 = .ok (.dup, 1) := by decide +kernel
theorem d_M_tick_90 : decode b_M_tick 90 = .ok (.getfield 101, 3) := by decide +kernel
theorem d_M_tick_93 : decode b_M_tick 93 = .ok (.iload_n 1, 1) := by decide +kernel
theorem d_M_tick_94 : decode b_M_tick 94 = .ok (.iadd, 1) := by decide +kernel
theorem d_M_tick_95 : decode b_M_tick 95 = .ok (.putfield 101, 3) := by decide +kernel
theorem d_M_tick_98 : decode b_M_tick 98 = .ok (.iload_n 2, 1) := by decide +kernel
theorem d_M_tick_99 : decode b_M_tick 99 = .ok (.ireturn, 1) := by decide +kernel
theorem k_M_121 : Cond.constant "EntryRowsModel" 121 (999999) ∈ er_tbl := er_mt (i := 694) (by decide +kernel) rfl
theorem lk_M_122 : Cond.methodLink "EntryRowsModel" 122 y_M_isLate ∈ er_tbl ∨ ∃ host, Cond.methodLinkNest "EntryRowsModel" 122 y_M_isLate host ∈ er_tbl := Or.inl (er_mt (i := 695) (by decide +kernel) rfl)
theorem fp_M_101 : er_Fp "EntryRowsModel" 101 3 1 := ⟨_, er_T3, 22, er_ty3, rfl, by decide, er_i3, rfl, er_mt (i := 531) (by decide +kernel) rfl, rfl, by decide +kernel, er_tyok3, er_nm3⟩
abbrev y_M_behind : MethodName := ⟨"EntryRowsModel", "behind", "(II)I"⟩
abbrev b_M_behind : ByteArray := prog_5_method_29_code
abbrev w_M_behind : Cond := .code y_M_behind b_M_behind 6 (some .int)
theorem cal_M_behind : er_Cal y_M_behind w_M_behind 6 2 := ⟨er_mt (i := 706) (by decide +kernel) rfl, er_mt (i := 5) (by decide +kernel) rfl, ⟨by decide, by decide⟩, by decide +kernel, b_M_behind, (some .int), [], Or.inl rfl⟩
theorem in_M_behind : Cond.instanceMethod y_M_behind ∈ er_tbl := er_mt (i := 705) (by decide +kernel) rfl
theorem se_M_behind : Cond.selects "EntryRowsModel" y_M_behind y_M_behind ∈ er_tbl := er_ms (i := 36) (by decide +kernel) rfl
theorem d_M_behind_0 : decode b_M_behind 0 = .ok (.iconst 0, 1) := by decide +kernel
theorem d_M_behind_1 : decode b_M_behind 1 = .ok (.istore_n 3, 1) := by decide +kernel
theorem d_M_behind_2 : decode b_M_behind 2 = .ok (.iload_n 3, 1) := by decide +kernel
theorem d_M_behind_3 : decode b_M_behind 3 = .ok (.bipush 40, 2) := by decide +kernel
theorem d_M_behind_5 : decode b_M_behind 5 = .ok (.if_icmp .ge 83, 3) := by decide +kernel
theorem d_M_behind_8 : decode b_M_behind 8 = .ok (.iconst 0, 1) := by decide +kernel
theorem d_M_behind_9 : decode b_M_behind 9 = .ok (.istore 4, 2) := by decide +kernel
theorem d_M_behind_11 : decode b_M_behind 11 = .ok (.iconst 0, 1) := by decide +kernel
theorem d_M_behind_12 : decode b_M_behind 12 = .ok (.istore 5, 2) := by decide +kernel
theorem d_M_behind_14 : decode b_M_behind 14 = .ok (.iload 5, 2) := by decide +kernel
theorem d_M_behind_16 : decode b_M_behind 16 = .ok (.bipush 40, 2) := by decide +kernel
theorem d_M_behind_18 : decode b_M_behind 18 = .ok (.if_icmp .ge 46, 3) := by decide +kernel
theorem d_M_behind_21 : decode b_M_behind 21 = .ok (.iload 4, 2) := by decide +kernel
theorem d_M_behind_23 : decode b_M_behind 23 = .ok (.aload_n 0, 1) := by decide +kernel
theorem d_M_behind_24 : decode b_M_behind 24 = .ok (.getfield 42, 3) := by decide +kernel
theorem d_M_behind_27 : decode b_M_behind 27 = .ok (.iload 5, 2) := by decide +kernel
theorem d_M_behind_29 : decode b_M_behind 29 = .ok (.iaload, 1) := by decide +kernel
theorem d_M_behind_30 : decode b_M_behind 30 = .ok (.iload_n 1, 1) := by decide +kernel
theorem d_M_behind_31 : decode b_M_behind 31 = .ok (.if_icmp .ne 23, 3) := by decide +kernel
theorem d_M_behind_34 : decode b_M_behind 34 = .ok (.aload_n 0, 1) := by decide +kernel
theorem d_M_behind_35 : decode b_M_behind 35 = .ok (.getfield 45, 3) := by decide +kernel
theorem d_M_behind_38 : decode b_M_behind 38 = .ok (.iload 5, 2) := by decide +kernel
theorem d_M_behind_40 : decode b_M_behind 40 = .ok (.iaload, 1) := by decide +kernel
theorem d_M_behind_41 : decode b_M_behind 41 = .ok (.aload_n 0, 1) := by decide +kernel
theorem d_M_behind_42 : decode b_M_behind 42 = .ok (.getfield 45, 3) := by decide +kernel
theorem d_M_behind_45 : decode b_M_behind 45 = .ok (.iload_n 3, 1) := by decide +kernel
theorem d_M_behind_46 : decode b_M_behind 46 = .ok (.iaload, 1) := by decide +kernel
theorem d_M_behind_47 : decode b_M_behind 47 = .ok (.if_icmp .ge 7, 3) := by decide +kernel
theorem d_M_behind_50 : decode b_M_behind 50 = .ok (.iconst 1, 1) := by decide +kernel
theorem d_M_behind_51 : decode b_M_behind 51 = .ok (.goto 4, 3) := by decide +kernel
theorem d_M_behind_54 : decode b_M_behind 54 = .ok (.iconst 0, 1) := by decide +kernel
theorem d_M_behind_55 : decode b_M_behind 55 = .ok (.iadd, 1) := by decide +kernel
theorem d_M_behind_56 : decode b_M_behind 56 = .ok (.istore 4, 2) := by decide +kernel
theorem d_M_behind_58 : decode b_M_behind 58 = .ok (.iinc 5 1, 3) := by decide +kernel
theorem d_M_behind_61 : decode b_M_behind 61 = .ok (.goto (-47), 3) := by decide +kernel
theorem d_M_behind_64 : decode b_M_behind 64 = .ok (.aload_n 0, 1) := by decide +kernel
theorem d_M_behind_65 : decode b_M_behind 65 = .ok (.getfield 42, 3) := by decide +kernel
theorem d_M_behind_68 : decode b_M_behind 68 = .ok (.iload_n 3, 1) := by decide +kernel
theorem d_M_behind_69 : decode b_M_behind 69 = .ok (.iaload, 1) := by decide +kernel
theorem d_M_behind_70 : decode b_M_behind 70 = .ok (.iload_n 1, 1) := by decide +kernel
theorem d_M_behind_71 : decode b_M_behind 71 = .ok (.if_icmp .ne 11, 3) := by decide +kernel
theorem d_M_behind_74 : decode b_M_behind 74 = .ok (.iload 4, 2) := by decide +kernel
theorem d_M_behind_76 : decode b_M_behind 76 = .ok (.iload_n 2, 1) := by decide +kernel
theorem d_M_behind_77 : decode b_M_behind 77 = .ok (.if_icmp .ne 5, 3) := by decide +kernel
theorem d_M_behind_80 : decode b_M_behind 80 = .ok (.iload_n 3, 1) := by decide +kernel
theorem d_M_behind_81 : decode b_M_behind 81 = .ok (.ireturn, 1) := by decide +kernel
theorem d_M_behind_82 : decode b_M_behind 82 = .ok (.iinc 3 1, 3) := by decide +kernel
theorem d_M_behind_85 : decode b_M_behind 85 = .ok (.goto (-83), 3) := by decide +kernel
theorem d_M_behind_88 : decode b_M_behind 88 = .ok (.iconst (-1), 1) := by decide +kernel
theorem d_M_behind_89 : decode b_M_behind 89 = .ok (.ireturn, 1) := by decide +kernel
abbrev y_M_on : MethodName := ⟨"EntryRowsModel", "on", "(II)I"⟩
abbrev b_M_on : ByteArray := prog_5_method_30_code
abbrev w_M_on : Cond := .code y_M_on b_M_on 3 (some .int)
theorem cal_M_on : er_Cal y_M_on w_M_on 3 2 := ⟨er_mt (i := 702) (by decide +kernel) rfl, er_mt (i := 5) (by decide +kernel) rfl, ⟨by decide, by decide⟩, by decide +kernel, b_M_on, (some .int), [], Or.inl rfl⟩
theorem in_M_on : Cond.instanceMethod y_M_on ∈ er_tbl := er_mt (i := 700) (by decide +kernel) rfl
theorem se_M_on : Cond.selects "EntryRowsModel" y_M_on y_M_on ∈ er_tbl := er_mt (i := 701) (by decide +kernel) rfl
theorem d_M_on_0 : decode b_M_on 0 = .ok (.aload_n 0, 1) := by decide +kernel
theorem d_M_on_1 : decode b_M_on 1 = .ok (.aload_n 0, 1) := by decide +kernel
theorem d_M_on_2 : decode b_M_on 2 = .ok (.iload_n 1, 1) := by decide +kernel
theorem d_M_on_3 : decode b_M_on 3 = .ok (.invokevirtual 80, 3) := by decide +kernel
theorem d_M_on_6 : decode b_M_on 6 = .ok (.ifCond .ne 7, 3) := by decide +kernel
theorem d_M_on_9 : decode b_M_on 9 = .ok (.iconst 1, 1) := by decide +kernel
theorem d_M_on_10 : decode b_M_on 10 = .ok (.goto 4, 3) := by decide +kernel
theorem d_M_on_13 : decode b_M_on 13 = .ok (.iconst 0, 1) := by decide +kernel
theorem d_M_on_14 : decode b_M_on 14 = .ok (.iload_n 2, 1) := by decide +kernel
theorem d_M_on_15 : decode b_M_on 15 = .ok (.ifCond .ge 7, 3) := by decide +kernel
theorem d_M_on_18 : decode b_M_on 18 = .ok (.iconst 1, 1) := by decide +kernel
theorem d_M_on_19 : decode b_M_on 19 = .ok (.goto 4, 3) := by decide +kernel
theorem d_M_on_22 : decode b_M_on 22 = .ok (.iconst 0, 1) := by decide +kernel
theorem d_M_on_23 : decode b_M_on 23 = .ok (.iconst 0, 1) := by decide +kernel
theorem d_M_on_24 : decode b_M_on 24 = .ok (.invokevirtual 84, 3) := by decide +kernel
theorem d_M_on_27 : decode b_M_on 27 = .ok (.ifCond .eq 5, 3) := by decide +kernel
theorem d_M_on_30 : decode b_M_on 30 = .ok (.iconst 0, 1) := by decide +kernel
theorem d_M_on_31 : decode b_M_on 31 = .ok (.ireturn, 1) := by decide +kernel
theorem d_M_on_32 : decode b_M_on 32 = .ok (.aload_n 0, 1) := by decide +kernel
theorem d_M_on_33 : decode b_M_on 33 = .ok (.iload_n 1, 1) := by decide +kernel
theorem d_M_on_34 : decode b_M_on 34 = .ok (.iload_n 2, 1) := by decide +kernel
theorem d_M_on_35 : decode b_M_on 35 = .ok (.invokevirtual 125, 3) := by decide +kernel
theorem d_M_on_38 : decode b_M_on 38 = .ok (.ireturn, 1) := by decide +kernel
theorem lk_M_125 : Cond.methodLink "EntryRowsModel" 125 y_M_behind ∈ er_tbl ∨ ∃ host, Cond.methodLinkNest "EntryRowsModel" 125 y_M_behind host ∈ er_tbl := Or.inl (er_mt (i := 703) (by decide +kernel) rfl)
abbrev y_M_late : MethodName := ⟨"EntryRowsModel", "late", "(I)I"⟩
abbrev b_M_late : ByteArray := prog_5_method_31_code
abbrev w_M_late : Cond := .code y_M_late b_M_late 4 (some .int)
theorem cal_M_late : er_Cal y_M_late w_M_late 4 1 := ⟨er_mt (i := 710) (by decide +kernel) rfl, er_mt (i := 5) (by decide +kernel) rfl, ⟨by decide, by decide⟩, by decide +kernel, b_M_late, (some .int), [], Or.inl rfl⟩
theorem in_M_late : Cond.instanceMethod y_M_late ∈ er_tbl := er_mt (i := 708) (by decide +kernel) rfl
theorem se_M_late : Cond.selects "EntryRowsModel" y_M_late y_M_late ∈ er_tbl := er_mt (i := 709) (by decide +kernel) rfl
theorem d_M_late_0 : decode b_M_late 0 = .ok (.aload_n 0, 1) := by decide +kernel
theorem d_M_late_1 : decode b_M_late 1 = .ok (.iload_n 1, 1) := by decide +kernel
theorem d_M_late_2 : decode b_M_late 2 = .ok (.ifCond .ge 7, 3) := by decide +kernel
theorem d_M_late_5 : decode b_M_late 5 = .ok (.iconst 1, 1) := by decide +kernel
theorem d_M_late_6 : decode b_M_late 6 = .ok (.goto 4, 3) := by decide +kernel
theorem d_M_late_9 : decode b_M_late 9 = .ok (.iconst 0, 1) := by decide +kernel
theorem d_M_late_10 : decode b_M_late 10 = .ok (.iconst 0, 1) := by decide +kernel
theorem d_M_late_11 : decode b_M_late 11 = .ok (.iconst 0, 1) := by decide +kernel
theorem d_M_late_12 : decode b_M_late 12 = .ok (.invokevirtual 84, 3) := by decide +kernel
theorem d_M_late_15 : decode b_M_late 15 = .ok (.ifCond .eq 5, 3) := by decide +kernel
theorem d_M_late_18 : decode b_M_late 18 = .ok (.iconst 0, 1) := by decide +kernel
theorem d_M_late_19 : decode b_M_late 19 = .ok (.ireturn, 1) := by decide +kernel
theorem d_M_late_20 : decode b_M_late 20 = .ok (.iload_n 1, 1) := by decide +kernel
theorem d_M_late_21 : decode b_M_late 21 = .ok (.istore_n 2, 1) := by decide +kernel
theorem d_M_late_22 : decode b_M_late 22 = .ok (.iconst 0, 1) := by decide +kernel
theorem d_M_late_23 : decode b_M_late 23 = .ok (.istore_n 3, 1) := by decide +kernel
theorem d_M_late_24 : decode b_M_late 24 = .ok (.iload_n 3, 1) := by decide +kernel
theorem d_M_late_25 : decode b_M_late 25 = .ok (.bipush 40, 2) := by decide +kernel
theorem d_M_late_27 : decode b_M_late 27 = .ok (.if_icmp .ge 30, 3) := by decide +kernel
theorem d_M_late_30 : decode b_M_late 30 = .ok (.aload_n 0, 1) := by decide +kernel
theorem d_M_late_31 : decode b_M_late 31 = .ok (.iload_n 3, 1) := by decide +kernel
theorem d_M_late_32 : decode b_M_late 32 = .ok (.aload_n 0, 1) := by decide +kernel
theorem d_M_late_33 : decode b_M_late 33 = .ok (.getfield 101, 3) := by decide +kernel
theorem d_M_late_36 : decode b_M_late 36 = .ok (.invokevirtual 122, 3) := by decide +kernel
theorem d_M_late_39 : decode b_M_late 39 = .ok (.ifCond .eq 12, 3) := by decide +kernel
theorem d_M_late_42 : decode b_M_late 42 = .ok (.iload_n 2, 1) := by decide +kernel
theorem d_M_late_43 : decode b_M_late 43 = .ok (.ifCond .ne 5, 3) := by decide +kernel
theorem d_M_late_46 : decode b_M_late 46 = .ok (.iload_n 3, 1) := by decide +kernel
theorem d_M_late_47 : decode b_M_late 47 = .ok (.ireturn, 1) := by decide +kernel
theorem d_M_late_48 : decode b_M_late 48 = .ok (.iinc 2 (-1), 3) := by decide +kernel
theorem d_M_late_51 : decode b_M_late 51 = .ok (.iinc 3 1, 3) := by decide +kernel
theorem d_M_late_54 : decode b_M_late 54 = .ok (.goto (-30), 3) := by decide +kernel
theorem d_M_late_57 : decode b_M_late 57 = .ok (.iconst (-1), 1) := by decide +kernel
theorem d_M_late_58 : decode b_M_late 58 = .ok (.ireturn, 1) := by decide +kernel
abbrev y_M_person : MethodName := ⟨"EntryRowsModel", "person", "(II)I"⟩
abbrev b_M_person : ByteArray := prog_5_method_32_code
abbrev w_M_person : Cond := .code y_M_person b_M_person 3 (some .int)
theorem cal_M_person : er_Cal y_M_person w_M_person 3 2 := ⟨er_mt (i := 714) (by decide +kernel) rfl, er_mt (i := 5) (by decide +kernel) rfl, ⟨by decide, by decide⟩, by decide +kernel, b_M_person, (some .int), [], Or.inl rfl⟩
theorem in_M_person : Cond.instanceMethod y_M_person ∈ er_tbl := er_mt (i := 712) (by decide +kernel) rfl
theorem se_M_person : Cond.selects "EntryRowsModel" y_M_person y_M_person ∈ er_tbl := er_mt (i := 713) (by decide +kernel) rfl
theorem d_M_person_0 : decode b_M_person 0 = .ok (.aload_n 0, 1) := by decide +kernel
theorem d_M_person_1 : decode b_M_person 1 = .ok (.iload_n 1, 1) := by decide +kernel
theorem d_M_person_2 : decode b_M_person 2 = .ok (.invokestatic 88, 3) := by decide +kernel
theorem d_M_person_5 : decode b_M_person 5 = .ok (.ifCond .eq 13, 3) := by decide +kernel
theorem d_M_person_8 : decode b_M_person 8 = .ok (.iload_n 2, 1) := by decide +kernel
theorem d_M_person_9 : decode b_M_person 9 = .ok (.iconst 0, 1) := by decide +kernel
theorem d_M_person_10 : decode b_M_person 10 = .ok (.bipush 9, 2) := by decide +kernel
theorem d_M_person_12 : decode b_M_person 12 = .ok (.invokestatic 73, 3) := by decide +kernel
theorem d_M_person_15 : decode b_M_person 15 = .ok (.ifCond .ne 7, 3) := by decide +kernel
theorem d_M_person_18 : decode b_M_person 18 = .ok (.iconst 1, 1) := by decide +kernel
theorem d_M_person_19 : decode b_M_person 19 = .ok (.goto 4, 3) := by decide +kernel
theorem d_M_person_22 : decode b_M_person 22 = .ok (.iconst 0, 1) := by decide +kernel
theorem d_M_person_23 : decode b_M_person 23 = .ok (.iconst 0, 1) := by decide +kernel
theorem d_M_person_24 : decode b_M_person 24 = .ok (.iconst 0, 1) := by decide +kernel
theorem d_M_person_25 : decode b_M_person 25 = .ok (.invokevirtual 84, 3) := by decide +kernel
theorem d_M_person_28 : decode b_M_person 28 = .ok (.ifCond .eq 5, 3) := by decide +kernel
theorem d_M_person_31 : decode b_M_person 31 = .ok (.iconst 0, 1) := by decide +kernel
theorem d_M_person_32 : decode b_M_person 32 = .ok (.ireturn, 1) := by decide +kernel
theorem d_M_person_33 : decode b_M_person 33 = .ok (.iload_n 2, 1) := by decide +kernel
theorem d_M_person_34 : decode b_M_person 34 = .ok (.tableswitch 113 0 8 #[50, 57, 64, 71, 78, 85, 92, 99, 106], 50) := by decide +kernel
theorem d_M_person_84 : decode b_M_person 84 = .ok (.aload_n 0, 1) := by decide +kernel
theorem d_M_person_85 : decode b_M_person 85 = .ok (.getfield 42, 3) := by decide +kernel
theorem d_M_person_88 : decode b_M_person 88 = .ok (.iload_n 1, 1) := by decide +kernel
theorem d_M_person_89 : decode b_M_person 89 = .ok (.iaload, 1) := by decide +kernel
theorem d_M_person_90 : decode b_M_person 90 = .ok (.ireturn, 1) := by decide +kernel
theorem d_M_person_91 : decode b_M_person 91 = .ok (.aload_n 0, 1) := by decide +kernel
theorem d_M_person_92 : decode b_M_person 92 = .ok (.getfield 45, 3) := by decide +kernel
theorem d_M_person_95 : decode b_M_person 95 = .ok (.iload_n 1, 1) := by decide +kernel
theorem d_M_person_96 : decode b_M_person 96 = .ok (.iaload, 1) := by decide +kernel
theorem d_M_person_97 : decode b_M_person 97 = .ok (.ireturn, 1) := by decide +kernel
theorem d_M_person_98 : decode b_M_person 98 = .ok (.aload_n 0, 1) := by decide +kernel
theorem d_M_person_99 : decode b_M_person 99 = .ok (.getfield 48, 3) := by decide +kernel
theorem d_M_person_102 : decode b_M_person 102 = .ok (.iload_n 1, 1) := by decide +kernel
theorem d_M_person_103 : decode b_M_person 103 = .ok (.iaload, 1) := by decide +kernel
theorem d_M_person_104 : decode b_M_person 104 = .ok (.ireturn, 1) := by decide +kernel
theorem d_M_person_105 : decode b_M_person 105 = .ok (.aload_n 0, 1) := by decide +kernel
theorem d_M_person_106 : decode b_M_person 106 = .ok (.getfield 51, 3) := by decide +kernel
theorem d_M_person_109 : decode b_M_person 109 = .ok (.iload_n 1, 1) := by decide +kernel
theorem d_M_person_110 : decode b_M_person 110 = .ok (.iaload, 1) := by decide +kernel
theorem d_M_person_111 : decode b_M_person 111 = .ok (.ireturn, 1) := by decide +kernel
theorem d_M_person_112 : decode b_M_person 112 = .ok (.aload_n 0, 1) := by decide +kernel
theorem d_M_person_113 : decode b_M_person 113 = .ok (.getfield 54, 3) := by decide +kernel
theorem d_M_person_116 : decode b_M_person 116 = .ok (.iload_n 1, 1) := by decide +kernel
theorem d_M_person_117 : decode b_M_person 117 = .ok (.iaload, 1) := by decide +kernel
theorem d_M_person_118 : decode b_M_person 118 = .ok (.ireturn, 1) := by decide +kernel
theorem d_M_person_119 : decode b_M_person 119 = .ok (.aload_n 0, 1) := by decide +kernel
theorem d_M_person_120 : decode b_M_person 120 = .ok (.getfield 57, 3) := by decide +kernel
theorem d_M_person_123 : decode b_M_person 123 = .ok (.iload_n 1, 1) := by decide +kernel
theorem d_M_person_124 : decode b_M_person 124 = .ok (.iaload, 1) := by decide +kernel
theorem d_M_person_125 : decode b_M_person 125 = .ok (.ireturn, 1) := by decide +kernel
theorem d_M_person_126 : decode b_M_person 126 = .ok (.aload_n 0, 1) := by decide +kernel
theorem d_M_person_127 : decode b_M_person 127 = .ok (.getfield 60, 3) := by decide +kernel
theorem d_M_person_130 : decode b_M_person 130 = .ok (.iload_n 1, 1) := by decide +kernel
theorem d_M_person_131 : decode b_M_person 131 = .ok (.iaload, 1) := by decide +kernel
theorem d_M_person_132 : decode b_M_person 132 = .ok (.ireturn, 1) := by decide +kernel
theorem d_M_person_133 : decode b_M_person 133 = .ok (.aload_n 0, 1) := by decide +kernel
theorem d_M_person_134 : decode b_M_person 134 = .ok (.getfield 63, 3) := by decide +kernel
theorem d_M_person_137 : decode b_M_person 137 = .ok (.iload_n 1, 1) := by decide +kernel
theorem d_M_person_138 : decode b_M_person 138 = .ok (.iaload, 1) := by decide +kernel
theorem d_M_person_139 : decode b_M_person 139 = .ok (.ireturn, 1) := by decide +kernel
theorem d_M_person_140 : decode b_M_person 140 = .ok (.aload_n 0, 1) := by decide +kernel
theorem d_M_person_141 : decode b_M_person 141 = .ok (.getfield 36, 3) := by decide +kernel
theorem d_M_person_144 : decode b_M_person 144 = .ok (.iload_n 1, 1) := by decide +kernel
theorem d_M_person_145 : decode b_M_person 145 = .ok (.iaload, 1) := by decide +kernel
theorem d_M_person_146 : decode b_M_person 146 = .ok (.ireturn, 1) := by decide +kernel
theorem d_M_person_147 : decode b_M_person 147 = .ok (.aload_n 0, 1) := by decide +kernel
theorem d_M_person_148 : decode b_M_person 148 = .ok (.iload_n 1, 1) := by decide +kernel
theorem d_M_person_149 : decode b_M_person 149 = .ok (.invokevirtual 91, 3) := by decide +kernel
theorem d_M_person_152 : decode b_M_person 152 = .ok (.ireturn, 1) := by decide +kernel
abbrev y_M_sumOf : MethodName := ⟨"EntryRowsModel", "sumOf", "(I)I"⟩
abbrev b_M_sumOf : ByteArray := prog_5_method_33_code
abbrev w_M_sumOf : Cond := .code y_M_sumOf b_M_sumOf 6 (some .int)
theorem cal_M_sumOf : er_Cal y_M_sumOf w_M_sumOf 6 1 := ⟨er_mt (i := 722) (by decide +kernel) rfl, er_mt (i := 5) (by decide +kernel) rfl, ⟨by decide, by decide⟩, by decide +kernel, b_M_sumOf, (some .int), [], Or.inl rfl⟩
theorem in_M_sumOf : Cond.instanceMethod y_M_sumOf ∈ er_tbl := er_mt (i := 721) (by decide +kernel) rfl
theorem se_M_sumOf : Cond.selects "EntryRowsModel" y_M_sumOf y_M_sumOf ∈ er_tbl := er_ms (i := 37) (by decide +kernel) rfl
theorem d_M_sumOf_0 : decode b_M_sumOf 0 = .ok (.iconst 0, 1) := by decide +kernel
theorem d_M_sumOf_1 : decode b_M_sumOf 1 = .ok (.istore_n 2, 1) := by decide +kernel
theorem d_M_sumOf_2 : decode b_M_sumOf 2 = .ok (.iconst 0, 1) := by decide +kernel
theorem d_M_sumOf_3 : decode b_M_sumOf 3 = .ok (.istore_n 3, 1) := by decide +kernel
theorem d_M_sumOf_4 : decode b_M_sumOf 4 = .ok (.iload_n 3, 1) := by decide +kernel
theorem d_M_sumOf_5 : decode b_M_sumOf 5 = .ok (.aload_n 0, 1) := by decide +kernel
theorem d_M_sumOf_6 : decode b_M_sumOf 6 = .ok (.iload_n 1, 1) := by decide +kernel
theorem d_M_sumOf_7 : decode b_M_sumOf 7 = .ok (.invokevirtual 118, 3) := by decide +kernel
theorem d_M_sumOf_10 : decode b_M_sumOf 10 = .ok (.if_icmp .ge 53, 3) := by decide +kernel
theorem d_M_sumOf_13 : decode b_M_sumOf 13 = .ok (.aload_n 0, 1) := by decide +kernel
theorem d_M_sumOf_14 : decode b_M_sumOf 14 = .ok (.iload_n 1, 1) := by decide +kernel
theorem d_M_sumOf_15 : decode b_M_sumOf 15 = .ok (.iload_n 3, 1) := by decide +kernel
theorem d_M_sumOf_16 : decode b_M_sumOf 16 = .ok (.invokevirtual 125, 3) := by decide +kernel
theorem d_M_sumOf_19 : decode b_M_sumOf 19 = .ok (.istore 4, 2) := by decide +kernel
theorem d_M_sumOf_21 : decode b_M_sumOf 21 = .ok (.iload_n 2, 1) := by decide +kernel
theorem d_M_sumOf_22 : decode b_M_sumOf 22 = .ok (.sipush 1000, 3) := by decide +kernel
theorem d_M_sumOf_25 : decode b_M_sumOf 25 = .ok (.iload 4, 2) := by decide +kernel
theorem d_M_sumOf_27 : decode b_M_sumOf 27 = .ok (.imul, 1) := by decide +kernel
theorem d_M_sumOf_28 : decode b_M_sumOf 28 = .ok (.aload_n 0, 1) := by decide +kernel
theorem d_M_sumOf_29 : decode b_M_sumOf 29 = .ok (.getfield 45, 3) := by decide +kernel
theorem d_M_sumOf_32 : decode b_M_sumOf 32 = .ok (.iload 4, 2) := by decide +kernel
theorem d_M_sumOf_34 : decode b_M_sumOf 34 = .ok (.iaload, 1) := by decide +kernel
theorem d_M_sumOf_35 : decode b_M_sumOf 35 = .ok (.sipush 1000, 3) := by decide +kernel
theorem d_M_sumOf_38 : decode b_M_sumOf 38 = .ok (.irem, 1) := by decide +kernel
theorem d_M_sumOf_39 : decode b_M_sumOf 39 = .ok (.iadd, 1) := by decide +kernel
theorem d_M_sumOf_40 : decode b_M_sumOf 40 = .ok (.ixor, 1) := by decide +kernel
theorem d_M_sumOf_41 : decode b_M_sumOf 41 = .ok (.istore 5, 2) := by decide +kernel
theorem d_M_sumOf_43 : decode b_M_sumOf 43 = .ok (.iload 5, 2) := by decide +kernel
theorem d_M_sumOf_45 : decode b_M_sumOf 45 = .ok (.iconst 5, 1) := by decide +kernel
theorem d_M_sumOf_46 : decode b_M_sumOf 46 = .ok (.ishl, 1) := by decide +kernel
theorem d_M_sumOf_47 : decode b_M_sumOf 47 = .ok (.iload 5, 2) := by decide +kernel
theorem d_M_sumOf_49 : decode b_M_sumOf 49 = .ok (.bipush 27, 2) := by decide +kernel
theorem d_M_sumOf_51 : decode b_M_sumOf 51 = .ok (.iushr, 1) := by decide +kernel
theorem d_M_sumOf_52 : decode b_M_sumOf 52 = .ok (.ior, 1) := by decide +kernel
theorem d_M_sumOf_53 : decode b_M_sumOf 53 = .ok (.ldc 128, 2) := by decide +kernel
theorem d_M_sumOf_55 : decode b_M_sumOf 55 = .ok (.imul, 1) := by decide +kernel
theorem d_M_sumOf_56 : decode b_M_sumOf 56 = .ok (.istore_n 2, 1) := by decide +kernel
theorem d_M_sumOf_57 : decode b_M_sumOf 57 = .ok (.iinc 3 1, 3) := by decide +kernel
theorem d_M_sumOf_60 : decode b_M_sumOf 60 = .ok (.goto (-56), 3) := by decide +kernel
theorem d_M_sumOf_63 : decode b_M_sumOf 63 = .ok (.iload_n 2, 1) := by decide +kernel
theorem d_M_sumOf_64 : decode b_M_sumOf 64 = .ok (.ireturn, 1) := by decide +kernel
theorem k_M_128 : Cond.constant "EntryRowsModel" 128 (-2048144789) ∈ er_tbl := er_mt (i := 723) (by decide +kernel) rfl
abbrev y_M_boardAt : MethodName := ⟨"EntryRowsModel", "boardAt", "(II)I"⟩
abbrev b_M_boardAt : ByteArray := prog_5_method_34_code
abbrev w_M_boardAt : Cond := .code y_M_boardAt b_M_boardAt 3 (some .int)
theorem cal_M_boardAt : er_Cal y_M_boardAt w_M_boardAt 3 2 := ⟨er_mt (i := 718) (by decide +kernel) rfl, er_mt (i := 5) (by decide +kernel) rfl, ⟨by decide, by decide⟩, by decide +kernel, b_M_boardAt, (some .int), [], Or.inl rfl⟩
theorem in_M_boardAt : Cond.instanceMethod y_M_boardAt ∈ er_tbl := er_mt (i := 716) (by decide +kernel) rfl
theorem se_M_boardAt : Cond.selects "EntryRowsModel" y_M_boardAt y_M_boardAt ∈ er_tbl := er_mt (i := 717) (by decide +kernel) rfl
theorem d_M_boardAt_0 : decode b_M_boardAt 0 = .ok (.aload_n 0, 1) := by decide +kernel
theorem d_M_boardAt_1 : decode b_M_boardAt 1 = .ok (.aload_n 0, 1) := by decide +kernel
theorem d_M_boardAt_2 : decode b_M_boardAt 2 = .ok (.iload_n 1, 1) := by decide +kernel
theorem d_M_boardAt_3 : decode b_M_boardAt 3 = .ok (.invokevirtual 80, 3) := by decide +kernel
theorem d_M_boardAt_6 : decode b_M_boardAt 6 = .ok (.ifCond .eq 12, 3) := by decide +kernel
theorem d_M_boardAt_9 : decode b_M_boardAt 9 = .ok (.iload_n 2, 1) := by decide +kernel
theorem d_M_boardAt_10 : decode b_M_boardAt 10 = .ok (.iconst 0, 1) := by decide +kernel
theorem d_M_boardAt_11 : decode b_M_boardAt 11 = .ok (.iconst 4, 1) := by decide +kernel
theorem d_M_boardAt_12 : decode b_M_boardAt 12 = .ok (.invokestatic 73, 3) := by decide +kernel
theorem d_M_boardAt_15 : decode b_M_boardAt 15 = .ok (.ifCond .ne 7, 3) := by decide +kernel
theorem d_M_boardAt_18 : decode b_M_boardAt 18 = .ok (.iconst 1, 1) := by decide +kernel
theorem d_M_boardAt_19 : decode b_M_boardAt 19 = .ok (.goto 4, 3) := by decide +kernel
theorem d_M_boardAt_22 : decode b_M_boardAt 22 = .ok (.iconst 0, 1) := by decide +kernel
theorem d_M_boardAt_23 : decode b_M_boardAt 23 = .ok (.iconst 0, 1) := by decide +kernel
theorem d_M_boardAt_24 : decode b_M_boardAt 24 = .ok (.iconst 0, 1) := by decide +kernel
theorem d_M_boardAt_25 : decode b_M_boardAt 25 = .ok (.invokevirtual 84, 3) := by decide +kernel
theorem d_M_boardAt_28 : decode b_M_boardAt 28 = .ok (.ifCond .eq 5, 3) := by decide +kernel
theorem d_M_boardAt_31 : decode b_M_boardAt 31 = .ok (.iconst 0, 1) := by decide +kernel
theorem d_M_boardAt_32 : decode b_M_boardAt 32 = .ok (.ireturn, 1) := by decide +kernel
theorem d_M_boardAt_33 : decode b_M_boardAt 33 = .ok (.iload_n 2, 1) := by decide +kernel
theorem d_M_boardAt_34 : decode b_M_boardAt 34 = .ok (.tableswitch 65 0 3 #[30, 45, 52, 58], 30) := by decide +kernel
theorem d_M_boardAt_64 : decode b_M_boardAt 64 = .ok (.aload_n 0, 1) := by decide +kernel
theorem d_M_boardAt_65 : decode b_M_boardAt 65 = .ok (.getfield 17, 3) := by decide +kernel
theorem d_M_boardAt_68 : decode b_M_boardAt 68 = .ok (.iload_n 1, 1) := by decide +kernel
theorem d_M_boardAt_69 : decode b_M_boardAt 69 = .ok (.baload, 1) := by decide +kernel
theorem d_M_boardAt_70 : decode b_M_boardAt 70 = .ok (.ifCond .eq 7, 3) := by decide +kernel
theorem d_M_boardAt_73 : decode b_M_boardAt 73 = .ok (.iconst 1, 1) := by decide +kernel
theorem d_M_boardAt_74 : decode b_M_boardAt 74 = .ok (.goto 4, 3) := by decide +kernel
theorem d_M_boardAt_77 : decode b_M_boardAt 77 = .ok (.iconst 0, 1) := by decide +kernel
theorem d_M_boardAt_78 : decode b_M_boardAt 78 = .ok (.ireturn, 1) := by decide +kernel
theorem d_M_boardAt_79 : decode b_M_boardAt 79 = .ok (.aload_n 0, 1) := by decide +kernel
theorem d_M_boardAt_80 : decode b_M_boardAt 80 = .ok (.getfield 30, 3) := by decide +kernel
theorem d_M_boardAt_83 : decode b_M_boardAt 83 = .ok (.iload_n 1, 1) := by decide +kernel
theorem d_M_boardAt_84 : decode b_M_boardAt 84 = .ok (.iaload, 1) := by decide +kernel
theorem d_M_boardAt_85 : decode b_M_boardAt 85 = .ok (.ireturn, 1) := by decide +kernel
theorem d_M_boardAt_86 : decode b_M_boardAt 86 = .ok (.aload_n 0, 1) := by decide +kernel
theorem d_M_boardAt_87 : decode b_M_boardAt 87 = .ok (.iload_n 1, 1) := by decide +kernel
theorem d_M_boardAt_88 : decode b_M_boardAt 88 = .ok (.invokevirtual 118, 3) := by decide +kernel
theorem d_M_boardAt_91 : decode b_M_boardAt 91 = .ok (.ireturn, 1) := by decide +kernel
theorem d_M_boardAt_92 : decode b_M_boardAt 92 = .ok (.aload_n 0, 1) := by decide +kernel
theorem d_M_boardAt_93 : decode b_M_boardAt 93 = .ok (.iload_n 1, 1) := by decide +kernel
theorem d_M_boardAt_94 : decode b_M_boardAt 94 = .ok (.iconst (-1), 1) := by decide +kernel
theorem d_M_boardAt_95 : decode b_M_boardAt 95 = .ok (.invokevirtual 108, 3) := by decide +kernel
theorem d_M_boardAt_98 : decode b_M_boardAt 98 = .ok (.ireturn, 1) := by decide +kernel
theorem d_M_boardAt_99 : decode b_M_boardAt 99 = .ok (.aload_n 0, 1) := by decide +kernel
theorem d_M_boardAt_100 : decode b_M_boardAt 100 = .ok (.iload_n 1, 1) := by decide +kernel
theorem d_M_boardAt_101 : decode b_M_boardAt 101 = .ok (.invokevirtual 129, 3) := by decide +kernel
theorem d_M_boardAt_104 : decode b_M_boardAt 104 = .ok (.ireturn, 1) := by decide +kernel
theorem lk_M_129 : Cond.methodLink "EntryRowsModel" 129 y_M_sumOf ∈ er_tbl ∨ ∃ host, Cond.methodLinkNest "EntryRowsModel" 129 y_M_sumOf host ∈ er_tbl := Or.inl (er_mt (i := 719) (by decide +kernel) rfl)
abbrev y_M_count : MethodName := ⟨"EntryRowsModel", "count", "(I)I"⟩
abbrev b_M_count : ByteArray := prog_5_method_35_code
abbrev w_M_count : Cond := .code y_M_count b_M_count 5 (some .int)
theorem cal_M_count : er_Cal y_M_count w_M_count 5 1 := ⟨er_mt (i := 727) (by decide +kernel) rfl, er_mt (i := 5) (by decide +kernel) rfl, ⟨by decide, by decide⟩, by decide +kernel, b_M_count, (some .int), [], Or.inl rfl⟩
theorem in_M_count : Cond.instanceMethod y_M_count ∈ er_tbl := er_mt (i := 725) (by decide +kernel) rfl
theorem se_M_count : Cond.selects "EntryRowsModel" y_M_count y_M_count ∈ er_tbl := er_mt (i := 726) (by decide +kernel) rfl
theorem d_M_count_0 : decode b_M_count 0 = .ok (.aload_n 0, 1) := by decide +kernel
theorem d_M_count_1 : decode b_M_count 1 = .ok (.iload_n 1, 1) := by decide +kernel
theorem d_M_count_2 : decode b_M_count 2 = .ok (.iconst 0, 1) := by decide +kernel
theorem d_M_count_3 : decode b_M_count 3 = .ok (.iconst 3, 1) := by decide +kernel
theorem d_M_count_4 : decode b_M_count 4 = .ok (.invokestatic 73, 3) := by decide +kernel
theorem d_M_count_7 : decode b_M_count 7 = .ok (.ifCond .ne 7, 3) := by decide +kernel
theorem d_M_count_10 : decode b_M_count 10 = .ok (.iconst 1, 1) := by decide +kernel
theorem d_M_count_11 : decode b_M_count 11 = .ok (.goto 4, 3) := by decide +kernel
theorem d_M_count_14 : decode b_M_count 14 = .ok (.iconst 0, 1) := by decide +kernel
theorem d_M_count_15 : decode b_M_count 15 = .ok (.iconst 0, 1) := by decide +kernel
theorem d_M_count_16 : decode b_M_count 16 = .ok (.iconst 0, 1) := by decide +kernel
theorem d_M_count_17 : decode b_M_count 17 = .ok (.invokevirtual 84, 3) := by decide +kernel
theorem d_M_count_20 : decode b_M_count 20 = .ok (.ifCond .eq 5, 3) := by decide +kernel
theorem d_M_count_23 : decode b_M_count 23 = .ok (.iconst 0, 1) := by decide +kernel
theorem d_M_count_24 : decode b_M_count 24 = .ok (.ireturn, 1) := by decide +kernel
theorem d_M_count_25 : decode b_M_count 25 = .ok (.iconst 0, 1) := by decide +kernel
theorem d_M_count_26 : decode b_M_count 26 = .ok (.istore_n 2, 1) := by decide +kernel
theorem d_M_count_27 : decode b_M_count 27 = .ok (.iconst 0, 1) := by decide +kernel
theorem d_M_count_28 : decode b_M_count 28 = .ok (.istore_n 3, 1) := by decide +kernel
theorem d_M_count_29 : decode b_M_count 29 = .ok (.iload_n 3, 1) := by decide +kernel
theorem d_M_count_30 : decode b_M_count 30 = .ok (.bipush 40, 2) := by decide +kernel
theorem d_M_count_32 : decode b_M_count 32 = .ok (.if_icmp .ge 26, 3) := by decide +kernel
theorem d_M_count_35 : decode b_M_count 35 = .ok (.iload_n 2, 1) := by decide +kernel
theorem d_M_count_36 : decode b_M_count 36 = .ok (.aload_n 0, 1) := by decide +kernel
theorem d_M_count_37 : decode b_M_count 37 = .ok (.getfield 42, 3) := by decide +kernel
theorem d_M_count_40 : decode b_M_count 40 = .ok (.iload_n 3, 1) := by decide +kernel
theorem d_M_count_41 : decode b_M_count 41 = .ok (.iaload, 1) := by decide +kernel
theorem d_M_count_42 : decode b_M_count 42 = .ok (.ifCond .lt 7, 3) := by decide +kernel
theorem d_M_count_45 : decode b_M_count 45 = .ok (.iconst 1, 1) := by decide +kernel
theorem d_M_count_46 : decode b_M_count 46 = .ok (.goto 4, 3) := by decide +kernel
theorem d_M_count_49 : decode b_M_count 49 = .ok (.iconst 0, 1) := by decide +kernel
theorem d_M_count_50 : decode b_M_count 50 = .ok (.iadd, 1) := by decide +kernel
theorem d_M_count_51 : decode b_M_count 51 = .ok (.istore_n 2, 1) := by decide +kernel
theorem d_M_count_52 : decode b_M_count 52 = .ok (.iinc 3 1, 3) := by decide +kernel
theorem d_M_count_55 : decode b_M_count 55 = .ok (.goto (-26), 3) := by decide +kernel
theorem d_M_count_58 : decode b_M_count 58 = .ok (.iconst 0, 1) := by decide +kernel
theorem d_M_count_59 : decode b_M_count 59 = .ok (.istore_n 3, 1) := by decide +kernel
theorem d_M_count_60 : decode b_M_count 60 = .ok (.iconst 0, 1) := by decide +kernel
theorem d_M_count_61 : decode b_M_count 61 = .ok (.istore 4, 2) := by decide +kernel
theorem d_M_count_63 : decode b_M_count 63 = .ok (.iload 4, 2) := by decide +kernel
theorem d_M_count_65 : decode b_M_count 65 = .ok (.aload_n 0, 1) := by decide +kernel
theorem d_M_count_66 : decode b_M_count 66 = .ok (.getfield 77, 3) := by decide +kernel
theorem d_M_count_69 : decode b_M_count 69 = .ok (.if_icmp .ge 27, 3) := by decide +kernel
theorem d_M_count_72 : decode b_M_count 72 = .ok (.iload_n 3, 1) := by decide +kernel
theorem d_M_count_73 : decode b_M_count 73 = .ok (.aload_n 0, 1) := by decide +kernel
theorem d_M_count_74 : decode b_M_count 74 = .ok (.getfield 17, 3) := by decide +kernel
theorem d_M_count_77 : decode b_M_count 77 = .ok (.iload 4, 2) := by decide +kernel
theorem d_M_count_79 : decode b_M_count 79 = .ok (.baload, 1) := by decide +kernel
theorem d_M_count_80 : decode b_M_count 80 = .ok (.ifCond .eq 7, 3) := by decide +kernel
theorem d_M_count_83 : decode b_M_count 83 = .ok (.iconst 1, 1) := by decide +kernel
theorem d_M_count_84 : decode b_M_count 84 = .ok (.goto 4, 3) := by decide +kernel
theorem d_M_count_87 : decode b_M_count 87 = .ok (.iconst 0, 1) := by decide +kernel
theorem d_M_count_88 : decode b_M_count 88 = .ok (.iadd, 1) := by decide +kernel
theorem d_M_count_89 : decode b_M_count 89 = .ok (.istore_n 3, 1) := by decide +kernel
theorem d_M_count_90 : decode b_M_count 90 = .ok (.iinc 4 1, 3) := by decide +kernel
theorem d_M_count_93 : decode b_M_count 93 = .ok (.goto (-30), 3) := by decide +kernel
theorem d_M_count_96 : decode b_M_count 96 = .ok (.iload_n 1, 1) := by decide +kernel
theorem d_M_count_97 : decode b_M_count 97 = .ok (.ifCond .ne 10, 3) := by decide +kernel
theorem d_M_count_100 : decode b_M_count 100 = .ok (.aload_n 0, 1) := by decide +kernel
theorem d_M_count_101 : decode b_M_count 101 = .ok (.getfield 101, 3) := by decide +kernel
theorem d_M_count_104 : decode b_M_count 104 = .ok (.goto 25, 3) := by decide +kernel
theorem d_M_count_107 : decode b_M_count 107 = .ok (.iload_n 1, 1) := by decide +kernel
theorem d_M_count_108 : decode b_M_count 108 = .ok (.iconst 1, 1) := by decide +kernel
theorem d_M_count_109 : decode b_M_count 109 = .ok (.if_icmp .ne 7, 3) := by decide +kernel
theorem d_M_count_112 : decode b_M_count 112 = .ok (.iload_n 2, 1) := by decide +kernel
theorem d_M_count_113 : decode b_M_count 113 = .ok (.goto 16, 3) := by decide +kernel
theorem d_M_count_116 : decode b_M_count 116 = .ok (.iload_n 1, 1) := by decide +kernel
theorem d_M_count_117 : decode b_M_count 117 = .ok (.iconst 2, 1) := by decide +kernel
theorem d_M_count_118 : decode b_M_count 118 = .ok (.if_icmp .ne 10, 3) := by decide +kernel
theorem d_M_count_121 : decode b_M_count 121 = .ok (.aload_n 0, 1) := by decide +kernel
theorem d_M_count_122 : decode b_M_count 122 = .ok (.getfield 112, 3) := by decide +kernel
theorem d_M_count_125 : decode b_M_count 125 = .ok (.goto 4, 3) := by decide +kernel
theorem d_M_count_128 : decode b_M_count 128 = .ok (.iload_n 3, 1) := by decide +kernel
theorem d_M_count_129 : decode b_M_count 129 = .ok (.ireturn, 1) := by decide +kernel
