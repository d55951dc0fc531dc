abbrev y_L_board : MethodName := ⟨"EntryRowsLaw", "board", "(LEntryRows;III[J)I"⟩
abbrev b_L_board : ByteArray := method_3_code
abbrev w_L_board : Cond := .codeWith y_L_board b_L_board 6 (some .int) [(0, 12, 15, 13), (0, 12, 19, 15)]
theorem cal_L_board : er_Cal y_L_board w_L_board 6 5 := ⟨er_mt (i := 135) (by decide +kernel) rfl, er_mt (i := 0) (by decide +kernel) rfl, ⟨by decide, by decide⟩, by decide +kernel, b_L_board, (some .int), [(0, 12, 15, 13), (0, 12, 19, 15)], Or.inr rfl⟩
theorem st_L_board : Cond.static y_L_board ∈ er_tbl := er_mt (i := 134) (by decide +kernel) rfl
theorem d_L_board_0 : decode b_L_board 0 = .ok (.aload 4, 2) := by decide +kernel
theorem d_L_board_2 : decode b_L_board 2 = .ok (.iconst 0, 1) := by decide +kernel
theorem d_L_board_3 : decode b_L_board 3 = .ok (.aload_n 0, 1) := by decide +kernel
theorem d_L_board_4 : decode b_L_board 4 = .ok (.iload_n 1, 1) := by decide +kernel
theorem d_L_board_5 : decode b_L_board 5 = .ok (.iload_n 2, 1) := by decide +kernel
theorem d_L_board_6 : decode b_L_board 6 = .ok (.iload_n 3, 1) := by decide +kernel
theorem d_L_board_7 : decode b_L_board 7 = .ok (.invokevirtual 7, 3) := by decide +kernel
theorem d_L_board_10 : decode b_L_board 10 = .ok (.i2l, 1) := by decide +kernel
theorem d_L_board_11 : decode b_L_board 11 = .ok (.lastore, 1) := by decide +kernel
theorem d_L_board_12 : decode b_L_board 12 = .ok (.goto 11, 3) := by decide +kernel
theorem d_L_board_15 : decode b_L_board 15 = .ok (.astore 5, 2) := by decide +kernel
theorem d_L_board_17 : decode b_L_board 17 = .ok (.iconst 1, 1) := by decide +kernel
theorem d_L_board_18 : decode b_L_board 18 = .ok (.ireturn, 1) := by decide +kernel
theorem d_L_board_19 : decode b_L_board 19 = .ok (.astore 5, 2) := by decide +kernel
theorem d_L_board_21 : decode b_L_board 21 = .ok (.iconst 2, 1) := by decide +kernel
theorem d_L_board_22 : decode b_L_board 22 = .ok (.ireturn, 1) := by decide +kernel
theorem d_L_board_23 : decode b_L_board 23 = .ok (.iconst 0, 1) := by decide +kernel
theorem d_L_board_24 : decode b_L_board 24 = .ok (.ireturn, 1) := by decide +kernel
theorem lk_L_7 : Cond.methodLink "EntryRowsLaw" 7 y_E_board ∈ er_tbl ∨ ∃ host, Cond.methodLinkNest "EntryRowsLaw" 7 y_E_board host ∈ er_tbl := Or.inl (er_mt (i := 138) (by decide +kernel) rfl)
abbrev y_L_keep : MethodName := ⟨"EntryRowsLaw", "keep", "(LEntryRows;II)I"⟩
abbrev b_L_keep : ByteArray := method_4_code
abbrev w_L_keep : Cond := .codeWith y_L_keep b_L_keep 4 (some .int) [(0, 6, 9, 21), (0, 6, 12, 23)]
theorem cal_L_keep : er_Cal y_L_keep w_L_keep 4 3 := ⟨er_mt (i := 240) (by decide +kernel) rfl, er_mt (i := 0) (by decide +kernel) rfl, ⟨by decide, by decide⟩, by decide +kernel, b_L_keep, (some .int), [(0, 6, 9, 21), (0, 6, 12, 23)], Or.inr rfl⟩
theorem st_L_keep : Cond.static y_L_keep ∈ er_tbl := er_mt (i := 239) (by decide +kernel) rfl
theorem d_L_keep_0 : decode b_L_keep 0 = .ok (.aload_n 0, 1) := by decide +kernel
theorem d_L_keep_1 : decode b_L_keep 1 = .ok (.iload_n 1, 1) := by decide +kernel
theorem d_L_keep_2 : decode b_L_keep 2 = .ok (.iload_n 2, 1) := by decide +kernel
theorem d_L_keep_3 : decode b_L_keep 3 = .ok (.invokevirtual 17, 3) := by decide +kernel
theorem d_L_keep_6 : decode b_L_keep 6 = .ok (.goto 9, 3) := by decide +kernel
theorem d_L_keep_9 : decode b_L_keep 9 = .ok (.astore_n 3, 1) := by decide +kernel
theorem d_L_keep_10 : decode b_L_keep 10 = .ok (.iconst 1, 1) := by decide +kernel
theorem d_L_keep_11 : decode b_L_keep 11 = .ok (.ireturn, 1) := by decide +kernel
theorem d_L_keep_12 : decode b_L_keep 12 = .ok (.astore_n 3, 1) := by decide +kernel
theorem d_L_keep_13 : decode b_L_keep 13 = .ok (.iconst 2, 1) := by decide +kernel
theorem d_L_keep_14 : decode b_L_keep 14 = .ok (.ireturn, 1) := by decide +kernel
theorem d_L_keep_15 : decode b_L_keep 15 = .ok (.iconst 0, 1) := by decide +kernel
theorem d_L_keep_16 : decode b_L_keep 16 = .ok (.ireturn, 1) := by decide +kernel
theorem lk_L_17 : Cond.methodLink "EntryRowsLaw" 17 y_E_keep ∈ er_tbl ∨ ∃ host, Cond.methodLinkNest "EntryRowsLaw" 17 y_E_keep host ∈ er_tbl := Or.inl (er_mt (i := 243) (by decide +kernel) rfl)
abbrev y_L_right : MethodName := ⟨"EntryRowsLaw", "right", "(LEntryRows;IZ)I"⟩
abbrev b_L_right : ByteArray := method_5_code
abbrev w_L_right : Cond := .codeWith y_L_right b_L_right 4 (some .int) [(0, 6, 9, 21)]
theorem cal_L_right : er_Cal y_L_right w_L_right 4 3 := ⟨er_mt (i := 317) (by decide +kernel) rfl, er_mt (i := 0) (by decide +kernel) rfl, ⟨by decide, by decide⟩, by decide +kernel, b_L_right, (some .int), [(0, 6, 9, 21)], Or.inr rfl⟩
theorem st_L_right : Cond.static y_L_right ∈ er_tbl := er_mt (i := 316) (by decide +kernel) rfl
theorem d_L_right_0 : decode b_L_right 0 = .ok (.aload_n 0, 1) := by decide +kernel
theorem d_L_right_1 : decode b_L_right 1 = .ok (.iload_n 1, 1) := by decide +kernel
theorem d_L_right_2 : decode b_L_right 2 = .ok (.iload_n 2, 1) := by decide +kernel
theorem d_L_right_3 : decode b_L_right 3 = .ok (.invokevirtual 25, 3) := by decide +kernel
theorem d_L_right_6 : decode b_L_right 6 = .ok (.goto 6, 3) := by decide +kernel
theorem d_L_right_9 : decode b_L_right 9 = .ok (.astore_n 3, 1) := by decide +kernel
theorem d_L_right_10 : decode b_L_right 10 = .ok (.iconst 1, 1) := by decide +kernel
theorem d_L_right_11 : decode b_L_right 11 = .ok (.ireturn, 1) := by decide +kernel
theorem d_L_right_12 : decode b_L_right 12 = .ok (.iconst 0, 1) := by decide +kernel
theorem d_L_right_13 : decode b_L_right 13 = .ok (.ireturn, 1) := by decide +kernel
theorem lk_L_25 : Cond.methodLink "EntryRowsLaw" 25 y_E_right ∈ er_tbl ∨ ∃ host, Cond.methodLinkNest "EntryRowsLaw" 25 y_E_right host ∈ er_tbl := Or.inl (er_mt (i := 318) (by decide +kernel) rfl)
abbrev y_L_rest : MethodName := ⟨"EntryRowsLaw", "rest", "(LEntryRows;I)I"⟩
abbrev b_L_rest : ByteArray := method_6_code
abbrev w_L_rest : Cond := .codeWith y_L_rest b_L_rest 3 (some .int) [(0, 5, 8, 13)]
theorem cal_L_rest : er_Cal y_L_rest w_L_rest 3 2 := ⟨er_mt (i := 324) (by decide +kernel) rfl, er_mt (i := 0) (by decide +kernel) rfl, ⟨by decide, by decide⟩, by decide +kernel, b_L_rest, (some .int), [(0, 5, 8, 13)], Or.inr rfl⟩
theorem st_L_rest : Cond.static y_L_rest ∈ er_tbl := er_mt (i := 323) (by decide +kernel) rfl
theorem d_L_rest_0 : decode b_L_rest 0 = .ok (.aload_n 0, 1) := by decide +kernel
theorem d_L_rest_1 : decode b_L_rest 1 = .ok (.iload_n 1, 1) := by decide +kernel
theorem d_L_rest_2 : decode b_L_rest 2 = .ok (.invokevirtual 29, 3) := by decide +kernel
theorem d_L_rest_5 : decode b_L_rest 5 = .ok (.goto 6, 3) := by decide +kernel
theorem d_L_rest_8 : decode b_L_rest 8 = .ok (.astore_n 2, 1) := by decide +kernel
theorem d_L_rest_9 : decode b_L_rest 9 = .ok (.iconst 1, 1) := by decide +kernel
theorem d_L_rest_10 : decode b_L_rest 10 = .ok (.ireturn, 1) := by decide +kernel
theorem d_L_rest_11 : decode b_L_rest 11 = .ok (.iconst 0, 1) := by decide +kernel
theorem d_L_rest_12 : decode b_L_rest 12 = .ok (.ireturn, 1) := by decide +kernel
theorem lk_L_29 : Cond.methodLink "EntryRowsLaw" 29 y_E_rest ∈ er_tbl ∨ ∃ host, Cond.methodLinkNest "EntryRowsLaw" 29 y_E_rest host ∈ er_tbl := Or.inl (er_mt (i := 325) (by decide +kernel) rfl)
abbrev y_L_heat : MethodName := ⟨"EntryRowsLaw", "heat", "(LEntryRows;II)I"⟩
abbrev b_L_heat : ByteArray := method_7_code
abbrev w_L_heat : Cond := .codeWith y_L_heat b_L_heat 4 (some .int) [(0, 6, 9, 21), (0, 6, 12, 13)]
theorem cal_L_heat : er_Cal y_L_heat w_L_heat 4 3 := ⟨er_mt (i := 331) (by decide +kernel) rfl, er_mt (i := 0) (by decide +kernel) rfl, ⟨by decide, by decide⟩, by decide +kernel, b_L_heat, (some .int), [(0, 6, 9, 21), (0, 6, 12, 13)], Or.inr rfl⟩
theorem st_L_heat : Cond.static y_L_heat ∈ er_tbl := er_mt (i := 330) (by decide +kernel) rfl
theorem d_L_heat_0 : decode b_L_heat 0 = .ok (.aload_n 0, 1) := by decide +kernel
theorem d_L_heat_1 : decode b_L_heat 1 = .ok (.iload_n 1, 1) := by decide +kernel
theorem d_L_heat_2 : decode b_L_heat 2 = .ok (.iload_n 2, 1) := by decide +kernel
theorem d_L_heat_3 : decode b_L_heat 3 = .ok (.invokevirtual 33, 3) := by decide +kernel
theorem d_L_heat_6 : decode b_L_heat 6 = .ok (.goto 9, 3) := by decide +kernel
theorem d_L_heat_9 : decode b_L_heat 9 = .ok (.astore_n 3, 1) := by decide +kernel
theorem d_L_heat_10 : decode b_L_heat 10 = .ok (.iconst 1, 1) := by decide +kernel
theorem d_L_heat_11 : decode b_L_heat 11 = .ok (.ireturn, 1) := by decide +kernel
theorem d_L_heat_12 : decode b_L_heat 12 = .ok (.astore_n 3, 1) := by decide +kernel
theorem d_L_heat_13 : decode b_L_heat 13 = .ok (.iconst 2, 1) := by decide +kernel
theorem d_L_heat_14 : decode b_L_heat 14 = .ok (.ireturn, 1) := by decide +kernel
theorem d_L_heat_15 : decode b_L_heat 15 = .ok (.iconst 0, 1) := by decide +kernel
theorem d_L_heat_16 : decode b_L_heat 16 = .ok (.ireturn, 1) := by decide +kernel
theorem lk_L_33 : Cond.methodLink "EntryRowsLaw" 33 y_E_heat ∈ er_tbl ∨ ∃ host, Cond.methodLinkNest "EntryRowsLaw" 33 y_E_heat host ∈ er_tbl := Or.inl (er_mt (i := 332) (by decide +kernel) rfl)
abbrev y_L_member : MethodName := ⟨"EntryRowsLaw", "member", "(LEntryRows;IIZ[J)I"⟩
abbrev b_L_member : ByteArray := method_8_code
abbrev w_L_member : Cond := .codeWith y_L_member b_L_member 6 (some .int) [(0, 12, 15, 21), (0, 12, 19, 23), (0, 12, 23, 15)]
theorem cal_L_member : er_Cal y_L_member w_L_member 6 5 := ⟨er_mt (i := 341) (by decide +kernel) rfl, er_mt (i := 0) (by decide +kernel) rfl, ⟨by decide, by decide⟩, by decide +kernel, b_L_member, (some .int), [(0, 12, 15, 21), (0, 12, 19, 23), (0, 12, 23, 15)], Or.inr rfl⟩
theorem st_L_member : Cond.static y_L_member ∈ er_tbl := er_mt (i := 340) (by decide +kernel) rfl
theorem d_L_member_0 : decode b_L_member 0 = .ok (.aload 4, 2) := by decide +kernel
theorem d_L_member_2 : decode b_L_member 2 = .ok (.iconst 0, 1) := by decide +kernel
theorem d_L_member_3 : decode b_L_member 3 = .ok (.aload_n 0, 1) := by decide +kernel
theorem d_L_member_4 : decode b_L_member 4 = .ok (.iload_n 1, 1) := by decide +kernel
theorem d_L_member_5 : decode b_L_member 5 = .ok (.iload_n 2, 1) := by decide +kernel
theorem d_L_member_6 : decode b_L_member 6 = .ok (.iload_n 3, 1) := by decide +kernel
theorem d_L_member_7 : decode b_L_member 7 = .ok (.invokevirtual 36, 3) := by decide +kernel
theorem d_L_member_10 : decode b_L_member 10 = .ok (.i2l, 1) := by decide +kernel
theorem d_L_member_11 : decode b_L_member 11 = .ok (.lastore, 1) := by decide +kernel
theorem d_L_member_12 : decode b_L_member 12 = .ok (.goto 15, 3) := by decide +kernel
theorem d_L_member_15 : decode b_L_member 15 = .ok (.astore 5, 2) := by decide +kernel
theorem d_L_member_17 : decode b_L_member 17 = .ok (.iconst 1, 1) := by decide +kernel
theorem d_L_member_18 : decode b_L_member 18 = .ok (.ireturn, 1) := by decide +kernel
theorem d_L_member_19 : decode b_L_member 19 = .ok (.astore 5, 2) := by decide +kernel
theorem d_L_member_21 : decode b_L_member 21 = .ok (.iconst 2, 1) := by decide +kernel
theorem d_L_member_22 : decode b_L_member 22 = .ok (.ireturn, 1) := by decide +kernel
theorem d_L_member_23 : decode b_L_member 23 = .ok (.astore 5, 2) := by decide +kernel
theorem d_L_member_25 : decode b_L_member 25 = .ok (.iconst 3, 1) := by decide +kernel
theorem d_L_member_26 : decode b_L_member 26 = .ok (.ireturn, 1) := by decide +kernel
theorem d_L_member_27 : decode b_L_member 27 = .ok (.iconst 0, 1) := by decide +kernel
theorem d_L_member_28 : decode b_L_member 28 = .ok (.ireturn, 1) := by decide +kernel
theorem lk_L_36 : Cond.methodLink "EntryRowsLaw" 36 y_E_member ∈ er_tbl ∨ ∃ host, Cond.methodLinkNest "EntryRowsLaw" 36 y_E_member host ∈ er_tbl := Or.inl (er_mt (i := 342) (by decide +kernel) rfl)
abbrev y_L_safety : MethodName := ⟨"EntryRowsLaw", "safety", "(LEntryRows;IIZ[J)I"⟩
abbrev b_L_safety : ByteArray := method_9_code
abbrev w_L_safety : Cond := .codeWith y_L_safety b_L_safety 6 (some .int) [(0, 12, 15, 21), (0, 12, 19, 23)]
theorem cal_L_safety : er_Cal y_L_safety w_L_safety 6 5 := ⟨er_mt (i := 356) (by decide +kernel) rfl, er_mt (i := 0) (by decide +kernel) rfl, ⟨by decide, by decide⟩, by decide +kernel, b_L_safety, (some .int), [(0, 12, 15, 21), (0, 12, 19, 23)], Or.inr rfl⟩
theorem st_L_safety : Cond.static y_L_safety ∈ er_tbl := er_mt (i := 355) (by decide +kernel) rfl
theorem d_L_safety_0 : decode b_L_safety 0 = .ok (.aload 4, 2) := by decide +kernel
theorem d_L_safety_2 : decode b_L_safety 2 = .ok (.iconst 0, 1) := by decide +kernel
theorem d_L_safety_3 : decode b_L_safety 3 = .ok (.aload_n 0, 1) := by decide +kernel
theorem d_L_safety_4 : decode b_L_safety 4 = .ok (.iload_n 1, 1) := by decide +kernel
theorem d_L_safety_5 : decode b_L_safety 5 = .ok (.iload_n 2, 1) := by decide +kernel
theorem d_L_safety_6 : decode b_L_safety 6 = .ok (.iload_n 3, 1) := by decide +kernel
theorem d_L_safety_7 : decode b_L_safety 7 = .ok (.invokevirtual 40, 3) := by decide +kernel
theorem d_L_safety_10 : decode b_L_safety 10 = .ok (.i2l, 1) := by decide +kernel
theorem d_L_safety_11 : decode b_L_safety 11 = .ok (.lastore, 1) := by decide +kernel
theorem d_L_safety_12 : decode b_L_safety 12 = .ok (.goto 11, 3) := by decide +kernel
theorem d_L_safety_15 : decode b_L_safety 15 = .ok (.astore 5, 2) := by decide +kernel
theorem d_L_safety_17 : decode b_L_safety 17 = .ok (.iconst 1, 1) := by decide +kernel
theorem d_L_safety_18 : decode b_L_safety 18 = .ok (.ireturn, 1) := by decide +kernel
theorem d_L_safety_19 : decode b_L_safety 19 = .ok (.astore 5, 2) := by decide +kernel
theorem d_L_safety_21 : decode b_L_safety 21 = .ok (.iconst 2, 1) := by decide +kernel
theorem d_L_safety_22 : decode b_L_safety 22 = .ok (.ireturn, 1) := by decide +kernel
theorem d_L_safety_23 : decode b_L_safety 23 = .ok (.iconst 0, 1) := by decide +kernel
theorem d_L_safety_24 : decode b_L_safety 24 = .ok (.ireturn, 1) := by decide +kernel
theorem lk_L_40 : Cond.methodLink "EntryRowsLaw" 40 y_E_safety ∈ er_tbl ∨ ∃ host, Cond.methodLinkNest "EntryRowsLaw" 40 y_E_safety host ∈ er_tbl := Or.inl (er_mt (i := 357) (by decide +kernel) rfl)
abbrev y_L_enter : MethodName := ⟨"EntryRowsLaw", "enter", "(LEntryRows;IIIIZ[J)I"⟩
abbrev b_L_enter : ByteArray := method_10_code
abbrev w_L_enter : Cond := .codeWith y_L_enter b_L_enter 8 (some .int) [(0, 16, 19, 21), (0, 16, 23, 13), (0, 16, 27, 23)]
theorem cal_L_enter : er_Cal y_L_enter w_L_enter 8 7 := ⟨er_mt (i := 381) (by decide +kernel) rfl, er_mt (i := 0) (by decide +kernel) rfl, ⟨by decide, by decide⟩, by decide +kernel, b_L_enter, (some .int), [(0, 16, 19, 21), (0, 16, 23, 13), (0, 16, 27, 23)], Or.inr rfl⟩
theorem st_L_enter : Cond.static y_L_enter ∈ er_tbl := er_mt (i := 380) (by decide +kernel) rfl
theorem d_L_enter_0 : decode b_L_enter 0 = .ok (.aload 6, 2) := by decide +kernel
theorem d_L_enter_2 : decode b_L_enter 2 = .ok (.iconst 0, 1) := by decide +kernel
theorem d_L_enter_3 : decode b_L_enter 3 = .ok (.aload_n 0, 1) := by decide +kernel
theorem d_L_enter_4 : decode b_L_enter 4 = .ok (.iload_n 1, 1) := by decide +kernel
theorem d_L_enter_5 : decode b_L_enter 5 = .ok (.iload_n 2, 1) := by decide +kernel
theorem d_L_enter_6 : decode b_L_enter 6 = .ok (.iload_n 3, 1) := by decide +kernel
theorem d_L_enter_7 : decode b_L_enter 7 = .ok (.iload 4, 2) := by decide +kernel
theorem d_L_enter_9 : decode b_L_enter 9 = .ok (.iload 5, 2) := by decide +kernel
theorem d_L_enter_11 : decode b_L_enter 11 = .ok (.invokevirtual 43, 3) := by decide +kernel
theorem d_L_enter_14 : decode b_L_enter 14 = .ok (.i2l, 1) := by decide +kernel
theorem d_L_enter_15 : decode b_L_enter 15 = .ok (.lastore, 1) := by decide +kernel
theorem d_L_enter_16 : decode b_L_enter 16 = .ok (.goto 15, 3) := by decide +kernel
theorem d_L_enter_19 : decode b_L_enter 19 = .ok (.astore 7, 2) := by decide +kernel
theorem d_L_enter_21 : decode b_L_enter 21 = .ok (.iconst 1, 1) := by decide +kernel
theorem d_L_enter_22 : decode b_L_enter 22 = .ok (.ireturn, 1) := by decide +kernel
theorem d_L_enter_23 : decode b_L_enter 23 = .ok (.astore 7, 2) := by decide +kernel
theorem d_L_enter_25 : decode b_L_enter 25 = .ok (.iconst 2, 1) := by decide +kernel
theorem d_L_enter_26 : decode b_L_enter 26 = .ok (.ireturn, 1) := by decide +kernel
theorem d_L_enter_27 : decode b_L_enter 27 = .ok (.astore 7, 2) := by decide +kernel
theorem d_L_enter_29 : decode b_L_enter 29 = .ok (.iconst 3, 1) := by decide +kernel
theorem d_L_enter_30 : decode b_L_enter 30 = .ok (.ireturn, 1) := by decide +kernel
theorem d_L_enter_31 : decode b_L_enter 31 = .ok (.iconst 0, 1) := by decide +kernel
theorem d_L_enter_32 : decode b_L_enter 32 = .ok (.ireturn, 1) := by decide +kernel
theorem lk_L_43 : Cond.methodLink "EntryRowsLaw" 43 y_E_enter ∈ er_tbl ∨ ∃ host, Cond.methodLinkNest "EntryRowsLaw" 43 y_E_enter host ∈ er_tbl := Or.inl (er_mt (i := 382) (by decide +kernel) rfl)
abbrev y_L_out : MethodName := ⟨"EntryRowsLaw", "out", "(LEntryRows;II[J)I"⟩
abbrev b_L_out : ByteArray := method_11_code
abbrev w_L_out : Cond := .codeWith y_L_out b_L_out 5 (some .int) [(0, 10, 13, 21), (0, 10, 17, 23)]
theorem cal_L_out : er_Cal y_L_out w_L_out 5 4 := ⟨er_mt (i := 400) (by decide +kernel) rfl, er_mt (i := 0) (by decide +kernel) rfl, ⟨by decide, by decide⟩, by decide +kernel, b_L_out, (some .int), [(0, 10, 13, 21), (0, 10, 17, 23)], Or.inr rfl⟩
theorem st_L_out : Cond.static y_L_out ∈ er_tbl := er_mt (i := 399) (by decide +kernel) rfl
theorem d_L_out_0 : decode b_L_out 0 = .ok (.aload_n 3, 1) := by decide +kernel
theorem d_L_out_1 : decode b_L_out 1 = .ok (.iconst 0, 1) := by decide +kernel
theorem d_L_out_2 : decode b_L_out 2 = .ok (.aload_n 0, 1) := by decide +kernel
theorem d_L_out_3 : decode b_L_out 3 = .ok (.iload_n 1, 1) := by decide +kernel
theorem d_L_out_4 : decode b_L_out 4 = .ok (.iload_n 2, 1) := by decide +kernel
theorem d_L_out_5 : decode b_L_out 5 = .ok (.invokevirtual 47, 3) := by decide +kernel
theorem d_L_out_8 : decode b_L_out 8 = .ok (.i2l, 1) := by decide +kernel
theorem d_L_out_9 : decode b_L_out 9 = .ok (.lastore, 1) := by decide +kernel
theorem d_L_out_10 : decode b_L_out 10 = .ok (.goto 11, 3) := by decide +kernel
theorem d_L_out_13 : decode b_L_out 13 = .ok (.astore 4, 2) := by decide +kernel
theorem d_L_out_15 : decode b_L_out 15 = .ok (.iconst 1, 1) := by decide +kernel
theorem d_L_out_16 : decode b_L_out 16 = .ok (.ireturn, 1) := by decide +kernel
theorem d_L_out_17 : decode b_L_out 17 = .ok (.astore 4, 2) := by decide +kernel
theorem d_L_out_19 : decode b_L_out 19 = .ok (.iconst 2, 1) := by decide +kernel
theorem d_L_out_20 : decode b_L_out 20 = .ok (.ireturn, 1) := by decide +kernel
theorem d_L_out_21 : decode b_L_out 21 = .ok (.iconst 0, 1) := by decide +kernel
theorem d_L_out_22 : decode b_L_out 22 = .ok (.ireturn, 1) := by decide +kernel
theorem lk_L_47 : Cond.methodLink "EntryRowsLaw" 47 y_E_out ∈ er_tbl ∨ ∃ host, Cond.methodLinkNest "EntryRowsLaw" 47 y_E_out host ∈ er_tbl := Or.inl (er_mt (i := 401) (by decide +kernel) rfl)
abbrev y_L_swap : MethodName := ⟨"EntryRowsLaw", "swap", "(LEntryRows;II)I"⟩
abbrev b_L_swap : ByteArray := method_12_code
abbrev w_L_swap : Cond := .codeWith y_L_swap b_L_swap 4 (some .int) [(0, 6, 9, 21), (0, 6, 12, 23)]
theorem cal_L_swap : er_Cal y_L_swap w_L_swap 4 3 := ⟨er_mt (i := 412) (by decide +kernel) rfl, er_mt (i := 0) (by decide +kernel) rfl, ⟨by decide, by decide⟩, by decide +kernel, b_L_swap, (some .int), [(0, 6, 9, 21), (0, 6, 12, 23)], Or.inr rfl⟩
theorem st_L_swap : Cond.static y_L_swap ∈ er_tbl := er_mt (i := 411) (by decide +kernel) rfl
theorem d_L_swap_0 : decode b_L_swap 0 = .ok (.aload_n 0, 1) := by decide +kernel
theorem d_L_swap_1 : decode b_L_swap 1 = .ok (.iload_n 1, 1) := by decide +kernel
theorem d_L_swap_2 : decode b_L_swap 2 = .ok (.iload_n 2, 1) := by decide +kernel
theorem d_L_swap_3 : decode b_L_swap 3 = .ok (.invokevirtual 51, 3) := by decide +kernel
theorem d_L_swap_6 : decode b_L_swap 6 = .ok (.goto 9, 3) := by decide +kernel
theorem d_L_swap_9 : decode b_L_swap 9 = .ok (.astore_n 3, 1) := by decide +kernel
theorem d_L_swap_10 : decode b_L_swap 10 = .ok (.iconst 1, 1) := by decide +kernel
theorem d_L_swap_11 : decode b_L_swap 11 = .ok (.ireturn, 1) := by decide +kernel
theorem d_L_swap_12 : decode b_L_swap 12 = .ok (.astore_n 3, 1) := by decide +kernel
theorem d_L_swap_13 : decode b_L_swap 13 = .ok (.iconst 2, 1) := by decide +kernel
theorem d_L_swap_14 : decode b_L_swap 14 = .ok (.ireturn, 1) := by decide +kernel
theorem d_L_swap_15 : decode b_L_swap 15 = .ok (.iconst 0, 1) := by decide +kernel
theorem d_L_swap_16 : decode b_L_swap 16 = .ok (.ireturn, 1) := by decide +kernel
theorem lk_L_51 : Cond.methodLink "EntryRowsLaw" 51 y_E_swap ∈ er_tbl ∨ ∃ host, Cond.methodLinkNest "EntryRowsLaw" 51 y_E_swap host ∈ er_tbl := Or.inl (er_mt (i := 413) (by decide +kernel) rfl)
abbrev y_L_join : MethodName := ⟨"EntryRowsLaw", "join", "(LEntryRows;II[J)I"⟩
abbrev b_L_join : ByteArray := method_13_code
abbrev w_L_join : Cond := .codeWith y_L_join b_L_join 5 (some .int) [(0, 10, 13, 21), (0, 10, 17, 23)]
theorem cal_L_join : er_Cal y_L_join w_L_join 5 4 := ⟨er_mt (i := 419) (by decide +kernel) rfl, er_mt (i := 0) (by decide +kernel) rfl, ⟨by decide, by decide⟩, by decide +kernel, b_L_join, (some .int), [(0, 10, 13, 21), (0, 10, 17, 23)], Or.inr rfl⟩
theorem st_L_join : Cond.static y_L_join ∈ er_tbl := er_mt (i := 418) (by decide +kernel) rfl
theorem d_L_join_0 : decode b_L_join 0 = .ok (.aload_n 3, 1) := by decide +kernel
theorem d_L_join_1 : decode b_L_join 1 = .ok (.iconst 0, 1) := by decide +kernel
theorem d_L_join_2 : decode b_L_join 2 = .ok (.aload_n 0, 1) := by decide +kernel
theorem d_L_join_3 : decode b_L_join 3 = .ok (.iload_n 1, 1) := by decide +kernel
theorem d_L_join_4 : decode b_L_join 4 = .ok (.iload_n 2, 1) := by decide +kernel
theorem d_L_join_5 : decode b_L_join 5 = .ok (.invokevirtual 54, 3) := by decide +kernel
theorem d_L_join_8 : decode b_L_join 8 = .ok (.i2l, 1) := by decide +kernel
theorem d_L_join_9 : decode b_L_join 9 = .ok (.lastore, 1) := by decide +kernel
theorem d_L_join_10 : decode b_L_join 10 = .ok (.goto 11, 3) := by decide +kernel
theorem d_L_join_13 : decode b_L_join 13 = .ok (.astore 4, 2) := by decide +kernel
theorem d_L_join_15 : decode b_L_join 15 = .ok (.iconst 1, 1) := by decide +kernel
theorem d_L_join_16 : decode b_L_join 16 = .ok (.ireturn, 1) := by decide +kernel
theorem d_L_join_17 : decode b_L_join 17 = .ok (.astore 4, 2) := by decide +kernel
theorem d_L_join_19 : decode b_L_join 19 = .ok (.iconst 2, 1) := by decide +kernel
theorem d_L_join_20 : decode b_L_join 20 = .ok (.ireturn, 1) := by decide +kernel
theorem d_L_join_21 : decode b_L_join 21 = .ok (.iconst 0, 1) := by decide +kernel
theorem d_L_join_22 : decode b_L_join 22 = .ok (.ireturn, 1) := by decide +kernel
theorem lk_L_54 : Cond.methodLink "EntryRowsLaw" 54 y_E_join ∈ er_tbl ∨ ∃ host, Cond.methodLinkNest "EntryRowsLaw" 54 y_E_join host ∈ er_tbl := Or.inl (er_mt (i := 420) (by decide +kernel) rfl)
abbrev y_L_close : MethodName := ⟨"EntryRowsLaw", "close", "(LEntryRows;I)I"⟩
abbrev b_L_close : ByteArray := method_14_code
abbrev w_L_close : Cond := .codeWith y_L_close b_L_close 3 (some .int) [(0, 5, 8, 21), (0, 5, 11, 23)]
theorem cal_L_close : er_Cal y_L_close w_L_close 3 2 := ⟨er_mt (i := 438) (by decide +kernel) rfl, er_mt (i := 0) (by decide +kernel) rfl, ⟨by decide, by decide⟩, by decide +kernel, b_L_close, (some .int), [(0, 5, 8, 21), (0, 5, 11, 23)], Or.inr rfl⟩
theorem st_L_close : Cond.static y_L_close ∈ er_tbl := er_mt (i := 437) (by decide +kernel) rfl
theorem d_L_close_0 : decode b_L_close 0 = .ok (.aload_n 0, 1) := by decide +kernel
theorem d_L_close_1 : decode b_L_close 1 = .ok (.iload_n 1, 1) := by decide +kernel
theorem d_L_close_2 : decode b_L_close 2 = .ok (.invokevirtual 57, 3) := by decide +kernel
theorem d_L_close_5 : decode b_L_close 5 = .ok (.goto 9, 3) := by decide +kernel
theorem d_L_close_8 : decode b_L_close 8 = .ok (.astore_n 2, 1) := by decide +kernel
theorem d_L_close_9 : decode b_L_close 9 = .ok (.iconst 1, 1) := by decide +kernel
theorem d_L_close_10 : decode b_L_close 10 = .ok (.ireturn, 1) := by decide +kernel
theorem d_L_close_11 : decode b_L_close 11 = .ok (.astore_n 2, 1) := by decide +kernel
theorem d_L_close_12 : decode b_L_close 12 = .ok (.iconst 2, 1) := by decide +kernel
theorem d_L_close_13 : decode b_L_close 13 = .ok (.ireturn, 1) := by decide +kernel
theorem d_L_close_14 : decode b_L_close 14 = .ok (.iconst 0, 1) := by decide +kernel
theorem d_L_close_15 : decode b_L_close 15 = .ok (.ireturn, 1) := by decide +kernel
theorem lk_L_57 : Cond.methodLink "EntryRowsLaw" 57 y_E_close ∈ er_tbl ∨ ∃ host, Cond.methodLinkNest "EntryRowsLaw" 57 y_E_close host ∈ er_tbl := Or.inl (er_mt (i := 439) (by decide +kernel) rfl)
abbrev y_L_tick : MethodName := ⟨"EntryRowsLaw", "tick", "(LEntryRows;I[J)I"⟩
abbrev b_L_tick : ByteArray := method_15_code
abbrev w_L_tick : Cond := .codeWith y_L_tick b_L_tick 4 (some .int) [(0, 9, 12, 13)]
theorem cal_L_tick : er_Cal y_L_tick w_L_tick 4 3 := ⟨er_mt (i := 445) (by decide +kernel) rfl, er_mt (i := 0) (by decide +kernel) rfl, ⟨by decide, by decide⟩, by decide +kernel, b_L_tick, (some .int), [(0, 9, 12, 13)], Or.inr rfl⟩
theorem st_L_tick : Cond.static y_L_tick ∈ er_tbl := er_mt (i := 444) (by decide +kernel) rfl
theorem d_L_tick_0 : decode b_L_tick 0 = .ok (.aload_n 2, 1) := by decide +kernel
theorem d_L_tick_1 : decode b_L_tick 1 = .ok (.iconst 0, 1) := by decide +kernel
theorem d_L_tick_2 : decode b_L_tick 2 = .ok (.aload_n 0, 1) := by decide +kernel
theorem d_L_tick_3 : decode b_L_tick 3 = .ok (.iload_n 1, 1) := by decide +kernel
theorem d_L_tick_4 : decode b_L_tick 4 = .ok (.invokevirtual 60, 3) := by decide +kernel
theorem d_L_tick_7 : decode b_L_tick 7 = .ok (.i2l, 1) := by decide +kernel
theorem d_L_tick_8 : decode b_L_tick 8 = .ok (.lastore, 1) := by decide +kernel
theorem d_L_tick_9 : decode b_L_tick 9 = .ok (.goto 6, 3) := by decide +kernel
theorem d_L_tick_12 : decode b_L_tick 12 = .ok (.astore_n 3, 1) := by decide +kernel
theorem d_L_tick_13 : decode b_L_tick 13 = .ok (.iconst 1, 1) := by decide +kernel
theorem d_L_tick_14 : decode b_L_tick 14 = .ok (.ireturn, 1) := by decide +kernel
theorem d_L_tick_15 : decode b_L_tick 15 = .ok (.iconst 0, 1) := by decide +kernel
theorem d_L_tick_16 : decode b_L_tick 16 = .ok (.ireturn, 1) := by decide +kernel
theorem lk_L_60 : Cond.methodLink "EntryRowsLaw" 60 y_E_tick ∈ er_tbl ∨ ∃ host, Cond.methodLinkNest "EntryRowsLaw" 60 y_E_tick host ∈ er_tbl := Or.inl (er_mt (i := 446) (by decide +kernel) rfl)
abbrev y_L_on : MethodName := ⟨"EntryRowsLaw", "on", "(LEntryRows;II[J)I"⟩
abbrev b_L_on : ByteArray := method_16_code
abbrev w_L_on : Cond := .codeWith y_L_on b_L_on 5 (some .int) [(0, 10, 13, 21), (0, 10, 17, 13)]
theorem cal_L_on : er_Cal y_L_on w_L_on 5 4 := ⟨er_mt (i := 457) (by decide +kernel) rfl, er_mt (i := 0) (by decide +kernel) rfl, ⟨by decide, by decide⟩, by decide +kernel, b_L_on, (some .int), [(0, 10, 13, 21), (0, 10, 17, 13)], Or.inr rfl⟩
theorem st_L_on : Cond.static y_L_on ∈ er_tbl := er_mt (i := 456) (by decide +kernel) rfl
theorem d_L_on_0 : decode b_L_on 0 = .ok (.aload_n 3, 1) := by decide +kernel
theorem d_L_on_1 : decode b_L_on 1 = .ok (.iconst 0, 1) := by decide +kernel
theorem d_L_on_2 : decode b_L_on 2 = .ok (.aload_n 0, 1) := by decide +kernel
theorem d_L_on_3 : decode b_L_on 3 = .ok (.iload_n 1, 1) := by decide +kernel
theorem d_L_on_4 : decode b_L_on 4 = .ok (.iload_n 2, 1) := by decide +kernel
theorem d_L_on_5 : decode b_L_on 5 = .ok (.invokevirtual 64, 3) := by decide +kernel
theorem d_L_on_8 : decode b_L_on 8 = .ok (.i2l, 1) := by decide +kernel
theorem d_L_on_9 : decode b_L_on 9 = .ok (.lastore, 1) := by decide +kernel
theorem d_L_on_10 : decode b_L_on 10 = .ok (.goto 11, 3) := by decide +kernel
theorem d_L_on_13 : decode b_L_on 13 = .ok (.astore 4, 2) := by decide +kernel
theorem d_L_on_15 : decode b_L_on 15 = .ok (.iconst 1, 1) := by decide +kernel
theorem d_L_on_16 : decode b_L_on 16 = .ok (.ireturn, 1) := by decide +kernel
theorem d_L_on_17 : decode b_L_on 17 = .ok (.astore 4, 2) := by decide +kernel
theorem d_L_on_19 : decode b_L_on 19 = .ok (.iconst 2, 1) := by decide +kernel
theorem d_L_on_20 : decode b_L_on 20 = .ok (.ireturn, 1) := by decide +kernel
theorem d_L_on_21 : decode b_L_on 21 = .ok (.iconst 0, 1) := by decide +kernel
theorem d_L_on_22 : decode b_L_on 22 = .ok (.ireturn, 1) := by decide +kernel
theorem lk_L_64 : Cond.methodLink "EntryRowsLaw" 64 y_E_on ∈ er_tbl ∨ ∃ host, Cond.methodLinkNest "EntryRowsLaw" 64 y_E_on host ∈ er_tbl := Or.inl (er_mt (i := 458) (by decide +kernel) rfl)
abbrev y_L_late : MethodName := ⟨"EntryRowsLaw", "late", "(LEntryRows;I[J)I"⟩
abbrev b_L_late : ByteArray := method_17_code
abbrev w_L_late : Cond := .codeWith y_L_late b_L_late 4 (some .int) [(0, 9, 12, 13)]
theorem cal_L_late : er_Cal y_L_late w_L_late 4 3 := ⟨er_mt (i := 476) (by decide +kernel) rfl, er_mt (i := 0) (by decide +kernel) rfl, ⟨by decide, by decide⟩, by decide +kernel, b_L_late, (some .int), [(0, 9, 12, 13)], Or.inr rfl⟩
theorem st_L_late : Cond.static y_L_late ∈ er_tbl := er_mt (i := 475) (by decide +kernel) rfl
theorem d_L_late_0 : decode b_L_late 0 = .ok (.aload_n 2, 1) := by decide +kernel
theorem d_L_late_1 : decode b_L_late 1 = .ok (.iconst 0, 1) := by decide +kernel
theorem d_L_late_2 : decode b_L_late 2 = .ok (.aload_n 0, 1) := by decide +kernel
theorem d_L_late_3 : decode b_L_late 3 = .ok (.iload_n 1, 1) := by decide +kernel
theorem d_L_late_4 : decode b_L_late 4 = .ok (.invokevirtual 67, 3) := by decide +kernel
theorem d_L_late_7 : decode b_L_late 7 = .ok (.i2l, 1) := by decide +kernel
theorem d_L_late_8 : decode b_L_late 8 = .ok (.lastore, 1) := by decide +kernel
theorem d_L_late_9 : decode b_L_late 9 = .ok (.goto 6, 3) := by decide +kernel
theorem d_L_late_12 : decode b_L_late 12 = .ok (.astore_n 3, 1) := by decide +kernel
theorem d_L_late_13 : decode b_L_late 13 = .ok (.iconst 1, 1) := by decide +kernel
theorem d_L_late_14 : decode b_L_late 14 = .ok (.ireturn, 1) := by decide +kernel
theorem d_L_late_15 : decode b_L_late 15 = .ok (.iconst 0, 1) := by decide +kernel
theorem d_L_late_16 : decode b_L_late 16 = .ok (.ireturn, 1) := by decide +kernel
theorem lk_L_67 : Cond.methodLink "EntryRowsLaw" 67 y_E_late ∈ er_tbl ∨ ∃ host, Cond.methodLinkNest "EntryRowsLaw" 67 y_E_late host ∈ er_tbl := Or.inl (er_mt (i := 477) (by decide +kernel) rfl)
abbrev y_L_person : MethodName := ⟨"EntryRowsLaw", "person", "(LEntryRows;II[J)I"⟩
abbrev b_L_person : ByteArray := method_18_code
abbrev w_L_person : Cond := .codeWith y_L_person b_L_person 5 (some .int) [(0, 10, 13, 21)]
theorem cal_L_person : er_Cal y_L_person w_L_person 5 4 := ⟨er_mt (i := 483) (by decide +kernel) rfl, er_mt (i := 0) (by decide +kernel) rfl, ⟨by decide, by decide⟩, by decide +kernel, b_L_person, (some .int), [(0, 10, 13, 21)], Or.inr rfl⟩
theorem st_L_person : Cond.static y_L_person ∈ er_tbl := er_mt (i := 482) (by decide +kernel) rfl
theorem d_L_person_0 : decode b_L_person 0 = .ok (.aload_n 3, 1) := by decide +kernel
theorem d_L_person_1 : decode b_L_person 1 = .ok (.iconst 0, 1) := by decide +kernel
theorem d_L_person_2 : decode b_L_person 2 = .ok (.aload_n 0, 1) := by decide +kernel
theorem d_L_person_3 : decode b_L_person 3 = .ok (.iload_n 1, 1) := by decide +kernel
theorem d_L_person_4 : decode b_L_person 4 = .ok (.iload_n 2, 1) := by decide +kernel
theorem d_L_person_5 : decode b_L_person 5 = .ok (.invokevirtual 70, 3) := by decide +kernel
theorem d_L_person_8 : decode b_L_person 8 = .ok (.i2l, 1) := by decide +kernel
theorem d_L_person_9 : decode b_L_person 9 = .ok (.lastore, 1) := by decide +kernel
theorem d_L_person_10 : decode b_L_person 10 = .ok (.goto 7, 3) := by decide +kernel
theorem d_L_person_13 : decode b_L_person 13 = .ok (.astore 4, 2) := by decide +kernel
theorem d_L_person_15 : decode b_L_person 15 = .ok (.iconst 1, 1) := by decide +kernel
theorem d_L_person_16 : decode b_L_person 16 = .ok (.ireturn, 1) := by decide +kernel
theorem d_L_person_17 : decode b_L_person 17 = .ok (.iconst 0, 1) := by decide +kernel
theorem d_L_person_18 : decode b_L_person 18 = .ok (.ireturn, 1) := by decide +kernel
theorem lk_L_70 : Cond.methodLink "EntryRowsLaw" 70 y_E_person ∈ er_tbl ∨ ∃ host, Cond.methodLinkNest "EntryRowsLaw" 70 y_E_person host ∈ er_tbl := Or.inl (er_mt (i := 484) (by decide +kernel) rfl)
abbrev y_L_boardAt : MethodName := ⟨"EntryRowsLaw", "boardAt", "(LEntryRows;II[J)I"⟩
abbrev b_L_boardAt : ByteArray := method_19_code
abbrev w_L_boardAt : Cond := .codeWith y_L_boardAt b_L_boardAt 5 (some .int) [(0, 10, 13, 21)]
theorem cal_L_boardAt : er_Cal y_L_boardAt w_L_boardAt 5 4 := ⟨er_mt (i := 491) (by decide +kernel) rfl, er_mt (i := 0) (by decide +kernel) rfl, ⟨by decide, by decide⟩, by decide +kernel, b_L_boardAt, (some .int), [(0, 10, 13, 21)], Or.inr rfl⟩
theorem st_L_boardAt : Cond.static y_L_boardAt ∈ er_tbl := er_mt (i := 490) (by decide +kernel) rfl
theorem d_L_boardAt_0 : decode b_L_boardAt 0 = .ok (.aload_n 3, 1) := by decide +kernel
theorem d_L_boardAt_1 : decode b_L_boardAt 1 = .ok (.iconst 0, 1) := by decide +kernel
theorem d_L_boardAt_2 : decode b_L_boardAt 2 = .ok (.aload_n 0, 1) := by decide +kernel
theorem d_L_boardAt_3 : decode b_L_boardAt 3 = .ok (.iload_n 1, 1) := by decide +kernel
theorem d_L_boardAt_4 : decode b_L_boardAt 4 = .ok (.iload_n 2, 1) := by decide +kernel
theorem d_L_boardAt_5 : decode b_L_boardAt 5 = .ok (.invokevirtual 73, 3) := by decide +kernel
theorem d_L_boardAt_8 : decode b_L_boardAt 8 = .ok (.i2l, 1) := by decide +kernel
theorem d_L_boardAt_9 : decode b_L_boardAt 9 = .ok (.lastore, 1) := by decide +kernel
theorem d_L_boardAt_10 : decode b_L_boardAt 10 = .ok (.goto 7, 3) := by decide +kernel
theorem d_L_boardAt_13 : decode b_L_boardAt 13 = .ok (.astore 4, 2) := by decide +kernel
theorem d_L_boardAt_15 : decode b_L_boardAt 15 = .ok (.iconst 1, 1) := by decide +kernel
theorem d_L_boardAt_16 : decode b_L_boardAt 16 = .ok (.ireturn, 1) := by decide +kernel
theorem d_L_boardAt_17 : decode b_L_boardAt 17 = .ok (.iconst 0, 1) := by decide +kernel
theorem d_L_boardAt_18 : decode b_L_boardAt 18 = .ok (.ireturn, 1) := by decide +kernel
theorem lk_L_73 : Cond.methodLink "EntryRowsLaw" 73 y_E_boardAt ∈ er_tbl ∨ ∃ host, Cond.methodLinkNest "EntryRowsLaw" 73 y_E_boardAt host ∈ er_tbl := Or.inl (er_mt (i := 492) (by decide +kernel) rfl)
abbrev y_L_count : MethodName := ⟨"EntryRowsLaw", "count", "(LEntryRows;I[J)I"⟩
abbrev b_L_count : ByteArray := method_20_code
abbrev w_L_count : Cond := .codeWith y_L_count b_L_count 4 (some .int) [(0, 9, 12, 21)]
theorem cal_L_count : er_Cal y_L_count w_L_count 4 3 := ⟨er_mt (i := 506) (by decide +kernel) rfl, er_mt (i := 0) (by decide +kernel) rfl, ⟨by decide, by decide⟩, by decide +kernel, b_L_count, (some .int), [(0, 9, 12, 21)], Or.inr rfl⟩
theorem st_L_count : Cond.static y_L_count ∈ er_tbl := er_mt (i := 505) (by decide +kernel) rfl
theorem d_L_count_0 : decode b_L_count 0 = .ok (.aload_n 2, 1) := by decide +kernel
theorem d_L_count_1 : decode b_L_count 1 = .ok (.iconst 0, 1) := by decide +kernel
theorem d_L_count_2 : decode b_L_count 2 = .ok (.aload_n 0, 1) := by decide +kernel
theorem d_L_count_3 : decode b_L_count 3 = .ok (.iload_n 1, 1) := by decide +kernel
theorem d_L_count_4 : decode b_L_count 4 = .ok (.invokevirtual 76, 3) := by decide +kernel
theorem d_L_count_7 : decode b_L_count 7 = .ok (.i2l, 1) := by decide +kernel
theorem d_L_count_8 : decode b_L_count 8 = .ok (.lastore, 1) := by decide +kernel
theorem d_L_count_9 : decode b_L_count 9 = .ok (.goto 6, 3) := by decide +kernel
theorem d_L_count_12 : decode b_L_count 12 = .ok (.astore_n 3, 1) := by decide +kernel
theorem d_L_count_13 : decode b_L_count 13 = .ok (.iconst 1, 1) := by decide +kernel
theorem d_L_count_14 : decode b_L_count 14 = .ok (.ireturn, 1) := by decide +kernel
theorem d_L_count_15 : decode b_L_count 15 = .ok (.iconst 0, 1) := by decide +kernel
theorem d_L_count_16 : decode b_L_count 16 = .ok (.ireturn, 1) := by decide +kernel
theorem lk_L_76 : Cond.methodLink "EntryRowsLaw" 76 y_E_count ∈ er_tbl ∨ ∃ host, Cond.methodLinkNest "EntryRowsLaw" 76 y_E_count host ∈ er_tbl := Or.inl (er_mt (i := 507) (by decide +kernel) rfl)
