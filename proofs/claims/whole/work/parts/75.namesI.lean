theorem oi_i : Cond.instanceMethod objectInit ∈ er_tbl := er_mt (i := 21) (by decide +kernel) rfl
theorem oi_c : Cond.code objectInit ⟨#[0xb1]⟩ 1 none ∈ er_tbl := er_mt (i := 22) (by decide +kernel) rfl
abbrev y_B_init : MethodName := ⟨"EntryRows$Boards", "<init>", "()V"⟩
abbrev b_B_init : ByteArray := prog_2_method_1_code
theorem cw_B_init : Cond.code y_B_init b_B_init 1 none ∈ er_tbl := er_mt (i := 83) (by decide +kernel) rfl
theorem in_B_init : Cond.instanceMethod y_B_init ∈ er_tbl := er_mt (i := 82) (by decide +kernel) rfl
theorem ini_B_init : Cond.initialized "EntryRows$Boards" ∈ er_tbl := er_mt (i := 4) (by decide +kernel) rfl
theorem d_B_init_0 : decode b_B_init 0 = .ok (.aload_n 0, 1) := by decide +kernel
theorem d_B_init_1 : decode b_B_init 1 = .ok (.invokespecial 3, 3) := by decide +kernel
theorem ol_B : Cond.methodLink "EntryRows$Boards" 3 objectInit ∈ er_tbl := er_mt (i := 84) (by decide +kernel) rfl
theorem d_B_init_4 : decode b_B_init 4 = .ok (.aload_n 0, 1) := by decide +kernel
theorem d_B_init_5 : decode b_B_init 5 = .ok (.bipush 8, 2) := by decide +kernel
theorem d_B_init_7 : decode b_B_init 7 = .ok (.newarray .boolean, 2) := by decide +kernel
theorem d_B_init_9 : decode b_B_init 9 = .ok (.putfield 9, 3) := by decide +kernel
theorem ff_B_9 : er_FF "EntryRows$Boards" 9 2 0 := ⟨er_T2, 6, er_ty2, .array .boolean, rfl, by decide, er_i2, rfl, er_mt (i := 86) (by decide +kernel) rfl, rfl, by decide +kernel, fun _ => ⟨rfl, rfl⟩, er_tyok2, er_nm2⟩
theorem d_B_init_12 : decode b_B_init 12 = .ok (.aload_n 0, 1) := by decide +kernel
theorem d_B_init_13 : decode b_B_init 13 = .ok (.bipush 8, 2) := by decide +kernel
theorem d_B_init_15 : decode b_B_init 15 = .ok (.newarray .int, 2) := by decide +kernel
theorem d_B_init_17 : decode b_B_init 17 = .ok (.putfield 15, 3) := by decide +kernel
theorem ff_B_15 : er_FF "EntryRows$Boards" 15 2 1 := ⟨er_T2, 6, er_ty2, .array .int, rfl, by decide, er_i2, rfl, er_mt (i := 88) (by decide +kernel) rfl, rfl, by decide +kernel, fun _ => ⟨rfl, rfl⟩, er_tyok2, er_nm2⟩
theorem d_B_init_20 : decode b_B_init 20 = .ok (.aload_n 0, 1) := by decide +kernel
theorem d_B_init_21 : decode b_B_init 21 = .ok (.bipush 8, 2) := by decide +kernel
theorem d_B_init_23 : decode b_B_init 23 = .ok (.newarray .int, 2) := by decide +kernel
theorem d_B_init_25 : decode b_B_init 25 = .ok (.putfield 19, 3) := by decide +kernel
theorem ff_B_19 : er_FF "EntryRows$Boards" 19 2 2 := ⟨er_T2, 6, er_ty2, .array .int, rfl, by decide, er_i2, rfl, er_mt (i := 90) (by decide +kernel) rfl, rfl, by decide +kernel, fun _ => ⟨rfl, rfl⟩, er_tyok2, er_nm2⟩
theorem d_B_init_28 : decode b_B_init 28 = .ok (.aload_n 0, 1) := by decide +kernel
theorem d_B_init_29 : decode b_B_init 29 = .ok (.bipush 8, 2) := by decide +kernel
theorem d_B_init_31 : decode b_B_init 31 = .ok (.newarray .int, 2) := by decide +kernel
theorem d_B_init_33 : decode b_B_init 33 = .ok (.putfield 22, 3) := by decide +kernel
theorem ff_B_22 : er_FF "EntryRows$Boards" 22 2 3 := ⟨er_T2, 6, er_ty2, .array .int, rfl, by decide, er_i2, rfl, er_mt (i := 92) (by decide +kernel) rfl, rfl, by decide +kernel, fun _ => ⟨rfl, rfl⟩, er_tyok2, er_nm2⟩
theorem d_B_init_36 : decode b_B_init 36 = .ok (.aload_n 0, 1) := by decide +kernel
theorem d_B_init_37 : decode b_B_init 37 = .ok (.bipush 8, 2) := by decide +kernel
theorem d_B_init_39 : decode b_B_init 39 = .ok (.newarray .int, 2) := by decide +kernel
theorem d_B_init_41 : decode b_B_init 41 = .ok (.putfield 25, 3) := by decide +kernel
theorem ff_B_25 : er_FF "EntryRows$Boards" 25 2 4 := ⟨er_T2, 6, er_ty2, .array .int, rfl, by decide, er_i2, rfl, er_mt (i := 94) (by decide +kernel) rfl, rfl, by decide +kernel, fun _ => ⟨rfl, rfl⟩, er_tyok2, er_nm2⟩
theorem d_B_init_44 : decode b_B_init 44 = .ok (.aload_n 0, 1) := by decide +kernel
theorem d_B_init_45 : decode b_B_init 45 = .ok (.iconst 0, 1) := by decide +kernel
theorem d_B_init_46 : decode b_B_init 46 = .ok (.putfield 28, 3) := by decide +kernel
theorem fq_B_28 : er_Fp "EntryRows$Boards" 28 2 5 := ⟨_, er_T2, 6, er_ty2, rfl, by decide, er_i2, rfl, er_mt (i := 96) (by decide +kernel) rfl, rfl, by decide +kernel, er_tyok2, er_nm2⟩
theorem d_B_init_49 : decode b_B_init 49 = .ok (.aload_n 0, 1) := by decide +kernel
theorem d_B_init_50 : decode b_B_init 50 = .ok (.getfield 25, 3) := by decide +kernel
theorem fg_B_25 : er_F "EntryRows$Boards" 25 2 4 := ⟨_, er_T2, 6, rfl, by decide, er_i2, rfl, Or.inl (er_mt (i := 94) (by decide +kernel) rfl)⟩
theorem d_B_init_53 : decode b_B_init 53 = .ok (.iconst (-1), 1) := by decide +kernel
theorem d_B_init_54 : decode b_B_init 54 = .ok (.invokestatic 32, 3) := by decide +kernel
theorem lf_B : Cond.methodLink "EntryRows$Boards" 32 y_fill ∈ er_tbl := er_mt (i := 85) (by decide +kernel) rfl
theorem d_B_init_57 : decode b_B_init 57 = .ok (.return_, 1) := by decide +kernel
abbrev y_P_init : MethodName := ⟨"EntryRows$Persons", "<init>", "()V"⟩
abbrev b_P_init : ByteArray := prog_3_method_1_code
theorem cw_P_init : Cond.code y_P_init b_P_init 1 none ∈ er_tbl := er_mt (i := 27) (by decide +kernel) rfl
theorem in_P_init : Cond.instanceMethod y_P_init ∈ er_tbl := er_mt (i := 26) (by decide +kernel) rfl
theorem ini_P_init : Cond.initialized "EntryRows$Persons" ∈ er_tbl := er_mt (i := 2) (by decide +kernel) rfl
theorem d_P_init_0 : decode b_P_init 0 = .ok (.aload_n 0, 1) := by decide +kernel
theorem d_P_init_1 : decode b_P_init 1 = .ok (.invokespecial 3, 3) := by decide +kernel
theorem ol_P : Cond.methodLink "EntryRows$Persons" 3 objectInit ∈ er_tbl := er_mt (i := 28) (by decide +kernel) rfl
theorem d_P_init_4 : decode b_P_init 4 = .ok (.aload_n 0, 1) := by decide +kernel
theorem d_P_init_5 : decode b_P_init 5 = .ok (.bipush 40, 2) := by decide +kernel
theorem d_P_init_7 : decode b_P_init 7 = .ok (.newarray .int, 2) := by decide +kernel
theorem d_P_init_9 : decode b_P_init 9 = .ok (.putfield 9, 3) := by decide +kernel
theorem ff_P_9 : er_FF "EntryRows$Persons" 9 1 0 := ⟨er_T1, 11, er_ty1, .array .int, rfl, by decide, er_i1, rfl, er_mt (i := 32) (by decide +kernel) rfl, rfl, by decide +kernel, fun _ => ⟨rfl, rfl⟩, er_tyok1, er_nm1⟩
theorem d_P_init_12 : decode b_P_init 12 = .ok (.aload_n 0, 1) := by decide +kernel
theorem d_P_init_13 : decode b_P_init 13 = .ok (.bipush 40, 2) := by decide +kernel
theorem d_P_init_15 : decode b_P_init 15 = .ok (.newarray .int, 2) := by decide +kernel
theorem d_P_init_17 : decode b_P_init 17 = .ok (.putfield 15, 3) := by decide +kernel
theorem ff_P_15 : er_FF "EntryRows$Persons" 15 1 1 := ⟨er_T1, 11, er_ty1, .array .int, rfl, by decide, er_i1, rfl, er_mt (i := 34) (by decide +kernel) rfl, rfl, by decide +kernel, fun _ => ⟨rfl, rfl⟩, er_tyok1, er_nm1⟩
theorem d_P_init_20 : decode b_P_init 20 = .ok (.aload_n 0, 1) := by decide +kernel
theorem d_P_init_21 : decode b_P_init 21 = .ok (.bipush 40, 2) := by decide +kernel
theorem d_P_init_23 : decode b_P_init 23 = .ok (.newarray .int, 2) := by decide +kernel
theorem d_P_init_25 : decode b_P_init 25 = .ok (.putfield 18, 3) := by decide +kernel
theorem ff_P_18 : er_FF "EntryRows$Persons" 18 1 2 := ⟨er_T1, 11, er_ty1, .array .int, rfl, by decide, er_i1, rfl, er_mt (i := 36) (by decide +kernel) rfl, rfl, by decide +kernel, fun _ => ⟨rfl, rfl⟩, er_tyok1, er_nm1⟩
theorem d_P_init_28 : decode b_P_init 28 = .ok (.aload_n 0, 1) := by decide +kernel
theorem d_P_init_29 : decode b_P_init 29 = .ok (.bipush 40, 2) := by decide +kernel
theorem d_P_init_31 : decode b_P_init 31 = .ok (.newarray .int, 2) := by decide +kernel
theorem d_P_init_33 : decode b_P_init 33 = .ok (.putfield 21, 3) := by decide +kernel
theorem ff_P_21 : er_FF "EntryRows$Persons" 21 1 3 := ⟨er_T1, 11, er_ty1, .array .int, rfl, by decide, er_i1, rfl, er_mt (i := 38) (by decide +kernel) rfl, rfl, by decide +kernel, fun _ => ⟨rfl, rfl⟩, er_tyok1, er_nm1⟩
theorem d_P_init_36 : decode b_P_init 36 = .ok (.aload_n 0, 1) := by decide +kernel
theorem d_P_init_37 : decode b_P_init 37 = .ok (.bipush 40, 2) := by decide +kernel
theorem d_P_init_39 : decode b_P_init 39 = .ok (.newarray .int, 2) := by decide +kernel
theorem d_P_init_41 : decode b_P_init 41 = .ok (.putfield 24, 3) := by decide +kernel
theorem ff_P_24 : er_FF "EntryRows$Persons" 24 1 4 := ⟨er_T1, 11, er_ty1, .array .int, rfl, by decide, er_i1, rfl, er_mt (i := 40) (by decide +kernel) rfl, rfl, by decide +kernel, fun _ => ⟨rfl, rfl⟩, er_tyok1, er_nm1⟩
theorem d_P_init_44 : decode b_P_init 44 = .ok (.aload_n 0, 1) := by decide +kernel
theorem d_P_init_45 : decode b_P_init 45 = .ok (.bipush 40, 2) := by decide +kernel
theorem d_P_init_47 : decode b_P_init 47 = .ok (.newarray .int, 2) := by decide +kernel
theorem d_P_init_49 : decode b_P_init 49 = .ok (.putfield 27, 3) := by decide +kernel
theorem ff_P_27 : er_FF "EntryRows$Persons" 27 1 5 := ⟨er_T1, 11, er_ty1, .array .int, rfl, by decide, er_i1, rfl, er_mt (i := 42) (by decide +kernel) rfl, rfl, by decide +kernel, fun _ => ⟨rfl, rfl⟩, er_tyok1, er_nm1⟩
theorem d_P_init_52 : decode b_P_init 52 = .ok (.aload_n 0, 1) := by decide +kernel
theorem d_P_init_53 : decode b_P_init 53 = .ok (.bipush 40, 2) := by decide +kernel
theorem d_P_init_55 : decode b_P_init 55 = .ok (.newarray .int, 2) := by decide +kernel
theorem d_P_init_57 : decode b_P_init 57 = .ok (.putfield 30, 3) := by decide +kernel
theorem ff_P_30 : er_FF "EntryRows$Persons" 30 1 6 := ⟨er_T1, 11, er_ty1, .array .int, rfl, by decide, er_i1, rfl, er_mt (i := 44) (by decide +kernel) rfl, rfl, by decide +kernel, fun _ => ⟨rfl, rfl⟩, er_tyok1, er_nm1⟩
theorem d_P_init_60 : decode b_P_init 60 = .ok (.aload_n 0, 1) := by decide +kernel
theorem d_P_init_61 : decode b_P_init 61 = .ok (.bipush 40, 2) := by decide +kernel
theorem d_P_init_63 : decode b_P_init 63 = .ok (.newarray .int, 2) := by decide +kernel
theorem d_P_init_65 : decode b_P_init 65 = .ok (.putfield 33, 3) := by decide +kernel
theorem ff_P_33 : er_FF "EntryRows$Persons" 33 1 7 := ⟨er_T1, 11, er_ty1, .array .int, rfl, by decide, er_i1, rfl, er_mt (i := 46) (by decide +kernel) rfl, rfl, by decide +kernel, fun _ => ⟨rfl, rfl⟩, er_tyok1, er_nm1⟩
theorem d_P_init_68 : decode b_P_init 68 = .ok (.aload_n 0, 1) := by decide +kernel
theorem d_P_init_69 : decode b_P_init 69 = .ok (.bipush 40, 2) := by decide +kernel
theorem d_P_init_71 : decode b_P_init 71 = .ok (.newarray .int, 2) := by decide +kernel
theorem d_P_init_73 : decode b_P_init 73 = .ok (.putfield 36, 3) := by decide +kernel
theorem ff_P_36 : er_FF "EntryRows$Persons" 36 1 8 := ⟨er_T1, 11, er_ty1, .array .int, rfl, by decide, er_i1, rfl, er_mt (i := 48) (by decide +kernel) rfl, rfl, by decide +kernel, fun _ => ⟨rfl, rfl⟩, er_tyok1, er_nm1⟩
theorem d_P_init_76 : decode b_P_init 76 = .ok (.aload_n 0, 1) := by decide +kernel
theorem d_P_init_77 : decode b_P_init 77 = .ok (.bipush 40, 2) := by decide +kernel
theorem d_P_init_79 : decode b_P_init 79 = .ok (.newarray .int, 2) := by decide +kernel
theorem d_P_init_81 : decode b_P_init 81 = .ok (.putfield 39, 3) := by decide +kernel
theorem ff_P_39 : er_FF "EntryRows$Persons" 39 1 9 := ⟨er_T1, 11, er_ty1, .array .int, rfl, by decide, er_i1, rfl, er_mt (i := 50) (by decide +kernel) rfl, rfl, by decide +kernel, fun _ => ⟨rfl, rfl⟩, er_tyok1, er_nm1⟩
theorem d_P_init_84 : decode b_P_init 84 = .ok (.aload_n 0, 1) := by decide +kernel
theorem d_P_init_85 : decode b_P_init 85 = .ok (.bipush 40, 2) := by decide +kernel
theorem d_P_init_87 : decode b_P_init 87 = .ok (.newarray .boolean, 2) := by decide +kernel
theorem d_P_init_89 : decode b_P_init 89 = .ok (.putfield 42, 3) := by decide +kernel
theorem ff_P_42 : er_FF "EntryRows$Persons" 42 1 10 := ⟨er_T1, 11, er_ty1, .array .boolean, rfl, by decide, er_i1, rfl, er_mt (i := 52) (by decide +kernel) rfl, rfl, by decide +kernel, fun _ => ⟨rfl, rfl⟩, er_tyok1, er_nm1⟩
theorem d_P_init_92 : decode b_P_init 92 = .ok (.aload_n 0, 1) := by decide +kernel
theorem d_P_init_93 : decode b_P_init 93 = .ok (.getfield 9, 3) := by decide +kernel
theorem fg_P_9 : er_F "EntryRows$Persons" 9 1 0 := ⟨_, er_T1, 11, rfl, by decide, er_i1, rfl, Or.inl (er_mt (i := 32) (by decide +kernel) rfl)⟩
theorem d_P_init_96 : decode b_P_init 96 = .ok (.iconst (-1), 1) := by decide +kernel
theorem d_P_init_97 : decode b_P_init 97 = .ok (.invokestatic 46, 3) := by decide +kernel
theorem lf_P : Cond.methodLink "EntryRows$Persons" 46 y_fill ∈ er_tbl := er_mt (i := 29) (by decide +kernel) rfl
theorem d_P_init_100 : decode b_P_init 100 = .ok (.aload_n 0, 1) := by decide +kernel
theorem d_P_init_101 : decode b_P_init 101 = .ok (.getfield 15, 3) := by decide +kernel
theorem fg_P_15 : er_F "EntryRows$Persons" 15 1 1 := ⟨_, er_T1, 11, rfl, by decide, er_i1, rfl, Or.inl (er_mt (i := 34) (by decide +kernel) rfl)⟩
theorem d_P_init_104 : decode b_P_init 104 = .ok (.iconst (-1), 1) := by decide +kernel
theorem d_P_init_105 : decode b_P_init 105 = .ok (.invokestatic 46, 3) := by decide +kernel
theorem d_P_init_108 : decode b_P_init 108 = .ok (.aload_n 0, 1) := by decide +kernel
theorem d_P_init_109 : decode b_P_init 109 = .ok (.getfield 18, 3) := by decide +kernel
theorem fg_P_18 : er_F "EntryRows$Persons" 18 1 2 := ⟨_, er_T1, 11, rfl, by decide, er_i1, rfl, Or.inl (er_mt (i := 36) (by decide +kernel) rfl)⟩
theorem d_P_init_112 : decode b_P_init 112 = .ok (.iconst (-1), 1) := by decide +kernel
theorem d_P_init_113 : decode b_P_init 113 = .ok (.invokestatic 46, 3) := by decide +kernel
theorem d_P_init_116 : decode b_P_init 116 = .ok (.aload_n 0, 1) := by decide +kernel
theorem d_P_init_117 : decode b_P_init 117 = .ok (.getfield 21, 3) := by decide +kernel
theorem fg_P_21 : er_F "EntryRows$Persons" 21 1 3 := ⟨_, er_T1, 11, rfl, by decide, er_i1, rfl, Or.inl (er_mt (i := 38) (by decide +kernel) rfl)⟩
theorem d_P_init_120 : decode b_P_init 120 = .ok (.iconst (-1), 1) := by decide +kernel
theorem d_P_init_121 : decode b_P_init 121 = .ok (.invokestatic 46, 3) := by decide +kernel
theorem d_P_init_124 : decode b_P_init 124 = .ok (.aload_n 0, 1) := by decide +kernel
theorem d_P_init_125 : decode b_P_init 125 = .ok (.getfield 24, 3) := by decide +kernel
theorem fg_P_24 : er_F "EntryRows$Persons" 24 1 4 := ⟨_, er_T1, 11, rfl, by decide, er_i1, rfl, Or.inl (er_mt (i := 40) (by decide +kernel) rfl)⟩
theorem d_P_init_128 : decode b_P_init 128 = .ok (.iconst (-1), 1) := by decide +kernel
theorem d_P_init_129 : decode b_P_init 129 = .ok (.invokestatic 46, 3) := by decide +kernel
theorem d_P_init_132 : decode b_P_init 132 = .ok (.aload_n 0, 1) := by decide +kernel
theorem d_P_init_133 : decode b_P_init 133 = .ok (.getfield 36, 3) := by decide +kernel
theorem fg_P_36 : er_F "EntryRows$Persons" 36 1 8 := ⟨_, er_T1, 11, rfl, by decide, er_i1, rfl, Or.inl (er_mt (i := 48) (by decide +kernel) rfl)⟩
theorem d_P_init_136 : decode b_P_init 136 = .ok (.iconst (-1), 1) := by decide +kernel
theorem d_P_init_137 : decode b_P_init 137 = .ok (.invokestatic 46, 3) := by decide +kernel
theorem d_P_init_140 : decode b_P_init 140 = .ok (.aload_n 0, 1) := by decide +kernel
theorem d_P_init_141 : decode b_P_init 141 = .ok (.getfield 39, 3) := by decide +kernel
theorem fg_P_39 : er_F "EntryRows$Persons" 39 1 9 := ⟨_, er_T1, 11, rfl, by decide, er_i1, rfl, Or.inl (er_mt (i := 50) (by decide +kernel) rfl)⟩
theorem d_P_init_144 : decode b_P_init 144 = .ok (.iconst (-1), 1) := by decide +kernel
theorem d_P_init_145 : decode b_P_init 145 = .ok (.invokestatic 46, 3) := by decide +kernel
theorem d_P_init_148 : decode b_P_init 148 = .ok (.return_, 1) := by decide +kernel
abbrev y_E_init : MethodName := ⟨"EntryRows", "<init>", "()V"⟩
abbrev b_E_init : ByteArray := prog_1_method_1_code
theorem cw_E_init : Cond.code y_E_init b_E_init 1 none ∈ er_tbl := er_mt (i := 19) (by decide +kernel) rfl
theorem in_E_init : Cond.instanceMethod y_E_init ∈ er_tbl := er_mt (i := 18) (by decide +kernel) rfl
theorem ini_E_init : Cond.initialized "EntryRows" ∈ er_tbl := er_mt (i := 1) (by decide +kernel) rfl
theorem d_E_init_0 : decode b_E_init 0 = .ok (.aload_n 0, 1) := by decide +kernel
theorem d_E_init_1 : decode b_E_init 1 = .ok (.invokespecial 1, 3) := by decide +kernel
theorem ol_E : Cond.methodLink "EntryRows" 1 objectInit ∈ er_tbl := er_mt (i := 20) (by decide +kernel) rfl
theorem d_E_init_4 : decode b_E_init 4 = .ok (.aload_n 0, 1) := by decide +kernel
theorem d_E_init_5 : decode b_E_init 5 = .ok (.new 7, 3) := by decide +kernel
theorem nw_E_7 : er_Nw "EntryRows" 7 1 [.null, .null, .null, .null, .null, .null, .null, .null, .null, .null, .null] := ⟨"EntryRows$Persons", er_T1, er_ty1, rfl, er_i1, er_tyok1, er_mt (i := 23) (by decide +kernel) rfl, er_mt (i := 24) (by decide +kernel) rfl, er_mt (i := 2) (by decide +kernel) rfl, by decide +kernel⟩
theorem d_E_init_8 : decode b_E_init 8 = .ok (.dup, 1) := by decide +kernel
theorem d_E_init_9 : decode b_E_init 9 = .ok (.invokespecial 9, 3) := by decide +kernel
theorem lk_E_9 : Cond.methodLink "EntryRows" 9 y_P_init ∈ er_tbl ∨ ∃ host, Cond.methodLinkNest "EntryRows" 9 y_P_init host ∈ er_tbl := Or.inr ⟨"EntryRows", er_mt (i := 25) (by decide +kernel) rfl⟩
theorem d_E_init_12 : decode b_E_init 12 = .ok (.putfield 10, 3) := by decide +kernel
theorem ff_E_10 : er_FF "EntryRows" 10 0 0 := ⟨er_T0, 7, er_ty0, .object "EntryRows$Persons", rfl, by decide, er_i0, rfl, er_mt (i := 111) (by decide +kernel) rfl, rfl, by decide +kernel, fun _ => ⟨rfl, rfl⟩, er_tyok0, er_nm0⟩
theorem d_E_init_15 : decode b_E_init 15 = .ok (.aload_n 0, 1) := by decide +kernel
theorem d_E_init_16 : decode b_E_init 16 = .ok (.new 16, 3) := by decide +kernel
theorem nw_E_16 : er_Nw "EntryRows" 16 2 [.null, .null, .null, .null, .null, .int 0] := ⟨"EntryRows$Boards", er_T2, er_ty2, rfl, er_i2, er_tyok2, er_mt (i := 79) (by decide +kernel) rfl, er_mt (i := 80) (by decide +kernel) rfl, er_mt (i := 4) (by decide +kernel) rfl, by decide +kernel⟩
theorem d_E_init_19 : decode b_E_init 19 = .ok (.dup, 1) := by decide +kernel
theorem d_E_init_20 : decode b_E_init 20 = .ok (.invokespecial 18, 3) := by decide +kernel
theorem lk_E_18 : Cond.methodLink "EntryRows" 18 y_B_init ∈ er_tbl ∨ ∃ host, Cond.methodLinkNest "EntryRows" 18 y_B_init host ∈ er_tbl := Or.inr ⟨"EntryRows", er_mt (i := 81) (by decide +kernel) rfl⟩
theorem d_E_init_23 : decode b_E_init 23 = .ok (.putfield 19, 3) := by decide +kernel
theorem ff_E_19 : er_FF "EntryRows" 19 0 1 := ⟨er_T0, 7, er_ty0, .object "EntryRows$Boards", rfl, by decide, er_i0, rfl, er_mt (i := 112) (by decide +kernel) rfl, rfl, by decide +kernel, fun _ => ⟨rfl, rfl⟩, er_tyok0, er_nm0⟩
theorem d_E_init_26 : decode b_E_init 26 = .ok (.aload_n 0, 1) := by decide +kernel
theorem d_E_init_27 : decode b_E_init 27 = .ok (.bipush 16, 2) := by decide +kernel
theorem d_E_init_29 : decode b_E_init 29 = .ok (.newarray .int, 2) := by decide +kernel
theorem d_E_init_31 : decode b_E_init 31 = .ok (.putfield 23, 3) := by decide +kernel
theorem ff_E_23 : er_FF "EntryRows" 23 0 2 := ⟨er_T0, 7, er_ty0, .array .int, rfl, by decide, er_i0, rfl, er_mt (i := 113) (by decide +kernel) rfl, rfl, by decide +kernel, fun _ => ⟨rfl, rfl⟩, er_tyok0, er_nm0⟩
theorem d_E_init_34 : decode b_E_init 34 = .ok (.aload_n 0, 1) := by decide +kernel
theorem d_E_init_35 : decode b_E_init 35 = .ok (.bipush 6, 2) := by decide +kernel
theorem d_E_init_37 : decode b_E_init 37 = .ok (.newarray .int, 2) := by decide +kernel
theorem d_E_init_39 : decode b_E_init 39 = .ok (.putfield 27, 3) := by decide +kernel
theorem ff_E_27 : er_FF "EntryRows" 27 0 3 := ⟨er_T0, 7, er_ty0, .array .int, rfl, by decide, er_i0, rfl, er_mt (i := 114) (by decide +kernel) rfl, rfl, by decide +kernel, fun _ => ⟨rfl, rfl⟩, er_tyok0, er_nm0⟩
theorem d_E_init_42 : decode b_E_init 42 = .ok (.aload_n 0, 1) := by decide +kernel
theorem d_E_init_43 : decode b_E_init 43 = .ok (.iconst 0, 1) := by decide +kernel
theorem d_E_init_44 : decode b_E_init 44 = .ok (.putfield 30, 3) := by decide +kernel
theorem fq_E_30 : er_Fp "EntryRows" 30 0 4 := ⟨_, er_T0, 7, er_ty0, rfl, by decide, er_i0, rfl, er_mt (i := 115) (by decide +kernel) rfl, rfl, by decide +kernel, er_tyok0, er_nm0⟩
theorem d_E_init_47 : decode b_E_init 47 = .ok (.aload_n 0, 1) := by decide +kernel
theorem d_E_init_48 : decode b_E_init 48 = .ok (.iconst 0, 1) := by decide +kernel
theorem d_E_init_49 : decode b_E_init 49 = .ok (.putfield 34, 3) := by decide +kernel
theorem fq_E_34 : er_Fp "EntryRows" 34 0 5 := ⟨_, er_T0, 7, er_ty0, rfl, by decide, er_i0, rfl, er_mt (i := 116) (by decide +kernel) rfl, rfl, by decide +kernel, er_tyok0, er_nm0⟩
theorem d_E_init_52 : decode b_E_init 52 = .ok (.aload_n 0, 1) := by decide +kernel
theorem d_E_init_53 : decode b_E_init 53 = .ok (.sipush 600, 3) := by decide +kernel
theorem d_E_init_56 : decode b_E_init 56 = .ok (.putfield 37, 3) := by decide +kernel
theorem fq_E_37 : er_Fp "EntryRows" 37 0 6 := ⟨_, er_T0, 7, er_ty0, rfl, by decide, er_i0, rfl, er_mt (i := 117) (by decide +kernel) rfl, rfl, by decide +kernel, er_tyok0, er_nm0⟩
theorem d_E_init_59 : decode b_E_init 59 = .ok (.aload_n 0, 1) := by decide +kernel
theorem d_E_init_60 : decode b_E_init 60 = .ok (.getfield 23, 3) := by decide +kernel
theorem fg_E_23 : er_F "EntryRows" 23 0 2 := ⟨_, er_T0, 7, rfl, by decide, er_i0, rfl, Or.inl (er_mt (i := 113) (by decide +kernel) rfl)⟩
theorem d_E_init_63 : decode b_E_init 63 = .ok (.iconst (-1), 1) := by decide +kernel
theorem d_E_init_64 : decode b_E_init 64 = .ok (.invokestatic 40, 3) := by decide +kernel
theorem lf_E : Cond.methodLink "EntryRows" 40 y_fill ∈ er_tbl := er_mt (i := 110) (by decide +kernel) rfl
theorem d_E_init_67 : decode b_E_init 67 = .ok (.return_, 1) := by decide +kernel
abbrev y_M_init : MethodName := ⟨"EntryRowsModel", "<init>", "()V"⟩
abbrev b_M_init : ByteArray := prog_5_method_1_code
theorem cw_M_init : Cond.code y_M_init b_M_init 2 none ∈ er_tbl := er_mt (i := 524) (by decide +kernel) rfl
theorem in_M_init : Cond.instanceMethod y_M_init ∈ er_tbl := er_mt (i := 523) (by decide +kernel) rfl
theorem ini_M_init : Cond.initialized "EntryRowsModel" ∈ er_tbl := er_mt (i := 5) (by decide +kernel) rfl
theorem d_M_init_0 : decode b_M_init 0 = .ok (.aload_n 0, 1) := by decide +kernel
theorem d_M_init_1 : decode b_M_init 1 = .ok (.invokespecial 1, 3) := by decide +kernel
theorem ol_M : Cond.methodLink "EntryRowsModel" 1 objectInit ∈ er_tbl := er_mt (i := 525) (by decide +kernel) rfl
theorem d_M_init_4 : decode b_M_init 4 = .ok (.aload_n 0, 1) := by decide +kernel
theorem d_M_init_5 : decode b_M_init 5 = .ok (.sipush 600, 3) := by decide +kernel
theorem d_M_init_8 : decode b_M_init 8 = .ok (.putfield 7, 3) := by decide +kernel
theorem fq_M_7 : er_Fp "EntryRowsModel" 7 3 2 := ⟨_, er_T3, 22, er_ty3, rfl, by decide, er_i3, rfl, er_mt (i := 532) (by decide +kernel) rfl, rfl, by decide +kernel, er_tyok3, er_nm3⟩
theorem d_M_init_11 : decode b_M_init 11 = .ok (.aload_n 0, 1) := by decide +kernel
theorem d_M_init_12 : decode b_M_init 12 = .ok (.bipush 6, 2) := by decide +kernel
theorem d_M_init_14 : decode b_M_init 14 = .ok (.newarray .int, 2) := by decide +kernel
theorem d_M_init_16 : decode b_M_init 16 = .ok (.putfield 13, 3) := by decide +kernel
theorem ff_M_13 : er_FF "EntryRowsModel" 13 3 4 := ⟨er_T3, 22, er_ty3, .array .int, rfl, by decide, er_i3, rfl, er_mt (i := 534) (by decide +kernel) rfl, rfl, by decide +kernel, fun _ => ⟨rfl, rfl⟩, er_tyok3, er_nm3⟩
theorem d_M_init_19 : decode b_M_init 19 = .ok (.aload_n 0, 1) := by decide +kernel
theorem d_M_init_20 : decode b_M_init 20 = .ok (.bipush 8, 2) := by decide +kernel
theorem d_M_init_22 : decode b_M_init 22 = .ok (.newarray .boolean, 2) := by decide +kernel
theorem d_M_init_24 : decode b_M_init 24 = .ok (.putfield 17, 3) := by decide +kernel
theorem ff_M_17 : er_FF "EntryRowsModel" 17 3 6 := ⟨er_T3, 22, er_ty3, .array .boolean, rfl, by decide, er_i3, rfl, er_mt (i := 536) (by decide +kernel) rfl, rfl, by decide +kernel, fun _ => ⟨rfl, rfl⟩, er_tyok3, er_nm3⟩
theorem d_M_init_27 : decode b_M_init 27 = .ok (.aload_n 0, 1) := by decide +kernel
theorem d_M_init_28 : decode b_M_init 28 = .ok (.bipush 8, 2) := by decide +kernel
theorem d_M_init_30 : decode b_M_init 30 = .ok (.newarray .int, 2) := by decide +kernel
theorem d_M_init_32 : decode b_M_init 32 = .ok (.putfield 21, 3) := by decide +kernel
theorem ff_M_21 : er_FF "EntryRowsModel" 21 3 7 := ⟨er_T3, 22, er_ty3, .array .int, rfl, by decide, er_i3, rfl, er_mt (i := 537) (by decide +kernel) rfl, rfl, by decide +kernel, fun _ => ⟨rfl, rfl⟩, er_tyok3, er_nm3⟩
theorem d_M_init_35 : decode b_M_init 35 = .ok (.aload_n 0, 1) := by decide +kernel
theorem d_M_init_36 : decode b_M_init 36 = .ok (.bipush 8, 2) := by decide +kernel
theorem d_M_init_38 : decode b_M_init 38 = .ok (.newarray .int, 2) := by decide +kernel
theorem d_M_init_40 : decode b_M_init 40 = .ok (.putfield 24, 3) := by decide +kernel
theorem ff_M_24 : er_FF "EntryRowsModel" 24 3 8 := ⟨er_T3, 22, er_ty3, .array .int, rfl, by decide, er_i3, rfl, er_mt (i := 538) (by decide +kernel) rfl, rfl, by decide +kernel, fun _ => ⟨rfl, rfl⟩, er_tyok3, er_nm3⟩
theorem d_M_init_43 : decode b_M_init 43 = .ok (.aload_n 0, 1) := by decide +kernel
theorem d_M_init_44 : decode b_M_init 44 = .ok (.bipush 8, 2) := by decide +kernel
theorem d_M_init_46 : decode b_M_init 46 = .ok (.newarray .int, 2) := by decide +kernel
theorem d_M_init_48 : decode b_M_init 48 = .ok (.putfield 27, 3) := by decide +kernel
theorem ff_M_27 : er_FF "EntryRowsModel" 27 3 9 := ⟨er_T3, 22, er_ty3, .array .int, rfl, by decide, er_i3, rfl, er_mt (i := 539) (by decide +kernel) rfl, rfl, by decide +kernel, fun _ => ⟨rfl, rfl⟩, er_tyok3, er_nm3⟩
theorem d_M_init_51 : decode b_M_init 51 = .ok (.aload_n 0, 1) := by decide +kernel
theorem d_M_init_52 : decode b_M_init 52 = .ok (.bipush 8, 2) := by decide +kernel
theorem d_M_init_54 : decode b_M_init 54 = .ok (.newarray .int, 2) := by decide +kernel
theorem d_M_init_56 : decode b_M_init 56 = .ok (.putfield 30, 3) := by decide +kernel
theorem ff_M_30 : er_FF "EntryRowsModel" 30 3 10 := ⟨er_T3, 22, er_ty3, .array .int, rfl, by decide, er_i3, rfl, er_mt (i := 540) (by decide +kernel) rfl, rfl, by decide +kernel, fun _ => ⟨rfl, rfl⟩, er_tyok3, er_nm3⟩
theorem d_M_init_59 : decode b_M_init 59 = .ok (.aload_n 0, 1) := by decide +kernel
theorem d_M_init_60 : decode b_M_init 60 = .ok (.bipush 16, 2) := by decide +kernel
theorem d_M_init_62 : decode b_M_init 62 = .ok (.newarray .int, 2) := by decide +kernel
theorem d_M_init_64 : decode b_M_init 64 = .ok (.putfield 33, 3) := by decide +kernel
theorem ff_M_33 : er_FF "EntryRowsModel" 33 3 11 := ⟨er_T3, 22, er_ty3, .array .int, rfl, by decide, er_i3, rfl, er_mt (i := 541) (by decide +kernel) rfl, rfl, by decide +kernel, fun _ => ⟨rfl, rfl⟩, er_tyok3, er_nm3⟩
theorem d_M_init_67 : decode b_M_init 67 = .ok (.aload_n 0, 1) := by decide +kernel
theorem d_M_init_68 : decode b_M_init 68 = .ok (.bipush 40, 2) := by decide +kernel
theorem d_M_init_70 : decode b_M_init 70 = .ok (.newarray .int, 2) := by decide +kernel
theorem d_M_init_72 : decode b_M_init 72 = .ok (.putfield 36, 3) := by decide +kernel
theorem ff_M_36 : er_FF "EntryRowsModel" 36 3 12 := ⟨er_T3, 22, er_ty3, .array .int, rfl, by decide, er_i3, rfl, er_mt (i := 542) (by decide +kernel) rfl, rfl, by decide +kernel, fun _ => ⟨rfl, rfl⟩, er_tyok3, er_nm3⟩
theorem d_M_init_75 : decode b_M_init 75 = .ok (.aload_n 0, 1) := by decide +kernel
theorem d_M_init_76 : decode b_M_init 76 = .ok (.bipush 40, 2) := by decide +kernel
theorem d_M_init_78 : decode b_M_init 78 = .ok (.newarray .boolean, 2) := by decide +kernel
theorem d_M_init_80 : decode b_M_init 80 = .ok (.putfield 39, 3) := by decide +kernel
theorem ff_M_39 : er_FF "EntryRowsModel" 39 3 13 := ⟨er_T3, 22, er_ty3, .array .boolean, rfl, by decide, er_i3, rfl, er_mt (i := 543) (by decide +kernel) rfl, rfl, by decide +kernel, fun _ => ⟨rfl, rfl⟩, er_tyok3, er_nm3⟩
theorem d_M_init_83 : decode b_M_init 83 = .ok (.aload_n 0, 1) := by decide +kernel
theorem d_M_init_84 : decode b_M_init 84 = .ok (.bipush 40, 2) := by decide +kernel
theorem d_M_init_86 : decode b_M_init 86 = .ok (.newarray .int, 2) := by decide +kernel
theorem d_M_init_88 : decode b_M_init 88 = .ok (.putfield 42, 3) := by decide +kernel
theorem ff_M_42 : er_FF "EntryRowsModel" 42 3 14 := ⟨er_T3, 22, er_ty3, .array .int, rfl, by decide, er_i3, rfl, er_mt (i := 544) (by decide +kernel) rfl, rfl, by decide +kernel, fun _ => ⟨rfl, rfl⟩, er_tyok3, er_nm3⟩
theorem d_M_init_91 : decode b_M_init 91 = .ok (.aload_n 0, 1) := by decide +kernel
theorem d_M_init_92 : decode b_M_init 92 = .ok (.bipush 40, 2) := by decide +kernel
theorem d_M_init_94 : decode b_M_init 94 = .ok (.newarray .int, 2) := by decide +kernel
theorem d_M_init_96 : decode b_M_init 96 = .ok (.putfield 45, 3) := by decide +kernel
theorem ff_M_45 : er_FF "EntryRowsModel" 45 3 15 := ⟨er_T3, 22, er_ty3, .array .int, rfl, by decide, er_i3, rfl, er_mt (i := 545) (by decide +kernel) rfl, rfl, by decide +kernel, fun _ => ⟨rfl, rfl⟩, er_tyok3, er_nm3⟩
theorem d_M_init_99 : decode b_M_init 99 = .ok (.aload_n 0, 1) := by decide +kernel
theorem d_M_init_100 : decode b_M_init 100 = .ok (.bipush 40, 2) := by decide +kernel
theorem d_M_init_102 : decode b_M_init 102 = .ok (.newarray .int, 2) := by decide +kernel
theorem d_M_init_104 : decode b_M_init 104 = .ok (.putfield 48, 3) := by decide +kernel
theorem ff_M_48 : er_FF "EntryRowsModel" 48 3 16 := ⟨er_T3, 22, er_ty3, .array .int, rfl, by decide, er_i3, rfl, er_mt (i := 546) (by decide +kernel) rfl, rfl, by decide +kernel, fun _ => ⟨rfl, rfl⟩, er_tyok3, er_nm3⟩
theorem d_M_init_107 : decode b_M_init 107 = .ok (.aload_n 0, 1) := by decide +kernel
theorem d_M_init_108 : decode b_M_init 108 = .ok (.bipush 40, 2) := by decide +kernel
theorem d_M_init_110 : decode b_M_init 110 = .ok (.newarray .int, 2) := by decide +kernel
theorem d_M_init_112 : decode b_M_init 112 = .ok (.putfield 51, 3) := by decide +kernel
theorem ff_M_51 : er_FF "EntryRowsModel" 51 3 17 := ⟨er_T3, 22, er_ty3, .array .int, rfl, by decide, er_i3, rfl, er_mt (i := 547) (by decide +kernel) rfl, rfl, by decide +kernel, fun _ => ⟨rfl, rfl⟩, er_tyok3, er_nm3⟩
theorem d_M_init_115 : decode b_M_init 115 = .ok (.aload_n 0, 1) := by decide +kernel
theorem d_M_init_116 : decode b_M_init 116 = .ok (.bipush 40, 2) := by decide +kernel
theorem d_M_init_118 : decode b_M_init 118 = .ok (.newarray .int, 2) := by decide +kernel
theorem d_M_init_120 : decode b_M_init 120 = .ok (.putfield 54, 3) := by decide +kernel
theorem ff_M_54 : er_FF "EntryRowsModel" 54 3 18 := ⟨er_T3, 22, er_ty3, .array .int, rfl, by decide, er_i3, rfl, er_mt (i := 548) (by decide +kernel) rfl, rfl, by decide +kernel, fun _ => ⟨rfl, rfl⟩, er_tyok3, er_nm3⟩
theorem d_M_init_123 : decode b_M_init 123 = .ok (.aload_n 0, 1) := by decide +kernel
theorem d_M_init_124 : decode b_M_init 124 = .ok (.bipush 40, 2) := by decide +kernel
theorem d_M_init_126 : decode b_M_init 126 = .ok (.newarray .int, 2) := by decide +kernel
theorem d_M_init_128 : decode b_M_init 128 = .ok (.putfield 57, 3) := by decide +kernel
theorem ff_M_57 : er_FF "EntryRowsModel" 57 3 19 := ⟨er_T3, 22, er_ty3, .array .int, rfl, by decide, er_i3, rfl, er_mt (i := 549) (by decide +kernel) rfl, rfl, by decide +kernel, fun _ => ⟨rfl, rfl⟩, er_tyok3, er_nm3⟩
theorem d_M_init_131 : decode b_M_init 131 = .ok (.aload_n 0, 1) := by decide +kernel
theorem d_M_init_132 : decode b_M_init 132 = .ok (.bipush 40, 2) := by decide +kernel
theorem d_M_init_134 : decode b_M_init 134 = .ok (.newarray .int, 2) := by decide +kernel
theorem d_M_init_136 : decode b_M_init 136 = .ok (.putfield 60, 3) := by decide +kernel
theorem ff_M_60 : er_FF "EntryRowsModel" 60 3 20 := ⟨er_T3, 22, er_ty3, .array .int, rfl, by decide, er_i3, rfl, er_mt (i := 550) (by decide +kernel) rfl, rfl, by decide +kernel, fun _ => ⟨rfl, rfl⟩, er_tyok3, er_nm3⟩
theorem d_M_init_139 : decode b_M_init 139 = .ok (.aload_n 0, 1) := by decide +kernel
theorem d_M_init_140 : decode b_M_init 140 = .ok (.bipush 40, 2) := by decide +kernel
theorem d_M_init_142 : decode b_M_init 142 = .ok (.newarray .int, 2) := by decide +kernel
theorem d_M_init_144 : decode b_M_init 144 = .ok (.putfield 63, 3) := by decide +kernel
theorem ff_M_63 : er_FF "EntryRowsModel" 63 3 21 := ⟨er_T3, 22, er_ty3, .array .int, rfl, by decide, er_i3, rfl, er_mt (i := 551) (by decide +kernel) rfl, rfl, by decide +kernel, fun _ => ⟨rfl, rfl⟩, er_tyok3, er_nm3⟩
theorem d_M_init_147 : decode b_M_init 147 = .ok (.iconst 0, 1) := by decide +kernel
theorem d_M_init_148 : decode b_M_init 148 = .ok (.istore_n 1, 1) := by decide +kernel
theorem d_M_init_149 : decode b_M_init 149 = .ok (.iload_n 1, 1) := by decide +kernel
theorem d_M_init_150 : decode b_M_init 150 = .ok (.bipush 40, 2) := by decide +kernel
theorem d_M_init_152 : decode b_M_init 152 = .ok (.if_icmp .ge 21, 3) := by decide +kernel
theorem d_M_init_155 : decode b_M_init 155 = .ok (.aload_n 0, 1) := by decide +kernel
theorem d_M_init_156 : decode b_M_init 156 = .ok (.getfield 36, 3) := by decide +kernel
theorem fg_M_36 : er_F "EntryRowsModel" 36 3 12 := ⟨_, er_T3, 22, rfl, by decide, er_i3, rfl, Or.inl (er_mt (i := 542) (by decide +kernel) rfl)⟩
theorem d_M_init_159 : decode b_M_init 159 = .ok (.iload_n 1, 1) := by decide +kernel
theorem d_M_init_160 : decode b_M_init 160 = .ok (.iconst (-1), 1) := by decide +kernel
theorem d_M_init_161 : decode b_M_init 161 = .ok (.iastore, 1) := by decide +kernel
theorem d_M_init_162 : decode b_M_init 162 = .ok (.aload_n 0, 1) := by decide +kernel
theorem d_M_init_163 : decode b_M_init 163 = .ok (.iload_n 1, 1) := by decide +kernel
theorem d_M_init_164 : decode b_M_init 164 = .ok (.invokevirtual 66, 3) := by decide +kernel
theorem lo_M : Cond.methodLink "EntryRowsModel" 66 y_M_outside ∈ er_tbl ∨ ∃ host, Cond.methodLinkNest "EntryRowsModel" 66 y_M_outside host ∈ er_tbl := Or.inl (er_mt (i := 526) (by decide +kernel) rfl)
theorem d_M_init_167 : decode b_M_init 167 = .ok (.iinc 1 1, 3) := by decide +kernel
theorem d_M_init_170 : decode b_M_init 170 = .ok (.goto (-21), 3) := by decide +kernel
theorem d_M_init_173 : decode b_M_init 173 = .ok (.iconst 0, 1) := by decide +kernel
theorem d_M_init_174 : decode b_M_init 174 = .ok (.istore_n 1, 1) := by decide +kernel
theorem d_M_init_175 : decode b_M_init 175 = .ok (.iload_n 1, 1) := by decide +kernel
theorem d_M_init_176 : decode b_M_init 176 = .ok (.bipush 16, 2) := by decide +kernel
theorem d_M_init_178 : decode b_M_init 178 = .ok (.if_icmp .ge 16, 3) := by decide +kernel
theorem d_M_init_181 : decode b_M_init 181 = .ok (.aload_n 0, 1) := by decide +kernel
theorem d_M_init_182 : decode b_M_init 182 = .ok (.getfield 33, 3) := by decide +kernel
theorem fg_M_33 : er_F "EntryRowsModel" 33 3 11 := ⟨_, er_T3, 22, rfl, by decide, er_i3, rfl, Or.inl (er_mt (i := 541) (by decide +kernel) rfl)⟩
theorem d_M_init_185 : decode b_M_init 185 = .ok (.iload_n 1, 1) := by decide +kernel
theorem d_M_init_186 : decode b_M_init 186 = .ok (.iconst (-1), 1) := by decide +kernel
theorem d_M_init_187 : decode b_M_init 187 = .ok (.iastore, 1) := by decide +kernel
theorem d_M_init_188 : decode b_M_init 188 = .ok (.iinc 1 1, 3) := by decide +kernel
theorem d_M_init_191 : decode b_M_init 191 = .ok (.goto (-16), 3) := by decide +kernel
theorem d_M_init_194 : decode b_M_init 194 = .ok (.return_, 1) := by decide +kernel
theorem nw_L_8 : er_Nw "EntryRowsLaw" 8 0 [.null, .null, .null, .null, .int 0, .int 0, .int 0] := ⟨"EntryRows", er_T0, er_ty0, rfl, er_i0, er_tyok0, er_mt (i := 15) (by decide +kernel) rfl, er_mt (i := 16) (by decide +kernel) rfl, er_mt (i := 1) (by decide +kernel) rfl, by decide +kernel⟩
theorem lk_L_79 : Cond.methodLink "EntryRowsLaw" 79 y_E_init ∈ er_tbl ∨ ∃ host, Cond.methodLinkNest "EntryRowsLaw" 79 y_E_init host ∈ er_tbl := Or.inl (er_mt (i := 17) (by decide +kernel) rfl)
theorem nw_L_80 : er_Nw "EntryRowsLaw" 80 3 [.int 0, .int 0, .int 0, .int 0, .null, .int 0, .null, .null, .null, .null, .null, .null, .null, .null, .null, .null, .null, .null, .null, .null, .null, .null] := ⟨"EntryRowsModel", er_T3, er_ty3, rfl, er_i3, er_tyok3, er_mt (i := 520) (by decide +kernel) rfl, er_mt (i := 521) (by decide +kernel) rfl, er_mt (i := 5) (by decide +kernel) rfl, by decide +kernel⟩
theorem lk_L_82 : Cond.methodLink "EntryRowsLaw" 82 y_M_init ∈ er_tbl ∨ ∃ host, Cond.methodLinkNest "EntryRowsLaw" 82 y_M_init host ∈ er_tbl := Or.inl (er_mt (i := 522) (by decide +kernel) rfl)
