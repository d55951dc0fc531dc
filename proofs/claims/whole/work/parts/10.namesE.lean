/-! names: printed by wip/gen/names.py out of javap and the tables -/
theorem er_mt {i : Nat} {w : Cond} (h : tables_1[i]? = some w) (ho : er_ok w = true) : w ∈ er_tbl := List.mem_filter.mpr ⟨List.mem_append_right _ (List.mem_of_getElem? h), ho⟩
theorem er_ms {i : Nat} {w : Cond} (h : (k2_sels lw_privs)[i]? = some w) (ho : er_ok w = true) : w ∈ er_tbl := List.mem_filter.mpr ⟨List.mem_append_left _ (List.mem_of_getElem? h), ho⟩
theorem er_i0 : ∀ w ∈ u_ws "EntryRows" er_T0 7, w ∈ er_tbl := by decide +kernel
def er_ty0 : Nat → FieldType := fun k => match k with
  | 0 => .object "EntryRows$Persons"
  | 1 => .object "EntryRows$Boards"
  | 2 => .array .int
  | 3 => .array .int
  | 4 => .int
  | 5 => .int
  | _ => .int
theorem er_nm0 : ∀ a, a < 7 → ∀ b, b < 7 → a ≠ b → (er_T0 a).2.1 ≠ (er_T0 b).2.1 := by decide +kernel
theorem er_tyok0 : ∀ k, k < 7 → parseFieldDescriptor (er_T0 k).2.2.1 = some (er_ty0 k) := by decide +kernel
theorem er_i1 : ∀ w ∈ u_ws "EntryRows$Persons" er_T1 11, w ∈ er_tbl := by decide +kernel
def er_ty1 : Nat → FieldType := fun k => match k with
  | 0 => .array .int
  | 1 => .array .int
  | 2 => .array .int
  | 3 => .array .int
  | 4 => .array .int
  | 5 => .array .int
  | 6 => .array .int
  | 7 => .array .int
  | 8 => .array .int
  | 9 => .array .int
  | _ => .array .boolean
theorem er_nm1 : ∀ a, a < 11 → ∀ b, b < 11 → a ≠ b → (er_T1 a).2.1 ≠ (er_T1 b).2.1 := by decide +kernel
theorem er_tyok1 : ∀ k, k < 11 → parseFieldDescriptor (er_T1 k).2.2.1 = some (er_ty1 k) := by decide +kernel
theorem er_i2 : ∀ w ∈ u_ws "EntryRows$Boards" er_T2 6, w ∈ er_tbl := by decide +kernel
def er_ty2 : Nat → FieldType := fun k => match k with
  | 0 => .array .boolean
  | 1 => .array .int
  | 2 => .array .int
  | 3 => .array .int
  | 4 => .array .int
  | _ => .int
theorem er_nm2 : ∀ a, a < 6 → ∀ b, b < 6 → a ≠ b → (er_T2 a).2.1 ≠ (er_T2 b).2.1 := by decide +kernel
theorem er_tyok2 : ∀ k, k < 6 → parseFieldDescriptor (er_T2 k).2.2.1 = some (er_ty2 k) := by decide +kernel
theorem er_i3 : ∀ w ∈ u_ws "EntryRowsModel" er_T3 22, w ∈ er_tbl := by decide +kernel
def er_ty3 : Nat → FieldType := fun k => match k with
  | 0 => .int
  | 1 => .int
  | 2 => .int
  | 3 => .int
  | 4 => .array .int
  | 5 => .int
  | 6 => .array .boolean
  | 7 => .array .int
  | 8 => .array .int
  | 9 => .array .int
  | 10 => .array .int
  | 11 => .array .int
  | 12 => .array .int
  | 13 => .array .boolean
  | 14 => .array .int
  | 15 => .array .int
  | 16 => .array .int
  | 17 => .array .int
  | 18 => .array .int
  | 19 => .array .int
  | 20 => .array .int
  | _ => .array .int
theorem er_nm3 : ∀ a, a < 22 → ∀ b, b < 22 → a ≠ b → (er_T3 a).2.1 ≠ (er_T3 b).2.1 := by decide +kernel
theorem er_tyok3 : ∀ k, k < 22 → parseFieldDescriptor (er_T3 k).2.2.1 = some (er_ty3 k) := by decide +kernel
abbrev y_J_min : MethodName := ⟨"java/lang/Math", "min", "(II)I"⟩
abbrev b_J_min : ByteArray := prog_11_method_69_code
abbrev w_J_min : Cond := .code y_J_min b_J_min 2 (some .int)
theorem cal_J_min : er_Cal y_J_min w_J_min 2 2 := ⟨er_mt (i := 468) (by decide +kernel) rfl, er_mt (i := 13) (by decide +kernel) rfl, ⟨by decide, by decide⟩, by decide +kernel, b_J_min, (some .int), [], Or.inl rfl⟩
theorem st_J_min : Cond.static y_J_min ∈ er_tbl := er_mt (i := 467) (by decide +kernel) rfl
theorem d_J_min_0 : decode b_J_min 0 = .ok (.iload_n 0, 1) := by decide +kernel
theorem d_J_min_1 : decode b_J_min 1 = .ok (.iload_n 1, 1) := by decide +kernel
theorem d_J_min_2 : decode b_J_min 2 = .ok (.if_icmp .gt 7, 3) := by decide +kernel
theorem d_J_min_5 : decode b_J_min 5 = .ok (.iload_n 0, 1) := by decide +kernel
theorem d_J_min_6 : decode b_J_min 6 = .ok (.goto 4, 3) := by decide +kernel
theorem d_J_min_9 : decode b_J_min 9 = .ok (.iload_n 1, 1) := by decide +kernel
theorem d_J_min_10 : decode b_J_min 10 = .ok (.ireturn, 1) := by decide +kernel
abbrev y_E_requireRange : MethodName := ⟨"EntryRows", "requireRange", "(III)V"⟩
abbrev b_E_requireRange : ByteArray := prog_1_method_26_code
abbrev w_E_requireRange : Cond := .code y_E_requireRange b_E_requireRange 3 none
theorem cal_E_requireRange : er_Cal y_E_requireRange w_E_requireRange 3 3 := ⟨er_mt (i := 144) (by decide +kernel) rfl, er_mt (i := 1) (by decide +kernel) rfl, ⟨by decide, by decide⟩, by decide +kernel, b_E_requireRange, none, [], Or.inl rfl⟩
theorem st_E_requireRange : Cond.static y_E_requireRange ∈ er_tbl := er_mt (i := 143) (by decide +kernel) rfl
theorem d_E_requireRange_0 : decode b_E_requireRange 0 = .ok (.iload_n 0, 1) := by decide +kernel
theorem d_E_requireRange_1 : decode b_E_requireRange 1 = .ok (.iload_n 1, 1) := by decide +kernel
theorem d_E_requireRange_2 : decode b_E_requireRange 2 = .ok (.if_icmp .lt 8, 3) := by decide +kernel
theorem d_E_requireRange_5 : decode b_E_requireRange 5 = .ok (.iload_n 0, 1) := by decide +kernel
theorem d_E_requireRange_6 : decode b_E_requireRange 6 = .ok (.iload_n 2, 1) := by decide +kernel
theorem d_E_requireRange_7 : decode b_E_requireRange 7 = .ok (.if_icmp .le 13, 3) := by decide +kernel
theorem d_E_requireRange_10 : decode b_E_requireRange 10 = .ok (.new 214, 3) := by decide +kernel
theorem d_E_requireRange_13 : decode b_E_requireRange 13 = .ok (.dup, 1) := by decide +kernel
theorem d_E_requireRange_14 : decode b_E_requireRange 14 = .ok (.ldc 216, 2) := by decide +kernel
theorem d_E_requireRange_16 : decode b_E_requireRange 16 = .ok (.invokespecial 218, 3) := by decide +kernel
theorem d_E_requireRange_19 : decode b_E_requireRange 19 = .ok (.athrow, 1) := by decide +kernel
theorem d_E_requireRange_20 : decode b_E_requireRange 20 = .ok (.return_, 1) := by decide +kernel
theorem at_E_218 : ∀ w ∈ vx_atS "EntryRows" 218 (er_exc 1) ["java/lang/RuntimeException", "java/lang/Exception"], w ∈ er_tbl := by decide +kernel
abbrev y_B_hasRoom : MethodName := ⟨"EntryRows$Boards", "hasRoom", "()Z"⟩
abbrev b_B_hasRoom : ByteArray := prog_2_method_3_code
abbrev w_B_hasRoom : Cond := .code y_B_hasRoom b_B_hasRoom 1 (some .boolean)
theorem cal_B_hasRoom : er_Cal y_B_hasRoom w_B_hasRoom 1 0 := ⟨er_mt (i := 217) (by decide +kernel) rfl, er_mt (i := 4) (by decide +kernel) rfl, ⟨by decide, by decide⟩, by decide +kernel, b_B_hasRoom, (some .boolean), [], Or.inl rfl⟩
theorem in_B_hasRoom : Cond.instanceMethod y_B_hasRoom ∈ er_tbl := er_mt (i := 216) (by decide +kernel) rfl
theorem se_B_hasRoom : Cond.selects "EntryRows$Boards" y_B_hasRoom y_B_hasRoom ∈ er_tbl := er_ms (i := 1) (by decide +kernel) rfl
theorem d_B_hasRoom_0 : decode b_B_hasRoom 0 = .ok (.aload_n 0, 1) := by decide +kernel
theorem d_B_hasRoom_1 : decode b_B_hasRoom 1 = .ok (.getfield 28, 3) := by decide +kernel
theorem d_B_hasRoom_4 : decode b_B_hasRoom 4 = .ok (.bipush 8, 2) := by decide +kernel
theorem d_B_hasRoom_6 : decode b_B_hasRoom 6 = .ok (.if_icmp .ge 7, 3) := by decide +kernel
theorem d_B_hasRoom_9 : decode b_B_hasRoom 9 = .ok (.iconst 1, 1) := by decide +kernel
theorem d_B_hasRoom_10 : decode b_B_hasRoom 10 = .ok (.goto 4, 3) := by decide +kernel
theorem d_B_hasRoom_13 : decode b_B_hasRoom 13 = .ok (.iconst 0, 1) := by decide +kernel
theorem d_B_hasRoom_14 : decode b_B_hasRoom 14 = .ok (.ireturn, 1) := by decide +kernel
theorem fl_B_28 : er_F "EntryRows$Boards" 28 2 5 := ⟨_, er_T2, 6, rfl, by decide, er_i2, rfl, Or.inl (er_mt (i := 96) (by decide +kernel) rfl)⟩
abbrev y_B_make : MethodName := ⟨"EntryRows$Boards", "make", "(III)I"⟩
abbrev b_B_make : ByteArray := prog_2_method_4_code
abbrev w_B_make : Cond := .code y_B_make b_B_make 5 (some .int)
theorem cal_B_make : er_Cal y_B_make w_B_make 5 3 := ⟨er_mt (i := 237) (by decide +kernel) rfl, er_mt (i := 4) (by decide +kernel) rfl, ⟨by decide, by decide⟩, by decide +kernel, b_B_make, (some .int), [], Or.inl rfl⟩
theorem in_B_make : Cond.instanceMethod y_B_make ∈ er_tbl := er_mt (i := 236) (by decide +kernel) rfl
theorem se_B_make : Cond.selects "EntryRows$Boards" y_B_make y_B_make ∈ er_tbl := er_ms (i := 2) (by decide +kernel) rfl
theorem d_B_make_0 : decode b_B_make 0 = .ok (.aload_n 0, 1) := by decide +kernel
theorem d_B_make_1 : decode b_B_make 1 = .ok (.getfield 28, 3) := by decide +kernel
theorem d_B_make_4 : decode b_B_make 4 = .ok (.istore 4, 2) := by decide +kernel
theorem d_B_make_6 : decode b_B_make 6 = .ok (.aload_n 0, 1) := by decide +kernel
theorem d_B_make_7 : decode b_B_make 7 = .ok (.getfield 9, 3) := by decide +kernel
theorem d_B_make_10 : decode b_B_make 10 = .ok (.iload 4, 2) := by decide +kernel
theorem d_B_make_12 : decode b_B_make 12 = .ok (.iconst 1, 1) := by decide +kernel
theorem d_B_make_13 : decode b_B_make 13 = .ok (.bastore, 1) := by decide +kernel
theorem d_B_make_14 : decode b_B_make 14 = .ok (.aload_n 0, 1) := by decide +kernel
theorem d_B_make_15 : decode b_B_make 15 = .ok (.getfield 15, 3) := by decide +kernel
theorem d_B_make_18 : decode b_B_make 18 = .ok (.iload 4, 2) := by decide +kernel
theorem d_B_make_20 : decode b_B_make 20 = .ok (.iload_n 1, 1) := by decide +kernel
theorem d_B_make_21 : decode b_B_make 21 = .ok (.iastore, 1) := by decide +kernel
theorem d_B_make_22 : decode b_B_make 22 = .ok (.aload_n 0, 1) := by decide +kernel
theorem d_B_make_23 : decode b_B_make 23 = .ok (.getfield 19, 3) := by decide +kernel
theorem d_B_make_26 : decode b_B_make 26 = .ok (.iload 4, 2) := by decide +kernel
theorem d_B_make_28 : decode b_B_make 28 = .ok (.iload_n 2, 1) := by decide +kernel
theorem d_B_make_29 : decode b_B_make 29 = .ok (.iastore, 1) := by decide +kernel
theorem d_B_make_30 : decode b_B_make 30 = .ok (.aload_n 0, 1) := by decide +kernel
theorem d_B_make_31 : decode b_B_make 31 = .ok (.getfield 22, 3) := by decide +kernel
theorem d_B_make_34 : decode b_B_make 34 = .ok (.iload 4, 2) := by decide +kernel
theorem d_B_make_36 : decode b_B_make 36 = .ok (.iload_n 3, 1) := by decide +kernel
theorem d_B_make_37 : decode b_B_make 37 = .ok (.iastore, 1) := by decide +kernel
theorem d_B_make_38 : decode b_B_make 38 = .ok (.aload_n 0, 1) := by decide +kernel
theorem d_B_make_39 : decode b_B_make 39 = .ok (.dup, 1) := by decide +kernel
theorem d_B_make_40 : decode b_B_make 40 = .ok (.getfield 28, 3) := by decide +kernel
theorem d_B_make_43 : decode b_B_make 43 = .ok (.iconst 1, 1) := by decide +kernel
theorem d_B_make_44 : decode b_B_make 44 = .ok (.iadd, 1) := by decide +kernel
theorem d_B_make_45 : decode b_B_make 45 = .ok (.putfield 28, 3) := by decide +kernel
theorem d_B_make_48 : decode b_B_make 48 = .ok (.iload 4, 2) := by decide +kernel
theorem d_B_make_50 : decode b_B_make 50 = .ok (.ireturn, 1) := by decide +kernel
theorem fl_B_9 : er_F "EntryRows$Boards" 9 2 0 := ⟨_, er_T2, 6, rfl, by decide, er_i2, rfl, Or.inl (er_mt (i := 86) (by decide +kernel) rfl)⟩
theorem fl_B_15 : er_F "EntryRows$Boards" 15 2 1 := ⟨_, er_T2, 6, rfl, by decide, er_i2, rfl, Or.inl (er_mt (i := 88) (by decide +kernel) rfl)⟩
theorem fl_B_19 : er_F "EntryRows$Boards" 19 2 2 := ⟨_, er_T2, 6, rfl, by decide, er_i2, rfl, Or.inl (er_mt (i := 90) (by decide +kernel) rfl)⟩
theorem fl_B_22 : er_F "EntryRows$Boards" 22 2 3 := ⟨_, er_T2, 6, rfl, by decide, er_i2, rfl, Or.inl (er_mt (i := 92) (by decide +kernel) rfl)⟩
theorem fp_B_28 : er_Fp "EntryRows$Boards" 28 2 5 := ⟨_, er_T2, 6, er_ty2, rfl, by decide, er_i2, rfl, er_mt (i := 96) (by decide +kernel) rfl, rfl, by decide +kernel, er_tyok2, er_nm2⟩
abbrev y_E_board : MethodName := ⟨"EntryRows", "board", "(III)I"⟩
abbrev b_E_board : ByteArray := prog_1_method_2_code
abbrev w_E_board : Cond := .code y_E_board b_E_board 4 (some .int)
theorem cal_E_board : er_Cal y_E_board w_E_board 4 3 := ⟨er_mt (i := 141) (by decide +kernel) rfl, er_mt (i := 1) (by decide +kernel) rfl, ⟨by decide, by decide⟩, by decide +kernel, b_E_board, (some .int), [], Or.inl rfl⟩
theorem in_E_board : Cond.instanceMethod y_E_board ∈ er_tbl := er_mt (i := 139) (by decide +kernel) rfl
theorem se_E_board : Cond.selects "EntryRows" y_E_board y_E_board ∈ er_tbl := er_mt (i := 140) (by decide +kernel) rfl
theorem d_E_board_0 : decode b_E_board 0 = .ok (.iload_n 1, 1) := by decide +kernel
theorem d_E_board_1 : decode b_E_board 1 = .ok (.iconst 1, 1) := by decide +kernel
theorem d_E_board_2 : decode b_E_board 2 = .ok (.bipush 6, 2) := by decide +kernel
theorem d_E_board_4 : decode b_E_board 4 = .ok (.invokestatic 46, 3) := by decide +kernel
theorem d_E_board_7 : decode b_E_board 7 = .ok (.iload_n 2, 1) := by decide +kernel
theorem d_E_board_8 : decode b_E_board 8 = .ok (.iconst 1, 1) := by decide +kernel
theorem d_E_board_9 : decode b_E_board 9 = .ok (.sipush 10000, 3) := by decide +kernel
theorem d_E_board_12 : decode b_E_board 12 = .ok (.invokestatic 46, 3) := by decide +kernel
theorem d_E_board_15 : decode b_E_board 15 = .ok (.iload_n 3, 1) := by decide +kernel
theorem d_E_board_16 : decode b_E_board 16 = .ok (.iconst 0, 1) := by decide +kernel
theorem d_E_board_17 : decode b_E_board 17 = .ok (.iconst 3, 1) := by decide +kernel
theorem d_E_board_18 : decode b_E_board 18 = .ok (.invokestatic 46, 3) := by decide +kernel
theorem d_E_board_21 : decode b_E_board 21 = .ok (.aload_n 0, 1) := by decide +kernel
theorem d_E_board_22 : decode b_E_board 22 = .ok (.getfield 19, 3) := by decide +kernel
theorem d_E_board_25 : decode b_E_board 25 = .ok (.invokevirtual 50, 3) := by decide +kernel
theorem d_E_board_28 : decode b_E_board 28 = .ok (.ifCond .ne 13, 3) := by decide +kernel
theorem d_E_board_31 : decode b_E_board 31 = .ok (.new 54, 3) := by decide +kernel
theorem d_E_board_34 : decode b_E_board 34 = .ok (.dup, 1) := by decide +kernel
theorem d_E_board_35 : decode b_E_board 35 = .ok (.ldc 56, 2) := by decide +kernel
theorem d_E_board_37 : decode b_E_board 37 = .ok (.invokespecial 58, 3) := by decide +kernel
theorem d_E_board_40 : decode b_E_board 40 = .ok (.athrow, 1) := by decide +kernel
theorem d_E_board_41 : decode b_E_board 41 = .ok (.aload_n 0, 1) := by decide +kernel
theorem d_E_board_42 : decode b_E_board 42 = .ok (.getfield 19, 3) := by decide +kernel
theorem d_E_board_45 : decode b_E_board 45 = .ok (.iload_n 1, 1) := by decide +kernel
theorem d_E_board_46 : decode b_E_board 46 = .ok (.iload_n 2, 1) := by decide +kernel
theorem d_E_board_47 : decode b_E_board 47 = .ok (.iload_n 3, 1) := by decide +kernel
theorem d_E_board_48 : decode b_E_board 48 = .ok (.invokevirtual 61, 3) := by decide +kernel
theorem d_E_board_51 : decode b_E_board 51 = .ok (.ireturn, 1) := by decide +kernel
theorem lk_E_46 : Cond.methodLink "EntryRows" 46 y_E_requireRange ∈ er_tbl := er_mt (i := 142) (by decide +kernel) rfl
theorem fl_E_19 : er_F "EntryRows" 19 0 1 := ⟨_, er_T0, 7, rfl, by decide, er_i0, rfl, Or.inl (er_mt (i := 112) (by decide +kernel) rfl)⟩
theorem lk_E_50 : Cond.methodLink "EntryRows" 50 y_B_hasRoom ∈ er_tbl ∨ ∃ host, Cond.methodLinkNest "EntryRows" 50 y_B_hasRoom host ∈ er_tbl := Or.inr ⟨"EntryRows", er_mt (i := 214) (by decide +kernel) rfl⟩
theorem at_E_58 : ∀ w ∈ vx_atS "EntryRows" 58 (er_exc 3) ["java/lang/RuntimeException", "java/lang/Exception"], w ∈ er_tbl := by decide +kernel
theorem lk_E_61 : Cond.methodLink "EntryRows" 61 y_B_make ∈ er_tbl ∨ ∃ host, Cond.methodLinkNest "EntryRows" 61 y_B_make host ∈ er_tbl := Or.inr ⟨"EntryRows", er_mt (i := 234) (by decide +kernel) rfl⟩
abbrev y_B_has : MethodName := ⟨"EntryRows$Boards", "has", "(I)Z"⟩
abbrev b_B_has : ByteArray := prog_2_method_2_code
abbrev w_B_has : Cond := .code y_B_has b_B_has 2 (some .boolean)
theorem cal_B_has : er_Cal y_B_has w_B_has 2 1 := ⟨er_mt (i := 254) (by decide +kernel) rfl, er_mt (i := 4) (by decide +kernel) rfl, ⟨by decide, by decide⟩, by decide +kernel, b_B_has, (some .boolean), [], Or.inl rfl⟩
theorem in_B_has : Cond.instanceMethod y_B_has ∈ er_tbl := er_mt (i := 253) (by decide +kernel) rfl
theorem se_B_has : Cond.selects "EntryRows$Boards" y_B_has y_B_has ∈ er_tbl := er_ms (i := 4) (by decide +kernel) rfl
theorem d_B_has_0 : decode b_B_has 0 = .ok (.iload_n 1, 1) := by decide +kernel
theorem d_B_has_1 : decode b_B_has 1 = .ok (.ifCond .lt 15, 3) := by decide +kernel
theorem d_B_has_4 : decode b_B_has 4 = .ok (.iload_n 1, 1) := by decide +kernel
theorem d_B_has_5 : decode b_B_has 5 = .ok (.aload_n 0, 1) := by decide +kernel
theorem d_B_has_6 : decode b_B_has 6 = .ok (.getfield 28, 3) := by decide +kernel
theorem d_B_has_9 : decode b_B_has 9 = .ok (.if_icmp .ge 7, 3) := by decide +kernel
theorem d_B_has_12 : decode b_B_has 12 = .ok (.iconst 1, 1) := by decide +kernel
theorem d_B_has_13 : decode b_B_has 13 = .ok (.goto 4, 3) := by decide +kernel
theorem d_B_has_16 : decode b_B_has 16 = .ok (.iconst 0, 1) := by decide +kernel
theorem d_B_has_17 : decode b_B_has 17 = .ok (.ireturn, 1) := by decide +kernel
abbrev y_E_requireKnown : MethodName := ⟨"EntryRows", "requireKnown", "(Z)V"⟩
abbrev b_E_requireKnown : ByteArray := prog_1_method_22_code
abbrev w_E_requireKnown : Cond := .code y_E_requireKnown b_E_requireKnown 1 none
theorem cal_E_requireKnown : er_Cal y_E_requireKnown w_E_requireKnown 1 1 := ⟨er_mt (i := 257) (by decide +kernel) rfl, er_mt (i := 1) (by decide +kernel) rfl, ⟨by decide, by decide⟩, by decide +kernel, b_E_requireKnown, none, [], Or.inl rfl⟩
theorem st_E_requireKnown : Cond.static y_E_requireKnown ∈ er_tbl := er_mt (i := 256) (by decide +kernel) rfl
theorem d_E_requireKnown_0 : decode b_E_requireKnown 0 = .ok (.iload_n 0, 1) := by decide +kernel
theorem d_E_requireKnown_1 : decode b_E_requireKnown 1 = .ok (.ifCond .ne 13, 3) := by decide +kernel
theorem d_E_requireKnown_4 : decode b_E_requireKnown 4 = .ok (.new 191, 3) := by decide +kernel
theorem d_E_requireKnown_7 : decode b_E_requireKnown 7 = .ok (.dup, 1) := by decide +kernel
theorem d_E_requireKnown_8 : decode b_E_requireKnown 8 = .ok (.ldc 209, 2) := by decide +kernel
theorem d_E_requireKnown_10 : decode b_E_requireKnown 10 = .ok (.invokespecial 195, 3) := by decide +kernel
theorem d_E_requireKnown_13 : decode b_E_requireKnown 13 = .ok (.athrow, 1) := by decide +kernel
theorem d_E_requireKnown_14 : decode b_E_requireKnown 14 = .ok (.return_, 1) := by decide +kernel
theorem at_E_195 : ∀ w ∈ vx_atS "EntryRows" 195 (er_exc 0) ["java/lang/RuntimeException", "java/lang/Exception"], w ∈ er_tbl := by decide +kernel
abbrev y_E_requireBoard : MethodName := ⟨"EntryRows", "requireBoard", "(I)V"⟩
abbrev b_E_requireBoard : ByteArray := prog_1_method_25_code
abbrev w_E_requireBoard : Cond := .code y_E_requireBoard b_E_requireBoard 2 none
theorem cal_E_requireBoard : er_Cal y_E_requireBoard w_E_requireBoard 2 1 := ⟨er_mt (i := 250) (by decide +kernel) rfl, er_mt (i := 1) (by decide +kernel) rfl, ⟨by decide, by decide⟩, by decide +kernel, b_E_requireBoard, none, [], Or.inl rfl⟩
theorem in_E_requireBoard : Cond.instanceMethod y_E_requireBoard ∈ er_tbl := er_mt (i := 249) (by decide +kernel) rfl
theorem se_E_requireBoard : Cond.selects "EntryRows" y_E_requireBoard y_E_requireBoard ∈ er_tbl := er_ms (i := 3) (by decide +kernel) rfl
theorem d_E_requireBoard_0 : decode b_E_requireBoard 0 = .ok (.aload_n 0, 1) := by decide +kernel
theorem d_E_requireBoard_1 : decode b_E_requireBoard 1 = .ok (.getfield 19, 3) := by decide +kernel
theorem d_E_requireBoard_4 : decode b_E_requireBoard 4 = .ok (.iload_n 1, 1) := by decide +kernel
theorem d_E_requireBoard_5 : decode b_E_requireBoard 5 = .ok (.invokevirtual 211, 3) := by decide +kernel
theorem d_E_requireBoard_8 : decode b_E_requireBoard 8 = .ok (.invokestatic 99, 3) := by decide +kernel
theorem d_E_requireBoard_11 : decode b_E_requireBoard 11 = .ok (.return_, 1) := by decide +kernel
theorem lk_E_211 : Cond.methodLink "EntryRows" 211 y_B_has ∈ er_tbl ∨ ∃ host, Cond.methodLinkNest "EntryRows" 211 y_B_has host ∈ er_tbl := Or.inr ⟨"EntryRows", er_mt (i := 251) (by decide +kernel) rfl⟩
theorem lk_E_99 : Cond.methodLink "EntryRows" 99 y_E_requireKnown ∈ er_tbl := er_mt (i := 255) (by decide +kernel) rfl
abbrev y_E_isPerson : MethodName := ⟨"EntryRows", "isPerson", "(I)Z"⟩
abbrev b_E_isPerson : ByteArray := prog_1_method_20_code
abbrev w_E_isPerson : Cond := .code y_E_isPerson b_E_isPerson 1 (some .boolean)
theorem cal_E_isPerson : er_Cal y_E_isPerson w_E_isPerson 1 1 := ⟨er_mt (i := 279) (by decide +kernel) rfl, er_mt (i := 1) (by decide +kernel) rfl, ⟨by decide, by decide⟩, by decide +kernel, b_E_isPerson, (some .boolean), [], Or.inl rfl⟩
theorem st_E_isPerson : Cond.static y_E_isPerson ∈ er_tbl := er_mt (i := 278) (by decide +kernel) rfl
theorem d_E_isPerson_0 : decode b_E_isPerson 0 = .ok (.iload_n 0, 1) := by decide +kernel
theorem d_E_isPerson_1 : decode b_E_isPerson 1 = .ok (.ifCond .lt 13, 3) := by decide +kernel
theorem d_E_isPerson_4 : decode b_E_isPerson 4 = .ok (.iload_n 0, 1) := by decide +kernel
theorem d_E_isPerson_5 : decode b_E_isPerson 5 = .ok (.bipush 40, 2) := by decide +kernel
theorem d_E_isPerson_7 : decode b_E_isPerson 7 = .ok (.if_icmp .ge 7, 3) := by decide +kernel
theorem d_E_isPerson_10 : decode b_E_isPerson 10 = .ok (.iconst 1, 1) := by decide +kernel
theorem d_E_isPerson_11 : decode b_E_isPerson 11 = .ok (.goto 4, 3) := by decide +kernel
theorem d_E_isPerson_14 : decode b_E_isPerson 14 = .ok (.iconst 0, 1) := by decide +kernel
theorem d_E_isPerson_15 : decode b_E_isPerson 15 = .ok (.ireturn, 1) := by decide +kernel
abbrev y_E_requirePerson : MethodName := ⟨"EntryRows", "requirePerson", "(I)V"⟩
abbrev b_E_requirePerson : ByteArray := prog_1_method_23_code
abbrev w_E_requirePerson : Cond := .code y_E_requirePerson b_E_requirePerson 1 none
theorem cal_E_requirePerson : er_Cal y_E_requirePerson w_E_requirePerson 1 1 := ⟨er_mt (i := 276) (by decide +kernel) rfl, er_mt (i := 1) (by decide +kernel) rfl, ⟨by decide, by decide⟩, by decide +kernel, b_E_requirePerson, none, [], Or.inl rfl⟩
theorem st_E_requirePerson : Cond.static y_E_requirePerson ∈ er_tbl := er_mt (i := 275) (by decide +kernel) rfl
theorem d_E_requirePerson_0 : decode b_E_requirePerson 0 = .ok (.iload_n 0, 1) := by decide +kernel
theorem d_E_requirePerson_1 : decode b_E_requirePerson 1 = .ok (.invokestatic 173, 3) := by decide +kernel
theorem d_E_requirePerson_4 : decode b_E_requirePerson 4 = .ok (.invokestatic 99, 3) := by decide +kernel
theorem d_E_requirePerson_7 : decode b_E_requirePerson 7 = .ok (.return_, 1) := by decide +kernel
theorem lk_E_173 : Cond.methodLink "EntryRows" 173 y_E_isPerson ∈ er_tbl := er_mt (i := 277) (by decide +kernel) rfl
abbrev y_E_requireState : MethodName := ⟨"EntryRows", "requireState", "(Z)V"⟩
abbrev b_E_requireState : ByteArray := prog_1_method_28_code
abbrev w_E_requireState : Cond := .code y_E_requireState b_E_requireState 1 none
theorem cal_E_requireState : er_Cal y_E_requireState w_E_requireState 1 1 := ⟨er_mt (i := 286) (by decide +kernel) rfl, er_mt (i := 1) (by decide +kernel) rfl, ⟨by decide, by decide⟩, by decide +kernel, b_E_requireState, none, [], Or.inl rfl⟩
theorem st_E_requireState : Cond.static y_E_requireState ∈ er_tbl := er_mt (i := 285) (by decide +kernel) rfl
theorem d_E_requireState_0 : decode b_E_requireState 0 = .ok (.iload_n 0, 1) := by decide +kernel
theorem d_E_requireState_1 : decode b_E_requireState 1 = .ok (.ifCond .ne 13, 3) := by decide +kernel
theorem d_E_requireState_4 : decode b_E_requireState 4 = .ok (.new 222, 3) := by decide +kernel
theorem d_E_requireState_7 : decode b_E_requireState 7 = .ok (.dup, 1) := by decide +kernel
theorem d_E_requireState_8 : decode b_E_requireState 8 = .ok (.ldc 224, 2) := by decide +kernel
theorem d_E_requireState_10 : decode b_E_requireState 10 = .ok (.invokespecial 226, 3) := by decide +kernel
theorem d_E_requireState_13 : decode b_E_requireState 13 = .ok (.athrow, 1) := by decide +kernel
theorem d_E_requireState_14 : decode b_E_requireState 14 = .ok (.return_, 1) := by decide +kernel
theorem at_E_226 : ∀ w ∈ vx_atS "EntryRows" 226 (er_exc 2) ["java/lang/RuntimeException", "java/lang/Exception"], w ∈ er_tbl := by decide +kernel
abbrev y_E_requireOpen : MethodName := ⟨"EntryRows", "requireOpen", "(I)V"⟩
abbrev b_E_requireOpen : ByteArray := prog_1_method_29_code
abbrev w_E_requireOpen : Cond := .code y_E_requireOpen b_E_requireOpen 2 none
theorem cal_E_requireOpen : er_Cal y_E_requireOpen w_E_requireOpen 2 1 := ⟨er_mt (i := 283) (by decide +kernel) rfl, er_mt (i := 1) (by decide +kernel) rfl, ⟨by decide, by decide⟩, by decide +kernel, b_E_requireOpen, none, [], Or.inl rfl⟩
theorem in_E_requireOpen : Cond.instanceMethod y_E_requireOpen ∈ er_tbl := er_mt (i := 282) (by decide +kernel) rfl
theorem se_E_requireOpen : Cond.selects "EntryRows" y_E_requireOpen y_E_requireOpen ∈ er_tbl := er_ms (i := 5) (by decide +kernel) rfl
theorem d_E_requireOpen_0 : decode b_E_requireOpen 0 = .ok (.aload_n 0, 1) := by decide +kernel
theorem d_E_requireOpen_1 : decode b_E_requireOpen 1 = .ok (.getfield 19, 3) := by decide +kernel
theorem d_E_requireOpen_4 : decode b_E_requireOpen 4 = .ok (.getfield 196, 3) := by decide +kernel
theorem d_E_requireOpen_7 : decode b_E_requireOpen 7 = .ok (.iload_n 1, 1) := by decide +kernel
theorem d_E_requireOpen_8 : decode b_E_requireOpen 8 = .ok (.baload, 1) := by decide +kernel
theorem d_E_requireOpen_9 : decode b_E_requireOpen 9 = .ok (.invokestatic 81, 3) := by decide +kernel
theorem d_E_requireOpen_12 : decode b_E_requireOpen 12 = .ok (.return_, 1) := by decide +kernel
theorem fl_E_196 : er_F "EntryRows" 196 2 0 := ⟨_, er_T2, 6, rfl, by decide, er_i2, rfl, Or.inr ⟨"EntryRows", er_mt (i := 87) (by decide +kernel) rfl⟩⟩
theorem lk_E_81 : Cond.methodLink "EntryRows" 81 y_E_requireState ∈ er_tbl := er_mt (i := 284) (by decide +kernel) rfl
abbrev y_P_isInside : MethodName := ⟨"EntryRows$Persons", "isInside", "(I)Z"⟩
abbrev b_P_isInside : ByteArray := prog_3_method_2_code
abbrev w_P_isInside : Cond := .code y_P_isInside b_P_isInside 2 (some .boolean)
theorem cal_P_isInside : er_Cal y_P_isInside w_P_isInside 2 1 := ⟨er_mt (i := 310) (by decide +kernel) rfl, er_mt (i := 2) (by decide +kernel) rfl, ⟨by decide, by decide⟩, by decide +kernel, b_P_isInside, (some .boolean), [], Or.inl rfl⟩
theorem in_P_isInside : Cond.instanceMethod y_P_isInside ∈ er_tbl := er_mt (i := 309) (by decide +kernel) rfl
theorem se_P_isInside : Cond.selects "EntryRows$Persons" y_P_isInside y_P_isInside ∈ er_tbl := er_ms (i := 7) (by decide +kernel) rfl
theorem d_P_isInside_0 : decode b_P_isInside 0 = .ok (.aload_n 0, 1) := by decide +kernel
theorem d_P_isInside_1 : decode b_P_isInside 1 = .ok (.getfield 9, 3) := by decide +kernel
theorem d_P_isInside_4 : decode b_P_isInside 4 = .ok (.iload_n 1, 1) := by decide +kernel
theorem d_P_isInside_5 : decode b_P_isInside 5 = .ok (.iaload, 1) := by decide +kernel
theorem d_P_isInside_6 : decode b_P_isInside 6 = .ok (.iconst (-1), 1) := by decide +kernel
theorem d_P_isInside_7 : decode b_P_isInside 7 = .ok (.if_icmp .eq 7, 3) := by decide +kernel
theorem d_P_isInside_10 : decode b_P_isInside 10 = .ok (.iconst 1, 1) := by decide +kernel
theorem d_P_isInside_11 : decode b_P_isInside 11 = .ok (.goto 4, 3) := by decide +kernel
theorem d_P_isInside_14 : decode b_P_isInside 14 = .ok (.iconst 0, 1) := by decide +kernel
theorem d_P_isInside_15 : decode b_P_isInside 15 = .ok (.ireturn, 1) := by decide +kernel
theorem fl_P_9 : er_F "EntryRows$Persons" 9 1 0 := ⟨_, er_T1, 11, rfl, by decide, er_i1, rfl, Or.inl (er_mt (i := 32) (by decide +kernel) rfl)⟩
abbrev y_E_requireOutside : MethodName := ⟨"EntryRows", "requireOutside", "(I)V"⟩
abbrev b_E_requireOutside : ByteArray := prog_1_method_30_code
abbrev w_E_requireOutside : Cond := .code y_E_requireOutside b_E_requireOutside 2 none
theorem cal_E_requireOutside : er_Cal y_E_requireOutside w_E_requireOutside 2 1 := ⟨er_mt (i := 306) (by decide +kernel) rfl, er_mt (i := 1) (by decide +kernel) rfl, ⟨by decide, by decide⟩, by decide +kernel, b_E_requireOutside, none, [], Or.inl rfl⟩
theorem in_E_requireOutside : Cond.instanceMethod y_E_requireOutside ∈ er_tbl := er_mt (i := 305) (by decide +kernel) rfl
theorem se_E_requireOutside : Cond.selects "EntryRows" y_E_requireOutside y_E_requireOutside ∈ er_tbl := er_ms (i := 6) (by decide +kernel) rfl
theorem d_E_requireOutside_0 : decode b_E_requireOutside 0 = .ok (.aload_n 0, 1) := by decide +kernel
theorem d_E_requireOutside_1 : decode b_E_requireOutside 1 = .ok (.getfield 10, 3) := by decide +kernel
theorem d_E_requireOutside_4 : decode b_E_requireOutside 4 = .ok (.iload_n 1, 1) := by decide +kernel
theorem d_E_requireOutside_5 : decode b_E_requireOutside 5 = .ok (.invokevirtual 142, 3) := by decide +kernel
theorem d_E_requireOutside_8 : decode b_E_requireOutside 8 = .ok (.ifCond .ne 7, 3) := by decide +kernel
theorem d_E_requireOutside_11 : decode b_E_requireOutside 11 = .ok (.iconst 1, 1) := by decide +kernel
theorem d_E_requireOutside_12 : decode b_E_requireOutside 12 = .ok (.goto 4, 3) := by decide +kernel
theorem d_E_requireOutside_15 : decode b_E_requireOutside 15 = .ok (.iconst 0, 1) := by decide +kernel
theorem d_E_requireOutside_16 : decode b_E_requireOutside 16 = .ok (.invokestatic 81, 3) := by decide +kernel
theorem d_E_requireOutside_19 : decode b_E_requireOutside 19 = .ok (.return_, 1) := by decide +kernel
theorem fl_E_10 : er_F "EntryRows" 10 0 0 := ⟨_, er_T0, 7, rfl, by decide, er_i0, rfl, Or.inl (er_mt (i := 111) (by decide +kernel) rfl)⟩
theorem lk_E_142 : Cond.methodLink "EntryRows" 142 y_P_isInside ∈ er_tbl ∨ ∃ host, Cond.methodLinkNest "EntryRows" 142 y_P_isInside host ∈ er_tbl := Or.inr ⟨"EntryRows", er_mt (i := 307) (by decide +kernel) rfl⟩
abbrev y_E_dropKeeper : MethodName := ⟨"EntryRows", "dropKeeper", "(I)V"⟩
abbrev b_E_dropKeeper : ByteArray := prog_1_method_35_code
abbrev w_E_dropKeeper : Cond := .code y_E_dropKeeper b_E_dropKeeper 3 none
theorem cal_E_dropKeeper : er_Cal y_E_dropKeeper w_E_dropKeeper 3 1 := ⟨er_mt (i := 314) (by decide +kernel) rfl, er_mt (i := 1) (by decide +kernel) rfl, ⟨by decide, by decide⟩, by decide +kernel, b_E_dropKeeper, none, [], Or.inl rfl⟩
theorem in_E_dropKeeper : Cond.instanceMethod y_E_dropKeeper ∈ er_tbl := er_mt (i := 313) (by decide +kernel) rfl
theorem se_E_dropKeeper : Cond.selects "EntryRows" y_E_dropKeeper y_E_dropKeeper ∈ er_tbl := er_ms (i := 8) (by decide +kernel) rfl
theorem d_E_dropKeeper_0 : decode b_E_dropKeeper 0 = .ok (.aload_n 0, 1) := by decide +kernel
theorem d_E_dropKeeper_1 : decode b_E_dropKeeper 1 = .ok (.getfield 19, 3) := by decide +kernel
theorem d_E_dropKeeper_4 : decode b_E_dropKeeper 4 = .ok (.getfield 88, 3) := by decide +kernel
theorem d_E_dropKeeper_7 : decode b_E_dropKeeper 7 = .ok (.iload_n 1, 1) := by decide +kernel
theorem d_E_dropKeeper_8 : decode b_E_dropKeeper 8 = .ok (.iaload, 1) := by decide +kernel
theorem d_E_dropKeeper_9 : decode b_E_dropKeeper 9 = .ok (.istore_n 2, 1) := by decide +kernel
theorem d_E_dropKeeper_10 : decode b_E_dropKeeper 10 = .ok (.iload_n 2, 1) := by decide +kernel
theorem d_E_dropKeeper_11 : decode b_E_dropKeeper 11 = .ok (.invokestatic 173, 3) := by decide +kernel
theorem d_E_dropKeeper_14 : decode b_E_dropKeeper 14 = .ok (.ifCond .eq 13, 3) := by decide +kernel
theorem d_E_dropKeeper_17 : decode b_E_dropKeeper 17 = .ok (.aload_n 0, 1) := by decide +kernel
theorem d_E_dropKeeper_18 : decode b_E_dropKeeper 18 = .ok (.getfield 10, 3) := by decide +kernel
theorem d_E_dropKeeper_21 : decode b_E_dropKeeper 21 = .ok (.getfield 78, 3) := by decide +kernel
theorem d_E_dropKeeper_24 : decode b_E_dropKeeper 24 = .ok (.iload_n 2, 1) := by decide +kernel
theorem d_E_dropKeeper_25 : decode b_E_dropKeeper 25 = .ok (.iconst (-1), 1) := by decide +kernel
theorem d_E_dropKeeper_26 : decode b_E_dropKeeper 26 = .ok (.iastore, 1) := by decide +kernel
theorem d_E_dropKeeper_27 : decode b_E_dropKeeper 27 = .ok (.aload_n 0, 1) := by decide +kernel
theorem d_E_dropKeeper_28 : decode b_E_dropKeeper 28 = .ok (.getfield 19, 3) := by decide +kernel
theorem d_E_dropKeeper_31 : decode b_E_dropKeeper 31 = .ok (.getfield 88, 3) := by decide +kernel
theorem d_E_dropKeeper_34 : decode b_E_dropKeeper 34 = .ok (.iload_n 1, 1) := by decide +kernel
theorem d_E_dropKeeper_35 : decode b_E_dropKeeper 35 = .ok (.iconst (-1), 1) := by decide +kernel
theorem d_E_dropKeeper_36 : decode b_E_dropKeeper 36 = .ok (.iastore, 1) := by decide +kernel
theorem d_E_dropKeeper_37 : decode b_E_dropKeeper 37 = .ok (.return_, 1) := by decide +kernel
theorem fl_E_88 : er_F "EntryRows" 88 2 4 := ⟨_, er_T2, 6, rfl, by decide, er_i2, rfl, Or.inr ⟨"EntryRows", er_mt (i := 95) (by decide +kernel) rfl⟩⟩
theorem fl_E_78 : er_F "EntryRows" 78 1 9 := ⟨_, er_T1, 11, rfl, by decide, er_i1, rfl, Or.inr ⟨"EntryRows", er_mt (i := 51) (by decide +kernel) rfl⟩⟩
abbrev y_E_keep : MethodName := ⟨"EntryRows", "keep", "(II)V"⟩
abbrev b_E_keep : ByteArray := prog_1_method_3_code
abbrev w_E_keep : Cond := .code y_E_keep b_E_keep 3 none
theorem cal_E_keep : er_Cal y_E_keep w_E_keep 3 2 := ⟨er_mt (i := 246) (by decide +kernel) rfl, er_mt (i := 1) (by decide +kernel) rfl, ⟨by decide, by decide⟩, by decide +kernel, b_E_keep, none, [], Or.inl rfl⟩
theorem in_E_keep : Cond.instanceMethod y_E_keep ∈ er_tbl := er_mt (i := 244) (by decide +kernel) rfl
theorem se_E_keep : Cond.selects "EntryRows" y_E_keep y_E_keep ∈ er_tbl := er_mt (i := 245) (by decide +kernel) rfl
theorem d_E_keep_0 : decode b_E_keep 0 = .ok (.aload_n 0, 1) := by decide +kernel
theorem d_E_keep_1 : decode b_E_keep 1 = .ok (.iload_n 1, 1) := by decide +kernel
theorem d_E_keep_2 : decode b_E_keep 2 = .ok (.invokevirtual 65, 3) := by decide +kernel
theorem d_E_keep_5 : decode b_E_keep 5 = .ok (.iload_n 2, 1) := by decide +kernel
theorem d_E_keep_6 : decode b_E_keep 6 = .ok (.invokestatic 69, 3) := by decide +kernel
theorem d_E_keep_9 : decode b_E_keep 9 = .ok (.aload_n 0, 1) := by decide +kernel
theorem d_E_keep_10 : decode b_E_keep 10 = .ok (.iload_n 1, 1) := by decide +kernel
theorem d_E_keep_11 : decode b_E_keep 11 = .ok (.invokevirtual 72, 3) := by decide +kernel
theorem d_E_keep_14 : decode b_E_keep 14 = .ok (.aload_n 0, 1) := by decide +kernel
theorem d_E_keep_15 : decode b_E_keep 15 = .ok (.iload_n 2, 1) := by decide +kernel
theorem d_E_keep_16 : decode b_E_keep 16 = .ok (.invokevirtual 75, 3) := by decide +kernel
theorem d_E_keep_19 : decode b_E_keep 19 = .ok (.aload_n 0, 1) := by decide +kernel
theorem d_E_keep_20 : decode b_E_keep 20 = .ok (.getfield 10, 3) := by decide +kernel
theorem d_E_keep_23 : decode b_E_keep 23 = .ok (.getfield 78, 3) := by decide +kernel
theorem d_E_keep_26 : decode b_E_keep 26 = .ok (.iload_n 2, 1) := by decide +kernel
theorem d_E_keep_27 : decode b_E_keep 27 = .ok (.iaload, 1) := by decide +kernel
theorem d_E_keep_28 : decode b_E_keep 28 = .ok (.iconst (-1), 1) := by decide +kernel
theorem d_E_keep_29 : decode b_E_keep 29 = .ok (.if_icmp .ne 7, 3) := by decide +kernel
theorem d_E_keep_32 : decode b_E_keep 32 = .ok (.iconst 1, 1) := by decide +kernel
theorem d_E_keep_33 : decode b_E_keep 33 = .ok (.goto 4, 3) := by decide +kernel
theorem d_E_keep_36 : decode b_E_keep 36 = .ok (.iconst 0, 1) := by decide +kernel
theorem d_E_keep_37 : decode b_E_keep 37 = .ok (.invokestatic 81, 3) := by decide +kernel
theorem d_E_keep_40 : decode b_E_keep 40 = .ok (.aload_n 0, 1) := by decide +kernel
theorem d_E_keep_41 : decode b_E_keep 41 = .ok (.iload_n 1, 1) := by decide +kernel
theorem d_E_keep_42 : decode b_E_keep 42 = .ok (.invokevirtual 85, 3) := by decide +kernel
theorem d_E_keep_45 : decode b_E_keep 45 = .ok (.aload_n 0, 1) := by decide +kernel
theorem d_E_keep_46 : decode b_E_keep 46 = .ok (.getfield 19, 3) := by decide +kernel
theorem d_E_keep_49 : decode b_E_keep 49 = .ok (.getfield 88, 3) := by decide +kernel
theorem d_E_keep_52 : decode b_E_keep 52 = .ok (.iload_n 1, 1) := by decide +kernel
theorem d_E_keep_53 : decode b_E_keep 53 = .ok (.iload_n 2, 1) := by decide +kernel
theorem d_E_keep_54 : decode b_E_keep 54 = .ok (.iastore, 1) := by decide +kernel
theorem d_E_keep_55 : decode b_E_keep 55 = .ok (.aload_n 0, 1) := by decide +kernel
theorem d_E_keep_56 : decode b_E_keep 56 = .ok (.getfield 10, 3) := by decide +kernel
theorem d_E_keep_59 : decode b_E_keep 59 = .ok (.getfield 78, 3) := by decide +kernel
theorem d_E_keep_62 : decode b_E_keep 62 = .ok (.iload_n 2, 1) := by decide +kernel
theorem d_E_keep_63 : decode b_E_keep 63 = .ok (.iload_n 1, 1) := by decide +kernel
theorem d_E_keep_64 : decode b_E_keep 64 = .ok (.iastore, 1) := by decide +kernel
theorem d_E_keep_65 : decode b_E_keep 65 = .ok (.return_, 1) := by decide +kernel
theorem lk_E_65 : Cond.methodLink "EntryRows" 65 y_E_requireBoard ∈ er_tbl ∨ ∃ host, Cond.methodLinkNest "EntryRows" 65 y_E_requireBoard host ∈ er_tbl := Or.inl (er_mt (i := 247) (by decide +kernel) rfl)
theorem lk_E_69 : Cond.methodLink "EntryRows" 69 y_E_requirePerson ∈ er_tbl := er_mt (i := 274) (by decide +kernel) rfl
theorem lk_E_72 : Cond.methodLink "EntryRows" 72 y_E_requireOpen ∈ er_tbl ∨ ∃ host, Cond.methodLinkNest "EntryRows" 72 y_E_requireOpen host ∈ er_tbl := Or.inl (er_mt (i := 280) (by decide +kernel) rfl)
theorem lk_E_75 : Cond.methodLink "EntryRows" 75 y_E_requireOutside ∈ er_tbl ∨ ∃ host, Cond.methodLinkNest "EntryRows" 75 y_E_requireOutside host ∈ er_tbl := Or.inl (er_mt (i := 303) (by decide +kernel) rfl)
theorem lk_E_85 : Cond.methodLink "EntryRows" 85 y_E_dropKeeper ∈ er_tbl ∨ ∃ host, Cond.methodLinkNest "EntryRows" 85 y_E_dropKeeper host ∈ er_tbl := Or.inl (er_mt (i := 311) (by decide +kernel) rfl)
abbrev y_E_right : MethodName := ⟨"EntryRows", "right", "(IZ)V"⟩
abbrev b_E_right : ByteArray := prog_1_method_4_code
abbrev w_E_right : Cond := .code y_E_right b_E_right 3 none
theorem cal_E_right : er_Cal y_E_right w_E_right 3 2 := ⟨er_mt (i := 321) (by decide +kernel) rfl, er_mt (i := 1) (by decide +kernel) rfl, ⟨by decide, by decide⟩, by decide +kernel, b_E_right, none, [], Or.inl rfl⟩
theorem in_E_right : Cond.instanceMethod y_E_right ∈ er_tbl := er_mt (i := 319) (by decide +kernel) rfl
theorem se_E_right : Cond.selects "EntryRows" y_E_right y_E_right ∈ er_tbl := er_mt (i := 320) (by decide +kernel) rfl
theorem d_E_right_0 : decode b_E_right 0 = .ok (.iload_n 1, 1) := by decide +kernel
theorem d_E_right_1 : decode b_E_right 1 = .ok (.invokestatic 69, 3) := by decide +kernel
theorem d_E_right_4 : decode b_E_right 4 = .ok (.aload_n 0, 1) := by decide +kernel
theorem d_E_right_5 : decode b_E_right 5 = .ok (.getfield 10, 3) := by decide +kernel
theorem d_E_right_8 : decode b_E_right 8 = .ok (.getfield 91, 3) := by decide +kernel
theorem d_E_right_11 : decode b_E_right 11 = .ok (.iload_n 1, 1) := by decide +kernel
theorem d_E_right_12 : decode b_E_right 12 = .ok (.iload_n 2, 1) := by decide +kernel
theorem d_E_right_13 : decode b_E_right 13 = .ok (.bastore, 1) := by decide +kernel
theorem d_E_right_14 : decode b_E_right 14 = .ok (.return_, 1) := by decide +kernel
theorem fl_E_91 : er_F "EntryRows" 91 1 10 := ⟨_, er_T1, 11, rfl, by decide, er_i1, rfl, Or.inr ⟨"EntryRows", er_mt (i := 53) (by decide +kernel) rfl⟩⟩
abbrev y_E_rest : MethodName := ⟨"EntryRows", "rest", "(I)V"⟩
abbrev b_E_rest : ByteArray := prog_1_method_5_code
abbrev w_E_rest : Cond := .code y_E_rest b_E_rest 2 none
theorem cal_E_rest : er_Cal y_E_rest w_E_rest 2 1 := ⟨er_mt (i := 328) (by decide +kernel) rfl, er_mt (i := 1) (by decide +kernel) rfl, ⟨by decide, by decide⟩, by decide +kernel, b_E_rest, none, [], Or.inl rfl⟩
theorem in_E_rest : Cond.instanceMethod y_E_rest ∈ er_tbl := er_mt (i := 326) (by decide +kernel) rfl
theorem se_E_rest : Cond.selects "EntryRows" y_E_rest y_E_rest ∈ er_tbl := er_mt (i := 327) (by decide +kernel) rfl
theorem d_E_rest_0 : decode b_E_rest 0 = .ok (.iload_n 1, 1) := by decide +kernel
theorem d_E_rest_1 : decode b_E_rest 1 = .ok (.iconst 0, 1) := by decide +kernel
theorem d_E_rest_2 : decode b_E_rest 2 = .ok (.sipush 10000, 3) := by decide +kernel
theorem d_E_rest_5 : decode b_E_rest 5 = .ok (.invokestatic 46, 3) := by decide +kernel
theorem d_E_rest_8 : decode b_E_rest 8 = .ok (.aload_n 0, 1) := by decide +kernel
theorem d_E_rest_9 : decode b_E_rest 9 = .ok (.iload_n 1, 1) := by decide +kernel
theorem d_E_rest_10 : decode b_E_rest 10 = .ok (.putfield 37, 3) := by decide +kernel
theorem d_E_rest_13 : decode b_E_rest 13 = .ok (.return_, 1) := by decide +kernel
theorem fp_E_37 : er_Fp "EntryRows" 37 0 6 := ⟨_, er_T0, 7, er_ty0, rfl, by decide, er_i0, rfl, er_mt (i := 117) (by decide +kernel) rfl, rfl, by decide +kernel, er_tyok0, er_nm0⟩
abbrev y_E_isPlace : MethodName := ⟨"EntryRows", "isPlace", "(I)Z"⟩
abbrev b_E_isPlace : ByteArray := prog_1_method_21_code
abbrev w_E_isPlace : Cond := .code y_E_isPlace b_E_isPlace 1 (some .boolean)
theorem cal_E_isPlace : er_Cal y_E_isPlace w_E_isPlace 1 1 := ⟨er_mt (i := 338) (by decide +kernel) rfl, er_mt (i := 1) (by decide +kernel) rfl, ⟨by decide, by decide⟩, by decide +kernel, b_E_isPlace, (some .boolean), [], Or.inl rfl⟩
theorem st_E_isPlace : Cond.static y_E_isPlace ∈ er_tbl := er_mt (i := 337) (by decide +kernel) rfl
theorem d_E_isPlace_0 : decode b_E_isPlace 0 = .ok (.iload_n 0, 1) := by decide +kernel
theorem d_E_isPlace_1 : decode b_E_isPlace 1 = .ok (.ifCond .lt 13, 3) := by decide +kernel
theorem d_E_isPlace_4 : decode b_E_isPlace 4 = .ok (.iload_n 0, 1) := by decide +kernel
theorem d_E_isPlace_5 : decode b_E_isPlace 5 = .ok (.bipush 6, 2) := by decide +kernel
theorem d_E_isPlace_7 : decode b_E_isPlace 7 = .ok (.if_icmp .ge 7, 3) := by decide +kernel
theorem d_E_isPlace_10 : decode b_E_isPlace 10 = .ok (.iconst 1, 1) := by decide +kernel
theorem d_E_isPlace_11 : decode b_E_isPlace 11 = .ok (.goto 4, 3) := by decide +kernel
theorem d_E_isPlace_14 : decode b_E_isPlace 14 = .ok (.iconst 0, 1) := by decide +kernel
theorem d_E_isPlace_15 : decode b_E_isPlace 15 = .ok (.ireturn, 1) := by decide +kernel
abbrev y_E_heat : MethodName := ⟨"EntryRows", "heat", "(II)V"⟩
abbrev b_E_heat : ByteArray := prog_1_method_6_code
abbrev w_E_heat : Cond := .code y_E_heat b_E_heat 3 none
theorem cal_E_heat : er_Cal y_E_heat w_E_heat 3 2 := ⟨er_mt (i := 335) (by decide +kernel) rfl, er_mt (i := 1) (by decide +kernel) rfl, ⟨by decide, by decide⟩, by decide +kernel, b_E_heat, none, [], Or.inl rfl⟩
theorem in_E_heat : Cond.instanceMethod y_E_heat ∈ er_tbl := er_mt (i := 333) (by decide +kernel) rfl
theorem se_E_heat : Cond.selects "EntryRows" y_E_heat y_E_heat ∈ er_tbl := er_mt (i := 334) (by decide +kernel) rfl
theorem d_E_heat_0 : decode b_E_heat 0 = .ok (.iload_n 1, 1) := by decide +kernel
theorem d_E_heat_1 : decode b_E_heat 1 = .ok (.invokestatic 95, 3) := by decide +kernel
theorem d_E_heat_4 : decode b_E_heat 4 = .ok (.invokestatic 99, 3) := by decide +kernel
theorem d_E_heat_7 : decode b_E_heat 7 = .ok (.iload_n 2, 1) := by decide +kernel
theorem d_E_heat_8 : decode b_E_heat 8 = .ok (.iconst 0, 1) := by decide +kernel
theorem d_E_heat_9 : decode b_E_heat 9 = .ok (.bipush 100, 2) := by decide +kernel
theorem d_E_heat_11 : decode b_E_heat 11 = .ok (.invokestatic 46, 3) := by decide +kernel
theorem d_E_heat_14 : decode b_E_heat 14 = .ok (.aload_n 0, 1) := by decide +kernel
theorem d_E_heat_15 : decode b_E_heat 15 = .ok (.getfield 27, 3) := by decide +kernel
theorem d_E_heat_18 : decode b_E_heat 18 = .ok (.iload_n 1, 1) := by decide +kernel
theorem d_E_heat_19 : decode b_E_heat 19 = .ok (.iload_n 2, 1) := by decide +kernel
theorem d_E_heat_20 : decode b_E_heat 20 = .ok (.iastore, 1) := by decide +kernel
theorem d_E_heat_21 : decode b_E_heat 21 = .ok (.return_, 1) := by decide +kernel
theorem lk_E_95 : Cond.methodLink "EntryRows" 95 y_E_isPlace ∈ er_tbl := er_mt (i := 336) (by decide +kernel) rfl
theorem fl_E_27 : er_F "EntryRows" 27 0 3 := ⟨_, er_T0, 7, rfl, by decide, er_i0, rfl, Or.inl (er_mt (i := 114) (by decide +kernel) rfl)⟩
abbrev y_E_requireTeam : MethodName := ⟨"EntryRows", "requireTeam", "(I)V"⟩
abbrev b_E_requireTeam : ByteArray := prog_1_method_24_code
abbrev w_E_requireTeam : Cond := .code y_E_requireTeam b_E_requireTeam 1 none
theorem cal_E_requireTeam : er_Cal y_E_requireTeam w_E_requireTeam 1 1 := ⟨er_mt (i := 348) (by decide +kernel) rfl, er_mt (i := 1) (by decide +kernel) rfl, ⟨by decide, by decide⟩, by decide +kernel, b_E_requireTeam, none, [], Or.inl rfl⟩
theorem st_E_requireTeam : Cond.static y_E_requireTeam ∈ er_tbl := er_mt (i := 347) (by decide +kernel) rfl
theorem d_E_requireTeam_0 : decode b_E_requireTeam 0 = .ok (.iload_n 0, 1) := by decide +kernel
theorem d_E_requireTeam_1 : decode b_E_requireTeam 1 = .ok (.ifCond .lt 13, 3) := by decide +kernel
theorem d_E_requireTeam_4 : decode b_E_requireTeam 4 = .ok (.iload_n 0, 1) := by decide +kernel
theorem d_E_requireTeam_5 : decode b_E_requireTeam 5 = .ok (.bipush 16, 2) := by decide +kernel
theorem d_E_requireTeam_7 : decode b_E_requireTeam 7 = .ok (.if_icmp .ge 7, 3) := by decide +kernel
theorem d_E_requireTeam_10 : decode b_E_requireTeam 10 = .ok (.iconst 1, 1) := by decide +kernel
theorem d_E_requireTeam_11 : decode b_E_requireTeam 11 = .ok (.goto 4, 3) := by decide +kernel
theorem d_E_requireTeam_14 : decode b_E_requireTeam 14 = .ok (.iconst 0, 1) := by decide +kernel
theorem d_E_requireTeam_15 : decode b_E_requireTeam 15 = .ok (.invokestatic 99, 3) := by decide +kernel
theorem d_E_requireTeam_18 : decode b_E_requireTeam 18 = .ok (.return_, 1) := by decide +kernel
abbrev y_P_sizeOfTeam : MethodName := ⟨"EntryRows$Persons", "sizeOfTeam", "(I)I"⟩
abbrev b_P_sizeOfTeam : ByteArray := prog_3_method_4_code
abbrev w_P_sizeOfTeam : Cond := .code y_P_sizeOfTeam b_P_sizeOfTeam 4 (some .int)
theorem cal_P_sizeOfTeam : er_Cal y_P_sizeOfTeam w_P_sizeOfTeam 4 1 := ⟨er_mt (i := 352) (by decide +kernel) rfl, er_mt (i := 2) (by decide +kernel) rfl, ⟨by decide, by decide⟩, by decide +kernel, b_P_sizeOfTeam, (some .int), [], Or.inl rfl⟩
theorem in_P_sizeOfTeam : Cond.instanceMethod y_P_sizeOfTeam ∈ er_tbl := er_mt (i := 351) (by decide +kernel) rfl
theorem se_P_sizeOfTeam : Cond.selects "EntryRows$Persons" y_P_sizeOfTeam y_P_sizeOfTeam ∈ er_tbl := er_ms (i := 9) (by decide +kernel) rfl
theorem d_P_sizeOfTeam_0 : decode b_P_sizeOfTeam 0 = .ok (.iconst 0, 1) := by decide +kernel
theorem d_P_sizeOfTeam_1 : decode b_P_sizeOfTeam 1 = .ok (.istore_n 2, 1) := by decide +kernel
theorem d_P_sizeOfTeam_2 : decode b_P_sizeOfTeam 2 = .ok (.iconst 0, 1) := by decide +kernel
theorem d_P_sizeOfTeam_3 : decode b_P_sizeOfTeam 3 = .ok (.istore_n 3, 1) := by decide +kernel
theorem d_P_sizeOfTeam_4 : decode b_P_sizeOfTeam 4 = .ok (.iload_n 3, 1) := by decide +kernel
theorem d_P_sizeOfTeam_5 : decode b_P_sizeOfTeam 5 = .ok (.bipush 40, 2) := by decide +kernel
theorem d_P_sizeOfTeam_7 : decode b_P_sizeOfTeam 7 = .ok (.if_icmp .ge 22, 3) := by decide +kernel
theorem d_P_sizeOfTeam_10 : decode b_P_sizeOfTeam 10 = .ok (.aload_n 0, 1) := by decide +kernel
theorem d_P_sizeOfTeam_11 : decode b_P_sizeOfTeam 11 = .ok (.getfield 36, 3) := by decide +kernel
theorem d_P_sizeOfTeam_14 : decode b_P_sizeOfTeam 14 = .ok (.iload_n 3, 1) := by decide +kernel
theorem d_P_sizeOfTeam_15 : decode b_P_sizeOfTeam 15 = .ok (.iaload, 1) := by decide +kernel
theorem d_P_sizeOfTeam_16 : decode b_P_sizeOfTeam 16 = .ok (.iload_n 1, 1) := by decide +kernel
theorem d_P_sizeOfTeam_17 : decode b_P_sizeOfTeam 17 = .ok (.if_icmp .ne 6, 3) := by decide +kernel
theorem d_P_sizeOfTeam_20 : decode b_P_sizeOfTeam 20 = .ok (.iinc 2 1, 3) := by decide +kernel
theorem d_P_sizeOfTeam_23 : decode b_P_sizeOfTeam 23 = .ok (.iinc 3 1, 3) := by decide +kernel
theorem d_P_sizeOfTeam_26 : decode b_P_sizeOfTeam 26 = .ok (.goto (-22), 3) := by decide +kernel
theorem d_P_sizeOfTeam_29 : decode b_P_sizeOfTeam 29 = .ok (.iload_n 2, 1) := by decide +kernel
theorem d_P_sizeOfTeam_30 : decode b_P_sizeOfTeam 30 = .ok (.ireturn, 1) := by decide +kernel
theorem fl_P_36 : er_F "EntryRows$Persons" 36 1 8 := ⟨_, er_T1, 11, rfl, by decide, er_i1, rfl, Or.inl (er_mt (i := 48) (by decide +kernel) rfl)⟩
abbrev y_E_member : MethodName := ⟨"EntryRows", "member", "(IIZ)I"⟩
abbrev b_E_member : ByteArray := prog_1_method_7_code
abbrev w_E_member : Cond := .code y_E_member b_E_member 4 (some .int)
theorem cal_E_member : er_Cal y_E_member w_E_member 4 3 := ⟨er_mt (i := 345) (by decide +kernel) rfl, er_mt (i := 1) (by decide +kernel) rfl, ⟨by decide, by decide⟩, by decide +kernel, b_E_member, (some .int), [], Or.inl rfl⟩
theorem in_E_member : Cond.instanceMethod y_E_member ∈ er_tbl := er_mt (i := 343) (by decide +kernel) rfl
theorem se_E_member : Cond.selects "EntryRows" y_E_member y_E_member ∈ er_tbl := er_mt (i := 344) (by decide +kernel) rfl
theorem d_E_member_0 : decode b_E_member 0 = .ok (.iload_n 1, 1) := by decide +kernel
theorem d_E_member_1 : decode b_E_member 1 = .ok (.invokestatic 102, 3) := by decide +kernel
theorem d_E_member_4 : decode b_E_member 4 = .ok (.iload_n 2, 1) := by decide +kernel
theorem d_E_member_5 : decode b_E_member 5 = .ok (.invokestatic 69, 3) := by decide +kernel
theorem d_E_member_8 : decode b_E_member 8 = .ok (.aload_n 0, 1) := by decide +kernel
theorem d_E_member_9 : decode b_E_member 9 = .ok (.getfield 10, 3) := by decide +kernel
theorem d_E_member_12 : decode b_E_member 12 = .ok (.getfield 105, 3) := by decide +kernel
theorem d_E_member_15 : decode b_E_member 15 = .ok (.iload_n 2, 1) := by decide +kernel
theorem d_E_member_16 : decode b_E_member 16 = .ok (.iaload, 1) := by decide +kernel
theorem d_E_member_17 : decode b_E_member 17 = .ok (.iload_n 3, 1) := by decide +kernel
theorem d_E_member_18 : decode b_E_member 18 = .ok (.ifCond .eq 7, 3) := by decide +kernel
theorem d_E_member_21 : decode b_E_member 21 = .ok (.iconst (-1), 1) := by decide +kernel
theorem d_E_member_22 : decode b_E_member 22 = .ok (.goto 4, 3) := by decide +kernel
theorem d_E_member_25 : decode b_E_member 25 = .ok (.iload_n 1, 1) := by decide +kernel
theorem d_E_member_26 : decode b_E_member 26 = .ok (.if_icmp .ne 7, 3) := by decide +kernel
theorem d_E_member_29 : decode b_E_member 29 = .ok (.iconst 1, 1) := by decide +kernel
theorem d_E_member_30 : decode b_E_member 30 = .ok (.goto 4, 3) := by decide +kernel
theorem d_E_member_33 : decode b_E_member 33 = .ok (.iconst 0, 1) := by decide +kernel
theorem d_E_member_34 : decode b_E_member 34 = .ok (.invokestatic 81, 3) := by decide +kernel
theorem d_E_member_37 : decode b_E_member 37 = .ok (.aload_n 0, 1) := by decide +kernel
theorem d_E_member_38 : decode b_E_member 38 = .ok (.iload_n 2, 1) := by decide +kernel
theorem d_E_member_39 : decode b_E_member 39 = .ok (.invokevirtual 75, 3) := by decide +kernel
theorem d_E_member_42 : decode b_E_member 42 = .ok (.iload_n 3, 1) := by decide +kernel
theorem d_E_member_43 : decode b_E_member 43 = .ok (.ifCond .eq 26, 3) := by decide +kernel
theorem d_E_member_46 : decode b_E_member 46 = .ok (.aload_n 0, 1) := by decide +kernel
theorem d_E_member_47 : decode b_E_member 47 = .ok (.getfield 10, 3) := by decide +kernel
theorem d_E_member_50 : decode b_E_member 50 = .ok (.iload_n 1, 1) := by decide +kernel
theorem d_E_member_51 : decode b_E_member 51 = .ok (.invokevirtual 108, 3) := by decide +kernel
theorem d_E_member_54 : decode b_E_member 54 = .ok (.bipush 6, 2) := by decide +kernel
theorem d_E_member_56 : decode b_E_member 56 = .ok (.if_icmp .lt 13, 3) := by decide +kernel
theorem d_E_member_59 : decode b_E_member 59 = .ok (.new 54, 3) := by decide +kernel
theorem d_E_member_62 : decode b_E_member 62 = .ok (.dup, 1) := by decide +kernel
theorem d_E_member_63 : decode b_E_member 63 = .ok (.ldc 112, 2) := by decide +kernel
theorem d_E_member_65 : decode b_E_member 65 = .ok (.invokespecial 58, 3) := by decide +kernel
theorem d_E_member_68 : decode b_E_member 68 = .ok (.athrow, 1) := by decide +kernel
theorem d_E_member_69 : decode b_E_member 69 = .ok (.aload_n 0, 1) := by decide +kernel
theorem d_E_member_70 : decode b_E_member 70 = .ok (.getfield 10, 3) := by decide +kernel
theorem d_E_member_73 : decode b_E_member 73 = .ok (.getfield 105, 3) := by decide +kernel
theorem d_E_member_76 : decode b_E_member 76 = .ok (.iload_n 2, 1) := by decide +kernel
theorem d_E_member_77 : decode b_E_member 77 = .ok (.iload_n 3, 1) := by decide +kernel
theorem d_E_member_78 : decode b_E_member 78 = .ok (.ifCond .eq 7, 3) := by decide +kernel
theorem d_E_member_81 : decode b_E_member 81 = .ok (.iload_n 1, 1) := by decide +kernel
theorem d_E_member_82 : decode b_E_member 82 = .ok (.goto 4, 3) := by decide +kernel
theorem d_E_member_85 : decode b_E_member 85 = .ok (.iconst (-1), 1) := by decide +kernel
theorem d_E_member_86 : decode b_E_member 86 = .ok (.iastore, 1) := by decide +kernel
theorem d_E_member_87 : decode b_E_member 87 = .ok (.aload_n 0, 1) := by decide +kernel
theorem d_E_member_88 : decode b_E_member 88 = .ok (.getfield 10, 3) := by decide +kernel
theorem d_E_member_91 : decode b_E_member 91 = .ok (.iload_n 1, 1) := by decide +kernel
theorem d_E_member_92 : decode b_E_member 92 = .ok (.invokevirtual 108, 3) := by decide +kernel
theorem d_E_member_95 : decode b_E_member 95 = .ok (.ireturn, 1) := by decide +kernel
theorem lk_E_102 : Cond.methodLink "EntryRows" 102 y_E_requireTeam ∈ er_tbl := er_mt (i := 346) (by decide +kernel) rfl
theorem fl_E_105 : er_F "EntryRows" 105 1 8 := ⟨_, er_T1, 11, rfl, by decide, er_i1, rfl, Or.inr ⟨"EntryRows", er_mt (i := 49) (by decide +kernel) rfl⟩⟩
theorem lk_E_108 : Cond.methodLink "EntryRows" 108 y_P_sizeOfTeam ∈ er_tbl ∨ ∃ host, Cond.methodLinkNest "EntryRows" 108 y_P_sizeOfTeam host ∈ er_tbl := Or.inr ⟨"EntryRows", er_mt (i := 349) (by decide +kernel) rfl⟩
abbrev y_P_isFree : MethodName := ⟨"EntryRows$Persons", "isFree", "(II)Z"⟩
abbrev b_P_isFree : ByteArray := prog_3_method_3_code
abbrev w_P_isFree : Cond := .code y_P_isFree b_P_isFree 3 (some .boolean)
theorem cal_P_isFree : er_Cal y_P_isFree w_P_isFree 3 2 := ⟨er_mt (i := 376) (by decide +kernel) rfl, er_mt (i := 2) (by decide +kernel) rfl, ⟨by decide, by decide⟩, by decide +kernel, b_P_isFree, (some .boolean), [], Or.inl rfl⟩
theorem in_P_isFree : Cond.instanceMethod y_P_isFree ∈ er_tbl := er_mt (i := 375) (by decide +kernel) rfl
theorem se_P_isFree : Cond.selects "EntryRows$Persons" y_P_isFree y_P_isFree ∈ er_tbl := er_ms (i := 13) (by decide +kernel) rfl
theorem d_P_isFree_0 : decode b_P_isFree 0 = .ok (.aload_n 0, 1) := by decide +kernel
theorem d_P_isFree_1 : decode b_P_isFree 1 = .ok (.iload_n 1, 1) := by decide +kernel
theorem d_P_isFree_2 : decode b_P_isFree 2 = .ok (.invokevirtual 52, 3) := by decide +kernel
theorem d_P_isFree_5 : decode b_P_isFree 5 = .ok (.ifCond .ne 27, 3) := by decide +kernel
theorem d_P_isFree_8 : decode b_P_isFree 8 = .ok (.iload_n 2, 1) := by decide +kernel
theorem d_P_isFree_9 : decode b_P_isFree 9 = .ok (.aload_n 0, 1) := by decide +kernel
theorem d_P_isFree_10 : decode b_P_isFree 10 = .ok (.getfield 27, 3) := by decide +kernel
theorem d_P_isFree_13 : decode b_P_isFree 13 = .ok (.iload_n 1, 1) := by decide +kernel
theorem d_P_isFree_14 : decode b_P_isFree 14 = .ok (.iaload, 1) := by decide +kernel
theorem d_P_isFree_15 : decode b_P_isFree 15 = .ok (.if_icmp .lt 17, 3) := by decide +kernel
theorem d_P_isFree_18 : decode b_P_isFree 18 = .ok (.aload_n 0, 1) := by decide +kernel
theorem d_P_isFree_19 : decode b_P_isFree 19 = .ok (.getfield 39, 3) := by decide +kernel
theorem d_P_isFree_22 : decode b_P_isFree 22 = .ok (.iload_n 1, 1) := by decide +kernel
theorem d_P_isFree_23 : decode b_P_isFree 23 = .ok (.iaload, 1) := by decide +kernel
theorem d_P_isFree_24 : decode b_P_isFree 24 = .ok (.iconst (-1), 1) := by decide +kernel
theorem d_P_isFree_25 : decode b_P_isFree 25 = .ok (.if_icmp .ne 7, 3) := by decide +kernel
theorem d_P_isFree_28 : decode b_P_isFree 28 = .ok (.iconst 1, 1) := by decide +kernel
theorem d_P_isFree_29 : decode b_P_isFree 29 = .ok (.goto 4, 3) := by decide +kernel
theorem d_P_isFree_32 : decode b_P_isFree 32 = .ok (.iconst 0, 1) := by decide +kernel
theorem d_P_isFree_33 : decode b_P_isFree 33 = .ok (.ireturn, 1) := by decide +kernel
theorem lk_P_52 : Cond.methodLink "EntryRows$Persons" 52 y_P_isInside ∈ er_tbl ∨ ∃ host, Cond.methodLinkNest "EntryRows$Persons" 52 y_P_isInside host ∈ er_tbl := Or.inl (er_mt (i := 377) (by decide +kernel) rfl)
theorem fl_P_27 : er_F "EntryRows$Persons" 27 1 5 := ⟨_, er_T1, 11, rfl, by decide, er_i1, rfl, Or.inl (er_mt (i := 42) (by decide +kernel) rfl)⟩
theorem fl_P_39 : er_F "EntryRows$Persons" 39 1 9 := ⟨_, er_T1, 11, rfl, by decide, er_i1, rfl, Or.inl (er_mt (i := 50) (by decide +kernel) rfl)⟩
abbrev y_P_isTeamReady : MethodName := ⟨"EntryRows$Persons", "isTeamReady", "(III)Z"⟩
abbrev b_P_isTeamReady : ByteArray := prog_3_method_5_code
abbrev w_P_isTeamReady : Cond := .code y_P_isTeamReady b_P_isTeamReady 5 (some .boolean)
theorem cal_P_isTeamReady : er_Cal y_P_isTeamReady w_P_isTeamReady 5 3 := ⟨er_mt (i := 372) (by decide +kernel) rfl, er_mt (i := 2) (by decide +kernel) rfl, ⟨by decide, by decide⟩, by decide +kernel, b_P_isTeamReady, (some .boolean), [], Or.inl rfl⟩
theorem in_P_isTeamReady : Cond.instanceMethod y_P_isTeamReady ∈ er_tbl := er_mt (i := 371) (by decide +kernel) rfl
theorem se_P_isTeamReady : Cond.selects "EntryRows$Persons" y_P_isTeamReady y_P_isTeamReady ∈ er_tbl := er_ms (i := 12) (by decide +kernel) rfl
theorem d_P_isTeamReady_0 : decode b_P_isTeamReady 0 = .ok (.iconst 0, 1) := by decide +kernel
theorem d_P_isTeamReady_1 : decode b_P_isTeamReady 1 = .ok (.istore 4, 2) := by decide +kernel
theorem d_P_isTeamReady_3 : decode b_P_isTeamReady 3 = .ok (.iload 4, 2) := by decide +kernel
theorem d_P_isTeamReady_5 : decode b_P_isTeamReady 5 = .ok (.bipush 40, 2) := by decide +kernel
theorem d_P_isTeamReady_7 : decode b_P_isTeamReady 7 = .ok (.if_icmp .ge 32, 3) := by decide +kernel
theorem d_P_isTeamReady_10 : decode b_P_isTeamReady 10 = .ok (.aload_n 0, 1) := by decide +kernel
theorem d_P_isTeamReady_11 : decode b_P_isTeamReady 11 = .ok (.getfield 36, 3) := by decide +kernel
theorem d_P_isTeamReady_14 : decode b_P_isTeamReady 14 = .ok (.iload 4, 2) := by decide +kernel
theorem d_P_isTeamReady_16 : decode b_P_isTeamReady 16 = .ok (.iaload, 1) := by decide +kernel
theorem d_P_isTeamReady_17 : decode b_P_isTeamReady 17 = .ok (.iload_n 1, 1) := by decide +kernel
theorem d_P_isTeamReady_18 : decode b_P_isTeamReady 18 = .ok (.if_icmp .ne 15, 3) := by decide +kernel
theorem d_P_isTeamReady_21 : decode b_P_isTeamReady 21 = .ok (.aload_n 0, 1) := by decide +kernel
theorem d_P_isTeamReady_22 : decode b_P_isTeamReady 22 = .ok (.iload 4, 2) := by decide +kernel
theorem d_P_isTeamReady_24 : decode b_P_isTeamReady 24 = .ok (.iload_n 3, 1) := by decide +kernel
theorem d_P_isTeamReady_25 : decode b_P_isTeamReady 25 = .ok (.invokevirtual 56, 3) := by decide +kernel
theorem d_P_isTeamReady_28 : decode b_P_isTeamReady 28 = .ok (.ifCond .ne 5, 3) := by decide +kernel
theorem d_P_isTeamReady_31 : decode b_P_isTeamReady 31 = .ok (.iconst 0, 1) := by decide +kernel
theorem d_P_isTeamReady_32 : decode b_P_isTeamReady 32 = .ok (.ireturn, 1) := by decide +kernel
theorem d_P_isTeamReady_33 : decode b_P_isTeamReady 33 = .ok (.iinc 4 1, 3) := by decide +kernel
theorem d_P_isTeamReady_36 : decode b_P_isTeamReady 36 = .ok (.goto (-33), 3) := by decide +kernel
theorem d_P_isTeamReady_39 : decode b_P_isTeamReady 39 = .ok (.aload_n 0, 1) := by decide +kernel
theorem d_P_isTeamReady_40 : decode b_P_isTeamReady 40 = .ok (.iload_n 1, 1) := by decide +kernel
theorem d_P_isTeamReady_41 : decode b_P_isTeamReady 41 = .ok (.invokevirtual 60, 3) := by decide +kernel
theorem d_P_isTeamReady_44 : decode b_P_isTeamReady 44 = .ok (.iload_n 2, 1) := by decide +kernel
theorem d_P_isTeamReady_45 : decode b_P_isTeamReady 45 = .ok (.if_icmp .lt 7, 3) := by decide +kernel
theorem d_P_isTeamReady_48 : decode b_P_isTeamReady 48 = .ok (.iconst 1, 1) := by decide +kernel
theorem d_P_isTeamReady_49 : decode b_P_isTeamReady 49 = .ok (.goto 4, 3) := by decide +kernel
theorem d_P_isTeamReady_52 : decode b_P_isTeamReady 52 = .ok (.iconst 0, 1) := by decide +kernel
theorem d_P_isTeamReady_53 : decode b_P_isTeamReady 53 = .ok (.ireturn, 1) := by decide +kernel
theorem lk_P_56 : Cond.methodLink "EntryRows$Persons" 56 y_P_isFree ∈ er_tbl ∨ ∃ host, Cond.methodLinkNest "EntryRows$Persons" 56 y_P_isFree host ∈ er_tbl := Or.inl (er_mt (i := 373) (by decide +kernel) rfl)
theorem lk_P_60 : Cond.methodLink "EntryRows$Persons" 60 y_P_sizeOfTeam ∈ er_tbl ∨ ∃ host, Cond.methodLinkNest "EntryRows$Persons" 60 y_P_sizeOfTeam host ∈ er_tbl := Or.inl (er_mt (i := 378) (by decide +kernel) rfl)
abbrev y_E_isReady : MethodName := ⟨"EntryRows", "isReady", "(II)Z"⟩
abbrev b_E_isReady : ByteArray := prog_1_method_31_code
abbrev w_E_isReady : Cond := .code y_E_isReady b_E_isReady 3 (some .boolean)
theorem cal_E_isReady : er_Cal y_E_isReady w_E_isReady 3 2 := ⟨er_mt (i := 368) (by decide +kernel) rfl, er_mt (i := 1) (by decide +kernel) rfl, ⟨by decide, by decide⟩, by decide +kernel, b_E_isReady, (some .boolean), [], Or.inl rfl⟩
theorem in_E_isReady : Cond.instanceMethod y_E_isReady ∈ er_tbl := er_mt (i := 367) (by decide +kernel) rfl
theorem se_E_isReady : Cond.selects "EntryRows" y_E_isReady y_E_isReady ∈ er_tbl := er_ms (i := 11) (by decide +kernel) rfl
theorem d_E_isReady_0 : decode b_E_isReady 0 = .ok (.aload_n 0, 1) := by decide +kernel
theorem d_E_isReady_1 : decode b_E_isReady 1 = .ok (.getfield 10, 3) := by decide +kernel
theorem d_E_isReady_4 : decode b_E_isReady 4 = .ok (.iload_n 1, 1) := by decide +kernel
theorem d_E_isReady_5 : decode b_E_isReady 5 = .ok (.aload_n 0, 1) := by decide +kernel
theorem d_E_isReady_6 : decode b_E_isReady 6 = .ok (.getfield 19, 3) := by decide +kernel
theorem d_E_isReady_9 : decode b_E_isReady 9 = .ok (.getfield 227, 3) := by decide +kernel
theorem d_E_isReady_12 : decode b_E_isReady 12 = .ok (.iload_n 2, 1) := by decide +kernel
theorem d_E_isReady_13 : decode b_E_isReady 13 = .ok (.iaload, 1) := by decide +kernel
theorem d_E_isReady_14 : decode b_E_isReady 14 = .ok (.aload_n 0, 1) := by decide +kernel
theorem d_E_isReady_15 : decode b_E_isReady 15 = .ok (.getfield 30, 3) := by decide +kernel
theorem d_E_isReady_18 : decode b_E_isReady 18 = .ok (.invokevirtual 230, 3) := by decide +kernel
theorem d_E_isReady_21 : decode b_E_isReady 21 = .ok (.ireturn, 1) := by decide +kernel
theorem fl_E_227 : er_F "EntryRows" 227 2 1 := ⟨_, er_T2, 6, rfl, by decide, er_i2, rfl, Or.inr ⟨"EntryRows", er_mt (i := 89) (by decide +kernel) rfl⟩⟩
theorem fl_E_30 : er_F "EntryRows" 30 0 4 := ⟨_, er_T0, 7, rfl, by decide, er_i0, rfl, Or.inl (er_mt (i := 115) (by decide +kernel) rfl)⟩
theorem lk_E_230 : Cond.methodLink "EntryRows" 230 y_P_isTeamReady ∈ er_tbl ∨ ∃ host, Cond.methodLinkNest "EntryRows" 230 y_P_isTeamReady host ∈ er_tbl := Or.inr ⟨"EntryRows", er_mt (i := 369) (by decide +kernel) rfl⟩
abbrev y_E_readySafetyTeams : MethodName := ⟨"EntryRows", "readySafetyTeams", "(II)I"⟩
abbrev b_E_readySafetyTeams : ByteArray := prog_1_method_33_code
abbrev w_E_readySafetyTeams : Cond := .code y_E_readySafetyTeams b_E_readySafetyTeams 5 (some .int)
theorem cal_E_readySafetyTeams : er_Cal y_E_readySafetyTeams w_E_readySafetyTeams 5 2 := ⟨er_mt (i := 364) (by decide +kernel) rfl, er_mt (i := 1) (by decide +kernel) rfl, ⟨by decide, by decide⟩, by decide +kernel, b_E_readySafetyTeams, (some .int), [], Or.inl rfl⟩
theorem in_E_readySafetyTeams : Cond.instanceMethod y_E_readySafetyTeams ∈ er_tbl := er_mt (i := 363) (by decide +kernel) rfl
theorem se_E_readySafetyTeams : Cond.selects "EntryRows" y_E_readySafetyTeams y_E_readySafetyTeams ∈ er_tbl := er_ms (i := 10) (by decide +kernel) rfl
theorem d_E_readySafetyTeams_0 : decode b_E_readySafetyTeams 0 = .ok (.iconst 0, 1) := by decide +kernel
theorem d_E_readySafetyTeams_1 : decode b_E_readySafetyTeams 1 = .ok (.istore_n 3, 1) := by decide +kernel
theorem d_E_readySafetyTeams_2 : decode b_E_readySafetyTeams 2 = .ok (.iconst 0, 1) := by decide +kernel
theorem d_E_readySafetyTeams_3 : decode b_E_readySafetyTeams 3 = .ok (.istore 4, 2) := by decide +kernel
theorem d_E_readySafetyTeams_5 : decode b_E_readySafetyTeams 5 = .ok (.iload 4, 2) := by decide +kernel
theorem d_E_readySafetyTeams_7 : decode b_E_readySafetyTeams 7 = .ok (.bipush 16, 2) := by decide +kernel
theorem d_E_readySafetyTeams_9 : decode b_E_readySafetyTeams 9 = .ok (.if_icmp .ge 39, 3) := by decide +kernel
theorem d_E_readySafetyTeams_12 : decode b_E_readySafetyTeams 12 = .ok (.iload 4, 2) := by decide +kernel
theorem d_E_readySafetyTeams_14 : decode b_E_readySafetyTeams 14 = .ok (.iload_n 2, 1) := by decide +kernel
theorem d_E_readySafetyTeams_15 : decode b_E_readySafetyTeams 15 = .ok (.if_icmp .eq 27, 3) := by decide +kernel
theorem d_E_readySafetyTeams_18 : decode b_E_readySafetyTeams 18 = .ok (.aload_n 0, 1) := by decide +kernel
theorem d_E_readySafetyTeams_19 : decode b_E_readySafetyTeams 19 = .ok (.getfield 23, 3) := by decide +kernel
theorem d_E_readySafetyTeams_22 : decode b_E_readySafetyTeams 22 = .ok (.iload 4, 2) := by decide +kernel
theorem d_E_readySafetyTeams_24 : decode b_E_readySafetyTeams 24 = .ok (.iaload, 1) := by decide +kernel
theorem d_E_readySafetyTeams_25 : decode b_E_readySafetyTeams 25 = .ok (.iload_n 1, 1) := by decide +kernel
theorem d_E_readySafetyTeams_26 : decode b_E_readySafetyTeams 26 = .ok (.if_icmp .ne 16, 3) := by decide +kernel
theorem d_E_readySafetyTeams_29 : decode b_E_readySafetyTeams 29 = .ok (.aload_n 0, 1) := by decide +kernel
theorem d_E_readySafetyTeams_30 : decode b_E_readySafetyTeams 30 = .ok (.iload 4, 2) := by decide +kernel
theorem d_E_readySafetyTeams_32 : decode b_E_readySafetyTeams 32 = .ok (.iload_n 1, 1) := by decide +kernel
theorem d_E_readySafetyTeams_33 : decode b_E_readySafetyTeams 33 = .ok (.invokevirtual 118, 3) := by decide +kernel
theorem d_E_readySafetyTeams_36 : decode b_E_readySafetyTeams 36 = .ok (.ifCond .eq 6, 3) := by decide +kernel
theorem d_E_readySafetyTeams_39 : decode b_E_readySafetyTeams 39 = .ok (.iinc 3 1, 3) := by decide +kernel
theorem d_E_readySafetyTeams_42 : decode b_E_readySafetyTeams 42 = .ok (.iinc 4 1, 3) := by decide +kernel
theorem d_E_readySafetyTeams_45 : decode b_E_readySafetyTeams 45 = .ok (.goto (-40), 3) := by decide +kernel
theorem d_E_readySafetyTeams_48 : decode b_E_readySafetyTeams 48 = .ok (.iload_n 3, 1) := by decide +kernel
theorem d_E_readySafetyTeams_49 : decode b_E_readySafetyTeams 49 = .ok (.ireturn, 1) := by decide +kernel
theorem fl_E_23 : er_F "EntryRows" 23 0 2 := ⟨_, er_T0, 7, rfl, by decide, er_i0, rfl, Or.inl (er_mt (i := 113) (by decide +kernel) rfl)⟩
theorem lk_E_118 : Cond.methodLink "EntryRows" 118 y_E_isReady ∈ er_tbl ∨ ∃ host, Cond.methodLinkNest "EntryRows" 118 y_E_isReady host ∈ er_tbl := Or.inl (er_mt (i := 365) (by decide +kernel) rfl)
abbrev y_E_safety : MethodName := ⟨"EntryRows", "safety", "(IIZ)I"⟩
abbrev b_E_safety : ByteArray := prog_1_method_8_code
abbrev w_E_safety : Cond := .code y_E_safety b_E_safety 4 (some .int)
theorem cal_E_safety : er_Cal y_E_safety w_E_safety 4 3 := ⟨er_mt (i := 360) (by decide +kernel) rfl, er_mt (i := 1) (by decide +kernel) rfl, ⟨by decide, by decide⟩, by decide +kernel, b_E_safety, (some .int), [], Or.inl rfl⟩
theorem in_E_safety : Cond.instanceMethod y_E_safety ∈ er_tbl := er_mt (i := 358) (by decide +kernel) rfl
theorem se_E_safety : Cond.selects "EntryRows" y_E_safety y_E_safety ∈ er_tbl := er_mt (i := 359) (by decide +kernel) rfl
theorem d_E_safety_0 : decode b_E_safety 0 = .ok (.aload_n 0, 1) := by decide +kernel
theorem d_E_safety_1 : decode b_E_safety 1 = .ok (.iload_n 1, 1) := by decide +kernel
theorem d_E_safety_2 : decode b_E_safety 2 = .ok (.invokevirtual 65, 3) := by decide +kernel
theorem d_E_safety_5 : decode b_E_safety 5 = .ok (.iload_n 2, 1) := by decide +kernel
theorem d_E_safety_6 : decode b_E_safety 6 = .ok (.invokestatic 102, 3) := by decide +kernel
theorem d_E_safety_9 : decode b_E_safety 9 = .ok (.aload_n 0, 1) := by decide +kernel
theorem d_E_safety_10 : decode b_E_safety 10 = .ok (.iload_n 1, 1) := by decide +kernel
theorem d_E_safety_11 : decode b_E_safety 11 = .ok (.invokevirtual 72, 3) := by decide +kernel
theorem d_E_safety_14 : decode b_E_safety 14 = .ok (.aload_n 0, 1) := by decide +kernel
theorem d_E_safety_15 : decode b_E_safety 15 = .ok (.getfield 23, 3) := by decide +kernel
theorem d_E_safety_18 : decode b_E_safety 18 = .ok (.iload_n 2, 1) := by decide +kernel
theorem d_E_safety_19 : decode b_E_safety 19 = .ok (.iaload, 1) := by decide +kernel
theorem d_E_safety_20 : decode b_E_safety 20 = .ok (.iload_n 3, 1) := by decide +kernel
theorem d_E_safety_21 : decode b_E_safety 21 = .ok (.ifCond .eq 7, 3) := by decide +kernel
theorem d_E_safety_24 : decode b_E_safety 24 = .ok (.iconst (-1), 1) := by decide +kernel
theorem d_E_safety_25 : decode b_E_safety 25 = .ok (.goto 4, 3) := by decide +kernel
theorem d_E_safety_28 : decode b_E_safety 28 = .ok (.iload_n 1, 1) := by decide +kernel
theorem d_E_safety_29 : decode b_E_safety 29 = .ok (.if_icmp .ne 7, 3) := by decide +kernel
theorem d_E_safety_32 : decode b_E_safety 32 = .ok (.iconst 1, 1) := by decide +kernel
theorem d_E_safety_33 : decode b_E_safety 33 = .ok (.goto 4, 3) := by decide +kernel
theorem d_E_safety_36 : decode b_E_safety 36 = .ok (.iconst 0, 1) := by decide +kernel
theorem d_E_safety_37 : decode b_E_safety 37 = .ok (.invokestatic 81, 3) := by decide +kernel
theorem d_E_safety_40 : decode b_E_safety 40 = .ok (.aload_n 0, 1) := by decide +kernel
theorem d_E_safety_41 : decode b_E_safety 41 = .ok (.getfield 23, 3) := by decide +kernel
theorem d_E_safety_44 : decode b_E_safety 44 = .ok (.iload_n 2, 1) := by decide +kernel
theorem d_E_safety_45 : decode b_E_safety 45 = .ok (.iload_n 3, 1) := by decide +kernel
theorem d_E_safety_46 : decode b_E_safety 46 = .ok (.ifCond .eq 7, 3) := by decide +kernel
theorem d_E_safety_49 : decode b_E_safety 49 = .ok (.iload_n 1, 1) := by decide +kernel
theorem d_E_safety_50 : decode b_E_safety 50 = .ok (.goto 4, 3) := by decide +kernel
theorem d_E_safety_53 : decode b_E_safety 53 = .ok (.iconst (-1), 1) := by decide +kernel
theorem d_E_safety_54 : decode b_E_safety 54 = .ok (.iastore, 1) := by decide +kernel
theorem d_E_safety_55 : decode b_E_safety 55 = .ok (.aload_n 0, 1) := by decide +kernel
theorem d_E_safety_56 : decode b_E_safety 56 = .ok (.iload_n 1, 1) := by decide +kernel
theorem d_E_safety_57 : decode b_E_safety 57 = .ok (.iconst (-1), 1) := by decide +kernel
theorem d_E_safety_58 : decode b_E_safety 58 = .ok (.invokevirtual 114, 3) := by decide +kernel
theorem d_E_safety_61 : decode b_E_safety 61 = .ok (.ireturn, 1) := by decide +kernel
theorem lk_E_114 : Cond.methodLink "EntryRows" 114 y_E_readySafetyTeams ∈ er_tbl ∨ ∃ host, Cond.methodLinkNest "EntryRows" 114 y_E_readySafetyTeams host ∈ er_tbl := Or.inl (er_mt (i := 361) (by decide +kernel) rfl)
abbrev y_E_isCovered : MethodName := ⟨"EntryRows", "isCovered", "(II)Z"⟩
abbrev b_E_isCovered : ByteArray := prog_1_method_32_code
abbrev w_E_isCovered : Cond := .code y_E_isCovered b_E_isCovered 3 (some .boolean)
theorem cal_E_isCovered : er_Cal y_E_isCovered w_E_isCovered 3 2 := ⟨er_mt (i := 389) (by decide +kernel) rfl, er_mt (i := 1) (by decide +kernel) rfl, ⟨by decide, by decide⟩, by decide +kernel, b_E_isCovered, (some .boolean), [], Or.inl rfl⟩
theorem in_E_isCovered : Cond.instanceMethod y_E_isCovered ∈ er_tbl := er_mt (i := 388) (by decide +kernel) rfl
theorem se_E_isCovered : Cond.selects "EntryRows" y_E_isCovered y_E_isCovered ∈ er_tbl := er_ms (i := 14) (by decide +kernel) rfl
theorem d_E_isCovered_0 : decode b_E_isCovered 0 = .ok (.aload_n 0, 1) := by decide +kernel
theorem d_E_isCovered_1 : decode b_E_isCovered 1 = .ok (.iload_n 1, 1) := by decide +kernel
theorem d_E_isCovered_2 : decode b_E_isCovered 2 = .ok (.iload_n 2, 1) := by decide +kernel
theorem d_E_isCovered_3 : decode b_E_isCovered 3 = .ok (.invokevirtual 114, 3) := by decide +kernel
theorem d_E_isCovered_6 : decode b_E_isCovered 6 = .ok (.aload_n 0, 1) := by decide +kernel
theorem d_E_isCovered_7 : decode b_E_isCovered 7 = .ok (.getfield 19, 3) := by decide +kernel
theorem d_E_isCovered_10 : decode b_E_isCovered 10 = .ok (.getfield 234, 3) := by decide +kernel
theorem d_E_isCovered_13 : decode b_E_isCovered 13 = .ok (.iload_n 1, 1) := by decide +kernel
theorem d_E_isCovered_14 : decode b_E_isCovered 14 = .ok (.iaload, 1) := by decide +kernel
theorem d_E_isCovered_15 : decode b_E_isCovered 15 = .ok (.if_icmp .lt 7, 3) := by decide +kernel
theorem d_E_isCovered_18 : decode b_E_isCovered 18 = .ok (.iconst 1, 1) := by decide +kernel
theorem d_E_isCovered_19 : decode b_E_isCovered 19 = .ok (.goto 4, 3) := by decide +kernel
theorem d_E_isCovered_22 : decode b_E_isCovered 22 = .ok (.iconst 0, 1) := by decide +kernel
theorem d_E_isCovered_23 : decode b_E_isCovered 23 = .ok (.ireturn, 1) := by decide +kernel
theorem fl_E_234 : er_F "EntryRows" 234 2 3 := ⟨_, er_T2, 6, rfl, by decide, er_i2, rfl, Or.inr ⟨"EntryRows", er_mt (i := 93) (by decide +kernel) rfl⟩⟩
abbrev y_E_keeperMayLetRescue : MethodName := ⟨"EntryRows", "keeperMayLetRescue", "(I)Z"⟩
abbrev b_E_keeperMayLetRescue : ByteArray := prog_1_method_34_code
abbrev w_E_keeperMayLetRescue : Cond := .code y_E_keeperMayLetRescue b_E_keeperMayLetRescue 3 (some .boolean)
theorem cal_E_keeperMayLetRescue : er_Cal y_E_keeperMayLetRescue w_E_keeperMayLetRescue 3 1 := ⟨er_mt (i := 393) (by decide +kernel) rfl, er_mt (i := 1) (by decide +kernel) rfl, ⟨by decide, by decide⟩, by decide +kernel, b_E_keeperMayLetRescue, (some .boolean), [], Or.inl rfl⟩
theorem in_E_keeperMayLetRescue : Cond.instanceMethod y_E_keeperMayLetRescue ∈ er_tbl := er_mt (i := 392) (by decide +kernel) rfl
theorem se_E_keeperMayLetRescue : Cond.selects "EntryRows" y_E_keeperMayLetRescue y_E_keeperMayLetRescue ∈ er_tbl := er_ms (i := 15) (by decide +kernel) rfl
theorem d_E_keeperMayLetRescue_0 : decode b_E_keeperMayLetRescue 0 = .ok (.aload_n 0, 1) := by decide +kernel
theorem d_E_keeperMayLetRescue_1 : decode b_E_keeperMayLetRescue 1 = .ok (.getfield 19, 3) := by decide +kernel
theorem d_E_keeperMayLetRescue_4 : decode b_E_keeperMayLetRescue 4 = .ok (.getfield 88, 3) := by decide +kernel
theorem d_E_keeperMayLetRescue_7 : decode b_E_keeperMayLetRescue 7 = .ok (.iload_n 1, 1) := by decide +kernel
theorem d_E_keeperMayLetRescue_8 : decode b_E_keeperMayLetRescue 8 = .ok (.iaload, 1) := by decide +kernel
theorem d_E_keeperMayLetRescue_9 : decode b_E_keeperMayLetRescue 9 = .ok (.istore_n 2, 1) := by decide +kernel
theorem d_E_keeperMayLetRescue_10 : decode b_E_keeperMayLetRescue 10 = .ok (.iload_n 2, 1) := by decide +kernel
theorem d_E_keeperMayLetRescue_11 : decode b_E_keeperMayLetRescue 11 = .ok (.invokestatic 173, 3) := by decide +kernel
theorem d_E_keeperMayLetRescue_14 : decode b_E_keeperMayLetRescue 14 = .ok (.ifCond .eq 19, 3) := by decide +kernel
theorem d_E_keeperMayLetRescue_17 : decode b_E_keeperMayLetRescue 17 = .ok (.aload_n 0, 1) := by decide +kernel
theorem d_E_keeperMayLetRescue_18 : decode b_E_keeperMayLetRescue 18 = .ok (.getfield 10, 3) := by decide +kernel
theorem d_E_keeperMayLetRescue_21 : decode b_E_keeperMayLetRescue 21 = .ok (.getfield 91, 3) := by decide +kernel
theorem d_E_keeperMayLetRescue_24 : decode b_E_keeperMayLetRescue 24 = .ok (.iload_n 2, 1) := by decide +kernel
theorem d_E_keeperMayLetRescue_25 : decode b_E_keeperMayLetRescue 25 = .ok (.baload, 1) := by decide +kernel
theorem d_E_keeperMayLetRescue_26 : decode b_E_keeperMayLetRescue 26 = .ok (.ifCond .eq 7, 3) := by decide +kernel
theorem d_E_keeperMayLetRescue_29 : decode b_E_keeperMayLetRescue 29 = .ok (.iconst 1, 1) := by decide +kernel
theorem d_E_keeperMayLetRescue_30 : decode b_E_keeperMayLetRescue 30 = .ok (.goto 4, 3) := by decide +kernel
theorem d_E_keeperMayLetRescue_33 : decode b_E_keeperMayLetRescue 33 = .ok (.iconst 0, 1) := by decide +kernel
theorem d_E_keeperMayLetRescue_34 : decode b_E_keeperMayLetRescue 34 = .ok (.ireturn, 1) := by decide +kernel
abbrev y_P_setEntry : MethodName := ⟨"EntryRows$Persons", "setEntry", "(IIIIII)V"⟩
abbrev b_P_setEntry : ByteArray := prog_3_method_6_code
abbrev w_P_setEntry : Cond := .code y_P_setEntry b_P_setEntry 7 none
theorem cal_P_setEntry : er_Cal y_P_setEntry w_P_setEntry 7 6 := ⟨er_mt (i := 397) (by decide +kernel) rfl, er_mt (i := 2) (by decide +kernel) rfl, ⟨by decide, by decide⟩, by decide +kernel, b_P_setEntry, none, [], Or.inl rfl⟩
theorem in_P_setEntry : Cond.instanceMethod y_P_setEntry ∈ er_tbl := er_mt (i := 396) (by decide +kernel) rfl
theorem se_P_setEntry : Cond.selects "EntryRows$Persons" y_P_setEntry y_P_setEntry ∈ er_tbl := er_ms (i := 16) (by decide +kernel) rfl
theorem d_P_setEntry_0 : decode b_P_setEntry 0 = .ok (.aload_n 0, 1) := by decide +kernel
theorem d_P_setEntry_1 : decode b_P_setEntry 1 = .ok (.getfield 9, 3) := by decide +kernel
theorem d_P_setEntry_4 : decode b_P_setEntry 4 = .ok (.iload_n 1, 1) := by decide +kernel
theorem d_P_setEntry_5 : decode b_P_setEntry 5 = .ok (.iload_n 2, 1) := by decide +kernel
theorem d_P_setEntry_6 : decode b_P_setEntry 6 = .ok (.iastore, 1) := by decide +kernel
theorem d_P_setEntry_7 : decode b_P_setEntry 7 = .ok (.aload_n 0, 1) := by decide +kernel
theorem d_P_setEntry_8 : decode b_P_setEntry 8 = .ok (.getfield 15, 3) := by decide +kernel
theorem d_P_setEntry_11 : decode b_P_setEntry 11 = .ok (.iload_n 1, 1) := by decide +kernel
theorem d_P_setEntry_12 : decode b_P_setEntry 12 = .ok (.iload_n 3, 1) := by decide +kernel
theorem d_P_setEntry_13 : decode b_P_setEntry 13 = .ok (.iastore, 1) := by decide +kernel
theorem d_P_setEntry_14 : decode b_P_setEntry 14 = .ok (.aload_n 0, 1) := by decide +kernel
theorem d_P_setEntry_15 : decode b_P_setEntry 15 = .ok (.getfield 21, 3) := by decide +kernel
theorem d_P_setEntry_18 : decode b_P_setEntry 18 = .ok (.iload_n 1, 1) := by decide +kernel
theorem d_P_setEntry_19 : decode b_P_setEntry 19 = .ok (.iload 4, 2) := by decide +kernel
theorem d_P_setEntry_21 : decode b_P_setEntry 21 = .ok (.iastore, 1) := by decide +kernel
theorem d_P_setEntry_22 : decode b_P_setEntry 22 = .ok (.aload_n 0, 1) := by decide +kernel
theorem d_P_setEntry_23 : decode b_P_setEntry 23 = .ok (.getfield 18, 3) := by decide +kernel
theorem d_P_setEntry_26 : decode b_P_setEntry 26 = .ok (.iload_n 1, 1) := by decide +kernel
theorem d_P_setEntry_27 : decode b_P_setEntry 27 = .ok (.iload 5, 2) := by decide +kernel
theorem d_P_setEntry_29 : decode b_P_setEntry 29 = .ok (.iastore, 1) := by decide +kernel
theorem d_P_setEntry_30 : decode b_P_setEntry 30 = .ok (.aload_n 0, 1) := by decide +kernel
theorem d_P_setEntry_31 : decode b_P_setEntry 31 = .ok (.getfield 24, 3) := by decide +kernel
theorem d_P_setEntry_34 : decode b_P_setEntry 34 = .ok (.iload_n 1, 1) := by decide +kernel
theorem d_P_setEntry_35 : decode b_P_setEntry 35 = .ok (.iload 6, 2) := by decide +kernel
theorem d_P_setEntry_37 : decode b_P_setEntry 37 = .ok (.iastore, 1) := by decide +kernel
theorem d_P_setEntry_38 : decode b_P_setEntry 38 = .ok (.return_, 1) := by decide +kernel
theorem fl_P_15 : er_F "EntryRows$Persons" 15 1 1 := ⟨_, er_T1, 11, rfl, by decide, er_i1, rfl, Or.inl (er_mt (i := 34) (by decide +kernel) rfl)⟩
theorem fl_P_21 : er_F "EntryRows$Persons" 21 1 3 := ⟨_, er_T1, 11, rfl, by decide, er_i1, rfl, Or.inl (er_mt (i := 38) (by decide +kernel) rfl)⟩
theorem fl_P_18 : er_F "EntryRows$Persons" 18 1 2 := ⟨_, er_T1, 11, rfl, by decide, er_i1, rfl, Or.inl (er_mt (i := 36) (by decide +kernel) rfl)⟩
theorem fl_P_24 : er_F "EntryRows$Persons" 24 1 4 := ⟨_, er_T1, 11, rfl, by decide, er_i1, rfl, Or.inl (er_mt (i := 40) (by decide +kernel) rfl)⟩
abbrev y_E_enter : MethodName := ⟨"EntryRows", "enter", "(IIIIZ)I"⟩
abbrev b_E_enter : ByteArray := prog_1_method_9_code
abbrev w_E_enter : Cond := .code y_E_enter b_E_enter 8 (some .int)
theorem cal_E_enter : er_Cal y_E_enter w_E_enter 8 5 := ⟨er_mt (i := 385) (by decide +kernel) rfl, er_mt (i := 1) (by decide +kernel) rfl, ⟨by decide, by decide⟩, by decide +kernel, b_E_enter, (some .int), [], Or.inl rfl⟩
theorem in_E_enter : Cond.instanceMethod y_E_enter ∈ er_tbl := er_mt (i := 383) (by decide +kernel) rfl
theorem se_E_enter : Cond.selects "EntryRows" y_E_enter y_E_enter ∈ er_tbl := er_mt (i := 384) (by decide +kernel) rfl
theorem d_E_enter_0 : decode b_E_enter 0 = .ok (.aload_n 0, 1) := by decide +kernel
theorem d_E_enter_1 : decode b_E_enter 1 = .ok (.iload_n 1, 1) := by decide +kernel
theorem d_E_enter_2 : decode b_E_enter 2 = .ok (.invokevirtual 65, 3) := by decide +kernel
theorem d_E_enter_5 : decode b_E_enter 5 = .ok (.iload_n 2, 1) := by decide +kernel
theorem d_E_enter_6 : decode b_E_enter 6 = .ok (.invokestatic 102, 3) := by decide +kernel
theorem d_E_enter_9 : decode b_E_enter 9 = .ok (.iload_n 3, 1) := by decide +kernel
theorem d_E_enter_10 : decode b_E_enter 10 = .ok (.iconst 0, 1) := by decide +kernel
theorem d_E_enter_11 : decode b_E_enter 11 = .ok (.bipush 9, 2) := by decide +kernel
theorem d_E_enter_13 : decode b_E_enter 13 = .ok (.invokestatic 46, 3) := by decide +kernel
theorem d_E_enter_16 : decode b_E_enter 16 = .ok (.iload 4, 2) := by decide +kernel
theorem d_E_enter_18 : decode b_E_enter 18 = .ok (.iconst 0, 1) := by decide +kernel
theorem d_E_enter_19 : decode b_E_enter 19 = .ok (.iconst 5, 1) := by decide +kernel
theorem d_E_enter_20 : decode b_E_enter 20 = .ok (.invokestatic 46, 3) := by decide +kernel
theorem d_E_enter_23 : decode b_E_enter 23 = .ok (.aload_n 0, 1) := by decide +kernel
theorem d_E_enter_24 : decode b_E_enter 24 = .ok (.iload_n 1, 1) := by decide +kernel
theorem d_E_enter_25 : decode b_E_enter 25 = .ok (.invokevirtual 72, 3) := by decide +kernel
theorem d_E_enter_28 : decode b_E_enter 28 = .ok (.aload_n 0, 1) := by decide +kernel
theorem d_E_enter_29 : decode b_E_enter 29 = .ok (.getfield 19, 3) := by decide +kernel
theorem d_E_enter_32 : decode b_E_enter 32 = .ok (.getfield 88, 3) := by decide +kernel
theorem d_E_enter_35 : decode b_E_enter 35 = .ok (.iload_n 1, 1) := by decide +kernel
theorem d_E_enter_36 : decode b_E_enter 36 = .ok (.iaload, 1) := by decide +kernel
theorem d_E_enter_37 : decode b_E_enter 37 = .ok (.iconst (-1), 1) := by decide +kernel
theorem d_E_enter_38 : decode b_E_enter 38 = .ok (.if_icmp .eq 7, 3) := by decide +kernel
theorem d_E_enter_41 : decode b_E_enter 41 = .ok (.iconst 1, 1) := by decide +kernel
theorem d_E_enter_42 : decode b_E_enter 42 = .ok (.goto 4, 3) := by decide +kernel
theorem d_E_enter_45 : decode b_E_enter 45 = .ok (.iconst 0, 1) := by decide +kernel
theorem d_E_enter_46 : decode b_E_enter 46 = .ok (.invokestatic 81, 3) := by decide +kernel
theorem d_E_enter_49 : decode b_E_enter 49 = .ok (.aload_n 0, 1) := by decide +kernel
theorem d_E_enter_50 : decode b_E_enter 50 = .ok (.iload_n 2, 1) := by decide +kernel
theorem d_E_enter_51 : decode b_E_enter 51 = .ok (.iload_n 1, 1) := by decide +kernel
theorem d_E_enter_52 : decode b_E_enter 52 = .ok (.invokevirtual 118, 3) := by decide +kernel
theorem d_E_enter_55 : decode b_E_enter 55 = .ok (.invokestatic 81, 3) := by decide +kernel
theorem d_E_enter_58 : decode b_E_enter 58 = .ok (.aload_n 0, 1) := by decide +kernel
theorem d_E_enter_59 : decode b_E_enter 59 = .ok (.iload_n 1, 1) := by decide +kernel
theorem d_E_enter_60 : decode b_E_enter 60 = .ok (.iload_n 2, 1) := by decide +kernel
theorem d_E_enter_61 : decode b_E_enter 61 = .ok (.invokevirtual 122, 3) := by decide +kernel
theorem d_E_enter_64 : decode b_E_enter 64 = .ok (.ifCond .ne 16, 3) := by decide +kernel
theorem d_E_enter_67 : decode b_E_enter 67 = .ok (.iload 5, 2) := by decide +kernel
theorem d_E_enter_69 : decode b_E_enter 69 = .ok (.ifCond .eq 15, 3) := by decide +kernel
theorem d_E_enter_72 : decode b_E_enter 72 = .ok (.aload_n 0, 1) := by decide +kernel
theorem d_E_enter_73 : decode b_E_enter 73 = .ok (.iload_n 1, 1) := by decide +kernel
theorem d_E_enter_74 : decode b_E_enter 74 = .ok (.invokevirtual 125, 3) := by decide +kernel
theorem d_E_enter_77 : decode b_E_enter 77 = .ok (.ifCond .eq 7, 3) := by decide +kernel
theorem d_E_enter_80 : decode b_E_enter 80 = .ok (.iconst 1, 1) := by decide +kernel
theorem d_E_enter_81 : decode b_E_enter 81 = .ok (.goto 4, 3) := by decide +kernel
theorem d_E_enter_84 : decode b_E_enter 84 = .ok (.iconst 0, 1) := by decide +kernel
theorem d_E_enter_85 : decode b_E_enter 85 = .ok (.invokestatic 81, 3) := by decide +kernel
theorem d_E_enter_88 : decode b_E_enter 88 = .ok (.aload_n 0, 1) := by decide +kernel
theorem d_E_enter_89 : decode b_E_enter 89 = .ok (.getfield 34, 3) := by decide +kernel
theorem d_E_enter_92 : decode b_E_enter 92 = .ok (.istore 6, 2) := by decide +kernel
theorem d_E_enter_94 : decode b_E_enter 94 = .ok (.iconst 0, 1) := by decide +kernel
theorem d_E_enter_95 : decode b_E_enter 95 = .ok (.istore 7, 2) := by decide +kernel
theorem d_E_enter_97 : decode b_E_enter 97 = .ok (.iload 7, 2) := by decide +kernel
theorem d_E_enter_99 : decode b_E_enter 99 = .ok (.bipush 40, 2) := by decide +kernel
theorem d_E_enter_101 : decode b_E_enter 101 = .ok (.if_icmp .ge 54, 3) := by decide +kernel
theorem d_E_enter_104 : decode b_E_enter 104 = .ok (.aload_n 0, 1) := by decide +kernel
theorem d_E_enter_105 : decode b_E_enter 105 = .ok (.getfield 10, 3) := by decide +kernel
theorem d_E_enter_108 : decode b_E_enter 108 = .ok (.getfield 105, 3) := by decide +kernel
theorem d_E_enter_111 : decode b_E_enter 111 = .ok (.iload 7, 2) := by decide +kernel
theorem d_E_enter_113 : decode b_E_enter 113 = .ok (.iaload, 1) := by decide +kernel
theorem d_E_enter_114 : decode b_E_enter 114 = .ok (.iload_n 2, 1) := by decide +kernel
theorem d_E_enter_115 : decode b_E_enter 115 = .ok (.if_icmp .ne 34, 3) := by decide +kernel
theorem d_E_enter_118 : decode b_E_enter 118 = .ok (.aload_n 0, 1) := by decide +kernel
theorem d_E_enter_119 : decode b_E_enter 119 = .ok (.getfield 10, 3) := by decide +kernel
theorem d_E_enter_122 : decode b_E_enter 122 = .ok (.iload 7, 2) := by decide +kernel
theorem d_E_enter_124 : decode b_E_enter 124 = .ok (.iload_n 1, 1) := by decide +kernel
theorem d_E_enter_125 : decode b_E_enter 125 = .ok (.aload_n 0, 1) := by decide +kernel
theorem d_E_enter_126 : decode b_E_enter 126 = .ok (.getfield 34, 3) := by decide +kernel
theorem d_E_enter_129 : decode b_E_enter 129 = .ok (.iload_n 3, 1) := by decide +kernel
theorem d_E_enter_130 : decode b_E_enter 130 = .ok (.iload 4, 2) := by decide +kernel
theorem d_E_enter_132 : decode b_E_enter 132 = .ok (.aload_n 0, 1) := by decide +kernel
theorem d_E_enter_133 : decode b_E_enter 133 = .ok (.getfield 30, 3) := by decide +kernel
theorem d_E_enter_136 : decode b_E_enter 136 = .ok (.invokevirtual 128, 3) := by decide +kernel
theorem d_E_enter_139 : decode b_E_enter 139 = .ok (.aload_n 0, 1) := by decide +kernel
theorem d_E_enter_140 : decode b_E_enter 140 = .ok (.dup, 1) := by decide +kernel
theorem d_E_enter_141 : decode b_E_enter 141 = .ok (.getfield 34, 3) := by decide +kernel
theorem d_E_enter_144 : decode b_E_enter 144 = .ok (.iconst 1, 1) := by decide +kernel
theorem d_E_enter_145 : decode b_E_enter 145 = .ok (.iadd, 1) := by decide +kernel
theorem d_E_enter_146 : decode b_E_enter 146 = .ok (.putfield 34, 3) := by decide +kernel
theorem d_E_enter_149 : decode b_E_enter 149 = .ok (.iinc 7 1, 3) := by decide +kernel
theorem d_E_enter_152 : decode b_E_enter 152 = .ok (.goto (-55), 3) := by decide +kernel
theorem d_E_enter_155 : decode b_E_enter 155 = .ok (.iload 6, 2) := by decide +kernel
theorem d_E_enter_157 : decode b_E_enter 157 = .ok (.ireturn, 1) := by decide +kernel
theorem lk_E_122 : Cond.methodLink "EntryRows" 122 y_E_isCovered ∈ er_tbl ∨ ∃ host, Cond.methodLinkNest "EntryRows" 122 y_E_isCovered host ∈ er_tbl := Or.inl (er_mt (i := 386) (by decide +kernel) rfl)
theorem lk_E_125 : Cond.methodLink "EntryRows" 125 y_E_keeperMayLetRescue ∈ er_tbl ∨ ∃ host, Cond.methodLinkNest "EntryRows" 125 y_E_keeperMayLetRescue host ∈ er_tbl := Or.inl (er_mt (i := 390) (by decide +kernel) rfl)
theorem fl_E_34 : er_F "EntryRows" 34 0 5 := ⟨_, er_T0, 7, rfl, by decide, er_i0, rfl, Or.inl (er_mt (i := 116) (by decide +kernel) rfl)⟩
theorem lk_E_128 : Cond.methodLink "EntryRows" 128 y_P_setEntry ∈ er_tbl ∨ ∃ host, Cond.methodLinkNest "EntryRows" 128 y_P_setEntry host ∈ er_tbl := Or.inr ⟨"EntryRows", er_mt (i := 394) (by decide +kernel) rfl⟩
theorem fp_E_34 : er_Fp "EntryRows" 34 0 5 := ⟨_, er_T0, 7, er_ty0, rfl, by decide, er_i0, rfl, er_mt (i := 116) (by decide +kernel) rfl, rfl, by decide +kernel, er_tyok0, er_nm0⟩
abbrev y_P_comeOut : MethodName := ⟨"EntryRows$Persons", "comeOut", "(IIII)I"⟩
abbrev b_P_comeOut : ByteArray := prog_3_method_7_code
abbrev w_P_comeOut : Cond := .code y_P_comeOut b_P_comeOut 6 (some .int)
theorem cal_P_comeOut : er_Cal y_P_comeOut w_P_comeOut 6 4 := ⟨er_mt (i := 408) (by decide +kernel) rfl, er_mt (i := 2) (by decide +kernel) rfl, ⟨by decide, by decide⟩, by decide +kernel, b_P_comeOut, (some .int), [], Or.inl rfl⟩
theorem in_P_comeOut : Cond.instanceMethod y_P_comeOut ∈ er_tbl := er_mt (i := 407) (by decide +kernel) rfl
theorem se_P_comeOut : Cond.selects "EntryRows$Persons" y_P_comeOut y_P_comeOut ∈ er_tbl := er_ms (i := 17) (by decide +kernel) rfl
theorem d_P_comeOut_0 : decode b_P_comeOut 0 = .ok (.iload_n 2, 1) := by decide +kernel
theorem d_P_comeOut_1 : decode b_P_comeOut 1 = .ok (.aload_n 0, 1) := by decide +kernel
theorem d_P_comeOut_2 : decode b_P_comeOut 2 = .ok (.getfield 24, 3) := by decide +kernel
theorem d_P_comeOut_5 : decode b_P_comeOut 5 = .ok (.iload_n 1, 1) := by decide +kernel
theorem d_P_comeOut_6 : decode b_P_comeOut 6 = .ok (.iaload, 1) := by decide +kernel
theorem d_P_comeOut_7 : decode b_P_comeOut 7 = .ok (.isub, 1) := by decide +kernel
theorem d_P_comeOut_8 : decode b_P_comeOut 8 = .ok (.istore 5, 2) := by decide +kernel
theorem d_P_comeOut_10 : decode b_P_comeOut 10 = .ok (.aload_n 0, 1) := by decide +kernel
theorem d_P_comeOut_11 : decode b_P_comeOut 11 = .ok (.getfield 30, 3) := by decide +kernel
theorem d_P_comeOut_14 : decode b_P_comeOut 14 = .ok (.iload_n 1, 1) := by decide +kernel
theorem d_P_comeOut_15 : decode b_P_comeOut 15 = .ok (.dup2, 1) := by decide +kernel
theorem d_P_comeOut_16 : decode b_P_comeOut 16 = .ok (.iaload, 1) := by decide +kernel
theorem d_P_comeOut_17 : decode b_P_comeOut 17 = .ok (.iload 5, 2) := by decide +kernel
theorem d_P_comeOut_19 : decode b_P_comeOut 19 = .ok (.iadd, 1) := by decide +kernel
theorem d_P_comeOut_20 : decode b_P_comeOut 20 = .ok (.iastore, 1) := by decide +kernel
theorem d_P_comeOut_21 : decode b_P_comeOut 21 = .ok (.aload_n 0, 1) := by decide +kernel
theorem d_P_comeOut_22 : decode b_P_comeOut 22 = .ok (.getfield 33, 3) := by decide +kernel
theorem d_P_comeOut_25 : decode b_P_comeOut 25 = .ok (.iload_n 1, 1) := by decide +kernel
theorem d_P_comeOut_26 : decode b_P_comeOut 26 = .ok (.dup2, 1) := by decide +kernel
theorem d_P_comeOut_27 : decode b_P_comeOut 27 = .ok (.iaload, 1) := by decide +kernel
theorem d_P_comeOut_28 : decode b_P_comeOut 28 = .ok (.iload 5, 2) := by decide +kernel
theorem d_P_comeOut_30 : decode b_P_comeOut 30 = .ok (.iload_n 3, 1) := by decide +kernel
theorem d_P_comeOut_31 : decode b_P_comeOut 31 = .ok (.imul, 1) := by decide +kernel
theorem d_P_comeOut_32 : decode b_P_comeOut 32 = .ok (.iadd, 1) := by decide +kernel
theorem d_P_comeOut_33 : decode b_P_comeOut 33 = .ok (.iastore, 1) := by decide +kernel
theorem d_P_comeOut_34 : decode b_P_comeOut 34 = .ok (.aload_n 0, 1) := by decide +kernel
theorem d_P_comeOut_35 : decode b_P_comeOut 35 = .ok (.getfield 27, 3) := by decide +kernel
theorem d_P_comeOut_38 : decode b_P_comeOut 38 = .ok (.iload_n 1, 1) := by decide +kernel
theorem d_P_comeOut_39 : decode b_P_comeOut 39 = .ok (.iload_n 2, 1) := by decide +kernel
theorem d_P_comeOut_40 : decode b_P_comeOut 40 = .ok (.iload 4, 2) := by decide +kernel
theorem d_P_comeOut_42 : decode b_P_comeOut 42 = .ok (.iadd, 1) := by decide +kernel
theorem d_P_comeOut_43 : decode b_P_comeOut 43 = .ok (.iastore, 1) := by decide +kernel
theorem d_P_comeOut_44 : decode b_P_comeOut 44 = .ok (.aload_n 0, 1) := by decide +kernel
theorem d_P_comeOut_45 : decode b_P_comeOut 45 = .ok (.iload_n 1, 1) := by decide +kernel
theorem d_P_comeOut_46 : decode b_P_comeOut 46 = .ok (.iconst (-1), 1) := by decide +kernel
theorem d_P_comeOut_47 : decode b_P_comeOut 47 = .ok (.iconst (-1), 1) := by decide +kernel
theorem d_P_comeOut_48 : decode b_P_comeOut 48 = .ok (.iconst (-1), 1) := by decide +kernel
theorem d_P_comeOut_49 : decode b_P_comeOut 49 = .ok (.iconst (-1), 1) := by decide +kernel
theorem d_P_comeOut_50 : decode b_P_comeOut 50 = .ok (.iconst (-1), 1) := by decide +kernel
theorem d_P_comeOut_51 : decode b_P_comeOut 51 = .ok (.invokevirtual 64, 3) := by decide +kernel
theorem d_P_comeOut_54 : decode b_P_comeOut 54 = .ok (.iload 5, 2) := by decide +kernel
theorem d_P_comeOut_56 : decode b_P_comeOut 56 = .ok (.ireturn, 1) := by decide +kernel
theorem fl_P_30 : er_F "EntryRows$Persons" 30 1 6 := ⟨_, er_T1, 11, rfl, by decide, er_i1, rfl, Or.inl (er_mt (i := 44) (by decide +kernel) rfl)⟩
theorem fl_P_33 : er_F "EntryRows$Persons" 33 1 7 := ⟨_, er_T1, 11, rfl, by decide, er_i1, rfl, Or.inl (er_mt (i := 46) (by decide +kernel) rfl)⟩
theorem lk_P_64 : Cond.methodLink "EntryRows$Persons" 64 y_P_setEntry ∈ er_tbl ∨ ∃ host, Cond.methodLinkNest "EntryRows$Persons" 64 y_P_setEntry host ∈ er_tbl := Or.inl (er_mt (i := 409) (by decide +kernel) rfl)
abbrev y_E_out : MethodName := ⟨"EntryRows", "out", "(II)I"⟩
abbrev b_E_out : ByteArray := prog_1_method_10_code
abbrev w_E_out : Cond := .code y_E_out b_E_out 5 (some .int)
theorem cal_E_out : er_Cal y_E_out w_E_out 5 2 := ⟨er_mt (i := 404) (by decide +kernel) rfl, er_mt (i := 1) (by decide +kernel) rfl, ⟨by decide, by decide⟩, by decide +kernel, b_E_out, (some .int), [], Or.inl rfl⟩
theorem in_E_out : Cond.instanceMethod y_E_out ∈ er_tbl := er_mt (i := 402) (by decide +kernel) rfl
theorem se_E_out : Cond.selects "EntryRows" y_E_out y_E_out ∈ er_tbl := er_mt (i := 403) (by decide +kernel) rfl
theorem d_E_out_0 : decode b_E_out 0 = .ok (.aload_n 0, 1) := by decide +kernel
theorem d_E_out_1 : decode b_E_out 1 = .ok (.iload_n 1, 1) := by decide +kernel
theorem d_E_out_2 : decode b_E_out 2 = .ok (.invokevirtual 65, 3) := by decide +kernel
theorem d_E_out_5 : decode b_E_out 5 = .ok (.iload_n 2, 1) := by decide +kernel
theorem d_E_out_6 : decode b_E_out 6 = .ok (.invokestatic 69, 3) := by decide +kernel
theorem d_E_out_9 : decode b_E_out 9 = .ok (.aload_n 0, 1) := by decide +kernel
theorem d_E_out_10 : decode b_E_out 10 = .ok (.getfield 10, 3) := by decide +kernel
theorem d_E_out_13 : decode b_E_out 13 = .ok (.getfield 132, 3) := by decide +kernel
theorem d_E_out_16 : decode b_E_out 16 = .ok (.iload_n 2, 1) := by decide +kernel
theorem d_E_out_17 : decode b_E_out 17 = .ok (.iaload, 1) := by decide +kernel
theorem d_E_out_18 : decode b_E_out 18 = .ok (.iload_n 1, 1) := by decide +kernel
theorem d_E_out_19 : decode b_E_out 19 = .ok (.if_icmp .ne 7, 3) := by decide +kernel
theorem d_E_out_22 : decode b_E_out 22 = .ok (.iconst 1, 1) := by decide +kernel
theorem d_E_out_23 : decode b_E_out 23 = .ok (.goto 4, 3) := by decide +kernel
theorem d_E_out_26 : decode b_E_out 26 = .ok (.iconst 0, 1) := by decide +kernel
theorem d_E_out_27 : decode b_E_out 27 = .ok (.invokestatic 81, 3) := by decide +kernel
theorem d_E_out_30 : decode b_E_out 30 = .ok (.aload_n 0, 1) := by decide +kernel
theorem d_E_out_31 : decode b_E_out 31 = .ok (.getfield 10, 3) := by decide +kernel
theorem d_E_out_34 : decode b_E_out 34 = .ok (.getfield 135, 3) := by decide +kernel
theorem d_E_out_37 : decode b_E_out 37 = .ok (.iload_n 2, 1) := by decide +kernel
theorem d_E_out_38 : decode b_E_out 38 = .ok (.iaload, 1) := by decide +kernel
theorem d_E_out_39 : decode b_E_out 39 = .ok (.istore_n 3, 1) := by decide +kernel
theorem d_E_out_40 : decode b_E_out 40 = .ok (.iload_n 3, 1) := by decide +kernel
theorem d_E_out_41 : decode b_E_out 41 = .ok (.invokestatic 95, 3) := by decide +kernel
theorem d_E_out_44 : decode b_E_out 44 = .ok (.ifCond .eq 12, 3) := by decide +kernel
theorem d_E_out_47 : decode b_E_out 47 = .ok (.aload_n 0, 1) := by decide +kernel
theorem d_E_out_48 : decode b_E_out 48 = .ok (.getfield 27, 3) := by decide +kernel
theorem d_E_out_51 : decode b_E_out 51 = .ok (.iload_n 3, 1) := by decide +kernel
theorem d_E_out_52 : decode b_E_out 52 = .ok (.iaload, 1) := by decide +kernel
theorem d_E_out_53 : decode b_E_out 53 = .ok (.goto 4, 3) := by decide +kernel
theorem d_E_out_56 : decode b_E_out 56 = .ok (.iconst 0, 1) := by decide +kernel
theorem d_E_out_57 : decode b_E_out 57 = .ok (.istore 4, 2) := by decide +kernel
theorem d_E_out_59 : decode b_E_out 59 = .ok (.aload_n 0, 1) := by decide +kernel
theorem d_E_out_60 : decode b_E_out 60 = .ok (.getfield 10, 3) := by decide +kernel
theorem d_E_out_63 : decode b_E_out 63 = .ok (.iload_n 2, 1) := by decide +kernel
theorem d_E_out_64 : decode b_E_out 64 = .ok (.aload_n 0, 1) := by decide +kernel
theorem d_E_out_65 : decode b_E_out 65 = .ok (.getfield 30, 3) := by decide +kernel
theorem d_E_out_68 : decode b_E_out 68 = .ok (.iload 4, 2) := by decide +kernel
theorem d_E_out_70 : decode b_E_out 70 = .ok (.aload_n 0, 1) := by decide +kernel
theorem d_E_out_71 : decode b_E_out 71 = .ok (.getfield 37, 3) := by decide +kernel
theorem d_E_out_74 : decode b_E_out 74 = .ok (.invokevirtual 138, 3) := by decide +kernel
theorem d_E_out_77 : decode b_E_out 77 = .ok (.ireturn, 1) := by decide +kernel
theorem fl_E_132 : er_F "EntryRows" 132 1 0 := ⟨_, er_T1, 11, rfl, by decide, er_i1, rfl, Or.inr ⟨"EntryRows", er_mt (i := 33) (by decide +kernel) rfl⟩⟩
theorem fl_E_135 : er_F "EntryRows" 135 1 2 := ⟨_, er_T1, 11, rfl, by decide, er_i1, rfl, Or.inr ⟨"EntryRows", er_mt (i := 37) (by decide +kernel) rfl⟩⟩
theorem fl_E_37 : er_F "EntryRows" 37 0 6 := ⟨_, er_T0, 7, rfl, by decide, er_i0, rfl, Or.inl (er_mt (i := 117) (by decide +kernel) rfl)⟩
theorem lk_E_138 : Cond.methodLink "EntryRows" 138 y_P_comeOut ∈ er_tbl ∨ ∃ host, Cond.methodLinkNest "EntryRows" 138 y_P_comeOut host ∈ er_tbl := Or.inr ⟨"EntryRows", er_mt (i := 405) (by decide +kernel) rfl⟩
abbrev y_E_swap : MethodName := ⟨"EntryRows", "swap", "(II)V"⟩
abbrev b_E_swap : ByteArray := prog_1_method_11_code
abbrev w_E_swap : Cond := .code y_E_swap b_E_swap 4 none
theorem cal_E_swap : er_Cal y_E_swap w_E_swap 4 2 := ⟨er_mt (i := 416) (by decide +kernel) rfl, er_mt (i := 1) (by decide +kernel) rfl, ⟨by decide, by decide⟩, by decide +kernel, b_E_swap, none, [], Or.inl rfl⟩
theorem in_E_swap : Cond.instanceMethod y_E_swap ∈ er_tbl := er_mt (i := 414) (by decide +kernel) rfl
theorem se_E_swap : Cond.selects "EntryRows" y_E_swap y_E_swap ∈ er_tbl := er_mt (i := 415) (by decide +kernel) rfl
theorem d_E_swap_0 : decode b_E_swap 0 = .ok (.iload_n 1, 1) := by decide +kernel
theorem d_E_swap_1 : decode b_E_swap 1 = .ok (.invokestatic 69, 3) := by decide +kernel
theorem d_E_swap_4 : decode b_E_swap 4 = .ok (.iload_n 2, 1) := by decide +kernel
theorem d_E_swap_5 : decode b_E_swap 5 = .ok (.invokestatic 69, 3) := by decide +kernel
theorem d_E_swap_8 : decode b_E_swap 8 = .ok (.aload_n 0, 1) := by decide +kernel
theorem d_E_swap_9 : decode b_E_swap 9 = .ok (.getfield 10, 3) := by decide +kernel
theorem d_E_swap_12 : decode b_E_swap 12 = .ok (.iload_n 1, 1) := by decide +kernel
theorem d_E_swap_13 : decode b_E_swap 13 = .ok (.invokevirtual 142, 3) := by decide +kernel
theorem d_E_swap_16 : decode b_E_swap 16 = .ok (.ifCond .eq 18, 3) := by decide +kernel
theorem d_E_swap_19 : decode b_E_swap 19 = .ok (.aload_n 0, 1) := by decide +kernel
theorem d_E_swap_20 : decode b_E_swap 20 = .ok (.getfield 10, 3) := by decide +kernel
theorem d_E_swap_23 : decode b_E_swap 23 = .ok (.iload_n 2, 1) := by decide +kernel
theorem d_E_swap_24 : decode b_E_swap 24 = .ok (.invokevirtual 142, 3) := by decide +kernel
theorem d_E_swap_27 : decode b_E_swap 27 = .ok (.ifCond .eq 7, 3) := by decide +kernel
theorem d_E_swap_30 : decode b_E_swap 30 = .ok (.iconst 1, 1) := by decide +kernel
theorem d_E_swap_31 : decode b_E_swap 31 = .ok (.goto 4, 3) := by decide +kernel
theorem d_E_swap_34 : decode b_E_swap 34 = .ok (.iconst 0, 1) := by decide +kernel
theorem d_E_swap_35 : decode b_E_swap 35 = .ok (.invokestatic 81, 3) := by decide +kernel
theorem d_E_swap_38 : decode b_E_swap 38 = .ok (.iload_n 1, 1) := by decide +kernel
theorem d_E_swap_39 : decode b_E_swap 39 = .ok (.iload_n 2, 1) := by decide +kernel
theorem d_E_swap_40 : decode b_E_swap 40 = .ok (.if_icmp .eq 7, 3) := by decide +kernel
theorem d_E_swap_43 : decode b_E_swap 43 = .ok (.iconst 1, 1) := by decide +kernel
theorem d_E_swap_44 : decode b_E_swap 44 = .ok (.goto 4, 3) := by decide +kernel
theorem d_E_swap_47 : decode b_E_swap 47 = .ok (.iconst 0, 1) := by decide +kernel
theorem d_E_swap_48 : decode b_E_swap 48 = .ok (.invokestatic 81, 3) := by decide +kernel
theorem d_E_swap_51 : decode b_E_swap 51 = .ok (.aload_n 0, 1) := by decide +kernel
theorem d_E_swap_52 : decode b_E_swap 52 = .ok (.getfield 10, 3) := by decide +kernel
theorem d_E_swap_55 : decode b_E_swap 55 = .ok (.getfield 145, 3) := by decide +kernel
theorem d_E_swap_58 : decode b_E_swap 58 = .ok (.iload_n 1, 1) := by decide +kernel
theorem d_E_swap_59 : decode b_E_swap 59 = .ok (.iaload, 1) := by decide +kernel
theorem d_E_swap_60 : decode b_E_swap 60 = .ok (.istore_n 3, 1) := by decide +kernel
theorem d_E_swap_61 : decode b_E_swap 61 = .ok (.aload_n 0, 1) := by decide +kernel
theorem d_E_swap_62 : decode b_E_swap 62 = .ok (.getfield 10, 3) := by decide +kernel
theorem d_E_swap_65 : decode b_E_swap 65 = .ok (.getfield 145, 3) := by decide +kernel
theorem d_E_swap_68 : decode b_E_swap 68 = .ok (.iload_n 1, 1) := by decide +kernel
theorem d_E_swap_69 : decode b_E_swap 69 = .ok (.aload_n 0, 1) := by decide +kernel
theorem d_E_swap_70 : decode b_E_swap 70 = .ok (.getfield 10, 3) := by decide +kernel
theorem d_E_swap_73 : decode b_E_swap 73 = .ok (.getfield 145, 3) := by decide +kernel
theorem d_E_swap_76 : decode b_E_swap 76 = .ok (.iload_n 2, 1) := by decide +kernel
theorem d_E_swap_77 : decode b_E_swap 77 = .ok (.iaload, 1) := by decide +kernel
theorem d_E_swap_78 : decode b_E_swap 78 = .ok (.iastore, 1) := by decide +kernel
theorem d_E_swap_79 : decode b_E_swap 79 = .ok (.aload_n 0, 1) := by decide +kernel
theorem d_E_swap_80 : decode b_E_swap 80 = .ok (.getfield 10, 3) := by decide +kernel
theorem d_E_swap_83 : decode b_E_swap 83 = .ok (.getfield 145, 3) := by decide +kernel
theorem d_E_swap_86 : decode b_E_swap 86 = .ok (.iload_n 2, 1) := by decide +kernel
theorem d_E_swap_87 : decode b_E_swap 87 = .ok (.iload_n 3, 1) := by decide +kernel
theorem d_E_swap_88 : decode b_E_swap 88 = .ok (.iastore, 1) := by decide +kernel
theorem d_E_swap_89 : decode b_E_swap 89 = .ok (.return_, 1) := by decide +kernel
theorem fl_E_145 : er_F "EntryRows" 145 1 1 := ⟨_, er_T1, 11, rfl, by decide, er_i1, rfl, Or.inr ⟨"EntryRows", er_mt (i := 35) (by decide +kernel) rfl⟩⟩
abbrev y_P_moveAll : MethodName := ⟨"EntryRows$Persons", "moveAll", "(II)V"⟩
abbrev b_P_moveAll : ByteArray := prog_3_method_10_code
abbrev w_P_moveAll : Cond := .code y_P_moveAll b_P_moveAll 4 none
theorem cal_P_moveAll : er_Cal y_P_moveAll w_P_moveAll 4 2 := ⟨er_mt (i := 427) (by decide +kernel) rfl, er_mt (i := 2) (by decide +kernel) rfl, ⟨by decide, by decide⟩, by decide +kernel, b_P_moveAll, none, [], Or.inl rfl⟩
theorem in_P_moveAll : Cond.instanceMethod y_P_moveAll ∈ er_tbl := er_mt (i := 426) (by decide +kernel) rfl
theorem se_P_moveAll : Cond.selects "EntryRows$Persons" y_P_moveAll y_P_moveAll ∈ er_tbl := er_ms (i := 18) (by decide +kernel) rfl
theorem d_P_moveAll_0 : decode b_P_moveAll 0 = .ok (.iconst 0, 1) := by decide +kernel
theorem d_P_moveAll_1 : decode b_P_moveAll 1 = .ok (.istore_n 3, 1) := by decide +kernel
theorem d_P_moveAll_2 : decode b_P_moveAll 2 = .ok (.iload_n 3, 1) := by decide +kernel
theorem d_P_moveAll_3 : decode b_P_moveAll 3 = .ok (.bipush 40, 2) := by decide +kernel
theorem d_P_moveAll_5 : decode b_P_moveAll 5 = .ok (.if_icmp .ge 26, 3) := by decide +kernel
theorem d_P_moveAll_8 : decode b_P_moveAll 8 = .ok (.aload_n 0, 1) := by decide +kernel
theorem d_P_moveAll_9 : decode b_P_moveAll 9 = .ok (.getfield 9, 3) := by decide +kernel
theorem d_P_moveAll_12 : decode b_P_moveAll 12 = .ok (.iload_n 3, 1) := by decide +kernel
theorem d_P_moveAll_13 : decode b_P_moveAll 13 = .ok (.iaload, 1) := by decide +kernel
theorem d_P_moveAll_14 : decode b_P_moveAll 14 = .ok (.iload_n 1, 1) := by decide +kernel
theorem d_P_moveAll_15 : decode b_P_moveAll 15 = .ok (.if_icmp .ne 10, 3) := by decide +kernel
theorem d_P_moveAll_18 : decode b_P_moveAll 18 = .ok (.aload_n 0, 1) := by decide +kernel
theorem d_P_moveAll_19 : decode b_P_moveAll 19 = .ok (.getfield 9, 3) := by decide +kernel
theorem d_P_moveAll_22 : decode b_P_moveAll 22 = .ok (.iload_n 3, 1) := by decide +kernel
theorem d_P_moveAll_23 : decode b_P_moveAll 23 = .ok (.iload_n 2, 1) := by decide +kernel
theorem d_P_moveAll_24 : decode b_P_moveAll 24 = .ok (.iastore, 1) := by decide +kernel
theorem d_P_moveAll_25 : decode b_P_moveAll 25 = .ok (.iinc 3 1, 3) := by decide +kernel
theorem d_P_moveAll_28 : decode b_P_moveAll 28 = .ok (.goto (-26), 3) := by decide +kernel
theorem d_P_moveAll_31 : decode b_P_moveAll 31 = .ok (.return_, 1) := by decide +kernel
abbrev y_E_shut : MethodName := ⟨"EntryRows", "shut", "(II)V"⟩
abbrev b_E_shut : ByteArray := prog_1_method_36_code
abbrev w_E_shut : Cond := .code y_E_shut b_E_shut 4 none
theorem cal_E_shut : er_Cal y_E_shut w_E_shut 4 2 := ⟨er_mt (i := 431) (by decide +kernel) rfl, er_mt (i := 1) (by decide +kernel) rfl, ⟨by decide, by decide⟩, by decide +kernel, b_E_shut, none, [], Or.inl rfl⟩
theorem in_E_shut : Cond.instanceMethod y_E_shut ∈ er_tbl := er_mt (i := 430) (by decide +kernel) rfl
theorem se_E_shut : Cond.selects "EntryRows" y_E_shut y_E_shut ∈ er_tbl := er_ms (i := 19) (by decide +kernel) rfl
theorem d_E_shut_0 : decode b_E_shut 0 = .ok (.aload_n 0, 1) := by decide +kernel
theorem d_E_shut_1 : decode b_E_shut 1 = .ok (.iload_n 1, 1) := by decide +kernel
theorem d_E_shut_2 : decode b_E_shut 2 = .ok (.invokevirtual 85, 3) := by decide +kernel
theorem d_E_shut_5 : decode b_E_shut 5 = .ok (.aload_n 0, 1) := by decide +kernel
theorem d_E_shut_6 : decode b_E_shut 6 = .ok (.getfield 19, 3) := by decide +kernel
theorem d_E_shut_9 : decode b_E_shut 9 = .ok (.getfield 196, 3) := by decide +kernel
theorem d_E_shut_12 : decode b_E_shut 12 = .ok (.iload_n 1, 1) := by decide +kernel
theorem d_E_shut_13 : decode b_E_shut 13 = .ok (.iconst 0, 1) := by decide +kernel
theorem d_E_shut_14 : decode b_E_shut 14 = .ok (.bastore, 1) := by decide +kernel
theorem d_E_shut_15 : decode b_E_shut 15 = .ok (.iconst 0, 1) := by decide +kernel
theorem d_E_shut_16 : decode b_E_shut 16 = .ok (.istore_n 3, 1) := by decide +kernel
theorem d_E_shut_17 : decode b_E_shut 17 = .ok (.iload_n 3, 1) := by decide +kernel
theorem d_E_shut_18 : decode b_E_shut 18 = .ok (.bipush 16, 2) := by decide +kernel
theorem d_E_shut_20 : decode b_E_shut 20 = .ok (.if_icmp .ge 26, 3) := by decide +kernel
theorem d_E_shut_23 : decode b_E_shut 23 = .ok (.aload_n 0, 1) := by decide +kernel
theorem d_E_shut_24 : decode b_E_shut 24 = .ok (.getfield 23, 3) := by decide +kernel
theorem d_E_shut_27 : decode b_E_shut 27 = .ok (.iload_n 3, 1) := by decide +kernel
theorem d_E_shut_28 : decode b_E_shut 28 = .ok (.iaload, 1) := by decide +kernel
theorem d_E_shut_29 : decode b_E_shut 29 = .ok (.iload_n 1, 1) := by decide +kernel
theorem d_E_shut_30 : decode b_E_shut 30 = .ok (.if_icmp .ne 10, 3) := by decide +kernel
theorem d_E_shut_33 : decode b_E_shut 33 = .ok (.aload_n 0, 1) := by decide +kernel
theorem d_E_shut_34 : decode b_E_shut 34 = .ok (.getfield 23, 3) := by decide +kernel
theorem d_E_shut_37 : decode b_E_shut 37 = .ok (.iload_n 3, 1) := by decide +kernel
theorem d_E_shut_38 : decode b_E_shut 38 = .ok (.iload_n 2, 1) := by decide +kernel
theorem d_E_shut_39 : decode b_E_shut 39 = .ok (.iastore, 1) := by decide +kernel
theorem d_E_shut_40 : decode b_E_shut 40 = .ok (.iinc 3 1, 3) := by decide +kernel
theorem d_E_shut_43 : decode b_E_shut 43 = .ok (.goto (-26), 3) := by decide +kernel
theorem d_E_shut_46 : decode b_E_shut 46 = .ok (.return_, 1) := by decide +kernel
abbrev y_P_countOn : MethodName := ⟨"EntryRows$Persons", "countOn", "(I)I"⟩
abbrev b_P_countOn : ByteArray := prog_3_method_8_code
abbrev w_P_countOn : Cond := .code y_P_countOn b_P_countOn 4 (some .int)
theorem cal_P_countOn : er_Cal y_P_countOn w_P_countOn 4 1 := ⟨er_mt (i := 435) (by decide +kernel) rfl, er_mt (i := 2) (by decide +kernel) rfl, ⟨by decide, by decide⟩, by decide +kernel, b_P_countOn, (some .int), [], Or.inl rfl⟩
theorem in_P_countOn : Cond.instanceMethod y_P_countOn ∈ er_tbl := er_mt (i := 434) (by decide +kernel) rfl
theorem se_P_countOn : Cond.selects "EntryRows$Persons" y_P_countOn y_P_countOn ∈ er_tbl := er_ms (i := 20) (by decide +kernel) rfl
theorem d_P_countOn_0 : decode b_P_countOn 0 = .ok (.iconst 0, 1) := by decide +kernel
theorem d_P_countOn_1 : decode b_P_countOn 1 = .ok (.istore_n 2, 1) := by decide +kernel
theorem d_P_countOn_2 : decode b_P_countOn 2 = .ok (.iconst 0, 1) := by decide +kernel
theorem d_P_countOn_3 : decode b_P_countOn 3 = .ok (.istore_n 3, 1) := by decide +kernel
theorem d_P_countOn_4 : decode b_P_countOn 4 = .ok (.iload_n 3, 1) := by decide +kernel
theorem d_P_countOn_5 : decode b_P_countOn 5 = .ok (.bipush 40, 2) := by decide +kernel
theorem d_P_countOn_7 : decode b_P_countOn 7 = .ok (.if_icmp .ge 22, 3) := by decide +kernel
theorem d_P_countOn_10 : decode b_P_countOn 10 = .ok (.aload_n 0, 1) := by decide +kernel
theorem d_P_countOn_11 : decode b_P_countOn 11 = .ok (.getfield 9, 3) := by decide +kernel
theorem d_P_countOn_14 : decode b_P_countOn 14 = .ok (.iload_n 3, 1) := by decide +kernel
theorem d_P_countOn_15 : decode b_P_countOn 15 = .ok (.iaload, 1) := by decide +kernel
theorem d_P_countOn_16 : decode b_P_countOn 16 = .ok (.iload_n 1, 1) := by decide +kernel
theorem d_P_countOn_17 : decode b_P_countOn 17 = .ok (.if_icmp .ne 6, 3) := by decide +kernel
theorem d_P_countOn_20 : decode b_P_countOn 20 = .ok (.iinc 2 1, 3) := by decide +kernel
theorem d_P_countOn_23 : decode b_P_countOn 23 = .ok (.iinc 3 1, 3) := by decide +kernel
theorem d_P_countOn_26 : decode b_P_countOn 26 = .ok (.goto (-22), 3) := by decide +kernel
theorem d_P_countOn_29 : decode b_P_countOn 29 = .ok (.iload_n 2, 1) := by decide +kernel
theorem d_P_countOn_30 : decode b_P_countOn 30 = .ok (.ireturn, 1) := by decide +kernel
abbrev y_E_join : MethodName := ⟨"EntryRows", "join", "(II)I"⟩
abbrev b_E_join : ByteArray := prog_1_method_12_code
abbrev w_E_join : Cond := .code y_E_join b_E_join 3 (some .int)
theorem cal_E_join : er_Cal y_E_join w_E_join 3 2 := ⟨er_mt (i := 423) (by decide +kernel) rfl, er_mt (i := 1) (by decide +kernel) rfl, ⟨by decide, by decide⟩, by decide +kernel, b_E_join, (some .int), [], Or.inl rfl⟩
theorem in_E_join : Cond.instanceMethod y_E_join ∈ er_tbl := er_mt (i := 421) (by decide +kernel) rfl
theorem se_E_join : Cond.selects "EntryRows" y_E_join y_E_join ∈ er_tbl := er_mt (i := 422) (by decide +kernel) rfl
theorem d_E_join_0 : decode b_E_join 0 = .ok (.aload_n 0, 1) := by decide +kernel
theorem d_E_join_1 : decode b_E_join 1 = .ok (.iload_n 1, 1) := by decide +kernel
theorem d_E_join_2 : decode b_E_join 2 = .ok (.invokevirtual 65, 3) := by decide +kernel
theorem d_E_join_5 : decode b_E_join 5 = .ok (.aload_n 0, 1) := by decide +kernel
theorem d_E_join_6 : decode b_E_join 6 = .ok (.iload_n 2, 1) := by decide +kernel
theorem d_E_join_7 : decode b_E_join 7 = .ok (.invokevirtual 65, 3) := by decide +kernel
theorem d_E_join_10 : decode b_E_join 10 = .ok (.aload_n 0, 1) := by decide +kernel
theorem d_E_join_11 : decode b_E_join 11 = .ok (.iload_n 1, 1) := by decide +kernel
theorem d_E_join_12 : decode b_E_join 12 = .ok (.invokevirtual 72, 3) := by decide +kernel
theorem d_E_join_15 : decode b_E_join 15 = .ok (.aload_n 0, 1) := by decide +kernel
theorem d_E_join_16 : decode b_E_join 16 = .ok (.iload_n 2, 1) := by decide +kernel
theorem d_E_join_17 : decode b_E_join 17 = .ok (.invokevirtual 72, 3) := by decide +kernel
theorem d_E_join_20 : decode b_E_join 20 = .ok (.iload_n 1, 1) := by decide +kernel
theorem d_E_join_21 : decode b_E_join 21 = .ok (.iload_n 2, 1) := by decide +kernel
theorem d_E_join_22 : decode b_E_join 22 = .ok (.if_icmp .eq 7, 3) := by decide +kernel
theorem d_E_join_25 : decode b_E_join 25 = .ok (.iconst 1, 1) := by decide +kernel
theorem d_E_join_26 : decode b_E_join 26 = .ok (.goto 4, 3) := by decide +kernel
theorem d_E_join_29 : decode b_E_join 29 = .ok (.iconst 0, 1) := by decide +kernel
theorem d_E_join_30 : decode b_E_join 30 = .ok (.invokestatic 81, 3) := by decide +kernel
theorem d_E_join_33 : decode b_E_join 33 = .ok (.aload_n 0, 1) := by decide +kernel
theorem d_E_join_34 : decode b_E_join 34 = .ok (.getfield 10, 3) := by decide +kernel
theorem d_E_join_37 : decode b_E_join 37 = .ok (.iload_n 1, 1) := by decide +kernel
theorem d_E_join_38 : decode b_E_join 38 = .ok (.iload_n 2, 1) := by decide +kernel
theorem d_E_join_39 : decode b_E_join 39 = .ok (.invokevirtual 148, 3) := by decide +kernel
theorem d_E_join_42 : decode b_E_join 42 = .ok (.aload_n 0, 1) := by decide +kernel
theorem d_E_join_43 : decode b_E_join 43 = .ok (.iload_n 1, 1) := by decide +kernel
theorem d_E_join_44 : decode b_E_join 44 = .ok (.iload_n 2, 1) := by decide +kernel
theorem d_E_join_45 : decode b_E_join 45 = .ok (.invokevirtual 152, 3) := by decide +kernel
theorem d_E_join_48 : decode b_E_join 48 = .ok (.aload_n 0, 1) := by decide +kernel
theorem d_E_join_49 : decode b_E_join 49 = .ok (.getfield 10, 3) := by decide +kernel
theorem d_E_join_52 : decode b_E_join 52 = .ok (.iload_n 2, 1) := by decide +kernel
theorem d_E_join_53 : decode b_E_join 53 = .ok (.invokevirtual 155, 3) := by decide +kernel
theorem d_E_join_56 : decode b_E_join 56 = .ok (.ireturn, 1) := by decide +kernel
theorem lk_E_148 : Cond.methodLink "EntryRows" 148 y_P_moveAll ∈ er_tbl ∨ ∃ host, Cond.methodLinkNest "EntryRows" 148 y_P_moveAll host ∈ er_tbl := Or.inr ⟨"EntryRows", er_mt (i := 424) (by decide +kernel) rfl⟩
theorem lk_E_152 : Cond.methodLink "EntryRows" 152 y_E_shut ∈ er_tbl ∨ ∃ host, Cond.methodLinkNest "EntryRows" 152 y_E_shut host ∈ er_tbl := Or.inl (er_mt (i := 428) (by decide +kernel) rfl)
theorem lk_E_155 : Cond.methodLink "EntryRows" 155 y_P_countOn ∈ er_tbl ∨ ∃ host, Cond.methodLinkNest "EntryRows" 155 y_P_countOn host ∈ er_tbl := Or.inr ⟨"EntryRows", er_mt (i := 432) (by decide +kernel) rfl⟩
abbrev y_E_close : MethodName := ⟨"EntryRows", "close", "(I)V"⟩
abbrev b_E_close : ByteArray := prog_1_method_13_code
abbrev w_E_close : Cond := .code y_E_close b_E_close 2 none
theorem cal_E_close : er_Cal y_E_close w_E_close 2 1 := ⟨er_mt (i := 442) (by decide +kernel) rfl, er_mt (i := 1) (by decide +kernel) rfl, ⟨by decide, by decide⟩, by decide +kernel, b_E_close, none, [], Or.inl rfl⟩
theorem in_E_close : Cond.instanceMethod y_E_close ∈ er_tbl := er_mt (i := 440) (by decide +kernel) rfl
theorem se_E_close : Cond.selects "EntryRows" y_E_close y_E_close ∈ er_tbl := er_mt (i := 441) (by decide +kernel) rfl
theorem d_E_close_0 : decode b_E_close 0 = .ok (.aload_n 0, 1) := by decide +kernel
theorem d_E_close_1 : decode b_E_close 1 = .ok (.iload_n 1, 1) := by decide +kernel
theorem d_E_close_2 : decode b_E_close 2 = .ok (.invokevirtual 65, 3) := by decide +kernel
theorem d_E_close_5 : decode b_E_close 5 = .ok (.aload_n 0, 1) := by decide +kernel
theorem d_E_close_6 : decode b_E_close 6 = .ok (.iload_n 1, 1) := by decide +kernel
theorem d_E_close_7 : decode b_E_close 7 = .ok (.invokevirtual 72, 3) := by decide +kernel
theorem d_E_close_10 : decode b_E_close 10 = .ok (.aload_n 0, 1) := by decide +kernel
theorem d_E_close_11 : decode b_E_close 11 = .ok (.getfield 10, 3) := by decide +kernel
theorem d_E_close_14 : decode b_E_close 14 = .ok (.iload_n 1, 1) := by decide +kernel
theorem d_E_close_15 : decode b_E_close 15 = .ok (.invokevirtual 155, 3) := by decide +kernel
theorem d_E_close_18 : decode b_E_close 18 = .ok (.ifCond .ne 7, 3) := by decide +kernel
theorem d_E_close_21 : decode b_E_close 21 = .ok (.iconst 1, 1) := by decide +kernel
theorem d_E_close_22 : decode b_E_close 22 = .ok (.goto 4, 3) := by decide +kernel
theorem d_E_close_25 : decode b_E_close 25 = .ok (.iconst 0, 1) := by decide +kernel
theorem d_E_close_26 : decode b_E_close 26 = .ok (.invokestatic 81, 3) := by decide +kernel
theorem d_E_close_29 : decode b_E_close 29 = .ok (.aload_n 0, 1) := by decide +kernel
theorem d_E_close_30 : decode b_E_close 30 = .ok (.iload_n 1, 1) := by decide +kernel
theorem d_E_close_31 : decode b_E_close 31 = .ok (.iconst (-1), 1) := by decide +kernel
theorem d_E_close_32 : decode b_E_close 32 = .ok (.invokevirtual 152, 3) := by decide +kernel
theorem d_E_close_35 : decode b_E_close 35 = .ok (.return_, 1) := by decide +kernel
abbrev y_E_isLateAt : MethodName := ⟨"EntryRows", "isLateAt", "(II)Z"⟩
abbrev b_E_isLateAt : ByteArray := prog_1_method_37_code
abbrev w_E_isLateAt : Cond := .code y_E_isLateAt b_E_isLateAt 4 (some .boolean)
theorem cal_E_isLateAt : er_Cal y_E_isLateAt w_E_isLateAt 4 2 := ⟨er_mt (i := 454) (by decide +kernel) rfl, er_mt (i := 1) (by decide +kernel) rfl, ⟨by decide, by decide⟩, by decide +kernel, b_E_isLateAt, (some .boolean), [], Or.inl rfl⟩
theorem in_E_isLateAt : Cond.instanceMethod y_E_isLateAt ∈ er_tbl := er_mt (i := 453) (by decide +kernel) rfl
theorem se_E_isLateAt : Cond.selects "EntryRows" y_E_isLateAt y_E_isLateAt ∈ er_tbl := er_ms (i := 21) (by decide +kernel) rfl
theorem d_E_isLateAt_0 : decode b_E_isLateAt 0 = .ok (.aload_n 0, 1) := by decide +kernel
theorem d_E_isLateAt_1 : decode b_E_isLateAt 1 = .ok (.getfield 10, 3) := by decide +kernel
theorem d_E_isLateAt_4 : decode b_E_isLateAt 4 = .ok (.getfield 132, 3) := by decide +kernel
theorem d_E_isLateAt_7 : decode b_E_isLateAt 7 = .ok (.iload_n 1, 1) := by decide +kernel
theorem d_E_isLateAt_8 : decode b_E_isLateAt 8 = .ok (.iaload, 1) := by decide +kernel
theorem d_E_isLateAt_9 : decode b_E_isLateAt 9 = .ok (.istore_n 3, 1) := by decide +kernel
theorem d_E_isLateAt_10 : decode b_E_isLateAt 10 = .ok (.aload_n 0, 1) := by decide +kernel
theorem d_E_isLateAt_11 : decode b_E_isLateAt 11 = .ok (.getfield 19, 3) := by decide +kernel
theorem d_E_isLateAt_14 : decode b_E_isLateAt 14 = .ok (.iload_n 3, 1) := by decide +kernel
theorem d_E_isLateAt_15 : decode b_E_isLateAt 15 = .ok (.invokevirtual 211, 3) := by decide +kernel
theorem d_E_isLateAt_18 : decode b_E_isLateAt 18 = .ok (.ifCond .eq 30, 3) := by decide +kernel
theorem d_E_isLateAt_21 : decode b_E_isLateAt 21 = .ok (.iload_n 2, 1) := by decide +kernel
theorem d_E_isLateAt_22 : decode b_E_isLateAt 22 = .ok (.aload_n 0, 1) := by decide +kernel
theorem d_E_isLateAt_23 : decode b_E_isLateAt 23 = .ok (.getfield 10, 3) := by decide +kernel
theorem d_E_isLateAt_26 : decode b_E_isLateAt 26 = .ok (.getfield 179, 3) := by decide +kernel
theorem d_E_isLateAt_29 : decode b_E_isLateAt 29 = .ok (.iload_n 1, 1) := by decide +kernel
theorem d_E_isLateAt_30 : decode b_E_isLateAt 30 = .ok (.iaload, 1) := by decide +kernel
theorem d_E_isLateAt_31 : decode b_E_isLateAt 31 = .ok (.isub, 1) := by decide +kernel
theorem d_E_isLateAt_32 : decode b_E_isLateAt 32 = .ok (.aload_n 0, 1) := by decide +kernel
theorem d_E_isLateAt_33 : decode b_E_isLateAt 33 = .ok (.getfield 19, 3) := by decide +kernel
theorem d_E_isLateAt_36 : decode b_E_isLateAt 36 = .ok (.getfield 237, 3) := by decide +kernel
theorem d_E_isLateAt_39 : decode b_E_isLateAt 39 = .ok (.iload_n 3, 1) := by decide +kernel
theorem d_E_isLateAt_40 : decode b_E_isLateAt 40 = .ok (.iaload, 1) := by decide +kernel
theorem d_E_isLateAt_41 : decode b_E_isLateAt 41 = .ok (.if_icmp .le 7, 3) := by decide +kernel
theorem d_E_isLateAt_44 : decode b_E_isLateAt 44 = .ok (.iconst 1, 1) := by decide +kernel
theorem d_E_isLateAt_45 : decode b_E_isLateAt 45 = .ok (.goto 4, 3) := by decide +kernel
theorem d_E_isLateAt_48 : decode b_E_isLateAt 48 = .ok (.iconst 0, 1) := by decide +kernel
theorem d_E_isLateAt_49 : decode b_E_isLateAt 49 = .ok (.ireturn, 1) := by decide +kernel
theorem fl_E_179 : er_F "EntryRows" 179 1 4 := ⟨_, er_T1, 11, rfl, by decide, er_i1, rfl, Or.inr ⟨"EntryRows", er_mt (i := 41) (by decide +kernel) rfl⟩⟩
theorem fl_E_237 : er_F "EntryRows" 237 2 2 := ⟨_, er_T2, 6, rfl, by decide, er_i2, rfl, Or.inr ⟨"EntryRows", er_mt (i := 91) (by decide +kernel) rfl⟩⟩
abbrev y_E_tick : MethodName := ⟨"EntryRows", "tick", "(I)I"⟩
abbrev b_E_tick : ByteArray := prog_1_method_14_code
abbrev w_E_tick : Cond := .code y_E_tick b_E_tick 5 (some .int)
theorem cal_E_tick : er_Cal y_E_tick w_E_tick 5 1 := ⟨er_mt (i := 449) (by decide +kernel) rfl, er_mt (i := 1) (by decide +kernel) rfl, ⟨by decide, by decide⟩, by decide +kernel, b_E_tick, (some .int), [], Or.inl rfl⟩
theorem in_E_tick : Cond.instanceMethod y_E_tick ∈ er_tbl := er_mt (i := 447) (by decide +kernel) rfl
theorem se_E_tick : Cond.selects "EntryRows" y_E_tick y_E_tick ∈ er_tbl := er_mt (i := 448) (by decide +kernel) rfl
theorem d_E_tick_0 : decode b_E_tick 0 = .ok (.iload_n 1, 1) := by decide +kernel
theorem d_E_tick_1 : decode b_E_tick 1 = .ok (.iconst 1, 1) := by decide +kernel
theorem d_E_tick_2 : decode b_E_tick 2 = .ok (.sipush 5000, 3) := by decide +kernel
theorem d_E_tick_5 : decode b_E_tick 5 = .ok (.invokestatic 46, 3) := by decide +kernel
theorem d_E_tick_8 : decode b_E_tick 8 = .ok (.aload_n 0, 1) := by decide +kernel
theorem d_E_tick_9 : decode b_E_tick 9 = .ok (.getfield 30, 3) := by decide +kernel
theorem d_E_tick_12 : decode b_E_tick 12 = .ok (.iload_n 1, 1) := by decide +kernel
theorem d_E_tick_13 : decode b_E_tick 13 = .ok (.iadd, 1) := by decide +kernel
theorem d_E_tick_14 : decode b_E_tick 14 = .ok (.iconst 0, 1) := by decide +kernel
theorem d_E_tick_15 : decode b_E_tick 15 = .ok (.ldc 158, 2) := by decide +kernel
theorem d_E_tick_17 : decode b_E_tick 17 = .ok (.invokestatic 46, 3) := by decide +kernel
theorem d_E_tick_20 : decode b_E_tick 20 = .ok (.aload_n 0, 1) := by decide +kernel
theorem d_E_tick_21 : decode b_E_tick 21 = .ok (.getfield 30, 3) := by decide +kernel
theorem d_E_tick_24 : decode b_E_tick 24 = .ok (.istore_n 2, 1) := by decide +kernel
theorem d_E_tick_25 : decode b_E_tick 25 = .ok (.aload_n 0, 1) := by decide +kernel
theorem d_E_tick_26 : decode b_E_tick 26 = .ok (.dup, 1) := by decide +kernel
theorem d_E_tick_27 : decode b_E_tick 27 = .ok (.getfield 30, 3) := by decide +kernel
theorem d_E_tick_30 : decode b_E_tick 30 = .ok (.iload_n 1, 1) := by decide +kernel
theorem d_E_tick_31 : decode b_E_tick 31 = .ok (.iadd, 1) := by decide +kernel
theorem d_E_tick_32 : decode b_E_tick 32 = .ok (.putfield 30, 3) := by decide +kernel
theorem d_E_tick_35 : decode b_E_tick 35 = .ok (.iconst 0, 1) := by decide +kernel
theorem d_E_tick_36 : decode b_E_tick 36 = .ok (.istore_n 3, 1) := by decide +kernel
theorem d_E_tick_37 : decode b_E_tick 37 = .ok (.iconst 0, 1) := by decide +kernel
theorem d_E_tick_38 : decode b_E_tick 38 = .ok (.istore 4, 2) := by decide +kernel
theorem d_E_tick_40 : decode b_E_tick 40 = .ok (.iload 4, 2) := by decide +kernel
theorem d_E_tick_42 : decode b_E_tick 42 = .ok (.bipush 40, 2) := by decide +kernel
theorem d_E_tick_44 : decode b_E_tick 44 = .ok (.if_icmp .ge 35, 3) := by decide +kernel
theorem d_E_tick_47 : decode b_E_tick 47 = .ok (.aload_n 0, 1) := by decide +kernel
theorem d_E_tick_48 : decode b_E_tick 48 = .ok (.iload 4, 2) := by decide +kernel
theorem d_E_tick_50 : decode b_E_tick 50 = .ok (.aload_n 0, 1) := by decide +kernel
theorem d_E_tick_51 : decode b_E_tick 51 = .ok (.getfield 30, 3) := by decide +kernel
theorem d_E_tick_54 : decode b_E_tick 54 = .ok (.invokevirtual 159, 3) := by decide +kernel
theorem d_E_tick_57 : decode b_E_tick 57 = .ok (.ifCond .eq 16, 3) := by decide +kernel
theorem d_E_tick_60 : decode b_E_tick 60 = .ok (.aload_n 0, 1) := by decide +kernel
theorem d_E_tick_61 : decode b_E_tick 61 = .ok (.iload 4, 2) := by decide +kernel
theorem d_E_tick_63 : decode b_E_tick 63 = .ok (.iload_n 2, 1) := by decide +kernel
theorem d_E_tick_64 : decode b_E_tick 64 = .ok (.invokevirtual 159, 3) := by decide +kernel
theorem d_E_tick_67 : decode b_E_tick 67 = .ok (.ifCond .ne 6, 3) := by decide +kernel
theorem d_E_tick_70 : decode b_E_tick 70 = .ok (.iinc 3 1, 3) := by decide +kernel
theorem d_E_tick_73 : decode b_E_tick 73 = .ok (.iinc 4 1, 3) := by decide +kernel
theorem d_E_tick_76 : decode b_E_tick 76 = .ok (.goto (-36), 3) := by decide +kernel
theorem d_E_tick_79 : decode b_E_tick 79 = .ok (.iload_n 3, 1) := by decide +kernel
theorem d_E_tick_80 : decode b_E_tick 80 = .ok (.ireturn, 1) := by decide +kernel
theorem k_E_158 : Cond.constant "EntryRows" 158 (999999) ∈ er_tbl := er_mt (i := 450) (by decide +kernel) rfl
theorem fp_E_30 : er_Fp "EntryRows" 30 0 4 := ⟨_, er_T0, 7, er_ty0, rfl, by decide, er_i0, rfl, er_mt (i := 115) (by decide +kernel) rfl, rfl, by decide +kernel, er_tyok0, er_nm0⟩
theorem lk_E_159 : Cond.methodLink "EntryRows" 159 y_E_isLateAt ∈ er_tbl ∨ ∃ host, Cond.methodLinkNest "EntryRows" 159 y_E_isLateAt host ∈ er_tbl := Or.inl (er_mt (i := 451) (by decide +kernel) rfl)
abbrev y_E_requireNotNegative : MethodName := ⟨"EntryRows", "requireNotNegative", "(I)V"⟩
abbrev b_E_requireNotNegative : ByteArray := prog_1_method_27_code
abbrev w_E_requireNotNegative : Cond := .code y_E_requireNotNegative b_E_requireNotNegative 1 none
theorem cal_E_requireNotNegative : er_Cal y_E_requireNotNegative w_E_requireNotNegative 1 1 := ⟨er_mt (i := 464) (by decide +kernel) rfl, er_mt (i := 1) (by decide +kernel) rfl, ⟨by decide, by decide⟩, by decide +kernel, b_E_requireNotNegative, none, [], Or.inl rfl⟩
theorem st_E_requireNotNegative : Cond.static y_E_requireNotNegative ∈ er_tbl := er_mt (i := 463) (by decide +kernel) rfl
theorem d_E_requireNotNegative_0 : decode b_E_requireNotNegative 0 = .ok (.iload_n 0, 1) := by decide +kernel
theorem d_E_requireNotNegative_1 : decode b_E_requireNotNegative 1 = .ok (.iconst 0, 1) := by decide +kernel
theorem d_E_requireNotNegative_2 : decode b_E_requireNotNegative 2 = .ok (.ldc 221, 2) := by decide +kernel
theorem d_E_requireNotNegative_4 : decode b_E_requireNotNegative 4 = .ok (.invokestatic 46, 3) := by decide +kernel
theorem d_E_requireNotNegative_7 : decode b_E_requireNotNegative 7 = .ok (.return_, 1) := by decide +kernel
theorem k_E_221 : Cond.constant "EntryRows" 221 (2147483647) ∈ er_tbl := er_mt (i := 465) (by decide +kernel) rfl
abbrev y_P_nextOn : MethodName := ⟨"EntryRows$Persons", "nextOn", "(II)I"⟩
abbrev b_P_nextOn : ByteArray := prog_3_method_11_code
abbrev w_P_nextOn : Cond := .code y_P_nextOn b_P_nextOn 6 (some .int)
theorem cal_P_nextOn : er_Cal y_P_nextOn w_P_nextOn 6 2 := ⟨er_mt (i := 472) (by decide +kernel) rfl, er_mt (i := 2) (by decide +kernel) rfl, ⟨by decide, by decide⟩, by decide +kernel, b_P_nextOn, (some .int), [], Or.inl rfl⟩
theorem in_P_nextOn : Cond.instanceMethod y_P_nextOn ∈ er_tbl := er_mt (i := 471) (by decide +kernel) rfl
theorem se_P_nextOn : Cond.selects "EntryRows$Persons" y_P_nextOn y_P_nextOn ∈ er_tbl := er_ms (i := 22) (by decide +kernel) rfl
theorem d_P_nextOn_0 : decode b_P_nextOn 0 = .ok (.iconst (-1), 1) := by decide +kernel
theorem d_P_nextOn_1 : decode b_P_nextOn 1 = .ok (.istore_n 3, 1) := by decide +kernel
theorem d_P_nextOn_2 : decode b_P_nextOn 2 = .ok (.ldc 73, 2) := by decide +kernel
theorem d_P_nextOn_4 : decode b_P_nextOn 4 = .ok (.istore 4, 2) := by decide +kernel
theorem d_P_nextOn_6 : decode b_P_nextOn 6 = .ok (.iconst 0, 1) := by decide +kernel
theorem d_P_nextOn_7 : decode b_P_nextOn 7 = .ok (.istore 5, 2) := by decide +kernel
theorem d_P_nextOn_9 : decode b_P_nextOn 9 = .ok (.iload 5, 2) := by decide +kernel
theorem d_P_nextOn_11 : decode b_P_nextOn 11 = .ok (.bipush 40, 2) := by decide +kernel
theorem d_P_nextOn_13 : decode b_P_nextOn 13 = .ok (.if_icmp .ge 55, 3) := by decide +kernel
theorem d_P_nextOn_16 : decode b_P_nextOn 16 = .ok (.aload_n 0, 1) := by decide +kernel
theorem d_P_nextOn_17 : decode b_P_nextOn 17 = .ok (.getfield 9, 3) := by decide +kernel
theorem d_P_nextOn_20 : decode b_P_nextOn 20 = .ok (.iload 5, 2) := by decide +kernel
theorem d_P_nextOn_22 : decode b_P_nextOn 22 = .ok (.iaload, 1) := by decide +kernel
theorem d_P_nextOn_23 : decode b_P_nextOn 23 = .ok (.iload_n 1, 1) := by decide +kernel
theorem d_P_nextOn_24 : decode b_P_nextOn 24 = .ok (.if_icmp .ne 38, 3) := by decide +kernel
theorem d_P_nextOn_27 : decode b_P_nextOn 27 = .ok (.aload_n 0, 1) := by decide +kernel
theorem d_P_nextOn_28 : decode b_P_nextOn 28 = .ok (.getfield 15, 3) := by decide +kernel
theorem d_P_nextOn_31 : decode b_P_nextOn 31 = .ok (.iload 5, 2) := by decide +kernel
theorem d_P_nextOn_33 : decode b_P_nextOn 33 = .ok (.iaload, 1) := by decide +kernel
theorem d_P_nextOn_34 : decode b_P_nextOn 34 = .ok (.iload_n 2, 1) := by decide +kernel
theorem d_P_nextOn_35 : decode b_P_nextOn 35 = .ok (.if_icmp .le 27, 3) := by decide +kernel
theorem d_P_nextOn_38 : decode b_P_nextOn 38 = .ok (.aload_n 0, 1) := by decide +kernel
theorem d_P_nextOn_39 : decode b_P_nextOn 39 = .ok (.getfield 15, 3) := by decide +kernel
theorem d_P_nextOn_42 : decode b_P_nextOn 42 = .ok (.iload 5, 2) := by decide +kernel
theorem d_P_nextOn_44 : decode b_P_nextOn 44 = .ok (.iaload, 1) := by decide +kernel
theorem d_P_nextOn_45 : decode b_P_nextOn 45 = .ok (.iload 4, 2) := by decide +kernel
theorem d_P_nextOn_47 : decode b_P_nextOn 47 = .ok (.if_icmp .ge 15, 3) := by decide +kernel
theorem d_P_nextOn_50 : decode b_P_nextOn 50 = .ok (.iload 5, 2) := by decide +kernel
theorem d_P_nextOn_52 : decode b_P_nextOn 52 = .ok (.istore_n 3, 1) := by decide +kernel
theorem d_P_nextOn_53 : decode b_P_nextOn 53 = .ok (.aload_n 0, 1) := by decide +kernel
theorem d_P_nextOn_54 : decode b_P_nextOn 54 = .ok (.getfield 15, 3) := by decide +kernel
theorem d_P_nextOn_57 : decode b_P_nextOn 57 = .ok (.iload 5, 2) := by decide +kernel
theorem d_P_nextOn_59 : decode b_P_nextOn 59 = .ok (.iaload, 1) := by decide +kernel
theorem d_P_nextOn_60 : decode b_P_nextOn 60 = .ok (.istore 4, 2) := by decide +kernel
theorem d_P_nextOn_62 : decode b_P_nextOn 62 = .ok (.iinc 5 1, 3) := by decide +kernel
theorem d_P_nextOn_65 : decode b_P_nextOn 65 = .ok (.goto (-56), 3) := by decide +kernel
theorem d_P_nextOn_68 : decode b_P_nextOn 68 = .ok (.iload_n 3, 1) := by decide +kernel
theorem d_P_nextOn_69 : decode b_P_nextOn 69 = .ok (.ireturn, 1) := by decide +kernel
theorem k_P_73 : Cond.constant "EntryRows$Persons" 73 (2147483647) ∈ er_tbl := er_mt (i := 473) (by decide +kernel) rfl
abbrev y_E_on : MethodName := ⟨"EntryRows", "on", "(II)I"⟩
abbrev b_E_on : ByteArray := prog_1_method_15_code
abbrev w_E_on : Cond := .code y_E_on b_E_on 6 (some .int)
theorem cal_E_on : er_Cal y_E_on w_E_on 6 2 := ⟨er_mt (i := 461) (by decide +kernel) rfl, er_mt (i := 1) (by decide +kernel) rfl, ⟨by decide, by decide⟩, by decide +kernel, b_E_on, (some .int), [], Or.inl rfl⟩
theorem in_E_on : Cond.instanceMethod y_E_on ∈ er_tbl := er_mt (i := 459) (by decide +kernel) rfl
theorem se_E_on : Cond.selects "EntryRows" y_E_on y_E_on ∈ er_tbl := er_mt (i := 460) (by decide +kernel) rfl
theorem d_E_on_0 : decode b_E_on 0 = .ok (.aload_n 0, 1) := by decide +kernel
theorem d_E_on_1 : decode b_E_on 1 = .ok (.iload_n 1, 1) := by decide +kernel
theorem d_E_on_2 : decode b_E_on 2 = .ok (.invokevirtual 65, 3) := by decide +kernel
theorem d_E_on_5 : decode b_E_on 5 = .ok (.iload_n 2, 1) := by decide +kernel
theorem d_E_on_6 : decode b_E_on 6 = .ok (.invokestatic 162, 3) := by decide +kernel
theorem d_E_on_9 : decode b_E_on 9 = .ok (.iload_n 2, 1) := by decide +kernel
theorem d_E_on_10 : decode b_E_on 10 = .ok (.bipush 40, 2) := by decide +kernel
theorem d_E_on_12 : decode b_E_on 12 = .ok (.invokestatic 165, 3) := by decide +kernel
theorem d_E_on_15 : decode b_E_on 15 = .ok (.istore_n 3, 1) := by decide +kernel
theorem d_E_on_16 : decode b_E_on 16 = .ok (.aload_n 0, 1) := by decide +kernel
theorem d_E_on_17 : decode b_E_on 17 = .ok (.getfield 10, 3) := by decide +kernel
theorem d_E_on_20 : decode b_E_on 20 = .ok (.iload_n 1, 1) := by decide +kernel
theorem d_E_on_21 : decode b_E_on 21 = .ok (.iconst (-1), 1) := by decide +kernel
theorem d_E_on_22 : decode b_E_on 22 = .ok (.invokevirtual 170, 3) := by decide +kernel
theorem d_E_on_25 : decode b_E_on 25 = .ok (.istore 4, 2) := by decide +kernel
theorem d_E_on_27 : decode b_E_on 27 = .ok (.iconst 0, 1) := by decide +kernel
theorem d_E_on_28 : decode b_E_on 28 = .ok (.istore 5, 2) := by decide +kernel
theorem d_E_on_30 : decode b_E_on 30 = .ok (.iload 5, 2) := by decide +kernel
theorem d_E_on_32 : decode b_E_on 32 = .ok (.iload_n 3, 1) := by decide +kernel
theorem d_E_on_33 : decode b_E_on 33 = .ok (.if_icmp .ge 37, 3) := by decide +kernel
theorem d_E_on_36 : decode b_E_on 36 = .ok (.iload 4, 2) := by decide +kernel
theorem d_E_on_38 : decode b_E_on 38 = .ok (.invokestatic 173, 3) := by decide +kernel
theorem d_E_on_41 : decode b_E_on 41 = .ok (.ifCond .eq 29, 3) := by decide +kernel
theorem d_E_on_44 : decode b_E_on 44 = .ok (.aload_n 0, 1) := by decide +kernel
theorem d_E_on_45 : decode b_E_on 45 = .ok (.getfield 10, 3) := by decide +kernel
theorem d_E_on_48 : decode b_E_on 48 = .ok (.iload_n 1, 1) := by decide +kernel
theorem d_E_on_49 : decode b_E_on 49 = .ok (.aload_n 0, 1) := by decide +kernel
theorem d_E_on_50 : decode b_E_on 50 = .ok (.getfield 10, 3) := by decide +kernel
theorem d_E_on_53 : decode b_E_on 53 = .ok (.getfield 145, 3) := by decide +kernel
theorem d_E_on_56 : decode b_E_on 56 = .ok (.iload 4, 2) := by decide +kernel
theorem d_E_on_58 : decode b_E_on 58 = .ok (.iaload, 1) := by decide +kernel
theorem d_E_on_59 : decode b_E_on 59 = .ok (.invokevirtual 170, 3) := by decide +kernel
theorem d_E_on_62 : decode b_E_on 62 = .ok (.istore 4, 2) := by decide +kernel
theorem d_E_on_64 : decode b_E_on 64 = .ok (.iinc 5 1, 3) := by decide +kernel
theorem d_E_on_67 : decode b_E_on 67 = .ok (.goto (-37), 3) := by decide +kernel
theorem d_E_on_70 : decode b_E_on 70 = .ok (.iload 4, 2) := by decide +kernel
theorem d_E_on_72 : decode b_E_on 72 = .ok (.ireturn, 1) := by decide +kernel
theorem lk_E_162 : Cond.methodLink "EntryRows" 162 y_E_requireNotNegative ∈ er_tbl := er_mt (i := 462) (by decide +kernel) rfl
theorem lk_E_165 : Cond.methodLink "EntryRows" 165 y_J_min ∈ er_tbl := er_mt (i := 466) (by decide +kernel) rfl
theorem lk_E_170 : Cond.methodLink "EntryRows" 170 y_P_nextOn ∈ er_tbl ∨ ∃ host, Cond.methodLinkNest "EntryRows" 170 y_P_nextOn host ∈ er_tbl := Or.inr ⟨"EntryRows", er_mt (i := 469) (by decide +kernel) rfl⟩
abbrev y_E_late : MethodName := ⟨"EntryRows", "late", "(I)I"⟩
abbrev b_E_late : ByteArray := prog_1_method_16_code
abbrev w_E_late : Cond := .code y_E_late b_E_late 4 (some .int)
theorem cal_E_late : er_Cal y_E_late w_E_late 4 1 := ⟨er_mt (i := 480) (by decide +kernel) rfl, er_mt (i := 1) (by decide +kernel) rfl, ⟨by decide, by decide⟩, by decide +kernel, b_E_late, (some .int), [], Or.inl rfl⟩
theorem in_E_late : Cond.instanceMethod y_E_late ∈ er_tbl := er_mt (i := 478) (by decide +kernel) rfl
theorem se_E_late : Cond.selects "EntryRows" y_E_late y_E_late ∈ er_tbl := er_mt (i := 479) (by decide +kernel) rfl
theorem d_E_late_0 : decode b_E_late 0 = .ok (.iload_n 1, 1) := by decide +kernel
theorem d_E_late_1 : decode b_E_late 1 = .ok (.invokestatic 162, 3) := by decide +kernel
theorem d_E_late_4 : decode b_E_late 4 = .ok (.iconst 0, 1) := by decide +kernel
theorem d_E_late_5 : decode b_E_late 5 = .ok (.istore_n 2, 1) := by decide +kernel
theorem d_E_late_6 : decode b_E_late 6 = .ok (.iconst 0, 1) := by decide +kernel
theorem d_E_late_7 : decode b_E_late 7 = .ok (.istore_n 3, 1) := by decide +kernel
theorem d_E_late_8 : decode b_E_late 8 = .ok (.iload_n 3, 1) := by decide +kernel
theorem d_E_late_9 : decode b_E_late 9 = .ok (.bipush 40, 2) := by decide +kernel
theorem d_E_late_11 : decode b_E_late 11 = .ok (.if_icmp .ge 31, 3) := by decide +kernel
theorem d_E_late_14 : decode b_E_late 14 = .ok (.aload_n 0, 1) := by decide +kernel
theorem d_E_late_15 : decode b_E_late 15 = .ok (.iload_n 3, 1) := by decide +kernel
theorem d_E_late_16 : decode b_E_late 16 = .ok (.aload_n 0, 1) := by decide +kernel
theorem d_E_late_17 : decode b_E_late 17 = .ok (.getfield 30, 3) := by decide +kernel
theorem d_E_late_20 : decode b_E_late 20 = .ok (.invokevirtual 159, 3) := by decide +kernel
theorem d_E_late_23 : decode b_E_late 23 = .ok (.ifCond .eq 13, 3) := by decide +kernel
theorem d_E_late_26 : decode b_E_late 26 = .ok (.iload_n 2, 1) := by decide +kernel
theorem d_E_late_27 : decode b_E_late 27 = .ok (.iload_n 1, 1) := by decide +kernel
theorem d_E_late_28 : decode b_E_late 28 = .ok (.if_icmp .ne 5, 3) := by decide +kernel
theorem d_E_late_31 : decode b_E_late 31 = .ok (.iload_n 3, 1) := by decide +kernel
theorem d_E_late_32 : decode b_E_late 32 = .ok (.ireturn, 1) := by decide +kernel
theorem d_E_late_33 : decode b_E_late 33 = .ok (.iinc 2 1, 3) := by decide +kernel
theorem d_E_late_36 : decode b_E_late 36 = .ok (.iinc 3 1, 3) := by decide +kernel
theorem d_E_late_39 : decode b_E_late 39 = .ok (.goto (-31), 3) := by decide +kernel
theorem d_E_late_42 : decode b_E_late 42 = .ok (.iconst (-1), 1) := by decide +kernel
theorem d_E_late_43 : decode b_E_late 43 = .ok (.ireturn, 1) := by decide +kernel
abbrev y_E_person : MethodName := ⟨"EntryRows", "person", "(II)I"⟩
abbrev b_E_person : ByteArray := prog_1_method_17_code
abbrev w_E_person : Cond := .code y_E_person b_E_person 3 (some .int)
theorem cal_E_person : er_Cal y_E_person w_E_person 3 2 := ⟨er_mt (i := 487) (by decide +kernel) rfl, er_mt (i := 1) (by decide +kernel) rfl, ⟨by decide, by decide⟩, by decide +kernel, b_E_person, (some .int), [], Or.inl rfl⟩
theorem in_E_person : Cond.instanceMethod y_E_person ∈ er_tbl := er_mt (i := 485) (by decide +kernel) rfl
theorem se_E_person : Cond.selects "EntryRows" y_E_person y_E_person ∈ er_tbl := er_mt (i := 486) (by decide +kernel) rfl
theorem d_E_person_0 : decode b_E_person 0 = .ok (.iload_n 1, 1) := by decide +kernel
theorem d_E_person_1 : decode b_E_person 1 = .ok (.invokestatic 69, 3) := by decide +kernel
theorem d_E_person_4 : decode b_E_person 4 = .ok (.iload_n 2, 1) := by decide +kernel
theorem d_E_person_5 : decode b_E_person 5 = .ok (.tableswitch 155 0 9 #[55, 65, 75, 85, 95, 105, 115, 125, 135, 145], 55) := by decide +kernel
theorem d_E_person_60 : decode b_E_person 60 = .ok (.aload_n 0, 1) := by decide +kernel
theorem d_E_person_61 : decode b_E_person 61 = .ok (.getfield 10, 3) := by decide +kernel
theorem d_E_person_64 : decode b_E_person 64 = .ok (.getfield 132, 3) := by decide +kernel
theorem d_E_person_67 : decode b_E_person 67 = .ok (.iload_n 1, 1) := by decide +kernel
theorem d_E_person_68 : decode b_E_person 68 = .ok (.iaload, 1) := by decide +kernel
theorem d_E_person_69 : decode b_E_person 69 = .ok (.ireturn, 1) := by decide +kernel
theorem d_E_person_70 : decode b_E_person 70 = .ok (.aload_n 0, 1) := by decide +kernel
theorem d_E_person_71 : decode b_E_person 71 = .ok (.getfield 10, 3) := by decide +kernel
theorem d_E_person_74 : decode b_E_person 74 = .ok (.getfield 145, 3) := by decide +kernel
theorem d_E_person_77 : decode b_E_person 77 = .ok (.iload_n 1, 1) := by decide +kernel
theorem d_E_person_78 : decode b_E_person 78 = .ok (.iaload, 1) := by decide +kernel
theorem d_E_person_79 : decode b_E_person 79 = .ok (.ireturn, 1) := by decide +kernel
theorem d_E_person_80 : decode b_E_person 80 = .ok (.aload_n 0, 1) := by decide +kernel
theorem d_E_person_81 : decode b_E_person 81 = .ok (.getfield 10, 3) := by decide +kernel
theorem d_E_person_84 : decode b_E_person 84 = .ok (.getfield 135, 3) := by decide +kernel
theorem d_E_person_87 : decode b_E_person 87 = .ok (.iload_n 1, 1) := by decide +kernel
theorem d_E_person_88 : decode b_E_person 88 = .ok (.iaload, 1) := by decide +kernel
theorem d_E_person_89 : decode b_E_person 89 = .ok (.ireturn, 1) := by decide +kernel
theorem d_E_person_90 : decode b_E_person 90 = .ok (.aload_n 0, 1) := by decide +kernel
theorem d_E_person_91 : decode b_E_person 91 = .ok (.getfield 10, 3) := by decide +kernel
theorem d_E_person_94 : decode b_E_person 94 = .ok (.getfield 176, 3) := by decide +kernel
theorem d_E_person_97 : decode b_E_person 97 = .ok (.iload_n 1, 1) := by decide +kernel
theorem d_E_person_98 : decode b_E_person 98 = .ok (.iaload, 1) := by decide +kernel
theorem d_E_person_99 : decode b_E_person 99 = .ok (.ireturn, 1) := by decide +kernel
theorem d_E_person_100 : decode b_E_person 100 = .ok (.aload_n 0, 1) := by decide +kernel
theorem d_E_person_101 : decode b_E_person 101 = .ok (.getfield 10, 3) := by decide +kernel
theorem d_E_person_104 : decode b_E_person 104 = .ok (.getfield 179, 3) := by decide +kernel
theorem d_E_person_107 : decode b_E_person 107 = .ok (.iload_n 1, 1) := by decide +kernel
theorem d_E_person_108 : decode b_E_person 108 = .ok (.iaload, 1) := by decide +kernel
theorem d_E_person_109 : decode b_E_person 109 = .ok (.ireturn, 1) := by decide +kernel
theorem d_E_person_110 : decode b_E_person 110 = .ok (.aload_n 0, 1) := by decide +kernel
theorem d_E_person_111 : decode b_E_person 111 = .ok (.getfield 10, 3) := by decide +kernel
theorem d_E_person_114 : decode b_E_person 114 = .ok (.getfield 182, 3) := by decide +kernel
theorem d_E_person_117 : decode b_E_person 117 = .ok (.iload_n 1, 1) := by decide +kernel
theorem d_E_person_118 : decode b_E_person 118 = .ok (.iaload, 1) := by decide +kernel
theorem d_E_person_119 : decode b_E_person 119 = .ok (.ireturn, 1) := by decide +kernel
theorem d_E_person_120 : decode b_E_person 120 = .ok (.aload_n 0, 1) := by decide +kernel
theorem d_E_person_121 : decode b_E_person 121 = .ok (.getfield 10, 3) := by decide +kernel
theorem d_E_person_124 : decode b_E_person 124 = .ok (.getfield 185, 3) := by decide +kernel
theorem d_E_person_127 : decode b_E_person 127 = .ok (.iload_n 1, 1) := by decide +kernel
theorem d_E_person_128 : decode b_E_person 128 = .ok (.iaload, 1) := by decide +kernel
theorem d_E_person_129 : decode b_E_person 129 = .ok (.ireturn, 1) := by decide +kernel
theorem d_E_person_130 : decode b_E_person 130 = .ok (.aload_n 0, 1) := by decide +kernel
theorem d_E_person_131 : decode b_E_person 131 = .ok (.getfield 10, 3) := by decide +kernel
theorem d_E_person_134 : decode b_E_person 134 = .ok (.getfield 188, 3) := by decide +kernel
theorem d_E_person_137 : decode b_E_person 137 = .ok (.iload_n 1, 1) := by decide +kernel
theorem d_E_person_138 : decode b_E_person 138 = .ok (.iaload, 1) := by decide +kernel
theorem d_E_person_139 : decode b_E_person 139 = .ok (.ireturn, 1) := by decide +kernel
theorem d_E_person_140 : decode b_E_person 140 = .ok (.aload_n 0, 1) := by decide +kernel
theorem d_E_person_141 : decode b_E_person 141 = .ok (.getfield 10, 3) := by decide +kernel
theorem d_E_person_144 : decode b_E_person 144 = .ok (.getfield 105, 3) := by decide +kernel
theorem d_E_person_147 : decode b_E_person 147 = .ok (.iload_n 1, 1) := by decide +kernel
theorem d_E_person_148 : decode b_E_person 148 = .ok (.iaload, 1) := by decide +kernel
theorem d_E_person_149 : decode b_E_person 149 = .ok (.ireturn, 1) := by decide +kernel
theorem d_E_person_150 : decode b_E_person 150 = .ok (.aload_n 0, 1) := by decide +kernel
theorem d_E_person_151 : decode b_E_person 151 = .ok (.getfield 10, 3) := by decide +kernel
theorem d_E_person_154 : decode b_E_person 154 = .ok (.getfield 78, 3) := by decide +kernel
theorem d_E_person_157 : decode b_E_person 157 = .ok (.iload_n 1, 1) := by decide +kernel
theorem d_E_person_158 : decode b_E_person 158 = .ok (.iaload, 1) := by decide +kernel
theorem d_E_person_159 : decode b_E_person 159 = .ok (.ireturn, 1) := by decide +kernel
theorem d_E_person_160 : decode b_E_person 160 = .ok (.new 191, 3) := by decide +kernel
theorem d_E_person_163 : decode b_E_person 163 = .ok (.dup, 1) := by decide +kernel
theorem d_E_person_164 : decode b_E_person 164 = .ok (.ldc 193, 2) := by decide +kernel
theorem d_E_person_166 : decode b_E_person 166 = .ok (.invokespecial 195, 3) := by decide +kernel
theorem d_E_person_169 : decode b_E_person 169 = .ok (.athrow, 1) := by decide +kernel
theorem fl_E_176 : er_F "EntryRows" 176 1 3 := ⟨_, er_T1, 11, rfl, by decide, er_i1, rfl, Or.inr ⟨"EntryRows", er_mt (i := 39) (by decide +kernel) rfl⟩⟩
theorem fl_E_182 : er_F "EntryRows" 182 1 5 := ⟨_, er_T1, 11, rfl, by decide, er_i1, rfl, Or.inr ⟨"EntryRows", er_mt (i := 43) (by decide +kernel) rfl⟩⟩
theorem fl_E_185 : er_F "EntryRows" 185 1 6 := ⟨_, er_T1, 11, rfl, by decide, er_i1, rfl, Or.inr ⟨"EntryRows", er_mt (i := 45) (by decide +kernel) rfl⟩⟩
theorem fl_E_188 : er_F "EntryRows" 188 1 7 := ⟨_, er_T1, 11, rfl, by decide, er_i1, rfl, Or.inr ⟨"EntryRows", er_mt (i := 47) (by decide +kernel) rfl⟩⟩
abbrev y_I_rotateLeft : MethodName := ⟨"java/lang/Integer", "rotateLeft", "(II)I"⟩
abbrev b_I_rotateLeft : ByteArray := prog_10_method_50_code
abbrev w_I_rotateLeft : Cond := .code y_I_rotateLeft b_I_rotateLeft 2 (some .int)
theorem cal_I_rotateLeft : er_Cal y_I_rotateLeft w_I_rotateLeft 2 2 := ⟨er_mt (i := 502) (by decide +kernel) rfl, er_mt (i := 14) (by decide +kernel) rfl, ⟨by decide, by decide⟩, by decide +kernel, b_I_rotateLeft, (some .int), [], Or.inl rfl⟩
theorem st_I_rotateLeft : Cond.static y_I_rotateLeft ∈ er_tbl := er_mt (i := 501) (by decide +kernel) rfl
theorem d_I_rotateLeft_0 : decode b_I_rotateLeft 0 = .ok (.iload_n 0, 1) := by decide +kernel
theorem d_I_rotateLeft_1 : decode b_I_rotateLeft 1 = .ok (.iload_n 1, 1) := by decide +kernel
theorem d_I_rotateLeft_2 : decode b_I_rotateLeft 2 = .ok (.ishl, 1) := by decide +kernel
theorem d_I_rotateLeft_3 : decode b_I_rotateLeft 3 = .ok (.iload_n 0, 1) := by decide +kernel
theorem d_I_rotateLeft_4 : decode b_I_rotateLeft 4 = .ok (.iload_n 1, 1) := by decide +kernel
theorem d_I_rotateLeft_5 : decode b_I_rotateLeft 5 = .ok (.ineg, 1) := by decide +kernel
theorem d_I_rotateLeft_6 : decode b_I_rotateLeft 6 = .ok (.iushr, 1) := by decide +kernel
theorem d_I_rotateLeft_7 : decode b_I_rotateLeft 7 = .ok (.ior, 1) := by decide +kernel
theorem d_I_rotateLeft_8 : decode b_I_rotateLeft 8 = .ok (.ireturn, 1) := by decide +kernel
abbrev y_E_sumOf : MethodName := ⟨"EntryRows", "sumOf", "(I)I"⟩
abbrev b_E_sumOf : ByteArray := prog_1_method_38_code
abbrev w_E_sumOf : Cond := .code y_E_sumOf b_E_sumOf 7 (some .int)
theorem cal_E_sumOf : er_Cal y_E_sumOf w_E_sumOf 7 1 := ⟨er_mt (i := 499) (by decide +kernel) rfl, er_mt (i := 1) (by decide +kernel) rfl, ⟨by decide, by decide⟩, by decide +kernel, b_E_sumOf, (some .int), [], Or.inl rfl⟩
theorem in_E_sumOf : Cond.instanceMethod y_E_sumOf ∈ er_tbl := er_mt (i := 498) (by decide +kernel) rfl
theorem se_E_sumOf : Cond.selects "EntryRows" y_E_sumOf y_E_sumOf ∈ er_tbl := er_ms (i := 23) (by decide +kernel) rfl
theorem d_E_sumOf_0 : decode b_E_sumOf 0 = .ok (.iconst 0, 1) := by decide +kernel
theorem d_E_sumOf_1 : decode b_E_sumOf 1 = .ok (.istore_n 2, 1) := by decide +kernel
theorem d_E_sumOf_2 : decode b_E_sumOf 2 = .ok (.aload_n 0, 1) := by decide +kernel
theorem d_E_sumOf_3 : decode b_E_sumOf 3 = .ok (.getfield 10, 3) := by decide +kernel
theorem d_E_sumOf_6 : decode b_E_sumOf 6 = .ok (.iload_n 1, 1) := by decide +kernel
theorem d_E_sumOf_7 : decode b_E_sumOf 7 = .ok (.iconst (-1), 1) := by decide +kernel
theorem d_E_sumOf_8 : decode b_E_sumOf 8 = .ok (.invokevirtual 170, 3) := by decide +kernel
theorem d_E_sumOf_11 : decode b_E_sumOf 11 = .ok (.istore_n 3, 1) := by decide +kernel
theorem d_E_sumOf_12 : decode b_E_sumOf 12 = .ok (.iconst 0, 1) := by decide +kernel
theorem d_E_sumOf_13 : decode b_E_sumOf 13 = .ok (.istore 4, 2) := by decide +kernel
theorem d_E_sumOf_15 : decode b_E_sumOf 15 = .ok (.iload 4, 2) := by decide +kernel
theorem d_E_sumOf_17 : decode b_E_sumOf 17 = .ok (.bipush 40, 2) := by decide +kernel
theorem d_E_sumOf_19 : decode b_E_sumOf 19 = .ok (.if_icmp .ge 64, 3) := by decide +kernel
theorem d_E_sumOf_22 : decode b_E_sumOf 22 = .ok (.iload_n 3, 1) := by decide +kernel
theorem d_E_sumOf_23 : decode b_E_sumOf 23 = .ok (.invokestatic 173, 3) := by decide +kernel
theorem d_E_sumOf_26 : decode b_E_sumOf 26 = .ok (.ifCond .eq 57, 3) := by decide +kernel
theorem d_E_sumOf_29 : decode b_E_sumOf 29 = .ok (.aload_n 0, 1) := by decide +kernel
theorem d_E_sumOf_30 : decode b_E_sumOf 30 = .ok (.getfield 10, 3) := by decide +kernel
theorem d_E_sumOf_33 : decode b_E_sumOf 33 = .ok (.getfield 145, 3) := by decide +kernel
theorem d_E_sumOf_36 : decode b_E_sumOf 36 = .ok (.iload_n 3, 1) := by decide +kernel
theorem d_E_sumOf_37 : decode b_E_sumOf 37 = .ok (.iaload, 1) := by decide +kernel
theorem d_E_sumOf_38 : decode b_E_sumOf 38 = .ok (.istore 5, 2) := by decide +kernel
theorem d_E_sumOf_40 : decode b_E_sumOf 40 = .ok (.iload_n 2, 1) := by decide +kernel
theorem d_E_sumOf_41 : decode b_E_sumOf 41 = .ok (.sipush 1000, 3) := by decide +kernel
theorem d_E_sumOf_44 : decode b_E_sumOf 44 = .ok (.iload_n 3, 1) := by decide +kernel
theorem d_E_sumOf_45 : decode b_E_sumOf 45 = .ok (.imul, 1) := by decide +kernel
theorem d_E_sumOf_46 : decode b_E_sumOf 46 = .ok (.iload 5, 2) := by decide +kernel
theorem d_E_sumOf_48 : decode b_E_sumOf 48 = .ok (.sipush 1000, 3) := by decide +kernel
theorem d_E_sumOf_51 : decode b_E_sumOf 51 = .ok (.irem, 1) := by decide +kernel
theorem d_E_sumOf_52 : decode b_E_sumOf 52 = .ok (.iadd, 1) := by decide +kernel
theorem d_E_sumOf_53 : decode b_E_sumOf 53 = .ok (.ixor, 1) := by decide +kernel
theorem d_E_sumOf_54 : decode b_E_sumOf 54 = .ok (.istore 6, 2) := by decide +kernel
theorem d_E_sumOf_56 : decode b_E_sumOf 56 = .ok (.iload 6, 2) := by decide +kernel
theorem d_E_sumOf_58 : decode b_E_sumOf 58 = .ok (.iconst 5, 1) := by decide +kernel
theorem d_E_sumOf_59 : decode b_E_sumOf 59 = .ok (.invokestatic 240, 3) := by decide +kernel
theorem d_E_sumOf_62 : decode b_E_sumOf 62 = .ok (.ldc 243, 2) := by decide +kernel
theorem d_E_sumOf_64 : decode b_E_sumOf 64 = .ok (.imul, 1) := by decide +kernel
theorem d_E_sumOf_65 : decode b_E_sumOf 65 = .ok (.istore_n 2, 1) := by decide +kernel
theorem d_E_sumOf_66 : decode b_E_sumOf 66 = .ok (.aload_n 0, 1) := by decide +kernel
theorem d_E_sumOf_67 : decode b_E_sumOf 67 = .ok (.getfield 10, 3) := by decide +kernel
theorem d_E_sumOf_70 : decode b_E_sumOf 70 = .ok (.iload_n 1, 1) := by decide +kernel
theorem d_E_sumOf_71 : decode b_E_sumOf 71 = .ok (.iload 5, 2) := by decide +kernel
theorem d_E_sumOf_73 : decode b_E_sumOf 73 = .ok (.invokevirtual 170, 3) := by decide +kernel
theorem d_E_sumOf_76 : decode b_E_sumOf 76 = .ok (.istore_n 3, 1) := by decide +kernel
theorem d_E_sumOf_77 : decode b_E_sumOf 77 = .ok (.iinc 4 1, 3) := by decide +kernel
theorem d_E_sumOf_80 : decode b_E_sumOf 80 = .ok (.goto (-65), 3) := by decide +kernel
theorem d_E_sumOf_83 : decode b_E_sumOf 83 = .ok (.iload_n 2, 1) := by decide +kernel
theorem d_E_sumOf_84 : decode b_E_sumOf 84 = .ok (.ireturn, 1) := by decide +kernel
theorem lk_E_240 : Cond.methodLink "EntryRows" 240 y_I_rotateLeft ∈ er_tbl := er_mt (i := 500) (by decide +kernel) rfl
theorem k_E_243 : Cond.constant "EntryRows" 243 (-2048144789) ∈ er_tbl := er_mt (i := 503) (by decide +kernel) rfl
abbrev y_E_boardAt : MethodName := ⟨"EntryRows", "boardAt", "(II)I"⟩
abbrev b_E_boardAt : ByteArray := prog_1_method_18_code
abbrev w_E_boardAt : Cond := .code y_E_boardAt b_E_boardAt 3 (some .int)
theorem cal_E_boardAt : er_Cal y_E_boardAt w_E_boardAt 3 2 := ⟨er_mt (i := 495) (by decide +kernel) rfl, er_mt (i := 1) (by decide +kernel) rfl, ⟨by decide, by decide⟩, by decide +kernel, b_E_boardAt, (some .int), [], Or.inl rfl⟩
theorem in_E_boardAt : Cond.instanceMethod y_E_boardAt ∈ er_tbl := er_mt (i := 493) (by decide +kernel) rfl
theorem se_E_boardAt : Cond.selects "EntryRows" y_E_boardAt y_E_boardAt ∈ er_tbl := er_mt (i := 494) (by decide +kernel) rfl
theorem d_E_boardAt_0 : decode b_E_boardAt 0 = .ok (.aload_n 0, 1) := by decide +kernel
theorem d_E_boardAt_1 : decode b_E_boardAt 1 = .ok (.iload_n 1, 1) := by decide +kernel
theorem d_E_boardAt_2 : decode b_E_boardAt 2 = .ok (.invokevirtual 65, 3) := by decide +kernel
theorem d_E_boardAt_5 : decode b_E_boardAt 5 = .ok (.iload_n 2, 1) := by decide +kernel
theorem d_E_boardAt_6 : decode b_E_boardAt 6 = .ok (.tableswitch 84 0 4 #[34, 52, 62, 71, 78], 34) := by decide +kernel
theorem d_E_boardAt_40 : decode b_E_boardAt 40 = .ok (.aload_n 0, 1) := by decide +kernel
theorem d_E_boardAt_41 : decode b_E_boardAt 41 = .ok (.getfield 19, 3) := by decide +kernel
theorem d_E_boardAt_44 : decode b_E_boardAt 44 = .ok (.getfield 196, 3) := by decide +kernel
theorem d_E_boardAt_47 : decode b_E_boardAt 47 = .ok (.iload_n 1, 1) := by decide +kernel
theorem d_E_boardAt_48 : decode b_E_boardAt 48 = .ok (.baload, 1) := by decide +kernel
theorem d_E_boardAt_49 : decode b_E_boardAt 49 = .ok (.ifCond .eq 7, 3) := by decide +kernel
theorem d_E_boardAt_52 : decode b_E_boardAt 52 = .ok (.iconst 1, 1) := by decide +kernel
theorem d_E_boardAt_53 : decode b_E_boardAt 53 = .ok (.goto 4, 3) := by decide +kernel
theorem d_E_boardAt_56 : decode b_E_boardAt 56 = .ok (.iconst 0, 1) := by decide +kernel
theorem d_E_boardAt_57 : decode b_E_boardAt 57 = .ok (.ireturn, 1) := by decide +kernel
theorem d_E_boardAt_58 : decode b_E_boardAt 58 = .ok (.aload_n 0, 1) := by decide +kernel
theorem d_E_boardAt_59 : decode b_E_boardAt 59 = .ok (.getfield 19, 3) := by decide +kernel
theorem d_E_boardAt_62 : decode b_E_boardAt 62 = .ok (.getfield 88, 3) := by decide +kernel
theorem d_E_boardAt_65 : decode b_E_boardAt 65 = .ok (.iload_n 1, 1) := by decide +kernel
theorem d_E_boardAt_66 : decode b_E_boardAt 66 = .ok (.iaload, 1) := by decide +kernel
theorem d_E_boardAt_67 : decode b_E_boardAt 67 = .ok (.ireturn, 1) := by decide +kernel
theorem d_E_boardAt_68 : decode b_E_boardAt 68 = .ok (.aload_n 0, 1) := by decide +kernel
theorem d_E_boardAt_69 : decode b_E_boardAt 69 = .ok (.getfield 10, 3) := by decide +kernel
theorem d_E_boardAt_72 : decode b_E_boardAt 72 = .ok (.iload_n 1, 1) := by decide +kernel
theorem d_E_boardAt_73 : decode b_E_boardAt 73 = .ok (.invokevirtual 155, 3) := by decide +kernel
theorem d_E_boardAt_76 : decode b_E_boardAt 76 = .ok (.ireturn, 1) := by decide +kernel
theorem d_E_boardAt_77 : decode b_E_boardAt 77 = .ok (.aload_n 0, 1) := by decide +kernel
theorem d_E_boardAt_78 : decode b_E_boardAt 78 = .ok (.iload_n 1, 1) := by decide +kernel
theorem d_E_boardAt_79 : decode b_E_boardAt 79 = .ok (.iconst (-1), 1) := by decide +kernel
theorem d_E_boardAt_80 : decode b_E_boardAt 80 = .ok (.invokevirtual 114, 3) := by decide +kernel
theorem d_E_boardAt_83 : decode b_E_boardAt 83 = .ok (.ireturn, 1) := by decide +kernel
theorem d_E_boardAt_84 : decode b_E_boardAt 84 = .ok (.aload_n 0, 1) := by decide +kernel
theorem d_E_boardAt_85 : decode b_E_boardAt 85 = .ok (.iload_n 1, 1) := by decide +kernel
theorem d_E_boardAt_86 : decode b_E_boardAt 86 = .ok (.invokevirtual 199, 3) := by decide +kernel
theorem d_E_boardAt_89 : decode b_E_boardAt 89 = .ok (.ireturn, 1) := by decide +kernel
theorem d_E_boardAt_90 : decode b_E_boardAt 90 = .ok (.new 191, 3) := by decide +kernel
theorem d_E_boardAt_93 : decode b_E_boardAt 93 = .ok (.dup, 1) := by decide +kernel
theorem d_E_boardAt_94 : decode b_E_boardAt 94 = .ok (.ldc 193, 2) := by decide +kernel
theorem d_E_boardAt_96 : decode b_E_boardAt 96 = .ok (.invokespecial 195, 3) := by decide +kernel
theorem d_E_boardAt_99 : decode b_E_boardAt 99 = .ok (.athrow, 1) := by decide +kernel
theorem lk_E_199 : Cond.methodLink "EntryRows" 199 y_E_sumOf ∈ er_tbl ∨ ∃ host, Cond.methodLinkNest "EntryRows" 199 y_E_sumOf host ∈ er_tbl := Or.inl (er_mt (i := 496) (by decide +kernel) rfl)
abbrev y_P_countInside : MethodName := ⟨"EntryRows$Persons", "countInside", "()I"⟩
abbrev b_P_countInside : ByteArray := prog_3_method_9_code
abbrev w_P_countInside : Cond := .code y_P_countInside b_P_countInside 1 (some .int)
theorem cal_P_countInside : er_Cal y_P_countInside w_P_countInside 1 0 := ⟨er_mt (i := 514) (by decide +kernel) rfl, er_mt (i := 2) (by decide +kernel) rfl, ⟨by decide, by decide⟩, by decide +kernel, b_P_countInside, (some .int), [], Or.inl rfl⟩
theorem in_P_countInside : Cond.instanceMethod y_P_countInside ∈ er_tbl := er_mt (i := 513) (by decide +kernel) rfl
theorem se_P_countInside : Cond.selects "EntryRows$Persons" y_P_countInside y_P_countInside ∈ er_tbl := er_ms (i := 24) (by decide +kernel) rfl
theorem d_P_countInside_0 : decode b_P_countInside 0 = .ok (.bipush 40, 2) := by decide +kernel
theorem d_P_countInside_2 : decode b_P_countInside 2 = .ok (.aload_n 0, 1) := by decide +kernel
theorem d_P_countInside_3 : decode b_P_countInside 3 = .ok (.iconst (-1), 1) := by decide +kernel
theorem d_P_countInside_4 : decode b_P_countInside 4 = .ok (.invokevirtual 68, 3) := by decide +kernel
theorem d_P_countInside_7 : decode b_P_countInside 7 = .ok (.isub, 1) := by decide +kernel
theorem d_P_countInside_8 : decode b_P_countInside 8 = .ok (.ireturn, 1) := by decide +kernel
theorem lk_P_68 : Cond.methodLink "EntryRows$Persons" 68 y_P_countOn ∈ er_tbl ∨ ∃ host, Cond.methodLinkNest "EntryRows$Persons" 68 y_P_countOn host ∈ er_tbl := Or.inl (er_mt (i := 515) (by decide +kernel) rfl)
abbrev y_B_countOpen : MethodName := ⟨"EntryRows$Boards", "countOpen", "()I"⟩
abbrev b_B_countOpen : ByteArray := prog_2_method_5_code
abbrev w_B_countOpen : Cond := .code y_B_countOpen b_B_countOpen 3 (some .int)
theorem cal_B_countOpen : er_Cal y_B_countOpen w_B_countOpen 3 0 := ⟨er_mt (i := 519) (by decide +kernel) rfl, er_mt (i := 4) (by decide +kernel) rfl, ⟨by decide, by decide⟩, by decide +kernel, b_B_countOpen, (some .int), [], Or.inl rfl⟩
theorem in_B_countOpen : Cond.instanceMethod y_B_countOpen ∈ er_tbl := er_mt (i := 518) (by decide +kernel) rfl
theorem se_B_countOpen : Cond.selects "EntryRows$Boards" y_B_countOpen y_B_countOpen ∈ er_tbl := er_ms (i := 25) (by decide +kernel) rfl
theorem d_B_countOpen_0 : decode b_B_countOpen 0 = .ok (.iconst 0, 1) := by decide +kernel
theorem d_B_countOpen_1 : decode b_B_countOpen 1 = .ok (.istore_n 1, 1) := by decide +kernel
theorem d_B_countOpen_2 : decode b_B_countOpen 2 = .ok (.iconst 0, 1) := by decide +kernel
theorem d_B_countOpen_3 : decode b_B_countOpen 3 = .ok (.istore_n 2, 1) := by decide +kernel
theorem d_B_countOpen_4 : decode b_B_countOpen 4 = .ok (.iload_n 2, 1) := by decide +kernel
theorem d_B_countOpen_5 : decode b_B_countOpen 5 = .ok (.aload_n 0, 1) := by decide +kernel
theorem d_B_countOpen_6 : decode b_B_countOpen 6 = .ok (.getfield 28, 3) := by decide +kernel
theorem d_B_countOpen_9 : decode b_B_countOpen 9 = .ok (.if_icmp .ge 21, 3) := by decide +kernel
theorem d_B_countOpen_12 : decode b_B_countOpen 12 = .ok (.aload_n 0, 1) := by decide +kernel
theorem d_B_countOpen_13 : decode b_B_countOpen 13 = .ok (.getfield 9, 3) := by decide +kernel
theorem d_B_countOpen_16 : decode b_B_countOpen 16 = .ok (.iload_n 2, 1) := by decide +kernel
theorem d_B_countOpen_17 : decode b_B_countOpen 17 = .ok (.baload, 1) := by decide +kernel
theorem d_B_countOpen_18 : decode b_B_countOpen 18 = .ok (.ifCond .eq 6, 3) := by decide +kernel
theorem d_B_countOpen_21 : decode b_B_countOpen 21 = .ok (.iinc 1 1, 3) := by decide +kernel
theorem d_B_countOpen_24 : decode b_B_countOpen 24 = .ok (.iinc 2 1, 3) := by decide +kernel
theorem d_B_countOpen_27 : decode b_B_countOpen 27 = .ok (.goto (-23), 3) := by decide +kernel
theorem d_B_countOpen_30 : decode b_B_countOpen 30 = .ok (.iload_n 1, 1) := by decide +kernel
theorem d_B_countOpen_31 : decode b_B_countOpen 31 = .ok (.ireturn, 1) := by decide +kernel
abbrev y_E_count : MethodName := ⟨"EntryRows", "count", "(I)I"⟩
abbrev b_E_count : ByteArray := prog_1_method_19_code
abbrev w_E_count : Cond := .code y_E_count b_E_count 2 (some .int)
theorem cal_E_count : er_Cal y_E_count w_E_count 2 1 := ⟨er_mt (i := 510) (by decide +kernel) rfl, er_mt (i := 1) (by decide +kernel) rfl, ⟨by decide, by decide⟩, by decide +kernel, b_E_count, (some .int), [], Or.inl rfl⟩
theorem in_E_count : Cond.instanceMethod y_E_count ∈ er_tbl := er_mt (i := 508) (by decide +kernel) rfl
theorem se_E_count : Cond.selects "EntryRows" y_E_count y_E_count ∈ er_tbl := er_mt (i := 509) (by decide +kernel) rfl
theorem d_E_count_0 : decode b_E_count 0 = .ok (.iload_n 1, 1) := by decide +kernel
theorem d_E_count_1 : decode b_E_count 1 = .ok (.tableswitch 57 0 3 #[31, 36, 44, 49], 31) := by decide +kernel
theorem d_E_count_32 : decode b_E_count 32 = .ok (.aload_n 0, 1) := by decide +kernel
theorem d_E_count_33 : decode b_E_count 33 = .ok (.getfield 30, 3) := by decide +kernel
theorem d_E_count_36 : decode b_E_count 36 = .ok (.ireturn, 1) := by decide +kernel
theorem d_E_count_37 : decode b_E_count 37 = .ok (.aload_n 0, 1) := by decide +kernel
theorem d_E_count_38 : decode b_E_count 38 = .ok (.getfield 10, 3) := by decide +kernel
theorem d_E_count_41 : decode b_E_count 41 = .ok (.invokevirtual 202, 3) := by decide +kernel
theorem d_E_count_44 : decode b_E_count 44 = .ok (.ireturn, 1) := by decide +kernel
theorem d_E_count_45 : decode b_E_count 45 = .ok (.aload_n 0, 1) := by decide +kernel
theorem d_E_count_46 : decode b_E_count 46 = .ok (.getfield 34, 3) := by decide +kernel
theorem d_E_count_49 : decode b_E_count 49 = .ok (.ireturn, 1) := by decide +kernel
theorem d_E_count_50 : decode b_E_count 50 = .ok (.aload_n 0, 1) := by decide +kernel
theorem d_E_count_51 : decode b_E_count 51 = .ok (.getfield 19, 3) := by decide +kernel
theorem d_E_count_54 : decode b_E_count 54 = .ok (.invokevirtual 206, 3) := by decide +kernel
theorem d_E_count_57 : decode b_E_count 57 = .ok (.ireturn, 1) := by decide +kernel
theorem d_E_count_58 : decode b_E_count 58 = .ok (.new 191, 3) := by decide +kernel
theorem d_E_count_61 : decode b_E_count 61 = .ok (.dup, 1) := by decide +kernel
theorem d_E_count_62 : decode b_E_count 62 = .ok (.ldc 193, 2) := by decide +kernel
theorem d_E_count_64 : decode b_E_count 64 = .ok (.invokespecial 195, 3) := by decide +kernel
theorem d_E_count_67 : decode b_E_count 67 = .ok (.athrow, 1) := by decide +kernel
theorem lk_E_202 : Cond.methodLink "EntryRows" 202 y_P_countInside ∈ er_tbl ∨ ∃ host, Cond.methodLinkNest "EntryRows" 202 y_P_countInside host ∈ er_tbl := Or.inr ⟨"EntryRows", er_mt (i := 511) (by decide +kernel) rfl⟩
theorem lk_E_206 : Cond.methodLink "EntryRows" 206 y_B_countOpen ∈ er_tbl ∨ ∃ host, Cond.methodLinkNest "EntryRows" 206 y_B_countOpen host ∈ er_tbl := Or.inr ⟨"EntryRows", er_mt (i := 516) (by decide +kernel) rfl⟩
theorem th_E_requireRange_10 {p : Program} {l : Launch} {e : Env} {s : State} {m : MethodId} {args : Array Value} {below : List Frame} {meth : Method} {c : Code} {G : er_G} {σ : er_S} {lv : List (Option Value)} (B : er_B p s m c meth b_E_requireRange "EntryRows" G (none) 3 0 21) (hl : l.admits e ∧ l.stackTraces = false) (hml : 3 = lv.length := by rfl) :
    er_J p l e { frames := 6, cells := 1, slots := 6, locals := 83 } s m args below meth c G (er_A G s.heap.size) s.heap (er_fin below G s 1 6 (.inr 1, σ)) 0 0 σ 10 lv [] :=
  ej_throw B.1 hl.2 1 (text := "a number outside its range") (names := ["java/lang/RuntimeException", "java/lang/Exception"]) (by decide) (by decide) (er_mt (i := 145) (by decide +kernel) rfl) (er_mt (i := 9) (by decide +kernel) rfl) (List.mem_of_getElem? (i := 0) rfl) at_E_218 (B.2.2.2.1.trans hml) d_E_requireRange_10 d_E_requireRange_13 d_E_requireRange_14 d_E_requireRange_16 d_E_requireRange_19 (B.2.2.2.2.2 _) (by decide) (by decide) (by decide) (by decide) B.2.2.1
theorem th_E_board_31 {p : Program} {l : Launch} {e : Env} {s : State} {m : MethodId} {args : Array Value} {below : List Frame} {meth : Method} {c : Code} {G : er_G} {σ : er_S} {lv : List (Option Value)} (B : er_B p s m c meth b_E_board "EntryRows" G (some .int) 4 0 21) (hl : l.admits e ∧ l.stackTraces = false) (hml : 4 = lv.length := by rfl) :
    er_J p l e { frames := 7, cells := 1, slots := 6, locals := 105 } s m args below meth c G (er_A G s.heap.size) s.heap (er_fin below G s 1 6 (.inr 3, σ)) 0 0 σ 31 lv [] :=
  ej_throw B.1 hl.2 3 (text := "there are as many boards as may be") (names := ["java/lang/RuntimeException", "java/lang/Exception"]) (by decide) (by decide) (er_mt (i := 218) (by decide +kernel) rfl) (er_mt (i := 10) (by decide +kernel) rfl) (List.mem_of_getElem? (i := 1) rfl) at_E_58 (B.2.2.2.1.trans hml) d_E_board_31 d_E_board_34 d_E_board_35 d_E_board_37 d_E_board_40 (B.2.2.2.2.2 _) (by decide) (by decide) (by decide) (by decide) B.2.2.1
theorem th_E_requireKnown_4 {p : Program} {l : Launch} {e : Env} {s : State} {m : MethodId} {args : Array Value} {below : List Frame} {meth : Method} {c : Code} {G : er_G} {σ : er_S} {lv : List (Option Value)} (B : er_B p s m c meth b_E_requireKnown "EntryRows" G (none) 1 0 21) (hl : l.admits e ∧ l.stackTraces = false) (hml : 1 = lv.length := by rfl) :
    er_J p l e { frames := 6, cells := 1, slots := 6, locals := 83 } s m args below meth c G (er_A G s.heap.size) s.heap (er_fin below G s 1 6 (.inr 0, σ)) 0 0 σ 4 lv [] :=
  ej_throw B.1 hl.2 0 (text := "an unknown number") (names := ["java/lang/RuntimeException", "java/lang/Exception"]) (by decide) (by decide) (er_mt (i := 258) (by decide +kernel) rfl) (er_mt (i := 11) (by decide +kernel) rfl) (List.mem_of_getElem? (i := 2) rfl) at_E_195 (B.2.2.2.1.trans hml) d_E_requireKnown_4 d_E_requireKnown_7 d_E_requireKnown_8 d_E_requireKnown_10 d_E_requireKnown_13 (B.2.2.2.2.2 _) (by decide) (by decide) (by decide) (by decide) B.2.2.1
theorem th_E_requireState_4 {p : Program} {l : Launch} {e : Env} {s : State} {m : MethodId} {args : Array Value} {below : List Frame} {meth : Method} {c : Code} {G : er_G} {σ : er_S} {lv : List (Option Value)} (B : er_B p s m c meth b_E_requireState "EntryRows" G (none) 1 0 21) (hl : l.admits e ∧ l.stackTraces = false) (hml : 1 = lv.length := by rfl) :
    er_J p l e { frames := 6, cells := 1, slots := 6, locals := 83 } s m args below meth c G (er_A G s.heap.size) s.heap (er_fin below G s 1 6 (.inr 2, σ)) 0 0 σ 4 lv [] :=
  ej_throw B.1 hl.2 2 (text := "not in this state") (names := ["java/lang/RuntimeException", "java/lang/Exception"]) (by decide) (by decide) (er_mt (i := 287) (by decide +kernel) rfl) (er_mt (i := 12) (by decide +kernel) rfl) (List.mem_of_getElem? (i := 3) rfl) at_E_226 (B.2.2.2.1.trans hml) d_E_requireState_4 d_E_requireState_7 d_E_requireState_8 d_E_requireState_10 d_E_requireState_13 (B.2.2.2.2.2 _) (by decide) (by decide) (by decide) (by decide) B.2.2.1
theorem th_E_member_59 {p : Program} {l : Launch} {e : Env} {s : State} {m : MethodId} {args : Array Value} {below : List Frame} {meth : Method} {c : Code} {G : er_G} {σ : er_S} {lv : List (Option Value)} (B : er_B p s m c meth b_E_member "EntryRows" G (some .int) 4 0 21) (hl : l.admits e ∧ l.stackTraces = false) (hml : 4 = lv.length := by rfl) :
    er_J p l e { frames := 8, cells := 1, slots := 6, locals := 124 } s m args below meth c G (er_A G s.heap.size) s.heap (er_fin below G s 1 6 (.inr 3, σ)) 0 0 σ 59 lv [] :=
  ej_throw B.1 hl.2 3 (text := "the team has as many members as may be") (names := ["java/lang/RuntimeException", "java/lang/Exception"]) (by decide) (by decide) (er_mt (i := 218) (by decide +kernel) rfl) (er_mt (i := 10) (by decide +kernel) rfl) (List.mem_of_getElem? (i := 4) rfl) at_E_58 (B.2.2.2.1.trans hml) d_E_member_59 d_E_member_62 d_E_member_63 d_E_member_65 d_E_member_68 (B.2.2.2.2.2 _) (by decide) (by decide) (by decide) (by decide) B.2.2.1
theorem th_E_person_160 {p : Program} {l : Launch} {e : Env} {s : State} {m : MethodId} {args : Array Value} {below : List Frame} {meth : Method} {c : Code} {G : er_G} {σ : er_S} {lv : List (Option Value)} (B : er_B p s m c meth b_E_person "EntryRows" G (some .int) 3 0 21) (hl : l.admits e ∧ l.stackTraces = false) (hml : 3 = lv.length := by rfl) :
    er_J p l e { frames := 8, cells := 1, slots := 6, locals := 123 } s m args below meth c G (er_A G s.heap.size) s.heap (er_fin below G s 1 6 (.inr 0, σ)) 0 0 σ 160 lv [] :=
  ej_throw B.1 hl.2 0 (text := "no such what") (names := ["java/lang/RuntimeException", "java/lang/Exception"]) (by decide) (by decide) (er_mt (i := 258) (by decide +kernel) rfl) (er_mt (i := 11) (by decide +kernel) rfl) (List.mem_of_getElem? (i := 5) rfl) at_E_195 (B.2.2.2.1.trans hml) d_E_person_160 d_E_person_163 d_E_person_164 d_E_person_166 d_E_person_169 (B.2.2.2.2.2 _) (by decide) (by decide) (by decide) (by decide) B.2.2.1
theorem th_E_boardAt_90 {p : Program} {l : Launch} {e : Env} {s : State} {m : MethodId} {args : Array Value} {below : List Frame} {meth : Method} {c : Code} {G : er_G} {σ : er_S} {lv : List (Option Value)} (B : er_B p s m c meth b_E_boardAt "EntryRows" G (some .int) 3 0 21) (hl : l.admits e ∧ l.stackTraces = false) (hml : 3 = lv.length := by rfl) :
    er_J p l e { frames := 8, cells := 1, slots := 6, locals := 124 } s m args below meth c G (er_A G s.heap.size) s.heap (er_fin below G s 1 6 (.inr 0, σ)) 0 0 σ 90 lv [] :=
  ej_throw B.1 hl.2 0 (text := "no such what") (names := ["java/lang/RuntimeException", "java/lang/Exception"]) (by decide) (by decide) (er_mt (i := 258) (by decide +kernel) rfl) (er_mt (i := 11) (by decide +kernel) rfl) (List.mem_of_getElem? (i := 5) rfl) at_E_195 (B.2.2.2.1.trans hml) d_E_boardAt_90 d_E_boardAt_93 d_E_boardAt_94 d_E_boardAt_96 d_E_boardAt_99 (B.2.2.2.2.2 _) (by decide) (by decide) (by decide) (by decide) B.2.2.1
theorem th_E_count_58 {p : Program} {l : Launch} {e : Env} {s : State} {m : MethodId} {args : Array Value} {below : List Frame} {meth : Method} {c : Code} {G : er_G} {σ : er_S} {lv : List (Option Value)} (B : er_B p s m c meth b_E_count "EntryRows" G (some .int) 2 0 21) (hl : l.admits e ∧ l.stackTraces = false) (hml : 2 = lv.length := by rfl) :
    er_J p l e { frames := 6, cells := 1, slots := 6, locals := 83 } s m args below meth c G (er_A G s.heap.size) s.heap (er_fin below G s 1 6 (.inr 0, σ)) 0 0 σ 58 lv [] :=
  ej_throw B.1 hl.2 0 (text := "no such what") (names := ["java/lang/RuntimeException", "java/lang/Exception"]) (by decide) (by decide) (er_mt (i := 258) (by decide +kernel) rfl) (er_mt (i := 11) (by decide +kernel) rfl) (List.mem_of_getElem? (i := 5) rfl) at_E_195 (B.2.2.2.1.trans hml) d_E_count_58 d_E_count_61 d_E_count_62 d_E_count_64 d_E_count_67 (B.2.2.2.2.2 _) (by decide) (by decide) (by decide) (by decide) B.2.2.1
