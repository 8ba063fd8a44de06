theorem ww_1 : (Jvm.Cond.initialized "PakeDesk") ∈ gt_tbl := gt_m (List.mem_append_right _ (List.mem_append_left _ (List.mem_of_getElem? (i := 1) (by decide +kernel)))) (by decide)
theorem ww_36 : (Jvm.Cond.fieldLink "PakeDesk" (43 : Nat) "PakeDesk$User" "way" "I") ∈ gt_tbl := gt_m (List.mem_append_right _ (List.mem_append_left _ (List.mem_of_getElem? (i := 36) (by decide +kernel)))) (by decide)
theorem ww_68 : (Jvm.Cond.fieldLink "PakeDesk" (11 : Nat) "PakeDesk" "users" "[LPakeDesk$User;") ∈ gt_tbl := gt_m (List.mem_append_right _ (List.mem_append_left _ (List.mem_of_getElem? (i := 68) (by decide +kernel)))) (by decide)
theorem ww_69 : (Jvm.Cond.fieldLink "PakeDesk" (20 : Nat) "PakeDesk" "opened" "[LPakeDesk$Session;") ∈ gt_tbl := gt_m (List.mem_append_right _ (List.mem_append_left _ (List.mem_of_getElem? (i := 69) (by decide +kernel)))) (by decide)
theorem ww_70 : (Jvm.Cond.fieldLink "PakeDesk" (24 : Nat) "PakeDesk" "openedCount" "I") ∈ gt_tbl := gt_m (List.mem_append_right _ (List.mem_append_left _ (List.mem_of_getElem? (i := 70) (by decide +kernel)))) (by decide)
theorem ww_71 : (Jvm.Cond.fieldLink "PakeDesk" (28 : Nat) "PakeDesk" "clock" "I") ∈ gt_tbl := gt_m (List.mem_append_right _ (List.mem_append_left _ (List.mem_of_getElem? (i := 71) (by decide +kernel)))) (by decide)
theorem ww_85 : (Jvm.Cond.methodLink "PakeDesk" (31 : Nat) ({ cls := "PakeDesk", name := "findUser", desc := "(I)LPakeDesk$User;" } : Jvm.MethodName)) ∈ gt_tbl := gt_m (List.mem_append_right _ (List.mem_append_left _ (List.mem_of_getElem? (i := 85) (by decide +kernel)))) (by decide)
theorem ww_87 : (Jvm.Cond.instanceMethod ({ cls := "PakeDesk", name := "findUser", desc := "(I)LPakeDesk$User;" } : Jvm.MethodName)) ∈ gt_tbl := gt_m (List.mem_append_right _ (List.mem_append_left _ (List.mem_of_getElem? (i := 87) (by decide +kernel)))) (by decide)
theorem ww_88 : (Jvm.Cond.code ({ cls := "PakeDesk", name := "findUser", desc := "(I)LPakeDesk$User;" } : Jvm.MethodName) prog_1_method_17_code (2 : Nat) (Option.some (Jvm.ClassFile.FieldType.object "PakeDesk$User"))) ∈ gt_tbl := gt_m (List.mem_append_right _ (List.mem_append_left _ (List.mem_of_getElem? (i := 88) (by decide +kernel)))) (by decide)
theorem ww_89 : (Jvm.Cond.methodLink "PakeDesk" (35 : Nat) ({ cls := "PakeDesk", name := "isWay", desc := "(I)Z" } : Jvm.MethodName)) ∈ gt_tbl := gt_m (List.mem_append_right _ (List.mem_append_left _ (List.mem_of_getElem? (i := 89) (by decide +kernel)))) (by decide)
theorem ww_90 : (Jvm.Cond.static ({ cls := "PakeDesk", name := "isWay", desc := "(I)Z" } : Jvm.MethodName)) ∈ gt_tbl := gt_m (List.mem_append_right _ (List.mem_append_left _ (List.mem_of_getElem? (i := 90) (by decide +kernel)))) (by decide)
theorem ww_91 : (Jvm.Cond.code ({ cls := "PakeDesk", name := "isWay", desc := "(I)Z" } : Jvm.MethodName) prog_1_method_16_code (1 : Nat) (Option.some Jvm.ClassFile.FieldType.boolean)) ∈ gt_tbl := gt_m (List.mem_append_right _ (List.mem_append_left _ (List.mem_of_getElem? (i := 91) (by decide +kernel)))) (by decide)
theorem ww_92 : (Jvm.Cond.methodLink "PakeDesk" (39 : Nat) ({ cls := "PakeDesk$User", name := "keepRecord", desc := "(IJJ)V" } : Jvm.MethodName)) ∈ gt_tbl := gt_m (List.mem_append_right _ (List.mem_append_left _ (List.mem_of_getElem? (i := 92) (by decide +kernel)))) (by decide)
theorem ww_93 : (Jvm.Cond.instanceMethod ({ cls := "PakeDesk$User", name := "keepRecord", desc := "(IJJ)V" } : Jvm.MethodName)) ∈ gt_tbl := gt_m (List.mem_append_right _ (List.mem_append_left _ (List.mem_of_getElem? (i := 93) (by decide +kernel)))) (by decide)
theorem ww_94 : (Jvm.Cond.selects "PakeDesk$User" ({ cls := "PakeDesk$User", name := "keepRecord", desc := "(IJJ)V" } : Jvm.MethodName) ({ cls := "PakeDesk$User", name := "keepRecord", desc := "(IJJ)V" } : Jvm.MethodName)) ∈ gt_tbl := gt_m (List.mem_append_right _ (List.mem_append_left _ (List.mem_of_getElem? (i := 94) (by decide +kernel)))) (by decide)
theorem ww_95 : (Jvm.Cond.code ({ cls := "PakeDesk$User", name := "keepRecord", desc := "(IJJ)V" } : Jvm.MethodName) prog_7_method_4_code (6 : Nat) (Option.none : Option Jvm.ClassFile.FieldType)) ∈ gt_tbl := gt_m (List.mem_append_right _ (List.mem_append_left _ (List.mem_of_getElem? (i := 95) (by decide +kernel)))) (by decide)
theorem ww_142 : (Jvm.Cond.methodLink "PakeDesk" (46 : Nat) ({ cls := "PakeDesk$User", name := "saltOrFake", desc := "()J" } : Jvm.MethodName)) ∈ gt_tbl := gt_m (List.mem_append_right _ (List.mem_append_left _ (List.mem_of_getElem? (i := 142) (by decide +kernel)))) (by decide)
theorem ww_150 : (Jvm.Cond.methodLink "PakeDesk" (85 : Nat) ({ cls := "PakeDesk", name := "lastMessageOf", desc := "(I)J" } : Jvm.MethodName)) ∈ gt_tbl := gt_m (List.mem_append_right _ (List.mem_append_left _ (List.mem_of_getElem? (i := 150) (by decide +kernel)))) (by decide)
theorem ww_152 : (Jvm.Cond.instanceMethod ({ cls := "PakeDesk", name := "lastMessageOf", desc := "(I)J" } : Jvm.MethodName)) ∈ gt_tbl := gt_m (List.mem_append_right _ (List.mem_append_left _ (List.mem_of_getElem? (i := 152) (by decide +kernel)))) (by decide)
theorem ww_153 : (Jvm.Cond.code ({ cls := "PakeDesk", name := "lastMessageOf", desc := "(I)J" } : Jvm.MethodName) prog_1_method_19_code (3 : Nat) (Option.some Jvm.ClassFile.FieldType.long)) ∈ gt_tbl := gt_m (List.mem_append_right _ (List.mem_append_left _ (List.mem_of_getElem? (i := 153) (by decide +kernel)))) (by decide)
theorem ww_154 : (Jvm.Cond.methodLink "PakeDesk" (89 : Nat) ({ cls := "PakeDesk", name := "findSession", desc := "(I)LPakeDesk$Session;" } : Jvm.MethodName)) ∈ gt_tbl := gt_m (List.mem_append_right _ (List.mem_append_left _ (List.mem_of_getElem? (i := 154) (by decide +kernel)))) (by decide)
theorem ww_156 : (Jvm.Cond.instanceMethod ({ cls := "PakeDesk", name := "findSession", desc := "(I)LPakeDesk$Session;" } : Jvm.MethodName)) ∈ gt_tbl := gt_m (List.mem_append_right _ (List.mem_append_left _ (List.mem_of_getElem? (i := 156) (by decide +kernel)))) (by decide)
theorem ww_157 : (Jvm.Cond.code ({ cls := "PakeDesk", name := "findSession", desc := "(I)LPakeDesk$Session;" } : Jvm.MethodName) prog_1_method_18_code (2 : Nat) (Option.some (Jvm.ClassFile.FieldType.object "PakeDesk$Session"))) ∈ gt_tbl := gt_m (List.mem_append_right _ (List.mem_append_left _ (List.mem_of_getElem? (i := 157) (by decide +kernel)))) (by decide)
theorem ww_162 : (Jvm.Cond.methodLink "PakeDesk" (107 : Nat) ({ cls := "PakeDesk$Session", name := "stateAt", desc := "(I)I" } : Jvm.MethodName)) ∈ gt_tbl := gt_m (List.mem_append_right _ (List.mem_append_left _ (List.mem_of_getElem? (i := 162) (by decide +kernel)))) (by decide)
theorem ww_163 : (Jvm.Cond.instanceMethod ({ cls := "PakeDesk$Session", name := "stateAt", desc := "(I)I" } : Jvm.MethodName)) ∈ gt_tbl := gt_m (List.mem_append_right _ (List.mem_append_left _ (List.mem_of_getElem? (i := 163) (by decide +kernel)))) (by decide)
theorem ww_164 : (Jvm.Cond.sameMethod "PakeDesk$Session" "PakeDesk$Session" "stateAt" "(I)I") ∈ gt_tbl := gt_m (List.mem_append_right _ (List.mem_append_left _ (List.mem_of_getElem? (i := 164) (by decide +kernel)))) (by decide)
theorem ww_165 : (Jvm.Cond.selects "PakeDesk$Client" ({ cls := "PakeDesk$Session", name := "stateAt", desc := "(I)I" } : Jvm.MethodName) ({ cls := "PakeDesk$Session", name := "stateAt", desc := "(I)I" } : Jvm.MethodName)) ∈ gt_tbl := gt_m (List.mem_append_right _ (List.mem_append_left _ (List.mem_of_getElem? (i := 165) (by decide +kernel)))) (by decide)
theorem ww_166 : (Jvm.Cond.selects "PakeDesk$Server" ({ cls := "PakeDesk$Session", name := "stateAt", desc := "(I)I" } : Jvm.MethodName) ({ cls := "PakeDesk$Session", name := "stateAt", desc := "(I)I" } : Jvm.MethodName)) ∈ gt_tbl := gt_m (List.mem_append_right _ (List.mem_append_left _ (List.mem_of_getElem? (i := 166) (by decide +kernel)))) (by decide)
theorem ww_167 : (Jvm.Cond.code ({ cls := "PakeDesk$Session", name := "stateAt", desc := "(I)I" } : Jvm.MethodName) prog_6_method_2_code (3 : Nat) (Option.some Jvm.ClassFile.FieldType.int)) ∈ gt_tbl := gt_m (List.mem_append_right _ (List.mem_append_left _ (List.mem_of_getElem? (i := 167) (by decide +kernel)))) (by decide)
theorem ww_172 : (Jvm.Cond.methodLink "PakeDesk" (71 : Nat) ({ cls := "PakeDesk$User", name := "isBlockedAt", desc := "(I)Z" } : Jvm.MethodName)) ∈ gt_tbl := gt_m (List.mem_append_right _ (List.mem_append_left _ (List.mem_of_getElem? (i := 172) (by decide +kernel)))) (by decide)
theorem ww_173 : (Jvm.Cond.instanceMethod ({ cls := "PakeDesk$User", name := "isBlockedAt", desc := "(I)Z" } : Jvm.MethodName)) ∈ gt_tbl := gt_m (List.mem_append_right _ (List.mem_append_left _ (List.mem_of_getElem? (i := 173) (by decide +kernel)))) (by decide)
theorem ww_174 : (Jvm.Cond.selects "PakeDesk$User" ({ cls := "PakeDesk$User", name := "isBlockedAt", desc := "(I)Z" } : Jvm.MethodName) ({ cls := "PakeDesk$User", name := "isBlockedAt", desc := "(I)Z" } : Jvm.MethodName)) ∈ gt_tbl := gt_m (List.mem_append_right _ (List.mem_append_left _ (List.mem_of_getElem? (i := 174) (by decide +kernel)))) (by decide)
theorem ww_175 : (Jvm.Cond.code ({ cls := "PakeDesk$User", name := "isBlockedAt", desc := "(I)Z" } : Jvm.MethodName) prog_7_method_9_code (2 : Nat) (Option.some Jvm.ClassFile.FieldType.boolean)) ∈ gt_tbl := gt_m (List.mem_append_right _ (List.mem_append_left _ (List.mem_of_getElem? (i := 175) (by decide +kernel)))) (by decide)
theorem ww_313 : (Jvm.Cond.fieldLink "PakeDesk" (98 : Nat) "PakeDesk$Session" "state" "I") ∈ gt_tbl := gt_m (List.mem_append_right _ (List.mem_append_right _ (List.mem_append_left _ (List.mem_of_getElem? (i := 73) (by decide +kernel))))) (by decide)
theorem ww_329 : (Jvm.Cond.fieldLink "PakeDesk" (103 : Nat) "PakeDesk$Session" "key" "J") ∈ gt_tbl := gt_m (List.mem_append_right _ (List.mem_append_right _ (List.mem_append_left _ (List.mem_of_getElem? (i := 89) (by decide +kernel))))) (by decide)
theorem ww_344 : (Jvm.Cond.fieldLink "PakeDesk" (113 : Nat) "PakeDesk$Session" "message" "J") ∈ gt_tbl := gt_m (List.mem_append_right _ (List.mem_append_right _ (List.mem_append_left _ (List.mem_of_getElem? (i := 104) (by decide +kernel))))) (by decide)
theorem wf_888 : (Jvm.Cond.castable "PakeDesk$Client" "PakeDesk$Session") ∈ nw_tbl := List.mem_filter.mpr ⟨List.mem_append_right _ (List.mem_append_right _ (List.mem_append_right _ (List.mem_append_right _ (List.mem_of_getElem? (i := 168) (by decide +kernel))))), by decide⟩
theorem wf_889 : (Jvm.Cond.castable "PakeDesk$Server" "PakeDesk$Session") ∈ nw_tbl := List.mem_filter.mpr ⟨List.mem_append_right _ (List.mem_append_right _ (List.mem_append_right _ (List.mem_append_right _ (List.mem_of_getElem? (i := 169) (by decide +kernel))))), by decide⟩
theorem cy_D_findUser : tb_C my_D_findUser mb_D_findUser 2 (some (.object "PakeDesk$User")) 1 := ⟨ww_88, ww_1, by decide, by decide, by decide +kernel⟩
theorem cy_D_isWay : tb_C my_D_isWay mb_D_isWay 1 (some .boolean) 1 := ⟨ww_91, ww_1, by decide, by decide, by decide +kernel⟩
theorem cy_U_keepRecord : tb_C my_U_keepRecord mb_U_keepRecord 6 none 3 := ⟨ww_95, ww_2, by decide, by decide, by decide +kernel⟩
theorem cy_U_isBlockedAt : tb_C my_U_isBlockedAt mb_U_isBlockedAt 2 (some .boolean) 1 := ⟨ww_175, ww_2, by decide, by decide, by decide +kernel⟩
theorem cy_D_findSession : tb_C my_D_findSession mb_D_findSession 2 (some (.object "PakeDesk$Session")) 1 := ⟨ww_157, ww_1, by decide, by decide, by decide +kernel⟩
theorem cy_D_lastMessageOf : tb_C my_D_lastMessageOf mb_D_lastMessageOf 3 (some .long) 1 := ⟨ww_153, ww_1, by decide, by decide, by decide +kernel⟩
theorem cy_S_stateAt : tb_C my_S_stateAt mb_S_stateAt 3 (some .int) 1 := ⟨ww_167, ww_11, by decide, by decide, by decide +kernel⟩
theorem wp_D_findUser : Cond.selects "PakeDesk" ⟨"PakeDesk", "findUser", "(I)LPakeDesk$User;"⟩ ⟨"PakeDesk", "findUser", "(I)LPakeDesk$User;"⟩ ∈ gt_tbl := gt_m (List.mem_append_left _ (List.mem_map.mpr ⟨(⟨"PakeDesk", "findUser", "(I)LPakeDesk$User;"⟩, 4), by decide +kernel, rfl⟩)) (by decide)
theorem wp_D_findSession : Cond.selects "PakeDesk" ⟨"PakeDesk", "findSession", "(I)LPakeDesk$Session;"⟩ ⟨"PakeDesk", "findSession", "(I)LPakeDesk$Session;"⟩ ∈ gt_tbl := gt_m (List.mem_append_left _ (List.mem_map.mpr ⟨(⟨"PakeDesk", "findSession", "(I)LPakeDesk$Session;"⟩, 4), by decide +kernel, rfl⟩)) (by decide)
theorem wp_D_lastMessageOf : Cond.selects "PakeDesk" ⟨"PakeDesk", "lastMessageOf", "(I)J"⟩ ⟨"PakeDesk", "lastMessageOf", "(I)J"⟩ ∈ gt_tbl := gt_m (List.mem_append_left _ (List.mem_map.mpr ⟨(⟨"PakeDesk", "lastMessageOf", "(I)J"⟩, 4), by decide +kernel, rfl⟩)) (by decide)
theorem d_D_init_0 : decode mb_D_init 0 = .ok (.aload_n 0, 1) := by decide +kernel
theorem d_D_init_1 : decode mb_D_init 1 = .ok (.invokespecial 1, 3) := by decide +kernel
theorem d_D_init_4 : decode mb_D_init 4 = .ok (.aload_n 0, 1) := by decide +kernel
theorem d_D_init_5 : decode mb_D_init 5 = .ok (.bipush 8, 2) := by decide +kernel
theorem d_D_init_7 : decode mb_D_init 7 = .ok (.anewarray 9, 3) := by decide +kernel
theorem d_D_init_10 : decode mb_D_init 10 = .ok (.putfield 11, 3) := by decide +kernel
theorem d_D_init_13 : decode mb_D_init 13 = .ok (.iconst 0, 1) := by decide +kernel
theorem d_D_init_14 : decode mb_D_init 14 = .ok (.istore_n 2, 1) := by decide +kernel
theorem d_D_init_15 : decode mb_D_init 15 = .ok (.iload_n 2, 1) := by decide +kernel
theorem d_D_init_16 : decode mb_D_init 16 = .ok (.bipush 8, 2) := by decide +kernel
theorem d_D_init_18 : decode mb_D_init 18 = .ok (.if_icmp .ge 24, 3) := by decide +kernel
theorem d_D_init_21 : decode mb_D_init 21 = .ok (.aload_n 0, 1) := by decide +kernel
theorem d_D_init_22 : decode mb_D_init 22 = .ok (.getfield 11, 3) := by decide +kernel
theorem d_D_init_25 : decode mb_D_init 25 = .ok (.iload_n 2, 1) := by decide +kernel
theorem d_D_init_26 : decode mb_D_init 26 = .ok (.new 9, 3) := by decide +kernel
theorem d_D_init_29 : decode mb_D_init 29 = .ok (.dup, 1) := by decide +kernel
theorem d_D_init_30 : decode mb_D_init 30 = .ok (.iload_n 2, 1) := by decide +kernel
theorem d_D_init_31 : decode mb_D_init 31 = .ok (.iload_n 1, 1) := by decide +kernel
theorem d_D_init_32 : decode mb_D_init 32 = .ok (.invokespecial 15, 3) := by decide +kernel
theorem d_D_init_35 : decode mb_D_init 35 = .ok (.aastore, 1) := by decide +kernel
theorem d_D_init_36 : decode mb_D_init 36 = .ok (.iinc 2 1, 3) := by decide +kernel
theorem d_D_init_39 : decode mb_D_init 39 = .ok (.goto (-24), 3) := by decide +kernel
theorem d_D_init_42 : decode mb_D_init 42 = .ok (.aload_n 0, 1) := by decide +kernel
theorem d_D_init_43 : decode mb_D_init 43 = .ok (.bipush 40, 2) := by decide +kernel
theorem d_D_init_45 : decode mb_D_init 45 = .ok (.anewarray 18, 3) := by decide +kernel
theorem d_D_init_48 : decode mb_D_init 48 = .ok (.putfield 20, 3) := by decide +kernel
theorem d_D_init_51 : decode mb_D_init 51 = .ok (.aload_n 0, 1) := by decide +kernel
theorem d_D_init_52 : decode mb_D_init 52 = .ok (.iconst 0, 1) := by decide +kernel
theorem d_D_init_53 : decode mb_D_init 53 = .ok (.putfield 24, 3) := by decide +kernel
theorem d_D_init_56 : decode mb_D_init 56 = .ok (.aload_n 0, 1) := by decide +kernel
theorem d_D_init_57 : decode mb_D_init 57 = .ok (.iconst 0, 1) := by decide +kernel
theorem d_D_init_58 : decode mb_D_init 58 = .ok (.putfield 28, 3) := by decide +kernel
theorem d_D_init_61 : decode mb_D_init 61 = .ok (.return_, 1) := by decide +kernel
theorem d_D_register_0 : decode mb_D_register 0 = .ok (.aload_n 0, 1) := by decide +kernel
theorem d_D_register_1 : decode mb_D_register 1 = .ok (.iload_n 1, 1) := by decide +kernel
theorem d_D_register_2 : decode mb_D_register 2 = .ok (.invokevirtual 31, 3) := by decide +kernel
theorem d_D_register_5 : decode mb_D_register 5 = .ok (.astore 7, 2) := by decide +kernel
theorem d_D_register_7 : decode mb_D_register 7 = .ok (.aload 7, 2) := by decide +kernel
theorem d_D_register_9 : decode mb_D_register 9 = .ok (.ifnull 10, 3) := by decide +kernel
theorem d_D_register_12 : decode mb_D_register 12 = .ok (.iload_n 2, 1) := by decide +kernel
theorem d_D_register_13 : decode mb_D_register 13 = .ok (.invokestatic 35, 3) := by decide +kernel
theorem d_D_register_16 : decode mb_D_register 16 = .ok (.ifCond .ne 5, 3) := by decide +kernel
theorem d_D_register_19 : decode mb_D_register 19 = .ok (.iconst 0, 1) := by decide +kernel
theorem d_D_register_20 : decode mb_D_register 20 = .ok (.ireturn, 1) := by decide +kernel
theorem d_D_register_21 : decode mb_D_register 21 = .ok (.aload 7, 2) := by decide +kernel
theorem d_D_register_23 : decode mb_D_register 23 = .ok (.iload_n 2, 1) := by decide +kernel
theorem d_D_register_24 : decode mb_D_register 24 = .ok (.lload_n 3, 1) := by decide +kernel
theorem d_D_register_25 : decode mb_D_register 25 = .ok (.lload 5, 2) := by decide +kernel
theorem d_D_register_27 : decode mb_D_register 27 = .ok (.invokevirtual 39, 3) := by decide +kernel
theorem d_D_register_30 : decode mb_D_register 30 = .ok (.iconst 1, 1) := by decide +kernel
theorem d_D_register_31 : decode mb_D_register 31 = .ok (.ireturn, 1) := by decide +kernel
theorem d_D_forget_0 : decode mb_D_forget 0 = .ok (.aload_n 0, 1) := by decide +kernel
theorem d_D_forget_1 : decode mb_D_forget 1 = .ok (.iload_n 1, 1) := by decide +kernel
theorem d_D_forget_2 : decode mb_D_forget 2 = .ok (.invokevirtual 31, 3) := by decide +kernel
theorem d_D_forget_5 : decode mb_D_forget 5 = .ok (.astore_n 2, 1) := by decide +kernel
theorem d_D_forget_6 : decode mb_D_forget 6 = .ok (.aload_n 2, 1) := by decide +kernel
theorem d_D_forget_7 : decode mb_D_forget 7 = .ok (.ifnull 11, 3) := by decide +kernel
theorem d_D_forget_10 : decode mb_D_forget 10 = .ok (.aload_n 2, 1) := by decide +kernel
theorem d_D_forget_11 : decode mb_D_forget 11 = .ok (.getfield 43, 3) := by decide +kernel
theorem d_D_forget_14 : decode mb_D_forget 14 = .ok (.iconst (-1), 1) := by decide +kernel
theorem d_D_forget_15 : decode mb_D_forget 15 = .ok (.if_icmp .ne 5, 3) := by decide +kernel
theorem d_D_forget_18 : decode mb_D_forget 18 = .ok (.iconst 0, 1) := by decide +kernel
theorem d_D_forget_19 : decode mb_D_forget 19 = .ok (.ireturn, 1) := by decide +kernel
theorem d_D_forget_20 : decode mb_D_forget 20 = .ok (.aload_n 2, 1) := by decide +kernel
theorem d_D_forget_21 : decode mb_D_forget 21 = .ok (.iconst (-1), 1) := by decide +kernel
theorem d_D_forget_22 : decode mb_D_forget 22 = .ok (.putfield 43, 3) := by decide +kernel
theorem d_D_forget_25 : decode mb_D_forget 25 = .ok (.iconst 1, 1) := by decide +kernel
theorem d_D_forget_26 : decode mb_D_forget 26 = .ok (.ireturn, 1) := by decide +kernel
theorem d_D_way_0 : decode mb_D_way 0 = .ok (.aload_n 0, 1) := by decide +kernel
theorem d_D_way_1 : decode mb_D_way 1 = .ok (.iload_n 1, 1) := by decide +kernel
theorem d_D_way_2 : decode mb_D_way 2 = .ok (.invokevirtual 31, 3) := by decide +kernel
theorem d_D_way_5 : decode mb_D_way 5 = .ok (.astore_n 2, 1) := by decide +kernel
theorem d_D_way_6 : decode mb_D_way 6 = .ok (.aload_n 2, 1) := by decide +kernel
theorem d_D_way_7 : decode mb_D_way 7 = .ok (.ifnonnull 7, 3) := by decide +kernel
theorem d_D_way_10 : decode mb_D_way 10 = .ok (.iconst (-1), 1) := by decide +kernel
theorem d_D_way_11 : decode mb_D_way 11 = .ok (.goto 7, 3) := by decide +kernel
theorem d_D_way_14 : decode mb_D_way 14 = .ok (.aload_n 2, 1) := by decide +kernel
theorem d_D_way_15 : decode mb_D_way 15 = .ok (.getfield 43, 3) := by decide +kernel
theorem d_D_way_18 : decode mb_D_way 18 = .ok (.ireturn, 1) := by decide +kernel
theorem d_D_salt_0 : decode mb_D_salt 0 = .ok (.aload_n 0, 1) := by decide +kernel
theorem d_D_salt_1 : decode mb_D_salt 1 = .ok (.iload_n 1, 1) := by decide +kernel
theorem d_D_salt_2 : decode mb_D_salt 2 = .ok (.invokevirtual 31, 3) := by decide +kernel
theorem d_D_salt_5 : decode mb_D_salt 5 = .ok (.astore_n 2, 1) := by decide +kernel
theorem d_D_salt_6 : decode mb_D_salt 6 = .ok (.aload_n 2, 1) := by decide +kernel
theorem d_D_salt_7 : decode mb_D_salt 7 = .ok (.ifnonnull 7, 3) := by decide +kernel
theorem d_D_salt_10 : decode mb_D_salt 10 = .ok (.lconst 0, 1) := by decide +kernel
theorem d_D_salt_11 : decode mb_D_salt 11 = .ok (.goto 7, 3) := by decide +kernel
theorem d_D_salt_14 : decode mb_D_salt 14 = .ok (.aload_n 2, 1) := by decide +kernel
theorem d_D_salt_15 : decode mb_D_salt 15 = .ok (.invokevirtual 46, 3) := by decide +kernel
theorem d_D_salt_18 : decode mb_D_salt 18 = .ok (.lreturn, 1) := by decide +kernel
theorem d_D_client_0 : decode mb_D_client 0 = .ok (.aload_n 0, 1) := by decide +kernel
theorem d_D_client_1 : decode mb_D_client 1 = .ok (.iload_n 1, 1) := by decide +kernel
theorem d_D_client_2 : decode mb_D_client 2 = .ok (.invokevirtual 31, 3) := by decide +kernel
theorem d_D_client_5 : decode mb_D_client 5 = .ok (.astore 7, 2) := by decide +kernel
theorem d_D_client_7 : decode mb_D_client 7 = .ok (.aload 7, 2) := by decide +kernel
theorem d_D_client_9 : decode mb_D_client 9 = .ok (.ifnull 10, 3) := by decide +kernel
theorem d_D_client_12 : decode mb_D_client 12 = .ok (.iload_n 2, 1) := by decide +kernel
theorem d_D_client_13 : decode mb_D_client 13 = .ok (.invokestatic 35, 3) := by decide +kernel
theorem d_D_client_16 : decode mb_D_client 16 = .ok (.ifCond .ne 13, 3) := by decide +kernel
theorem d_D_client_19 : decode mb_D_client 19 = .ok (.new 50, 3) := by decide +kernel
theorem d_D_client_22 : decode mb_D_client 22 = .ok (.dup, 1) := by decide +kernel
theorem d_D_client_23 : decode mb_D_client 23 = .ok (.ldc 52, 2) := by decide +kernel
theorem d_D_client_25 : decode mb_D_client 25 = .ok (.invokespecial 54, 3) := by decide +kernel
theorem d_D_client_28 : decode mb_D_client 28 = .ok (.athrow, 1) := by decide +kernel
theorem d_D_client_29 : decode mb_D_client 29 = .ok (.aload_n 0, 1) := by decide +kernel
theorem d_D_client_30 : decode mb_D_client 30 = .ok (.getfield 24, 3) := by decide +kernel
theorem d_D_client_33 : decode mb_D_client 33 = .ok (.bipush 40, 2) := by decide +kernel
theorem d_D_client_35 : decode mb_D_client 35 = .ok (.if_icmp .lt 13, 3) := by decide +kernel
theorem d_D_client_38 : decode mb_D_client 38 = .ok (.new 57, 3) := by decide +kernel
theorem d_D_client_41 : decode mb_D_client 41 = .ok (.dup, 1) := by decide +kernel
theorem d_D_client_42 : decode mb_D_client 42 = .ok (.ldc 59, 2) := by decide +kernel
theorem d_D_client_44 : decode mb_D_client 44 = .ok (.invokespecial 61, 3) := by decide +kernel
theorem d_D_client_47 : decode mb_D_client 47 = .ok (.athrow, 1) := by decide +kernel
theorem d_D_client_48 : decode mb_D_client 48 = .ok (.aload_n 0, 1) := by decide +kernel
theorem d_D_client_49 : decode mb_D_client 49 = .ok (.new 62, 3) := by decide +kernel
theorem d_D_client_52 : decode mb_D_client 52 = .ok (.dup, 1) := by decide +kernel
theorem d_D_client_53 : decode mb_D_client 53 = .ok (.aload 7, 2) := by decide +kernel
theorem d_D_client_55 : decode mb_D_client 55 = .ok (.iload_n 2, 1) := by decide +kernel
theorem d_D_client_56 : decode mb_D_client 56 = .ok (.lload_n 3, 1) := by decide +kernel
theorem d_D_client_57 : decode mb_D_client 57 = .ok (.lload 5, 2) := by decide +kernel
theorem d_D_client_59 : decode mb_D_client 59 = .ok (.aload_n 0, 1) := by decide +kernel
theorem d_D_client_60 : decode mb_D_client 60 = .ok (.getfield 28, 3) := by decide +kernel
theorem d_D_client_63 : decode mb_D_client 63 = .ok (.invokespecial 64, 3) := by decide +kernel
theorem d_D_client_66 : decode mb_D_client 66 = .ok (.invokevirtual 67, 3) := by decide +kernel
theorem d_D_client_69 : decode mb_D_client 69 = .ok (.ireturn, 1) := by decide +kernel
theorem d_D_server_0 : decode mb_D_server 0 = .ok (.aload_n 0, 1) := by decide +kernel
theorem d_D_server_1 : decode mb_D_server 1 = .ok (.iload_n 1, 1) := by decide +kernel
theorem d_D_server_2 : decode mb_D_server 2 = .ok (.invokevirtual 31, 3) := by decide +kernel
theorem d_D_server_5 : decode mb_D_server 5 = .ok (.astore 5, 2) := by decide +kernel
theorem d_D_server_7 : decode mb_D_server 7 = .ok (.aload 5, 2) := by decide +kernel
theorem d_D_server_9 : decode mb_D_server 9 = .ok (.ifnull 10, 3) := by decide +kernel
theorem d_D_server_12 : decode mb_D_server 12 = .ok (.iload_n 2, 1) := by decide +kernel
theorem d_D_server_13 : decode mb_D_server 13 = .ok (.invokestatic 35, 3) := by decide +kernel
theorem d_D_server_16 : decode mb_D_server 16 = .ok (.ifCond .ne 13, 3) := by decide +kernel
theorem d_D_server_19 : decode mb_D_server 19 = .ok (.new 50, 3) := by decide +kernel
theorem d_D_server_22 : decode mb_D_server 22 = .ok (.dup, 1) := by decide +kernel
theorem d_D_server_23 : decode mb_D_server 23 = .ok (.ldc 52, 2) := by decide +kernel
theorem d_D_server_25 : decode mb_D_server 25 = .ok (.invokespecial 54, 3) := by decide +kernel
theorem d_D_server_28 : decode mb_D_server 28 = .ok (.athrow, 1) := by decide +kernel
theorem d_D_server_29 : decode mb_D_server 29 = .ok (.aload_n 0, 1) := by decide +kernel
theorem d_D_server_30 : decode mb_D_server 30 = .ok (.getfield 24, 3) := by decide +kernel
theorem d_D_server_33 : decode mb_D_server 33 = .ok (.bipush 40, 2) := by decide +kernel
theorem d_D_server_35 : decode mb_D_server 35 = .ok (.if_icmp .lt 13, 3) := by decide +kernel
theorem d_D_server_38 : decode mb_D_server 38 = .ok (.new 57, 3) := by decide +kernel
theorem d_D_server_41 : decode mb_D_server 41 = .ok (.dup, 1) := by decide +kernel
theorem d_D_server_42 : decode mb_D_server 42 = .ok (.ldc 59, 2) := by decide +kernel
theorem d_D_server_44 : decode mb_D_server 44 = .ok (.invokespecial 61, 3) := by decide +kernel
theorem d_D_server_47 : decode mb_D_server 47 = .ok (.athrow, 1) := by decide +kernel
theorem d_D_server_48 : decode mb_D_server 48 = .ok (.aload 5, 2) := by decide +kernel
theorem d_D_server_50 : decode mb_D_server 50 = .ok (.aload_n 0, 1) := by decide +kernel
theorem d_D_server_51 : decode mb_D_server 51 = .ok (.getfield 28, 3) := by decide +kernel
theorem d_D_server_54 : decode mb_D_server 54 = .ok (.invokevirtual 71, 3) := by decide +kernel
theorem d_D_server_57 : decode mb_D_server 57 = .ok (.ifCond .eq 13, 3) := by decide +kernel
theorem d_D_server_60 : decode mb_D_server 60 = .ok (.new 57, 3) := by decide +kernel
theorem d_D_server_63 : decode mb_D_server 63 = .ok (.dup, 1) := by decide +kernel
theorem d_D_server_64 : decode mb_D_server 64 = .ok (.ldc 74, 2) := by decide +kernel
theorem d_D_server_66 : decode mb_D_server 66 = .ok (.invokespecial 61, 3) := by decide +kernel
theorem d_D_server_69 : decode mb_D_server 69 = .ok (.athrow, 1) := by decide +kernel
theorem d_D_server_70 : decode mb_D_server 70 = .ok (.aload_n 0, 1) := by decide +kernel
theorem d_D_server_71 : decode mb_D_server 71 = .ok (.new 76, 3) := by decide +kernel
theorem d_D_server_74 : decode mb_D_server 74 = .ok (.dup, 1) := by decide +kernel
theorem d_D_server_75 : decode mb_D_server 75 = .ok (.aload 5, 2) := by decide +kernel
theorem d_D_server_77 : decode mb_D_server 77 = .ok (.iload_n 2, 1) := by decide +kernel
theorem d_D_server_78 : decode mb_D_server 78 = .ok (.lload_n 3, 1) := by decide +kernel
theorem d_D_server_79 : decode mb_D_server 79 = .ok (.aload_n 0, 1) := by decide +kernel
theorem d_D_server_80 : decode mb_D_server 80 = .ok (.getfield 28, 3) := by decide +kernel
theorem d_D_server_83 : decode mb_D_server 83 = .ok (.invokespecial 78, 3) := by decide +kernel
theorem d_D_server_86 : decode mb_D_server 86 = .ok (.invokevirtual 67, 3) := by decide +kernel
theorem d_D_server_89 : decode mb_D_server 89 = .ok (.ireturn, 1) := by decide +kernel
theorem d_D_receive_0 : decode mb_D_receive 0 = .ok (.aload_n 0, 1) := by decide +kernel
theorem d_D_receive_1 : decode mb_D_receive 1 = .ok (.iload_n 1, 1) := by decide +kernel
theorem d_D_receive_2 : decode mb_D_receive 2 = .ok (.lload_n 2, 1) := by decide +kernel
theorem d_D_receive_3 : decode mb_D_receive 3 = .ok (.invokevirtual 81, 3) := by decide +kernel
theorem d_D_receive_6 : decode mb_D_receive 6 = .ok (.ireturn, 1) := by decide +kernel
theorem d_D_pass_0 : decode mb_D_pass 0 = .ok (.aload_n 0, 1) := by decide +kernel
theorem d_D_pass_1 : decode mb_D_pass 1 = .ok (.iload_n 2, 1) := by decide +kernel
theorem d_D_pass_2 : decode mb_D_pass 2 = .ok (.aload_n 0, 1) := by decide +kernel
theorem d_D_pass_3 : decode mb_D_pass 3 = .ok (.iload_n 1, 1) := by decide +kernel
theorem d_D_pass_4 : decode mb_D_pass 4 = .ok (.invokevirtual 85, 3) := by decide +kernel
theorem d_D_pass_7 : decode mb_D_pass 7 = .ok (.lload_n 3, 1) := by decide +kernel
theorem d_D_pass_8 : decode mb_D_pass 8 = .ok (.lxor, 1) := by decide +kernel
theorem d_D_pass_9 : decode mb_D_pass 9 = .ok (.invokevirtual 81, 3) := by decide +kernel
theorem d_D_pass_12 : decode mb_D_pass 12 = .ok (.ireturn, 1) := by decide +kernel
theorem d_D_message_0 : decode mb_D_message 0 = .ok (.aload_n 0, 1) := by decide +kernel
theorem d_D_message_1 : decode mb_D_message 1 = .ok (.iload_n 1, 1) := by decide +kernel
theorem d_D_message_2 : decode mb_D_message 2 = .ok (.invokevirtual 85, 3) := by decide +kernel
theorem d_D_message_5 : decode mb_D_message 5 = .ok (.lreturn, 1) := by decide +kernel
theorem d_D_key_0 : decode mb_D_key 0 = .ok (.aload_n 0, 1) := by decide +kernel
theorem d_D_key_1 : decode mb_D_key 1 = .ok (.iload_n 1, 1) := by decide +kernel
theorem d_D_key_2 : decode mb_D_key 2 = .ok (.invokevirtual 89, 3) := by decide +kernel
theorem d_D_key_5 : decode mb_D_key 5 = .ok (.astore_n 2, 1) := by decide +kernel
theorem d_D_key_6 : decode mb_D_key 6 = .ok (.aload_n 2, 1) := by decide +kernel
theorem d_D_key_7 : decode mb_D_key 7 = .ok (.ifnonnull 13, 3) := by decide +kernel
theorem d_D_key_10 : decode mb_D_key 10 = .ok (.new 93, 3) := by decide +kernel
theorem d_D_key_13 : decode mb_D_key 13 = .ok (.dup, 1) := by decide +kernel
theorem d_D_key_14 : decode mb_D_key 14 = .ok (.ldc 95, 2) := by decide +kernel
theorem d_D_key_16 : decode mb_D_key 16 = .ok (.invokespecial 97, 3) := by decide +kernel
theorem d_D_key_19 : decode mb_D_key 19 = .ok (.athrow, 1) := by decide +kernel
theorem d_D_key_20 : decode mb_D_key 20 = .ok (.aload_n 2, 1) := by decide +kernel
theorem d_D_key_21 : decode mb_D_key 21 = .ok (.getfield 98, 3) := by decide +kernel
theorem d_D_key_24 : decode mb_D_key 24 = .ok (.iconst 2, 1) := by decide +kernel
theorem d_D_key_25 : decode mb_D_key 25 = .ok (.if_icmp .eq 13, 3) := by decide +kernel
theorem d_D_key_28 : decode mb_D_key 28 = .ok (.new 57, 3) := by decide +kernel
theorem d_D_key_31 : decode mb_D_key 31 = .ok (.dup, 1) := by decide +kernel
theorem d_D_key_32 : decode mb_D_key 32 = .ok (.ldc 101, 2) := by decide +kernel
theorem d_D_key_34 : decode mb_D_key 34 = .ok (.invokespecial 61, 3) := by decide +kernel
theorem d_D_key_37 : decode mb_D_key 37 = .ok (.athrow, 1) := by decide +kernel
theorem d_D_key_38 : decode mb_D_key 38 = .ok (.aload_n 2, 1) := by decide +kernel
theorem d_D_key_39 : decode mb_D_key 39 = .ok (.getfield 103, 3) := by decide +kernel
theorem d_D_key_42 : decode mb_D_key 42 = .ok (.lreturn, 1) := by decide +kernel
theorem d_D_state_0 : decode mb_D_state 0 = .ok (.aload_n 0, 1) := by decide +kernel
theorem d_D_state_1 : decode mb_D_state 1 = .ok (.iload_n 1, 1) := by decide +kernel
theorem d_D_state_2 : decode mb_D_state 2 = .ok (.invokevirtual 89, 3) := by decide +kernel
theorem d_D_state_5 : decode mb_D_state 5 = .ok (.astore_n 2, 1) := by decide +kernel
theorem d_D_state_6 : decode mb_D_state 6 = .ok (.aload_n 2, 1) := by decide +kernel
theorem d_D_state_7 : decode mb_D_state 7 = .ok (.ifnonnull 7, 3) := by decide +kernel
theorem d_D_state_10 : decode mb_D_state 10 = .ok (.iconst (-1), 1) := by decide +kernel
theorem d_D_state_11 : decode mb_D_state 11 = .ok (.goto 11, 3) := by decide +kernel
theorem d_D_state_14 : decode mb_D_state 14 = .ok (.aload_n 2, 1) := by decide +kernel
theorem d_D_state_15 : decode mb_D_state 15 = .ok (.aload_n 0, 1) := by decide +kernel
theorem d_D_state_16 : decode mb_D_state 16 = .ok (.getfield 28, 3) := by decide +kernel
theorem d_D_state_19 : decode mb_D_state 19 = .ok (.invokevirtual 107, 3) := by decide +kernel
theorem d_D_state_22 : decode mb_D_state 22 = .ok (.ireturn, 1) := by decide +kernel
theorem d_D_blocked_0 : decode mb_D_blocked 0 = .ok (.aload_n 0, 1) := by decide +kernel
theorem d_D_blocked_1 : decode mb_D_blocked 1 = .ok (.iload_n 1, 1) := by decide +kernel
theorem d_D_blocked_2 : decode mb_D_blocked 2 = .ok (.invokevirtual 31, 3) := by decide +kernel
theorem d_D_blocked_5 : decode mb_D_blocked 5 = .ok (.astore_n 2, 1) := by decide +kernel
theorem d_D_blocked_6 : decode mb_D_blocked 6 = .ok (.aload_n 2, 1) := by decide +kernel
theorem d_D_blocked_7 : decode mb_D_blocked 7 = .ok (.ifnull 18, 3) := by decide +kernel
theorem d_D_blocked_10 : decode mb_D_blocked 10 = .ok (.aload_n 2, 1) := by decide +kernel
theorem d_D_blocked_11 : decode mb_D_blocked 11 = .ok (.aload_n 0, 1) := by decide +kernel
theorem d_D_blocked_12 : decode mb_D_blocked 12 = .ok (.getfield 28, 3) := by decide +kernel
theorem d_D_blocked_15 : decode mb_D_blocked 15 = .ok (.invokevirtual 71, 3) := by decide +kernel
theorem d_D_blocked_18 : decode mb_D_blocked 18 = .ok (.ifCond .eq 7, 3) := by decide +kernel
theorem d_D_blocked_21 : decode mb_D_blocked 21 = .ok (.iconst 1, 1) := by decide +kernel
theorem d_D_blocked_22 : decode mb_D_blocked 22 = .ok (.goto 4, 3) := by decide +kernel
theorem d_D_blocked_25 : decode mb_D_blocked 25 = .ok (.iconst 0, 1) := by decide +kernel
theorem d_D_blocked_26 : decode mb_D_blocked 26 = .ok (.ireturn, 1) := by decide +kernel
theorem d_D_tick_0 : decode mb_D_tick 0 = .ok (.iload_n 1, 1) := by decide +kernel
theorem d_D_tick_1 : decode mb_D_tick 1 = .ok (.ifCond .lt 9, 3) := by decide +kernel
theorem d_D_tick_4 : decode mb_D_tick 4 = .ok (.iload_n 1, 1) := by decide +kernel
theorem d_D_tick_5 : decode mb_D_tick 5 = .ok (.bipush 100, 2) := by decide +kernel
theorem d_D_tick_7 : decode mb_D_tick 7 = .ok (.if_icmp .le 13, 3) := by decide +kernel
theorem d_D_tick_10 : decode mb_D_tick 10 = .ok (.new 50, 3) := by decide +kernel
theorem d_D_tick_13 : decode mb_D_tick 13 = .ok (.dup, 1) := by decide +kernel
theorem d_D_tick_14 : decode mb_D_tick 14 = .ok (.ldc 111, 2) := by decide +kernel
theorem d_D_tick_16 : decode mb_D_tick 16 = .ok (.invokespecial 54, 3) := by decide +kernel
theorem d_D_tick_19 : decode mb_D_tick 19 = .ok (.athrow, 1) := by decide +kernel
theorem d_D_tick_20 : decode mb_D_tick 20 = .ok (.aload_n 0, 1) := by decide +kernel
theorem d_D_tick_21 : decode mb_D_tick 21 = .ok (.dup, 1) := by decide +kernel
theorem d_D_tick_22 : decode mb_D_tick 22 = .ok (.getfield 28, 3) := by decide +kernel
theorem d_D_tick_25 : decode mb_D_tick 25 = .ok (.iload_n 1, 1) := by decide +kernel
theorem d_D_tick_26 : decode mb_D_tick 26 = .ok (.iadd, 1) := by decide +kernel
theorem d_D_tick_27 : decode mb_D_tick 27 = .ok (.putfield 28, 3) := by decide +kernel
theorem d_D_tick_30 : decode mb_D_tick 30 = .ok (.aload_n 0, 1) := by decide +kernel
theorem d_D_tick_31 : decode mb_D_tick 31 = .ok (.getfield 28, 3) := by decide +kernel
theorem d_D_tick_34 : decode mb_D_tick 34 = .ok (.ireturn, 1) := by decide +kernel
theorem d_D_sessions_0 : decode mb_D_sessions 0 = .ok (.aload_n 0, 1) := by decide +kernel
theorem d_D_sessions_1 : decode mb_D_sessions 1 = .ok (.getfield 24, 3) := by decide +kernel
theorem d_D_sessions_4 : decode mb_D_sessions 4 = .ok (.ireturn, 1) := by decide +kernel
theorem d_D_isWay_0 : decode mb_D_isWay 0 = .ok (.iload_n 0, 1) := by decide +kernel
theorem d_D_isWay_1 : decode mb_D_isWay 1 = .ok (.ifCond .eq 8, 3) := by decide +kernel
theorem d_D_isWay_4 : decode mb_D_isWay 4 = .ok (.iload_n 0, 1) := by decide +kernel
theorem d_D_isWay_5 : decode mb_D_isWay 5 = .ok (.iconst 1, 1) := by decide +kernel
theorem d_D_isWay_6 : decode mb_D_isWay 6 = .ok (.if_icmp .ne 7, 3) := by decide +kernel
theorem d_D_isWay_9 : decode mb_D_isWay 9 = .ok (.iconst 1, 1) := by decide +kernel
theorem d_D_isWay_10 : decode mb_D_isWay 10 = .ok (.goto 4, 3) := by decide +kernel
theorem d_D_isWay_13 : decode mb_D_isWay 13 = .ok (.iconst 0, 1) := by decide +kernel
theorem d_D_isWay_14 : decode mb_D_isWay 14 = .ok (.ireturn, 1) := by decide +kernel
theorem d_D_findUser_0 : decode mb_D_findUser 0 = .ok (.iload_n 1, 1) := by decide +kernel
theorem d_D_findUser_1 : decode mb_D_findUser 1 = .ok (.ifCond .lt 9, 3) := by decide +kernel
theorem d_D_findUser_4 : decode mb_D_findUser 4 = .ok (.iload_n 1, 1) := by decide +kernel
theorem d_D_findUser_5 : decode mb_D_findUser 5 = .ok (.bipush 8, 2) := by decide +kernel
theorem d_D_findUser_7 : decode mb_D_findUser 7 = .ok (.if_icmp .lt 7, 3) := by decide +kernel
theorem d_D_findUser_10 : decode mb_D_findUser 10 = .ok (.aconst_null, 1) := by decide +kernel
theorem d_D_findUser_11 : decode mb_D_findUser 11 = .ok (.goto 9, 3) := by decide +kernel
theorem d_D_findUser_14 : decode mb_D_findUser 14 = .ok (.aload_n 0, 1) := by decide +kernel
theorem d_D_findUser_15 : decode mb_D_findUser 15 = .ok (.getfield 11, 3) := by decide +kernel
theorem d_D_findUser_18 : decode mb_D_findUser 18 = .ok (.iload_n 1, 1) := by decide +kernel
theorem d_D_findUser_19 : decode mb_D_findUser 19 = .ok (.aaload, 1) := by decide +kernel
theorem d_D_findUser_20 : decode mb_D_findUser 20 = .ok (.areturn, 1) := by decide +kernel
theorem d_D_findSession_0 : decode mb_D_findSession 0 = .ok (.iload_n 1, 1) := by decide +kernel
theorem d_D_findSession_1 : decode mb_D_findSession 1 = .ok (.ifCond .lt 11, 3) := by decide +kernel
theorem d_D_findSession_4 : decode mb_D_findSession 4 = .ok (.iload_n 1, 1) := by decide +kernel
theorem d_D_findSession_5 : decode mb_D_findSession 5 = .ok (.aload_n 0, 1) := by decide +kernel
theorem d_D_findSession_6 : decode mb_D_findSession 6 = .ok (.getfield 24, 3) := by decide +kernel
theorem d_D_findSession_9 : decode mb_D_findSession 9 = .ok (.if_icmp .lt 7, 3) := by decide +kernel
theorem d_D_findSession_12 : decode mb_D_findSession 12 = .ok (.aconst_null, 1) := by decide +kernel
theorem d_D_findSession_13 : decode mb_D_findSession 13 = .ok (.goto 9, 3) := by decide +kernel
theorem d_D_findSession_16 : decode mb_D_findSession 16 = .ok (.aload_n 0, 1) := by decide +kernel
theorem d_D_findSession_17 : decode mb_D_findSession 17 = .ok (.getfield 20, 3) := by decide +kernel
theorem d_D_findSession_20 : decode mb_D_findSession 20 = .ok (.iload_n 1, 1) := by decide +kernel
theorem d_D_findSession_21 : decode mb_D_findSession 21 = .ok (.aaload, 1) := by decide +kernel
theorem d_D_findSession_22 : decode mb_D_findSession 22 = .ok (.areturn, 1) := by decide +kernel
theorem d_D_lastMessageOf_0 : decode mb_D_lastMessageOf 0 = .ok (.aload_n 0, 1) := by decide +kernel
theorem d_D_lastMessageOf_1 : decode mb_D_lastMessageOf 1 = .ok (.iload_n 1, 1) := by decide +kernel
theorem d_D_lastMessageOf_2 : decode mb_D_lastMessageOf 2 = .ok (.invokevirtual 89, 3) := by decide +kernel
theorem d_D_lastMessageOf_5 : decode mb_D_lastMessageOf 5 = .ok (.astore_n 2, 1) := by decide +kernel
theorem d_D_lastMessageOf_6 : decode mb_D_lastMessageOf 6 = .ok (.aload_n 2, 1) := by decide +kernel
theorem d_D_lastMessageOf_7 : decode mb_D_lastMessageOf 7 = .ok (.ifnonnull 7, 3) := by decide +kernel
theorem d_D_lastMessageOf_10 : decode mb_D_lastMessageOf 10 = .ok (.lconst 0, 1) := by decide +kernel
theorem d_D_lastMessageOf_11 : decode mb_D_lastMessageOf 11 = .ok (.goto 7, 3) := by decide +kernel
theorem d_D_lastMessageOf_14 : decode mb_D_lastMessageOf 14 = .ok (.aload_n 2, 1) := by decide +kernel
theorem d_D_lastMessageOf_15 : decode mb_D_lastMessageOf 15 = .ok (.getfield 113, 3) := by decide +kernel
theorem d_D_lastMessageOf_18 : decode mb_D_lastMessageOf 18 = .ok (.lreturn, 1) := by decide +kernel
theorem d_D_open_0 : decode mb_D_open 0 = .ok (.aload_n 0, 1) := by decide +kernel
theorem d_D_open_1 : decode mb_D_open 1 = .ok (.getfield 24, 3) := by decide +kernel
theorem d_D_open_4 : decode mb_D_open 4 = .ok (.istore_n 2, 1) := by decide +kernel
theorem d_D_open_5 : decode mb_D_open 5 = .ok (.aload_n 0, 1) := by decide +kernel
theorem d_D_open_6 : decode mb_D_open 6 = .ok (.getfield 20, 3) := by decide +kernel
theorem d_D_open_9 : decode mb_D_open 9 = .ok (.iload_n 2, 1) := by decide +kernel
theorem d_D_open_10 : decode mb_D_open 10 = .ok (.aload_n 1, 1) := by decide +kernel
theorem d_D_open_11 : decode mb_D_open 11 = .ok (.aastore, 1) := by decide +kernel
theorem d_D_open_12 : decode mb_D_open 12 = .ok (.aload_n 0, 1) := by decide +kernel
theorem d_D_open_13 : decode mb_D_open 13 = .ok (.dup, 1) := by decide +kernel
theorem d_D_open_14 : decode mb_D_open 14 = .ok (.getfield 24, 3) := by decide +kernel
theorem d_D_open_17 : decode mb_D_open 17 = .ok (.iconst 1, 1) := by decide +kernel
theorem d_D_open_18 : decode mb_D_open 18 = .ok (.iadd, 1) := by decide +kernel
theorem d_D_open_19 : decode mb_D_open 19 = .ok (.putfield 24, 3) := by decide +kernel
theorem d_D_open_22 : decode mb_D_open 22 = .ok (.iload_n 2, 1) := by decide +kernel
theorem d_D_open_23 : decode mb_D_open 23 = .ok (.ireturn, 1) := by decide +kernel
theorem d_D_deliver_0 : decode mb_D_deliver 0 = .ok (.aload_n 0, 1) := by decide +kernel
theorem d_D_deliver_1 : decode mb_D_deliver 1 = .ok (.iload_n 1, 1) := by decide +kernel
theorem d_D_deliver_2 : decode mb_D_deliver 2 = .ok (.invokevirtual 89, 3) := by decide +kernel
theorem d_D_deliver_5 : decode mb_D_deliver 5 = .ok (.astore 4, 2) := by decide +kernel
theorem d_D_deliver_7 : decode mb_D_deliver 7 = .ok (.aload 4, 2) := by decide +kernel
theorem d_D_deliver_9 : decode mb_D_deliver 9 = .ok (.ifnonnull 13, 3) := by decide +kernel
theorem d_D_deliver_12 : decode mb_D_deliver 12 = .ok (.new 93, 3) := by decide +kernel
theorem d_D_deliver_15 : decode mb_D_deliver 15 = .ok (.dup, 1) := by decide +kernel
theorem d_D_deliver_16 : decode mb_D_deliver 16 = .ok (.ldc 95, 2) := by decide +kernel
theorem d_D_deliver_18 : decode mb_D_deliver 18 = .ok (.invokespecial 97, 3) := by decide +kernel
theorem d_D_deliver_21 : decode mb_D_deliver 21 = .ok (.athrow, 1) := by decide +kernel
theorem d_D_deliver_22 : decode mb_D_deliver 22 = .ok (.aload 4, 2) := by decide +kernel
theorem d_D_deliver_24 : decode mb_D_deliver 24 = .ok (.aload_n 0, 1) := by decide +kernel
theorem d_D_deliver_25 : decode mb_D_deliver 25 = .ok (.getfield 28, 3) := by decide +kernel
theorem d_D_deliver_28 : decode mb_D_deliver 28 = .ok (.invokevirtual 107, 3) := by decide +kernel
theorem d_D_deliver_31 : decode mb_D_deliver 31 = .ok (.istore 5, 2) := by decide +kernel
theorem d_D_deliver_33 : decode mb_D_deliver 33 = .ok (.iload 5, 2) := by decide +kernel
theorem d_D_deliver_35 : decode mb_D_deliver 35 = .ok (.ifCond .ne 22, 3) := by decide +kernel
theorem d_D_deliver_38 : decode mb_D_deliver 38 = .ok (.aload 4, 2) := by decide +kernel
theorem d_D_deliver_40 : decode mb_D_deliver 40 = .ok (.lload_n 2, 1) := by decide +kernel
theorem d_D_deliver_41 : decode mb_D_deliver 41 = .ok (.invokevirtual 116, 3) := by decide +kernel
theorem d_D_deliver_44 : decode mb_D_deliver 44 = .ok (.ifCond .ne 52, 3) := by decide +kernel
theorem d_D_deliver_47 : decode mb_D_deliver 47 = .ok (.new 50, 3) := by decide +kernel
theorem d_D_deliver_50 : decode mb_D_deliver 50 = .ok (.dup, 1) := by decide +kernel
theorem d_D_deliver_51 : decode mb_D_deliver 51 = .ok (.ldc 120, 2) := by decide +kernel
theorem d_D_deliver_53 : decode mb_D_deliver 53 = .ok (.invokespecial 54, 3) := by decide +kernel
theorem d_D_deliver_56 : decode mb_D_deliver 56 = .ok (.athrow, 1) := by decide +kernel
theorem d_D_deliver_57 : decode mb_D_deliver 57 = .ok (.iload 5, 2) := by decide +kernel
theorem d_D_deliver_59 : decode mb_D_deliver 59 = .ok (.iconst 1, 1) := by decide +kernel
theorem d_D_deliver_60 : decode mb_D_deliver 60 = .ok (.if_icmp .ne 26, 3) := by decide +kernel
theorem d_D_deliver_63 : decode mb_D_deliver 63 = .ok (.aload 4, 2) := by decide +kernel
theorem d_D_deliver_65 : decode mb_D_deliver 65 = .ok (.lload_n 2, 1) := by decide +kernel
theorem d_D_deliver_66 : decode mb_D_deliver 66 = .ok (.aload_n 0, 1) := by decide +kernel
theorem d_D_deliver_67 : decode mb_D_deliver 67 = .ok (.getfield 28, 3) := by decide +kernel
theorem d_D_deliver_70 : decode mb_D_deliver 70 = .ok (.invokevirtual 122, 3) := by decide +kernel
theorem d_D_deliver_73 : decode mb_D_deliver 73 = .ok (.ifCond .ne 23, 3) := by decide +kernel
theorem d_D_deliver_76 : decode mb_D_deliver 76 = .ok (.new 126, 3) := by decide +kernel
theorem d_D_deliver_79 : decode mb_D_deliver 79 = .ok (.dup, 1) := by decide +kernel
theorem d_D_deliver_80 : decode mb_D_deliver 80 = .ok (.ldc 128, 2) := by decide +kernel
theorem d_D_deliver_82 : decode mb_D_deliver 82 = .ok (.invokespecial 130, 3) := by decide +kernel
theorem d_D_deliver_85 : decode mb_D_deliver 85 = .ok (.athrow, 1) := by decide +kernel
theorem d_D_deliver_86 : decode mb_D_deliver 86 = .ok (.new 57, 3) := by decide +kernel
theorem d_D_deliver_89 : decode mb_D_deliver 89 = .ok (.dup, 1) := by decide +kernel
theorem d_D_deliver_90 : decode mb_D_deliver 90 = .ok (.ldc 131, 2) := by decide +kernel
theorem d_D_deliver_92 : decode mb_D_deliver 92 = .ok (.invokespecial 61, 3) := by decide +kernel
theorem d_D_deliver_95 : decode mb_D_deliver 95 = .ok (.athrow, 1) := by decide +kernel
theorem d_D_deliver_96 : decode mb_D_deliver 96 = .ok (.aload 4, 2) := by decide +kernel
theorem d_D_deliver_98 : decode mb_D_deliver 98 = .ok (.getfield 98, 3) := by decide +kernel
theorem d_D_deliver_101 : decode mb_D_deliver 101 = .ok (.ireturn, 1) := by decide +kernel
theorem th_lt {sa : Int32} {n : Nat} (h : ¬ th_in sa n) (h0 : ¬ sa < 0) : ¬ sa < nI n := fun q => h ⟨Int32.not_lt.mp h0, q⟩
set_option maxHeartbeats 4000000 in
set_option maxRecDepth 100000 in
theorem c_D_findUser1 (l : Launch) (G : va_G) (ct : Nat → ClassId) (sz : Nat) (hd : Nat) (us : Nat) (op : Nat) (n : Nat) (ck : Int32) (fu : Nat → Option Nat) (hu : Nat) (k : Nat) (hk : k < 8) (hfu : fu k = some hu) : Met l my_D_findUser (tb_w my_D_findUser mb_D_findUser 2 (some (.object "PakeDesk$User"))) ({ frames := 0, cells := 0, slots := 0, locals := 0 }) (wk_P [.ref hd, .int (nI k)] G ct [(hd, .inr (0, [.ref us, .ref op, .int (nI n), .int ck])), (us, .inl ((ct 3), 8, .inr (.inr (.inr (.inr fu)))))] sz) (va_Sq (fun r => r = some hu)) 0 0 (fun _ => False) := by
  refine Met.ofW (cc := mb_D_findUser) (maxL := 2) (ret := (some (.object "PakeDesk$User"))) (by decide) rfl ?_
  intro p e s m args below meth c s₁ B hml hv
  obtain ⟨rfl, hsz, hP, hK, hD0⟩ := hv
  have hx := B.exec
  have hb := B.bytes
  have hr := B.returns
  have hts := atoms_spec (ws := tb_w my_D_findUser mb_D_findUser 2 (some (.object "PakeDesk$User"))) B.pre
  have hw : ∀ w ∈ gt_tbl, w.before [.ref hd, .int (nI k)].toArray s = true := fun w h => hts w (List.mem_cons_of_mem _ h)
  have hown : s.vm.findClass cr_D = some m.cls := findClass_of_methodNamed B.named
  have hlocks := B.notSynchronized
  subst hsz
  have hD := hD0.self (sz := s.heap.size)
  generalize hAe : va_A [(hd, .inr (0, [.ref us, .ref op, .int (nI n), .int ck])), (us, .inl ((ct 3), 8, .inr (.inr (.inr (.inr fu)))))] s.heap.size = A at hD ⊢
  have hA : ∀ q : Nat, s.heap.size ≤ q → A q := fun q h => by rw [← hAe]; exact Or.inr h
  have hS : va_S A s.heap s.heap [] := va_S.rf
  have hP : va_P G classes [(hd, .inr (0, [.ref us, .ref op, .int (nI n), .int ck])), (us, .inl ((ct 3), 8, .inr (.inr (.inr (.inr fu)))))] s.heap := hP
  have hl := lv_entry ([.ref hd, .int (nI k)]) (n := 2) (Nat.le_of_ble_eq_true rfl)
  rw [lg_entry_eq]
  generalize (lg_sl ([.ref hd, .int (nI k)]) ++ List.replicate (2 - (lg_sl ([.ref hd, .int (nI k)])).length) Slot.unset).toArray = ls at hl ⊢
  have hl : lv_has ls 2 [(0, .ref hd), (1, .int (nI k))] := hl
  refine lv_iload_n hx hb d_D_findUser_0 rfl (lv_at hl 1 rfl) ?_
  refine lv_if_lt (tgt := 10) hx hb d_D_findUser_1 (by decide) (fun h734 => ?_) (fun h734 => ?_)
  · exact absurd h734 (nI_pos (by omega))
  · refine lv_iload_n hx hb d_D_findUser_4 rfl (lv_at hl 1 rfl) ?_
    refine lv_bipush (v := 8) hx hb d_D_findUser_5 (by decide) ?_
    refine lv_icmp_lt (tgt := 14) hx hb d_D_findUser_7 (by decide) (fun h735 => ?_) (fun h735 => ?_)
    · refine lv_aload_n hx hb d_D_findUser_14 rfl (lv_at hl 0 rfl) ?_
      refine va_get (D := G) (ci := 0) (v := .ref us) (C := cr_D) (T := cf_D) (N := 4) hx hb hw uw_D hown hK.1 hP 0 rfl rfl 0 (by decide) (hw _ ww_68) (fun _ h9 => h9) rfl d_D_findUser_15 ?_
      refine lv_iload_n hx hb d_D_findUser_18 rfl (lv_at hl 1 rfl) ?_
      refine ra_ql hx hb hK.1 hP 1 3 rfl rfl (k := k) (by omega) (by decide) (u := hu) (hfu) d_D_findUser_19 ?_
      exact W.aret (v := .ref hu) hx hb hr (Or.inl ⟨_, rfl⟩) (Or.inr ⟨_, rfl⟩) (fun t ht hW => ⟨some hu, rfl, rfl, ht⟩) (fun q h => nomatch h) d_D_findUser_20
    · exact absurd (us_k hk).2 h735
set_option maxHeartbeats 4000000 in
set_option maxRecDepth 100000 in
theorem c_D_findUser0 (l : Launch) (G : va_G) (ct : Nat → ClassId) (sz : Nat) (hd : Nat) (us : Nat) (op : Nat) (n : Nat) (ck : Int32) (ua : Int32) (hno : ¬ us_in ua) : Met l my_D_findUser (tb_w my_D_findUser mb_D_findUser 2 (some (.object "PakeDesk$User"))) ({ frames := 0, cells := 0, slots := 0, locals := 0 }) (wk_P [.ref hd, .int ua] G ct [(hd, .inr (0, [.ref us, .ref op, .int (nI n), .int ck]))] sz) (va_Sq (fun r => r = none)) 0 0 (fun _ => False) := by
  refine Met.ofW (cc := mb_D_findUser) (maxL := 2) (ret := (some (.object "PakeDesk$User"))) (by decide) rfl ?_
  intro p e s m args below meth c s₁ B hml hv
  obtain ⟨rfl, hsz, hP, hK, hD0⟩ := hv
  have hx := B.exec
  have hb := B.bytes
  have hr := B.returns
  have hts := atoms_spec (ws := tb_w my_D_findUser mb_D_findUser 2 (some (.object "PakeDesk$User"))) B.pre
  have hw : ∀ w ∈ gt_tbl, w.before [.ref hd, .int ua].toArray s = true := fun w h => hts w (List.mem_cons_of_mem _ h)
  have hown : s.vm.findClass cr_D = some m.cls := findClass_of_methodNamed B.named
  have hlocks := B.notSynchronized
  subst hsz
  have hD := hD0.self (sz := s.heap.size)
  generalize hAe : va_A [(hd, .inr (0, [.ref us, .ref op, .int (nI n), .int ck]))] s.heap.size = A at hD ⊢
  have hA : ∀ q : Nat, s.heap.size ≤ q → A q := fun q h => by rw [← hAe]; exact Or.inr h
  have hS : va_S A s.heap s.heap [] := va_S.rf
  have hP : va_P G classes [(hd, .inr (0, [.ref us, .ref op, .int (nI n), .int ck]))] s.heap := hP
  have hl := lv_entry ([.ref hd, .int ua]) (n := 2) (Nat.le_of_ble_eq_true rfl)
  rw [lg_entry_eq]
  generalize (lg_sl ([.ref hd, .int ua]) ++ List.replicate (2 - (lg_sl ([.ref hd, .int ua])).length) Slot.unset).toArray = ls at hl ⊢
  have hl : lv_has ls 2 [(0, .ref hd), (1, .int ua)] := hl
  refine lv_iload_n hx hb d_D_findUser_0 rfl (lv_at hl 1 rfl) ?_
  refine lv_if_lt (tgt := 10) hx hb d_D_findUser_1 (by decide) (fun h736 => ?_) (fun h736 => ?_)
  · refine lv_null hx hb d_D_findUser_10 ?_
    refine lv_goto (tgt := 20) hx hb d_D_findUser_11 (by decide) ?_
    exact W.aret (v := .null) hx hb hr (Or.inl ⟨_, rfl⟩) (Or.inl rfl) (fun t ht hW => ⟨none, rfl, rfl, ht⟩) (fun q h => nomatch h) d_D_findUser_20
  · refine lv_iload_n hx hb d_D_findUser_4 rfl (lv_at hl 1 rfl) ?_
    refine lv_bipush (v := 8) hx hb d_D_findUser_5 (by decide) ?_
    refine lv_icmp_lt (tgt := 14) hx hb d_D_findUser_7 (by decide) (fun h737 => ?_) (fun h737 => ?_)
    · exact absurd ⟨Int32.not_lt.mp (by assumption), h737⟩ hno
    · refine lv_null hx hb d_D_findUser_10 ?_
      refine lv_goto (tgt := 20) hx hb d_D_findUser_11 (by decide) ?_
      exact W.aret (v := .null) hx hb hr (Or.inl ⟨_, rfl⟩) (Or.inl rfl) (fun t ht hW => ⟨none, rfl, rfl, ht⟩) (fun q h => nomatch h) d_D_findUser_20
set_option maxHeartbeats 4000000 in
set_option maxRecDepth 100000 in
theorem c_D_findSession1 (l : Launch) (G : va_G) (ct : Nat → ClassId) (sz : Nat) (hd : Nat) (us : Nat) (op : Nat) (n : Nat) (ck : Int32) (fo : Nat → Option Nat) (h0 : Nat) (k : Nat) (hn : n ≤ 40) (hkn : k < n) (hfo : fo k = some h0) : Met l my_D_findSession (tb_w my_D_findSession mb_D_findSession 2 (some (.object "PakeDesk$Session"))) ({ frames := 0, cells := 0, slots := 0, locals := 0 }) (wk_P [.ref hd, .int (nI k)] G ct [(hd, .inr (0, [.ref us, .ref op, .int (nI n), .int ck])), (op, .inl ((ct 4), 40, .inr (.inr (.inr (.inr fo)))))] sz) (va_Sq (fun r => r = some h0)) 0 0 (fun _ => False) := by
  refine Met.ofW (cc := mb_D_findSession) (maxL := 2) (ret := (some (.object "PakeDesk$Session"))) (by decide) rfl ?_
  intro p e s m args below meth c s₁ B hml hv
  obtain ⟨rfl, hsz, hP, hK, hD0⟩ := hv
  have hx := B.exec
  have hb := B.bytes
  have hr := B.returns
  have hts := atoms_spec (ws := tb_w my_D_findSession mb_D_findSession 2 (some (.object "PakeDesk$Session"))) B.pre
  have hw : ∀ w ∈ gt_tbl, w.before [.ref hd, .int (nI k)].toArray s = true := fun w h => hts w (List.mem_cons_of_mem _ h)
  have hown : s.vm.findClass cr_D = some m.cls := findClass_of_methodNamed B.named
  have hlocks := B.notSynchronized
  subst hsz
  have hD := hD0.self (sz := s.heap.size)
  generalize hAe : va_A [(hd, .inr (0, [.ref us, .ref op, .int (nI n), .int ck])), (op, .inl ((ct 4), 40, .inr (.inr (.inr (.inr fo)))))] s.heap.size = A at hD ⊢
  have hA : ∀ q : Nat, s.heap.size ≤ q → A q := fun q h => by rw [← hAe]; exact Or.inr h
  have hS : va_S A s.heap s.heap [] := va_S.rf
  have hP : va_P G classes [(hd, .inr (0, [.ref us, .ref op, .int (nI n), .int ck])), (op, .inl ((ct 4), 40, .inr (.inr (.inr (.inr fo)))))] s.heap := hP
  have hl := lv_entry ([.ref hd, .int (nI k)]) (n := 2) (Nat.le_of_ble_eq_true rfl)
  rw [lg_entry_eq]
  generalize (lg_sl ([.ref hd, .int (nI k)]) ++ List.replicate (2 - (lg_sl ([.ref hd, .int (nI k)])).length) Slot.unset).toArray = ls at hl ⊢
  have hl : lv_has ls 2 [(0, .ref hd), (1, .int (nI k))] := hl
  refine lv_iload_n hx hb d_D_findSession_0 rfl (lv_at hl 1 rfl) ?_
  refine lv_if_lt (tgt := 12) hx hb d_D_findSession_1 (by decide) (fun h738 => ?_) (fun h738 => ?_)
  · exact absurd h738 (nI_pos (by omega))
  · refine lv_iload_n hx hb d_D_findSession_4 rfl (lv_at hl 1 rfl) ?_
    refine lv_aload_n hx hb d_D_findSession_5 rfl (lv_at hl 0 rfl) ?_
    refine va_get (D := G) (ci := 0) (v := .int (nI n)) (C := cr_D) (T := cf_D) (N := 4) hx hb hw uw_D hown hK.1 hP 0 rfl rfl 2 (by decide) (hw _ ww_70) (fun _ h9 => h9) rfl d_D_findSession_6 ?_
    refine lv_icmp_lt (tgt := 16) hx hb d_D_findSession_9 (by decide) (fun h739 => ?_) (fun h739 => ?_)
    · refine lv_aload_n hx hb d_D_findSession_16 rfl (lv_at hl 0 rfl) ?_
      refine va_get (D := G) (ci := 0) (v := .ref op) (C := cr_D) (T := cf_D) (N := 4) hx hb hw uw_D hown hK.1 hP 0 rfl rfl 1 (by decide) (hw _ ww_69) (fun _ h9 => h9) rfl d_D_findSession_17 ?_
      refine lv_iload_n hx hb d_D_findSession_20 rfl (lv_at hl 1 rfl) ?_
      refine ra_ql hx hb hK.1 hP 1 4 rfl rfl (k := k) (by omega) (by decide) (u := h0) (hfo) d_D_findSession_21 ?_
      exact W.aret (v := .ref h0) hx hb hr (Or.inl ⟨_, rfl⟩) (Or.inr ⟨_, rfl⟩) (fun t ht hW => ⟨some h0, rfl, rfl, ht⟩) (fun q h => nomatch h) d_D_findSession_22
    · exact absurd (th_k hn hkn).2 h739
set_option maxHeartbeats 4000000 in
set_option maxRecDepth 100000 in
theorem c_D_findSession0 (l : Launch) (G : va_G) (ct : Nat → ClassId) (sz : Nat) (hd : Nat) (us : Nat) (op : Nat) (n : Nat) (ck : Int32) (sa : Int32) (hno : ¬ th_in sa n) : Met l my_D_findSession (tb_w my_D_findSession mb_D_findSession 2 (some (.object "PakeDesk$Session"))) ({ frames := 0, cells := 0, slots := 0, locals := 0 }) (wk_P [.ref hd, .int sa] G ct [(hd, .inr (0, [.ref us, .ref op, .int (nI n), .int ck]))] sz) (va_Sq (fun r => r = none)) 0 0 (fun _ => False) := by
  refine Met.ofW (cc := mb_D_findSession) (maxL := 2) (ret := (some (.object "PakeDesk$Session"))) (by decide) rfl ?_
  intro p e s m args below meth c s₁ B hml hv
  obtain ⟨rfl, hsz, hP, hK, hD0⟩ := hv
  have hx := B.exec
  have hb := B.bytes
  have hr := B.returns
  have hts := atoms_spec (ws := tb_w my_D_findSession mb_D_findSession 2 (some (.object "PakeDesk$Session"))) B.pre
  have hw : ∀ w ∈ gt_tbl, w.before [.ref hd, .int sa].toArray s = true := fun w h => hts w (List.mem_cons_of_mem _ h)
  have hown : s.vm.findClass cr_D = some m.cls := findClass_of_methodNamed B.named
  have hlocks := B.notSynchronized
  subst hsz
  have hD := hD0.self (sz := s.heap.size)
  generalize hAe : va_A [(hd, .inr (0, [.ref us, .ref op, .int (nI n), .int ck]))] s.heap.size = A at hD ⊢
  have hA : ∀ q : Nat, s.heap.size ≤ q → A q := fun q h => by rw [← hAe]; exact Or.inr h
  have hS : va_S A s.heap s.heap [] := va_S.rf
  have hP : va_P G classes [(hd, .inr (0, [.ref us, .ref op, .int (nI n), .int ck]))] s.heap := hP
  have hl := lv_entry ([.ref hd, .int sa]) (n := 2) (Nat.le_of_ble_eq_true rfl)
  rw [lg_entry_eq]
  generalize (lg_sl ([.ref hd, .int sa]) ++ List.replicate (2 - (lg_sl ([.ref hd, .int sa])).length) Slot.unset).toArray = ls at hl ⊢
  have hl : lv_has ls 2 [(0, .ref hd), (1, .int sa)] := hl
  refine lv_iload_n hx hb d_D_findSession_0 rfl (lv_at hl 1 rfl) ?_
  refine lv_if_lt (tgt := 12) hx hb d_D_findSession_1 (by decide) (fun h740 => ?_) (fun h740 => ?_)
  · refine lv_null hx hb d_D_findSession_12 ?_
    refine lv_goto (tgt := 22) hx hb d_D_findSession_13 (by decide) ?_
    exact W.aret (v := .null) hx hb hr (Or.inl ⟨_, rfl⟩) (Or.inl rfl) (fun t ht hW => ⟨none, rfl, rfl, ht⟩) (fun q h => nomatch h) d_D_findSession_22
  · refine lv_iload_n hx hb d_D_findSession_4 rfl (lv_at hl 1 rfl) ?_
    refine lv_aload_n hx hb d_D_findSession_5 rfl (lv_at hl 0 rfl) ?_
    refine va_get (D := G) (ci := 0) (v := .int (nI n)) (C := cr_D) (T := cf_D) (N := 4) hx hb hw uw_D hown hK.1 hP 0 rfl rfl 2 (by decide) (hw _ ww_70) (fun _ h9 => h9) rfl d_D_findSession_6 ?_
    refine lv_icmp_lt (tgt := 16) hx hb d_D_findSession_9 (by decide) (fun h741 => ?_) (fun h741 => ?_)
    · exact absurd ⟨Int32.not_lt.mp (by assumption), h741⟩ hno
    · refine lv_null hx hb d_D_findSession_12 ?_
      refine lv_goto (tgt := 22) hx hb d_D_findSession_13 (by decide) ?_
      exact W.aret (v := .null) hx hb hr (Or.inl ⟨_, rfl⟩) (Or.inl rfl) (fun t ht hW => ⟨none, rfl, rfl, ht⟩) (fun q h => nomatch h) d_D_findSession_22
set_option maxHeartbeats 4000000 in
set_option maxRecDepth 100000 in
theorem c_D_isWay (l : Launch) (wy : Int32) : Met l my_D_isWay (tb_w my_D_isWay mb_D_isWay 1 (some .boolean)) ({ frames := 0, cells := 0, slots := 0, locals := 0 }) (fun av _ => av = [.int wy].toArray) (vp_Si (fun r => r = (if wy_in wy then 1 else 0))) 0 0 (fun _ => False) := by
  refine Met.ofW (cc := mb_D_isWay) (maxL := 1) (ret := (some .boolean)) (by decide) rfl ?_
  intro p e s m args below meth c s₁ B hml hv
  subst hv
  have hx := B.exec
  have hb := B.bytes
  have hr := B.returns
  have hts := atoms_spec (ws := tb_w my_D_isWay mb_D_isWay 1 (some .boolean)) B.pre
  have hw : ∀ w ∈ gt_tbl, w.before [.int wy].toArray s = true := fun w h => hts w (List.mem_cons_of_mem _ h)
  have hown : s.vm.findClass cr_D = some m.cls := findClass_of_methodNamed B.named
  have hlocks := B.notSynchronized
  have hl := lv_entry ([.int wy]) (n := 1) (Nat.le_of_ble_eq_true rfl)
  rw [lg_entry_eq]
  generalize (lg_sl ([.int wy]) ++ List.replicate (1 - (lg_sl ([.int wy])).length) Slot.unset).toArray = ls at hl ⊢
  have hl : lv_has ls 1 [(0, .int wy)] := hl
  refine lv_iload_n hx hb d_D_isWay_0 rfl (lv_at hl 0 rfl) ?_
  refine lv_if_eq (tgt := 9) hx hb d_D_isWay_1 (by decide) (fun h742 => ?_) (fun h742 => ?_)
  · refine lv_iconst (v := 1) hx hb d_D_isWay_9 (by decide) ?_
    refine lv_goto (tgt := 14) hx hb d_D_isWay_10 (by decide) ?_
    exact W.zret (v := 1) (ty := .boolean) hx hb hr rfl (fun t ht hW => ⟨1, rfl, (by rw [if_pos (Or.inl h742)]), ht⟩) (fun q h => nomatch h) d_D_isWay_14
  · refine lv_iload_n hx hb d_D_isWay_4 rfl (lv_at hl 0 rfl) ?_
    refine lv_iconst (v := 1) hx hb d_D_isWay_5 (by decide) ?_
    refine lv_icmp_ne (tgt := 13) hx hb d_D_isWay_6 (by decide) (fun h743 => ?_) (fun h743 => ?_)
    · refine lv_iconst (v := 0) hx hb d_D_isWay_13 (by decide) ?_
      exact W.zret (v := 0) (ty := .boolean) hx hb hr rfl (fun t ht hW => ⟨0, rfl, (by rw [if_neg (fun z => z.elim h742 h743)]), ht⟩) (fun q h => nomatch h) d_D_isWay_14
    · refine lv_iconst (v := 1) hx hb d_D_isWay_9 (by decide) ?_
      refine lv_goto (tgt := 14) hx hb d_D_isWay_10 (by decide) ?_
      exact W.zret (v := 1) (ty := .boolean) hx hb hr rfl (fun t ht hW => ⟨1, rfl, (by rw [if_pos (Or.inr h743)]), ht⟩) (fun q h => nomatch h) d_D_isWay_14
set_option maxHeartbeats 4000000 in
set_option maxRecDepth 100000 in
theorem c_D_register1 (l : Launch) (G : va_G) (ct : Nat → ClassId) (sz : Nat) (hd : Nat) (us : Nat) (op : Nat) (n : Nat) (ck : Int32) (fu : Nat → Option Nat) (hu : Nat) (k : Nat) (nb : Int32) (sd : Int32) (uw : Int32) (uo : Nat) (ul : Int64) (uv : Nat) (uf : Int32) (u1 : Int32) (u2 : Int32) (u3 : Int32) (wy : Int32) (pw : Int64) (sl : Int64) (hk : k < 8) (hfu : fu k = some hu) (hwi : wy_in wy) : Met l my_D_register (tb_w my_D_register mb_D_register 8 (some .boolean)) ({ frames := 4, cells := 0, slots := 0, locals := 102 }) (wk_P [.ref hd, .int (nI k), .int wy, .long pw, .long sl] G ct [(hd, .inr (0, [.ref us, .ref op, .int (nI n), .int ck])), (us, .inl ((ct 3), 8, .inr (.inr (.inr (.inr fu))))), (hu, .inr (1, [.int nb, .int sd, .int uw, .long (lN uo), .long ul, .long (lN uv), .int uf, .int u1, .int u2, .int u3]))] sz) (wk_Q (wk_oi (S := Unit) (fun _ => 1) (fun _ => True)) (fun _ : Unit => [(hd, .inr (0, [.ref us, .ref op, .int (nI n), .int ck])), (us, .inl ((ct 3), 8, .inr (.inr (.inr (.inr fu))))), (hu, .inr (1, [.int nb, .int sd, .int ((us_kp nb (uw, uo, ul, uv, uf, u1, u2, u3) wy pw sl).1), .long (lN (us_kp nb (uw, uo, ul, uv, uf, u1, u2, u3) wy pw sl).2.1), .long ((us_kp nb (uw, uo, ul, uv, uf, u1, u2, u3) wy pw sl).2.2.1), .long (lN (us_kp nb (uw, uo, ul, uv, uf, u1, u2, u3) wy pw sl).2.2.2.1), .int ((us_kp nb (uw, uo, ul, uv, uf, u1, u2, u3) wy pw sl).2.2.2.2.1), .int ((us_kp nb (uw, uo, ul, uv, uf, u1, u2, u3) wy pw sl).2.2.2.2.2.1), .int ((us_kp nb (uw, uo, ul, uv, uf, u1, u2, u3) wy pw sl).2.2.2.2.2.2.1), .int ((us_kp nb (uw, uo, ul, uv, uf, u1, u2, u3) wy pw sl).2.2.2.2.2.2.2)]))]) G (va_A [(hd, .inr (0, [.ref us, .ref op, .int (nI n), .int ck])), (us, .inl ((ct 3), 8, .inr (.inr (.inr (.inr fu))))), (hu, .inr (1, [.int nb, .int sd, .int uw, .long (lN uo), .long ul, .long (lN uv), .int uf, .int u1, .int u2, .int u3]))] sz)) 0 0 (va_A [(hd, .inr (0, [.ref us, .ref op, .int (nI n), .int ck])), (us, .inl ((ct 3), 8, .inr (.inr (.inr (.inr fu))))), (hu, .inr (1, [.int nb, .int sd, .int uw, .long (lN uo), .long ul, .long (lN uv), .int uf, .int u1, .int u2, .int u3]))] sz) := by
  refine Met.ofW (cc := mb_D_register) (maxL := 8) (ret := (some .boolean)) (by decide) rfl ?_
  intro p e s m args below meth c s₁ B hml hv
  obtain ⟨rfl, hsz, hP, hK, hD0⟩ := hv
  have hx := B.exec
  have hb := B.bytes
  have hr := B.returns
  have hts := atoms_spec (ws := tb_w my_D_register mb_D_register 8 (some .boolean)) B.pre
  have hw : ∀ w ∈ gt_tbl, w.before [.ref hd, .int (nI k), .int wy, .long pw, .long sl].toArray s = true := fun w h => hts w (List.mem_cons_of_mem _ h)
  have hown : s.vm.findClass cr_D = some m.cls := findClass_of_methodNamed B.named
  have hlocks := B.notSynchronized
  subst hsz
  have hD := hD0.self (sz := s.heap.size)
  generalize hAe : va_A [(hd, .inr (0, [.ref us, .ref op, .int (nI n), .int ck])), (us, .inl ((ct 3), 8, .inr (.inr (.inr (.inr fu))))), (hu, .inr (1, [.int nb, .int sd, .int uw, .long (lN uo), .long ul, .long (lN uv), .int uf, .int u1, .int u2, .int u3]))] s.heap.size = A at hD ⊢
  have hA : ∀ q : Nat, s.heap.size ≤ q → A q := fun q h => by rw [← hAe]; exact Or.inr h
  have hS : va_S A s.heap s.heap [] := va_S.rf
  have hP : va_P G classes [(hd, .inr (0, [.ref us, .ref op, .int (nI n), .int ck])), (us, .inl ((ct 3), 8, .inr (.inr (.inr (.inr fu))))), (hu, .inr (1, [.int nb, .int sd, .int uw, .long (lN uo), .long ul, .long (lN uv), .int uf, .int u1, .int u2, .int u3]))] s.heap := hP
  have hl := lv_entry ([.ref hd, .int (nI k), .int wy, .long pw, .long sl]) (n := 8) (Nat.le_of_ble_eq_true rfl)
  rw [lg_entry_eq]
  generalize (lg_sl ([.ref hd, .int (nI k), .int wy, .long pw, .long sl]) ++ List.replicate (8 - (lg_sl ([.ref hd, .int (nI k), .int wy, .long pw, .long sl])).length) Slot.unset).toArray = ls at hl ⊢
  have hl : lv_has ls 8 [(0, .ref hd), (1, .int (nI k)), (2, .int wy), (3, .long pw), (5, .long sl)] := hl
  refine lv_aload_n hx hb d_D_register_0 rfl (lv_at hl 0 rfl) ?_
  refine lv_iload_n hx hb d_D_register_1 rfl (lv_at hl 1 rfl) ?_
  have hPc : va_P G classes [(hd, .inr (0, [.ref us, .ref op, .int (nI n), .int ck])), (us, .inl ((ct 3), 8, .inr (.inr (.inr (.inr fu)))))] s.heap := hP.sub [0, 1] rfl
  have hDc := hD.sub (ws' := [(hd, .inr (0, [.ref us, .ref op, .int (nI n), .int ck])), (us, .inl ((ct 3), 8, .inr (.inr (.inr (.inr fu)))))]) [0, 1] (by decide) rfl
  refine va_csq (W.runV (As := [.int (nI k)]) (rest := []) ⟨hx, hb, hml, hown, hts⟩ (c_D_findUser1 l G ct s.heap.size hd us op n ck fu hu k hk hfu) (tb_V hw cy_D_findUser ww_85 ww_87 wp_D_findUser rfl rfl ⟨Nat.le_of_ble_eq_true rfl, Nat.le_of_ble_eq_true rfl⟩) (wk_preV (ci := 0) (q0 := 0) hPc hK hDc rfl rfl) rfl rfl hl.1 rfl (lv_room (Nat.le_of_ble_eq_true rfl)) d_D_register_2 ⟨Nat.le_of_ble_eq_true rfl, Nat.le_of_ble_eq_true rfl⟩) (fun r744 er744 => ?_)
  subst er744
  refine tp_v (y := .ref hu) rfl ?_
  refine lv_astore (lv' := [(7, .ref hu), (0, .ref hd), (1, .int (nI k)), (2, .int wy), (3, .long pw), (5, .long sl)]) hx hb d_D_register_5 hl (Nat.le_of_ble_eq_true rfl) rfl (fun ls hl => ?_)
  refine lv_aload hx hb d_D_register_7 (lv_at hl 0 rfl) ?_
  refine lv_ifnull hx hb d_D_register_9 ?_
  refine lv_iload_n hx hb d_D_register_12 rfl (lv_at hl 3 rfl) ?_
  refine vp_callSi (W.runS (As := [.int wy]) (rest := []) ⟨hx, hb, hml, hown, hts⟩ (c_D_isWay l wy) (tb_S hw cy_D_isWay ww_89 ww_90 rfl rfl ⟨Nat.le_of_ble_eq_true rfl, Nat.le_of_ble_eq_true rfl⟩) preEq rfl rfl hl.1 rfl (lv_room (Nat.le_of_ble_eq_true rfl)) d_D_register_13 ⟨Nat.le_of_ble_eq_true rfl, Nat.le_of_ble_eq_true rfl⟩) (fun r745 er745 => ?_)
  subst er745
  refine tp_i (if_pos hwi) ?_
  refine lv_if_ne (tgt := 21) hx hb d_D_register_16 (by decide) (fun h746 => ?_) (fun h746 => ?_)
  · refine lv_aload hx hb d_D_register_21 (lv_at hl 0 rfl) ?_
    refine lv_iload_n hx hb d_D_register_23 rfl (lv_at hl 3 rfl) ?_
    refine lv_lload_n hx hb d_D_register_24 rfl (lv_at hl 4 rfl) ?_
    refine lv_lload hx hb d_D_register_25 (lv_at hl 5 rfl) ?_
    have hPc : va_P G classes [(hu, .inr (1, [.int nb, .int sd, .int uw, .long (lN uo), .long ul, .long (lN uv), .int uf, .int u1, .int u2, .int u3]))] s.heap := hP.sub [2] rfl
    have hDc := hD.sub (ws' := [(hu, .inr (1, [.int nb, .int sd, .int uw, .long (lN uo), .long ul, .long (lN uv), .int uf, .int u1, .int u2, .int u3]))]) [2] (by decide) rfl
    refine wk_v (va_runV (As := [.int wy, .long pw, .long sl]) (rest := []) ⟨hx, hb, hml, hown, hts⟩ (c_U_keepRecord l G ct s.heap.size hu nb sd uw uo ul uv uf u1 u2 u3 wy pw sl) (tb_V hw cy_U_keepRecord ww_92 ww_93 ww_94 rfl rfl ⟨Nat.le_of_ble_eq_true rfl, Nat.le_of_ble_eq_true rfl⟩) (wk_preV (ci := 1) (q0 := 0) hPc hK hDc rfl rfl) rfl rfl hl.1 rfl (lv_room (Nat.le_of_ble_eq_true rfl)) d_D_register_27 ⟨Nat.le_of_ble_eq_true rfl, Nat.le_of_ble_eq_true rfl⟩) hP hD hS hA [2] (by decide) rfl (fun _ => by simp only [List.map_cons, List.map_nil]) (fun _ H locs ok747 hP hD hS => ?_)
    have hP : va_P G classes [(hd, .inr (0, [.ref us, .ref op, .int (nI n), .int ck])), (us, .inl ((ct 3), 8, .inr (.inr (.inr (.inr fu))))), (hu, .inr (1, [.int nb, .int sd, .int ((us_kp nb (uw, uo, ul, uv, uf, u1, u2, u3) wy pw sl).1), .long (lN (us_kp nb (uw, uo, ul, uv, uf, u1, u2, u3) wy pw sl).2.1), .long ((us_kp nb (uw, uo, ul, uv, uf, u1, u2, u3) wy pw sl).2.2.1), .long (lN (us_kp nb (uw, uo, ul, uv, uf, u1, u2, u3) wy pw sl).2.2.2.1), .int ((us_kp nb (uw, uo, ul, uv, uf, u1, u2, u3) wy pw sl).2.2.2.2.1), .int ((us_kp nb (uw, uo, ul, uv, uf, u1, u2, u3) wy pw sl).2.2.2.2.2.1), .int ((us_kp nb (uw, uo, ul, uv, uf, u1, u2, u3) wy pw sl).2.2.2.2.2.2.1), .int ((us_kp nb (uw, uo, ul, uv, uf, u1, u2, u3) wy pw sl).2.2.2.2.2.2.2)]))] H := hP
    have hD : va_D A [(hd, .inr (0, [.ref us, .ref op, .int (nI n), .int ck])), (us, .inl ((ct 3), 8, .inr (.inr (.inr (.inr fu))))), (hu, .inr (1, [.int nb, .int sd, .int ((us_kp nb (uw, uo, ul, uv, uf, u1, u2, u3) wy pw sl).1), .long (lN (us_kp nb (uw, uo, ul, uv, uf, u1, u2, u3) wy pw sl).2.1), .long ((us_kp nb (uw, uo, ul, uv, uf, u1, u2, u3) wy pw sl).2.2.1), .long (lN (us_kp nb (uw, uo, ul, uv, uf, u1, u2, u3) wy pw sl).2.2.2.1), .int ((us_kp nb (uw, uo, ul, uv, uf, u1, u2, u3) wy pw sl).2.2.2.2.1), .int ((us_kp nb (uw, uo, ul, uv, uf, u1, u2, u3) wy pw sl).2.2.2.2.2.1), .int ((us_kp nb (uw, uo, ul, uv, uf, u1, u2, u3) wy pw sl).2.2.2.2.2.2.1), .int ((us_kp nb (uw, uo, ul, uv, uf, u1, u2, u3) wy pw sl).2.2.2.2.2.2.2)]))] := hD
    refine lv_iconst (v := 1) hx hb d_D_register_30 (by decide) ?_
    exact W.zret (v := 1) (ty := .boolean) hx hb hr rfl (fun t ht hW => ⟨⟨(), ⟨rfl, trivial⟩, by rw [ht]; exact hP, hD⟩, hS.F ht⟩) hS.2.2 d_D_register_31
  · exact absurd h746 (by decide)
set_option maxHeartbeats 4000000 in
set_option maxRecDepth 100000 in
theorem c_D_register2 (l : Launch) (G : va_G) (ct : Nat → ClassId) (sz : Nat) (hd : Nat) (us : Nat) (op : Nat) (n : Nat) (ck : Int32) (fu : Nat → Option Nat) (hu : Nat) (k : Nat) (nb : Int32) (sd : Int32) (uw : Int32) (uo : Nat) (ul : Int64) (uv : Nat) (uf : Int32) (u1 : Int32) (u2 : Int32) (u3 : Int32) (wy : Int32) (pw : Int64) (sl : Int64) (hk : k < 8) (hfu : fu k = some hu) (hwi : ¬ wy_in wy) : Met l my_D_register (tb_w my_D_register mb_D_register 8 (some .boolean)) ({ frames := 1, cells := 0, slots := 0, locals := 21 }) (wk_P [.ref hd, .int (nI k), .int wy, .long pw, .long sl] G ct [(hd, .inr (0, [.ref us, .ref op, .int (nI n), .int ck])), (us, .inl ((ct 3), 8, .inr (.inr (.inr (.inr fu))))), (hu, .inr (1, [.int nb, .int sd, .int uw, .long (lN uo), .long ul, .long (lN uv), .int uf, .int u1, .int u2, .int u3]))] sz) (vp_Si (fun r => r = 0)) 0 0 (fun _ => False) := by
  refine Met.ofW (cc := mb_D_register) (maxL := 8) (ret := (some .boolean)) (by decide) rfl ?_
  intro p e s m args below meth c s₁ B hml hv
  obtain ⟨rfl, hsz, hP, hK, hD0⟩ := hv
  have hx := B.exec
  have hb := B.bytes
  have hr := B.returns
  have hts := atoms_spec (ws := tb_w my_D_register mb_D_register 8 (some .boolean)) B.pre
  have hw : ∀ w ∈ gt_tbl, w.before [.ref hd, .int (nI k), .int wy, .long pw, .long sl].toArray s = true := fun w h => hts w (List.mem_cons_of_mem _ h)
  have hown : s.vm.findClass cr_D = some m.cls := findClass_of_methodNamed B.named
  have hlocks := B.notSynchronized
  subst hsz
  have hD := hD0.self (sz := s.heap.size)
  generalize hAe : va_A [(hd, .inr (0, [.ref us, .ref op, .int (nI n), .int ck])), (us, .inl ((ct 3), 8, .inr (.inr (.inr (.inr fu))))), (hu, .inr (1, [.int nb, .int sd, .int uw, .long (lN uo), .long ul, .long (lN uv), .int uf, .int u1, .int u2, .int u3]))] s.heap.size = A at hD ⊢
  have hA : ∀ q : Nat, s.heap.size ≤ q → A q := fun q h => by rw [← hAe]; exact Or.inr h
  have hS : va_S A s.heap s.heap [] := va_S.rf
  have hP : va_P G classes [(hd, .inr (0, [.ref us, .ref op, .int (nI n), .int ck])), (us, .inl ((ct 3), 8, .inr (.inr (.inr (.inr fu))))), (hu, .inr (1, [.int nb, .int sd, .int uw, .long (lN uo), .long ul, .long (lN uv), .int uf, .int u1, .int u2, .int u3]))] s.heap := hP
  have hl := lv_entry ([.ref hd, .int (nI k), .int wy, .long pw, .long sl]) (n := 8) (Nat.le_of_ble_eq_true rfl)
  rw [lg_entry_eq]
  generalize (lg_sl ([.ref hd, .int (nI k), .int wy, .long pw, .long sl]) ++ List.replicate (8 - (lg_sl ([.ref hd, .int (nI k), .int wy, .long pw, .long sl])).length) Slot.unset).toArray = ls at hl ⊢
  have hl : lv_has ls 8 [(0, .ref hd), (1, .int (nI k)), (2, .int wy), (3, .long pw), (5, .long sl)] := hl
  refine lv_aload_n hx hb d_D_register_0 rfl (lv_at hl 0 rfl) ?_
  refine lv_iload_n hx hb d_D_register_1 rfl (lv_at hl 1 rfl) ?_
  have hPc : va_P G classes [(hd, .inr (0, [.ref us, .ref op, .int (nI n), .int ck])), (us, .inl ((ct 3), 8, .inr (.inr (.inr (.inr fu)))))] s.heap := hP.sub [0, 1] rfl
  have hDc := hD0.sub (ws' := [(hd, .inr (0, [.ref us, .ref op, .int (nI n), .int ck])), (us, .inl ((ct 3), 8, .inr (.inr (.inr (.inr fu)))))]) [0, 1] (by decide) rfl
  refine va_csq (W.runV (As := [.int (nI k)]) (rest := []) ⟨hx, hb, hml, hown, hts⟩ (c_D_findUser1 l G ct s.heap.size hd us op n ck fu hu k hk hfu) (tb_V hw cy_D_findUser ww_85 ww_87 wp_D_findUser rfl rfl ⟨Nat.le_of_ble_eq_true rfl, Nat.le_of_ble_eq_true rfl⟩) (wk_preV (ci := 0) (q0 := 0) hPc hK hDc rfl rfl) rfl rfl hl.1 rfl (lv_room (Nat.le_of_ble_eq_true rfl)) d_D_register_2 ⟨Nat.le_of_ble_eq_true rfl, Nat.le_of_ble_eq_true rfl⟩) (fun r748 er748 => ?_)
  subst er748
  refine tp_v (y := .ref hu) rfl ?_
  refine lv_astore (lv' := [(7, .ref hu), (0, .ref hd), (1, .int (nI k)), (2, .int wy), (3, .long pw), (5, .long sl)]) hx hb d_D_register_5 hl (Nat.le_of_ble_eq_true rfl) rfl (fun ls hl => ?_)
  refine lv_aload hx hb d_D_register_7 (lv_at hl 0 rfl) ?_
  refine lv_ifnull hx hb d_D_register_9 ?_
  refine lv_iload_n hx hb d_D_register_12 rfl (lv_at hl 3 rfl) ?_
  refine vp_callSi (W.runS (As := [.int wy]) (rest := []) ⟨hx, hb, hml, hown, hts⟩ (c_D_isWay l wy) (tb_S hw cy_D_isWay ww_89 ww_90 rfl rfl ⟨Nat.le_of_ble_eq_true rfl, Nat.le_of_ble_eq_true rfl⟩) preEq rfl rfl hl.1 rfl (lv_room (Nat.le_of_ble_eq_true rfl)) d_D_register_13 ⟨Nat.le_of_ble_eq_true rfl, Nat.le_of_ble_eq_true rfl⟩) (fun r749 er749 => ?_)
  subst er749
  refine tp_i (if_neg hwi) ?_
  refine lv_if_ne (tgt := 21) hx hb d_D_register_16 (by decide) (fun h750 => ?_) (fun h750 => ?_)
  · exact absurd h750 (by decide)
  · refine lv_iconst (v := 0) hx hb d_D_register_19 (by decide) ?_
    exact W.zret (v := 0) (ty := .boolean) hx hb hr rfl (fun t ht hW => ⟨0, rfl, rfl, ht⟩) (fun q h => nomatch h) d_D_register_20
set_option maxHeartbeats 4000000 in
set_option maxRecDepth 100000 in
theorem c_D_register0 (l : Launch) (G : va_G) (ct : Nat → ClassId) (sz : Nat) (hd : Nat) (us : Nat) (op : Nat) (n : Nat) (ck : Int32) (ua : Int32) (wy : Int32) (pw : Int64) (sl : Int64) (hno : ¬ us_in ua) : Met l my_D_register (tb_w my_D_register mb_D_register 8 (some .boolean)) ({ frames := 1, cells := 0, slots := 0, locals := 21 }) (wk_P [.ref hd, .int ua, .int wy, .long pw, .long sl] G ct [(hd, .inr (0, [.ref us, .ref op, .int (nI n), .int ck]))] sz) (vp_Si (fun r => r = 0)) 0 0 (fun _ => False) := by
  refine Met.ofW (cc := mb_D_register) (maxL := 8) (ret := (some .boolean)) (by decide) rfl ?_
  intro p e s m args below meth c s₁ B hml hv
  obtain ⟨rfl, hsz, hP, hK, hD0⟩ := hv
  have hx := B.exec
  have hb := B.bytes
  have hr := B.returns
  have hts := atoms_spec (ws := tb_w my_D_register mb_D_register 8 (some .boolean)) B.pre
  have hw : ∀ w ∈ gt_tbl, w.before [.ref hd, .int ua, .int wy, .long pw, .long sl].toArray s = true := fun w h => hts w (List.mem_cons_of_mem _ h)
  have hown : s.vm.findClass cr_D = some m.cls := findClass_of_methodNamed B.named
  have hlocks := B.notSynchronized
  subst hsz
  have hD := hD0.self (sz := s.heap.size)
  generalize hAe : va_A [(hd, .inr (0, [.ref us, .ref op, .int (nI n), .int ck]))] s.heap.size = A at hD ⊢
  have hA : ∀ q : Nat, s.heap.size ≤ q → A q := fun q h => by rw [← hAe]; exact Or.inr h
  have hS : va_S A s.heap s.heap [] := va_S.rf
  have hP : va_P G classes [(hd, .inr (0, [.ref us, .ref op, .int (nI n), .int ck]))] s.heap := hP
  have hl := lv_entry ([.ref hd, .int ua, .int wy, .long pw, .long sl]) (n := 8) (Nat.le_of_ble_eq_true rfl)
  rw [lg_entry_eq]
  generalize (lg_sl ([.ref hd, .int ua, .int wy, .long pw, .long sl]) ++ List.replicate (8 - (lg_sl ([.ref hd, .int ua, .int wy, .long pw, .long sl])).length) Slot.unset).toArray = ls at hl ⊢
  have hl : lv_has ls 8 [(0, .ref hd), (1, .int ua), (2, .int wy), (3, .long pw), (5, .long sl)] := hl
  refine lv_aload_n hx hb d_D_register_0 rfl (lv_at hl 0 rfl) ?_
  refine lv_iload_n hx hb d_D_register_1 rfl (lv_at hl 1 rfl) ?_
  have hPc : va_P G classes [(hd, .inr (0, [.ref us, .ref op, .int (nI n), .int ck]))] s.heap := hP.sub [0] rfl
  have hDc := hD0.sub (ws' := [(hd, .inr (0, [.ref us, .ref op, .int (nI n), .int ck]))]) [0] (by decide) rfl
  refine va_csq (W.runV (As := [.int ua]) (rest := []) ⟨hx, hb, hml, hown, hts⟩ (c_D_findUser0 l G ct s.heap.size hd us op n ck ua hno) (tb_V hw cy_D_findUser ww_85 ww_87 wp_D_findUser rfl rfl ⟨Nat.le_of_ble_eq_true rfl, Nat.le_of_ble_eq_true rfl⟩) (wk_preV (ci := 0) (q0 := 0) hPc hK hDc rfl rfl) rfl rfl hl.1 rfl (lv_room (Nat.le_of_ble_eq_true rfl)) d_D_register_2 ⟨Nat.le_of_ble_eq_true rfl, Nat.le_of_ble_eq_true rfl⟩) (fun r751 er751 => ?_)
  subst er751
  refine tp_v (y := .null) rfl ?_
  refine lv_astoreN (lv' := [(7, .null), (0, .ref hd), (1, .int ua), (2, .int wy), (3, .long pw), (5, .long sl)]) hx hb d_D_register_5 hl (Nat.le_of_ble_eq_true rfl) rfl (fun ls hl => ?_)
  refine lv_aloadN hx hb d_D_register_7 (lv_at hl 0 rfl) ?_
  refine lv_ifnullN (tgt := 19) hx hb d_D_register_9 (by decide) ?_
  refine lv_iconst (v := 0) hx hb d_D_register_19 (by decide) ?_
  exact W.zret (v := 0) (ty := .boolean) hx hb hr rfl (fun t ht hW => ⟨0, rfl, rfl, ht⟩) (fun q h => nomatch h) d_D_register_20
set_option maxHeartbeats 4000000 in
set_option maxRecDepth 100000 in
theorem c_D_forget1 (l : Launch) (G : va_G) (ct : Nat → ClassId) (sz : Nat) (hd : Nat) (us : Nat) (op : Nat) (n : Nat) (ck : Int32) (fu : Nat → Option Nat) (hu : Nat) (k : Nat) (nb : Int32) (sd : Int32) (uw : Int32) (uo : Nat) (ul : Int64) (uv : Nat) (uf : Int32) (u1 : Int32) (u2 : Int32) (u3 : Int32) (hk : k < 8) (hfu : fu k = some hu) (hw1 : ¬ uw = -1) : Met l my_D_forget (tb_w my_D_forget mb_D_forget 3 (some .boolean)) ({ frames := 1, cells := 0, slots := 0, locals := 21 }) (wk_P [.ref hd, .int (nI k)] G ct [(hd, .inr (0, [.ref us, .ref op, .int (nI n), .int ck])), (us, .inl ((ct 3), 8, .inr (.inr (.inr (.inr fu))))), (hu, .inr (1, [.int nb, .int sd, .int uw, .long (lN uo), .long ul, .long (lN uv), .int uf, .int u1, .int u2, .int u3]))] sz) (wk_Q (wk_oi (S := Unit) (fun _ => 1) (fun _ => True)) (fun _ : Unit => [(hd, .inr (0, [.ref us, .ref op, .int (nI n), .int ck])), (us, .inl ((ct 3), 8, .inr (.inr (.inr (.inr fu))))), (hu, .inr (1, [.int nb, .int sd, .int (-1), .long (lN uo), .long ul, .long (lN uv), .int uf, .int u1, .int u2, .int u3]))]) G (va_A [(hd, .inr (0, [.ref us, .ref op, .int (nI n), .int ck])), (us, .inl ((ct 3), 8, .inr (.inr (.inr (.inr fu))))), (hu, .inr (1, [.int nb, .int sd, .int uw, .long (lN uo), .long ul, .long (lN uv), .int uf, .int u1, .int u2, .int u3]))] sz)) 0 0 (va_A [(hd, .inr (0, [.ref us, .ref op, .int (nI n), .int ck])), (us, .inl ((ct 3), 8, .inr (.inr (.inr (.inr fu))))), (hu, .inr (1, [.int nb, .int sd, .int uw, .long (lN uo), .long ul, .long (lN uv), .int uf, .int u1, .int u2, .int u3]))] sz) := by
  refine Met.ofW (cc := mb_D_forget) (maxL := 3) (ret := (some .boolean)) (by decide) rfl ?_
  intro p e s m args below meth c s₁ B hml hv
  obtain ⟨rfl, hsz, hP, hK, hD0⟩ := hv
  have hx := B.exec
  have hb := B.bytes
  have hr := B.returns
  have hts := atoms_spec (ws := tb_w my_D_forget mb_D_forget 3 (some .boolean)) B.pre
  have hw : ∀ w ∈ gt_tbl, w.before [.ref hd, .int (nI k)].toArray s = true := fun w h => hts w (List.mem_cons_of_mem _ h)
  have hown : s.vm.findClass cr_D = some m.cls := findClass_of_methodNamed B.named
  have hlocks := B.notSynchronized
  subst hsz
  have hD := hD0.self (sz := s.heap.size)
  generalize hAe : va_A [(hd, .inr (0, [.ref us, .ref op, .int (nI n), .int ck])), (us, .inl ((ct 3), 8, .inr (.inr (.inr (.inr fu))))), (hu, .inr (1, [.int nb, .int sd, .int uw, .long (lN uo), .long ul, .long (lN uv), .int uf, .int u1, .int u2, .int u3]))] s.heap.size = A at hD ⊢
  have hA : ∀ q : Nat, s.heap.size ≤ q → A q := fun q h => by rw [← hAe]; exact Or.inr h
  have hS : va_S A s.heap s.heap [] := va_S.rf
  have hP : va_P G classes [(hd, .inr (0, [.ref us, .ref op, .int (nI n), .int ck])), (us, .inl ((ct 3), 8, .inr (.inr (.inr (.inr fu))))), (hu, .inr (1, [.int nb, .int sd, .int uw, .long (lN uo), .long ul, .long (lN uv), .int uf, .int u1, .int u2, .int u3]))] s.heap := hP
  have hl := lv_entry ([.ref hd, .int (nI k)]) (n := 3) (Nat.le_of_ble_eq_true rfl)
  rw [lg_entry_eq]
  generalize (lg_sl ([.ref hd, .int (nI k)]) ++ List.replicate (3 - (lg_sl ([.ref hd, .int (nI k)])).length) Slot.unset).toArray = ls at hl ⊢
  have hl : lv_has ls 3 [(0, .ref hd), (1, .int (nI k))] := hl
  refine lv_aload_n hx hb d_D_forget_0 rfl (lv_at hl 0 rfl) ?_
  refine lv_iload_n hx hb d_D_forget_1 rfl (lv_at hl 1 rfl) ?_
  have hPc : va_P G classes [(hd, .inr (0, [.ref us, .ref op, .int (nI n), .int ck])), (us, .inl ((ct 3), 8, .inr (.inr (.inr (.inr fu)))))] s.heap := hP.sub [0, 1] rfl
  have hDc := hD.sub (ws' := [(hd, .inr (0, [.ref us, .ref op, .int (nI n), .int ck])), (us, .inl ((ct 3), 8, .inr (.inr (.inr (.inr fu)))))]) [0, 1] (by decide) rfl
  refine va_csq (W.runV (As := [.int (nI k)]) (rest := []) ⟨hx, hb, hml, hown, hts⟩ (c_D_findUser1 l G ct s.heap.size hd us op n ck fu hu k hk hfu) (tb_V hw cy_D_findUser ww_85 ww_87 wp_D_findUser rfl rfl ⟨Nat.le_of_ble_eq_true rfl, Nat.le_of_ble_eq_true rfl⟩) (wk_preV (ci := 0) (q0 := 0) hPc hK hDc rfl rfl) rfl rfl hl.1 rfl (lv_room (Nat.le_of_ble_eq_true rfl)) d_D_forget_2 ⟨Nat.le_of_ble_eq_true rfl, Nat.le_of_ble_eq_true rfl⟩) (fun r752 er752 => ?_)
  subst er752
  refine tp_v (y := .ref hu) rfl ?_
  refine lv_astore_n (lv' := [(2, .ref hu), (0, .ref hd), (1, .int (nI k))]) hx hb d_D_forget_5 rfl hl (Nat.le_of_ble_eq_true rfl) rfl (fun ls hl => ?_)
  refine lv_aload_n hx hb d_D_forget_6 rfl (lv_at hl 0 rfl) ?_
  refine lv_ifnull hx hb d_D_forget_7 ?_
  refine lv_aload_n hx hb d_D_forget_10 rfl (lv_at hl 0 rfl) ?_
  refine va_get (D := G) (ci := 1) (v := .int uw) (C := cr_U) (T := cf_U) (N := 10) hx hb hw uw_U hown hK.1 hP 2 rfl rfl 2 (by decide) (hw _ ww_36) (fun _ h9 => h9) rfl d_D_forget_11 ?_
  refine lv_iconst (v := (-1)) hx hb d_D_forget_14 (by decide) ?_
  refine lv_icmp_ne (tgt := 20) hx hb d_D_forget_15 (by decide) (fun h753 => ?_) (fun h753 => ?_)
  · refine lv_aload_n hx hb d_D_forget_20 rfl (lv_at hl 0 rfl) ?_
    refine lv_iconst (v := (-1)) hx hb d_D_forget_21 (by decide) ?_
    refine va_put (D := G) (ci := 1) (v := .int (-1)) (ty := .int) (C := cr_U) (T := cf_U) (N := 10) hx hb hw uw_U ct_U ct_U_ok ct_U_nm hown hK.1 hP hD hS 2 rfl rfl 2 (by decide) (hw _ ww_36) (fun _ h9 => h9) rfl (by decide +kernel) rfl rfl (Nat.le_of_ble_eq_true rfl) d_D_forget_22 (fun H locs hP hD hS => ?_)
    have hP : va_P G classes [(hd, .inr (0, [.ref us, .ref op, .int (nI n), .int ck])), (us, .inl ((ct 3), 8, .inr (.inr (.inr (.inr fu))))), (hu, .inr (1, [.int nb, .int sd, .int (-1), .long (lN uo), .long ul, .long (lN uv), .int uf, .int u1, .int u2, .int u3]))] H := hP
    have hD : va_D A [(hd, .inr (0, [.ref us, .ref op, .int (nI n), .int ck])), (us, .inl ((ct 3), 8, .inr (.inr (.inr (.inr fu))))), (hu, .inr (1, [.int nb, .int sd, .int (-1), .long (lN uo), .long ul, .long (lN uv), .int uf, .int u1, .int u2, .int u3]))] := hD
    refine lv_iconst (v := 1) hx hb d_D_forget_25 (by decide) ?_
    exact W.zret (v := 1) (ty := .boolean) hx hb hr rfl (fun t ht hW => ⟨⟨(), ⟨rfl, trivial⟩, by rw [ht]; exact hP, hD⟩, hS.F ht⟩) hS.2.2 d_D_forget_26
  · exact absurd h753 hw1
set_option maxHeartbeats 4000000 in
set_option maxRecDepth 100000 in
theorem c_D_forget2 (l : Launch) (G : va_G) (ct : Nat → ClassId) (sz : Nat) (hd : Nat) (us : Nat) (op : Nat) (n : Nat) (ck : Int32) (fu : Nat → Option Nat) (hu : Nat) (k : Nat) (nb : Int32) (sd : Int32) (uw : Int32) (uo : Nat) (ul : Int64) (uv : Nat) (uf : Int32) (u1 : Int32) (u2 : Int32) (u3 : Int32) (hk : k < 8) (hfu : fu k = some hu) (hw1 : uw = -1) : Met l my_D_forget (tb_w my_D_forget mb_D_forget 3 (some .boolean)) ({ frames := 1, cells := 0, slots := 0, locals := 21 }) (wk_P [.ref hd, .int (nI k)] G ct [(hd, .inr (0, [.ref us, .ref op, .int (nI n), .int ck])), (us, .inl ((ct 3), 8, .inr (.inr (.inr (.inr fu))))), (hu, .inr (1, [.int nb, .int sd, .int uw, .long (lN uo), .long ul, .long (lN uv), .int uf, .int u1, .int u2, .int u3]))] sz) (vp_Si (fun r => r = 0)) 0 0 (fun _ => False) := by
  refine Met.ofW (cc := mb_D_forget) (maxL := 3) (ret := (some .boolean)) (by decide) rfl ?_
  intro p e s m args below meth c s₁ B hml hv
  obtain ⟨rfl, hsz, hP, hK, hD0⟩ := hv
  have hx := B.exec
  have hb := B.bytes
  have hr := B.returns
  have hts := atoms_spec (ws := tb_w my_D_forget mb_D_forget 3 (some .boolean)) B.pre
  have hw : ∀ w ∈ gt_tbl, w.before [.ref hd, .int (nI k)].toArray s = true := fun w h => hts w (List.mem_cons_of_mem _ h)
  have hown : s.vm.findClass cr_D = some m.cls := findClass_of_methodNamed B.named
  have hlocks := B.notSynchronized
  subst hsz
  have hD := hD0.self (sz := s.heap.size)
  generalize hAe : va_A [(hd, .inr (0, [.ref us, .ref op, .int (nI n), .int ck])), (us, .inl ((ct 3), 8, .inr (.inr (.inr (.inr fu))))), (hu, .inr (1, [.int nb, .int sd, .int uw, .long (lN uo), .long ul, .long (lN uv), .int uf, .int u1, .int u2, .int u3]))] s.heap.size = A at hD ⊢
  have hA : ∀ q : Nat, s.heap.size ≤ q → A q := fun q h => by rw [← hAe]; exact Or.inr h
  have hS : va_S A s.heap s.heap [] := va_S.rf
  have hP : va_P G classes [(hd, .inr (0, [.ref us, .ref op, .int (nI n), .int ck])), (us, .inl ((ct 3), 8, .inr (.inr (.inr (.inr fu))))), (hu, .inr (1, [.int nb, .int sd, .int uw, .long (lN uo), .long ul, .long (lN uv), .int uf, .int u1, .int u2, .int u3]))] s.heap := hP
  have hl := lv_entry ([.ref hd, .int (nI k)]) (n := 3) (Nat.le_of_ble_eq_true rfl)
  rw [lg_entry_eq]
  generalize (lg_sl ([.ref hd, .int (nI k)]) ++ List.replicate (3 - (lg_sl ([.ref hd, .int (nI k)])).length) Slot.unset).toArray = ls at hl ⊢
  have hl : lv_has ls 3 [(0, .ref hd), (1, .int (nI k))] := hl
  refine lv_aload_n hx hb d_D_forget_0 rfl (lv_at hl 0 rfl) ?_
  refine lv_iload_n hx hb d_D_forget_1 rfl (lv_at hl 1 rfl) ?_
  have hPc : va_P G classes [(hd, .inr (0, [.ref us, .ref op, .int (nI n), .int ck])), (us, .inl ((ct 3), 8, .inr (.inr (.inr (.inr fu)))))] s.heap := hP.sub [0, 1] rfl
  have hDc := hD0.sub (ws' := [(hd, .inr (0, [.ref us, .ref op, .int (nI n), .int ck])), (us, .inl ((ct 3), 8, .inr (.inr (.inr (.inr fu)))))]) [0, 1] (by decide) rfl
  refine va_csq (W.runV (As := [.int (nI k)]) (rest := []) ⟨hx, hb, hml, hown, hts⟩ (c_D_findUser1 l G ct s.heap.size hd us op n ck fu hu k hk hfu) (tb_V hw cy_D_findUser ww_85 ww_87 wp_D_findUser rfl rfl ⟨Nat.le_of_ble_eq_true rfl, Nat.le_of_ble_eq_true rfl⟩) (wk_preV (ci := 0) (q0 := 0) hPc hK hDc rfl rfl) rfl rfl hl.1 rfl (lv_room (Nat.le_of_ble_eq_true rfl)) d_D_forget_2 ⟨Nat.le_of_ble_eq_true rfl, Nat.le_of_ble_eq_true rfl⟩) (fun r754 er754 => ?_)
  subst er754
  refine tp_v (y := .ref hu) rfl ?_
  refine lv_astore_n (lv' := [(2, .ref hu), (0, .ref hd), (1, .int (nI k))]) hx hb d_D_forget_5 rfl hl (Nat.le_of_ble_eq_true rfl) rfl (fun ls hl => ?_)
  refine lv_aload_n hx hb d_D_forget_6 rfl (lv_at hl 0 rfl) ?_
  refine lv_ifnull hx hb d_D_forget_7 ?_
  refine lv_aload_n hx hb d_D_forget_10 rfl (lv_at hl 0 rfl) ?_
  refine va_get (D := G) (ci := 1) (v := .int uw) (C := cr_U) (T := cf_U) (N := 10) hx hb hw uw_U hown hK.1 hP 2 rfl rfl 2 (by decide) (hw _ ww_36) (fun _ h9 => h9) rfl d_D_forget_11 ?_
  refine lv_iconst (v := (-1)) hx hb d_D_forget_14 (by decide) ?_
  refine lv_icmp_ne (tgt := 20) hx hb d_D_forget_15 (by decide) (fun h755 => ?_) (fun h755 => ?_)
  · exact absurd hw1 h755
  · refine lv_iconst (v := 0) hx hb d_D_forget_18 (by decide) ?_
    exact W.zret (v := 0) (ty := .boolean) hx hb hr rfl (fun t ht hW => ⟨0, rfl, rfl, ht⟩) (fun q h => nomatch h) d_D_forget_19
set_option maxHeartbeats 4000000 in
set_option maxRecDepth 100000 in
theorem c_D_forget0 (l : Launch) (G : va_G) (ct : Nat → ClassId) (sz : Nat) (hd : Nat) (us : Nat) (op : Nat) (n : Nat) (ck : Int32) (ua : Int32) (hno : ¬ us_in ua) : Met l my_D_forget (tb_w my_D_forget mb_D_forget 3 (some .boolean)) ({ frames := 1, cells := 0, slots := 0, locals := 21 }) (wk_P [.ref hd, .int ua] G ct [(hd, .inr (0, [.ref us, .ref op, .int (nI n), .int ck]))] sz) (vp_Si (fun r => r = 0)) 0 0 (fun _ => False) := by
  refine Met.ofW (cc := mb_D_forget) (maxL := 3) (ret := (some .boolean)) (by decide) rfl ?_
  intro p e s m args below meth c s₁ B hml hv
  obtain ⟨rfl, hsz, hP, hK, hD0⟩ := hv
  have hx := B.exec
  have hb := B.bytes
  have hr := B.returns
  have hts := atoms_spec (ws := tb_w my_D_forget mb_D_forget 3 (some .boolean)) B.pre
  have hw : ∀ w ∈ gt_tbl, w.before [.ref hd, .int ua].toArray s = true := fun w h => hts w (List.mem_cons_of_mem _ h)
  have hown : s.vm.findClass cr_D = some m.cls := findClass_of_methodNamed B.named
  have hlocks := B.notSynchronized
  subst hsz
  have hD := hD0.self (sz := s.heap.size)
  generalize hAe : va_A [(hd, .inr (0, [.ref us, .ref op, .int (nI n), .int ck]))] s.heap.size = A at hD ⊢
  have hA : ∀ q : Nat, s.heap.size ≤ q → A q := fun q h => by rw [← hAe]; exact Or.inr h
  have hS : va_S A s.heap s.heap [] := va_S.rf
  have hP : va_P G classes [(hd, .inr (0, [.ref us, .ref op, .int (nI n), .int ck]))] s.heap := hP
  have hl := lv_entry ([.ref hd, .int ua]) (n := 3) (Nat.le_of_ble_eq_true rfl)
  rw [lg_entry_eq]
  generalize (lg_sl ([.ref hd, .int ua]) ++ List.replicate (3 - (lg_sl ([.ref hd, .int ua])).length) Slot.unset).toArray = ls at hl ⊢
  have hl : lv_has ls 3 [(0, .ref hd), (1, .int ua)] := hl
  refine lv_aload_n hx hb d_D_forget_0 rfl (lv_at hl 0 rfl) ?_
  refine lv_iload_n hx hb d_D_forget_1 rfl (lv_at hl 1 rfl) ?_
  have hPc : va_P G classes [(hd, .inr (0, [.ref us, .ref op, .int (nI n), .int ck]))] s.heap := hP.sub [0] rfl
  have hDc := hD0.sub (ws' := [(hd, .inr (0, [.ref us, .ref op, .int (nI n), .int ck]))]) [0] (by decide) rfl
  refine va_csq (W.runV (As := [.int ua]) (rest := []) ⟨hx, hb, hml, hown, hts⟩ (c_D_findUser0 l G ct s.heap.size hd us op n ck ua hno) (tb_V hw cy_D_findUser ww_85 ww_87 wp_D_findUser rfl rfl ⟨Nat.le_of_ble_eq_true rfl, Nat.le_of_ble_eq_true rfl⟩) (wk_preV (ci := 0) (q0 := 0) hPc hK hDc rfl rfl) rfl rfl hl.1 rfl (lv_room (Nat.le_of_ble_eq_true rfl)) d_D_forget_2 ⟨Nat.le_of_ble_eq_true rfl, Nat.le_of_ble_eq_true rfl⟩) (fun r756 er756 => ?_)
  subst er756
  refine tp_v (y := .null) rfl ?_
  refine lv_astore_nN (lv' := [(2, .null), (0, .ref hd), (1, .int ua)]) hx hb d_D_forget_5 rfl hl (Nat.le_of_ble_eq_true rfl) rfl (fun ls hl => ?_)
  refine lv_aload_nN hx hb d_D_forget_6 rfl (lv_at hl 0 rfl) ?_
  refine lv_ifnullN (tgt := 18) hx hb d_D_forget_7 (by decide) ?_
  refine lv_iconst (v := 0) hx hb d_D_forget_18 (by decide) ?_
  exact W.zret (v := 0) (ty := .boolean) hx hb hr rfl (fun t ht hW => ⟨0, rfl, rfl, ht⟩) (fun q h => nomatch h) d_D_forget_19
set_option maxHeartbeats 4000000 in
set_option maxRecDepth 100000 in
theorem c_D_way1 (l : Launch) (G : va_G) (ct : Nat → ClassId) (sz : Nat) (hd : Nat) (us : Nat) (op : Nat) (n : Nat) (ck : Int32) (fu : Nat → Option Nat) (hu : Nat) (k : Nat) (nb : Int32) (sd : Int32) (uw : Int32) (uo : Nat) (ul : Int64) (uv : Nat) (uf : Int32) (u1 : Int32) (u2 : Int32) (u3 : Int32) (hk : k < 8) (hfu : fu k = some hu) : Met l my_D_way (tb_w my_D_way mb_D_way 3 (some .int)) ({ frames := 1, cells := 0, slots := 0, locals := 21 }) (wk_P [.ref hd, .int (nI k)] G ct [(hd, .inr (0, [.ref us, .ref op, .int (nI n), .int ck])), (us, .inl ((ct 3), 8, .inr (.inr (.inr (.inr fu))))), (hu, .inr (1, [.int nb, .int sd, .int uw, .long (lN uo), .long ul, .long (lN uv), .int uf, .int u1, .int u2, .int u3]))] sz) (vp_Si (fun r => r = uw)) 0 0 (fun _ => False) := by
  refine Met.ofW (cc := mb_D_way) (maxL := 3) (ret := (some .int)) (by decide) rfl ?_
  intro p e s m args below meth c s₁ B hml hv
  obtain ⟨rfl, hsz, hP, hK, hD0⟩ := hv
  have hx := B.exec
  have hb := B.bytes
  have hr := B.returns
  have hts := atoms_spec (ws := tb_w my_D_way mb_D_way 3 (some .int)) B.pre
  have hw : ∀ w ∈ gt_tbl, w.before [.ref hd, .int (nI k)].toArray s = true := fun w h => hts w (List.mem_cons_of_mem _ h)
  have hown : s.vm.findClass cr_D = some m.cls := findClass_of_methodNamed B.named
  have hlocks := B.notSynchronized
  subst hsz
  have hD := hD0.self (sz := s.heap.size)
  generalize hAe : va_A [(hd, .inr (0, [.ref us, .ref op, .int (nI n), .int ck])), (us, .inl ((ct 3), 8, .inr (.inr (.inr (.inr fu))))), (hu, .inr (1, [.int nb, .int sd, .int uw, .long (lN uo), .long ul, .long (lN uv), .int uf, .int u1, .int u2, .int u3]))] s.heap.size = A at hD ⊢
  have hA : ∀ q : Nat, s.heap.size ≤ q → A q := fun q h => by rw [← hAe]; exact Or.inr h
  have hS : va_S A s.heap s.heap [] := va_S.rf
  have hP : va_P G classes [(hd, .inr (0, [.ref us, .ref op, .int (nI n), .int ck])), (us, .inl ((ct 3), 8, .inr (.inr (.inr (.inr fu))))), (hu, .inr (1, [.int nb, .int sd, .int uw, .long (lN uo), .long ul, .long (lN uv), .int uf, .int u1, .int u2, .int u3]))] s.heap := hP
  have hl := lv_entry ([.ref hd, .int (nI k)]) (n := 3) (Nat.le_of_ble_eq_true rfl)
  rw [lg_entry_eq]
  generalize (lg_sl ([.ref hd, .int (nI k)]) ++ List.replicate (3 - (lg_sl ([.ref hd, .int (nI k)])).length) Slot.unset).toArray = ls at hl ⊢
  have hl : lv_has ls 3 [(0, .ref hd), (1, .int (nI k))] := hl
  refine lv_aload_n hx hb d_D_way_0 rfl (lv_at hl 0 rfl) ?_
  refine lv_iload_n hx hb d_D_way_1 rfl (lv_at hl 1 rfl) ?_
  have hPc : va_P G classes [(hd, .inr (0, [.ref us, .ref op, .int (nI n), .int ck])), (us, .inl ((ct 3), 8, .inr (.inr (.inr (.inr fu)))))] s.heap := hP.sub [0, 1] rfl
  have hDc := hD0.sub (ws' := [(hd, .inr (0, [.ref us, .ref op, .int (nI n), .int ck])), (us, .inl ((ct 3), 8, .inr (.inr (.inr (.inr fu)))))]) [0, 1] (by decide) rfl
  refine va_csq (W.runV (As := [.int (nI k)]) (rest := []) ⟨hx, hb, hml, hown, hts⟩ (c_D_findUser1 l G ct s.heap.size hd us op n ck fu hu k hk hfu) (tb_V hw cy_D_findUser ww_85 ww_87 wp_D_findUser rfl rfl ⟨Nat.le_of_ble_eq_true rfl, Nat.le_of_ble_eq_true rfl⟩) (wk_preV (ci := 0) (q0 := 0) hPc hK hDc rfl rfl) rfl rfl hl.1 rfl (lv_room (Nat.le_of_ble_eq_true rfl)) d_D_way_2 ⟨Nat.le_of_ble_eq_true rfl, Nat.le_of_ble_eq_true rfl⟩) (fun r757 er757 => ?_)
  subst er757
  refine tp_v (y := .ref hu) rfl ?_
  refine lv_astore_n (lv' := [(2, .ref hu), (0, .ref hd), (1, .int (nI k))]) hx hb d_D_way_5 rfl hl (Nat.le_of_ble_eq_true rfl) rfl (fun ls hl => ?_)
  refine lv_aload_n hx hb d_D_way_6 rfl (lv_at hl 0 rfl) ?_
  refine lv_ifnonnull (tgt := 14) hx hb d_D_way_7 (by decide) ?_
  refine lv_aload_n hx hb d_D_way_14 rfl (lv_at hl 0 rfl) ?_
  refine va_get (D := G) (ci := 1) (v := .int uw) (C := cr_U) (T := cf_U) (N := 10) hx hb hw uw_U hown hK.1 hP 2 rfl rfl 2 (by decide) (hw _ ww_36) (fun _ h9 => h9) rfl d_D_way_15 ?_
  exact W.iret (v := uw) hx hb hr (fun t ht hW => ⟨uw, rfl, rfl, ht⟩) (fun q h => nomatch h) d_D_way_18
set_option maxHeartbeats 4000000 in
set_option maxRecDepth 100000 in
theorem c_D_way0 (l : Launch) (G : va_G) (ct : Nat → ClassId) (sz : Nat) (hd : Nat) (us : Nat) (op : Nat) (n : Nat) (ck : Int32) (ua : Int32) (hno : ¬ us_in ua) : Met l my_D_way (tb_w my_D_way mb_D_way 3 (some .int)) ({ frames := 1, cells := 0, slots := 0, locals := 21 }) (wk_P [.ref hd, .int ua] G ct [(hd, .inr (0, [.ref us, .ref op, .int (nI n), .int ck]))] sz) (vp_Si (fun r => r = (-1))) 0 0 (fun _ => False) := by
  refine Met.ofW (cc := mb_D_way) (maxL := 3) (ret := (some .int)) (by decide) rfl ?_
  intro p e s m args below meth c s₁ B hml hv
  obtain ⟨rfl, hsz, hP, hK, hD0⟩ := hv
  have hx := B.exec
  have hb := B.bytes
  have hr := B.returns
  have hts := atoms_spec (ws := tb_w my_D_way mb_D_way 3 (some .int)) B.pre
  have hw : ∀ w ∈ gt_tbl, w.before [.ref hd, .int ua].toArray s = true := fun w h => hts w (List.mem_cons_of_mem _ h)
  have hown : s.vm.findClass cr_D = some m.cls := findClass_of_methodNamed B.named
  have hlocks := B.notSynchronized
  subst hsz
  have hD := hD0.self (sz := s.heap.size)
  generalize hAe : va_A [(hd, .inr (0, [.ref us, .ref op, .int (nI n), .int ck]))] s.heap.size = A at hD ⊢
  have hA : ∀ q : Nat, s.heap.size ≤ q → A q := fun q h => by rw [← hAe]; exact Or.inr h
  have hS : va_S A s.heap s.heap [] := va_S.rf
  have hP : va_P G classes [(hd, .inr (0, [.ref us, .ref op, .int (nI n), .int ck]))] s.heap := hP
  have hl := lv_entry ([.ref hd, .int ua]) (n := 3) (Nat.le_of_ble_eq_true rfl)
  rw [lg_entry_eq]
  generalize (lg_sl ([.ref hd, .int ua]) ++ List.replicate (3 - (lg_sl ([.ref hd, .int ua])).length) Slot.unset).toArray = ls at hl ⊢
  have hl : lv_has ls 3 [(0, .ref hd), (1, .int ua)] := hl
  refine lv_aload_n hx hb d_D_way_0 rfl (lv_at hl 0 rfl) ?_
  refine lv_iload_n hx hb d_D_way_1 rfl (lv_at hl 1 rfl) ?_
  have hPc : va_P G classes [(hd, .inr (0, [.ref us, .ref op, .int (nI n), .int ck]))] s.heap := hP.sub [0] rfl
  have hDc := hD0.sub (ws' := [(hd, .inr (0, [.ref us, .ref op, .int (nI n), .int ck]))]) [0] (by decide) rfl
  refine va_csq (W.runV (As := [.int ua]) (rest := []) ⟨hx, hb, hml, hown, hts⟩ (c_D_findUser0 l G ct s.heap.size hd us op n ck ua hno) (tb_V hw cy_D_findUser ww_85 ww_87 wp_D_findUser rfl rfl ⟨Nat.le_of_ble_eq_true rfl, Nat.le_of_ble_eq_true rfl⟩) (wk_preV (ci := 0) (q0 := 0) hPc hK hDc rfl rfl) rfl rfl hl.1 rfl (lv_room (Nat.le_of_ble_eq_true rfl)) d_D_way_2 ⟨Nat.le_of_ble_eq_true rfl, Nat.le_of_ble_eq_true rfl⟩) (fun r758 er758 => ?_)
  subst er758
  refine tp_v (y := .null) rfl ?_
  refine lv_astore_nN (lv' := [(2, .null), (0, .ref hd), (1, .int ua)]) hx hb d_D_way_5 rfl hl (Nat.le_of_ble_eq_true rfl) rfl (fun ls hl => ?_)
  refine lv_aload_nN hx hb d_D_way_6 rfl (lv_at hl 0 rfl) ?_
  refine lv_ifnonnullN hx hb d_D_way_7 ?_
  refine lv_iconst (v := (-1)) hx hb d_D_way_10 (by decide) ?_
  refine lv_goto (tgt := 18) hx hb d_D_way_11 (by decide) ?_
  exact W.iret (v := (-1)) hx hb hr (fun t ht hW => ⟨(-1), rfl, rfl, ht⟩) (fun q h => nomatch h) d_D_way_18
set_option maxHeartbeats 4000000 in
set_option maxRecDepth 100000 in
theorem c_D_salt1 (l : Launch) (G : va_G) (ct : Nat → ClassId) (sz : Nat) (hd : Nat) (us : Nat) (op : Nat) (n : Nat) (ck : Int32) (fu : Nat → Option Nat) (hu : Nat) (k : Nat) (nb : Int32) (sd : Int32) (uw : Int32) (uo : Nat) (ul : Int64) (uv : Nat) (uf : Int32) (u1 : Int32) (u2 : Int32) (u3 : Int32) (hk : k < 8) (hfu : fu k = some hu) : Met l my_D_salt (tb_w my_D_salt mb_D_salt 3 (some .long)) ({ frames := 3, cells := 0, slots := 0, locals := 71 }) (wk_P [.ref hd, .int (nI k)] G ct [(hd, .inr (0, [.ref us, .ref op, .int (nI n), .int ck])), (us, .inl ((ct 3), 8, .inr (.inr (.inr (.inr fu))))), (hu, .inr (1, [.int nb, .int sd, .int uw, .long (lN uo), .long ul, .long (lN uv), .int uf, .int u1, .int u2, .int u3]))] sz) (vp_Sl (fun r => r = us_sa sd nb uw ul)) 0 0 (fun _ => False) := by
  refine Met.ofW (cc := mb_D_salt) (maxL := 3) (ret := (some .long)) (by decide) rfl ?_
  intro p e s m args below meth c s₁ B hml hv
  obtain ⟨rfl, hsz, hP, hK, hD0⟩ := hv
  have hx := B.exec
  have hb := B.bytes
  have hr := B.returns
  have hts := atoms_spec (ws := tb_w my_D_salt mb_D_salt 3 (some .long)) B.pre
  have hw : ∀ w ∈ gt_tbl, w.before [.ref hd, .int (nI k)].toArray s = true := fun w h => hts w (List.mem_cons_of_mem _ h)
  have hown : s.vm.findClass cr_D = some m.cls := findClass_of_methodNamed B.named
  have hlocks := B.notSynchronized
  subst hsz
  have hD := hD0.self (sz := s.heap.size)
  generalize hAe : va_A [(hd, .inr (0, [.ref us, .ref op, .int (nI n), .int ck])), (us, .inl ((ct 3), 8, .inr (.inr (.inr (.inr fu))))), (hu, .inr (1, [.int nb, .int sd, .int uw, .long (lN uo), .long ul, .long (lN uv), .int uf, .int u1, .int u2, .int u3]))] s.heap.size = A at hD ⊢
  have hA : ∀ q : Nat, s.heap.size ≤ q → A q := fun q h => by rw [← hAe]; exact Or.inr h
  have hS : va_S A s.heap s.heap [] := va_S.rf
  have hP : va_P G classes [(hd, .inr (0, [.ref us, .ref op, .int (nI n), .int ck])), (us, .inl ((ct 3), 8, .inr (.inr (.inr (.inr fu))))), (hu, .inr (1, [.int nb, .int sd, .int uw, .long (lN uo), .long ul, .long (lN uv), .int uf, .int u1, .int u2, .int u3]))] s.heap := hP
  have hl := lv_entry ([.ref hd, .int (nI k)]) (n := 3) (Nat.le_of_ble_eq_true rfl)
  rw [lg_entry_eq]
  generalize (lg_sl ([.ref hd, .int (nI k)]) ++ List.replicate (3 - (lg_sl ([.ref hd, .int (nI k)])).length) Slot.unset).toArray = ls at hl ⊢
  have hl : lv_has ls 3 [(0, .ref hd), (1, .int (nI k))] := hl
  refine lv_aload_n hx hb d_D_salt_0 rfl (lv_at hl 0 rfl) ?_
  refine lv_iload_n hx hb d_D_salt_1 rfl (lv_at hl 1 rfl) ?_
  have hPc : va_P G classes [(hd, .inr (0, [.ref us, .ref op, .int (nI n), .int ck])), (us, .inl ((ct 3), 8, .inr (.inr (.inr (.inr fu)))))] s.heap := hP.sub [0, 1] rfl
  have hDc := hD0.sub (ws' := [(hd, .inr (0, [.ref us, .ref op, .int (nI n), .int ck])), (us, .inl ((ct 3), 8, .inr (.inr (.inr (.inr fu)))))]) [0, 1] (by decide) rfl
  refine va_csq (W.runV (As := [.int (nI k)]) (rest := []) ⟨hx, hb, hml, hown, hts⟩ (c_D_findUser1 l G ct s.heap.size hd us op n ck fu hu k hk hfu) (tb_V hw cy_D_findUser ww_85 ww_87 wp_D_findUser rfl rfl ⟨Nat.le_of_ble_eq_true rfl, Nat.le_of_ble_eq_true rfl⟩) (wk_preV (ci := 0) (q0 := 0) hPc hK hDc rfl rfl) rfl rfl hl.1 rfl (lv_room (Nat.le_of_ble_eq_true rfl)) d_D_salt_2 ⟨Nat.le_of_ble_eq_true rfl, Nat.le_of_ble_eq_true rfl⟩) (fun r759 er759 => ?_)
  subst er759
  refine tp_v (y := .ref hu) rfl ?_
  refine lv_astore_n (lv' := [(2, .ref hu), (0, .ref hd), (1, .int (nI k))]) hx hb d_D_salt_5 rfl hl (Nat.le_of_ble_eq_true rfl) rfl (fun ls hl => ?_)
  refine lv_aload_n hx hb d_D_salt_6 rfl (lv_at hl 0 rfl) ?_
  refine lv_ifnonnull (tgt := 14) hx hb d_D_salt_7 (by decide) ?_
  refine lv_aload_n hx hb d_D_salt_14 rfl (lv_at hl 0 rfl) ?_
  have hPc : va_P G classes [(hu, .inr (1, [.int nb, .int sd, .int uw, .long (lN uo), .long ul, .long (lN uv), .int uf, .int u1, .int u2, .int u3]))] s.heap := hP.sub [2] rfl
  have hDc := hD0.sub (ws' := [(hu, .inr (1, [.int nb, .int sd, .int uw, .long (lN uo), .long ul, .long (lN uv), .int uf, .int u1, .int u2, .int u3]))]) [2] (by decide) rfl
  refine vp_callSl (W.runV (As := []) (rest := []) ⟨hx, hb, hml, hown, hts⟩ (c_U_saltOrFake l G ct s.heap.size hu nb sd uw uo ul uv uf u1 u2 u3) (tb_V hw cy_U_saltOrFake ww_142 ww_143 ww_144 rfl rfl ⟨Nat.le_of_ble_eq_true rfl, Nat.le_of_ble_eq_true rfl⟩) (wk_preV (ci := 1) (q0 := 0) hPc hK hDc rfl rfl) rfl rfl hl.1 rfl (lv_room (Nat.le_of_ble_eq_true rfl)) d_D_salt_15 ⟨Nat.le_of_ble_eq_true rfl, Nat.le_of_ble_eq_true rfl⟩) (fun r760 er760 => ?_)
  subst er760
  exact W.lret (v := us_sa sd nb uw ul) hx hb hr (fun t ht hW => ⟨us_sa sd nb uw ul, rfl, rfl, ht⟩) (fun q h => nomatch h) d_D_salt_18
set_option maxHeartbeats 4000000 in
set_option maxRecDepth 100000 in
theorem c_D_salt0 (l : Launch) (G : va_G) (ct : Nat → ClassId) (sz : Nat) (hd : Nat) (us : Nat) (op : Nat) (n : Nat) (ck : Int32) (ua : Int32) (hno : ¬ us_in ua) : Met l my_D_salt (tb_w my_D_salt mb_D_salt 3 (some .long)) ({ frames := 1, cells := 0, slots := 0, locals := 21 }) (wk_P [.ref hd, .int ua] G ct [(hd, .inr (0, [.ref us, .ref op, .int (nI n), .int ck]))] sz) (vp_Sl (fun r => r = 0)) 0 0 (fun _ => False) := by
  refine Met.ofW (cc := mb_D_salt) (maxL := 3) (ret := (some .long)) (by decide) rfl ?_
  intro p e s m args below meth c s₁ B hml hv
  obtain ⟨rfl, hsz, hP, hK, hD0⟩ := hv
  have hx := B.exec
  have hb := B.bytes
  have hr := B.returns
  have hts := atoms_spec (ws := tb_w my_D_salt mb_D_salt 3 (some .long)) B.pre
  have hw : ∀ w ∈ gt_tbl, w.before [.ref hd, .int ua].toArray s = true := fun w h => hts w (List.mem_cons_of_mem _ h)
  have hown : s.vm.findClass cr_D = some m.cls := findClass_of_methodNamed B.named
  have hlocks := B.notSynchronized
  subst hsz
  have hD := hD0.self (sz := s.heap.size)
  generalize hAe : va_A [(hd, .inr (0, [.ref us, .ref op, .int (nI n), .int ck]))] s.heap.size = A at hD ⊢
  have hA : ∀ q : Nat, s.heap.size ≤ q → A q := fun q h => by rw [← hAe]; exact Or.inr h
  have hS : va_S A s.heap s.heap [] := va_S.rf
  have hP : va_P G classes [(hd, .inr (0, [.ref us, .ref op, .int (nI n), .int ck]))] s.heap := hP
  have hl := lv_entry ([.ref hd, .int ua]) (n := 3) (Nat.le_of_ble_eq_true rfl)
  rw [lg_entry_eq]
  generalize (lg_sl ([.ref hd, .int ua]) ++ List.replicate (3 - (lg_sl ([.ref hd, .int ua])).length) Slot.unset).toArray = ls at hl ⊢
  have hl : lv_has ls 3 [(0, .ref hd), (1, .int ua)] := hl
  refine lv_aload_n hx hb d_D_salt_0 rfl (lv_at hl 0 rfl) ?_
  refine lv_iload_n hx hb d_D_salt_1 rfl (lv_at hl 1 rfl) ?_
  have hPc : va_P G classes [(hd, .inr (0, [.ref us, .ref op, .int (nI n), .int ck]))] s.heap := hP.sub [0] rfl
  have hDc := hD0.sub (ws' := [(hd, .inr (0, [.ref us, .ref op, .int (nI n), .int ck]))]) [0] (by decide) rfl
  refine va_csq (W.runV (As := [.int ua]) (rest := []) ⟨hx, hb, hml, hown, hts⟩ (c_D_findUser0 l G ct s.heap.size hd us op n ck ua hno) (tb_V hw cy_D_findUser ww_85 ww_87 wp_D_findUser rfl rfl ⟨Nat.le_of_ble_eq_true rfl, Nat.le_of_ble_eq_true rfl⟩) (wk_preV (ci := 0) (q0 := 0) hPc hK hDc rfl rfl) rfl rfl hl.1 rfl (lv_room (Nat.le_of_ble_eq_true rfl)) d_D_salt_2 ⟨Nat.le_of_ble_eq_true rfl, Nat.le_of_ble_eq_true rfl⟩) (fun r761 er761 => ?_)
  subst er761
  refine tp_v (y := .null) rfl ?_
  refine lv_astore_nN (lv' := [(2, .null), (0, .ref hd), (1, .int ua)]) hx hb d_D_salt_5 rfl hl (Nat.le_of_ble_eq_true rfl) rfl (fun ls hl => ?_)
  refine lv_aload_nN hx hb d_D_salt_6 rfl (lv_at hl 0 rfl) ?_
  refine lv_ifnonnullN hx hb d_D_salt_7 ?_
  refine lv_lconst (v := 0) hx hb d_D_salt_10 (by decide) ?_
  refine lv_goto (tgt := 18) hx hb d_D_salt_11 (by decide) ?_
  exact W.lret (v := 0) hx hb hr (fun t ht hW => ⟨0, rfl, rfl, ht⟩) (fun q h => nomatch h) d_D_salt_18
set_option maxHeartbeats 4000000 in
set_option maxRecDepth 100000 in
theorem c_D_blocked1 (l : Launch) (G : va_G) (ct : Nat → ClassId) (sz : Nat) (hd : Nat) (us : Nat) (op : Nat) (n : Nat) (ck : Int32) (fu : Nat → Option Nat) (hu : Nat) (k : Nat) (nb : Int32) (sd : Int32) (uw : Int32) (uo : Nat) (ul : Int64) (uv : Nat) (uf : Int32) (u1 : Int32) (u2 : Int32) (u3 : Int32) (hk : k < 8) (hfu : fu k = some hu) : Met l my_D_blocked (tb_w my_D_blocked mb_D_blocked 3 (some .boolean)) ({ frames := 1, cells := 0, slots := 0, locals := 21 }) (wk_P [.ref hd, .int (nI k)] G ct [(hd, .inr (0, [.ref us, .ref op, .int (nI n), .int ck])), (us, .inl ((ct 3), 8, .inr (.inr (.inr (.inr fu))))), (hu, .inr (1, [.int nb, .int sd, .int uw, .long (lN uo), .long ul, .long (lN uv), .int uf, .int u1, .int u2, .int u3]))] sz) (vp_Si (fun r => r = (if us_bl uf u3 ck then 1 else 0))) 0 0 (fun _ => False) := by
  refine Met.ofW (cc := mb_D_blocked) (maxL := 3) (ret := (some .boolean)) (by decide) rfl ?_
  intro p e s m args below meth c s₁ B hml hv
  obtain ⟨rfl, hsz, hP, hK, hD0⟩ := hv
  have hx := B.exec
  have hb := B.bytes
  have hr := B.returns
  have hts := atoms_spec (ws := tb_w my_D_blocked mb_D_blocked 3 (some .boolean)) B.pre
  have hw : ∀ w ∈ gt_tbl, w.before [.ref hd, .int (nI k)].toArray s = true := fun w h => hts w (List.mem_cons_of_mem _ h)
  have hown : s.vm.findClass cr_D = some m.cls := findClass_of_methodNamed B.named
  have hlocks := B.notSynchronized
  subst hsz
  have hD := hD0.self (sz := s.heap.size)
  generalize hAe : va_A [(hd, .inr (0, [.ref us, .ref op, .int (nI n), .int ck])), (us, .inl ((ct 3), 8, .inr (.inr (.inr (.inr fu))))), (hu, .inr (1, [.int nb, .int sd, .int uw, .long (lN uo), .long ul, .long (lN uv), .int uf, .int u1, .int u2, .int u3]))] s.heap.size = A at hD ⊢
  have hA : ∀ q : Nat, s.heap.size ≤ q → A q := fun q h => by rw [← hAe]; exact Or.inr h
  have hS : va_S A s.heap s.heap [] := va_S.rf
  have hP : va_P G classes [(hd, .inr (0, [.ref us, .ref op, .int (nI n), .int ck])), (us, .inl ((ct 3), 8, .inr (.inr (.inr (.inr fu))))), (hu, .inr (1, [.int nb, .int sd, .int uw, .long (lN uo), .long ul, .long (lN uv), .int uf, .int u1, .int u2, .int u3]))] s.heap := hP
  have hl := lv_entry ([.ref hd, .int (nI k)]) (n := 3) (Nat.le_of_ble_eq_true rfl)
  rw [lg_entry_eq]
  generalize (lg_sl ([.ref hd, .int (nI k)]) ++ List.replicate (3 - (lg_sl ([.ref hd, .int (nI k)])).length) Slot.unset).toArray = ls at hl ⊢
  have hl : lv_has ls 3 [(0, .ref hd), (1, .int (nI k))] := hl
  refine lv_aload_n hx hb d_D_blocked_0 rfl (lv_at hl 0 rfl) ?_
  refine lv_iload_n hx hb d_D_blocked_1 rfl (lv_at hl 1 rfl) ?_
  have hPc : va_P G classes [(hd, .inr (0, [.ref us, .ref op, .int (nI n), .int ck])), (us, .inl ((ct 3), 8, .inr (.inr (.inr (.inr fu)))))] s.heap := hP.sub [0, 1] rfl
  have hDc := hD0.sub (ws' := [(hd, .inr (0, [.ref us, .ref op, .int (nI n), .int ck])), (us, .inl ((ct 3), 8, .inr (.inr (.inr (.inr fu)))))]) [0, 1] (by decide) rfl
  refine va_csq (W.runV (As := [.int (nI k)]) (rest := []) ⟨hx, hb, hml, hown, hts⟩ (c_D_findUser1 l G ct s.heap.size hd us op n ck fu hu k hk hfu) (tb_V hw cy_D_findUser ww_85 ww_87 wp_D_findUser rfl rfl ⟨Nat.le_of_ble_eq_true rfl, Nat.le_of_ble_eq_true rfl⟩) (wk_preV (ci := 0) (q0 := 0) hPc hK hDc rfl rfl) rfl rfl hl.1 rfl (lv_room (Nat.le_of_ble_eq_true rfl)) d_D_blocked_2 ⟨Nat.le_of_ble_eq_true rfl, Nat.le_of_ble_eq_true rfl⟩) (fun r762 er762 => ?_)
  subst er762
  refine tp_v (y := .ref hu) rfl ?_
  refine lv_astore_n (lv' := [(2, .ref hu), (0, .ref hd), (1, .int (nI k))]) hx hb d_D_blocked_5 rfl hl (Nat.le_of_ble_eq_true rfl) rfl (fun ls hl => ?_)
  refine lv_aload_n hx hb d_D_blocked_6 rfl (lv_at hl 0 rfl) ?_
  refine lv_ifnull hx hb d_D_blocked_7 ?_
  refine lv_aload_n hx hb d_D_blocked_10 rfl (lv_at hl 0 rfl) ?_
  refine lv_aload_n hx hb d_D_blocked_11 rfl (lv_at hl 1 rfl) ?_
  refine va_get (D := G) (ci := 0) (v := .int ck) (C := cr_D) (T := cf_D) (N := 4) hx hb hw uw_D hown hK.1 hP 0 rfl rfl 3 (by decide) (hw _ ww_71) (fun _ h9 => h9) rfl d_D_blocked_12 ?_
  have hPc : va_P G classes [(hu, .inr (1, [.int nb, .int sd, .int uw, .long (lN uo), .long ul, .long (lN uv), .int uf, .int u1, .int u2, .int u3]))] s.heap := hP.sub [2] rfl
  have hDc := hD0.sub (ws' := [(hu, .inr (1, [.int nb, .int sd, .int uw, .long (lN uo), .long ul, .long (lN uv), .int uf, .int u1, .int u2, .int u3]))]) [2] (by decide) rfl
  refine vp_callSi (W.runV (As := [.int ck]) (rest := []) ⟨hx, hb, hml, hown, hts⟩ (c_U_isBlockedAt l G ct s.heap.size hu nb sd uw uo ul uv uf u1 u2 u3 ck) (tb_V hw cy_U_isBlockedAt ww_172 ww_173 ww_174 rfl rfl ⟨Nat.le_of_ble_eq_true rfl, Nat.le_of_ble_eq_true rfl⟩) (wk_preV (ci := 1) (q0 := 0) hPc hK hDc rfl rfl) rfl rfl hl.1 rfl (lv_room (Nat.le_of_ble_eq_true rfl)) d_D_blocked_15 ⟨Nat.le_of_ble_eq_true rfl, Nat.le_of_ble_eq_true rfl⟩) (fun r763 er763 => ?_)
  subst er763
  refine lv_if_eq (tgt := 25) hx hb d_D_blocked_18 (by decide) (fun h764 => ?_) (fun h764 => ?_)
  · refine lv_iconst (v := 0) hx hb d_D_blocked_25 (by decide) ?_
    exact W.zret (v := 0) (ty := .boolean) hx hb hr rfl (fun t ht hW => ⟨0, rfl, (by rw [if_neg (bz_f h764)]), ht⟩) (fun q h => nomatch h) d_D_blocked_26
  · refine lv_iconst (v := 1) hx hb d_D_blocked_21 (by decide) ?_
    refine lv_goto (tgt := 26) hx hb d_D_blocked_22 (by decide) ?_
    exact W.zret (v := 1) (ty := .boolean) hx hb hr rfl (fun t ht hW => ⟨1, rfl, (by rw [if_pos (bz_t h764)]), ht⟩) (fun q h => nomatch h) d_D_blocked_26
set_option maxHeartbeats 4000000 in
set_option maxRecDepth 100000 in
theorem c_D_blocked0 (l : Launch) (G : va_G) (ct : Nat → ClassId) (sz : Nat) (hd : Nat) (us : Nat) (op : Nat) (n : Nat) (ck : Int32) (ua : Int32) (hno : ¬ us_in ua) : Met l my_D_blocked (tb_w my_D_blocked mb_D_blocked 3 (some .boolean)) ({ frames := 1, cells := 0, slots := 0, locals := 21 }) (wk_P [.ref hd, .int ua] G ct [(hd, .inr (0, [.ref us, .ref op, .int (nI n), .int ck]))] sz) (vp_Si (fun r => r = 0)) 0 0 (fun _ => False) := by
  refine Met.ofW (cc := mb_D_blocked) (maxL := 3) (ret := (some .boolean)) (by decide) rfl ?_
  intro p e s m args below meth c s₁ B hml hv
  obtain ⟨rfl, hsz, hP, hK, hD0⟩ := hv
  have hx := B.exec
  have hb := B.bytes
  have hr := B.returns
  have hts := atoms_spec (ws := tb_w my_D_blocked mb_D_blocked 3 (some .boolean)) B.pre
  have hw : ∀ w ∈ gt_tbl, w.before [.ref hd, .int ua].toArray s = true := fun w h => hts w (List.mem_cons_of_mem _ h)
  have hown : s.vm.findClass cr_D = some m.cls := findClass_of_methodNamed B.named
  have hlocks := B.notSynchronized
  subst hsz
  have hD := hD0.self (sz := s.heap.size)
  generalize hAe : va_A [(hd, .inr (0, [.ref us, .ref op, .int (nI n), .int ck]))] s.heap.size = A at hD ⊢
  have hA : ∀ q : Nat, s.heap.size ≤ q → A q := fun q h => by rw [← hAe]; exact Or.inr h
  have hS : va_S A s.heap s.heap [] := va_S.rf
  have hP : va_P G classes [(hd, .inr (0, [.ref us, .ref op, .int (nI n), .int ck]))] s.heap := hP
  have hl := lv_entry ([.ref hd, .int ua]) (n := 3) (Nat.le_of_ble_eq_true rfl)
  rw [lg_entry_eq]
  generalize (lg_sl ([.ref hd, .int ua]) ++ List.replicate (3 - (lg_sl ([.ref hd, .int ua])).length) Slot.unset).toArray = ls at hl ⊢
  have hl : lv_has ls 3 [(0, .ref hd), (1, .int ua)] := hl
  refine lv_aload_n hx hb d_D_blocked_0 rfl (lv_at hl 0 rfl) ?_
  refine lv_iload_n hx hb d_D_blocked_1 rfl (lv_at hl 1 rfl) ?_
  have hPc : va_P G classes [(hd, .inr (0, [.ref us, .ref op, .int (nI n), .int ck]))] s.heap := hP.sub [0] rfl
  have hDc := hD0.sub (ws' := [(hd, .inr (0, [.ref us, .ref op, .int (nI n), .int ck]))]) [0] (by decide) rfl
  refine va_csq (W.runV (As := [.int ua]) (rest := []) ⟨hx, hb, hml, hown, hts⟩ (c_D_findUser0 l G ct s.heap.size hd us op n ck ua hno) (tb_V hw cy_D_findUser ww_85 ww_87 wp_D_findUser rfl rfl ⟨Nat.le_of_ble_eq_true rfl, Nat.le_of_ble_eq_true rfl⟩) (wk_preV (ci := 0) (q0 := 0) hPc hK hDc rfl rfl) rfl rfl hl.1 rfl (lv_room (Nat.le_of_ble_eq_true rfl)) d_D_blocked_2 ⟨Nat.le_of_ble_eq_true rfl, Nat.le_of_ble_eq_true rfl⟩) (fun r765 er765 => ?_)
  subst er765
  refine tp_v (y := .null) rfl ?_
  refine lv_astore_nN (lv' := [(2, .null), (0, .ref hd), (1, .int ua)]) hx hb d_D_blocked_5 rfl hl (Nat.le_of_ble_eq_true rfl) rfl (fun ls hl => ?_)
  refine lv_aload_nN hx hb d_D_blocked_6 rfl (lv_at hl 0 rfl) ?_
  refine lv_ifnullN (tgt := 25) hx hb d_D_blocked_7 (by decide) ?_
  refine lv_iconst (v := 0) hx hb d_D_blocked_25 (by decide) ?_
  exact W.zret (v := 0) (ty := .boolean) hx hb hr rfl (fun t ht hW => ⟨0, rfl, rfl, ht⟩) (fun q h => nomatch h) d_D_blocked_26
set_option maxHeartbeats 4000000 in
set_option maxRecDepth 100000 in
theorem c_D_last0 (l : Launch) (G : va_G) (ct : Nat → ClassId) (sz : Nat) (hd : Nat) (us : Nat) (op : Nat) (n : Nat) (ck : Int32) (sa : Int32) (hno : ¬ th_in sa n) : Met l my_D_lastMessageOf (tb_w my_D_lastMessageOf mb_D_lastMessageOf 3 (some .long)) ({ frames := 1, cells := 0, slots := 0, locals := 21 }) (wk_P [.ref hd, .int sa] G ct [(hd, .inr (0, [.ref us, .ref op, .int (nI n), .int ck]))] sz) (vp_Sl (fun r => r = 0)) 0 0 (fun _ => False) := by
  refine Met.ofW (cc := mb_D_lastMessageOf) (maxL := 3) (ret := (some .long)) (by decide) rfl ?_
  intro p e s m args below meth c s₁ B hml hv
  obtain ⟨rfl, hsz, hP, hK, hD0⟩ := hv
  have hx := B.exec
  have hb := B.bytes
  have hr := B.returns
  have hts := atoms_spec (ws := tb_w my_D_lastMessageOf mb_D_lastMessageOf 3 (some .long)) B.pre
  have hw : ∀ w ∈ gt_tbl, w.before [.ref hd, .int sa].toArray s = true := fun w h => hts w (List.mem_cons_of_mem _ h)
  have hown : s.vm.findClass cr_D = some m.cls := findClass_of_methodNamed B.named
  have hlocks := B.notSynchronized
  subst hsz
  have hD := hD0.self (sz := s.heap.size)
  generalize hAe : va_A [(hd, .inr (0, [.ref us, .ref op, .int (nI n), .int ck]))] s.heap.size = A at hD ⊢
  have hA : ∀ q : Nat, s.heap.size ≤ q → A q := fun q h => by rw [← hAe]; exact Or.inr h
  have hS : va_S A s.heap s.heap [] := va_S.rf
  have hP : va_P G classes [(hd, .inr (0, [.ref us, .ref op, .int (nI n), .int ck]))] s.heap := hP
  have hl := lv_entry ([.ref hd, .int sa]) (n := 3) (Nat.le_of_ble_eq_true rfl)
  rw [lg_entry_eq]
  generalize (lg_sl ([.ref hd, .int sa]) ++ List.replicate (3 - (lg_sl ([.ref hd, .int sa])).length) Slot.unset).toArray = ls at hl ⊢
  have hl : lv_has ls 3 [(0, .ref hd), (1, .int sa)] := hl
  refine lv_aload_n hx hb d_D_lastMessageOf_0 rfl (lv_at hl 0 rfl) ?_
  refine lv_iload_n hx hb d_D_lastMessageOf_1 rfl (lv_at hl 1 rfl) ?_
  have hPc : va_P G classes [(hd, .inr (0, [.ref us, .ref op, .int (nI n), .int ck]))] s.heap := hP.sub [0] rfl
  have hDc := hD0.sub (ws' := [(hd, .inr (0, [.ref us, .ref op, .int (nI n), .int ck]))]) [0] (by decide) rfl
  refine va_csq (W.runV (As := [.int sa]) (rest := []) ⟨hx, hb, hml, hown, hts⟩ (c_D_findSession0 l G ct s.heap.size hd us op n ck sa hno) (tb_V hw cy_D_findSession ww_154 ww_156 wp_D_findSession rfl rfl ⟨Nat.le_of_ble_eq_true rfl, Nat.le_of_ble_eq_true rfl⟩) (wk_preV (ci := 0) (q0 := 0) hPc hK hDc rfl rfl) rfl rfl hl.1 rfl (lv_room (Nat.le_of_ble_eq_true rfl)) d_D_lastMessageOf_2 ⟨Nat.le_of_ble_eq_true rfl, Nat.le_of_ble_eq_true rfl⟩) (fun r766 er766 => ?_)
  subst er766
  refine tp_v (y := .null) rfl ?_
  refine lv_astore_nN (lv' := [(2, .null), (0, .ref hd), (1, .int sa)]) hx hb d_D_lastMessageOf_5 rfl hl (Nat.le_of_ble_eq_true rfl) rfl (fun ls hl => ?_)
  refine lv_aload_nN hx hb d_D_lastMessageOf_6 rfl (lv_at hl 0 rfl) ?_
  refine lv_ifnonnullN hx hb d_D_lastMessageOf_7 ?_
  refine lv_lconst (v := 0) hx hb d_D_lastMessageOf_10 (by decide) ?_
  refine lv_goto (tgt := 18) hx hb d_D_lastMessageOf_11 (by decide) ?_
  exact W.lret (v := 0) hx hb hr (fun t ht hW => ⟨0, rfl, rfl, ht⟩) (fun q h => nomatch h) d_D_lastMessageOf_18
set_option maxHeartbeats 4000000 in
set_option maxRecDepth 100000 in
theorem c_D_message0 (l : Launch) (G : va_G) (ct : Nat → ClassId) (sz : Nat) (hd : Nat) (us : Nat) (op : Nat) (n : Nat) (ck : Int32) (sa : Int32) (hno : ¬ th_in sa n) : Met l my_D_message (tb_w my_D_message mb_D_message 2 (some .long)) ({ frames := 2, cells := 0, slots := 0, locals := 43 }) (wk_P [.ref hd, .int sa] G ct [(hd, .inr (0, [.ref us, .ref op, .int (nI n), .int ck]))] sz) (vp_Sl (fun r => r = 0)) 0 0 (fun _ => False) := by
  refine Met.ofW (cc := mb_D_message) (maxL := 2) (ret := (some .long)) (by decide) rfl ?_
  intro p e s m args below meth c s₁ B hml hv
  obtain ⟨rfl, hsz, hP, hK, hD0⟩ := hv
  have hx := B.exec
  have hb := B.bytes
  have hr := B.returns
  have hts := atoms_spec (ws := tb_w my_D_message mb_D_message 2 (some .long)) B.pre
  have hw : ∀ w ∈ gt_tbl, w.before [.ref hd, .int sa].toArray s = true := fun w h => hts w (List.mem_cons_of_mem _ h)
  have hown : s.vm.findClass cr_D = some m.cls := findClass_of_methodNamed B.named
  have hlocks := B.notSynchronized
  subst hsz
  have hD := hD0.self (sz := s.heap.size)
  generalize hAe : va_A [(hd, .inr (0, [.ref us, .ref op, .int (nI n), .int ck]))] s.heap.size = A at hD ⊢
  have hA : ∀ q : Nat, s.heap.size ≤ q → A q := fun q h => by rw [← hAe]; exact Or.inr h
  have hS : va_S A s.heap s.heap [] := va_S.rf
  have hP : va_P G classes [(hd, .inr (0, [.ref us, .ref op, .int (nI n), .int ck]))] s.heap := hP
  have hl := lv_entry ([.ref hd, .int sa]) (n := 2) (Nat.le_of_ble_eq_true rfl)
  rw [lg_entry_eq]
  generalize (lg_sl ([.ref hd, .int sa]) ++ List.replicate (2 - (lg_sl ([.ref hd, .int sa])).length) Slot.unset).toArray = ls at hl ⊢
  have hl : lv_has ls 2 [(0, .ref hd), (1, .int sa)] := hl
  refine lv_aload_n hx hb d_D_message_0 rfl (lv_at hl 0 rfl) ?_
  refine lv_iload_n hx hb d_D_message_1 rfl (lv_at hl 1 rfl) ?_
  have hPc : va_P G classes [(hd, .inr (0, [.ref us, .ref op, .int (nI n), .int ck]))] s.heap := hP.sub [0] rfl
  have hDc := hD0.sub (ws' := [(hd, .inr (0, [.ref us, .ref op, .int (nI n), .int ck]))]) [0] (by decide) rfl
  refine vp_callSl (W.runV (As := [.int sa]) (rest := []) ⟨hx, hb, hml, hown, hts⟩ (c_D_last0 l G ct s.heap.size hd us op n ck sa hno) (tb_V hw cy_D_lastMessageOf ww_150 ww_152 wp_D_lastMessageOf rfl rfl ⟨Nat.le_of_ble_eq_true rfl, Nat.le_of_ble_eq_true rfl⟩) (wk_preV (ci := 0) (q0 := 0) hPc hK hDc rfl rfl) rfl rfl hl.1 rfl (lv_room (Nat.le_of_ble_eq_true rfl)) d_D_message_2 ⟨Nat.le_of_ble_eq_true rfl, Nat.le_of_ble_eq_true rfl⟩) (fun r767 er767 => ?_)
  subst er767
  exact W.lret (v := 0) hx hb hr (fun t ht hW => ⟨0, rfl, rfl, ht⟩) (fun q h => nomatch h) d_D_message_5
set_option maxHeartbeats 4000000 in
set_option maxRecDepth 100000 in
theorem c_D_state0 (l : Launch) (G : va_G) (ct : Nat → ClassId) (sz : Nat) (hd : Nat) (us : Nat) (op : Nat) (n : Nat) (ck : Int32) (sa : Int32) (hno : ¬ th_in sa n) : Met l my_D_state (tb_w my_D_state mb_D_state 3 (some .int)) ({ frames := 1, cells := 0, slots := 0, locals := 21 }) (wk_P [.ref hd, .int sa] G ct [(hd, .inr (0, [.ref us, .ref op, .int (nI n), .int ck]))] sz) (vp_Si (fun r => r = (-1))) 0 0 (fun _ => False) := by
  refine Met.ofW (cc := mb_D_state) (maxL := 3) (ret := (some .int)) (by decide) rfl ?_
  intro p e s m args below meth c s₁ B hml hv
  obtain ⟨rfl, hsz, hP, hK, hD0⟩ := hv
  have hx := B.exec
  have hb := B.bytes
  have hr := B.returns
  have hts := atoms_spec (ws := tb_w my_D_state mb_D_state 3 (some .int)) B.pre
  have hw : ∀ w ∈ gt_tbl, w.before [.ref hd, .int sa].toArray s = true := fun w h => hts w (List.mem_cons_of_mem _ h)
  have hown : s.vm.findClass cr_D = some m.cls := findClass_of_methodNamed B.named
  have hlocks := B.notSynchronized
  subst hsz
  have hD := hD0.self (sz := s.heap.size)
  generalize hAe : va_A [(hd, .inr (0, [.ref us, .ref op, .int (nI n), .int ck]))] s.heap.size = A at hD ⊢
  have hA : ∀ q : Nat, s.heap.size ≤ q → A q := fun q h => by rw [← hAe]; exact Or.inr h
  have hS : va_S A s.heap s.heap [] := va_S.rf
  have hP : va_P G classes [(hd, .inr (0, [.ref us, .ref op, .int (nI n), .int ck]))] s.heap := hP
  have hl := lv_entry ([.ref hd, .int sa]) (n := 3) (Nat.le_of_ble_eq_true rfl)
  rw [lg_entry_eq]
  generalize (lg_sl ([.ref hd, .int sa]) ++ List.replicate (3 - (lg_sl ([.ref hd, .int sa])).length) Slot.unset).toArray = ls at hl ⊢
  have hl : lv_has ls 3 [(0, .ref hd), (1, .int sa)] := hl
  refine lv_aload_n hx hb d_D_state_0 rfl (lv_at hl 0 rfl) ?_
  refine lv_iload_n hx hb d_D_state_1 rfl (lv_at hl 1 rfl) ?_
  have hPc : va_P G classes [(hd, .inr (0, [.ref us, .ref op, .int (nI n), .int ck]))] s.heap := hP.sub [0] rfl
  have hDc := hD0.sub (ws' := [(hd, .inr (0, [.ref us, .ref op, .int (nI n), .int ck]))]) [0] (by decide) rfl
  refine va_csq (W.runV (As := [.int sa]) (rest := []) ⟨hx, hb, hml, hown, hts⟩ (c_D_findSession0 l G ct s.heap.size hd us op n ck sa hno) (tb_V hw cy_D_findSession ww_154 ww_156 wp_D_findSession rfl rfl ⟨Nat.le_of_ble_eq_true rfl, Nat.le_of_ble_eq_true rfl⟩) (wk_preV (ci := 0) (q0 := 0) hPc hK hDc rfl rfl) rfl rfl hl.1 rfl (lv_room (Nat.le_of_ble_eq_true rfl)) d_D_state_2 ⟨Nat.le_of_ble_eq_true rfl, Nat.le_of_ble_eq_true rfl⟩) (fun r768 er768 => ?_)
  subst er768
  refine tp_v (y := .null) rfl ?_
  refine lv_astore_nN (lv' := [(2, .null), (0, .ref hd), (1, .int sa)]) hx hb d_D_state_5 rfl hl (Nat.le_of_ble_eq_true rfl) rfl (fun ls hl => ?_)
  refine lv_aload_nN hx hb d_D_state_6 rfl (lv_at hl 0 rfl) ?_
  refine lv_ifnonnullN hx hb d_D_state_7 ?_
  refine lv_iconst (v := (-1)) hx hb d_D_state_10 (by decide) ?_
  refine lv_goto (tgt := 22) hx hb d_D_state_11 (by decide) ?_
  exact W.iret (v := (-1)) hx hb hr (fun t ht hW => ⟨(-1), rfl, rfl, ht⟩) (fun q h => nomatch h) d_D_state_22
set_option maxHeartbeats 4000000 in
set_option maxRecDepth 100000 in
theorem c_D_lastC (l : Launch) (G : va_G) (ct : Nat → ClassId) (sz : Nat) (hd : Nat) (us : Nat) (op : Nat) (n : Nat) (ck : Int32) (fo : Nat → Option Nat) (k : Nat) (h0 : Nat) (hu : Nat) (wy : Int32) (sec : Nat) (bg : Int32) (st : Int32) (x : Nat) (y : Nat) (ky : Int64) (c1 : Int64) (c2 : Int64) (ms : Int64) (pw : Int64) (rc : Nat) (hn : n ≤ 40) (hkn : k < n) (hfo : fo k = some h0) : Met l my_D_lastMessageOf (tb_w my_D_lastMessageOf mb_D_lastMessageOf 3 (some .long)) ({ frames := 1, cells := 0, slots := 0, locals := 21 }) (wk_P [.ref hd, .int (nI k)] G ct [(hd, .inr (0, [.ref us, .ref op, .int (nI n), .int ck])), (op, .inl ((ct 4), 40, .inr (.inr (.inr (.inr fo))))), (h0, .inr (2, [.ref hu, .int wy, .long (lN sec), .int bg, .int st, .long (lN x), .long (lN y), .long ky, .long c1, .long c2, .long ms, .long pw, .long (lN rc)]))] sz) (vp_Sl (fun r => r = ms)) 0 0 (fun _ => False) := by
  refine Met.ofW (cc := mb_D_lastMessageOf) (maxL := 3) (ret := (some .long)) (by decide) rfl ?_
  intro p e s m args below meth c s₁ B hml hv
  obtain ⟨rfl, hsz, hP, hK, hD0⟩ := hv
  have hx := B.exec
  have hb := B.bytes
  have hr := B.returns
  have hts := atoms_spec (ws := tb_w my_D_lastMessageOf mb_D_lastMessageOf 3 (some .long)) B.pre
  have hw : ∀ w ∈ gt_tbl, w.before [.ref hd, .int (nI k)].toArray s = true := fun w h => hts w (List.mem_cons_of_mem _ h)
  have hown : s.vm.findClass cr_D = some m.cls := findClass_of_methodNamed B.named
  have hlocks := B.notSynchronized
  subst hsz
  have hD := hD0.self (sz := s.heap.size)
  generalize hAe : va_A [(hd, .inr (0, [.ref us, .ref op, .int (nI n), .int ck])), (op, .inl ((ct 4), 40, .inr (.inr (.inr (.inr fo))))), (h0, .inr (2, [.ref hu, .int wy, .long (lN sec), .int bg, .int st, .long (lN x), .long (lN y), .long ky, .long c1, .long c2, .long ms, .long pw, .long (lN rc)]))] s.heap.size = A at hD ⊢
  have hA : ∀ q : Nat, s.heap.size ≤ q → A q := fun q h => by rw [← hAe]; exact Or.inr h
  have hS : va_S A s.heap s.heap [] := va_S.rf
  have hP : va_P G classes [(hd, .inr (0, [.ref us, .ref op, .int (nI n), .int ck])), (op, .inl ((ct 4), 40, .inr (.inr (.inr (.inr fo))))), (h0, .inr (2, [.ref hu, .int wy, .long (lN sec), .int bg, .int st, .long (lN x), .long (lN y), .long ky, .long c1, .long c2, .long ms, .long pw, .long (lN rc)]))] s.heap := hP
  have hl := lv_entry ([.ref hd, .int (nI k)]) (n := 3) (Nat.le_of_ble_eq_true rfl)
  rw [lg_entry_eq]
  generalize (lg_sl ([.ref hd, .int (nI k)]) ++ List.replicate (3 - (lg_sl ([.ref hd, .int (nI k)])).length) Slot.unset).toArray = ls at hl ⊢
  have hl : lv_has ls 3 [(0, .ref hd), (1, .int (nI k))] := hl
  refine lv_aload_n hx hb d_D_lastMessageOf_0 rfl (lv_at hl 0 rfl) ?_
  refine lv_iload_n hx hb d_D_lastMessageOf_1 rfl (lv_at hl 1 rfl) ?_
  have hPc : va_P G classes [(hd, .inr (0, [.ref us, .ref op, .int (nI n), .int ck])), (op, .inl ((ct 4), 40, .inr (.inr (.inr (.inr fo)))))] s.heap := hP.sub [0, 1] rfl
  have hDc := hD0.sub (ws' := [(hd, .inr (0, [.ref us, .ref op, .int (nI n), .int ck])), (op, .inl ((ct 4), 40, .inr (.inr (.inr (.inr fo)))))]) [0, 1] (by decide) rfl
  refine va_csq (W.runV (As := [.int (nI k)]) (rest := []) ⟨hx, hb, hml, hown, hts⟩ (c_D_findSession1 l G ct s.heap.size hd us op n ck fo h0 k hn hkn hfo) (tb_V hw cy_D_findSession ww_154 ww_156 wp_D_findSession rfl rfl ⟨Nat.le_of_ble_eq_true rfl, Nat.le_of_ble_eq_true rfl⟩) (wk_preV (ci := 0) (q0 := 0) hPc hK hDc rfl rfl) rfl rfl hl.1 rfl (lv_room (Nat.le_of_ble_eq_true rfl)) d_D_lastMessageOf_2 ⟨Nat.le_of_ble_eq_true rfl, Nat.le_of_ble_eq_true rfl⟩) (fun r769 er769 => ?_)
  subst er769
  refine tp_v (y := .ref h0) rfl ?_
  refine lv_astore_n (lv' := [(2, .ref h0), (0, .ref hd), (1, .int (nI k))]) hx hb d_D_lastMessageOf_5 rfl hl (Nat.le_of_ble_eq_true rfl) rfl (fun ls hl => ?_)
  refine lv_aload_n hx hb d_D_lastMessageOf_6 rfl (lv_at hl 0 rfl) ?_
  refine lv_ifnonnull (tgt := 14) hx hb d_D_lastMessageOf_7 (by decide) ?_
  refine lv_aload_n hx hb d_D_lastMessageOf_14 rfl (lv_at hl 0 rfl) ?_
  refine va_get (D := G) (ci := 2) (v := .long ms) (C := cr_C) (T := cf_C) (N := 13) hx hb hw uw_C hown hK.1 hP 2 rfl rfl 10 (by decide) (hw _ ww_344) (fun _ h9 => h9) rfl d_D_lastMessageOf_15 ?_
  exact W.lret (v := ms) hx hb hr (fun t ht hW => ⟨ms, rfl, rfl, ht⟩) (fun q h => nomatch h) d_D_lastMessageOf_18
set_option maxHeartbeats 4000000 in
set_option maxRecDepth 100000 in
theorem c_D_messageC (l : Launch) (G : va_G) (ct : Nat → ClassId) (sz : Nat) (hd : Nat) (us : Nat) (op : Nat) (n : Nat) (ck : Int32) (fo : Nat → Option Nat) (k : Nat) (h0 : Nat) (hu : Nat) (wy : Int32) (sec : Nat) (bg : Int32) (st : Int32) (x : Nat) (y : Nat) (ky : Int64) (c1 : Int64) (c2 : Int64) (ms : Int64) (pw : Int64) (rc : Nat) (hn : n ≤ 40) (hkn : k < n) (hfo : fo k = some h0) : Met l my_D_message (tb_w my_D_message mb_D_message 2 (some .long)) ({ frames := 2, cells := 0, slots := 0, locals := 43 }) (wk_P [.ref hd, .int (nI k)] G ct [(hd, .inr (0, [.ref us, .ref op, .int (nI n), .int ck])), (op, .inl ((ct 4), 40, .inr (.inr (.inr (.inr fo))))), (h0, .inr (2, [.ref hu, .int wy, .long (lN sec), .int bg, .int st, .long (lN x), .long (lN y), .long ky, .long c1, .long c2, .long ms, .long pw, .long (lN rc)]))] sz) (vp_Sl (fun r => r = ms)) 0 0 (fun _ => False) := by
  refine Met.ofW (cc := mb_D_message) (maxL := 2) (ret := (some .long)) (by decide) rfl ?_
  intro p e s m args below meth c s₁ B hml hv
  obtain ⟨rfl, hsz, hP, hK, hD0⟩ := hv
  have hx := B.exec
  have hb := B.bytes
  have hr := B.returns
  have hts := atoms_spec (ws := tb_w my_D_message mb_D_message 2 (some .long)) B.pre
  have hw : ∀ w ∈ gt_tbl, w.before [.ref hd, .int (nI k)].toArray s = true := fun w h => hts w (List.mem_cons_of_mem _ h)
  have hown : s.vm.findClass cr_D = some m.cls := findClass_of_methodNamed B.named
  have hlocks := B.notSynchronized
  subst hsz
  have hD := hD0.self (sz := s.heap.size)
  generalize hAe : va_A [(hd, .inr (0, [.ref us, .ref op, .int (nI n), .int ck])), (op, .inl ((ct 4), 40, .inr (.inr (.inr (.inr fo))))), (h0, .inr (2, [.ref hu, .int wy, .long (lN sec), .int bg, .int st, .long (lN x), .long (lN y), .long ky, .long c1, .long c2, .long ms, .long pw, .long (lN rc)]))] s.heap.size = A at hD ⊢
  have hA : ∀ q : Nat, s.heap.size ≤ q → A q := fun q h => by rw [← hAe]; exact Or.inr h
  have hS : va_S A s.heap s.heap [] := va_S.rf
  have hP : va_P G classes [(hd, .inr (0, [.ref us, .ref op, .int (nI n), .int ck])), (op, .inl ((ct 4), 40, .inr (.inr (.inr (.inr fo))))), (h0, .inr (2, [.ref hu, .int wy, .long (lN sec), .int bg, .int st, .long (lN x), .long (lN y), .long ky, .long c1, .long c2, .long ms, .long pw, .long (lN rc)]))] s.heap := hP
  have hl := lv_entry ([.ref hd, .int (nI k)]) (n := 2) (Nat.le_of_ble_eq_true rfl)
  rw [lg_entry_eq]
  generalize (lg_sl ([.ref hd, .int (nI k)]) ++ List.replicate (2 - (lg_sl ([.ref hd, .int (nI k)])).length) Slot.unset).toArray = ls at hl ⊢
  have hl : lv_has ls 2 [(0, .ref hd), (1, .int (nI k))] := hl
  refine lv_aload_n hx hb d_D_message_0 rfl (lv_at hl 0 rfl) ?_
  refine lv_iload_n hx hb d_D_message_1 rfl (lv_at hl 1 rfl) ?_
  have hPc : va_P G classes [(hd, .inr (0, [.ref us, .ref op, .int (nI n), .int ck])), (op, .inl ((ct 4), 40, .inr (.inr (.inr (.inr fo))))), (h0, .inr (2, [.ref hu, .int wy, .long (lN sec), .int bg, .int st, .long (lN x), .long (lN y), .long ky, .long c1, .long c2, .long ms, .long pw, .long (lN rc)]))] s.heap := hP.sub [0, 1, 2] rfl
  have hDc := hD0.sub (ws' := [(hd, .inr (0, [.ref us, .ref op, .int (nI n), .int ck])), (op, .inl ((ct 4), 40, .inr (.inr (.inr (.inr fo))))), (h0, .inr (2, [.ref hu, .int wy, .long (lN sec), .int bg, .int st, .long (lN x), .long (lN y), .long ky, .long c1, .long c2, .long ms, .long pw, .long (lN rc)]))]) [0, 1, 2] (by decide) rfl
  refine vp_callSl (W.runV (As := [.int (nI k)]) (rest := []) ⟨hx, hb, hml, hown, hts⟩ (c_D_lastC l G ct s.heap.size hd us op n ck fo k h0 hu wy sec bg st x y ky c1 c2 ms pw rc hn hkn hfo) (tb_V hw cy_D_lastMessageOf ww_150 ww_152 wp_D_lastMessageOf rfl rfl ⟨Nat.le_of_ble_eq_true rfl, Nat.le_of_ble_eq_true rfl⟩) (wk_preV (ci := 0) (q0 := 0) hPc hK hDc rfl rfl) rfl rfl hl.1 rfl (lv_room (Nat.le_of_ble_eq_true rfl)) d_D_message_2 ⟨Nat.le_of_ble_eq_true rfl, Nat.le_of_ble_eq_true rfl⟩) (fun r770 er770 => ?_)
  rw [er770]
  exact W.lret (v := ms) hx hb hr (fun t ht hW => ⟨ms, rfl, rfl, ht⟩) (fun q h => nomatch h) d_D_message_5
set_option maxHeartbeats 4000000 in
set_option maxRecDepth 100000 in
theorem c_D_stateC (l : Launch) (G : va_G) (ct : Nat → ClassId) (sz : Nat) (hd : Nat) (us : Nat) (op : Nat) (n : Nat) (ck : Int32) (fo : Nat → Option Nat) (k : Nat) (h0 : Nat) (hu : Nat) (wy : Int32) (sec : Nat) (bg : Int32) (st : Int32) (x : Nat) (y : Nat) (ky : Int64) (c1 : Int64) (c2 : Int64) (ms : Int64) (pw : Int64) (rc : Nat) (hn : n ≤ 40) (hkn : k < n) (hfo : fo k = some h0) : Met l my_D_state (tb_w my_D_state mb_D_state 3 (some .int)) ({ frames := 1, cells := 0, slots := 0, locals := 22 }) (wk_P [.ref hd, .int (nI k)] G ct [(hd, .inr (0, [.ref us, .ref op, .int (nI n), .int ck])), (op, .inl ((ct 4), 40, .inr (.inr (.inr (.inr fo))))), (h0, .inr (2, [.ref hu, .int wy, .long (lN sec), .int bg, .int st, .long (lN x), .long (lN y), .long ky, .long c1, .long c2, .long ms, .long pw, .long (lN rc)]))] sz) (vp_Si (fun r => r = se_at st bg ck)) 0 0 (fun _ => False) := by
  refine Met.ofW (cc := mb_D_state) (maxL := 3) (ret := (some .int)) (by decide) rfl ?_
  intro p e s m args below meth c s₁ B hml hv
  obtain ⟨rfl, hsz, hP, hK, hD0⟩ := hv
  have hx := B.exec
  have hb := B.bytes
  have hr := B.returns
  have hts := atoms_spec (ws := tb_w my_D_state mb_D_state 3 (some .int)) B.pre
  have hw : ∀ w ∈ gt_tbl, w.before [.ref hd, .int (nI k)].toArray s = true := fun w h => hts w (List.mem_cons_of_mem _ h)
  have hown : s.vm.findClass cr_D = some m.cls := findClass_of_methodNamed B.named
  have hlocks := B.notSynchronized
  subst hsz
  have hD := hD0.self (sz := s.heap.size)
  generalize hAe : va_A [(hd, .inr (0, [.ref us, .ref op, .int (nI n), .int ck])), (op, .inl ((ct 4), 40, .inr (.inr (.inr (.inr fo))))), (h0, .inr (2, [.ref hu, .int wy, .long (lN sec), .int bg, .int st, .long (lN x), .long (lN y), .long ky, .long c1, .long c2, .long ms, .long pw, .long (lN rc)]))] s.heap.size = A at hD ⊢
  have hA : ∀ q : Nat, s.heap.size ≤ q → A q := fun q h => by rw [← hAe]; exact Or.inr h
  have hS : va_S A s.heap s.heap [] := va_S.rf
  have hP : va_P G classes [(hd, .inr (0, [.ref us, .ref op, .int (nI n), .int ck])), (op, .inl ((ct 4), 40, .inr (.inr (.inr (.inr fo))))), (h0, .inr (2, [.ref hu, .int wy, .long (lN sec), .int bg, .int st, .long (lN x), .long (lN y), .long ky, .long c1, .long c2, .long ms, .long pw, .long (lN rc)]))] s.heap := hP
  have hl := lv_entry ([.ref hd, .int (nI k)]) (n := 3) (Nat.le_of_ble_eq_true rfl)
  rw [lg_entry_eq]
  generalize (lg_sl ([.ref hd, .int (nI k)]) ++ List.replicate (3 - (lg_sl ([.ref hd, .int (nI k)])).length) Slot.unset).toArray = ls at hl ⊢
  have hl : lv_has ls 3 [(0, .ref hd), (1, .int (nI k))] := hl
  refine lv_aload_n hx hb d_D_state_0 rfl (lv_at hl 0 rfl) ?_
  refine lv_iload_n hx hb d_D_state_1 rfl (lv_at hl 1 rfl) ?_
  have hPc : va_P G classes [(hd, .inr (0, [.ref us, .ref op, .int (nI n), .int ck])), (op, .inl ((ct 4), 40, .inr (.inr (.inr (.inr fo)))))] s.heap := hP.sub [0, 1] rfl
  have hDc := hD0.sub (ws' := [(hd, .inr (0, [.ref us, .ref op, .int (nI n), .int ck])), (op, .inl ((ct 4), 40, .inr (.inr (.inr (.inr fo)))))]) [0, 1] (by decide) rfl
  refine va_csq (W.runV (As := [.int (nI k)]) (rest := []) ⟨hx, hb, hml, hown, hts⟩ (c_D_findSession1 l G ct s.heap.size hd us op n ck fo h0 k hn hkn hfo) (tb_V hw cy_D_findSession ww_154 ww_156 wp_D_findSession rfl rfl ⟨Nat.le_of_ble_eq_true rfl, Nat.le_of_ble_eq_true rfl⟩) (wk_preV (ci := 0) (q0 := 0) hPc hK hDc rfl rfl) rfl rfl hl.1 rfl (lv_room (Nat.le_of_ble_eq_true rfl)) d_D_state_2 ⟨Nat.le_of_ble_eq_true rfl, Nat.le_of_ble_eq_true rfl⟩) (fun r771 er771 => ?_)
  subst er771
  refine tp_v (y := .ref h0) rfl ?_
  refine lv_astore_n (lv' := [(2, .ref h0), (0, .ref hd), (1, .int (nI k))]) hx hb d_D_state_5 rfl hl (Nat.le_of_ble_eq_true rfl) rfl (fun ls hl => ?_)
  refine lv_aload_n hx hb d_D_state_6 rfl (lv_at hl 0 rfl) ?_
  refine lv_ifnonnull (tgt := 14) hx hb d_D_state_7 (by decide) ?_
  refine lv_aload_n hx hb d_D_state_14 rfl (lv_at hl 0 rfl) ?_
  refine lv_aload_n hx hb d_D_state_15 rfl (lv_at hl 1 rfl) ?_
  refine va_get (D := G) (ci := 0) (v := .int ck) (C := cr_D) (T := cf_D) (N := 4) hx hb hw uw_D hown hK.1 hP 0 rfl rfl 3 (by decide) (hw _ ww_71) (fun _ h9 => h9) rfl d_D_state_16 ?_
  have hPc : va_P G classes [(h0, .inr (2, [.ref hu, .int wy, .long (lN sec), .int bg, .int st, .long (lN x), .long (lN y), .long ky, .long c1, .long c2, .long ms, .long pw, .long (lN rc)]))] s.heap := hP.sub [2] rfl
  have hDc := hD0.sub (ws' := [(h0, .inr (2, [.ref hu, .int wy, .long (lN sec), .int bg, .int st, .long (lN x), .long (lN y), .long ky, .long c1, .long c2, .long ms, .long pw, .long (lN rc)]))]) [2] (by decide) rfl
  refine vp_callSi (va_Run.run (va_runU (As := [.int ck]) (rest := []) ⟨hx, hb, hml, hown, hts⟩ (c_C_stateAt l G ct s.heap.size h0 hu wy sec bg st x y ky c1 c2 ms pw rc ck) (tb_U (owner := cr_S) (x := ⟨"PakeDesk$Session", "stateAt", "(I)I"⟩) hw cy_S_stateAt ww_162 ww_164 (va_Decl.of (hw _ ww_163) (hw _ ww_167)) ⟨by decide, by decide⟩ rfl ww_163 ww_165 rfl rfl ⟨Nat.le_of_ble_eq_true rfl, Nat.le_of_ble_eq_true rfl⟩) (wk_preV (ci := 2) (q0 := 0) hPc hK hDc rfl rfl) rfl rfl hl.1 rfl (lv_room (Nat.le_of_ble_eq_true rfl)) d_D_state_19 ⟨Nat.le_of_ble_eq_true rfl, Nat.le_of_ble_eq_true rfl⟩)) (fun r772 er772 => ?_)
  subst er772
  exact W.iret (v := se_at st bg ck) hx hb hr (fun t ht hW => ⟨se_at st bg ck, rfl, rfl, ht⟩) (fun q h => nomatch h) d_D_state_22
set_option maxHeartbeats 4000000 in
set_option maxRecDepth 100000 in
theorem c_D_keyC (l : Launch) (G : va_G) (ct : Nat → ClassId) (sz : Nat) (hd : Nat) (us : Nat) (op : Nat) (n : Nat) (ck : Int32) (fo : Nat → Option Nat) (k : Nat) (h0 : Nat) (hu : Nat) (wy : Int32) (sec : Nat) (bg : Int32) (st : Int32) (x : Nat) (y : Nat) (ky : Int64) (c1 : Int64) (c2 : Int64) (ms : Int64) (pw : Int64) (rc : Nat) (hn : n ≤ 40) (hkn : k < n) (hfo : fo k = some h0) (hst : st = 2) : Met l my_D_key (tb_w my_D_key mb_D_key 3 (some .long)) ({ frames := 1, cells := 0, slots := 0, locals := 21 }) (wk_P [.ref hd, .int (nI k)] G ct [(hd, .inr (0, [.ref us, .ref op, .int (nI n), .int ck])), (op, .inl ((ct 4), 40, .inr (.inr (.inr (.inr fo))))), (h0, .inr (2, [.ref hu, .int wy, .long (lN sec), .int bg, .int st, .long (lN x), .long (lN y), .long ky, .long c1, .long c2, .long ms, .long pw, .long (lN rc)]))] sz) (vp_Sl (fun r => r = ky)) 0 0 (fun _ => False) := by
  refine Met.ofW (cc := mb_D_key) (maxL := 3) (ret := (some .long)) (by decide) rfl ?_
  intro p e s m args below meth c s₁ B hml hv
  obtain ⟨rfl, hsz, hP, hK, hD0⟩ := hv
  have hx := B.exec
  have hb := B.bytes
  have hr := B.returns
  have hts := atoms_spec (ws := tb_w my_D_key mb_D_key 3 (some .long)) B.pre
  have hw : ∀ w ∈ gt_tbl, w.before [.ref hd, .int (nI k)].toArray s = true := fun w h => hts w (List.mem_cons_of_mem _ h)
  have hown : s.vm.findClass cr_D = some m.cls := findClass_of_methodNamed B.named
  have hlocks := B.notSynchronized
  subst hsz
  have hD := hD0.self (sz := s.heap.size)
  generalize hAe : va_A [(hd, .inr (0, [.ref us, .ref op, .int (nI n), .int ck])), (op, .inl ((ct 4), 40, .inr (.inr (.inr (.inr fo))))), (h0, .inr (2, [.ref hu, .int wy, .long (lN sec), .int bg, .int st, .long (lN x), .long (lN y), .long ky, .long c1, .long c2, .long ms, .long pw, .long (lN rc)]))] s.heap.size = A at hD ⊢
  have hA : ∀ q : Nat, s.heap.size ≤ q → A q := fun q h => by rw [← hAe]; exact Or.inr h
  have hS : va_S A s.heap s.heap [] := va_S.rf
  have hP : va_P G classes [(hd, .inr (0, [.ref us, .ref op, .int (nI n), .int ck])), (op, .inl ((ct 4), 40, .inr (.inr (.inr (.inr fo))))), (h0, .inr (2, [.ref hu, .int wy, .long (lN sec), .int bg, .int st, .long (lN x), .long (lN y), .long ky, .long c1, .long c2, .long ms, .long pw, .long (lN rc)]))] s.heap := hP
  have hl := lv_entry ([.ref hd, .int (nI k)]) (n := 3) (Nat.le_of_ble_eq_true rfl)
  rw [lg_entry_eq]
  generalize (lg_sl ([.ref hd, .int (nI k)]) ++ List.replicate (3 - (lg_sl ([.ref hd, .int (nI k)])).length) Slot.unset).toArray = ls at hl ⊢
  have hl : lv_has ls 3 [(0, .ref hd), (1, .int (nI k))] := hl
  refine lv_aload_n hx hb d_D_key_0 rfl (lv_at hl 0 rfl) ?_
  refine lv_iload_n hx hb d_D_key_1 rfl (lv_at hl 1 rfl) ?_
  have hPc : va_P G classes [(hd, .inr (0, [.ref us, .ref op, .int (nI n), .int ck])), (op, .inl ((ct 4), 40, .inr (.inr (.inr (.inr fo)))))] s.heap := hP.sub [0, 1] rfl
  have hDc := hD0.sub (ws' := [(hd, .inr (0, [.ref us, .ref op, .int (nI n), .int ck])), (op, .inl ((ct 4), 40, .inr (.inr (.inr (.inr fo)))))]) [0, 1] (by decide) rfl
  refine va_csq (W.runV (As := [.int (nI k)]) (rest := []) ⟨hx, hb, hml, hown, hts⟩ (c_D_findSession1 l G ct s.heap.size hd us op n ck fo h0 k hn hkn hfo) (tb_V hw cy_D_findSession ww_154 ww_156 wp_D_findSession rfl rfl ⟨Nat.le_of_ble_eq_true rfl, Nat.le_of_ble_eq_true rfl⟩) (wk_preV (ci := 0) (q0 := 0) hPc hK hDc rfl rfl) rfl rfl hl.1 rfl (lv_room (Nat.le_of_ble_eq_true rfl)) d_D_key_2 ⟨Nat.le_of_ble_eq_true rfl, Nat.le_of_ble_eq_true rfl⟩) (fun r773 er773 => ?_)
  subst er773
  refine tp_v (y := .ref h0) rfl ?_
  refine lv_astore_n (lv' := [(2, .ref h0), (0, .ref hd), (1, .int (nI k))]) hx hb d_D_key_5 rfl hl (Nat.le_of_ble_eq_true rfl) rfl (fun ls hl => ?_)
  refine lv_aload_n hx hb d_D_key_6 rfl (lv_at hl 0 rfl) ?_
  refine lv_ifnonnull (tgt := 20) hx hb d_D_key_7 (by decide) ?_
  refine lv_aload_n hx hb d_D_key_20 rfl (lv_at hl 0 rfl) ?_
  refine va_get (D := G) (ci := 2) (v := .int st) (C := cr_C) (T := cf_C) (N := 13) hx hb hw uw_C hown hK.1 hP 2 rfl rfl 4 (by decide) (hw _ ww_313) (fun _ h9 => h9) rfl d_D_key_21 ?_
  refine lv_iconst (v := 2) hx hb d_D_key_24 (by decide) ?_
  refine lv_icmp_eq (tgt := 38) hx hb d_D_key_25 (by decide) (fun h774 => ?_) (fun h774 => ?_)
  · refine lv_aload_n hx hb d_D_key_38 rfl (lv_at hl 0 rfl) ?_
    refine va_get (D := G) (ci := 2) (v := .long ky) (C := cr_C) (T := cf_C) (N := 13) hx hb hw uw_C hown hK.1 hP 2 rfl rfl 7 (by decide) (hw _ ww_329) (fun _ h9 => h9) rfl d_D_key_39 ?_
    exact W.lret (v := ky) hx hb hr (fun t ht hW => ⟨ky, rfl, rfl, ht⟩) (fun q h => nomatch h) d_D_key_42
  · exact absurd hst h774
set_option maxHeartbeats 4000000 in
set_option maxRecDepth 100000 in
theorem c_D_openC (l : Launch) (G : va_G) (ct : Nat → ClassId) (sz : Nat) (hd : Nat) (us : Nat) (op : Nat) (n : Nat) (ck : Int32) (fo : Nat → Option Nat) (h0 : Nat) (hu : Nat) (wy : Int32) (sec : Nat) (bg : Int32) (st : Int32) (x : Nat) (y : Nat) (ky : Int64) (c1 : Int64) (c2 : Int64) (ms : Int64) (pw : Int64) (rc : Nat) (hn : n < 40) : Met l my_D_open (tb_w my_D_open mb_D_open 3 (some .int)) ({ frames := 0, cells := 0, slots := 0, locals := 0 }) (wk_P [.ref hd, .ref h0] G ct [(hd, .inr (0, [.ref us, .ref op, .int (nI n), .int ck])), (op, .inl ((ct 4), 40, .inr (.inr (.inr (.inr fo))))), (h0, .inr (2, [.ref hu, .int wy, .long (lN sec), .int bg, .int st, .long (lN x), .long (lN y), .long ky, .long c1, .long c2, .long ms, .long pw, .long (lN rc)]))] sz) (wk_Q (wk_oi (S := Unit) (fun _ => nI n) (fun _ => True)) (fun _ : Unit => [(hd, .inr (0, [.ref us, .ref op, .int (nI (n + 1)), .int ck])), (op, .inl ((ct 4), 40, .inr (.inr (.inr (.inr (va_up fo n (some h0))))))), (h0, .inr (2, [.ref hu, .int wy, .long (lN sec), .int bg, .int st, .long (lN x), .long (lN y), .long ky, .long c1, .long c2, .long ms, .long pw, .long (lN rc)]))]) G (va_A [(hd, .inr (0, [.ref us, .ref op, .int (nI n), .int ck])), (op, .inl ((ct 4), 40, .inr (.inr (.inr (.inr fo))))), (h0, .inr (2, [.ref hu, .int wy, .long (lN sec), .int bg, .int st, .long (lN x), .long (lN y), .long ky, .long c1, .long c2, .long ms, .long pw, .long (lN rc)]))] sz)) 0 0 (va_A [(hd, .inr (0, [.ref us, .ref op, .int (nI n), .int ck])), (op, .inl ((ct 4), 40, .inr (.inr (.inr (.inr fo))))), (h0, .inr (2, [.ref hu, .int wy, .long (lN sec), .int bg, .int st, .long (lN x), .long (lN y), .long ky, .long c1, .long c2, .long ms, .long pw, .long (lN rc)]))] sz) := by
  refine Met.ofW (cc := mb_D_open) (maxL := 3) (ret := (some .int)) (by decide) rfl ?_
  intro p e s m args below meth c s₁ B hml hv
  obtain ⟨rfl, hsz, hP, hK, hD0⟩ := hv
  have hx := B.exec
  have hb := B.bytes
  have hr := B.returns
  have hts := atoms_spec (ws := tb_w my_D_open mb_D_open 3 (some .int)) B.pre
  have hw : ∀ w ∈ gt_tbl, w.before [.ref hd, .ref h0].toArray s = true := fun w h => hts w (List.mem_cons_of_mem _ h)
  have hown : s.vm.findClass cr_D = some m.cls := findClass_of_methodNamed B.named
  have hlocks := B.notSynchronized
  subst hsz
  have hD := hD0.self (sz := s.heap.size)
  generalize hAe : va_A [(hd, .inr (0, [.ref us, .ref op, .int (nI n), .int ck])), (op, .inl ((ct 4), 40, .inr (.inr (.inr (.inr fo))))), (h0, .inr (2, [.ref hu, .int wy, .long (lN sec), .int bg, .int st, .long (lN x), .long (lN y), .long ky, .long c1, .long c2, .long ms, .long pw, .long (lN rc)]))] s.heap.size = A at hD ⊢
  have hA : ∀ q : Nat, s.heap.size ≤ q → A q := fun q h => by rw [← hAe]; exact Or.inr h
  have hS : va_S A s.heap s.heap [] := va_S.rf
  have hP : va_P G classes [(hd, .inr (0, [.ref us, .ref op, .int (nI n), .int ck])), (op, .inl ((ct 4), 40, .inr (.inr (.inr (.inr fo))))), (h0, .inr (2, [.ref hu, .int wy, .long (lN sec), .int bg, .int st, .long (lN x), .long (lN y), .long ky, .long c1, .long c2, .long ms, .long pw, .long (lN rc)]))] s.heap := hP
  have hl := lv_entry ([.ref hd, .ref h0]) (n := 3) (Nat.le_of_ble_eq_true rfl)
  rw [lg_entry_eq]
  generalize (lg_sl ([.ref hd, .ref h0]) ++ List.replicate (3 - (lg_sl ([.ref hd, .ref h0])).length) Slot.unset).toArray = ls at hl ⊢
  have hl : lv_has ls 3 [(0, .ref hd), (1, .ref h0)] := hl
  refine lv_aload_n hx hb d_D_open_0 rfl (lv_at hl 0 rfl) ?_
  refine va_get (D := G) (ci := 0) (v := .int (nI n)) (C := cr_D) (T := cf_D) (N := 4) hx hb hw uw_D hown hK.1 hP 0 rfl rfl 2 (by decide) (hw _ ww_70) (fun _ h9 => h9) rfl d_D_open_1 ?_
  refine lv_istore_n (lv' := [(2, .int (nI n)), (0, .ref hd), (1, .ref h0)]) hx hb d_D_open_4 rfl hl (Nat.le_of_ble_eq_true rfl) rfl (fun ls hl => ?_)
  refine lv_aload_n hx hb d_D_open_5 rfl (lv_at hl 1 rfl) ?_
  refine va_get (D := G) (ci := 0) (v := .ref op) (C := cr_D) (T := cf_D) (N := 4) hx hb hw uw_D hown hK.1 hP 0 rfl rfl 1 (by decide) (hw _ ww_69) (fun _ h9 => h9) rfl d_D_open_6 ?_
  refine lv_iload_n hx hb d_D_open_9 rfl (lv_at hl 0 rfl) ?_
  refine lv_aload_n hx hb d_D_open_10 rfl (lv_at hl 2 rfl) ?_
  refine ra_qo (r := (cr_C, cf_C, 13)) hx hb hK.1 hP hD hS 1 4 2 2 rfl rfl (hK.2.use wf_888) rfl rfl (k := n) (by omega) (by decide) d_D_open_11 (fun H locs hP hD hS => ?_)
  have hP : va_P G classes [(hd, .inr (0, [.ref us, .ref op, .int (nI n), .int ck])), (op, .inl ((ct 4), 40, .inr (.inr (.inr (.inr (va_up fo n (some h0))))))), (h0, .inr (2, [.ref hu, .int wy, .long (lN sec), .int bg, .int st, .long (lN x), .long (lN y), .long ky, .long c1, .long c2, .long ms, .long pw, .long (lN rc)]))] H := hP
  have hD : va_D A [(hd, .inr (0, [.ref us, .ref op, .int (nI n), .int ck])), (op, .inl ((ct 4), 40, .inr (.inr (.inr (.inr (va_up fo n (some h0))))))), (h0, .inr (2, [.ref hu, .int wy, .long (lN sec), .int bg, .int st, .long (lN x), .long (lN y), .long ky, .long c1, .long c2, .long ms, .long pw, .long (lN rc)]))] := hD
  refine lv_aload_n hx hb d_D_open_12 rfl (lv_at hl 1 rfl) ?_
  refine lv_dup hx hb d_D_open_13 rfl ?_
  refine va_get (D := G) (ci := 0) (v := .int (nI n)) (C := cr_D) (T := cf_D) (N := 4) hx hb hw uw_D hown hK.1 hP 0 rfl rfl 2 (by decide) (hw _ ww_70) (fun _ h9 => h9) rfl d_D_open_14 ?_
  refine lv_iconst (v := 1) hx hb d_D_open_17 (by decide) ?_
  refine lv_iadd hx hb d_D_open_18 ?_
  refine tp_i ((nI_succ n).symm) ?_
  refine va_put (D := G) (ci := 0) (v := .int (nI (n + 1))) (ty := .int) (C := cr_D) (T := cf_D) (N := 4) hx hb hw uw_D ct_D ct_D_ok ct_D_nm hown hK.1 hP hD hS 0 rfl rfl 2 (by decide) (hw _ ww_70) (fun _ h9 => h9) rfl (by decide +kernel) rfl rfl (Nat.le_of_ble_eq_true rfl) d_D_open_19 (fun H locs hP hD hS => ?_)
  have hP : va_P G classes [(hd, .inr (0, [.ref us, .ref op, .int (nI (n + 1)), .int ck])), (op, .inl ((ct 4), 40, .inr (.inr (.inr (.inr (va_up fo n (some h0))))))), (h0, .inr (2, [.ref hu, .int wy, .long (lN sec), .int bg, .int st, .long (lN x), .long (lN y), .long ky, .long c1, .long c2, .long ms, .long pw, .long (lN rc)]))] H := hP
  have hD : va_D A [(hd, .inr (0, [.ref us, .ref op, .int (nI (n + 1)), .int ck])), (op, .inl ((ct 4), 40, .inr (.inr (.inr (.inr (va_up fo n (some h0))))))), (h0, .inr (2, [.ref hu, .int wy, .long (lN sec), .int bg, .int st, .long (lN x), .long (lN y), .long ky, .long c1, .long c2, .long ms, .long pw, .long (lN rc)]))] := hD
  refine lv_iload_n hx hb d_D_open_22 rfl (lv_at hl 0 rfl) ?_
  exact W.iret (v := nI n) hx hb hr (fun t ht hW => ⟨⟨(), ⟨rfl, trivial⟩, by rw [ht]; exact hP, hD⟩, hS.F ht⟩) hS.2.2 d_D_open_23
set_option maxHeartbeats 4000000 in
set_option maxRecDepth 100000 in
theorem c_D_lastV (l : Launch) (G : va_G) (ct : Nat → ClassId) (sz : Nat) (hd : Nat) (us : Nat) (op : Nat) (n : Nat) (ck : Int32) (fo : Nat → Option Nat) (k : Nat) (h0 : Nat) (hu : Nat) (wy : Int32) (sec : Nat) (bg : Int32) (st : Int32) (x : Nat) (y : Nat) (ky : Int64) (c1 : Int64) (c2 : Int64) (ms : Int64) (rc : Nat) (hn : n ≤ 40) (hkn : k < n) (hfo : fo k = some h0) : Met l my_D_lastMessageOf (tb_w my_D_lastMessageOf mb_D_lastMessageOf 3 (some .long)) ({ frames := 1, cells := 0, slots := 0, locals := 21 }) (wk_P [.ref hd, .int (nI k)] G ct [(hd, .inr (0, [.ref us, .ref op, .int (nI n), .int ck])), (op, .inl ((ct 4), 40, .inr (.inr (.inr (.inr fo))))), (h0, .inr (3, [.ref hu, .int wy, .long (lN sec), .int bg, .int st, .long (lN x), .long (lN y), .long ky, .long c1, .long c2, .long ms, .long (lN rc)]))] sz) (vp_Sl (fun r => r = ms)) 0 0 (fun _ => False) := by
  refine Met.ofW (cc := mb_D_lastMessageOf) (maxL := 3) (ret := (some .long)) (by decide) rfl ?_
  intro p e s m args below meth c s₁ B hml hv
  obtain ⟨rfl, hsz, hP, hK, hD0⟩ := hv
  have hx := B.exec
  have hb := B.bytes
  have hr := B.returns
  have hts := atoms_spec (ws := tb_w my_D_lastMessageOf mb_D_lastMessageOf 3 (some .long)) B.pre
  have hw : ∀ w ∈ gt_tbl, w.before [.ref hd, .int (nI k)].toArray s = true := fun w h => hts w (List.mem_cons_of_mem _ h)
  have hown : s.vm.findClass cr_D = some m.cls := findClass_of_methodNamed B.named
  have hlocks := B.notSynchronized
  subst hsz
  have hD := hD0.self (sz := s.heap.size)
  generalize hAe : va_A [(hd, .inr (0, [.ref us, .ref op, .int (nI n), .int ck])), (op, .inl ((ct 4), 40, .inr (.inr (.inr (.inr fo))))), (h0, .inr (3, [.ref hu, .int wy, .long (lN sec), .int bg, .int st, .long (lN x), .long (lN y), .long ky, .long c1, .long c2, .long ms, .long (lN rc)]))] s.heap.size = A at hD ⊢
  have hA : ∀ q : Nat, s.heap.size ≤ q → A q := fun q h => by rw [← hAe]; exact Or.inr h
  have hS : va_S A s.heap s.heap [] := va_S.rf
  have hP : va_P G classes [(hd, .inr (0, [.ref us, .ref op, .int (nI n), .int ck])), (op, .inl ((ct 4), 40, .inr (.inr (.inr (.inr fo))))), (h0, .inr (3, [.ref hu, .int wy, .long (lN sec), .int bg, .int st, .long (lN x), .long (lN y), .long ky, .long c1, .long c2, .long ms, .long (lN rc)]))] s.heap := hP
  have hl := lv_entry ([.ref hd, .int (nI k)]) (n := 3) (Nat.le_of_ble_eq_true rfl)
  rw [lg_entry_eq]
  generalize (lg_sl ([.ref hd, .int (nI k)]) ++ List.replicate (3 - (lg_sl ([.ref hd, .int (nI k)])).length) Slot.unset).toArray = ls at hl ⊢
  have hl : lv_has ls 3 [(0, .ref hd), (1, .int (nI k))] := hl
  refine lv_aload_n hx hb d_D_lastMessageOf_0 rfl (lv_at hl 0 rfl) ?_
  refine lv_iload_n hx hb d_D_lastMessageOf_1 rfl (lv_at hl 1 rfl) ?_
  have hPc : va_P G classes [(hd, .inr (0, [.ref us, .ref op, .int (nI n), .int ck])), (op, .inl ((ct 4), 40, .inr (.inr (.inr (.inr fo)))))] s.heap := hP.sub [0, 1] rfl
  have hDc := hD0.sub (ws' := [(hd, .inr (0, [.ref us, .ref op, .int (nI n), .int ck])), (op, .inl ((ct 4), 40, .inr (.inr (.inr (.inr fo)))))]) [0, 1] (by decide) rfl
  refine va_csq (W.runV (As := [.int (nI k)]) (rest := []) ⟨hx, hb, hml, hown, hts⟩ (c_D_findSession1 l G ct s.heap.size hd us op n ck fo h0 k hn hkn hfo) (tb_V hw cy_D_findSession ww_154 ww_156 wp_D_findSession rfl rfl ⟨Nat.le_of_ble_eq_true rfl, Nat.le_of_ble_eq_true rfl⟩) (wk_preV (ci := 0) (q0 := 0) hPc hK hDc rfl rfl) rfl rfl hl.1 rfl (lv_room (Nat.le_of_ble_eq_true rfl)) d_D_lastMessageOf_2 ⟨Nat.le_of_ble_eq_true rfl, Nat.le_of_ble_eq_true rfl⟩) (fun r775 er775 => ?_)
  subst er775
  refine tp_v (y := .ref h0) rfl ?_
  refine lv_astore_n (lv' := [(2, .ref h0), (0, .ref hd), (1, .int (nI k))]) hx hb d_D_lastMessageOf_5 rfl hl (Nat.le_of_ble_eq_true rfl) rfl (fun ls hl => ?_)
  refine lv_aload_n hx hb d_D_lastMessageOf_6 rfl (lv_at hl 0 rfl) ?_
  refine lv_ifnonnull (tgt := 14) hx hb d_D_lastMessageOf_7 (by decide) ?_
  refine lv_aload_n hx hb d_D_lastMessageOf_14 rfl (lv_at hl 0 rfl) ?_
  refine va_get (D := G) (ci := 3) (v := .long ms) (C := cr_V) (T := cf_V) (N := 12) hx hb hw uw_V hown hK.1 hP 2 rfl rfl 10 (by decide) (hw _ ww_344) (fun _ h9 => h9) rfl d_D_lastMessageOf_15 ?_
  exact W.lret (v := ms) hx hb hr (fun t ht hW => ⟨ms, rfl, rfl, ht⟩) (fun q h => nomatch h) d_D_lastMessageOf_18
set_option maxHeartbeats 4000000 in
set_option maxRecDepth 100000 in
theorem c_D_messageV (l : Launch) (G : va_G) (ct : Nat → ClassId) (sz : Nat) (hd : Nat) (us : Nat) (op : Nat) (n : Nat) (ck : Int32) (fo : Nat → Option Nat) (k : Nat) (h0 : Nat) (hu : Nat) (wy : Int32) (sec : Nat) (bg : Int32) (st : Int32) (x : Nat) (y : Nat) (ky : Int64) (c1 : Int64) (c2 : Int64) (ms : Int64) (rc : Nat) (hn : n ≤ 40) (hkn : k < n) (hfo : fo k = some h0) : Met l my_D_message (tb_w my_D_message mb_D_message 2 (some .long)) ({ frames := 2, cells := 0, slots := 0, locals := 43 }) (wk_P [.ref hd, .int (nI k)] G ct [(hd, .inr (0, [.ref us, .ref op, .int (nI n), .int ck])), (op, .inl ((ct 4), 40, .inr (.inr (.inr (.inr fo))))), (h0, .inr (3, [.ref hu, .int wy, .long (lN sec), .int bg, .int st, .long (lN x), .long (lN y), .long ky, .long c1, .long c2, .long ms, .long (lN rc)]))] sz) (vp_Sl (fun r => r = ms)) 0 0 (fun _ => False) := by
  refine Met.ofW (cc := mb_D_message) (maxL := 2) (ret := (some .long)) (by decide) rfl ?_
  intro p e s m args below meth c s₁ B hml hv
  obtain ⟨rfl, hsz, hP, hK, hD0⟩ := hv
  have hx := B.exec
  have hb := B.bytes
  have hr := B.returns
  have hts := atoms_spec (ws := tb_w my_D_message mb_D_message 2 (some .long)) B.pre
  have hw : ∀ w ∈ gt_tbl, w.before [.ref hd, .int (nI k)].toArray s = true := fun w h => hts w (List.mem_cons_of_mem _ h)
  have hown : s.vm.findClass cr_D = some m.cls := findClass_of_methodNamed B.named
  have hlocks := B.notSynchronized
  subst hsz
  have hD := hD0.self (sz := s.heap.size)
  generalize hAe : va_A [(hd, .inr (0, [.ref us, .ref op, .int (nI n), .int ck])), (op, .inl ((ct 4), 40, .inr (.inr (.inr (.inr fo))))), (h0, .inr (3, [.ref hu, .int wy, .long (lN sec), .int bg, .int st, .long (lN x), .long (lN y), .long ky, .long c1, .long c2, .long ms, .long (lN rc)]))] s.heap.size = A at hD ⊢
  have hA : ∀ q : Nat, s.heap.size ≤ q → A q := fun q h => by rw [← hAe]; exact Or.inr h
  have hS : va_S A s.heap s.heap [] := va_S.rf
  have hP : va_P G classes [(hd, .inr (0, [.ref us, .ref op, .int (nI n), .int ck])), (op, .inl ((ct 4), 40, .inr (.inr (.inr (.inr fo))))), (h0, .inr (3, [.ref hu, .int wy, .long (lN sec), .int bg, .int st, .long (lN x), .long (lN y), .long ky, .long c1, .long c2, .long ms, .long (lN rc)]))] s.heap := hP
  have hl := lv_entry ([.ref hd, .int (nI k)]) (n := 2) (Nat.le_of_ble_eq_true rfl)
  rw [lg_entry_eq]
  generalize (lg_sl ([.ref hd, .int (nI k)]) ++ List.replicate (2 - (lg_sl ([.ref hd, .int (nI k)])).length) Slot.unset).toArray = ls at hl ⊢
  have hl : lv_has ls 2 [(0, .ref hd), (1, .int (nI k))] := hl
  refine lv_aload_n hx hb d_D_message_0 rfl (lv_at hl 0 rfl) ?_
  refine lv_iload_n hx hb d_D_message_1 rfl (lv_at hl 1 rfl) ?_
  have hPc : va_P G classes [(hd, .inr (0, [.ref us, .ref op, .int (nI n), .int ck])), (op, .inl ((ct 4), 40, .inr (.inr (.inr (.inr fo))))), (h0, .inr (3, [.ref hu, .int wy, .long (lN sec), .int bg, .int st, .long (lN x), .long (lN y), .long ky, .long c1, .long c2, .long ms, .long (lN rc)]))] s.heap := hP.sub [0, 1, 2] rfl
  have hDc := hD0.sub (ws' := [(hd, .inr (0, [.ref us, .ref op, .int (nI n), .int ck])), (op, .inl ((ct 4), 40, .inr (.inr (.inr (.inr fo))))), (h0, .inr (3, [.ref hu, .int wy, .long (lN sec), .int bg, .int st, .long (lN x), .long (lN y), .long ky, .long c1, .long c2, .long ms, .long (lN rc)]))]) [0, 1, 2] (by decide) rfl
  refine vp_callSl (W.runV (As := [.int (nI k)]) (rest := []) ⟨hx, hb, hml, hown, hts⟩ (c_D_lastV l G ct s.heap.size hd us op n ck fo k h0 hu wy sec bg st x y ky c1 c2 ms rc hn hkn hfo) (tb_V hw cy_D_lastMessageOf ww_150 ww_152 wp_D_lastMessageOf rfl rfl ⟨Nat.le_of_ble_eq_true rfl, Nat.le_of_ble_eq_true rfl⟩) (wk_preV (ci := 0) (q0 := 0) hPc hK hDc rfl rfl) rfl rfl hl.1 rfl (lv_room (Nat.le_of_ble_eq_true rfl)) d_D_message_2 ⟨Nat.le_of_ble_eq_true rfl, Nat.le_of_ble_eq_true rfl⟩) (fun r776 er776 => ?_)
  rw [er776]
  exact W.lret (v := ms) hx hb hr (fun t ht hW => ⟨ms, rfl, rfl, ht⟩) (fun q h => nomatch h) d_D_message_5
set_option maxHeartbeats 4000000 in
set_option maxRecDepth 100000 in
theorem c_D_stateV (l : Launch) (G : va_G) (ct : Nat → ClassId) (sz : Nat) (hd : Nat) (us : Nat) (op : Nat) (n : Nat) (ck : Int32) (fo : Nat → Option Nat) (k : Nat) (h0 : Nat) (hu : Nat) (wy : Int32) (sec : Nat) (bg : Int32) (st : Int32) (x : Nat) (y : Nat) (ky : Int64) (c1 : Int64) (c2 : Int64) (ms : Int64) (rc : Nat) (hn : n ≤ 40) (hkn : k < n) (hfo : fo k = some h0) : Met l my_D_state (tb_w my_D_state mb_D_state 3 (some .int)) ({ frames := 1, cells := 0, slots := 0, locals := 22 }) (wk_P [.ref hd, .int (nI k)] G ct [(hd, .inr (0, [.ref us, .ref op, .int (nI n), .int ck])), (op, .inl ((ct 4), 40, .inr (.inr (.inr (.inr fo))))), (h0, .inr (3, [.ref hu, .int wy, .long (lN sec), .int bg, .int st, .long (lN x), .long (lN y), .long ky, .long c1, .long c2, .long ms, .long (lN rc)]))] sz) (vp_Si (fun r => r = se_at st bg ck)) 0 0 (fun _ => False) := by
  refine Met.ofW (cc := mb_D_state) (maxL := 3) (ret := (some .int)) (by decide) rfl ?_
  intro p e s m args below meth c s₁ B hml hv
  obtain ⟨rfl, hsz, hP, hK, hD0⟩ := hv
  have hx := B.exec
  have hb := B.bytes
  have hr := B.returns
  have hts := atoms_spec (ws := tb_w my_D_state mb_D_state 3 (some .int)) B.pre
  have hw : ∀ w ∈ gt_tbl, w.before [.ref hd, .int (nI k)].toArray s = true := fun w h => hts w (List.mem_cons_of_mem _ h)
  have hown : s.vm.findClass cr_D = some m.cls := findClass_of_methodNamed B.named
  have hlocks := B.notSynchronized
  subst hsz
  have hD := hD0.self (sz := s.heap.size)
  generalize hAe : va_A [(hd, .inr (0, [.ref us, .ref op, .int (nI n), .int ck])), (op, .inl ((ct 4), 40, .inr (.inr (.inr (.inr fo))))), (h0, .inr (3, [.ref hu, .int wy, .long (lN sec), .int bg, .int st, .long (lN x), .long (lN y), .long ky, .long c1, .long c2, .long ms, .long (lN rc)]))] s.heap.size = A at hD ⊢
  have hA : ∀ q : Nat, s.heap.size ≤ q → A q := fun q h => by rw [← hAe]; exact Or.inr h
  have hS : va_S A s.heap s.heap [] := va_S.rf
  have hP : va_P G classes [(hd, .inr (0, [.ref us, .ref op, .int (nI n), .int ck])), (op, .inl ((ct 4), 40, .inr (.inr (.inr (.inr fo))))), (h0, .inr (3, [.ref hu, .int wy, .long (lN sec), .int bg, .int st, .long (lN x), .long (lN y), .long ky, .long c1, .long c2, .long ms, .long (lN rc)]))] s.heap := hP
  have hl := lv_entry ([.ref hd, .int (nI k)]) (n := 3) (Nat.le_of_ble_eq_true rfl)
  rw [lg_entry_eq]
  generalize (lg_sl ([.ref hd, .int (nI k)]) ++ List.replicate (3 - (lg_sl ([.ref hd, .int (nI k)])).length) Slot.unset).toArray = ls at hl ⊢
  have hl : lv_has ls 3 [(0, .ref hd), (1, .int (nI k))] := hl
  refine lv_aload_n hx hb d_D_state_0 rfl (lv_at hl 0 rfl) ?_
  refine lv_iload_n hx hb d_D_state_1 rfl (lv_at hl 1 rfl) ?_
  have hPc : va_P G classes [(hd, .inr (0, [.ref us, .ref op, .int (nI n), .int ck])), (op, .inl ((ct 4), 40, .inr (.inr (.inr (.inr fo)))))] s.heap := hP.sub [0, 1] rfl
  have hDc := hD0.sub (ws' := [(hd, .inr (0, [.ref us, .ref op, .int (nI n), .int ck])), (op, .inl ((ct 4), 40, .inr (.inr (.inr (.inr fo)))))]) [0, 1] (by decide) rfl
  refine va_csq (W.runV (As := [.int (nI k)]) (rest := []) ⟨hx, hb, hml, hown, hts⟩ (c_D_findSession1 l G ct s.heap.size hd us op n ck fo h0 k hn hkn hfo) (tb_V hw cy_D_findSession ww_154 ww_156 wp_D_findSession rfl rfl ⟨Nat.le_of_ble_eq_true rfl, Nat.le_of_ble_eq_true rfl⟩) (wk_preV (ci := 0) (q0 := 0) hPc hK hDc rfl rfl) rfl rfl hl.1 rfl (lv_room (Nat.le_of_ble_eq_true rfl)) d_D_state_2 ⟨Nat.le_of_ble_eq_true rfl, Nat.le_of_ble_eq_true rfl⟩) (fun r777 er777 => ?_)
  subst er777
  refine tp_v (y := .ref h0) rfl ?_
  refine lv_astore_n (lv' := [(2, .ref h0), (0, .ref hd), (1, .int (nI k))]) hx hb d_D_state_5 rfl hl (Nat.le_of_ble_eq_true rfl) rfl (fun ls hl => ?_)
  refine lv_aload_n hx hb d_D_state_6 rfl (lv_at hl 0 rfl) ?_
  refine lv_ifnonnull (tgt := 14) hx hb d_D_state_7 (by decide) ?_
  refine lv_aload_n hx hb d_D_state_14 rfl (lv_at hl 0 rfl) ?_
  refine lv_aload_n hx hb d_D_state_15 rfl (lv_at hl 1 rfl) ?_
  refine va_get (D := G) (ci := 0) (v := .int ck) (C := cr_D) (T := cf_D) (N := 4) hx hb hw uw_D hown hK.1 hP 0 rfl rfl 3 (by decide) (hw _ ww_71) (fun _ h9 => h9) rfl d_D_state_16 ?_
  have hPc : va_P G classes [(h0, .inr (3, [.ref hu, .int wy, .long (lN sec), .int bg, .int st, .long (lN x), .long (lN y), .long ky, .long c1, .long c2, .long ms, .long (lN rc)]))] s.heap := hP.sub [2] rfl
  have hDc := hD0.sub (ws' := [(h0, .inr (3, [.ref hu, .int wy, .long (lN sec), .int bg, .int st, .long (lN x), .long (lN y), .long ky, .long c1, .long c2, .long ms, .long (lN rc)]))]) [2] (by decide) rfl
  refine vp_callSi (va_Run.run (va_runU (As := [.int ck]) (rest := []) ⟨hx, hb, hml, hown, hts⟩ (c_V_stateAt l G ct s.heap.size h0 hu wy sec bg st x y ky c1 c2 ms rc ck) (tb_U (owner := cr_S) (x := ⟨"PakeDesk$Session", "stateAt", "(I)I"⟩) hw cy_S_stateAt ww_162 ww_164 (va_Decl.of (hw _ ww_163) (hw _ ww_167)) ⟨by decide, by decide⟩ rfl ww_163 ww_166 rfl rfl ⟨Nat.le_of_ble_eq_true rfl, Nat.le_of_ble_eq_true rfl⟩) (wk_preV (ci := 3) (q0 := 0) hPc hK hDc rfl rfl) rfl rfl hl.1 rfl (lv_room (Nat.le_of_ble_eq_true rfl)) d_D_state_19 ⟨Nat.le_of_ble_eq_true rfl, Nat.le_of_ble_eq_true rfl⟩)) (fun r778 er778 => ?_)
  subst er778
  exact W.iret (v := se_at st bg ck) hx hb hr (fun t ht hW => ⟨se_at st bg ck, rfl, rfl, ht⟩) (fun q h => nomatch h) d_D_state_22
set_option maxHeartbeats 4000000 in
set_option maxRecDepth 100000 in
theorem c_D_keyV (l : Launch) (G : va_G) (ct : Nat → ClassId) (sz : Nat) (hd : Nat) (us : Nat) (op : Nat) (n : Nat) (ck : Int32) (fo : Nat → Option Nat) (k : Nat) (h0 : Nat) (hu : Nat) (wy : Int32) (sec : Nat) (bg : Int32) (st : Int32) (x : Nat) (y : Nat) (ky : Int64) (c1 : Int64) (c2 : Int64) (ms : Int64) (rc : Nat) (hn : n ≤ 40) (hkn : k < n) (hfo : fo k = some h0) (hst : st = 2) : Met l my_D_key (tb_w my_D_key mb_D_key 3 (some .long)) ({ frames := 1, cells := 0, slots := 0, locals := 21 }) (wk_P [.ref hd, .int (nI k)] G ct [(hd, .inr (0, [.ref us, .ref op, .int (nI n), .int ck])), (op, .inl ((ct 4), 40, .inr (.inr (.inr (.inr fo))))), (h0, .inr (3, [.ref hu, .int wy, .long (lN sec), .int bg, .int st, .long (lN x), .long (lN y), .long ky, .long c1, .long c2, .long ms, .long (lN rc)]))] sz) (vp_Sl (fun r => r = ky)) 0 0 (fun _ => False) := by
  refine Met.ofW (cc := mb_D_key) (maxL := 3) (ret := (some .long)) (by decide) rfl ?_
  intro p e s m args below meth c s₁ B hml hv
  obtain ⟨rfl, hsz, hP, hK, hD0⟩ := hv
  have hx := B.exec
  have hb := B.bytes
  have hr := B.returns
  have hts := atoms_spec (ws := tb_w my_D_key mb_D_key 3 (some .long)) B.pre
  have hw : ∀ w ∈ gt_tbl, w.before [.ref hd, .int (nI k)].toArray s = true := fun w h => hts w (List.mem_cons_of_mem _ h)
  have hown : s.vm.findClass cr_D = some m.cls := findClass_of_methodNamed B.named
  have hlocks := B.notSynchronized
  subst hsz
  have hD := hD0.self (sz := s.heap.size)
  generalize hAe : va_A [(hd, .inr (0, [.ref us, .ref op, .int (nI n), .int ck])), (op, .inl ((ct 4), 40, .inr (.inr (.inr (.inr fo))))), (h0, .inr (3, [.ref hu, .int wy, .long (lN sec), .int bg, .int st, .long (lN x), .long (lN y), .long ky, .long c1, .long c2, .long ms, .long (lN rc)]))] s.heap.size = A at hD ⊢
  have hA : ∀ q : Nat, s.heap.size ≤ q → A q := fun q h => by rw [← hAe]; exact Or.inr h
  have hS : va_S A s.heap s.heap [] := va_S.rf
  have hP : va_P G classes [(hd, .inr (0, [.ref us, .ref op, .int (nI n), .int ck])), (op, .inl ((ct 4), 40, .inr (.inr (.inr (.inr fo))))), (h0, .inr (3, [.ref hu, .int wy, .long (lN sec), .int bg, .int st, .long (lN x), .long (lN y), .long ky, .long c1, .long c2, .long ms, .long (lN rc)]))] s.heap := hP
  have hl := lv_entry ([.ref hd, .int (nI k)]) (n := 3) (Nat.le_of_ble_eq_true rfl)
  rw [lg_entry_eq]
  generalize (lg_sl ([.ref hd, .int (nI k)]) ++ List.replicate (3 - (lg_sl ([.ref hd, .int (nI k)])).length) Slot.unset).toArray = ls at hl ⊢
  have hl : lv_has ls 3 [(0, .ref hd), (1, .int (nI k))] := hl
  refine lv_aload_n hx hb d_D_key_0 rfl (lv_at hl 0 rfl) ?_
  refine lv_iload_n hx hb d_D_key_1 rfl (lv_at hl 1 rfl) ?_
  have hPc : va_P G classes [(hd, .inr (0, [.ref us, .ref op, .int (nI n), .int ck])), (op, .inl ((ct 4), 40, .inr (.inr (.inr (.inr fo)))))] s.heap := hP.sub [0, 1] rfl
  have hDc := hD0.sub (ws' := [(hd, .inr (0, [.ref us, .ref op, .int (nI n), .int ck])), (op, .inl ((ct 4), 40, .inr (.inr (.inr (.inr fo)))))]) [0, 1] (by decide) rfl
  refine va_csq (W.runV (As := [.int (nI k)]) (rest := []) ⟨hx, hb, hml, hown, hts⟩ (c_D_findSession1 l G ct s.heap.size hd us op n ck fo h0 k hn hkn hfo) (tb_V hw cy_D_findSession ww_154 ww_156 wp_D_findSession rfl rfl ⟨Nat.le_of_ble_eq_true rfl, Nat.le_of_ble_eq_true rfl⟩) (wk_preV (ci := 0) (q0 := 0) hPc hK hDc rfl rfl) rfl rfl hl.1 rfl (lv_room (Nat.le_of_ble_eq_true rfl)) d_D_key_2 ⟨Nat.le_of_ble_eq_true rfl, Nat.le_of_ble_eq_true rfl⟩) (fun r779 er779 => ?_)
  subst er779
  refine tp_v (y := .ref h0) rfl ?_
  refine lv_astore_n (lv' := [(2, .ref h0), (0, .ref hd), (1, .int (nI k))]) hx hb d_D_key_5 rfl hl (Nat.le_of_ble_eq_true rfl) rfl (fun ls hl => ?_)
  refine lv_aload_n hx hb d_D_key_6 rfl (lv_at hl 0 rfl) ?_
  refine lv_ifnonnull (tgt := 20) hx hb d_D_key_7 (by decide) ?_
  refine lv_aload_n hx hb d_D_key_20 rfl (lv_at hl 0 rfl) ?_
  refine va_get (D := G) (ci := 3) (v := .int st) (C := cr_V) (T := cf_V) (N := 12) hx hb hw uw_V hown hK.1 hP 2 rfl rfl 4 (by decide) (hw _ ww_313) (fun _ h9 => h9) rfl d_D_key_21 ?_
  refine lv_iconst (v := 2) hx hb d_D_key_24 (by decide) ?_
  refine lv_icmp_eq (tgt := 38) hx hb d_D_key_25 (by decide) (fun h780 => ?_) (fun h780 => ?_)
  · refine lv_aload_n hx hb d_D_key_38 rfl (lv_at hl 0 rfl) ?_
    refine va_get (D := G) (ci := 3) (v := .long ky) (C := cr_V) (T := cf_V) (N := 12) hx hb hw uw_V hown hK.1 hP 2 rfl rfl 7 (by decide) (hw _ ww_329) (fun _ h9 => h9) rfl d_D_key_39 ?_
    exact W.lret (v := ky) hx hb hr (fun t ht hW => ⟨ky, rfl, rfl, ht⟩) (fun q h => nomatch h) d_D_key_42
  · exact absurd hst h780
set_option maxHeartbeats 4000000 in
set_option maxRecDepth 100000 in
theorem c_D_openV (l : Launch) (G : va_G) (ct : Nat → ClassId) (sz : Nat) (hd : Nat) (us : Nat) (op : Nat) (n : Nat) (ck : Int32) (fo : Nat → Option Nat) (h0 : Nat) (hu : Nat) (wy : Int32) (sec : Nat) (bg : Int32) (st : Int32) (x : Nat) (y : Nat) (ky : Int64) (c1 : Int64) (c2 : Int64) (ms : Int64) (rc : Nat) (hn : n < 40) : Met l my_D_open (tb_w my_D_open mb_D_open 3 (some .int)) ({ frames := 0, cells := 0, slots := 0, locals := 0 }) (wk_P [.ref hd, .ref h0] G ct [(hd, .inr (0, [.ref us, .ref op, .int (nI n), .int ck])), (op, .inl ((ct 4), 40, .inr (.inr (.inr (.inr fo))))), (h0, .inr (3, [.ref hu, .int wy, .long (lN sec), .int bg, .int st, .long (lN x), .long (lN y), .long ky, .long c1, .long c2, .long ms, .long (lN rc)]))] sz) (wk_Q (wk_oi (S := Unit) (fun _ => nI n) (fun _ => True)) (fun _ : Unit => [(hd, .inr (0, [.ref us, .ref op, .int (nI (n + 1)), .int ck])), (op, .inl ((ct 4), 40, .inr (.inr (.inr (.inr (va_up fo n (some h0))))))), (h0, .inr (3, [.ref hu, .int wy, .long (lN sec), .int bg, .int st, .long (lN x), .long (lN y), .long ky, .long c1, .long c2, .long ms, .long (lN rc)]))]) G (va_A [(hd, .inr (0, [.ref us, .ref op, .int (nI n), .int ck])), (op, .inl ((ct 4), 40, .inr (.inr (.inr (.inr fo))))), (h0, .inr (3, [.ref hu, .int wy, .long (lN sec), .int bg, .int st, .long (lN x), .long (lN y), .long ky, .long c1, .long c2, .long ms, .long (lN rc)]))] sz)) 0 0 (va_A [(hd, .inr (0, [.ref us, .ref op, .int (nI n), .int ck])), (op, .inl ((ct 4), 40, .inr (.inr (.inr (.inr fo))))), (h0, .inr (3, [.ref hu, .int wy, .long (lN sec), .int bg, .int st, .long (lN x), .long (lN y), .long ky, .long c1, .long c2, .long ms, .long (lN rc)]))] sz) := by
  refine Met.ofW (cc := mb_D_open) (maxL := 3) (ret := (some .int)) (by decide) rfl ?_
  intro p e s m args below meth c s₁ B hml hv
  obtain ⟨rfl, hsz, hP, hK, hD0⟩ := hv
  have hx := B.exec
  have hb := B.bytes
  have hr := B.returns
  have hts := atoms_spec (ws := tb_w my_D_open mb_D_open 3 (some .int)) B.pre
  have hw : ∀ w ∈ gt_tbl, w.before [.ref hd, .ref h0].toArray s = true := fun w h => hts w (List.mem_cons_of_mem _ h)
  have hown : s.vm.findClass cr_D = some m.cls := findClass_of_methodNamed B.named
  have hlocks := B.notSynchronized
  subst hsz
  have hD := hD0.self (sz := s.heap.size)
  generalize hAe : va_A [(hd, .inr (0, [.ref us, .ref op, .int (nI n), .int ck])), (op, .inl ((ct 4), 40, .inr (.inr (.inr (.inr fo))))), (h0, .inr (3, [.ref hu, .int wy, .long (lN sec), .int bg, .int st, .long (lN x), .long (lN y), .long ky, .long c1, .long c2, .long ms, .long (lN rc)]))] s.heap.size = A at hD ⊢
  have hA : ∀ q : Nat, s.heap.size ≤ q → A q := fun q h => by rw [← hAe]; exact Or.inr h
  have hS : va_S A s.heap s.heap [] := va_S.rf
  have hP : va_P G classes [(hd, .inr (0, [.ref us, .ref op, .int (nI n), .int ck])), (op, .inl ((ct 4), 40, .inr (.inr (.inr (.inr fo))))), (h0, .inr (3, [.ref hu, .int wy, .long (lN sec), .int bg, .int st, .long (lN x), .long (lN y), .long ky, .long c1, .long c2, .long ms, .long (lN rc)]))] s.heap := hP
  have hl := lv_entry ([.ref hd, .ref h0]) (n := 3) (Nat.le_of_ble_eq_true rfl)
  rw [lg_entry_eq]
  generalize (lg_sl ([.ref hd, .ref h0]) ++ List.replicate (3 - (lg_sl ([.ref hd, .ref h0])).length) Slot.unset).toArray = ls at hl ⊢
  have hl : lv_has ls 3 [(0, .ref hd), (1, .ref h0)] := hl
  refine lv_aload_n hx hb d_D_open_0 rfl (lv_at hl 0 rfl) ?_
  refine va_get (D := G) (ci := 0) (v := .int (nI n)) (C := cr_D) (T := cf_D) (N := 4) hx hb hw uw_D hown hK.1 hP 0 rfl rfl 2 (by decide) (hw _ ww_70) (fun _ h9 => h9) rfl d_D_open_1 ?_
  refine lv_istore_n (lv' := [(2, .int (nI n)), (0, .ref hd), (1, .ref h0)]) hx hb d_D_open_4 rfl hl (Nat.le_of_ble_eq_true rfl) rfl (fun ls hl => ?_)
  refine lv_aload_n hx hb d_D_open_5 rfl (lv_at hl 1 rfl) ?_
  refine va_get (D := G) (ci := 0) (v := .ref op) (C := cr_D) (T := cf_D) (N := 4) hx hb hw uw_D hown hK.1 hP 0 rfl rfl 1 (by decide) (hw _ ww_69) (fun _ h9 => h9) rfl d_D_open_6 ?_
  refine lv_iload_n hx hb d_D_open_9 rfl (lv_at hl 0 rfl) ?_
  refine lv_aload_n hx hb d_D_open_10 rfl (lv_at hl 2 rfl) ?_
  refine ra_qo (r := (cr_V, cf_V, 12)) hx hb hK.1 hP hD hS 1 4 2 3 rfl rfl (hK.2.use wf_889) rfl rfl (k := n) (by omega) (by decide) d_D_open_11 (fun H locs hP hD hS => ?_)
  have hP : va_P G classes [(hd, .inr (0, [.ref us, .ref op, .int (nI n), .int ck])), (op, .inl ((ct 4), 40, .inr (.inr (.inr (.inr (va_up fo n (some h0))))))), (h0, .inr (3, [.ref hu, .int wy, .long (lN sec), .int bg, .int st, .long (lN x), .long (lN y), .long ky, .long c1, .long c2, .long ms, .long (lN rc)]))] H := hP
  have hD : va_D A [(hd, .inr (0, [.ref us, .ref op, .int (nI n), .int ck])), (op, .inl ((ct 4), 40, .inr (.inr (.inr (.inr (va_up fo n (some h0))))))), (h0, .inr (3, [.ref hu, .int wy, .long (lN sec), .int bg, .int st, .long (lN x), .long (lN y), .long ky, .long c1, .long c2, .long ms, .long (lN rc)]))] := hD
  refine lv_aload_n hx hb d_D_open_12 rfl (lv_at hl 1 rfl) ?_
  refine lv_dup hx hb d_D_open_13 rfl ?_
  refine va_get (D := G) (ci := 0) (v := .int (nI n)) (C := cr_D) (T := cf_D) (N := 4) hx hb hw uw_D hown hK.1 hP 0 rfl rfl 2 (by decide) (hw _ ww_70) (fun _ h9 => h9) rfl d_D_open_14 ?_
  refine lv_iconst (v := 1) hx hb d_D_open_17 (by decide) ?_
  refine lv_iadd hx hb d_D_open_18 ?_
  refine tp_i ((nI_succ n).symm) ?_
  refine va_put (D := G) (ci := 0) (v := .int (nI (n + 1))) (ty := .int) (C := cr_D) (T := cf_D) (N := 4) hx hb hw uw_D ct_D ct_D_ok ct_D_nm hown hK.1 hP hD hS 0 rfl rfl 2 (by decide) (hw _ ww_70) (fun _ h9 => h9) rfl (by decide +kernel) rfl rfl (Nat.le_of_ble_eq_true rfl) d_D_open_19 (fun H locs hP hD hS => ?_)
  have hP : va_P G classes [(hd, .inr (0, [.ref us, .ref op, .int (nI (n + 1)), .int ck])), (op, .inl ((ct 4), 40, .inr (.inr (.inr (.inr (va_up fo n (some h0))))))), (h0, .inr (3, [.ref hu, .int wy, .long (lN sec), .int bg, .int st, .long (lN x), .long (lN y), .long ky, .long c1, .long c2, .long ms, .long (lN rc)]))] H := hP
  have hD : va_D A [(hd, .inr (0, [.ref us, .ref op, .int (nI (n + 1)), .int ck])), (op, .inl ((ct 4), 40, .inr (.inr (.inr (.inr (va_up fo n (some h0))))))), (h0, .inr (3, [.ref hu, .int wy, .long (lN sec), .int bg, .int st, .long (lN x), .long (lN y), .long ky, .long c1, .long c2, .long ms, .long (lN rc)]))] := hD
  refine lv_iload_n hx hb d_D_open_22 rfl (lv_at hl 0 rfl) ?_
  exact W.iret (v := nI n) hx hb hr (fun t ht hW => ⟨⟨(), ⟨rfl, trivial⟩, by rw [ht]; exact hP, hD⟩, hS.F ht⟩) hS.2.2 d_D_open_23
set_option maxHeartbeats 4000000 in
set_option maxRecDepth 100000 in
theorem c_D_sessions (l : Launch) (G : va_G) (ct : Nat → ClassId) (sz : Nat) (hd : Nat) (us : Nat) (op : Nat) (n : Nat) (ck : Int32) : Met l my_D_sessions (tb_w my_D_sessions mb_D_sessions 1 (some .int)) ({ frames := 0, cells := 0, slots := 0, locals := 0 }) (wk_P [.ref hd] G ct [(hd, .inr (0, [.ref us, .ref op, .int (nI n), .int ck]))] sz) (vp_Si (fun r => r = nI n)) 0 0 (fun _ => False) := by
  refine Met.ofW (cc := mb_D_sessions) (maxL := 1) (ret := (some .int)) (by decide) rfl ?_
  intro p e s m args below meth c s₁ B hml hv
  obtain ⟨rfl, hsz, hP, hK, hD0⟩ := hv
  have hx := B.exec
  have hb := B.bytes
  have hr := B.returns
  have hts := atoms_spec (ws := tb_w my_D_sessions mb_D_sessions 1 (some .int)) B.pre
  have hw : ∀ w ∈ gt_tbl, w.before [.ref hd].toArray s = true := fun w h => hts w (List.mem_cons_of_mem _ h)
  have hown : s.vm.findClass cr_D = some m.cls := findClass_of_methodNamed B.named
  have hlocks := B.notSynchronized
  subst hsz
  have hD := hD0.self (sz := s.heap.size)
  generalize hAe : va_A [(hd, .inr (0, [.ref us, .ref op, .int (nI n), .int ck]))] s.heap.size = A at hD ⊢
  have hA : ∀ q : Nat, s.heap.size ≤ q → A q := fun q h => by rw [← hAe]; exact Or.inr h
  have hS : va_S A s.heap s.heap [] := va_S.rf
  have hP : va_P G classes [(hd, .inr (0, [.ref us, .ref op, .int (nI n), .int ck]))] s.heap := hP
  have hl := lv_entry ([.ref hd]) (n := 1) (Nat.le_of_ble_eq_true rfl)
  rw [lg_entry_eq]
  generalize (lg_sl ([.ref hd]) ++ List.replicate (1 - (lg_sl ([.ref hd])).length) Slot.unset).toArray = ls at hl ⊢
  have hl : lv_has ls 1 [(0, .ref hd)] := hl
  refine lv_aload_n hx hb d_D_sessions_0 rfl (lv_at hl 0 rfl) ?_
  refine va_get (D := G) (ci := 0) (v := .int (nI n)) (C := cr_D) (T := cf_D) (N := 4) hx hb hw uw_D hown hK.1 hP 0 rfl rfl 2 (by decide) (hw _ ww_70) (fun _ h9 => h9) rfl d_D_sessions_1 ?_
  exact W.iret (v := nI n) hx hb hr (fun t ht hW => ⟨nI n, rfl, rfl, ht⟩) (fun q h => nomatch h) d_D_sessions_4
set_option maxHeartbeats 4000000 in
set_option maxRecDepth 100000 in
theorem c_D_tick1 (l : Launch) (G : va_G) (ct : Nat → ClassId) (sz : Nat) (hd : Nat) (us : Nat) (op : Nat) (n : Nat) (ck : Int32) (tk : Int32) (ht0 : 0 ≤ tk) (ht1 : tk ≤ 100) : Met l my_D_tick (tb_w my_D_tick mb_D_tick 2 (some .int)) ({ frames := 0, cells := 0, slots := 0, locals := 0 }) (wk_P [.ref hd, .int tk] G ct [(hd, .inr (0, [.ref us, .ref op, .int (nI n), .int ck]))] sz) (wk_Q (wk_oi (S := Unit) (fun _ => ck + tk) (fun _ => True)) (fun _ : Unit => [(hd, .inr (0, [.ref us, .ref op, .int (nI n), .int (ck + tk)]))]) G (va_A [(hd, .inr (0, [.ref us, .ref op, .int (nI n), .int ck]))] sz)) 0 0 (va_A [(hd, .inr (0, [.ref us, .ref op, .int (nI n), .int ck]))] sz) := by
  refine Met.ofW (cc := mb_D_tick) (maxL := 2) (ret := (some .int)) (by decide) rfl ?_
  intro p e s m args below meth c s₁ B hml hv
  obtain ⟨rfl, hsz, hP, hK, hD0⟩ := hv
  have hx := B.exec
  have hb := B.bytes
  have hr := B.returns
  have hts := atoms_spec (ws := tb_w my_D_tick mb_D_tick 2 (some .int)) B.pre
  have hw : ∀ w ∈ gt_tbl, w.before [.ref hd, .int tk].toArray s = true := fun w h => hts w (List.mem_cons_of_mem _ h)
  have hown : s.vm.findClass cr_D = some m.cls := findClass_of_methodNamed B.named
  have hlocks := B.notSynchronized
  subst hsz
  have hD := hD0.self (sz := s.heap.size)
  generalize hAe : va_A [(hd, .inr (0, [.ref us, .ref op, .int (nI n), .int ck]))] s.heap.size = A at hD ⊢
  have hA : ∀ q : Nat, s.heap.size ≤ q → A q := fun q h => by rw [← hAe]; exact Or.inr h
  have hS : va_S A s.heap s.heap [] := va_S.rf
  have hP : va_P G classes [(hd, .inr (0, [.ref us, .ref op, .int (nI n), .int ck]))] s.heap := hP
  have hl := lv_entry ([.ref hd, .int tk]) (n := 2) (Nat.le_of_ble_eq_true rfl)
  rw [lg_entry_eq]
  generalize (lg_sl ([.ref hd, .int tk]) ++ List.replicate (2 - (lg_sl ([.ref hd, .int tk])).length) Slot.unset).toArray = ls at hl ⊢
  have hl : lv_has ls 2 [(0, .ref hd), (1, .int tk)] := hl
  refine lv_iload_n hx hb d_D_tick_0 rfl (lv_at hl 1 rfl) ?_
  refine lv_if_lt (tgt := 10) hx hb d_D_tick_1 (by decide) (fun h781 => ?_) (fun h781 => ?_)
  · exact absurd h781 (Int32.not_lt.mpr ht0)
  · refine lv_iload_n hx hb d_D_tick_4 rfl (lv_at hl 1 rfl) ?_
    refine lv_bipush (v := 100) hx hb d_D_tick_5 (by decide) ?_
    refine lv_icmp_le (tgt := 20) hx hb d_D_tick_7 (by decide) (fun h782 => ?_) (fun h782 => ?_)
    · refine lv_aload_n hx hb d_D_tick_20 rfl (lv_at hl 0 rfl) ?_
      refine lv_dup hx hb d_D_tick_21 rfl ?_
      refine va_get (D := G) (ci := 0) (v := .int ck) (C := cr_D) (T := cf_D) (N := 4) hx hb hw uw_D hown hK.1 hP 0 rfl rfl 3 (by decide) (hw _ ww_71) (fun _ h9 => h9) rfl d_D_tick_22 ?_
      refine lv_iload_n hx hb d_D_tick_25 rfl (lv_at hl 1 rfl) ?_
      refine lv_iadd hx hb d_D_tick_26 ?_
      refine va_put (D := G) (ci := 0) (v := .int (ck + tk)) (ty := .int) (C := cr_D) (T := cf_D) (N := 4) hx hb hw uw_D ct_D ct_D_ok ct_D_nm hown hK.1 hP hD hS 0 rfl rfl 3 (by decide) (hw _ ww_71) (fun _ h9 => h9) rfl (by decide +kernel) rfl rfl (Nat.le_of_ble_eq_true rfl) d_D_tick_27 (fun H locs hP hD hS => ?_)
      have hP : va_P G classes [(hd, .inr (0, [.ref us, .ref op, .int (nI n), .int (ck + tk)]))] H := hP
      have hD : va_D A [(hd, .inr (0, [.ref us, .ref op, .int (nI n), .int (ck + tk)]))] := hD
      refine lv_aload_n hx hb d_D_tick_30 rfl (lv_at hl 0 rfl) ?_
      refine va_get (D := G) (ci := 0) (v := .int (ck + tk)) (C := cr_D) (T := cf_D) (N := 4) hx hb hw uw_D hown hK.1 hP 0 rfl rfl 3 (by decide) (hw _ ww_71) (fun _ h9 => h9) rfl d_D_tick_31 ?_
      exact W.iret (v := ck + tk) hx hb hr (fun t ht hW => ⟨⟨(), ⟨rfl, trivial⟩, by rw [ht]; exact hP, hD⟩, hS.F ht⟩) hS.2.2 d_D_tick_34
    · exact absurd ht1 h782
