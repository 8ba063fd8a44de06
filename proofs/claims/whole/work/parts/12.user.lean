theorem ww_2 : (Jvm.Cond.initialized "PakeDesk$User") ∈ gt_tbl := gt_m (List.mem_append_right _ (List.mem_append_left _ (List.mem_of_getElem? (i := 2) (by decide +kernel)))) (by decide)
theorem ww_23 : (Jvm.Cond.instanceMethod ({ cls := "java/lang/Object", name := "<init>", desc := "()V" } : Jvm.MethodName)) ∈ gt_tbl := gt_m (List.mem_append_right _ (List.mem_append_left _ (List.mem_of_getElem? (i := 23) (by decide +kernel)))) (by decide)
theorem ww_24 : (Jvm.Cond.code ({ cls := "java/lang/Object", name := "<init>", desc := "()V" } : Jvm.MethodName) object_method_1_code (1 : Nat) (Option.none : Option Jvm.ClassFile.FieldType)) ∈ gt_tbl := gt_m (List.mem_append_right _ (List.mem_append_left _ (List.mem_of_getElem? (i := 24) (by decide +kernel)))) (by decide)
theorem ww_31 : (Jvm.Cond.methodLink "PakeDesk$User" (3 : Nat) ({ cls := "java/lang/Object", name := "<init>", desc := "()V" } : Jvm.MethodName)) ∈ gt_tbl := gt_m (List.mem_append_right _ (List.mem_append_left _ (List.mem_of_getElem? (i := 31) (by decide +kernel)))) (by decide)
theorem ww_32 : (Jvm.Cond.fieldLink "PakeDesk$User" (9 : Nat) "PakeDesk$User" "number" "I") ∈ gt_tbl := gt_m (List.mem_append_right _ (List.mem_append_left _ (List.mem_of_getElem? (i := 32) (by decide +kernel)))) (by decide)
theorem ww_34 : (Jvm.Cond.fieldLink "PakeDesk$User" (15 : Nat) "PakeDesk$User" "seed" "I") ∈ gt_tbl := gt_m (List.mem_append_right _ (List.mem_append_left _ (List.mem_of_getElem? (i := 34) (by decide +kernel)))) (by decide)
theorem ww_35 : (Jvm.Cond.fieldLink "PakeDesk$User" (18 : Nat) "PakeDesk$User" "way" "I") ∈ gt_tbl := gt_m (List.mem_append_right _ (List.mem_append_left _ (List.mem_of_getElem? (i := 35) (by decide +kernel)))) (by decide)
theorem ww_37 : (Jvm.Cond.fieldLink "PakeDesk$User" (41 : Nat) "PakeDesk$User" "word" "J") ∈ gt_tbl := gt_m (List.mem_append_right _ (List.mem_append_left _ (List.mem_of_getElem? (i := 37) (by decide +kernel)))) (by decide)
theorem ww_38 : (Jvm.Cond.fieldLink "PakeDesk$User" (45 : Nat) "PakeDesk$User" "salt" "J") ∈ gt_tbl := gt_m (List.mem_append_right _ (List.mem_append_left _ (List.mem_of_getElem? (i := 38) (by decide +kernel)))) (by decide)
theorem ww_39 : (Jvm.Cond.fieldLink "PakeDesk$User" (57 : Nat) "PakeDesk$User" "verifier" "J") ∈ gt_tbl := gt_m (List.mem_append_right _ (List.mem_append_left _ (List.mem_of_getElem? (i := 39) (by decide +kernel)))) (by decide)
theorem ww_41 : (Jvm.Cond.fieldLink "PakeDesk$User" (73 : Nat) "PakeDesk$User" "failures" "I") ∈ gt_tbl := gt_m (List.mem_append_right _ (List.mem_append_left _ (List.mem_of_getElem? (i := 41) (by decide +kernel)))) (by decide)
theorem ww_42 : (Jvm.Cond.fieldLink "PakeDesk$User" (70 : Nat) "PakeDesk$User" "latestFailure" "I") ∈ gt_tbl := gt_m (List.mem_append_right _ (List.mem_append_left _ (List.mem_of_getElem? (i := 42) (by decide +kernel)))) (by decide)
theorem ww_43 : (Jvm.Cond.fieldLink "PakeDesk$User" (64 : Nat) "PakeDesk$User" "secondLatestFailure" "I") ∈ gt_tbl := gt_m (List.mem_append_right _ (List.mem_append_left _ (List.mem_of_getElem? (i := 43) (by decide +kernel)))) (by decide)
theorem ww_44 : (Jvm.Cond.fieldLink "PakeDesk$User" (67 : Nat) "PakeDesk$User" "thirdLatestFailure" "I") ∈ gt_tbl := gt_m (List.mem_append_right _ (List.mem_append_left _ (List.mem_of_getElem? (i := 44) (by decide +kernel)))) (by decide)
theorem ww_96 : (Jvm.Cond.methodLink "PakeDesk$User" (38 : Nat) ({ cls := "PakeDesk$User", name := "wordOf", desc := "(J)J" } : Jvm.MethodName)) ∈ gt_tbl := gt_m (List.mem_append_right _ (List.mem_append_left _ (List.mem_of_getElem? (i := 96) (by decide +kernel)))) (by decide)
theorem ww_97 : (Jvm.Cond.instanceMethod ({ cls := "PakeDesk$User", name := "wordOf", desc := "(J)J" } : Jvm.MethodName)) ∈ gt_tbl := gt_m (List.mem_append_right _ (List.mem_append_left _ (List.mem_of_getElem? (i := 97) (by decide +kernel)))) (by decide)
theorem ww_98 : (Jvm.Cond.selects "PakeDesk$User" ({ cls := "PakeDesk$User", name := "wordOf", desc := "(J)J" } : Jvm.MethodName) ({ cls := "PakeDesk$User", name := "wordOf", desc := "(J)J" } : Jvm.MethodName)) ∈ gt_tbl := gt_m (List.mem_append_right _ (List.mem_append_left _ (List.mem_of_getElem? (i := 98) (by decide +kernel)))) (by decide)
theorem ww_99 : (Jvm.Cond.code ({ cls := "PakeDesk$User", name := "wordOf", desc := "(J)J" } : Jvm.MethodName) prog_7_method_2_code (3 : Nat) (Option.some Jvm.ClassFile.FieldType.long)) ∈ gt_tbl := gt_m (List.mem_append_right _ (List.mem_append_left _ (List.mem_of_getElem? (i := 99) (by decide +kernel)))) (by decide)
theorem ww_100 : (Jvm.Cond.methodLink "PakeDesk$User" (21 : Nat) ({ cls := "PakeDesk$Digest", name := "of", desc := "(JJJ)J" } : Jvm.MethodName)) ∈ gt_tbl := gt_m (List.mem_append_right _ (List.mem_append_left _ (List.mem_of_getElem? (i := 100) (by decide +kernel)))) (by decide)
theorem ww_101 : (Jvm.Cond.static ({ cls := "PakeDesk$Digest", name := "of", desc := "(JJJ)J" } : Jvm.MethodName)) ∈ gt_tbl := gt_m (List.mem_append_right _ (List.mem_append_left _ (List.mem_of_getElem? (i := 101) (by decide +kernel)))) (by decide)
theorem ww_102 : (Jvm.Cond.code ({ cls := "PakeDesk$Digest", name := "of", desc := "(JJJ)J" } : Jvm.MethodName) prog_3_method_2_code (6 : Nat) (Option.some Jvm.ClassFile.FieldType.long)) ∈ gt_tbl := gt_m (List.mem_append_right _ (List.mem_append_left _ (List.mem_of_getElem? (i := 102) (by decide +kernel)))) (by decide)
theorem ww_113 : (Jvm.Cond.methodLink "PakeDesk$User" (27 : Nat) ({ cls := "PakeDesk$Numbers", name := "scalar", desc := "(J)J" } : Jvm.MethodName)) ∈ gt_tbl := gt_m (List.mem_append_right _ (List.mem_append_left _ (List.mem_of_getElem? (i := 113) (by decide +kernel)))) (by decide)
theorem ww_114 : (Jvm.Cond.static ({ cls := "PakeDesk$Numbers", name := "scalar", desc := "(J)J" } : Jvm.MethodName)) ∈ gt_tbl := gt_m (List.mem_append_right _ (List.mem_append_left _ (List.mem_of_getElem? (i := 114) (by decide +kernel)))) (by decide)
theorem ww_115 : (Jvm.Cond.code ({ cls := "PakeDesk$Numbers", name := "scalar", desc := "(J)J" } : Jvm.MethodName) prog_4_method_7_code (2 : Nat) (Option.some Jvm.ClassFile.FieldType.long)) ∈ gt_tbl := gt_m (List.mem_append_right _ (List.mem_append_left _ (List.mem_of_getElem? (i := 115) (by decide +kernel)))) (by decide)
theorem ww_117 : (Jvm.Cond.constantLong "PakeDesk$User" (48 : Nat) (4 : Int64)) ∈ gt_tbl := gt_m (List.mem_append_right _ (List.mem_append_left _ (List.mem_of_getElem? (i := 117) (by decide +kernel)))) (by decide)
theorem ww_118 : (Jvm.Cond.methodLink "PakeDesk$User" (50 : Nat) ({ cls := "PakeDesk$User", name := "exponentOf", desc := "(JJ)J" } : Jvm.MethodName)) ∈ gt_tbl := gt_m (List.mem_append_right _ (List.mem_append_left _ (List.mem_of_getElem? (i := 118) (by decide +kernel)))) (by decide)
theorem ww_119 : (Jvm.Cond.instanceMethod ({ cls := "PakeDesk$User", name := "exponentOf", desc := "(JJ)J" } : Jvm.MethodName)) ∈ gt_tbl := gt_m (List.mem_append_right _ (List.mem_append_left _ (List.mem_of_getElem? (i := 119) (by decide +kernel)))) (by decide)
theorem ww_120 : (Jvm.Cond.selects "PakeDesk$User" ({ cls := "PakeDesk$User", name := "exponentOf", desc := "(JJ)J" } : Jvm.MethodName) ({ cls := "PakeDesk$User", name := "exponentOf", desc := "(JJ)J" } : Jvm.MethodName)) ∈ gt_tbl := gt_m (List.mem_append_right _ (List.mem_append_left _ (List.mem_of_getElem? (i := 120) (by decide +kernel)))) (by decide)
theorem ww_121 : (Jvm.Cond.code ({ cls := "PakeDesk$User", name := "exponentOf", desc := "(JJ)J" } : Jvm.MethodName) prog_7_method_3_code (5 : Nat) (Option.some Jvm.ClassFile.FieldType.long)) ∈ gt_tbl := gt_m (List.mem_append_right _ (List.mem_append_left _ (List.mem_of_getElem? (i := 121) (by decide +kernel)))) (by decide)
theorem ww_122 : (Jvm.Cond.constantLong "PakeDesk$User" (33 : Nat) (2 : Int64)) ∈ gt_tbl := gt_m (List.mem_append_right _ (List.mem_append_left _ (List.mem_of_getElem? (i := 122) (by decide +kernel)))) (by decide)
theorem ww_123 : (Jvm.Cond.methodLink "PakeDesk$User" (35 : Nat) ({ cls := "PakeDesk$Digest", name := "of", desc := "(JJJJ)J" } : Jvm.MethodName)) ∈ gt_tbl := gt_m (List.mem_append_right _ (List.mem_append_left _ (List.mem_of_getElem? (i := 123) (by decide +kernel)))) (by decide)
theorem ww_124 : (Jvm.Cond.static ({ cls := "PakeDesk$Digest", name := "of", desc := "(JJJJ)J" } : Jvm.MethodName)) ∈ gt_tbl := gt_m (List.mem_append_right _ (List.mem_append_left _ (List.mem_of_getElem? (i := 124) (by decide +kernel)))) (by decide)
theorem ww_125 : (Jvm.Cond.code ({ cls := "PakeDesk$Digest", name := "of", desc := "(JJJJ)J" } : Jvm.MethodName) prog_3_method_3_code (8 : Nat) (Option.some Jvm.ClassFile.FieldType.long)) ∈ gt_tbl := gt_m (List.mem_append_right _ (List.mem_append_left _ (List.mem_of_getElem? (i := 125) (by decide +kernel)))) (by decide)
theorem ww_126 : (Jvm.Cond.methodLink "PakeDesk$User" (54 : Nat) ({ cls := "PakeDesk$Numbers", name := "power", desc := "(JJ)J" } : Jvm.MethodName)) ∈ gt_tbl := gt_m (List.mem_append_right _ (List.mem_append_left _ (List.mem_of_getElem? (i := 126) (by decide +kernel)))) (by decide)
theorem ww_394 : (Jvm.Cond.constantLong "PakeDesk$User" (60 : Nat) (3 : Int64)) ∈ gt_tbl := gt_m (List.mem_append_right _ (List.mem_append_right _ (List.mem_append_left _ (List.mem_of_getElem? (i := 154) (by decide +kernel))))) (by decide)
theorem ww_399 : (Jvm.Cond.constantLong "PakeDesk$User" (62 : Nat) (5 : Int64)) ∈ gt_tbl := gt_m (List.mem_append_right _ (List.mem_append_right _ (List.mem_append_left _ (List.mem_of_getElem? (i := 159) (by decide +kernel))))) (by decide)
theorem cy_G_of3 : tb_C my_G_of3 mb_G_of3 6 (some .long) 3 := ⟨ww_102, ww_4, by decide, by decide, by decide +kernel⟩
theorem cy_N_scalar : tb_C my_N_scalar mb_N_scalar 2 (some .long) 1 := ⟨ww_115, ww_5, by decide, by decide, by decide +kernel⟩
theorem cy_G_of4 : tb_C my_G_of4 mb_G_of4 8 (some .long) 4 := ⟨ww_125, ww_4, by decide, by decide, by decide +kernel⟩
theorem cy_U_exponentOf : tb_C my_U_exponentOf mb_U_exponentOf 5 (some .long) 2 := ⟨ww_121, ww_2, by decide, by decide, by decide +kernel⟩
theorem cy_U_wordOf : tb_C my_U_wordOf mb_U_wordOf 3 (some .long) 1 := ⟨ww_99, ww_2, by decide, by decide, by decide +kernel⟩
theorem d_U_init_0 : decode mb_U_init 0 = .ok (.aload_n 0, 1) := by decide +kernel
theorem d_U_init_1 : decode mb_U_init 1 = .ok (.invokespecial 3, 3) := by decide +kernel
theorem d_U_init_4 : decode mb_U_init 4 = .ok (.aload_n 0, 1) := by decide +kernel
theorem d_U_init_5 : decode mb_U_init 5 = .ok (.iload_n 1, 1) := by decide +kernel
theorem d_U_init_6 : decode mb_U_init 6 = .ok (.putfield 9, 3) := by decide +kernel
theorem d_U_init_9 : decode mb_U_init 9 = .ok (.aload_n 0, 1) := by decide +kernel
theorem d_U_init_10 : decode mb_U_init 10 = .ok (.iload_n 2, 1) := by decide +kernel
theorem d_U_init_11 : decode mb_U_init 11 = .ok (.putfield 15, 3) := by decide +kernel
theorem d_U_init_14 : decode mb_U_init 14 = .ok (.aload_n 0, 1) := by decide +kernel
theorem d_U_init_15 : decode mb_U_init 15 = .ok (.iconst (-1), 1) := by decide +kernel
theorem d_U_init_16 : decode mb_U_init 16 = .ok (.putfield 18, 3) := by decide +kernel
theorem d_U_init_19 : decode mb_U_init 19 = .ok (.return_, 1) := by decide +kernel
theorem d_U_wordOf_0 : decode mb_U_wordOf 0 = .ok (.lconst 1, 1) := by decide +kernel
theorem d_U_wordOf_1 : decode mb_U_wordOf 1 = .ok (.aload_n 0, 1) := by decide +kernel
theorem d_U_wordOf_2 : decode mb_U_wordOf 2 = .ok (.getfield 9, 3) := by decide +kernel
theorem d_U_wordOf_5 : decode mb_U_wordOf 5 = .ok (.i2l, 1) := by decide +kernel
theorem d_U_wordOf_6 : decode mb_U_wordOf 6 = .ok (.lload_n 1, 1) := by decide +kernel
theorem d_U_wordOf_7 : decode mb_U_wordOf 7 = .ok (.invokestatic 21, 3) := by decide +kernel
theorem d_U_wordOf_10 : decode mb_U_wordOf 10 = .ok (.invokestatic 27, 3) := by decide +kernel
theorem d_U_wordOf_13 : decode mb_U_wordOf 13 = .ok (.lreturn, 1) := by decide +kernel
theorem d_U_exponentOf_0 : decode mb_U_exponentOf 0 = .ok (.ldc2_w 33, 3) := by decide +kernel
theorem d_U_exponentOf_3 : decode mb_U_exponentOf 3 = .ok (.lload_n 3, 1) := by decide +kernel
theorem d_U_exponentOf_4 : decode mb_U_exponentOf 4 = .ok (.aload_n 0, 1) := by decide +kernel
theorem d_U_exponentOf_5 : decode mb_U_exponentOf 5 = .ok (.getfield 9, 3) := by decide +kernel
theorem d_U_exponentOf_8 : decode mb_U_exponentOf 8 = .ok (.i2l, 1) := by decide +kernel
theorem d_U_exponentOf_9 : decode mb_U_exponentOf 9 = .ok (.lload_n 1, 1) := by decide +kernel
theorem d_U_exponentOf_10 : decode mb_U_exponentOf 10 = .ok (.invokestatic 35, 3) := by decide +kernel
theorem d_U_exponentOf_13 : decode mb_U_exponentOf 13 = .ok (.invokestatic 27, 3) := by decide +kernel
theorem d_U_exponentOf_16 : decode mb_U_exponentOf 16 = .ok (.lreturn, 1) := by decide +kernel
theorem d_U_keepRecord_0 : decode mb_U_keepRecord 0 = .ok (.aload_n 0, 1) := by decide +kernel
theorem d_U_keepRecord_1 : decode mb_U_keepRecord 1 = .ok (.iload_n 1, 1) := by decide +kernel
theorem d_U_keepRecord_2 : decode mb_U_keepRecord 2 = .ok (.putfield 18, 3) := by decide +kernel
theorem d_U_keepRecord_5 : decode mb_U_keepRecord 5 = .ok (.iload_n 1, 1) := by decide +kernel
theorem d_U_keepRecord_6 : decode mb_U_keepRecord 6 = .ok (.ifCond .ne 15, 3) := by decide +kernel
theorem d_U_keepRecord_9 : decode mb_U_keepRecord 9 = .ok (.aload_n 0, 1) := by decide +kernel
theorem d_U_keepRecord_10 : decode mb_U_keepRecord 10 = .ok (.aload_n 0, 1) := by decide +kernel
theorem d_U_keepRecord_11 : decode mb_U_keepRecord 11 = .ok (.lload_n 2, 1) := by decide +kernel
theorem d_U_keepRecord_12 : decode mb_U_keepRecord 12 = .ok (.invokevirtual 38, 3) := by decide +kernel
theorem d_U_keepRecord_15 : decode mb_U_keepRecord 15 = .ok (.putfield 41, 3) := by decide +kernel
theorem d_U_keepRecord_18 : decode mb_U_keepRecord 18 = .ok (.goto 26, 3) := by decide +kernel
theorem d_U_keepRecord_21 : decode mb_U_keepRecord 21 = .ok (.aload_n 0, 1) := by decide +kernel
theorem d_U_keepRecord_22 : decode mb_U_keepRecord 22 = .ok (.lload 4, 2) := by decide +kernel
theorem d_U_keepRecord_24 : decode mb_U_keepRecord 24 = .ok (.putfield 45, 3) := by decide +kernel
theorem d_U_keepRecord_27 : decode mb_U_keepRecord 27 = .ok (.aload_n 0, 1) := by decide +kernel
theorem d_U_keepRecord_28 : decode mb_U_keepRecord 28 = .ok (.ldc2_w 48, 3) := by decide +kernel
theorem d_U_keepRecord_31 : decode mb_U_keepRecord 31 = .ok (.aload_n 0, 1) := by decide +kernel
theorem d_U_keepRecord_32 : decode mb_U_keepRecord 32 = .ok (.lload_n 2, 1) := by decide +kernel
theorem d_U_keepRecord_33 : decode mb_U_keepRecord 33 = .ok (.lload 4, 2) := by decide +kernel
theorem d_U_keepRecord_35 : decode mb_U_keepRecord 35 = .ok (.invokevirtual 50, 3) := by decide +kernel
theorem d_U_keepRecord_38 : decode mb_U_keepRecord 38 = .ok (.invokestatic 54, 3) := by decide +kernel
theorem d_U_keepRecord_41 : decode mb_U_keepRecord 41 = .ok (.putfield 57, 3) := by decide +kernel
theorem d_U_keepRecord_44 : decode mb_U_keepRecord 44 = .ok (.return_, 1) := by decide +kernel
theorem d_U_wordOrFake_0 : decode mb_U_wordOrFake 0 = .ok (.aload_n 0, 1) := by decide +kernel
theorem d_U_wordOrFake_1 : decode mb_U_wordOrFake 1 = .ok (.getfield 18, 3) := by decide +kernel
theorem d_U_wordOrFake_4 : decode mb_U_wordOrFake 4 = .ok (.ifCond .ne 10, 3) := by decide +kernel
theorem d_U_wordOrFake_7 : decode mb_U_wordOrFake 7 = .ok (.aload_n 0, 1) := by decide +kernel
theorem d_U_wordOrFake_8 : decode mb_U_wordOrFake 8 = .ok (.getfield 41, 3) := by decide +kernel
theorem d_U_wordOrFake_11 : decode mb_U_wordOrFake 11 = .ok (.goto 22, 3) := by decide +kernel
theorem d_U_wordOrFake_14 : decode mb_U_wordOrFake 14 = .ok (.ldc2_w 60, 3) := by decide +kernel
theorem d_U_wordOrFake_17 : decode mb_U_wordOrFake 17 = .ok (.aload_n 0, 1) := by decide +kernel
theorem d_U_wordOrFake_18 : decode mb_U_wordOrFake 18 = .ok (.getfield 15, 3) := by decide +kernel
theorem d_U_wordOrFake_21 : decode mb_U_wordOrFake 21 = .ok (.i2l, 1) := by decide +kernel
theorem d_U_wordOrFake_22 : decode mb_U_wordOrFake 22 = .ok (.aload_n 0, 1) := by decide +kernel
theorem d_U_wordOrFake_23 : decode mb_U_wordOrFake 23 = .ok (.getfield 9, 3) := by decide +kernel
theorem d_U_wordOrFake_26 : decode mb_U_wordOrFake 26 = .ok (.i2l, 1) := by decide +kernel
theorem d_U_wordOrFake_27 : decode mb_U_wordOrFake 27 = .ok (.invokestatic 21, 3) := by decide +kernel
theorem d_U_wordOrFake_30 : decode mb_U_wordOrFake 30 = .ok (.invokestatic 27, 3) := by decide +kernel
theorem d_U_wordOrFake_33 : decode mb_U_wordOrFake 33 = .ok (.lreturn, 1) := by decide +kernel
theorem d_U_saltOrFake_0 : decode mb_U_saltOrFake 0 = .ok (.aload_n 0, 1) := by decide +kernel
theorem d_U_saltOrFake_1 : decode mb_U_saltOrFake 1 = .ok (.getfield 18, 3) := by decide +kernel
theorem d_U_saltOrFake_4 : decode mb_U_saltOrFake 4 = .ok (.iconst 1, 1) := by decide +kernel
theorem d_U_saltOrFake_5 : decode mb_U_saltOrFake 5 = .ok (.if_icmp .ne 10, 3) := by decide +kernel
theorem d_U_saltOrFake_8 : decode mb_U_saltOrFake 8 = .ok (.aload_n 0, 1) := by decide +kernel
theorem d_U_saltOrFake_9 : decode mb_U_saltOrFake 9 = .ok (.getfield 45, 3) := by decide +kernel
theorem d_U_saltOrFake_12 : decode mb_U_saltOrFake 12 = .ok (.goto 19, 3) := by decide +kernel
theorem d_U_saltOrFake_15 : decode mb_U_saltOrFake 15 = .ok (.ldc2_w 48, 3) := by decide +kernel
theorem d_U_saltOrFake_18 : decode mb_U_saltOrFake 18 = .ok (.aload_n 0, 1) := by decide +kernel
theorem d_U_saltOrFake_19 : decode mb_U_saltOrFake 19 = .ok (.getfield 15, 3) := by decide +kernel
theorem d_U_saltOrFake_22 : decode mb_U_saltOrFake 22 = .ok (.i2l, 1) := by decide +kernel
theorem d_U_saltOrFake_23 : decode mb_U_saltOrFake 23 = .ok (.aload_n 0, 1) := by decide +kernel
theorem d_U_saltOrFake_24 : decode mb_U_saltOrFake 24 = .ok (.getfield 9, 3) := by decide +kernel
theorem d_U_saltOrFake_27 : decode mb_U_saltOrFake 27 = .ok (.i2l, 1) := by decide +kernel
theorem d_U_saltOrFake_28 : decode mb_U_saltOrFake 28 = .ok (.invokestatic 21, 3) := by decide +kernel
theorem d_U_saltOrFake_31 : decode mb_U_saltOrFake 31 = .ok (.lreturn, 1) := by decide +kernel
theorem d_U_verifierOrFake_0 : decode mb_U_verifierOrFake 0 = .ok (.aload_n 0, 1) := by decide +kernel
theorem d_U_verifierOrFake_1 : decode mb_U_verifierOrFake 1 = .ok (.getfield 18, 3) := by decide +kernel
theorem d_U_verifierOrFake_4 : decode mb_U_verifierOrFake 4 = .ok (.iconst 1, 1) := by decide +kernel
theorem d_U_verifierOrFake_5 : decode mb_U_verifierOrFake 5 = .ok (.if_icmp .ne 8, 3) := by decide +kernel
theorem d_U_verifierOrFake_8 : decode mb_U_verifierOrFake 8 = .ok (.aload_n 0, 1) := by decide +kernel
theorem d_U_verifierOrFake_9 : decode mb_U_verifierOrFake 9 = .ok (.getfield 57, 3) := by decide +kernel
theorem d_U_verifierOrFake_12 : decode mb_U_verifierOrFake 12 = .ok (.lreturn, 1) := by decide +kernel
theorem d_U_verifierOrFake_13 : decode mb_U_verifierOrFake 13 = .ok (.ldc2_w 48, 3) := by decide +kernel
theorem d_U_verifierOrFake_16 : decode mb_U_verifierOrFake 16 = .ok (.ldc2_w 62, 3) := by decide +kernel
theorem d_U_verifierOrFake_19 : decode mb_U_verifierOrFake 19 = .ok (.aload_n 0, 1) := by decide +kernel
theorem d_U_verifierOrFake_20 : decode mb_U_verifierOrFake 20 = .ok (.getfield 15, 3) := by decide +kernel
theorem d_U_verifierOrFake_23 : decode mb_U_verifierOrFake 23 = .ok (.i2l, 1) := by decide +kernel
theorem d_U_verifierOrFake_24 : decode mb_U_verifierOrFake 24 = .ok (.aload_n 0, 1) := by decide +kernel
theorem d_U_verifierOrFake_25 : decode mb_U_verifierOrFake 25 = .ok (.getfield 9, 3) := by decide +kernel
theorem d_U_verifierOrFake_28 : decode mb_U_verifierOrFake 28 = .ok (.i2l, 1) := by decide +kernel
theorem d_U_verifierOrFake_29 : decode mb_U_verifierOrFake 29 = .ok (.invokestatic 21, 3) := by decide +kernel
theorem d_U_verifierOrFake_32 : decode mb_U_verifierOrFake 32 = .ok (.invokestatic 27, 3) := by decide +kernel
theorem d_U_verifierOrFake_35 : decode mb_U_verifierOrFake 35 = .ok (.invokestatic 54, 3) := by decide +kernel
theorem d_U_verifierOrFake_38 : decode mb_U_verifierOrFake 38 = .ok (.lreturn, 1) := by decide +kernel
theorem d_U_addFailure_0 : decode mb_U_addFailure 0 = .ok (.aload_n 0, 1) := by decide +kernel
theorem d_U_addFailure_1 : decode mb_U_addFailure 1 = .ok (.aload_n 0, 1) := by decide +kernel
theorem d_U_addFailure_2 : decode mb_U_addFailure 2 = .ok (.getfield 64, 3) := by decide +kernel
theorem d_U_addFailure_5 : decode mb_U_addFailure 5 = .ok (.putfield 67, 3) := by decide +kernel
theorem d_U_addFailure_8 : decode mb_U_addFailure 8 = .ok (.aload_n 0, 1) := by decide +kernel
theorem d_U_addFailure_9 : decode mb_U_addFailure 9 = .ok (.aload_n 0, 1) := by decide +kernel
theorem d_U_addFailure_10 : decode mb_U_addFailure 10 = .ok (.getfield 70, 3) := by decide +kernel
theorem d_U_addFailure_13 : decode mb_U_addFailure 13 = .ok (.putfield 64, 3) := by decide +kernel
theorem d_U_addFailure_16 : decode mb_U_addFailure 16 = .ok (.aload_n 0, 1) := by decide +kernel
theorem d_U_addFailure_17 : decode mb_U_addFailure 17 = .ok (.iload_n 1, 1) := by decide +kernel
theorem d_U_addFailure_18 : decode mb_U_addFailure 18 = .ok (.putfield 70, 3) := by decide +kernel
theorem d_U_addFailure_21 : decode mb_U_addFailure 21 = .ok (.aload_n 0, 1) := by decide +kernel
theorem d_U_addFailure_22 : decode mb_U_addFailure 22 = .ok (.dup, 1) := by decide +kernel
theorem d_U_addFailure_23 : decode mb_U_addFailure 23 = .ok (.getfield 73, 3) := by decide +kernel
theorem d_U_addFailure_26 : decode mb_U_addFailure 26 = .ok (.iconst 1, 1) := by decide +kernel
theorem d_U_addFailure_27 : decode mb_U_addFailure 27 = .ok (.iadd, 1) := by decide +kernel
theorem d_U_addFailure_28 : decode mb_U_addFailure 28 = .ok (.putfield 73, 3) := by decide +kernel
theorem d_U_addFailure_31 : decode mb_U_addFailure 31 = .ok (.return_, 1) := by decide +kernel
theorem d_U_isBlockedAt_0 : decode mb_U_isBlockedAt 0 = .ok (.aload_n 0, 1) := by decide +kernel
theorem d_U_isBlockedAt_1 : decode mb_U_isBlockedAt 1 = .ok (.getfield 73, 3) := by decide +kernel
theorem d_U_isBlockedAt_4 : decode mb_U_isBlockedAt 4 = .ok (.iconst 3, 1) := by decide +kernel
theorem d_U_isBlockedAt_5 : decode mb_U_isBlockedAt 5 = .ok (.if_icmp .lt 18, 3) := by decide +kernel
theorem d_U_isBlockedAt_8 : decode mb_U_isBlockedAt 8 = .ok (.iload_n 1, 1) := by decide +kernel
theorem d_U_isBlockedAt_9 : decode mb_U_isBlockedAt 9 = .ok (.aload_n 0, 1) := by decide +kernel
theorem d_U_isBlockedAt_10 : decode mb_U_isBlockedAt 10 = .ok (.getfield 67, 3) := by decide +kernel
theorem d_U_isBlockedAt_13 : decode mb_U_isBlockedAt 13 = .ok (.isub, 1) := by decide +kernel
theorem d_U_isBlockedAt_14 : decode mb_U_isBlockedAt 14 = .ok (.bipush 30, 2) := by decide +kernel
theorem d_U_isBlockedAt_16 : decode mb_U_isBlockedAt 16 = .ok (.if_icmp .ge 7, 3) := by decide +kernel
theorem d_U_isBlockedAt_19 : decode mb_U_isBlockedAt 19 = .ok (.iconst 1, 1) := by decide +kernel
theorem d_U_isBlockedAt_20 : decode mb_U_isBlockedAt 20 = .ok (.goto 4, 3) := by decide +kernel
theorem d_U_isBlockedAt_23 : decode mb_U_isBlockedAt 23 = .ok (.iconst 0, 1) := by decide +kernel
theorem d_U_isBlockedAt_24 : decode mb_U_isBlockedAt 24 = .ok (.ireturn, 1) := by decide +kernel
set_option maxHeartbeats 4000000 in
set_option maxRecDepth 100000 in
theorem c_U_init (l : Launch) (G : va_G) (ct : Nat → ClassId) (sz : Nat) (h0 : Nat) (nb : Int32) (sd : Int32) : Met l my_U_init (tb_w my_U_init mb_U_init 3 none) ({ frames := 1, cells := 0, slots := 0, locals := 12 }) (wk_P [.ref h0, .int nb, .int sd] G ct [(h0, .inr (1, [.int 0, .int 0, .int 0, .long 0, .long 0, .long 0, .int 0, .int 0, .int 0, .int 0]))] sz) (wk_Q (wk_ov (S := Unit) (fun _ => True)) (fun _ : Unit => [(h0, .inr (1, [.int nb, .int sd, .int (-1), .long (lN 0), .long 0, .long (lN 0), .int 0, .int 0, .int 0, .int 0]))]) G (va_A [(h0, .inr (1, [.int 0, .int 0, .int 0, .long 0, .long 0, .long 0, .int 0, .int 0, .int 0, .int 0]))] sz)) 0 0 (va_A [(h0, .inr (1, [.int 0, .int 0, .int 0, .long 0, .long 0, .long 0, .int 0, .int 0, .int 0, .int 0]))] sz) := by
  refine Met.ofW (cc := mb_U_init) (maxL := 3) (ret := none) (by decide) rfl ?_
  intro p e s m args below meth c s₁ B hml hv
  obtain ⟨rfl, hsz, hP, hK, hD0⟩ := hv
  have hx := B.exec
  have hb := B.bytes
  have hr := B.returns
  have hts := atoms_spec (ws := tb_w my_U_init mb_U_init 3 none) B.pre
  have hw : ∀ w ∈ gt_tbl, w.before [.ref h0, .int nb, .int sd].toArray s = true := fun w h => hts w (List.mem_cons_of_mem _ h)
  have hown : s.vm.findClass cr_U = some m.cls := findClass_of_methodNamed B.named
  have hlocks := B.notSynchronized
  have hin : meth.name = "<init>" := (name_of_methodNamed B.named B.method).1
  subst hsz
  have hD := hD0.self (sz := s.heap.size)
  generalize hAe : va_A [(h0, .inr (1, [.int 0, .int 0, .int 0, .long 0, .long 0, .long 0, .int 0, .int 0, .int 0, .int 0]))] s.heap.size = A at hD ⊢
  have hA : ∀ q : Nat, s.heap.size ≤ q → A q := fun q h => by rw [← hAe]; exact Or.inr h
  have hS : va_S A s.heap s.heap [] := va_S.rf
  have hP : va_P G classes [(h0, .inr (1, [.int 0, .int 0, .int 0, .long 0, .long 0, .long 0, .int 0, .int 0, .int 0, .int 0]))] s.heap := hP
  have hl := lv_entry ([.ref h0, .int nb, .int sd]) (n := 3) (Nat.le_of_ble_eq_true rfl)
  rw [lg_entry_eq]
  generalize (lg_sl ([.ref h0, .int nb, .int sd]) ++ List.replicate (3 - (lg_sl ([.ref h0, .int nb, .int sd])).length) Slot.unset).toArray = ls at hl ⊢
  have hl : lv_has ls 3 [(0, .ref h0), (1, .int nb), (2, .int sd)] := hl
  refine lv_aload_n hx hb d_U_init_0 rfl (lv_at hl 0 rfl) ?_
  refine W.objInit hx hb hown (hw _ ww_31) (hw _ ww_23) (hw _ ww_24) rfl (by rw [hml]; exact hl.1) rfl d_U_init_1 (Nat.le_of_ble_eq_true rfl) (Nat.le_of_ble_eq_true rfl) ?_
  refine W.eq (g2 := F0 m 4 ls []) rfl ?_
  refine lv_aload_n hx hb d_U_init_4 rfl (lv_at hl 0 rfl) ?_
  refine lv_iload_n hx hb d_U_init_5 rfl (lv_at hl 1 rfl) ?_
  refine va_putF (D := G) (ci := 1) (v := .int nb) (ty := .int) (C := cr_U) (T := cf_U) (N := 10) hx hb hw uw_U ct_U ct_U_ok ct_U_nm hown hK.1 hP hD hS 0 rfl rfl 0 (by decide) (hw _ ww_32) (fun _ h9 => h9) rfl hin rfl (by decide +kernel) rfl rfl (Nat.le_of_ble_eq_true rfl) d_U_init_6 (fun H locs hP hD hS => ?_)
  have hP : va_P G classes [(h0, .inr (1, [.int nb, .int 0, .int 0, .long 0, .long 0, .long 0, .int 0, .int 0, .int 0, .int 0]))] H := hP
  have hD : va_D A [(h0, .inr (1, [.int nb, .int 0, .int 0, .long 0, .long 0, .long 0, .int 0, .int 0, .int 0, .int 0]))] := hD
  refine lv_aload_n hx hb d_U_init_9 rfl (lv_at hl 0 rfl) ?_
  refine lv_iload_n hx hb d_U_init_10 rfl (lv_at hl 2 rfl) ?_
  refine va_putF (D := G) (ci := 1) (v := .int sd) (ty := .int) (C := cr_U) (T := cf_U) (N := 10) hx hb hw uw_U ct_U ct_U_ok ct_U_nm hown hK.1 hP hD hS 0 rfl rfl 1 (by decide) (hw _ ww_34) (fun _ h9 => h9) rfl hin rfl (by decide +kernel) rfl rfl (Nat.le_of_ble_eq_true rfl) d_U_init_11 (fun H locs hP hD hS => ?_)
  have hP : va_P G classes [(h0, .inr (1, [.int nb, .int sd, .int 0, .long 0, .long 0, .long 0, .int 0, .int 0, .int 0, .int 0]))] H := hP
  have hD : va_D A [(h0, .inr (1, [.int nb, .int sd, .int 0, .long 0, .long 0, .long 0, .int 0, .int 0, .int 0, .int 0]))] := hD
  refine lv_aload_n hx hb d_U_init_14 rfl (lv_at hl 0 rfl) ?_
  refine lv_iconst (v := (-1)) hx hb d_U_init_15 (by decide) ?_
  refine va_put (D := G) (ci := 1) (v := .int (-1)) (ty := .int) (C := cr_U) (T := cf_U) (N := 10) hx hb hw uw_U ct_U ct_U_ok ct_U_nm hown hK.1 hP hD hS 0 rfl rfl 2 (by decide) (hw _ ww_35) (fun _ h9 => h9) rfl (by decide +kernel) rfl rfl (Nat.le_of_ble_eq_true rfl) d_U_init_16 (fun H locs hP hD hS => ?_)
  have hP : va_P G classes [(h0, .inr (1, [.int nb, .int sd, .int (-1), .long 0, .long 0, .long 0, .int 0, .int 0, .int 0, .int 0]))] H := hP
  have hD : va_D A [(h0, .inr (1, [.int nb, .int sd, .int (-1), .long 0, .long 0, .long 0, .int 0, .int 0, .int 0, .int 0]))] := hD
  exact W.vret hx hb hr (fun t ht hW => ⟨⟨(), ⟨rfl, trivial⟩, by rw [ht]; exact hP, hD⟩, hS.F ht⟩) hS.2.2 d_U_init_19
set_option maxHeartbeats 4000000 in
set_option maxRecDepth 100000 in
theorem c_U_wordOf (l : Launch) (G : va_G) (ct : Nat → ClassId) (sz : Nat) (h0 : Nat) (nb : Int32) (sd : Int32) (wy : Int32) (wo : Nat) (sa : Int64) (ve : Nat) (fa : Int32) (l1 : Int32) (l2 : Int32) (l3 : Int32) (pw : Int64) : Met l my_U_wordOf (tb_w my_U_wordOf mb_U_wordOf 3 (some .long)) ({ frames := 2, cells := 0, slots := 0, locals := 51 }) (wk_P [.ref h0, .long pw] G ct [(h0, .inr (1, [.int nb, .int sd, .int wy, .long (lN wo), .long sa, .long (lN ve), .int fa, .int l1, .int l2, .int l3]))] sz) (vp_Sl (fun r => r = lN (wd_n nb pw))) 0 0 (fun _ => False) := by
  refine Met.ofW (cc := mb_U_wordOf) (maxL := 3) (ret := (some .long)) (by decide) rfl ?_
  intro p e s m args below meth c s₁ B hml hv
  obtain ⟨rfl, hsz, hP, hK, hD0⟩ := hv
  have hx := B.exec
  have hb := B.bytes
  have hr := B.returns
  have hts := atoms_spec (ws := tb_w my_U_wordOf mb_U_wordOf 3 (some .long)) B.pre
  have hw : ∀ w ∈ gt_tbl, w.before [.ref h0, .long pw].toArray s = true := fun w h => hts w (List.mem_cons_of_mem _ h)
  have hown : s.vm.findClass cr_U = some m.cls := findClass_of_methodNamed B.named
  have hlocks := B.notSynchronized
  subst hsz
  have hD := hD0.self (sz := s.heap.size)
  generalize hAe : va_A [(h0, .inr (1, [.int nb, .int sd, .int wy, .long (lN wo), .long sa, .long (lN ve), .int fa, .int l1, .int l2, .int l3]))] s.heap.size = A at hD ⊢
  have hA : ∀ q : Nat, s.heap.size ≤ q → A q := fun q h => by rw [← hAe]; exact Or.inr h
  have hS : va_S A s.heap s.heap [] := va_S.rf
  have hP : va_P G classes [(h0, .inr (1, [.int nb, .int sd, .int wy, .long (lN wo), .long sa, .long (lN ve), .int fa, .int l1, .int l2, .int l3]))] s.heap := hP
  have hl := lv_entry ([.ref h0, .long pw]) (n := 3) (Nat.le_of_ble_eq_true rfl)
  rw [lg_entry_eq]
  generalize (lg_sl ([.ref h0, .long pw]) ++ List.replicate (3 - (lg_sl ([.ref h0, .long pw])).length) Slot.unset).toArray = ls at hl ⊢
  have hl : lv_has ls 3 [(0, .ref h0), (1, .long pw)] := hl
  refine lv_lconst (v := 1) hx hb d_U_wordOf_0 (by decide) ?_
  refine lv_aload_n hx hb d_U_wordOf_1 rfl (lv_at hl 0 rfl) ?_
  refine va_get (D := G) (ci := 1) (v := .int nb) (C := cr_U) (T := cf_U) (N := 10) hx hb hw uw_U hown hK.1 hP 0 rfl rfl 0 (by decide) (hw _ ww_32) (fun _ h9 => h9) rfl d_U_wordOf_2 ?_
  refine lv_i2l (v := nb.toInt64) hx hb d_U_wordOf_5 rfl ?_
  refine lv_lload_n hx hb d_U_wordOf_6 rfl (lv_at hl 1 rfl) ?_
  refine vp_callSl (W.runS (As := [.long 1, .long nb.toInt64, .long pw]) (rest := []) ⟨hx, hb, hml, hown, hts⟩ (c_G_of3 l 1 nb.toInt64 pw) (tb_S hw cy_G_of3 ww_100 ww_101 rfl rfl ⟨Nat.le_of_ble_eq_true rfl, Nat.le_of_ble_eq_true rfl⟩) preEq rfl rfl hl.1 rfl (lv_room (Nat.le_of_ble_eq_true rfl)) d_U_wordOf_7 ⟨Nat.le_of_ble_eq_true rfl, Nat.le_of_ble_eq_true rfl⟩) (fun r43 er43 => ?_)
  subst er43
  refine vp_callSl (W.runS (As := [.long (dg_3 1 nb.toInt64 pw)]) (rest := []) ⟨hx, hb, hml, hown, hts⟩ (c_N_scalar l (dg_3 1 nb.toInt64 pw)) (tb_S hw cy_N_scalar ww_113 ww_114 rfl rfl ⟨Nat.le_of_ble_eq_true rfl, Nat.le_of_ble_eq_true rfl⟩) preEq rfl rfl hl.1 rfl (lv_room (Nat.le_of_ble_eq_true rfl)) d_U_wordOf_10 ⟨Nat.le_of_ble_eq_true rfl, Nat.le_of_ble_eq_true rfl⟩) (fun r44 er44 => ?_)
  subst er44
  exact W.lret (v := lN (sc_n (dg_3 1 nb.toInt64 pw))) hx hb hr (fun t ht hW => ⟨lN (sc_n (dg_3 1 nb.toInt64 pw)), rfl, rfl, ht⟩) (fun q h => nomatch h) d_U_wordOf_13
set_option maxHeartbeats 4000000 in
set_option maxRecDepth 100000 in
theorem c_U_exponentOf (l : Launch) (G : va_G) (ct : Nat → ClassId) (sz : Nat) (h0 : Nat) (nb : Int32) (sd : Int32) (wy : Int32) (wo : Nat) (sa : Int64) (ve : Nat) (fa : Int32) (l1 : Int32) (l2 : Int32) (l3 : Int32) (pw : Int64) (sl : Int64) : Met l my_U_exponentOf (tb_w my_U_exponentOf mb_U_exponentOf 5 (some .long)) ({ frames := 2, cells := 0, slots := 0, locals := 53 }) (wk_P [.ref h0, .long pw, .long sl] G ct [(h0, .inr (1, [.int nb, .int sd, .int wy, .long (lN wo), .long sa, .long (lN ve), .int fa, .int l1, .int l2, .int l3]))] sz) (vp_Sl (fun r => r = lN (ex_n sl nb pw))) 0 0 (fun _ => False) := by
  refine Met.ofW (cc := mb_U_exponentOf) (maxL := 5) (ret := (some .long)) (by decide) rfl ?_
  intro p e s m args below meth c s₁ B hml hv
  obtain ⟨rfl, hsz, hP, hK, hD0⟩ := hv
  have hx := B.exec
  have hb := B.bytes
  have hr := B.returns
  have hts := atoms_spec (ws := tb_w my_U_exponentOf mb_U_exponentOf 5 (some .long)) B.pre
  have hw : ∀ w ∈ gt_tbl, w.before [.ref h0, .long pw, .long sl].toArray s = true := fun w h => hts w (List.mem_cons_of_mem _ h)
  have hown : s.vm.findClass cr_U = some m.cls := findClass_of_methodNamed B.named
  have hlocks := B.notSynchronized
  subst hsz
  have hD := hD0.self (sz := s.heap.size)
  generalize hAe : va_A [(h0, .inr (1, [.int nb, .int sd, .int wy, .long (lN wo), .long sa, .long (lN ve), .int fa, .int l1, .int l2, .int l3]))] s.heap.size = A at hD ⊢
  have hA : ∀ q : Nat, s.heap.size ≤ q → A q := fun q h => by rw [← hAe]; exact Or.inr h
  have hS : va_S A s.heap s.heap [] := va_S.rf
  have hP : va_P G classes [(h0, .inr (1, [.int nb, .int sd, .int wy, .long (lN wo), .long sa, .long (lN ve), .int fa, .int l1, .int l2, .int l3]))] s.heap := hP
  have hl := lv_entry ([.ref h0, .long pw, .long sl]) (n := 5) (Nat.le_of_ble_eq_true rfl)
  rw [lg_entry_eq]
  generalize (lg_sl ([.ref h0, .long pw, .long sl]) ++ List.replicate (5 - (lg_sl ([.ref h0, .long pw, .long sl])).length) Slot.unset).toArray = ls at hl ⊢
  have hl : lv_has ls 5 [(0, .ref h0), (1, .long pw), (3, .long sl)] := hl
  refine lv_ldc2 (v := 2) hx hb hown (hw _ ww_122) d_U_exponentOf_0 ?_
  refine lv_lload_n hx hb d_U_exponentOf_3 rfl (lv_at hl 2 rfl) ?_
  refine lv_aload_n hx hb d_U_exponentOf_4 rfl (lv_at hl 0 rfl) ?_
  refine va_get (D := G) (ci := 1) (v := .int nb) (C := cr_U) (T := cf_U) (N := 10) hx hb hw uw_U hown hK.1 hP 0 rfl rfl 0 (by decide) (hw _ ww_32) (fun _ h9 => h9) rfl d_U_exponentOf_5 ?_
  refine lv_i2l (v := nb.toInt64) hx hb d_U_exponentOf_8 rfl ?_
  refine lv_lload_n hx hb d_U_exponentOf_9 rfl (lv_at hl 1 rfl) ?_
  refine vp_callSl (W.runS (As := [.long 2, .long sl, .long nb.toInt64, .long pw]) (rest := []) ⟨hx, hb, hml, hown, hts⟩ (c_G_of4 l 2 sl nb.toInt64 pw) (tb_S hw cy_G_of4 ww_123 ww_124 rfl rfl ⟨Nat.le_of_ble_eq_true rfl, Nat.le_of_ble_eq_true rfl⟩) preEq rfl rfl hl.1 rfl (lv_room (Nat.le_of_ble_eq_true rfl)) d_U_exponentOf_10 ⟨Nat.le_of_ble_eq_true rfl, Nat.le_of_ble_eq_true rfl⟩) (fun r45 er45 => ?_)
  subst er45
  refine vp_callSl (W.runS (As := [.long (dg_4 2 sl nb.toInt64 pw)]) (rest := []) ⟨hx, hb, hml, hown, hts⟩ (c_N_scalar l (dg_4 2 sl nb.toInt64 pw)) (tb_S hw cy_N_scalar ww_113 ww_114 rfl rfl ⟨Nat.le_of_ble_eq_true rfl, Nat.le_of_ble_eq_true rfl⟩) preEq rfl rfl hl.1 rfl (lv_room (Nat.le_of_ble_eq_true rfl)) d_U_exponentOf_13 ⟨Nat.le_of_ble_eq_true rfl, Nat.le_of_ble_eq_true rfl⟩) (fun r46 er46 => ?_)
  subst er46
  exact W.lret (v := lN (sc_n (dg_4 2 sl nb.toInt64 pw))) hx hb hr (fun t ht hW => ⟨lN (sc_n (dg_4 2 sl nb.toInt64 pw)), rfl, rfl, ht⟩) (fun q h => nomatch h) d_U_exponentOf_16
set_option maxHeartbeats 4000000 in
set_option maxRecDepth 100000 in
theorem c_U_wordOrFake (l : Launch) (G : va_G) (ct : Nat → ClassId) (sz : Nat) (h0 : Nat) (nb : Int32) (sd : Int32) (wy : Int32) (wo : Nat) (sa : Int64) (ve : Nat) (fa : Int32) (l1 : Int32) (l2 : Int32) (l3 : Int32) : Met l my_U_wordOrFake (tb_w my_U_wordOrFake mb_U_wordOrFake 1 (some .long)) ({ frames := 2, cells := 0, slots := 0, locals := 51 }) (wk_P [.ref h0] G ct [(h0, .inr (1, [.int nb, .int sd, .int wy, .long (lN wo), .long sa, .long (lN ve), .int fa, .int l1, .int l2, .int l3]))] sz) (vp_Sl (fun r => r = lN (us_wd sd nb wy wo))) 0 0 (fun _ => False) := by
  refine Met.ofW (cc := mb_U_wordOrFake) (maxL := 1) (ret := (some .long)) (by decide) rfl ?_
  intro p e s m args below meth c s₁ B hml hv
  obtain ⟨rfl, hsz, hP, hK, hD0⟩ := hv
  have hx := B.exec
  have hb := B.bytes
  have hr := B.returns
  have hts := atoms_spec (ws := tb_w my_U_wordOrFake mb_U_wordOrFake 1 (some .long)) B.pre
  have hw : ∀ w ∈ gt_tbl, w.before [.ref h0].toArray s = true := fun w h => hts w (List.mem_cons_of_mem _ h)
  have hown : s.vm.findClass cr_U = some m.cls := findClass_of_methodNamed B.named
  have hlocks := B.notSynchronized
  subst hsz
  have hD := hD0.self (sz := s.heap.size)
  generalize hAe : va_A [(h0, .inr (1, [.int nb, .int sd, .int wy, .long (lN wo), .long sa, .long (lN ve), .int fa, .int l1, .int l2, .int l3]))] s.heap.size = A at hD ⊢
  have hA : ∀ q : Nat, s.heap.size ≤ q → A q := fun q h => by rw [← hAe]; exact Or.inr h
  have hS : va_S A s.heap s.heap [] := va_S.rf
  have hP : va_P G classes [(h0, .inr (1, [.int nb, .int sd, .int wy, .long (lN wo), .long sa, .long (lN ve), .int fa, .int l1, .int l2, .int l3]))] s.heap := hP
  have hl := lv_entry ([.ref h0]) (n := 1) (Nat.le_of_ble_eq_true rfl)
  rw [lg_entry_eq]
  generalize (lg_sl ([.ref h0]) ++ List.replicate (1 - (lg_sl ([.ref h0])).length) Slot.unset).toArray = ls at hl ⊢
  have hl : lv_has ls 1 [(0, .ref h0)] := hl
  refine lv_aload_n hx hb d_U_wordOrFake_0 rfl (lv_at hl 0 rfl) ?_
  refine va_get (D := G) (ci := 1) (v := .int wy) (C := cr_U) (T := cf_U) (N := 10) hx hb hw uw_U hown hK.1 hP 0 rfl rfl 2 (by decide) (hw _ ww_35) (fun _ h9 => h9) rfl d_U_wordOrFake_1 ?_
  refine lv_if_ne (tgt := 14) hx hb d_U_wordOrFake_4 (by decide) (fun h47 => ?_) (fun h47 => ?_)
  · refine lv_ldc2 (v := 3) hx hb hown (hw _ ww_394) d_U_wordOrFake_14 ?_
    refine lv_aload_n hx hb d_U_wordOrFake_17 rfl (lv_at hl 0 rfl) ?_
    refine va_get (D := G) (ci := 1) (v := .int sd) (C := cr_U) (T := cf_U) (N := 10) hx hb hw uw_U hown hK.1 hP 0 rfl rfl 1 (by decide) (hw _ ww_34) (fun _ h9 => h9) rfl d_U_wordOrFake_18 ?_
    refine lv_i2l (v := sd.toInt64) hx hb d_U_wordOrFake_21 rfl ?_
    refine lv_aload_n hx hb d_U_wordOrFake_22 rfl (lv_at hl 0 rfl) ?_
    refine va_get (D := G) (ci := 1) (v := .int nb) (C := cr_U) (T := cf_U) (N := 10) hx hb hw uw_U hown hK.1 hP 0 rfl rfl 0 (by decide) (hw _ ww_32) (fun _ h9 => h9) rfl d_U_wordOrFake_23 ?_
    refine lv_i2l (v := nb.toInt64) hx hb d_U_wordOrFake_26 rfl ?_
    refine vp_callSl (W.runS (As := [.long 3, .long sd.toInt64, .long nb.toInt64]) (rest := []) ⟨hx, hb, hml, hown, hts⟩ (c_G_of3 l 3 sd.toInt64 nb.toInt64) (tb_S hw cy_G_of3 ww_100 ww_101 rfl rfl ⟨Nat.le_of_ble_eq_true rfl, Nat.le_of_ble_eq_true rfl⟩) preEq rfl rfl hl.1 rfl (lv_room (Nat.le_of_ble_eq_true rfl)) d_U_wordOrFake_27 ⟨Nat.le_of_ble_eq_true rfl, Nat.le_of_ble_eq_true rfl⟩) (fun r48 er48 => ?_)
    subst er48
    refine vp_callSl (W.runS (As := [.long (dg_3 3 sd.toInt64 nb.toInt64)]) (rest := []) ⟨hx, hb, hml, hown, hts⟩ (c_N_scalar l (dg_3 3 sd.toInt64 nb.toInt64)) (tb_S hw cy_N_scalar ww_113 ww_114 rfl rfl ⟨Nat.le_of_ble_eq_true rfl, Nat.le_of_ble_eq_true rfl⟩) preEq rfl rfl hl.1 rfl (lv_room (Nat.le_of_ble_eq_true rfl)) d_U_wordOrFake_30 ⟨Nat.le_of_ble_eq_true rfl, Nat.le_of_ble_eq_true rfl⟩) (fun r49 er49 => ?_)
    subst er49
    exact W.lret (v := lN (sc_n (dg_3 3 sd.toInt64 nb.toInt64))) hx hb hr (fun t ht hW => ⟨lN (sc_n (dg_3 3 sd.toInt64 nb.toInt64)), rfl, (by unfold us_wd; rw [if_neg h47]), ht⟩) (fun q h => nomatch h) d_U_wordOrFake_33
  · refine lv_aload_n hx hb d_U_wordOrFake_7 rfl (lv_at hl 0 rfl) ?_
    refine va_get (D := G) (ci := 1) (v := .long (lN wo)) (C := cr_U) (T := cf_U) (N := 10) hx hb hw uw_U hown hK.1 hP 0 rfl rfl 3 (by decide) (hw _ ww_37) (fun _ h9 => h9) rfl d_U_wordOrFake_8 ?_
    refine lv_goto (tgt := 33) hx hb d_U_wordOrFake_11 (by decide) ?_
    exact W.lret (v := lN wo) hx hb hr (fun t ht hW => ⟨lN wo, rfl, (by unfold us_wd; rw [if_pos h47]), ht⟩) (fun q h => nomatch h) d_U_wordOrFake_33
set_option maxHeartbeats 4000000 in
set_option maxRecDepth 100000 in
theorem c_U_saltOrFake (l : Launch) (G : va_G) (ct : Nat → ClassId) (sz : Nat) (h0 : Nat) (nb : Int32) (sd : Int32) (wy : Int32) (wo : Nat) (sa : Int64) (ve : Nat) (fa : Int32) (l1 : Int32) (l2 : Int32) (l3 : Int32) : Met l my_U_saltOrFake (tb_w my_U_saltOrFake mb_U_saltOrFake 1 (some .long)) ({ frames := 2, cells := 0, slots := 0, locals := 51 }) (wk_P [.ref h0] G ct [(h0, .inr (1, [.int nb, .int sd, .int wy, .long (lN wo), .long sa, .long (lN ve), .int fa, .int l1, .int l2, .int l3]))] sz) (vp_Sl (fun r => r = us_sa sd nb wy sa)) 0 0 (fun _ => False) := by
  refine Met.ofW (cc := mb_U_saltOrFake) (maxL := 1) (ret := (some .long)) (by decide) rfl ?_
  intro p e s m args below meth c s₁ B hml hv
  obtain ⟨rfl, hsz, hP, hK, hD0⟩ := hv
  have hx := B.exec
  have hb := B.bytes
  have hr := B.returns
  have hts := atoms_spec (ws := tb_w my_U_saltOrFake mb_U_saltOrFake 1 (some .long)) B.pre
  have hw : ∀ w ∈ gt_tbl, w.before [.ref h0].toArray s = true := fun w h => hts w (List.mem_cons_of_mem _ h)
  have hown : s.vm.findClass cr_U = some m.cls := findClass_of_methodNamed B.named
  have hlocks := B.notSynchronized
  subst hsz
  have hD := hD0.self (sz := s.heap.size)
  generalize hAe : va_A [(h0, .inr (1, [.int nb, .int sd, .int wy, .long (lN wo), .long sa, .long (lN ve), .int fa, .int l1, .int l2, .int l3]))] s.heap.size = A at hD ⊢
  have hA : ∀ q : Nat, s.heap.size ≤ q → A q := fun q h => by rw [← hAe]; exact Or.inr h
  have hS : va_S A s.heap s.heap [] := va_S.rf
  have hP : va_P G classes [(h0, .inr (1, [.int nb, .int sd, .int wy, .long (lN wo), .long sa, .long (lN ve), .int fa, .int l1, .int l2, .int l3]))] s.heap := hP
  have hl := lv_entry ([.ref h0]) (n := 1) (Nat.le_of_ble_eq_true rfl)
  rw [lg_entry_eq]
  generalize (lg_sl ([.ref h0]) ++ List.replicate (1 - (lg_sl ([.ref h0])).length) Slot.unset).toArray = ls at hl ⊢
  have hl : lv_has ls 1 [(0, .ref h0)] := hl
  refine lv_aload_n hx hb d_U_saltOrFake_0 rfl (lv_at hl 0 rfl) ?_
  refine va_get (D := G) (ci := 1) (v := .int wy) (C := cr_U) (T := cf_U) (N := 10) hx hb hw uw_U hown hK.1 hP 0 rfl rfl 2 (by decide) (hw _ ww_35) (fun _ h9 => h9) rfl d_U_saltOrFake_1 ?_
  refine lv_iconst (v := 1) hx hb d_U_saltOrFake_4 (by decide) ?_
  refine lv_icmp_ne (tgt := 15) hx hb d_U_saltOrFake_5 (by decide) (fun h50 => ?_) (fun h50 => ?_)
  · refine lv_ldc2 (v := 4) hx hb hown (hw _ ww_117) d_U_saltOrFake_15 ?_
    refine lv_aload_n hx hb d_U_saltOrFake_18 rfl (lv_at hl 0 rfl) ?_
    refine va_get (D := G) (ci := 1) (v := .int sd) (C := cr_U) (T := cf_U) (N := 10) hx hb hw uw_U hown hK.1 hP 0 rfl rfl 1 (by decide) (hw _ ww_34) (fun _ h9 => h9) rfl d_U_saltOrFake_19 ?_
    refine lv_i2l (v := sd.toInt64) hx hb d_U_saltOrFake_22 rfl ?_
    refine lv_aload_n hx hb d_U_saltOrFake_23 rfl (lv_at hl 0 rfl) ?_
    refine va_get (D := G) (ci := 1) (v := .int nb) (C := cr_U) (T := cf_U) (N := 10) hx hb hw uw_U hown hK.1 hP 0 rfl rfl 0 (by decide) (hw _ ww_32) (fun _ h9 => h9) rfl d_U_saltOrFake_24 ?_
    refine lv_i2l (v := nb.toInt64) hx hb d_U_saltOrFake_27 rfl ?_
    refine vp_callSl (W.runS (As := [.long 4, .long sd.toInt64, .long nb.toInt64]) (rest := []) ⟨hx, hb, hml, hown, hts⟩ (c_G_of3 l 4 sd.toInt64 nb.toInt64) (tb_S hw cy_G_of3 ww_100 ww_101 rfl rfl ⟨Nat.le_of_ble_eq_true rfl, Nat.le_of_ble_eq_true rfl⟩) preEq rfl rfl hl.1 rfl (lv_room (Nat.le_of_ble_eq_true rfl)) d_U_saltOrFake_28 ⟨Nat.le_of_ble_eq_true rfl, Nat.le_of_ble_eq_true rfl⟩) (fun r51 er51 => ?_)
    subst er51
    exact W.lret (v := dg_3 4 sd.toInt64 nb.toInt64) hx hb hr (fun t ht hW => ⟨dg_3 4 sd.toInt64 nb.toInt64, rfl, (by unfold us_sa; rw [if_neg h50]), ht⟩) (fun q h => nomatch h) d_U_saltOrFake_31
  · refine lv_aload_n hx hb d_U_saltOrFake_8 rfl (lv_at hl 0 rfl) ?_
    refine va_get (D := G) (ci := 1) (v := .long sa) (C := cr_U) (T := cf_U) (N := 10) hx hb hw uw_U hown hK.1 hP 0 rfl rfl 4 (by decide) (hw _ ww_38) (fun _ h9 => h9) rfl d_U_saltOrFake_9 ?_
    refine lv_goto (tgt := 31) hx hb d_U_saltOrFake_12 (by decide) ?_
    exact W.lret (v := sa) hx hb hr (fun t ht hW => ⟨sa, rfl, (by unfold us_sa; rw [if_pos h50]), ht⟩) (fun q h => nomatch h) d_U_saltOrFake_31
set_option maxHeartbeats 4000000 in
set_option maxRecDepth 100000 in
theorem c_U_verifierOrFake (l : Launch) (G : va_G) (ct : Nat → ClassId) (sz : Nat) (h0 : Nat) (nb : Int32) (sd : Int32) (wy : Int32) (wo : Nat) (sa : Int64) (ve : Nat) (fa : Int32) (l1 : Int32) (l2 : Int32) (l3 : Int32) : Met l my_U_verifierOrFake (tb_w my_U_verifierOrFake mb_U_verifierOrFake 1 (some .long)) ({ frames := 2, cells := 0, slots := 0, locals := 51 }) (wk_P [.ref h0] G ct [(h0, .inr (1, [.int nb, .int sd, .int wy, .long (lN wo), .long sa, .long (lN ve), .int fa, .int l1, .int l2, .int l3]))] sz) (vp_Sl (fun r => r = lN (us_ve sd nb wy ve))) 0 0 (fun _ => False) := by
  refine Met.ofW (cc := mb_U_verifierOrFake) (maxL := 1) (ret := (some .long)) (by decide) rfl ?_
  intro p e s m args below meth c s₁ B hml hv
  obtain ⟨rfl, hsz, hP, hK, hD0⟩ := hv
  have hx := B.exec
  have hb := B.bytes
  have hr := B.returns
  have hts := atoms_spec (ws := tb_w my_U_verifierOrFake mb_U_verifierOrFake 1 (some .long)) B.pre
  have hw : ∀ w ∈ gt_tbl, w.before [.ref h0].toArray s = true := fun w h => hts w (List.mem_cons_of_mem _ h)
  have hown : s.vm.findClass cr_U = some m.cls := findClass_of_methodNamed B.named
  have hlocks := B.notSynchronized
  subst hsz
  have hD := hD0.self (sz := s.heap.size)
  generalize hAe : va_A [(h0, .inr (1, [.int nb, .int sd, .int wy, .long (lN wo), .long sa, .long (lN ve), .int fa, .int l1, .int l2, .int l3]))] s.heap.size = A at hD ⊢
  have hA : ∀ q : Nat, s.heap.size ≤ q → A q := fun q h => by rw [← hAe]; exact Or.inr h
  have hS : va_S A s.heap s.heap [] := va_S.rf
  have hP : va_P G classes [(h0, .inr (1, [.int nb, .int sd, .int wy, .long (lN wo), .long sa, .long (lN ve), .int fa, .int l1, .int l2, .int l3]))] s.heap := hP
  have hl := lv_entry ([.ref h0]) (n := 1) (Nat.le_of_ble_eq_true rfl)
  rw [lg_entry_eq]
  generalize (lg_sl ([.ref h0]) ++ List.replicate (1 - (lg_sl ([.ref h0])).length) Slot.unset).toArray = ls at hl ⊢
  have hl : lv_has ls 1 [(0, .ref h0)] := hl
  refine lv_aload_n hx hb d_U_verifierOrFake_0 rfl (lv_at hl 0 rfl) ?_
  refine va_get (D := G) (ci := 1) (v := .int wy) (C := cr_U) (T := cf_U) (N := 10) hx hb hw uw_U hown hK.1 hP 0 rfl rfl 2 (by decide) (hw _ ww_35) (fun _ h9 => h9) rfl d_U_verifierOrFake_1 ?_
  refine lv_iconst (v := 1) hx hb d_U_verifierOrFake_4 (by decide) ?_
  refine lv_icmp_ne (tgt := 13) hx hb d_U_verifierOrFake_5 (by decide) (fun h52 => ?_) (fun h52 => ?_)
  · refine lv_ldc2 (v := 4) hx hb hown (hw _ ww_117) d_U_verifierOrFake_13 ?_
    refine lv_ldc2 (v := 5) hx hb hown (hw _ ww_399) d_U_verifierOrFake_16 ?_
    refine lv_aload_n hx hb d_U_verifierOrFake_19 rfl (lv_at hl 0 rfl) ?_
    refine va_get (D := G) (ci := 1) (v := .int sd) (C := cr_U) (T := cf_U) (N := 10) hx hb hw uw_U hown hK.1 hP 0 rfl rfl 1 (by decide) (hw _ ww_34) (fun _ h9 => h9) rfl d_U_verifierOrFake_20 ?_
    refine lv_i2l (v := sd.toInt64) hx hb d_U_verifierOrFake_23 rfl ?_
    refine lv_aload_n hx hb d_U_verifierOrFake_24 rfl (lv_at hl 0 rfl) ?_
    refine va_get (D := G) (ci := 1) (v := .int nb) (C := cr_U) (T := cf_U) (N := 10) hx hb hw uw_U hown hK.1 hP 0 rfl rfl 0 (by decide) (hw _ ww_32) (fun _ h9 => h9) rfl d_U_verifierOrFake_25 ?_
    refine lv_i2l (v := nb.toInt64) hx hb d_U_verifierOrFake_28 rfl ?_
    refine vp_callSl (W.runS (As := [.long 5, .long sd.toInt64, .long nb.toInt64]) (rest := [.long 4]) ⟨hx, hb, hml, hown, hts⟩ (c_G_of3 l 5 sd.toInt64 nb.toInt64) (tb_S hw cy_G_of3 ww_100 ww_101 rfl rfl ⟨Nat.le_of_ble_eq_true rfl, Nat.le_of_ble_eq_true rfl⟩) preEq rfl rfl hl.1 rfl (lv_room (Nat.le_of_ble_eq_true rfl)) d_U_verifierOrFake_29 ⟨Nat.le_of_ble_eq_true rfl, Nat.le_of_ble_eq_true rfl⟩) (fun r53 er53 => ?_)
    subst er53
    refine vp_callSl (W.runS (As := [.long (dg_3 5 sd.toInt64 nb.toInt64)]) (rest := [.long 4]) ⟨hx, hb, hml, hown, hts⟩ (c_N_scalar l (dg_3 5 sd.toInt64 nb.toInt64)) (tb_S hw cy_N_scalar ww_113 ww_114 rfl rfl ⟨Nat.le_of_ble_eq_true rfl, Nat.le_of_ble_eq_true rfl⟩) preEq rfl rfl hl.1 rfl (lv_room (Nat.le_of_ble_eq_true rfl)) d_U_verifierOrFake_32 ⟨Nat.le_of_ble_eq_true rfl, Nat.le_of_ble_eq_true rfl⟩) (fun r54 er54 => ?_)
    subst er54
    refine vp_callSl (W.runS (As := [.long (lN 4), .long (lN (sc_n (dg_3 5 sd.toInt64 nb.toInt64)))]) (rest := []) ⟨hx, hb, hml, hown, hts⟩ (c_N_power l 4 (sc_n (dg_3 5 sd.toInt64 nb.toInt64)) (by first | assumption | exact pw_lt _ _ | exact Nat.mod_lt _ pq_pos | exact qs_P (by assumption) | decide) (by first | assumption | exact sc_30 _ | exact qs_30 (by assumption) | exact qz_lt _ | decide | omega)) (tb_S hw cy_N_power ww_126 ww_127 rfl rfl ⟨Nat.le_of_ble_eq_true rfl, Nat.le_of_ble_eq_true rfl⟩) preEq rfl rfl hl.1 rfl (lv_room (Nat.le_of_ble_eq_true rfl)) d_U_verifierOrFake_35 ⟨Nat.le_of_ble_eq_true rfl, Nat.le_of_ble_eq_true rfl⟩) (fun r55 er55 => ?_)
    subst er55
    exact W.lret (v := lN (pw_m 4 (sc_n (dg_3 5 sd.toInt64 nb.toInt64)))) hx hb hr (fun t ht hW => ⟨lN (pw_m 4 (sc_n (dg_3 5 sd.toInt64 nb.toInt64))), rfl, (by unfold us_ve; rw [if_neg h52]), ht⟩) (fun q h => nomatch h) d_U_verifierOrFake_38
  · refine lv_aload_n hx hb d_U_verifierOrFake_8 rfl (lv_at hl 0 rfl) ?_
    refine va_get (D := G) (ci := 1) (v := .long (lN ve)) (C := cr_U) (T := cf_U) (N := 10) hx hb hw uw_U hown hK.1 hP 0 rfl rfl 5 (by decide) (hw _ ww_39) (fun _ h9 => h9) rfl d_U_verifierOrFake_9 ?_
    exact W.lret (v := lN ve) hx hb hr (fun t ht hW => ⟨lN ve, rfl, (by unfold us_ve; rw [if_pos h52]), ht⟩) (fun q h => nomatch h) d_U_verifierOrFake_12
set_option maxHeartbeats 4000000 in
set_option maxRecDepth 100000 in
theorem c_U_addFailure (l : Launch) (G : va_G) (ct : Nat → ClassId) (sz : Nat) (h0 : Nat) (nb : Int32) (sd : Int32) (wy : Int32) (wo : Nat) (sa : Int64) (ve : Nat) (fa : Int32) (l1 : Int32) (l2 : Int32) (l3 : Int32) (ck : Int32) : Met l my_U_addFailure (tb_w my_U_addFailure mb_U_addFailure 2 none) ({ frames := 0, cells := 0, slots := 0, locals := 0 }) (wk_P [.ref h0, .int ck] G ct [(h0, .inr (1, [.int nb, .int sd, .int wy, .long (lN wo), .long sa, .long (lN ve), .int fa, .int l1, .int l2, .int l3]))] sz) (wk_Q (wk_ov (S := Unit) (fun _ => True)) (fun _ : Unit => [(h0, .inr (1, [.int nb, .int sd, .int wy, .long (lN wo), .long sa, .long (lN ve), .int (fa + 1), .int ck, .int l1, .int l2]))]) G (va_A [(h0, .inr (1, [.int nb, .int sd, .int wy, .long (lN wo), .long sa, .long (lN ve), .int fa, .int l1, .int l2, .int l3]))] sz)) 0 0 (va_A [(h0, .inr (1, [.int nb, .int sd, .int wy, .long (lN wo), .long sa, .long (lN ve), .int fa, .int l1, .int l2, .int l3]))] sz) := by
  refine Met.ofW (cc := mb_U_addFailure) (maxL := 2) (ret := none) (by decide) rfl ?_
  intro p e s m args below meth c s₁ B hml hv
  obtain ⟨rfl, hsz, hP, hK, hD0⟩ := hv
  have hx := B.exec
  have hb := B.bytes
  have hr := B.returns
  have hts := atoms_spec (ws := tb_w my_U_addFailure mb_U_addFailure 2 none) B.pre
  have hw : ∀ w ∈ gt_tbl, w.before [.ref h0, .int ck].toArray s = true := fun w h => hts w (List.mem_cons_of_mem _ h)
  have hown : s.vm.findClass cr_U = some m.cls := findClass_of_methodNamed B.named
  have hlocks := B.notSynchronized
  subst hsz
  have hD := hD0.self (sz := s.heap.size)
  generalize hAe : va_A [(h0, .inr (1, [.int nb, .int sd, .int wy, .long (lN wo), .long sa, .long (lN ve), .int fa, .int l1, .int l2, .int l3]))] s.heap.size = A at hD ⊢
  have hA : ∀ q : Nat, s.heap.size ≤ q → A q := fun q h => by rw [← hAe]; exact Or.inr h
  have hS : va_S A s.heap s.heap [] := va_S.rf
  have hP : va_P G classes [(h0, .inr (1, [.int nb, .int sd, .int wy, .long (lN wo), .long sa, .long (lN ve), .int fa, .int l1, .int l2, .int l3]))] s.heap := hP
  have hl := lv_entry ([.ref h0, .int ck]) (n := 2) (Nat.le_of_ble_eq_true rfl)
  rw [lg_entry_eq]
  generalize (lg_sl ([.ref h0, .int ck]) ++ List.replicate (2 - (lg_sl ([.ref h0, .int ck])).length) Slot.unset).toArray = ls at hl ⊢
  have hl : lv_has ls 2 [(0, .ref h0), (1, .int ck)] := hl
  refine lv_aload_n hx hb d_U_addFailure_0 rfl (lv_at hl 0 rfl) ?_
  refine lv_aload_n hx hb d_U_addFailure_1 rfl (lv_at hl 0 rfl) ?_
  refine va_get (D := G) (ci := 1) (v := .int l2) (C := cr_U) (T := cf_U) (N := 10) hx hb hw uw_U hown hK.1 hP 0 rfl rfl 8 (by decide) (hw _ ww_43) (fun _ h9 => h9) rfl d_U_addFailure_2 ?_
  refine va_put (D := G) (ci := 1) (v := .int l2) (ty := .int) (C := cr_U) (T := cf_U) (N := 10) hx hb hw uw_U ct_U ct_U_ok ct_U_nm hown hK.1 hP hD hS 0 rfl rfl 9 (by decide) (hw _ ww_44) (fun _ h9 => h9) rfl (by decide +kernel) rfl rfl (Nat.le_of_ble_eq_true rfl) d_U_addFailure_5 (fun H locs hP hD hS => ?_)
  have hP : va_P G classes [(h0, .inr (1, [.int nb, .int sd, .int wy, .long (lN wo), .long sa, .long (lN ve), .int fa, .int l1, .int l2, .int l2]))] H := hP
  have hD : va_D A [(h0, .inr (1, [.int nb, .int sd, .int wy, .long (lN wo), .long sa, .long (lN ve), .int fa, .int l1, .int l2, .int l2]))] := hD
  refine lv_aload_n hx hb d_U_addFailure_8 rfl (lv_at hl 0 rfl) ?_
  refine lv_aload_n hx hb d_U_addFailure_9 rfl (lv_at hl 0 rfl) ?_
  refine va_get (D := G) (ci := 1) (v := .int l1) (C := cr_U) (T := cf_U) (N := 10) hx hb hw uw_U hown hK.1 hP 0 rfl rfl 7 (by decide) (hw _ ww_42) (fun _ h9 => h9) rfl d_U_addFailure_10 ?_
  refine va_put (D := G) (ci := 1) (v := .int l1) (ty := .int) (C := cr_U) (T := cf_U) (N := 10) hx hb hw uw_U ct_U ct_U_ok ct_U_nm hown hK.1 hP hD hS 0 rfl rfl 8 (by decide) (hw _ ww_43) (fun _ h9 => h9) rfl (by decide +kernel) rfl rfl (Nat.le_of_ble_eq_true rfl) d_U_addFailure_13 (fun H locs hP hD hS => ?_)
  have hP : va_P G classes [(h0, .inr (1, [.int nb, .int sd, .int wy, .long (lN wo), .long sa, .long (lN ve), .int fa, .int l1, .int l1, .int l2]))] H := hP
  have hD : va_D A [(h0, .inr (1, [.int nb, .int sd, .int wy, .long (lN wo), .long sa, .long (lN ve), .int fa, .int l1, .int l1, .int l2]))] := hD
  refine lv_aload_n hx hb d_U_addFailure_16 rfl (lv_at hl 0 rfl) ?_
  refine lv_iload_n hx hb d_U_addFailure_17 rfl (lv_at hl 1 rfl) ?_
  refine va_put (D := G) (ci := 1) (v := .int ck) (ty := .int) (C := cr_U) (T := cf_U) (N := 10) hx hb hw uw_U ct_U ct_U_ok ct_U_nm hown hK.1 hP hD hS 0 rfl rfl 7 (by decide) (hw _ ww_42) (fun _ h9 => h9) rfl (by decide +kernel) rfl rfl (Nat.le_of_ble_eq_true rfl) d_U_addFailure_18 (fun H locs hP hD hS => ?_)
  have hP : va_P G classes [(h0, .inr (1, [.int nb, .int sd, .int wy, .long (lN wo), .long sa, .long (lN ve), .int fa, .int ck, .int l1, .int l2]))] H := hP
  have hD : va_D A [(h0, .inr (1, [.int nb, .int sd, .int wy, .long (lN wo), .long sa, .long (lN ve), .int fa, .int ck, .int l1, .int l2]))] := hD
  refine lv_aload_n hx hb d_U_addFailure_21 rfl (lv_at hl 0 rfl) ?_
  refine lv_dup hx hb d_U_addFailure_22 rfl ?_
  refine va_get (D := G) (ci := 1) (v := .int fa) (C := cr_U) (T := cf_U) (N := 10) hx hb hw uw_U hown hK.1 hP 0 rfl rfl 6 (by decide) (hw _ ww_41) (fun _ h9 => h9) rfl d_U_addFailure_23 ?_
  refine lv_iconst (v := 1) hx hb d_U_addFailure_26 (by decide) ?_
  refine lv_iadd hx hb d_U_addFailure_27 ?_
  refine va_put (D := G) (ci := 1) (v := .int (fa + 1)) (ty := .int) (C := cr_U) (T := cf_U) (N := 10) hx hb hw uw_U ct_U ct_U_ok ct_U_nm hown hK.1 hP hD hS 0 rfl rfl 6 (by decide) (hw _ ww_41) (fun _ h9 => h9) rfl (by decide +kernel) rfl rfl (Nat.le_of_ble_eq_true rfl) d_U_addFailure_28 (fun H locs hP hD hS => ?_)
  have hP : va_P G classes [(h0, .inr (1, [.int nb, .int sd, .int wy, .long (lN wo), .long sa, .long (lN ve), .int (fa + 1), .int ck, .int l1, .int l2]))] H := hP
  have hD : va_D A [(h0, .inr (1, [.int nb, .int sd, .int wy, .long (lN wo), .long sa, .long (lN ve), .int (fa + 1), .int ck, .int l1, .int l2]))] := hD
  exact W.vret hx hb hr (fun t ht hW => ⟨⟨(), ⟨rfl, trivial⟩, by rw [ht]; exact hP, hD⟩, hS.F ht⟩) hS.2.2 d_U_addFailure_31
set_option maxHeartbeats 4000000 in
set_option maxRecDepth 100000 in
theorem c_U_isBlockedAt (l : Launch) (G : va_G) (ct : Nat → ClassId) (sz : Nat) (h0 : Nat) (nb : Int32) (sd : Int32) (wy : Int32) (wo : Nat) (sa : Int64) (ve : Nat) (fa : Int32) (l1 : Int32) (l2 : Int32) (l3 : Int32) (ck : Int32) : Met l my_U_isBlockedAt (tb_w my_U_isBlockedAt mb_U_isBlockedAt 2 (some .boolean)) ({ frames := 0, cells := 0, slots := 0, locals := 0 }) (wk_P [.ref h0, .int ck] G ct [(h0, .inr (1, [.int nb, .int sd, .int wy, .long (lN wo), .long sa, .long (lN ve), .int fa, .int l1, .int l2, .int l3]))] sz) (vp_Si (fun r => r = (if us_bl fa l3 ck then 1 else 0))) 0 0 (fun _ => False) := by
  refine Met.ofW (cc := mb_U_isBlockedAt) (maxL := 2) (ret := (some .boolean)) (by decide) rfl ?_
  intro p e s m args below meth c s₁ B hml hv
  obtain ⟨rfl, hsz, hP, hK, hD0⟩ := hv
  have hx := B.exec
  have hb := B.bytes
  have hr := B.returns
  have hts := atoms_spec (ws := tb_w my_U_isBlockedAt mb_U_isBlockedAt 2 (some .boolean)) B.pre
  have hw : ∀ w ∈ gt_tbl, w.before [.ref h0, .int ck].toArray s = true := fun w h => hts w (List.mem_cons_of_mem _ h)
  have hown : s.vm.findClass cr_U = some m.cls := findClass_of_methodNamed B.named
  have hlocks := B.notSynchronized
  subst hsz
  have hD := hD0.self (sz := s.heap.size)
  generalize hAe : va_A [(h0, .inr (1, [.int nb, .int sd, .int wy, .long (lN wo), .long sa, .long (lN ve), .int fa, .int l1, .int l2, .int l3]))] s.heap.size = A at hD ⊢
  have hA : ∀ q : Nat, s.heap.size ≤ q → A q := fun q h => by rw [← hAe]; exact Or.inr h
  have hS : va_S A s.heap s.heap [] := va_S.rf
  have hP : va_P G classes [(h0, .inr (1, [.int nb, .int sd, .int wy, .long (lN wo), .long sa, .long (lN ve), .int fa, .int l1, .int l2, .int l3]))] s.heap := hP
  have hl := lv_entry ([.ref h0, .int ck]) (n := 2) (Nat.le_of_ble_eq_true rfl)
  rw [lg_entry_eq]
  generalize (lg_sl ([.ref h0, .int ck]) ++ List.replicate (2 - (lg_sl ([.ref h0, .int ck])).length) Slot.unset).toArray = ls at hl ⊢
  have hl : lv_has ls 2 [(0, .ref h0), (1, .int ck)] := hl
  refine lv_aload_n hx hb d_U_isBlockedAt_0 rfl (lv_at hl 0 rfl) ?_
  refine va_get (D := G) (ci := 1) (v := .int fa) (C := cr_U) (T := cf_U) (N := 10) hx hb hw uw_U hown hK.1 hP 0 rfl rfl 6 (by decide) (hw _ ww_41) (fun _ h9 => h9) rfl d_U_isBlockedAt_1 ?_
  refine lv_iconst (v := 3) hx hb d_U_isBlockedAt_4 (by decide) ?_
  refine lv_icmp_lt (tgt := 23) hx hb d_U_isBlockedAt_5 (by decide) (fun h56 => ?_) (fun h56 => ?_)
  · refine lv_iconst (v := 0) hx hb d_U_isBlockedAt_23 (by decide) ?_
    exact W.zret (v := 0) (ty := .boolean) hx hb hr rfl (fun t ht hW => ⟨0, rfl, (by rw [if_neg (fun q => (Int32.not_lt.mpr q.1) h56)]), ht⟩) (fun q h => nomatch h) d_U_isBlockedAt_24
  · refine lv_iload_n hx hb d_U_isBlockedAt_8 rfl (lv_at hl 1 rfl) ?_
    refine lv_aload_n hx hb d_U_isBlockedAt_9 rfl (lv_at hl 0 rfl) ?_
    refine va_get (D := G) (ci := 1) (v := .int l3) (C := cr_U) (T := cf_U) (N := 10) hx hb hw uw_U hown hK.1 hP 0 rfl rfl 9 (by decide) (hw _ ww_44) (fun _ h9 => h9) rfl d_U_isBlockedAt_10 ?_
    refine lv_isub hx hb d_U_isBlockedAt_13 ?_
    refine lv_bipush (v := 30) hx hb d_U_isBlockedAt_14 (by decide) ?_
    refine lv_icmp_ge (tgt := 23) hx hb d_U_isBlockedAt_16 (by decide) (fun h57 => ?_) (fun h57 => ?_)
    · refine lv_iconst (v := 0) hx hb d_U_isBlockedAt_23 (by decide) ?_
      exact W.zret (v := 0) (ty := .boolean) hx hb hr rfl (fun t ht hW => ⟨0, rfl, (by rw [if_neg (fun q => (Int32.not_le.mpr q.2) h57)]), ht⟩) (fun q h => nomatch h) d_U_isBlockedAt_24
    · refine lv_iconst (v := 1) hx hb d_U_isBlockedAt_19 (by decide) ?_
      refine lv_goto (tgt := 24) hx hb d_U_isBlockedAt_20 (by decide) ?_
      exact W.zret (v := 1) (ty := .boolean) hx hb hr rfl (fun t ht hW => ⟨1, rfl, (by rw [if_pos ⟨Int32.not_lt.mp h56, Int32.not_le.mp h57⟩]), ht⟩) (fun q h => nomatch h) d_U_isBlockedAt_24
set_option maxHeartbeats 4000000 in
set_option maxRecDepth 100000 in
theorem c_U_keepRecord (l : Launch) (G : va_G) (ct : Nat → ClassId) (sz : Nat) (h0 : Nat) (nb : Int32) (sd : Int32) (wy : Int32) (wo : Nat) (sa : Int64) (ve : Nat) (fa : Int32) (l1 : Int32) (l2 : Int32) (l3 : Int32) (nw : Int32) (pw : Int64) (sl : Int64) : Met l my_U_keepRecord (tb_w my_U_keepRecord mb_U_keepRecord 6 none) ({ frames := 3, cells := 0, slots := 0, locals := 77 }) (wk_P [.ref h0, .int nw, .long pw, .long sl] G ct [(h0, .inr (1, [.int nb, .int sd, .int wy, .long (lN wo), .long sa, .long (lN ve), .int fa, .int l1, .int l2, .int l3]))] sz) (wk_Q (wk_ov (S := Unit) (fun _ => True)) (fun _ : Unit => [(h0, .inr (1, [.int nb, .int sd, .int ((us_kp nb (wy, wo, sa, ve, fa, l1, l2, l3) nw pw sl).1), .long (lN (us_kp nb (wy, wo, sa, ve, fa, l1, l2, l3) nw pw sl).2.1), .long ((us_kp nb (wy, wo, sa, ve, fa, l1, l2, l3) nw pw sl).2.2.1), .long (lN (us_kp nb (wy, wo, sa, ve, fa, l1, l2, l3) nw pw sl).2.2.2.1), .int ((us_kp nb (wy, wo, sa, ve, fa, l1, l2, l3) nw pw sl).2.2.2.2.1), .int ((us_kp nb (wy, wo, sa, ve, fa, l1, l2, l3) nw pw sl).2.2.2.2.2.1), .int ((us_kp nb (wy, wo, sa, ve, fa, l1, l2, l3) nw pw sl).2.2.2.2.2.2.1), .int ((us_kp nb (wy, wo, sa, ve, fa, l1, l2, l3) nw pw sl).2.2.2.2.2.2.2)]))]) G (va_A [(h0, .inr (1, [.int nb, .int sd, .int wy, .long (lN wo), .long sa, .long (lN ve), .int fa, .int l1, .int l2, .int l3]))] sz)) 0 0 (va_A [(h0, .inr (1, [.int nb, .int sd, .int wy, .long (lN wo), .long sa, .long (lN ve), .int fa, .int l1, .int l2, .int l3]))] sz) := by
  refine Met.ofW (cc := mb_U_keepRecord) (maxL := 6) (ret := none) (by decide) rfl ?_
  intro p e s m args below meth c s₁ B hml hv
  obtain ⟨rfl, hsz, hP, hK, hD0⟩ := hv
  have hx := B.exec
  have hb := B.bytes
  have hr := B.returns
  have hts := atoms_spec (ws := tb_w my_U_keepRecord mb_U_keepRecord 6 none) B.pre
  have hw : ∀ w ∈ gt_tbl, w.before [.ref h0, .int nw, .long pw, .long sl].toArray s = true := fun w h => hts w (List.mem_cons_of_mem _ h)
  have hown : s.vm.findClass cr_U = some m.cls := findClass_of_methodNamed B.named
  have hlocks := B.notSynchronized
  subst hsz
  have hD := hD0.self (sz := s.heap.size)
  generalize hAe : va_A [(h0, .inr (1, [.int nb, .int sd, .int wy, .long (lN wo), .long sa, .long (lN ve), .int fa, .int l1, .int l2, .int l3]))] s.heap.size = A at hD ⊢
  have hA : ∀ q : Nat, s.heap.size ≤ q → A q := fun q h => by rw [← hAe]; exact Or.inr h
  have hS : va_S A s.heap s.heap [] := va_S.rf
  have hP : va_P G classes [(h0, .inr (1, [.int nb, .int sd, .int wy, .long (lN wo), .long sa, .long (lN ve), .int fa, .int l1, .int l2, .int l3]))] s.heap := hP
  have hl := lv_entry ([.ref h0, .int nw, .long pw, .long sl]) (n := 6) (Nat.le_of_ble_eq_true rfl)
  rw [lg_entry_eq]
  generalize (lg_sl ([.ref h0, .int nw, .long pw, .long sl]) ++ List.replicate (6 - (lg_sl ([.ref h0, .int nw, .long pw, .long sl])).length) Slot.unset).toArray = ls at hl ⊢
  have hl : lv_has ls 6 [(0, .ref h0), (1, .int nw), (2, .long pw), (4, .long sl)] := hl
  refine lv_aload_n hx hb d_U_keepRecord_0 rfl (lv_at hl 0 rfl) ?_
  refine lv_iload_n hx hb d_U_keepRecord_1 rfl (lv_at hl 1 rfl) ?_
  refine va_put (D := G) (ci := 1) (v := .int nw) (ty := .int) (C := cr_U) (T := cf_U) (N := 10) hx hb hw uw_U ct_U ct_U_ok ct_U_nm hown hK.1 hP hD hS 0 rfl rfl 2 (by decide) (hw _ ww_35) (fun _ h9 => h9) rfl (by decide +kernel) rfl rfl (Nat.le_of_ble_eq_true rfl) d_U_keepRecord_2 (fun H locs hP hD hS => ?_)
  have hP : va_P G classes [(h0, .inr (1, [.int nb, .int sd, .int nw, .long (lN wo), .long sa, .long (lN ve), .int fa, .int l1, .int l2, .int l3]))] H := hP
  have hD : va_D A [(h0, .inr (1, [.int nb, .int sd, .int nw, .long (lN wo), .long sa, .long (lN ve), .int fa, .int l1, .int l2, .int l3]))] := hD
  refine lv_iload_n hx hb d_U_keepRecord_5 rfl (lv_at hl 1 rfl) ?_
  refine lv_if_ne (tgt := 21) hx hb d_U_keepRecord_6 (by decide) (fun h58 => ?_) (fun h58 => ?_)
  · refine lv_aload_n hx hb d_U_keepRecord_21 rfl (lv_at hl 0 rfl) ?_
    refine lv_lload hx hb d_U_keepRecord_22 (lv_at hl 3 rfl) ?_
    refine va_put (D := G) (ci := 1) (v := .long sl) (ty := .long) (C := cr_U) (T := cf_U) (N := 10) hx hb hw uw_U ct_U ct_U_ok ct_U_nm hown hK.1 hP hD hS 0 rfl rfl 4 (by decide) (hw _ ww_38) (fun _ h9 => h9) rfl (by decide +kernel) rfl rfl (Nat.le_of_ble_eq_true rfl) d_U_keepRecord_24 (fun H locs hP hD hS => ?_)
    have hP : va_P G classes [(h0, .inr (1, [.int nb, .int sd, .int nw, .long (lN wo), .long sl, .long (lN ve), .int fa, .int l1, .int l2, .int l3]))] H := hP
    have hD : va_D A [(h0, .inr (1, [.int nb, .int sd, .int nw, .long (lN wo), .long sl, .long (lN ve), .int fa, .int l1, .int l2, .int l3]))] := hD
    refine lv_aload_n hx hb d_U_keepRecord_27 rfl (lv_at hl 0 rfl) ?_
    refine lv_ldc2 (v := 4) hx hb hown (hw _ ww_117) d_U_keepRecord_28 ?_
    refine lv_aload_n hx hb d_U_keepRecord_31 rfl (lv_at hl 0 rfl) ?_
    refine lv_lload_n hx hb d_U_keepRecord_32 rfl (lv_at hl 2 rfl) ?_
    refine lv_lload hx hb d_U_keepRecord_33 (lv_at hl 3 rfl) ?_
    have hPc : va_P G classes [(h0, .inr (1, [.int nb, .int sd, .int nw, .long (lN wo), .long sl, .long (lN ve), .int fa, .int l1, .int l2, .int l3]))] H := hP.sub [0] rfl
    have hDc := hD.sub (ws' := [(h0, .inr (1, [.int nb, .int sd, .int nw, .long (lN wo), .long sl, .long (lN ve), .int fa, .int l1, .int l2, .int l3]))]) [0] (by decide) rfl
    refine vp_callSl (W.runV (As := [.long pw, .long sl]) (rest := [.long 4, .ref h0]) ⟨hx, hb, hml, hown, hts⟩ (c_U_exponentOf l G ct H.size h0 nb sd nw wo sl ve fa l1 l2 l3 pw sl) (tb_V hw cy_U_exponentOf ww_118 ww_119 ww_120 rfl rfl ⟨Nat.le_of_ble_eq_true rfl, Nat.le_of_ble_eq_true rfl⟩) (wk_preV (ci := 1) (q0 := 0) hPc hK hDc rfl rfl) rfl rfl hl.1 rfl (lv_room (Nat.le_of_ble_eq_true rfl)) d_U_keepRecord_35 ⟨Nat.le_of_ble_eq_true rfl, Nat.le_of_ble_eq_true rfl⟩) (fun r59 er59 => ?_)
    subst er59
    refine vp_callSl (W.runS (As := [.long (lN 4), .long (lN (ex_n sl nb pw))]) (rest := [.ref h0]) ⟨hx, hb, hml, hown, hts⟩ (c_N_power l 4 (ex_n sl nb pw) (by first | assumption | exact pw_lt _ _ | exact Nat.mod_lt _ pq_pos | exact qs_P (by assumption) | decide) (by first | assumption | exact sc_30 _ | exact qs_30 (by assumption) | exact qz_lt _ | decide | omega)) (tb_S hw cy_N_power ww_126 ww_127 rfl rfl ⟨Nat.le_of_ble_eq_true rfl, Nat.le_of_ble_eq_true rfl⟩) preEq rfl rfl hl.1 rfl (lv_room (Nat.le_of_ble_eq_true rfl)) d_U_keepRecord_38 ⟨Nat.le_of_ble_eq_true rfl, Nat.le_of_ble_eq_true rfl⟩) (fun r60 er60 => ?_)
    subst er60
    refine va_put (D := G) (ci := 1) (v := .long (lN (pw_m 4 (ex_n sl nb pw)))) (ty := .long) (C := cr_U) (T := cf_U) (N := 10) hx hb hw uw_U ct_U ct_U_ok ct_U_nm hown hK.1 hP hD hS 0 rfl rfl 5 (by decide) (hw _ ww_39) (fun _ h9 => h9) rfl (by decide +kernel) rfl rfl (Nat.le_of_ble_eq_true rfl) d_U_keepRecord_41 (fun H locs hP hD hS => ?_)
    have hP : va_P G classes [(h0, .inr (1, [.int nb, .int sd, .int nw, .long (lN wo), .long sl, .long (lN (pw_m 4 (ex_n sl nb pw))), .int fa, .int l1, .int l2, .int l3]))] H := hP
    have hD : va_D A [(h0, .inr (1, [.int nb, .int sd, .int nw, .long (lN wo), .long sl, .long (lN (pw_m 4 (ex_n sl nb pw))), .int fa, .int l1, .int l2, .int l3]))] := hD
    have hkp : us_kp nb (wy, wo, sa, ve, fa, l1, l2, l3) nw pw sl = (nw, wo, sl, pw_m 4 (ex_n sl nb pw), fa, l1, l2, l3) := (by unfold us_kp; rw [if_neg h58])
    have hP : va_P G classes [(h0, .inr (1, [.int nb, .int sd, .int ((us_kp nb (wy, wo, sa, ve, fa, l1, l2, l3) nw pw sl).1), .long (lN (us_kp nb (wy, wo, sa, ve, fa, l1, l2, l3) nw pw sl).2.1), .long ((us_kp nb (wy, wo, sa, ve, fa, l1, l2, l3) nw pw sl).2.2.1), .long (lN (us_kp nb (wy, wo, sa, ve, fa, l1, l2, l3) nw pw sl).2.2.2.1), .int ((us_kp nb (wy, wo, sa, ve, fa, l1, l2, l3) nw pw sl).2.2.2.2.1), .int ((us_kp nb (wy, wo, sa, ve, fa, l1, l2, l3) nw pw sl).2.2.2.2.2.1), .int ((us_kp nb (wy, wo, sa, ve, fa, l1, l2, l3) nw pw sl).2.2.2.2.2.2.1), .int ((us_kp nb (wy, wo, sa, ve, fa, l1, l2, l3) nw pw sl).2.2.2.2.2.2.2)]))] H := by rw [hkp]; exact hP
    have hD : va_D A [(h0, .inr (1, [.int nb, .int sd, .int ((us_kp nb (wy, wo, sa, ve, fa, l1, l2, l3) nw pw sl).1), .long (lN (us_kp nb (wy, wo, sa, ve, fa, l1, l2, l3) nw pw sl).2.1), .long ((us_kp nb (wy, wo, sa, ve, fa, l1, l2, l3) nw pw sl).2.2.1), .long (lN (us_kp nb (wy, wo, sa, ve, fa, l1, l2, l3) nw pw sl).2.2.2.1), .int ((us_kp nb (wy, wo, sa, ve, fa, l1, l2, l3) nw pw sl).2.2.2.2.1), .int ((us_kp nb (wy, wo, sa, ve, fa, l1, l2, l3) nw pw sl).2.2.2.2.2.1), .int ((us_kp nb (wy, wo, sa, ve, fa, l1, l2, l3) nw pw sl).2.2.2.2.2.2.1), .int ((us_kp nb (wy, wo, sa, ve, fa, l1, l2, l3) nw pw sl).2.2.2.2.2.2.2)]))] := by rw [hkp]; exact hD
    exact W.vret hx hb hr (fun t ht hW => ⟨⟨(), ⟨rfl, trivial⟩, by rw [ht]; exact hP, hD⟩, hS.F ht⟩) hS.2.2 d_U_keepRecord_44
  · refine lv_aload_n hx hb d_U_keepRecord_9 rfl (lv_at hl 0 rfl) ?_
    refine lv_aload_n hx hb d_U_keepRecord_10 rfl (lv_at hl 0 rfl) ?_
    refine lv_lload_n hx hb d_U_keepRecord_11 rfl (lv_at hl 2 rfl) ?_
    have hPc : va_P G classes [(h0, .inr (1, [.int nb, .int sd, .int nw, .long (lN wo), .long sa, .long (lN ve), .int fa, .int l1, .int l2, .int l3]))] H := hP.sub [0] rfl
    have hDc := hD.sub (ws' := [(h0, .inr (1, [.int nb, .int sd, .int nw, .long (lN wo), .long sa, .long (lN ve), .int fa, .int l1, .int l2, .int l3]))]) [0] (by decide) rfl
    refine vp_callSl (W.runV (As := [.long pw]) (rest := [.ref h0]) ⟨hx, hb, hml, hown, hts⟩ (c_U_wordOf l G ct H.size h0 nb sd nw wo sa ve fa l1 l2 l3 pw) (tb_V hw cy_U_wordOf ww_96 ww_97 ww_98 rfl rfl ⟨Nat.le_of_ble_eq_true rfl, Nat.le_of_ble_eq_true rfl⟩) (wk_preV (ci := 1) (q0 := 0) hPc hK hDc rfl rfl) rfl rfl hl.1 rfl (lv_room (Nat.le_of_ble_eq_true rfl)) d_U_keepRecord_12 ⟨Nat.le_of_ble_eq_true rfl, Nat.le_of_ble_eq_true rfl⟩) (fun r61 er61 => ?_)
    subst er61
    refine va_put (D := G) (ci := 1) (v := .long (lN (wd_n nb pw))) (ty := .long) (C := cr_U) (T := cf_U) (N := 10) hx hb hw uw_U ct_U ct_U_ok ct_U_nm hown hK.1 hP hD hS 0 rfl rfl 3 (by decide) (hw _ ww_37) (fun _ h9 => h9) rfl (by decide +kernel) rfl rfl (Nat.le_of_ble_eq_true rfl) d_U_keepRecord_15 (fun H locs hP hD hS => ?_)
    have hP : va_P G classes [(h0, .inr (1, [.int nb, .int sd, .int nw, .long (lN (wd_n nb pw)), .long sa, .long (lN ve), .int fa, .int l1, .int l2, .int l3]))] H := hP
    have hD : va_D A [(h0, .inr (1, [.int nb, .int sd, .int nw, .long (lN (wd_n nb pw)), .long sa, .long (lN ve), .int fa, .int l1, .int l2, .int l3]))] := hD
    refine lv_goto (tgt := 44) hx hb d_U_keepRecord_18 (by decide) ?_
    have hkp : us_kp nb (wy, wo, sa, ve, fa, l1, l2, l3) nw pw sl = (nw, wd_n nb pw, sa, ve, fa, l1, l2, l3) := (by unfold us_kp; rw [if_pos h58])
    have hP : va_P G classes [(h0, .inr (1, [.int nb, .int sd, .int ((us_kp nb (wy, wo, sa, ve, fa, l1, l2, l3) nw pw sl).1), .long (lN (us_kp nb (wy, wo, sa, ve, fa, l1, l2, l3) nw pw sl).2.1), .long ((us_kp nb (wy, wo, sa, ve, fa, l1, l2, l3) nw pw sl).2.2.1), .long (lN (us_kp nb (wy, wo, sa, ve, fa, l1, l2, l3) nw pw sl).2.2.2.1), .int ((us_kp nb (wy, wo, sa, ve, fa, l1, l2, l3) nw pw sl).2.2.2.2.1), .int ((us_kp nb (wy, wo, sa, ve, fa, l1, l2, l3) nw pw sl).2.2.2.2.2.1), .int ((us_kp nb (wy, wo, sa, ve, fa, l1, l2, l3) nw pw sl).2.2.2.2.2.2.1), .int ((us_kp nb (wy, wo, sa, ve, fa, l1, l2, l3) nw pw sl).2.2.2.2.2.2.2)]))] H := by rw [hkp]; exact hP
    have hD : va_D A [(h0, .inr (1, [.int nb, .int sd, .int ((us_kp nb (wy, wo, sa, ve, fa, l1, l2, l3) nw pw sl).1), .long (lN (us_kp nb (wy, wo, sa, ve, fa, l1, l2, l3) nw pw sl).2.1), .long ((us_kp nb (wy, wo, sa, ve, fa, l1, l2, l3) nw pw sl).2.2.1), .long (lN (us_kp nb (wy, wo, sa, ve, fa, l1, l2, l3) nw pw sl).2.2.2.1), .int ((us_kp nb (wy, wo, sa, ve, fa, l1, l2, l3) nw pw sl).2.2.2.2.1), .int ((us_kp nb (wy, wo, sa, ve, fa, l1, l2, l3) nw pw sl).2.2.2.2.2.1), .int ((us_kp nb (wy, wo, sa, ve, fa, l1, l2, l3) nw pw sl).2.2.2.2.2.2.1), .int ((us_kp nb (wy, wo, sa, ve, fa, l1, l2, l3) nw pw sl).2.2.2.2.2.2.2)]))] := by rw [hkp]; exact hD
    exact W.vret hx hb hr (fun t ht hW => ⟨⟨(), ⟨rfl, trivial⟩, by rw [ht]; exact hP, hD⟩, hS.F ht⟩) hS.2.2 d_U_keepRecord_44
