theorem ww_3 : (Jvm.Cond.initialized "PakeDeskModel") ∈ gt_tbl := gt_m (List.mem_append_right _ (List.mem_append_left _ (List.mem_of_getElem? (i := 3) (by decide +kernel)))) (by decide)
theorem ww_640 : (Jvm.Cond.fieldLink "PakeDeskModel" (76 : Nat) "PakeDeskModel" "thrown" "I") ∈ gt_tbl := gt_m (List.mem_append_right _ (List.mem_append_right _ (List.mem_append_right _ (List.mem_append_left _ (List.mem_of_getElem? (i := 160) (by decide +kernel)))))) (by decide)
theorem ww_641 : (Jvm.Cond.fieldLink "PakeDeskModel" (72 : Nat) "PakeDeskModel" "seed" "J") ∈ gt_tbl := gt_m (List.mem_append_right _ (List.mem_append_right _ (List.mem_append_right _ (List.mem_append_left _ (List.mem_of_getElem? (i := 161) (by decide +kernel)))))) (by decide)
theorem ww_642 : (Jvm.Cond.fieldLink "PakeDeskModel" (145 : Nat) "PakeDeskModel" "now" "I") ∈ gt_tbl := gt_m (List.mem_append_right _ (List.mem_append_right _ (List.mem_append_right _ (List.mem_append_left _ (List.mem_of_getElem? (i := 162) (by decide +kernel)))))) (by decide)
theorem ww_643 : (Jvm.Cond.fieldLink "PakeDeskModel" (84 : Nat) "PakeDeskModel" "h" "J") ∈ gt_tbl := gt_m (List.mem_append_right _ (List.mem_append_right _ (List.mem_append_right _ (List.mem_append_left _ (List.mem_of_getElem? (i := 163) (by decide +kernel)))))) (by decide)
theorem ww_644 : (Jvm.Cond.fieldLink "PakeDeskModel" (7 : Nat) "PakeDeskModel" "ways" "[I") ∈ gt_tbl := gt_m (List.mem_append_right _ (List.mem_append_right _ (List.mem_append_right _ (List.mem_append_left _ (List.mem_of_getElem? (i := 164) (by decide +kernel)))))) (by decide)
theorem ww_646 : (Jvm.Cond.fieldLink "PakeDeskModel" (17 : Nat) "PakeDeskModel" "salts" "[J") ∈ gt_tbl := gt_m (List.mem_append_right _ (List.mem_append_right _ (List.mem_append_right _ (List.mem_append_left _ (List.mem_of_getElem? (i := 166) (by decide +kernel)))))) (by decide)
theorem ww_648 : (Jvm.Cond.fieldLink "PakeDeskModel" (23 : Nat) "PakeDeskModel" "fails" "[I") ∈ gt_tbl := gt_m (List.mem_append_right _ (List.mem_append_right _ (List.mem_append_right _ (List.mem_append_left _ (List.mem_of_getElem? (i := 168) (by decide +kernel)))))) (by decide)
theorem ww_651 : (Jvm.Cond.fieldLink "PakeDeskModel" (32 : Nat) "PakeDeskModel" "third" "[I") ∈ gt_tbl := gt_m (List.mem_append_right _ (List.mem_append_right _ (List.mem_append_right _ (List.mem_append_left _ (List.mem_of_getElem? (i := 171) (by decide +kernel)))))) (by decide)
theorem ww_652 : (Jvm.Cond.fieldLink "PakeDeskModel" (142 : Nat) "PakeDeskModel" "sessions" "I") ∈ gt_tbl := gt_m (List.mem_append_right _ (List.mem_append_right _ (List.mem_append_right _ (List.mem_append_left _ (List.mem_of_getElem? (i := 172) (by decide +kernel)))))) (by decide)
theorem ww_654 : (Jvm.Cond.fieldLink "PakeDeskModel" (39 : Nat) "PakeDeskModel" "wayOf" "[I") ∈ gt_tbl := gt_m (List.mem_append_right _ (List.mem_append_right _ (List.mem_append_right _ (List.mem_append_left _ (List.mem_of_getElem? (i := 174) (by decide +kernel)))))) (by decide)
theorem ww_655 : (Jvm.Cond.fieldLink "PakeDeskModel" (42 : Nat) "PakeDeskModel" "userOf" "[I") ∈ gt_tbl := gt_m (List.mem_append_right _ (List.mem_append_right _ (List.mem_append_right _ (List.mem_append_left _ (List.mem_of_getElem? (i := 175) (by decide +kernel)))))) (by decide)
theorem ww_656 : (Jvm.Cond.fieldLink "PakeDeskModel" (45 : Nat) "PakeDeskModel" "states" "[I") ∈ gt_tbl := gt_m (List.mem_append_right _ (List.mem_append_right _ (List.mem_append_right _ (List.mem_append_left _ (List.mem_of_getElem? (i := 176) (by decide +kernel)))))) (by decide)
theorem ww_657 : (Jvm.Cond.fieldLink "PakeDeskModel" (48 : Nat) "PakeDeskModel" "began" "[I") ∈ gt_tbl := gt_m (List.mem_append_right _ (List.mem_append_right _ (List.mem_append_right _ (List.mem_append_left _ (List.mem_of_getElem? (i := 177) (by decide +kernel)))))) (by decide)
theorem ww_658 : (Jvm.Cond.fieldLink "PakeDeskModel" (51 : Nat) "PakeDeskModel" "secrets" "[J") ∈ gt_tbl := gt_m (List.mem_append_right _ (List.mem_append_right _ (List.mem_append_right _ (List.mem_append_left _ (List.mem_of_getElem? (i := 178) (by decide +kernel)))))) (by decide)
theorem ww_664 : (Jvm.Cond.fieldLink "PakeDeskModel" (69 : Nat) "PakeDeskModel" "messages" "[J") ∈ gt_tbl := gt_m (List.mem_append_right _ (List.mem_append_right _ (List.mem_append_right _ (List.mem_append_left _ (List.mem_of_getElem? (i := 184) (by decide +kernel)))))) (by decide)
theorem ww_737 : (Jvm.Cond.methodLink "PakeDeskModel" (101 : Nat) ({ cls := "PakeDeskModel", name := "begin", desc := "(JJ)V" } : Jvm.MethodName)) ∈ gt_tbl := gt_m (List.mem_append_right _ (List.mem_append_right _ (List.mem_append_right _ (List.mem_append_right _ (List.mem_of_getElem? (i := 17) (by decide +kernel)))))) (by decide)
theorem ww_739 : (Jvm.Cond.instanceMethod ({ cls := "PakeDeskModel", name := "begin", desc := "(JJ)V" } : Jvm.MethodName)) ∈ gt_tbl := gt_m (List.mem_append_right _ (List.mem_append_right _ (List.mem_append_right _ (List.mem_append_right _ (List.mem_of_getElem? (i := 19) (by decide +kernel)))))) (by decide)
theorem ww_740 : (Jvm.Cond.code ({ cls := "PakeDeskModel", name := "begin", desc := "(JJ)V" } : Jvm.MethodName) prog_9_method_5_code (5 : Nat) (Option.none : Option Jvm.ClassFile.FieldType)) ∈ gt_tbl := gt_m (List.mem_append_right _ (List.mem_append_right _ (List.mem_append_right _ (List.mem_append_right _ (List.mem_of_getElem? (i := 20) (by decide +kernel)))))) (by decide)
theorem ww_741 : (Jvm.Cond.constantLong "PakeDeskModel" (91 : Nat) (1469598103934665603 : Int64)) ∈ gt_tbl := gt_m (List.mem_append_right _ (List.mem_append_right _ (List.mem_append_right _ (List.mem_append_right _ (List.mem_of_getElem? (i := 21) (by decide +kernel)))))) (by decide)
theorem ww_742 : (Jvm.Cond.methodLink "PakeDeskModel" (93 : Nat) ({ cls := "PakeDeskModel", name := "feed", desc := "(J)V" } : Jvm.MethodName)) ∈ gt_tbl := gt_m (List.mem_append_right _ (List.mem_append_right _ (List.mem_append_right _ (List.mem_append_right _ (List.mem_of_getElem? (i := 22) (by decide +kernel)))))) (by decide)
theorem ww_744 : (Jvm.Cond.instanceMethod ({ cls := "PakeDeskModel", name := "feed", desc := "(J)V" } : Jvm.MethodName)) ∈ gt_tbl := gt_m (List.mem_append_right _ (List.mem_append_right _ (List.mem_append_right _ (List.mem_append_right _ (List.mem_of_getElem? (i := 24) (by decide +kernel)))))) (by decide)
theorem ww_745 : (Jvm.Cond.code ({ cls := "PakeDeskModel", name := "feed", desc := "(J)V" } : Jvm.MethodName) prog_9_method_4_code (4 : Nat) (Option.none : Option Jvm.ClassFile.FieldType)) ∈ gt_tbl := gt_m (List.mem_append_right _ (List.mem_append_right _ (List.mem_append_right _ (List.mem_append_right _ (List.mem_of_getElem? (i := 25) (by decide +kernel)))))) (by decide)
theorem ww_746 : (Jvm.Cond.constantLong "PakeDeskModel" (87 : Nat) (255 : Int64)) ∈ gt_tbl := gt_m (List.mem_append_right _ (List.mem_append_right _ (List.mem_append_right _ (List.mem_append_right _ (List.mem_of_getElem? (i := 26) (by decide +kernel)))))) (by decide)
theorem ww_747 : (Jvm.Cond.constantLong "PakeDeskModel" (89 : Nat) (1099511628211 : Int64)) ∈ gt_tbl := gt_m (List.mem_append_right _ (List.mem_append_right _ (List.mem_append_right _ (List.mem_append_right _ (List.mem_of_getElem? (i := 27) (by decide +kernel)))))) (by decide)
theorem ww_748 : (Jvm.Cond.methodLink "PakeDeskModel" (105 : Nat) ({ cls := "PakeDeskModel", name := "digest", desc := "()J" } : Jvm.MethodName)) ∈ gt_tbl := gt_m (List.mem_append_right _ (List.mem_append_right _ (List.mem_append_right _ (List.mem_append_right _ (List.mem_of_getElem? (i := 28) (by decide +kernel)))))) (by decide)
theorem ww_750 : (Jvm.Cond.instanceMethod ({ cls := "PakeDeskModel", name := "digest", desc := "()J" } : Jvm.MethodName)) ∈ gt_tbl := gt_m (List.mem_append_right _ (List.mem_append_right _ (List.mem_append_right _ (List.mem_append_right _ (List.mem_of_getElem? (i := 30) (by decide +kernel)))))) (by decide)
theorem ww_751 : (Jvm.Cond.code ({ cls := "PakeDeskModel", name := "digest", desc := "()J" } : Jvm.MethodName) prog_9_method_6_code (3 : Nat) (Option.some Jvm.ClassFile.FieldType.long)) ∈ gt_tbl := gt_m (List.mem_append_right _ (List.mem_append_right _ (List.mem_append_right _ (List.mem_append_right _ (List.mem_of_getElem? (i := 31) (by decide +kernel)))))) (by decide)
theorem ww_752 : (Jvm.Cond.constantLong "PakeDeskModel" (97 : Nat) (-7046029254386353131 : Int64)) ∈ gt_tbl := gt_m (List.mem_append_right _ (List.mem_append_right _ (List.mem_append_right _ (List.mem_append_right _ (List.mem_of_getElem? (i := 32) (by decide +kernel)))))) (by decide)
theorem ww_753 : (Jvm.Cond.methodLink "PakeDeskModel" (109 : Nat) ({ cls := "PakeDeskModel", name := "scalar", desc := "(J)J" } : Jvm.MethodName)) ∈ gt_tbl := gt_m (List.mem_append_right _ (List.mem_append_right _ (List.mem_append_right _ (List.mem_append_right _ (List.mem_of_getElem? (i := 33) (by decide +kernel)))))) (by decide)
theorem ww_754 : (Jvm.Cond.static ({ cls := "PakeDeskModel", name := "scalar", desc := "(J)J" } : Jvm.MethodName)) ∈ gt_tbl := gt_m (List.mem_append_right _ (List.mem_append_right _ (List.mem_append_right _ (List.mem_append_right _ (List.mem_of_getElem? (i := 34) (by decide +kernel)))))) (by decide)
theorem ww_755 : (Jvm.Cond.code ({ cls := "PakeDeskModel", name := "scalar", desc := "(J)J" } : Jvm.MethodName) prog_9_method_7_code (2 : Nat) (Option.some Jvm.ClassFile.FieldType.long)) ∈ gt_tbl := gt_m (List.mem_append_right _ (List.mem_append_right _ (List.mem_append_right _ (List.mem_append_right _ (List.mem_of_getElem? (i := 35) (by decide +kernel)))))) (by decide)
theorem ww_756 : (Jvm.Cond.constantLong "PakeDeskModel" (99 : Nat) (1073741788 : Int64)) ∈ gt_tbl := gt_m (List.mem_append_right _ (List.mem_append_right _ (List.mem_append_right _ (List.mem_append_right _ (List.mem_of_getElem? (i := 36) (by decide +kernel)))))) (by decide)
theorem ww_762 : (Jvm.Cond.constantLong "PakeDeskModel" (82 : Nat) (2 : Int64)) ∈ gt_tbl := gt_m (List.mem_append_right _ (List.mem_append_right _ (List.mem_append_right _ (List.mem_append_right _ (List.mem_of_getElem? (i := 42) (by decide +kernel)))))) (by decide)
theorem ww_766 : (Jvm.Cond.constantLong "PakeDeskModel" (80 : Nat) (2147483579 : Int64)) ∈ gt_tbl := gt_m (List.mem_append_right _ (List.mem_append_right _ (List.mem_append_right _ (List.mem_append_right _ (List.mem_of_getElem? (i := 46) (by decide +kernel)))))) (by decide)
theorem ww_783 : (Jvm.Cond.methodLink "PakeDeskModel" (134 : Nat) ({ cls := "PakeDeskModel", name := "fake", desc := "(II)J" } : Jvm.MethodName)) ∈ gt_tbl := gt_m (List.mem_append_right _ (List.mem_append_right _ (List.mem_append_right _ (List.mem_append_right _ (List.mem_of_getElem? (i := 63) (by decide +kernel)))))) (by decide)
theorem ww_785 : (Jvm.Cond.instanceMethod ({ cls := "PakeDeskModel", name := "fake", desc := "(II)J" } : Jvm.MethodName)) ∈ gt_tbl := gt_m (List.mem_append_right _ (List.mem_append_right _ (List.mem_append_right _ (List.mem_append_right _ (List.mem_of_getElem? (i := 65) (by decide +kernel)))))) (by decide)
theorem ww_786 : (Jvm.Cond.code ({ cls := "PakeDeskModel", name := "fake", desc := "(II)J" } : Jvm.MethodName) prog_9_method_10_code (3 : Nat) (Option.some Jvm.ClassFile.FieldType.long)) ∈ gt_tbl := gt_m (List.mem_append_right _ (List.mem_append_right _ (List.mem_append_right _ (List.mem_append_right _ (List.mem_of_getElem? (i := 66) (by decide +kernel)))))) (by decide)
theorem cy_M_feed : tb_C my_M_feed mb_M_feed 4 none 1 := ⟨ww_745, ww_3, by decide, by decide, by decide +kernel⟩
theorem cy_M_begin : tb_C my_M_begin mb_M_begin 5 none 2 := ⟨ww_740, ww_3, by decide, by decide, by decide +kernel⟩
theorem cy_M_digest : tb_C my_M_digest mb_M_digest 3 (some .long) 0 := ⟨ww_751, ww_3, by decide, by decide, by decide +kernel⟩
theorem cy_M_scalar : tb_C my_M_scalar mb_M_scalar 2 (some .long) 1 := ⟨ww_755, ww_3, by decide, by decide, by decide +kernel⟩
theorem cy_M_fake : tb_C my_M_fake mb_M_fake 3 (some .long) 2 := ⟨ww_786, ww_3, by decide, by decide, by decide +kernel⟩
theorem wp_M_feed : Cond.selects "PakeDeskModel" ⟨"PakeDeskModel", "feed", "(J)V"⟩ ⟨"PakeDeskModel", "feed", "(J)V"⟩ ∈ gt_tbl := gt_m (List.mem_append_left _ (List.mem_map.mpr ⟨(⟨"PakeDeskModel", "feed", "(J)V"⟩, 25), by decide +kernel, rfl⟩)) (by decide)
theorem wp_M_begin : Cond.selects "PakeDeskModel" ⟨"PakeDeskModel", "begin", "(JJ)V"⟩ ⟨"PakeDeskModel", "begin", "(JJ)V"⟩ ∈ gt_tbl := gt_m (List.mem_append_left _ (List.mem_map.mpr ⟨(⟨"PakeDeskModel", "begin", "(JJ)V"⟩, 25), by decide +kernel, rfl⟩)) (by decide)
theorem wp_M_digest : Cond.selects "PakeDeskModel" ⟨"PakeDeskModel", "digest", "()J"⟩ ⟨"PakeDeskModel", "digest", "()J"⟩ ∈ gt_tbl := gt_m (List.mem_append_left _ (List.mem_map.mpr ⟨(⟨"PakeDeskModel", "digest", "()J"⟩, 25), by decide +kernel, rfl⟩)) (by decide)
theorem wp_M_fake : Cond.selects "PakeDeskModel" ⟨"PakeDeskModel", "fake", "(II)J"⟩ ⟨"PakeDeskModel", "fake", "(II)J"⟩ ∈ gt_tbl := gt_m (List.mem_append_left _ (List.mem_map.mpr ⟨(⟨"PakeDeskModel", "fake", "(II)J"⟩, 25), by decide +kernel, rfl⟩)) (by decide)
theorem d_M_init_0 : decode mb_M_init 0 = .ok (.aload_n 0, 1) := by decide +kernel
theorem d_M_init_1 : decode mb_M_init 1 = .ok (.invokespecial 1, 3) := by decide +kernel
theorem d_M_init_4 : decode mb_M_init 4 = .ok (.aload_n 0, 1) := by decide +kernel
theorem d_M_init_5 : decode mb_M_init 5 = .ok (.bipush 8, 2) := by decide +kernel
theorem d_M_init_7 : decode mb_M_init 7 = .ok (.newarray .int, 2) := by decide +kernel
theorem d_M_init_9 : decode mb_M_init 9 = .ok (.dup, 1) := by decide +kernel
theorem d_M_init_10 : decode mb_M_init 10 = .ok (.iconst 0, 1) := by decide +kernel
theorem d_M_init_11 : decode mb_M_init 11 = .ok (.iconst (-1), 1) := by decide +kernel
theorem d_M_init_12 : decode mb_M_init 12 = .ok (.iastore, 1) := by decide +kernel
theorem d_M_init_13 : decode mb_M_init 13 = .ok (.dup, 1) := by decide +kernel
theorem d_M_init_14 : decode mb_M_init 14 = .ok (.iconst 1, 1) := by decide +kernel
theorem d_M_init_15 : decode mb_M_init 15 = .ok (.iconst (-1), 1) := by decide +kernel
theorem d_M_init_16 : decode mb_M_init 16 = .ok (.iastore, 1) := by decide +kernel
theorem d_M_init_17 : decode mb_M_init 17 = .ok (.dup, 1) := by decide +kernel
theorem d_M_init_18 : decode mb_M_init 18 = .ok (.iconst 2, 1) := by decide +kernel
theorem d_M_init_19 : decode mb_M_init 19 = .ok (.iconst (-1), 1) := by decide +kernel
theorem d_M_init_20 : decode mb_M_init 20 = .ok (.iastore, 1) := by decide +kernel
theorem d_M_init_21 : decode mb_M_init 21 = .ok (.dup, 1) := by decide +kernel
theorem d_M_init_22 : decode mb_M_init 22 = .ok (.iconst 3, 1) := by decide +kernel
theorem d_M_init_23 : decode mb_M_init 23 = .ok (.iconst (-1), 1) := by decide +kernel
theorem d_M_init_24 : decode mb_M_init 24 = .ok (.iastore, 1) := by decide +kernel
theorem d_M_init_25 : decode mb_M_init 25 = .ok (.dup, 1) := by decide +kernel
theorem d_M_init_26 : decode mb_M_init 26 = .ok (.iconst 4, 1) := by decide +kernel
theorem d_M_init_27 : decode mb_M_init 27 = .ok (.iconst (-1), 1) := by decide +kernel
theorem d_M_init_28 : decode mb_M_init 28 = .ok (.iastore, 1) := by decide +kernel
theorem d_M_init_29 : decode mb_M_init 29 = .ok (.dup, 1) := by decide +kernel
theorem d_M_init_30 : decode mb_M_init 30 = .ok (.iconst 5, 1) := by decide +kernel
theorem d_M_init_31 : decode mb_M_init 31 = .ok (.iconst (-1), 1) := by decide +kernel
theorem d_M_init_32 : decode mb_M_init 32 = .ok (.iastore, 1) := by decide +kernel
theorem d_M_init_33 : decode mb_M_init 33 = .ok (.dup, 1) := by decide +kernel
theorem d_M_init_34 : decode mb_M_init 34 = .ok (.bipush 6, 2) := by decide +kernel
theorem d_M_init_36 : decode mb_M_init 36 = .ok (.iconst (-1), 1) := by decide +kernel
theorem d_M_init_37 : decode mb_M_init 37 = .ok (.iastore, 1) := by decide +kernel
theorem d_M_init_38 : decode mb_M_init 38 = .ok (.dup, 1) := by decide +kernel
theorem d_M_init_39 : decode mb_M_init 39 = .ok (.bipush 7, 2) := by decide +kernel
theorem d_M_init_41 : decode mb_M_init 41 = .ok (.iconst (-1), 1) := by decide +kernel
theorem d_M_init_42 : decode mb_M_init 42 = .ok (.iastore, 1) := by decide +kernel
theorem d_M_init_43 : decode mb_M_init 43 = .ok (.putfield 7, 3) := by decide +kernel
theorem d_M_init_46 : decode mb_M_init 46 = .ok (.aload_n 0, 1) := by decide +kernel
theorem d_M_init_47 : decode mb_M_init 47 = .ok (.bipush 8, 2) := by decide +kernel
theorem d_M_init_49 : decode mb_M_init 49 = .ok (.newarray .long, 2) := by decide +kernel
theorem d_M_init_51 : decode mb_M_init 51 = .ok (.putfield 13, 3) := by decide +kernel
theorem d_M_init_54 : decode mb_M_init 54 = .ok (.aload_n 0, 1) := by decide +kernel
theorem d_M_init_55 : decode mb_M_init 55 = .ok (.bipush 8, 2) := by decide +kernel
theorem d_M_init_57 : decode mb_M_init 57 = .ok (.newarray .long, 2) := by decide +kernel
theorem d_M_init_59 : decode mb_M_init 59 = .ok (.putfield 17, 3) := by decide +kernel
theorem d_M_init_62 : decode mb_M_init 62 = .ok (.aload_n 0, 1) := by decide +kernel
theorem d_M_init_63 : decode mb_M_init 63 = .ok (.bipush 8, 2) := by decide +kernel
theorem d_M_init_65 : decode mb_M_init 65 = .ok (.newarray .long, 2) := by decide +kernel
theorem d_M_init_67 : decode mb_M_init 67 = .ok (.putfield 20, 3) := by decide +kernel
theorem d_M_init_70 : decode mb_M_init 70 = .ok (.aload_n 0, 1) := by decide +kernel
theorem d_M_init_71 : decode mb_M_init 71 = .ok (.bipush 8, 2) := by decide +kernel
theorem d_M_init_73 : decode mb_M_init 73 = .ok (.newarray .int, 2) := by decide +kernel
theorem d_M_init_75 : decode mb_M_init 75 = .ok (.putfield 23, 3) := by decide +kernel
theorem d_M_init_78 : decode mb_M_init 78 = .ok (.aload_n 0, 1) := by decide +kernel
theorem d_M_init_79 : decode mb_M_init 79 = .ok (.bipush 8, 2) := by decide +kernel
theorem d_M_init_81 : decode mb_M_init 81 = .ok (.newarray .int, 2) := by decide +kernel
theorem d_M_init_83 : decode mb_M_init 83 = .ok (.putfield 26, 3) := by decide +kernel
theorem d_M_init_86 : decode mb_M_init 86 = .ok (.aload_n 0, 1) := by decide +kernel
theorem d_M_init_87 : decode mb_M_init 87 = .ok (.bipush 8, 2) := by decide +kernel
theorem d_M_init_89 : decode mb_M_init 89 = .ok (.newarray .int, 2) := by decide +kernel
theorem d_M_init_91 : decode mb_M_init 91 = .ok (.putfield 29, 3) := by decide +kernel
theorem d_M_init_94 : decode mb_M_init 94 = .ok (.aload_n 0, 1) := by decide +kernel
theorem d_M_init_95 : decode mb_M_init 95 = .ok (.bipush 8, 2) := by decide +kernel
theorem d_M_init_97 : decode mb_M_init 97 = .ok (.newarray .int, 2) := by decide +kernel
theorem d_M_init_99 : decode mb_M_init 99 = .ok (.putfield 32, 3) := by decide +kernel
theorem d_M_init_102 : decode mb_M_init 102 = .ok (.aload_n 0, 1) := by decide +kernel
theorem d_M_init_103 : decode mb_M_init 103 = .ok (.bipush 40, 2) := by decide +kernel
theorem d_M_init_105 : decode mb_M_init 105 = .ok (.newarray .boolean, 2) := by decide +kernel
theorem d_M_init_107 : decode mb_M_init 107 = .ok (.putfield 35, 3) := by decide +kernel
theorem d_M_init_110 : decode mb_M_init 110 = .ok (.aload_n 0, 1) := by decide +kernel
theorem d_M_init_111 : decode mb_M_init 111 = .ok (.bipush 40, 2) := by decide +kernel
theorem d_M_init_113 : decode mb_M_init 113 = .ok (.newarray .int, 2) := by decide +kernel
theorem d_M_init_115 : decode mb_M_init 115 = .ok (.putfield 39, 3) := by decide +kernel
theorem d_M_init_118 : decode mb_M_init 118 = .ok (.aload_n 0, 1) := by decide +kernel
theorem d_M_init_119 : decode mb_M_init 119 = .ok (.bipush 40, 2) := by decide +kernel
theorem d_M_init_121 : decode mb_M_init 121 = .ok (.newarray .int, 2) := by decide +kernel
theorem d_M_init_123 : decode mb_M_init 123 = .ok (.putfield 42, 3) := by decide +kernel
theorem d_M_init_126 : decode mb_M_init 126 = .ok (.aload_n 0, 1) := by decide +kernel
theorem d_M_init_127 : decode mb_M_init 127 = .ok (.bipush 40, 2) := by decide +kernel
theorem d_M_init_129 : decode mb_M_init 129 = .ok (.newarray .int, 2) := by decide +kernel
theorem d_M_init_131 : decode mb_M_init 131 = .ok (.putfield 45, 3) := by decide +kernel
theorem d_M_init_134 : decode mb_M_init 134 = .ok (.aload_n 0, 1) := by decide +kernel
theorem d_M_init_135 : decode mb_M_init 135 = .ok (.bipush 40, 2) := by decide +kernel
theorem d_M_init_137 : decode mb_M_init 137 = .ok (.newarray .int, 2) := by decide +kernel
theorem d_M_init_139 : decode mb_M_init 139 = .ok (.putfield 48, 3) := by decide +kernel
theorem d_M_init_142 : decode mb_M_init 142 = .ok (.aload_n 0, 1) := by decide +kernel
theorem d_M_init_143 : decode mb_M_init 143 = .ok (.bipush 40, 2) := by decide +kernel
theorem d_M_init_145 : decode mb_M_init 145 = .ok (.newarray .long, 2) := by decide +kernel
theorem d_M_init_147 : decode mb_M_init 147 = .ok (.putfield 51, 3) := by decide +kernel
theorem d_M_init_150 : decode mb_M_init 150 = .ok (.aload_n 0, 1) := by decide +kernel
theorem d_M_init_151 : decode mb_M_init 151 = .ok (.bipush 40, 2) := by decide +kernel
theorem d_M_init_153 : decode mb_M_init 153 = .ok (.newarray .long, 2) := by decide +kernel
theorem d_M_init_155 : decode mb_M_init 155 = .ok (.putfield 54, 3) := by decide +kernel
theorem d_M_init_158 : decode mb_M_init 158 = .ok (.aload_n 0, 1) := by decide +kernel
theorem d_M_init_159 : decode mb_M_init 159 = .ok (.bipush 40, 2) := by decide +kernel
theorem d_M_init_161 : decode mb_M_init 161 = .ok (.newarray .long, 2) := by decide +kernel
theorem d_M_init_163 : decode mb_M_init 163 = .ok (.putfield 57, 3) := by decide +kernel
theorem d_M_init_166 : decode mb_M_init 166 = .ok (.aload_n 0, 1) := by decide +kernel
theorem d_M_init_167 : decode mb_M_init 167 = .ok (.bipush 40, 2) := by decide +kernel
theorem d_M_init_169 : decode mb_M_init 169 = .ok (.newarray .long, 2) := by decide +kernel
theorem d_M_init_171 : decode mb_M_init 171 = .ok (.putfield 60, 3) := by decide +kernel
theorem d_M_init_174 : decode mb_M_init 174 = .ok (.aload_n 0, 1) := by decide +kernel
theorem d_M_init_175 : decode mb_M_init 175 = .ok (.bipush 40, 2) := by decide +kernel
theorem d_M_init_177 : decode mb_M_init 177 = .ok (.newarray .long, 2) := by decide +kernel
theorem d_M_init_179 : decode mb_M_init 179 = .ok (.putfield 63, 3) := by decide +kernel
theorem d_M_init_182 : decode mb_M_init 182 = .ok (.aload_n 0, 1) := by decide +kernel
theorem d_M_init_183 : decode mb_M_init 183 = .ok (.bipush 40, 2) := by decide +kernel
theorem d_M_init_185 : decode mb_M_init 185 = .ok (.newarray .long, 2) := by decide +kernel
theorem d_M_init_187 : decode mb_M_init 187 = .ok (.putfield 66, 3) := by decide +kernel
theorem d_M_init_190 : decode mb_M_init 190 = .ok (.aload_n 0, 1) := by decide +kernel
theorem d_M_init_191 : decode mb_M_init 191 = .ok (.bipush 40, 2) := by decide +kernel
theorem d_M_init_193 : decode mb_M_init 193 = .ok (.newarray .long, 2) := by decide +kernel
theorem d_M_init_195 : decode mb_M_init 195 = .ok (.putfield 69, 3) := by decide +kernel
theorem d_M_init_198 : decode mb_M_init 198 = .ok (.aload_n 0, 1) := by decide +kernel
theorem d_M_init_199 : decode mb_M_init 199 = .ok (.iload_n 1, 1) := by decide +kernel
theorem d_M_init_200 : decode mb_M_init 200 = .ok (.i2l, 1) := by decide +kernel
theorem d_M_init_201 : decode mb_M_init 201 = .ok (.putfield 72, 3) := by decide +kernel
theorem d_M_init_204 : decode mb_M_init 204 = .ok (.return_, 1) := by decide +kernel
theorem d_M_thrown_0 : decode mb_M_thrown 0 = .ok (.aload_n 0, 1) := by decide +kernel
theorem d_M_thrown_1 : decode mb_M_thrown 1 = .ok (.getfield 76, 3) := by decide +kernel
theorem d_M_thrown_4 : decode mb_M_thrown 4 = .ok (.ireturn, 1) := by decide +kernel
theorem d_M_power_0 : decode mb_M_power 0 = .ok (.lconst 1, 1) := by decide +kernel
theorem d_M_power_1 : decode mb_M_power 1 = .ok (.lstore 4, 2) := by decide +kernel
theorem d_M_power_3 : decode mb_M_power 3 = .ok (.lload_n 0, 1) := by decide +kernel
theorem d_M_power_4 : decode mb_M_power 4 = .ok (.ldc2_w 80, 3) := by decide +kernel
theorem d_M_power_7 : decode mb_M_power 7 = .ok (.lrem, 1) := by decide +kernel
theorem d_M_power_8 : decode mb_M_power 8 = .ok (.lstore 6, 2) := by decide +kernel
theorem d_M_power_10 : decode mb_M_power 10 = .ok (.lload_n 2, 1) := by decide +kernel
theorem d_M_power_11 : decode mb_M_power 11 = .ok (.lstore 8, 2) := by decide +kernel
theorem d_M_power_13 : decode mb_M_power 13 = .ok (.lload 8, 2) := by decide +kernel
theorem d_M_power_15 : decode mb_M_power 15 = .ok (.lconst 0, 1) := by decide +kernel
theorem d_M_power_16 : decode mb_M_power 16 = .ok (.lcmp, 1) := by decide +kernel
theorem d_M_power_17 : decode mb_M_power 17 = .ok (.ifCond .le 52, 3) := by decide +kernel
theorem d_M_power_20 : decode mb_M_power 20 = .ok (.lload 8, 2) := by decide +kernel
theorem d_M_power_22 : decode mb_M_power 22 = .ok (.ldc2_w 82, 3) := by decide +kernel
theorem d_M_power_25 : decode mb_M_power 25 = .ok (.lrem, 1) := by decide +kernel
theorem d_M_power_26 : decode mb_M_power 26 = .ok (.lconst 1, 1) := by decide +kernel
theorem d_M_power_27 : decode mb_M_power 27 = .ok (.lcmp, 1) := by decide +kernel
theorem d_M_power_28 : decode mb_M_power 28 = .ok (.ifCond .ne 15, 3) := by decide +kernel
theorem d_M_power_31 : decode mb_M_power 31 = .ok (.lload 4, 2) := by decide +kernel
theorem d_M_power_33 : decode mb_M_power 33 = .ok (.lload 6, 2) := by decide +kernel
theorem d_M_power_35 : decode mb_M_power 35 = .ok (.lmul, 1) := by decide +kernel
theorem d_M_power_36 : decode mb_M_power 36 = .ok (.ldc2_w 80, 3) := by decide +kernel
theorem d_M_power_39 : decode mb_M_power 39 = .ok (.lrem, 1) := by decide +kernel
theorem d_M_power_40 : decode mb_M_power 40 = .ok (.goto 5, 3) := by decide +kernel
theorem d_M_power_43 : decode mb_M_power 43 = .ok (.lload 4, 2) := by decide +kernel
theorem d_M_power_45 : decode mb_M_power 45 = .ok (.lstore 4, 2) := by decide +kernel
theorem d_M_power_47 : decode mb_M_power 47 = .ok (.lload 6, 2) := by decide +kernel
theorem d_M_power_49 : decode mb_M_power 49 = .ok (.lload 6, 2) := by decide +kernel
theorem d_M_power_51 : decode mb_M_power 51 = .ok (.lmul, 1) := by decide +kernel
theorem d_M_power_52 : decode mb_M_power 52 = .ok (.ldc2_w 80, 3) := by decide +kernel
theorem d_M_power_55 : decode mb_M_power 55 = .ok (.lrem, 1) := by decide +kernel
theorem d_M_power_56 : decode mb_M_power 56 = .ok (.lstore 6, 2) := by decide +kernel
theorem d_M_power_58 : decode mb_M_power 58 = .ok (.lload 8, 2) := by decide +kernel
theorem d_M_power_60 : decode mb_M_power 60 = .ok (.ldc2_w 82, 3) := by decide +kernel
theorem d_M_power_63 : decode mb_M_power 63 = .ok (.ldiv, 1) := by decide +kernel
theorem d_M_power_64 : decode mb_M_power 64 = .ok (.lstore 8, 2) := by decide +kernel
theorem d_M_power_66 : decode mb_M_power 66 = .ok (.goto (-53), 3) := by decide +kernel
theorem d_M_power_69 : decode mb_M_power 69 = .ok (.lload 4, 2) := by decide +kernel
theorem d_M_power_71 : decode mb_M_power 71 = .ok (.lreturn, 1) := by decide +kernel
theorem d_M_feed_0 : decode mb_M_feed 0 = .ok (.bipush 7, 2) := by decide +kernel
theorem d_M_feed_2 : decode mb_M_feed 2 = .ok (.istore_n 3, 1) := by decide +kernel
theorem d_M_feed_3 : decode mb_M_feed 3 = .ok (.iload_n 3, 1) := by decide +kernel
theorem d_M_feed_4 : decode mb_M_feed 4 = .ok (.ifCond .lt 32, 3) := by decide +kernel
theorem d_M_feed_7 : decode mb_M_feed 7 = .ok (.aload_n 0, 1) := by decide +kernel
theorem d_M_feed_8 : decode mb_M_feed 8 = .ok (.aload_n 0, 1) := by decide +kernel
theorem d_M_feed_9 : decode mb_M_feed 9 = .ok (.getfield 84, 3) := by decide +kernel
theorem d_M_feed_12 : decode mb_M_feed 12 = .ok (.lload_n 1, 1) := by decide +kernel
theorem d_M_feed_13 : decode mb_M_feed 13 = .ok (.bipush 8, 2) := by decide +kernel
theorem d_M_feed_15 : decode mb_M_feed 15 = .ok (.iload_n 3, 1) := by decide +kernel
theorem d_M_feed_16 : decode mb_M_feed 16 = .ok (.imul, 1) := by decide +kernel
theorem d_M_feed_17 : decode mb_M_feed 17 = .ok (.lushr, 1) := by decide +kernel
theorem d_M_feed_18 : decode mb_M_feed 18 = .ok (.ldc2_w 87, 3) := by decide +kernel
theorem d_M_feed_21 : decode mb_M_feed 21 = .ok (.land, 1) := by decide +kernel
theorem d_M_feed_22 : decode mb_M_feed 22 = .ok (.lxor, 1) := by decide +kernel
theorem d_M_feed_23 : decode mb_M_feed 23 = .ok (.ldc2_w 89, 3) := by decide +kernel
theorem d_M_feed_26 : decode mb_M_feed 26 = .ok (.lmul, 1) := by decide +kernel
theorem d_M_feed_27 : decode mb_M_feed 27 = .ok (.putfield 84, 3) := by decide +kernel
theorem d_M_feed_30 : decode mb_M_feed 30 = .ok (.iinc 3 (-1), 3) := by decide +kernel
theorem d_M_feed_33 : decode mb_M_feed 33 = .ok (.goto (-30), 3) := by decide +kernel
theorem d_M_feed_36 : decode mb_M_feed 36 = .ok (.return_, 1) := by decide +kernel
theorem d_M_begin_0 : decode mb_M_begin 0 = .ok (.aload_n 0, 1) := by decide +kernel
theorem d_M_begin_1 : decode mb_M_begin 1 = .ok (.ldc2_w 91, 3) := by decide +kernel
theorem d_M_begin_4 : decode mb_M_begin 4 = .ok (.putfield 84, 3) := by decide +kernel
theorem d_M_begin_7 : decode mb_M_begin 7 = .ok (.aload_n 0, 1) := by decide +kernel
theorem d_M_begin_8 : decode mb_M_begin 8 = .ok (.lload_n 1, 1) := by decide +kernel
theorem d_M_begin_9 : decode mb_M_begin 9 = .ok (.invokevirtual 93, 3) := by decide +kernel
theorem d_M_begin_12 : decode mb_M_begin 12 = .ok (.aload_n 0, 1) := by decide +kernel
theorem d_M_begin_13 : decode mb_M_begin 13 = .ok (.lload_n 3, 1) := by decide +kernel
theorem d_M_begin_14 : decode mb_M_begin 14 = .ok (.invokevirtual 93, 3) := by decide +kernel
theorem d_M_begin_17 : decode mb_M_begin 17 = .ok (.return_, 1) := by decide +kernel
theorem d_M_digest_0 : decode mb_M_digest 0 = .ok (.aload_n 0, 1) := by decide +kernel
theorem d_M_digest_1 : decode mb_M_digest 1 = .ok (.getfield 84, 3) := by decide +kernel
theorem d_M_digest_4 : decode mb_M_digest 4 = .ok (.aload_n 0, 1) := by decide +kernel
theorem d_M_digest_5 : decode mb_M_digest 5 = .ok (.getfield 84, 3) := by decide +kernel
theorem d_M_digest_8 : decode mb_M_digest 8 = .ok (.bipush 32, 2) := by decide +kernel
theorem d_M_digest_10 : decode mb_M_digest 10 = .ok (.lushr, 1) := by decide +kernel
theorem d_M_digest_11 : decode mb_M_digest 11 = .ok (.lxor, 1) := by decide +kernel
theorem d_M_digest_12 : decode mb_M_digest 12 = .ok (.lstore_n 1, 1) := by decide +kernel
theorem d_M_digest_13 : decode mb_M_digest 13 = .ok (.lload_n 1, 1) := by decide +kernel
theorem d_M_digest_14 : decode mb_M_digest 14 = .ok (.ldc2_w 97, 3) := by decide +kernel
theorem d_M_digest_17 : decode mb_M_digest 17 = .ok (.lmul, 1) := by decide +kernel
theorem d_M_digest_18 : decode mb_M_digest 18 = .ok (.lstore_n 1, 1) := by decide +kernel
theorem d_M_digest_19 : decode mb_M_digest 19 = .ok (.lload_n 1, 1) := by decide +kernel
theorem d_M_digest_20 : decode mb_M_digest 20 = .ok (.lload_n 1, 1) := by decide +kernel
theorem d_M_digest_21 : decode mb_M_digest 21 = .ok (.bipush 29, 2) := by decide +kernel
theorem d_M_digest_23 : decode mb_M_digest 23 = .ok (.lushr, 1) := by decide +kernel
theorem d_M_digest_24 : decode mb_M_digest 24 = .ok (.lxor, 1) := by decide +kernel
theorem d_M_digest_25 : decode mb_M_digest 25 = .ok (.lreturn, 1) := by decide +kernel
theorem d_M_scalar_0 : decode mb_M_scalar 0 = .ok (.lload_n 0, 1) := by decide +kernel
theorem d_M_scalar_1 : decode mb_M_scalar 1 = .ok (.iconst 1, 1) := by decide +kernel
theorem d_M_scalar_2 : decode mb_M_scalar 2 = .ok (.lushr, 1) := by decide +kernel
theorem d_M_scalar_3 : decode mb_M_scalar 3 = .ok (.ldc2_w 99, 3) := by decide +kernel
theorem d_M_scalar_6 : decode mb_M_scalar 6 = .ok (.lrem, 1) := by decide +kernel
theorem d_M_scalar_7 : decode mb_M_scalar 7 = .ok (.lconst 1, 1) := by decide +kernel
theorem d_M_scalar_8 : decode mb_M_scalar 8 = .ok (.ladd, 1) := by decide +kernel
theorem d_M_scalar_9 : decode mb_M_scalar 9 = .ok (.lreturn, 1) := by decide +kernel
theorem d_M_word_0 : decode mb_M_word 0 = .ok (.aload_n 0, 1) := by decide +kernel
theorem d_M_word_1 : decode mb_M_word 1 = .ok (.lconst 1, 1) := by decide +kernel
theorem d_M_word_2 : decode mb_M_word 2 = .ok (.iload_n 1, 1) := by decide +kernel
theorem d_M_word_3 : decode mb_M_word 3 = .ok (.i2l, 1) := by decide +kernel
theorem d_M_word_4 : decode mb_M_word 4 = .ok (.invokevirtual 101, 3) := by decide +kernel
theorem d_M_word_7 : decode mb_M_word 7 = .ok (.aload_n 0, 1) := by decide +kernel
theorem d_M_word_8 : decode mb_M_word 8 = .ok (.lload_n 2, 1) := by decide +kernel
theorem d_M_word_9 : decode mb_M_word 9 = .ok (.invokevirtual 93, 3) := by decide +kernel
theorem d_M_word_12 : decode mb_M_word 12 = .ok (.aload_n 0, 1) := by decide +kernel
theorem d_M_word_13 : decode mb_M_word 13 = .ok (.invokevirtual 105, 3) := by decide +kernel
theorem d_M_word_16 : decode mb_M_word 16 = .ok (.invokestatic 109, 3) := by decide +kernel
theorem d_M_word_19 : decode mb_M_word 19 = .ok (.lreturn, 1) := by decide +kernel
theorem d_M_exponent_0 : decode mb_M_exponent 0 = .ok (.aload_n 0, 1) := by decide +kernel
theorem d_M_exponent_1 : decode mb_M_exponent 1 = .ok (.ldc2_w 82, 3) := by decide +kernel
theorem d_M_exponent_4 : decode mb_M_exponent 4 = .ok (.lload_n 1, 1) := by decide +kernel
theorem d_M_exponent_5 : decode mb_M_exponent 5 = .ok (.invokevirtual 101, 3) := by decide +kernel
theorem d_M_exponent_8 : decode mb_M_exponent 8 = .ok (.aload_n 0, 1) := by decide +kernel
theorem d_M_exponent_9 : decode mb_M_exponent 9 = .ok (.iload_n 3, 1) := by decide +kernel
theorem d_M_exponent_10 : decode mb_M_exponent 10 = .ok (.i2l, 1) := by decide +kernel
theorem d_M_exponent_11 : decode mb_M_exponent 11 = .ok (.invokevirtual 93, 3) := by decide +kernel
theorem d_M_exponent_14 : decode mb_M_exponent 14 = .ok (.aload_n 0, 1) := by decide +kernel
theorem d_M_exponent_15 : decode mb_M_exponent 15 = .ok (.lload 4, 2) := by decide +kernel
theorem d_M_exponent_17 : decode mb_M_exponent 17 = .ok (.invokevirtual 93, 3) := by decide +kernel
theorem d_M_exponent_20 : decode mb_M_exponent 20 = .ok (.aload_n 0, 1) := by decide +kernel
theorem d_M_exponent_21 : decode mb_M_exponent 21 = .ok (.invokevirtual 105, 3) := by decide +kernel
theorem d_M_exponent_24 : decode mb_M_exponent 24 = .ok (.invokestatic 109, 3) := by decide +kernel
theorem d_M_exponent_27 : decode mb_M_exponent 27 = .ok (.lreturn, 1) := by decide +kernel
theorem d_M_fake_0 : decode mb_M_fake 0 = .ok (.aload_n 0, 1) := by decide +kernel
theorem d_M_fake_1 : decode mb_M_fake 1 = .ok (.iload_n 1, 1) := by decide +kernel
theorem d_M_fake_2 : decode mb_M_fake 2 = .ok (.i2l, 1) := by decide +kernel
theorem d_M_fake_3 : decode mb_M_fake 3 = .ok (.aload_n 0, 1) := by decide +kernel
theorem d_M_fake_4 : decode mb_M_fake 4 = .ok (.getfield 72, 3) := by decide +kernel
theorem d_M_fake_7 : decode mb_M_fake 7 = .ok (.invokevirtual 101, 3) := by decide +kernel
theorem d_M_fake_10 : decode mb_M_fake 10 = .ok (.aload_n 0, 1) := by decide +kernel
theorem d_M_fake_11 : decode mb_M_fake 11 = .ok (.iload_n 2, 1) := by decide +kernel
theorem d_M_fake_12 : decode mb_M_fake 12 = .ok (.i2l, 1) := by decide +kernel
theorem d_M_fake_13 : decode mb_M_fake 13 = .ok (.invokevirtual 93, 3) := by decide +kernel
theorem d_M_fake_16 : decode mb_M_fake 16 = .ok (.aload_n 0, 1) := by decide +kernel
theorem d_M_fake_17 : decode mb_M_fake 17 = .ok (.invokevirtual 105, 3) := by decide +kernel
theorem d_M_fake_20 : decode mb_M_fake 20 = .ok (.lreturn, 1) := by decide +kernel
theorem d_M_isUser_0 : decode mb_M_isUser 0 = .ok (.iload_n 0, 1) := by decide +kernel
theorem d_M_isUser_1 : decode mb_M_isUser 1 = .ok (.ifCond .lt 13, 3) := by decide +kernel
theorem d_M_isUser_4 : decode mb_M_isUser 4 = .ok (.iload_n 0, 1) := by decide +kernel
theorem d_M_isUser_5 : decode mb_M_isUser 5 = .ok (.bipush 8, 2) := by decide +kernel
theorem d_M_isUser_7 : decode mb_M_isUser 7 = .ok (.if_icmp .ge 7, 3) := by decide +kernel
theorem d_M_isUser_10 : decode mb_M_isUser 10 = .ok (.iconst 1, 1) := by decide +kernel
theorem d_M_isUser_11 : decode mb_M_isUser 11 = .ok (.goto 4, 3) := by decide +kernel
theorem d_M_isUser_14 : decode mb_M_isUser 14 = .ok (.iconst 0, 1) := by decide +kernel
theorem d_M_isUser_15 : decode mb_M_isUser 15 = .ok (.ireturn, 1) := by decide +kernel
theorem d_M_isWay_0 : decode mb_M_isWay 0 = .ok (.iload_n 0, 1) := by decide +kernel
theorem d_M_isWay_1 : decode mb_M_isWay 1 = .ok (.ifCond .eq 8, 3) := by decide +kernel
theorem d_M_isWay_4 : decode mb_M_isWay 4 = .ok (.iload_n 0, 1) := by decide +kernel
theorem d_M_isWay_5 : decode mb_M_isWay 5 = .ok (.iconst 1, 1) := by decide +kernel
theorem d_M_isWay_6 : decode mb_M_isWay 6 = .ok (.if_icmp .ne 7, 3) := by decide +kernel
theorem d_M_isWay_9 : decode mb_M_isWay 9 = .ok (.iconst 1, 1) := by decide +kernel
theorem d_M_isWay_10 : decode mb_M_isWay 10 = .ok (.goto 4, 3) := by decide +kernel
theorem d_M_isWay_13 : decode mb_M_isWay 13 = .ok (.iconst 0, 1) := by decide +kernel
theorem d_M_isWay_14 : decode mb_M_isWay 14 = .ok (.ireturn, 1) := by decide +kernel
theorem d_M_register_0 : decode mb_M_register 0 = .ok (.aload_n 0, 1) := by decide +kernel
theorem d_M_register_1 : decode mb_M_register 1 = .ok (.iconst 0, 1) := by decide +kernel
theorem d_M_register_2 : decode mb_M_register 2 = .ok (.putfield 76, 3) := by decide +kernel
theorem d_M_register_5 : decode mb_M_register 5 = .ok (.iload_n 1, 1) := by decide +kernel
theorem d_M_register_6 : decode mb_M_register 6 = .ok (.invokestatic 113, 3) := by decide +kernel
theorem d_M_register_9 : decode mb_M_register 9 = .ok (.ifCond .eq 10, 3) := by decide +kernel
theorem d_M_register_12 : decode mb_M_register 12 = .ok (.iload_n 2, 1) := by decide +kernel
theorem d_M_register_13 : decode mb_M_register 13 = .ok (.invokestatic 117, 3) := by decide +kernel
theorem d_M_register_16 : decode mb_M_register 16 = .ok (.ifCond .ne 5, 3) := by decide +kernel
theorem d_M_register_19 : decode mb_M_register 19 = .ok (.iconst 0, 1) := by decide +kernel
theorem d_M_register_20 : decode mb_M_register 20 = .ok (.ireturn, 1) := by decide +kernel
theorem d_M_register_21 : decode mb_M_register 21 = .ok (.aload_n 0, 1) := by decide +kernel
theorem d_M_register_22 : decode mb_M_register 22 = .ok (.getfield 7, 3) := by decide +kernel
theorem d_M_register_25 : decode mb_M_register 25 = .ok (.iload_n 1, 1) := by decide +kernel
theorem d_M_register_26 : decode mb_M_register 26 = .ok (.iload_n 2, 1) := by decide +kernel
theorem d_M_register_27 : decode mb_M_register 27 = .ok (.iastore, 1) := by decide +kernel
theorem d_M_register_28 : decode mb_M_register 28 = .ok (.aload_n 0, 1) := by decide +kernel
theorem d_M_register_29 : decode mb_M_register 29 = .ok (.getfield 13, 3) := by decide +kernel
theorem d_M_register_32 : decode mb_M_register 32 = .ok (.iload_n 1, 1) := by decide +kernel
theorem d_M_register_33 : decode mb_M_register 33 = .ok (.aload_n 0, 1) := by decide +kernel
theorem d_M_register_34 : decode mb_M_register 34 = .ok (.iload_n 1, 1) := by decide +kernel
theorem d_M_register_35 : decode mb_M_register 35 = .ok (.lload_n 3, 1) := by decide +kernel
theorem d_M_register_36 : decode mb_M_register 36 = .ok (.invokevirtual 120, 3) := by decide +kernel
theorem d_M_register_39 : decode mb_M_register 39 = .ok (.lastore, 1) := by decide +kernel
theorem d_M_register_40 : decode mb_M_register 40 = .ok (.aload_n 0, 1) := by decide +kernel
theorem d_M_register_41 : decode mb_M_register 41 = .ok (.getfield 17, 3) := by decide +kernel
theorem d_M_register_44 : decode mb_M_register 44 = .ok (.iload_n 1, 1) := by decide +kernel
theorem d_M_register_45 : decode mb_M_register 45 = .ok (.lload 5, 2) := by decide +kernel
theorem d_M_register_47 : decode mb_M_register 47 = .ok (.lastore, 1) := by decide +kernel
theorem d_M_register_48 : decode mb_M_register 48 = .ok (.aload_n 0, 1) := by decide +kernel
theorem d_M_register_49 : decode mb_M_register 49 = .ok (.getfield 20, 3) := by decide +kernel
theorem d_M_register_52 : decode mb_M_register 52 = .ok (.iload_n 1, 1) := by decide +kernel
theorem d_M_register_53 : decode mb_M_register 53 = .ok (.ldc2_w 124, 3) := by decide +kernel
theorem d_M_register_56 : decode mb_M_register 56 = .ok (.aload_n 0, 1) := by decide +kernel
theorem d_M_register_57 : decode mb_M_register 57 = .ok (.lload 5, 2) := by decide +kernel
theorem d_M_register_59 : decode mb_M_register 59 = .ok (.iload_n 1, 1) := by decide +kernel
theorem d_M_register_60 : decode mb_M_register 60 = .ok (.lload_n 3, 1) := by decide +kernel
theorem d_M_register_61 : decode mb_M_register 61 = .ok (.invokevirtual 126, 3) := by decide +kernel
theorem d_M_register_64 : decode mb_M_register 64 = .ok (.invokestatic 130, 3) := by decide +kernel
theorem d_M_register_67 : decode mb_M_register 67 = .ok (.lastore, 1) := by decide +kernel
theorem d_M_register_68 : decode mb_M_register 68 = .ok (.iconst 1, 1) := by decide +kernel
theorem d_M_register_69 : decode mb_M_register 69 = .ok (.ireturn, 1) := by decide +kernel
theorem d_M_forget_0 : decode mb_M_forget 0 = .ok (.aload_n 0, 1) := by decide +kernel
theorem d_M_forget_1 : decode mb_M_forget 1 = .ok (.iconst 0, 1) := by decide +kernel
theorem d_M_forget_2 : decode mb_M_forget 2 = .ok (.putfield 76, 3) := by decide +kernel
theorem d_M_forget_5 : decode mb_M_forget 5 = .ok (.iload_n 1, 1) := by decide +kernel
theorem d_M_forget_6 : decode mb_M_forget 6 = .ok (.invokestatic 113, 3) := by decide +kernel
theorem d_M_forget_9 : decode mb_M_forget 9 = .ok (.ifCond .eq 12, 3) := by decide +kernel
theorem d_M_forget_12 : decode mb_M_forget 12 = .ok (.aload_n 0, 1) := by decide +kernel
theorem d_M_forget_13 : decode mb_M_forget 13 = .ok (.getfield 7, 3) := by decide +kernel
theorem d_M_forget_16 : decode mb_M_forget 16 = .ok (.iload_n 1, 1) := by decide +kernel
theorem d_M_forget_17 : decode mb_M_forget 17 = .ok (.iaload, 1) := by decide +kernel
theorem d_M_forget_18 : decode mb_M_forget 18 = .ok (.ifCond .ge 5, 3) := by decide +kernel
theorem d_M_forget_21 : decode mb_M_forget 21 = .ok (.iconst 0, 1) := by decide +kernel
theorem d_M_forget_22 : decode mb_M_forget 22 = .ok (.ireturn, 1) := by decide +kernel
theorem d_M_forget_23 : decode mb_M_forget 23 = .ok (.aload_n 0, 1) := by decide +kernel
theorem d_M_forget_24 : decode mb_M_forget 24 = .ok (.getfield 7, 3) := by decide +kernel
theorem d_M_forget_27 : decode mb_M_forget 27 = .ok (.iload_n 1, 1) := by decide +kernel
theorem d_M_forget_28 : decode mb_M_forget 28 = .ok (.iconst (-1), 1) := by decide +kernel
theorem d_M_forget_29 : decode mb_M_forget 29 = .ok (.iastore, 1) := by decide +kernel
theorem d_M_forget_30 : decode mb_M_forget 30 = .ok (.iconst 1, 1) := by decide +kernel
theorem d_M_forget_31 : decode mb_M_forget 31 = .ok (.ireturn, 1) := by decide +kernel
theorem d_M_way_0 : decode mb_M_way 0 = .ok (.aload_n 0, 1) := by decide +kernel
theorem d_M_way_1 : decode mb_M_way 1 = .ok (.iconst 0, 1) := by decide +kernel
theorem d_M_way_2 : decode mb_M_way 2 = .ok (.putfield 76, 3) := by decide +kernel
theorem d_M_way_5 : decode mb_M_way 5 = .ok (.iload_n 1, 1) := by decide +kernel
theorem d_M_way_6 : decode mb_M_way 6 = .ok (.invokestatic 113, 3) := by decide +kernel
theorem d_M_way_9 : decode mb_M_way 9 = .ok (.ifCond .eq 12, 3) := by decide +kernel
theorem d_M_way_12 : decode mb_M_way 12 = .ok (.aload_n 0, 1) := by decide +kernel
theorem d_M_way_13 : decode mb_M_way 13 = .ok (.getfield 7, 3) := by decide +kernel
theorem d_M_way_16 : decode mb_M_way 16 = .ok (.iload_n 1, 1) := by decide +kernel
theorem d_M_way_17 : decode mb_M_way 17 = .ok (.iaload, 1) := by decide +kernel
theorem d_M_way_18 : decode mb_M_way 18 = .ok (.goto 4, 3) := by decide +kernel
theorem d_M_way_21 : decode mb_M_way 21 = .ok (.iconst (-1), 1) := by decide +kernel
theorem d_M_way_22 : decode mb_M_way 22 = .ok (.ireturn, 1) := by decide +kernel
theorem d_M_saltOf_0 : decode mb_M_saltOf 0 = .ok (.aload_n 0, 1) := by decide +kernel
theorem d_M_saltOf_1 : decode mb_M_saltOf 1 = .ok (.getfield 7, 3) := by decide +kernel
theorem d_M_saltOf_4 : decode mb_M_saltOf 4 = .ok (.iload_n 1, 1) := by decide +kernel
theorem d_M_saltOf_5 : decode mb_M_saltOf 5 = .ok (.iaload, 1) := by decide +kernel
theorem d_M_saltOf_6 : decode mb_M_saltOf 6 = .ok (.iconst 1, 1) := by decide +kernel
theorem d_M_saltOf_7 : decode mb_M_saltOf 7 = .ok (.if_icmp .ne 12, 3) := by decide +kernel
theorem d_M_saltOf_10 : decode mb_M_saltOf 10 = .ok (.aload_n 0, 1) := by decide +kernel
theorem d_M_saltOf_11 : decode mb_M_saltOf 11 = .ok (.getfield 17, 3) := by decide +kernel
theorem d_M_saltOf_14 : decode mb_M_saltOf 14 = .ok (.iload_n 1, 1) := by decide +kernel
theorem d_M_saltOf_15 : decode mb_M_saltOf 15 = .ok (.laload, 1) := by decide +kernel
theorem d_M_saltOf_16 : decode mb_M_saltOf 16 = .ok (.goto 9, 3) := by decide +kernel
theorem d_M_saltOf_19 : decode mb_M_saltOf 19 = .ok (.aload_n 0, 1) := by decide +kernel
theorem d_M_saltOf_20 : decode mb_M_saltOf 20 = .ok (.iconst 4, 1) := by decide +kernel
theorem d_M_saltOf_21 : decode mb_M_saltOf 21 = .ok (.iload_n 1, 1) := by decide +kernel
theorem d_M_saltOf_22 : decode mb_M_saltOf 22 = .ok (.invokevirtual 134, 3) := by decide +kernel
theorem d_M_saltOf_25 : decode mb_M_saltOf 25 = .ok (.lreturn, 1) := by decide +kernel
theorem d_M_salt_0 : decode mb_M_salt 0 = .ok (.aload_n 0, 1) := by decide +kernel
theorem d_M_salt_1 : decode mb_M_salt 1 = .ok (.iconst 0, 1) := by decide +kernel
theorem d_M_salt_2 : decode mb_M_salt 2 = .ok (.putfield 76, 3) := by decide +kernel
theorem d_M_salt_5 : decode mb_M_salt 5 = .ok (.iload_n 1, 1) := by decide +kernel
theorem d_M_salt_6 : decode mb_M_salt 6 = .ok (.invokestatic 113, 3) := by decide +kernel
theorem d_M_salt_9 : decode mb_M_salt 9 = .ok (.ifCond .eq 11, 3) := by decide +kernel
theorem d_M_salt_12 : decode mb_M_salt 12 = .ok (.aload_n 0, 1) := by decide +kernel
theorem d_M_salt_13 : decode mb_M_salt 13 = .ok (.iload_n 1, 1) := by decide +kernel
theorem d_M_salt_14 : decode mb_M_salt 14 = .ok (.invokevirtual 138, 3) := by decide +kernel
theorem d_M_salt_17 : decode mb_M_salt 17 = .ok (.goto 4, 3) := by decide +kernel
theorem d_M_salt_20 : decode mb_M_salt 20 = .ok (.lconst 0, 1) := by decide +kernel
theorem d_M_salt_21 : decode mb_M_salt 21 = .ok (.lreturn, 1) := by decide +kernel
theorem d_M_open_0 : decode mb_M_open 0 = .ok (.aload_n 0, 1) := by decide +kernel
theorem d_M_open_1 : decode mb_M_open 1 = .ok (.getfield 142, 3) := by decide +kernel
theorem d_M_open_4 : decode mb_M_open 4 = .ok (.istore 5, 2) := by decide +kernel
theorem d_M_open_6 : decode mb_M_open 6 = .ok (.aload_n 0, 1) := by decide +kernel
theorem d_M_open_7 : decode mb_M_open 7 = .ok (.dup, 1) := by decide +kernel
theorem d_M_open_8 : decode mb_M_open 8 = .ok (.getfield 142, 3) := by decide +kernel
theorem d_M_open_11 : decode mb_M_open 11 = .ok (.iconst 1, 1) := by decide +kernel
theorem d_M_open_12 : decode mb_M_open 12 = .ok (.iadd, 1) := by decide +kernel
theorem d_M_open_13 : decode mb_M_open 13 = .ok (.putfield 142, 3) := by decide +kernel
theorem d_M_open_16 : decode mb_M_open 16 = .ok (.aload_n 0, 1) := by decide +kernel
theorem d_M_open_17 : decode mb_M_open 17 = .ok (.getfield 42, 3) := by decide +kernel
theorem d_M_open_20 : decode mb_M_open 20 = .ok (.iload 5, 2) := by decide +kernel
theorem d_M_open_22 : decode mb_M_open 22 = .ok (.iload_n 1, 1) := by decide +kernel
theorem d_M_open_23 : decode mb_M_open 23 = .ok (.iastore, 1) := by decide +kernel
theorem d_M_open_24 : decode mb_M_open 24 = .ok (.aload_n 0, 1) := by decide +kernel
theorem d_M_open_25 : decode mb_M_open 25 = .ok (.getfield 39, 3) := by decide +kernel
theorem d_M_open_28 : decode mb_M_open 28 = .ok (.iload 5, 2) := by decide +kernel
theorem d_M_open_30 : decode mb_M_open 30 = .ok (.iload_n 2, 1) := by decide +kernel
theorem d_M_open_31 : decode mb_M_open 31 = .ok (.iastore, 1) := by decide +kernel
theorem d_M_open_32 : decode mb_M_open 32 = .ok (.aload_n 0, 1) := by decide +kernel
theorem d_M_open_33 : decode mb_M_open 33 = .ok (.getfield 51, 3) := by decide +kernel
theorem d_M_open_36 : decode mb_M_open 36 = .ok (.iload 5, 2) := by decide +kernel
theorem d_M_open_38 : decode mb_M_open 38 = .ok (.lload_n 3, 1) := by decide +kernel
theorem d_M_open_39 : decode mb_M_open 39 = .ok (.invokestatic 109, 3) := by decide +kernel
theorem d_M_open_42 : decode mb_M_open 42 = .ok (.lastore, 1) := by decide +kernel
theorem d_M_open_43 : decode mb_M_open 43 = .ok (.aload_n 0, 1) := by decide +kernel
theorem d_M_open_44 : decode mb_M_open 44 = .ok (.getfield 45, 3) := by decide +kernel
theorem d_M_open_47 : decode mb_M_open 47 = .ok (.iload 5, 2) := by decide +kernel
theorem d_M_open_49 : decode mb_M_open 49 = .ok (.iconst 0, 1) := by decide +kernel
theorem d_M_open_50 : decode mb_M_open 50 = .ok (.iastore, 1) := by decide +kernel
theorem d_M_open_51 : decode mb_M_open 51 = .ok (.aload_n 0, 1) := by decide +kernel
theorem d_M_open_52 : decode mb_M_open 52 = .ok (.getfield 48, 3) := by decide +kernel
theorem d_M_open_55 : decode mb_M_open 55 = .ok (.iload 5, 2) := by decide +kernel
theorem d_M_open_57 : decode mb_M_open 57 = .ok (.aload_n 0, 1) := by decide +kernel
theorem d_M_open_58 : decode mb_M_open 58 = .ok (.getfield 145, 3) := by decide +kernel
theorem d_M_open_61 : decode mb_M_open 61 = .ok (.iastore, 1) := by decide +kernel
theorem d_M_open_62 : decode mb_M_open 62 = .ok (.aload_n 0, 1) := by decide +kernel
theorem d_M_open_63 : decode mb_M_open 63 = .ok (.getfield 69, 3) := by decide +kernel
theorem d_M_open_66 : decode mb_M_open 66 = .ok (.iload 5, 2) := by decide +kernel
theorem d_M_open_68 : decode mb_M_open 68 = .ok (.lconst 0, 1) := by decide +kernel
theorem d_M_open_69 : decode mb_M_open 69 = .ok (.lastore, 1) := by decide +kernel
theorem d_M_open_70 : decode mb_M_open 70 = .ok (.iload 5, 2) := by decide +kernel
theorem d_M_open_72 : decode mb_M_open 72 = .ok (.ireturn, 1) := by decide +kernel
theorem d_M_client_0 : decode mb_M_client 0 = .ok (.aload_n 0, 1) := by decide +kernel
theorem d_M_client_1 : decode mb_M_client 1 = .ok (.iload_n 1, 1) := by decide +kernel
theorem d_M_client_2 : decode mb_M_client 2 = .ok (.invokestatic 113, 3) := by decide +kernel
theorem d_M_client_5 : decode mb_M_client 5 = .ok (.ifCond .eq 10, 3) := by decide +kernel
theorem d_M_client_8 : decode mb_M_client 8 = .ok (.iload_n 2, 1) := by decide +kernel
theorem d_M_client_9 : decode mb_M_client 9 = .ok (.invokestatic 117, 3) := by decide +kernel
theorem d_M_client_12 : decode mb_M_client 12 = .ok (.ifCond .ne 7, 3) := by decide +kernel
theorem d_M_client_15 : decode mb_M_client 15 = .ok (.iconst 1, 1) := by decide +kernel
theorem d_M_client_16 : decode mb_M_client 16 = .ok (.goto 17, 3) := by decide +kernel
theorem d_M_client_19 : decode mb_M_client 19 = .ok (.aload_n 0, 1) := by decide +kernel
theorem d_M_client_20 : decode mb_M_client 20 = .ok (.getfield 142, 3) := by decide +kernel
theorem d_M_client_23 : decode mb_M_client 23 = .ok (.bipush 40, 2) := by decide +kernel
theorem d_M_client_25 : decode mb_M_client 25 = .ok (.if_icmp .ne 7, 3) := by decide +kernel
theorem d_M_client_28 : decode mb_M_client 28 = .ok (.iconst 2, 1) := by decide +kernel
theorem d_M_client_29 : decode mb_M_client 29 = .ok (.goto 4, 3) := by decide +kernel
theorem d_M_client_32 : decode mb_M_client 32 = .ok (.iconst 0, 1) := by decide +kernel
theorem d_M_client_33 : decode mb_M_client 33 = .ok (.putfield 76, 3) := by decide +kernel
theorem d_M_client_36 : decode mb_M_client 36 = .ok (.aload_n 0, 1) := by decide +kernel
theorem d_M_client_37 : decode mb_M_client 37 = .ok (.getfield 76, 3) := by decide +kernel
theorem d_M_client_40 : decode mb_M_client 40 = .ok (.ifCond .le 5, 3) := by decide +kernel
theorem d_M_client_43 : decode mb_M_client 43 = .ok (.iconst 0, 1) := by decide +kernel
theorem d_M_client_44 : decode mb_M_client 44 = .ok (.ireturn, 1) := by decide +kernel
theorem d_M_client_45 : decode mb_M_client 45 = .ok (.aload_n 0, 1) := by decide +kernel
theorem d_M_client_46 : decode mb_M_client 46 = .ok (.iload_n 1, 1) := by decide +kernel
theorem d_M_client_47 : decode mb_M_client 47 = .ok (.iload_n 2, 1) := by decide +kernel
theorem d_M_client_48 : decode mb_M_client 48 = .ok (.lload 5, 2) := by decide +kernel
theorem d_M_client_50 : decode mb_M_client 50 = .ok (.invokevirtual 148, 3) := by decide +kernel
theorem d_M_client_53 : decode mb_M_client 53 = .ok (.istore 7, 2) := by decide +kernel
theorem d_M_client_55 : decode mb_M_client 55 = .ok (.aload_n 0, 1) := by decide +kernel
theorem d_M_client_56 : decode mb_M_client 56 = .ok (.getfield 35, 3) := by decide +kernel
theorem d_M_client_59 : decode mb_M_client 59 = .ok (.iload 7, 2) := by decide +kernel
theorem d_M_client_61 : decode mb_M_client 61 = .ok (.iconst 0, 1) := by decide +kernel
theorem d_M_client_62 : decode mb_M_client 62 = .ok (.bastore, 1) := by decide +kernel
theorem d_M_client_63 : decode mb_M_client 63 = .ok (.aload_n 0, 1) := by decide +kernel
theorem d_M_client_64 : decode mb_M_client 64 = .ok (.getfield 54, 3) := by decide +kernel
theorem d_M_client_67 : decode mb_M_client 67 = .ok (.iload 7, 2) := by decide +kernel
theorem d_M_client_69 : decode mb_M_client 69 = .ok (.lload_n 3, 1) := by decide +kernel
theorem d_M_client_70 : decode mb_M_client 70 = .ok (.lastore, 1) := by decide +kernel
theorem d_M_client_71 : decode mb_M_client 71 = .ok (.aload_n 0, 1) := by decide +kernel
theorem d_M_client_72 : decode mb_M_client 72 = .ok (.getfield 57, 3) := by decide +kernel
theorem d_M_client_75 : decode mb_M_client 75 = .ok (.iload 7, 2) := by decide +kernel
theorem d_M_client_77 : decode mb_M_client 77 = .ok (.aload_n 0, 1) := by decide +kernel
theorem d_M_client_78 : decode mb_M_client 78 = .ok (.iload_n 1, 1) := by decide +kernel
theorem d_M_client_79 : decode mb_M_client 79 = .ok (.lload_n 3, 1) := by decide +kernel
theorem d_M_client_80 : decode mb_M_client 80 = .ok (.invokevirtual 120, 3) := by decide +kernel
theorem d_M_client_83 : decode mb_M_client 83 = .ok (.lastore, 1) := by decide +kernel
theorem d_M_client_84 : decode mb_M_client 84 = .ok (.ldc2_w 124, 3) := by decide +kernel
theorem d_M_client_87 : decode mb_M_client 87 = .ok (.aload_n 0, 1) := by decide +kernel
theorem d_M_client_88 : decode mb_M_client 88 = .ok (.getfield 51, 3) := by decide +kernel
theorem d_M_client_91 : decode mb_M_client 91 = .ok (.iload 7, 2) := by decide +kernel
theorem d_M_client_93 : decode mb_M_client 93 = .ok (.laload, 1) := by decide +kernel
theorem d_M_client_94 : decode mb_M_client 94 = .ok (.invokestatic 130, 3) := by decide +kernel
theorem d_M_client_97 : decode mb_M_client 97 = .ok (.lstore 8, 2) := by decide +kernel
theorem d_M_client_99 : decode mb_M_client 99 = .ok (.aload_n 0, 1) := by decide +kernel
theorem d_M_client_100 : decode mb_M_client 100 = .ok (.getfield 69, 3) := by decide +kernel
theorem d_M_client_103 : decode mb_M_client 103 = .ok (.iload 7, 2) := by decide +kernel
theorem d_M_client_105 : decode mb_M_client 105 = .ok (.iload_n 2, 1) := by decide +kernel
theorem d_M_client_106 : decode mb_M_client 106 = .ok (.ifCond .ne 26, 3) := by decide +kernel
theorem d_M_client_109 : decode mb_M_client 109 = .ok (.lload 8, 2) := by decide +kernel
theorem d_M_client_111 : decode mb_M_client 111 = .ok (.ldc2_w 152, 3) := by decide +kernel
theorem d_M_client_114 : decode mb_M_client 114 = .ok (.aload_n 0, 1) := by decide +kernel
theorem d_M_client_115 : decode mb_M_client 115 = .ok (.getfield 57, 3) := by decide +kernel
theorem d_M_client_118 : decode mb_M_client 118 = .ok (.iload 7, 2) := by decide +kernel
theorem d_M_client_120 : decode mb_M_client 120 = .ok (.laload, 1) := by decide +kernel
theorem d_M_client_121 : decode mb_M_client 121 = .ok (.invokestatic 130, 3) := by decide +kernel
theorem d_M_client_124 : decode mb_M_client 124 = .ok (.lmul, 1) := by decide +kernel
theorem d_M_client_125 : decode mb_M_client 125 = .ok (.ldc2_w 80, 3) := by decide +kernel
theorem d_M_client_128 : decode mb_M_client 128 = .ok (.lrem, 1) := by decide +kernel
theorem d_M_client_129 : decode mb_M_client 129 = .ok (.goto 5, 3) := by decide +kernel
theorem d_M_client_132 : decode mb_M_client 132 = .ok (.lload 8, 2) := by decide +kernel
theorem d_M_client_134 : decode mb_M_client 134 = .ok (.lastore, 1) := by decide +kernel
theorem d_M_client_135 : decode mb_M_client 135 = .ok (.aload_n 0, 1) := by decide +kernel
theorem d_M_client_136 : decode mb_M_client 136 = .ok (.getfield 60, 3) := by decide +kernel
theorem d_M_client_139 : decode mb_M_client 139 = .ok (.iload 7, 2) := by decide +kernel
theorem d_M_client_141 : decode mb_M_client 141 = .ok (.aload_n 0, 1) := by decide +kernel
theorem d_M_client_142 : decode mb_M_client 142 = .ok (.getfield 69, 3) := by decide +kernel
theorem d_M_client_145 : decode mb_M_client 145 = .ok (.iload 7, 2) := by decide +kernel
theorem d_M_client_147 : decode mb_M_client 147 = .ok (.laload, 1) := by decide +kernel
theorem d_M_client_148 : decode mb_M_client 148 = .ok (.lastore, 1) := by decide +kernel
theorem d_M_client_149 : decode mb_M_client 149 = .ok (.iload 7, 2) := by decide +kernel
theorem d_M_client_151 : decode mb_M_client 151 = .ok (.ireturn, 1) := by decide +kernel
theorem d_M_isBlocked_0 : decode mb_M_isBlocked 0 = .ok (.aload_n 0, 1) := by decide +kernel
theorem d_M_isBlocked_1 : decode mb_M_isBlocked 1 = .ok (.getfield 23, 3) := by decide +kernel
theorem d_M_isBlocked_4 : decode mb_M_isBlocked 4 = .ok (.iload_n 1, 1) := by decide +kernel
theorem d_M_isBlocked_5 : decode mb_M_isBlocked 5 = .ok (.iaload, 1) := by decide +kernel
theorem d_M_isBlocked_6 : decode mb_M_isBlocked 6 = .ok (.iconst 2, 1) := by decide +kernel
theorem d_M_isBlocked_7 : decode mb_M_isBlocked 7 = .ok (.if_icmp .le 23, 3) := by decide +kernel
theorem d_M_isBlocked_10 : decode mb_M_isBlocked 10 = .ok (.aload_n 0, 1) := by decide +kernel
theorem d_M_isBlocked_11 : decode mb_M_isBlocked 11 = .ok (.getfield 145, 3) := by decide +kernel
theorem d_M_isBlocked_14 : decode mb_M_isBlocked 14 = .ok (.aload_n 0, 1) := by decide +kernel
theorem d_M_isBlocked_15 : decode mb_M_isBlocked 15 = .ok (.getfield 32, 3) := by decide +kernel
theorem d_M_isBlocked_18 : decode mb_M_isBlocked 18 = .ok (.iload_n 1, 1) := by decide +kernel
theorem d_M_isBlocked_19 : decode mb_M_isBlocked 19 = .ok (.iaload, 1) := by decide +kernel
theorem d_M_isBlocked_20 : decode mb_M_isBlocked 20 = .ok (.isub, 1) := by decide +kernel
theorem d_M_isBlocked_21 : decode mb_M_isBlocked 21 = .ok (.bipush 30, 2) := by decide +kernel
theorem d_M_isBlocked_23 : decode mb_M_isBlocked 23 = .ok (.if_icmp .ge 7, 3) := by decide +kernel
theorem d_M_isBlocked_26 : decode mb_M_isBlocked 26 = .ok (.iconst 1, 1) := by decide +kernel
theorem d_M_isBlocked_27 : decode mb_M_isBlocked 27 = .ok (.goto 4, 3) := by decide +kernel
theorem d_M_isBlocked_30 : decode mb_M_isBlocked 30 = .ok (.iconst 0, 1) := by decide +kernel
theorem d_M_isBlocked_31 : decode mb_M_isBlocked 31 = .ok (.ireturn, 1) := by decide +kernel
theorem d_M_server_0 : decode mb_M_server 0 = .ok (.aload_n 0, 1) := by decide +kernel
theorem d_M_server_1 : decode mb_M_server 1 = .ok (.iload_n 1, 1) := by decide +kernel
theorem d_M_server_2 : decode mb_M_server 2 = .ok (.invokestatic 113, 3) := by decide +kernel
theorem d_M_server_5 : decode mb_M_server 5 = .ok (.ifCond .eq 10, 3) := by decide +kernel
theorem d_M_server_8 : decode mb_M_server 8 = .ok (.iload_n 2, 1) := by decide +kernel
theorem d_M_server_9 : decode mb_M_server 9 = .ok (.invokestatic 117, 3) := by decide +kernel
theorem d_M_server_12 : decode mb_M_server 12 = .ok (.ifCond .ne 7, 3) := by decide +kernel
theorem d_M_server_15 : decode mb_M_server 15 = .ok (.iconst 1, 1) := by decide +kernel
theorem d_M_server_16 : decode mb_M_server 16 = .ok (.goto 25, 3) := by decide +kernel
theorem d_M_server_19 : decode mb_M_server 19 = .ok (.aload_n 0, 1) := by decide +kernel
theorem d_M_server_20 : decode mb_M_server 20 = .ok (.getfield 142, 3) := by decide +kernel
theorem d_M_server_23 : decode mb_M_server 23 = .ok (.bipush 40, 2) := by decide +kernel
theorem d_M_server_25 : decode mb_M_server 25 = .ok (.if_icmp .eq 11, 3) := by decide +kernel
theorem d_M_server_28 : decode mb_M_server 28 = .ok (.aload_n 0, 1) := by decide +kernel
theorem d_M_server_29 : decode mb_M_server 29 = .ok (.iload_n 1, 1) := by decide +kernel
theorem d_M_server_30 : decode mb_M_server 30 = .ok (.invokevirtual 154, 3) := by decide +kernel
theorem d_M_server_33 : decode mb_M_server 33 = .ok (.ifCond .eq 7, 3) := by decide +kernel
theorem d_M_server_36 : decode mb_M_server 36 = .ok (.iconst 2, 1) := by decide +kernel
theorem d_M_server_37 : decode mb_M_server 37 = .ok (.goto 4, 3) := by decide +kernel
theorem d_M_server_40 : decode mb_M_server 40 = .ok (.iconst 0, 1) := by decide +kernel
theorem d_M_server_41 : decode mb_M_server 41 = .ok (.putfield 76, 3) := by decide +kernel
theorem d_M_server_44 : decode mb_M_server 44 = .ok (.aload_n 0, 1) := by decide +kernel
theorem d_M_server_45 : decode mb_M_server 45 = .ok (.getfield 76, 3) := by decide +kernel
theorem d_M_server_48 : decode mb_M_server 48 = .ok (.ifCond .le 5, 3) := by decide +kernel
theorem d_M_server_51 : decode mb_M_server 51 = .ok (.iconst 0, 1) := by decide +kernel
theorem d_M_server_52 : decode mb_M_server 52 = .ok (.ireturn, 1) := by decide +kernel
theorem d_M_server_53 : decode mb_M_server 53 = .ok (.aload_n 0, 1) := by decide +kernel
theorem d_M_server_54 : decode mb_M_server 54 = .ok (.iload_n 1, 1) := by decide +kernel
theorem d_M_server_55 : decode mb_M_server 55 = .ok (.iload_n 2, 1) := by decide +kernel
theorem d_M_server_56 : decode mb_M_server 56 = .ok (.lload_n 3, 1) := by decide +kernel
theorem d_M_server_57 : decode mb_M_server 57 = .ok (.invokevirtual 148, 3) := by decide +kernel
theorem d_M_server_60 : decode mb_M_server 60 = .ok (.istore 5, 2) := by decide +kernel
theorem d_M_server_62 : decode mb_M_server 62 = .ok (.aload_n 0, 1) := by decide +kernel
theorem d_M_server_63 : decode mb_M_server 63 = .ok (.getfield 35, 3) := by decide +kernel
theorem d_M_server_66 : decode mb_M_server 66 = .ok (.iload 5, 2) := by decide +kernel
theorem d_M_server_68 : decode mb_M_server 68 = .ok (.iconst 1, 1) := by decide +kernel
theorem d_M_server_69 : decode mb_M_server 69 = .ok (.bastore, 1) := by decide +kernel
theorem d_M_server_70 : decode mb_M_server 70 = .ok (.aload_n 0, 1) := by decide +kernel
theorem d_M_server_71 : decode mb_M_server 71 = .ok (.getfield 7, 3) := by decide +kernel
theorem d_M_server_74 : decode mb_M_server 74 = .ok (.iload_n 1, 1) := by decide +kernel
theorem d_M_server_75 : decode mb_M_server 75 = .ok (.iaload, 1) := by decide +kernel
theorem d_M_server_76 : decode mb_M_server 76 = .ok (.iload_n 2, 1) := by decide +kernel
theorem d_M_server_77 : decode mb_M_server 77 = .ok (.if_icmp .ne 7, 3) := by decide +kernel
theorem d_M_server_80 : decode mb_M_server 80 = .ok (.iconst 1, 1) := by decide +kernel
theorem d_M_server_81 : decode mb_M_server 81 = .ok (.goto 4, 3) := by decide +kernel
theorem d_M_server_84 : decode mb_M_server 84 = .ok (.iconst 0, 1) := by decide +kernel
theorem d_M_server_85 : decode mb_M_server 85 = .ok (.istore 6, 2) := by decide +kernel
theorem d_M_server_87 : decode mb_M_server 87 = .ok (.iload_n 2, 1) := by decide +kernel
theorem d_M_server_88 : decode mb_M_server 88 = .ok (.ifCond .ne 36, 3) := by decide +kernel
theorem d_M_server_91 : decode mb_M_server 91 = .ok (.aload_n 0, 1) := by decide +kernel
theorem d_M_server_92 : decode mb_M_server 92 = .ok (.getfield 57, 3) := by decide +kernel
theorem d_M_server_95 : decode mb_M_server 95 = .ok (.iload 5, 2) := by decide +kernel
theorem d_M_server_97 : decode mb_M_server 97 = .ok (.iload 6, 2) := by decide +kernel
theorem d_M_server_99 : decode mb_M_server 99 = .ok (.ifCond .eq 12, 3) := by decide +kernel
theorem d_M_server_102 : decode mb_M_server 102 = .ok (.aload_n 0, 1) := by decide +kernel
theorem d_M_server_103 : decode mb_M_server 103 = .ok (.getfield 13, 3) := by decide +kernel
theorem d_M_server_106 : decode mb_M_server 106 = .ok (.iload_n 1, 1) := by decide +kernel
theorem d_M_server_107 : decode mb_M_server 107 = .ok (.laload, 1) := by decide +kernel
theorem d_M_server_108 : decode mb_M_server 108 = .ok (.goto 12, 3) := by decide +kernel
theorem d_M_server_111 : decode mb_M_server 111 = .ok (.aload_n 0, 1) := by decide +kernel
theorem d_M_server_112 : decode mb_M_server 112 = .ok (.iconst 3, 1) := by decide +kernel
theorem d_M_server_113 : decode mb_M_server 113 = .ok (.iload_n 1, 1) := by decide +kernel
theorem d_M_server_114 : decode mb_M_server 114 = .ok (.invokevirtual 134, 3) := by decide +kernel
theorem d_M_server_117 : decode mb_M_server 117 = .ok (.invokestatic 109, 3) := by decide +kernel
theorem d_M_server_120 : decode mb_M_server 120 = .ok (.lastore, 1) := by decide +kernel
theorem d_M_server_121 : decode mb_M_server 121 = .ok (.goto 39, 3) := by decide +kernel
theorem d_M_server_124 : decode mb_M_server 124 = .ok (.aload_n 0, 1) := by decide +kernel
theorem d_M_server_125 : decode mb_M_server 125 = .ok (.getfield 57, 3) := by decide +kernel
theorem d_M_server_128 : decode mb_M_server 128 = .ok (.iload 5, 2) := by decide +kernel
theorem d_M_server_130 : decode mb_M_server 130 = .ok (.iload 6, 2) := by decide +kernel
theorem d_M_server_132 : decode mb_M_server 132 = .ok (.ifCond .eq 12, 3) := by decide +kernel
theorem d_M_server_135 : decode mb_M_server 135 = .ok (.aload_n 0, 1) := by decide +kernel
theorem d_M_server_136 : decode mb_M_server 136 = .ok (.getfield 20, 3) := by decide +kernel
theorem d_M_server_139 : decode mb_M_server 139 = .ok (.iload_n 1, 1) := by decide +kernel
theorem d_M_server_140 : decode mb_M_server 140 = .ok (.laload, 1) := by decide +kernel
theorem d_M_server_141 : decode mb_M_server 141 = .ok (.goto 18, 3) := by decide +kernel
theorem d_M_server_144 : decode mb_M_server 144 = .ok (.ldc2_w 124, 3) := by decide +kernel
theorem d_M_server_147 : decode mb_M_server 147 = .ok (.aload_n 0, 1) := by decide +kernel
theorem d_M_server_148 : decode mb_M_server 148 = .ok (.iconst 5, 1) := by decide +kernel
theorem d_M_server_149 : decode mb_M_server 149 = .ok (.iload_n 1, 1) := by decide +kernel
theorem d_M_server_150 : decode mb_M_server 150 = .ok (.invokevirtual 134, 3) := by decide +kernel
theorem d_M_server_153 : decode mb_M_server 153 = .ok (.invokestatic 109, 3) := by decide +kernel
theorem d_M_server_156 : decode mb_M_server 156 = .ok (.invokestatic 130, 3) := by decide +kernel
theorem d_M_server_159 : decode mb_M_server 159 = .ok (.lastore, 1) := by decide +kernel
theorem d_M_server_160 : decode mb_M_server 160 = .ok (.iload 5, 2) := by decide +kernel
theorem d_M_server_162 : decode mb_M_server 162 = .ok (.ireturn, 1) := by decide +kernel
theorem d_M_there_0 : decode mb_M_there 0 = .ok (.iload_n 1, 1) := by decide +kernel
theorem d_M_there_1 : decode mb_M_there 1 = .ok (.ifCond .lt 15, 3) := by decide +kernel
theorem d_M_there_4 : decode mb_M_there 4 = .ok (.iload_n 1, 1) := by decide +kernel
theorem d_M_there_5 : decode mb_M_there 5 = .ok (.aload_n 0, 1) := by decide +kernel
theorem d_M_there_6 : decode mb_M_there 6 = .ok (.getfield 142, 3) := by decide +kernel
theorem d_M_there_9 : decode mb_M_there 9 = .ok (.if_icmp .ge 7, 3) := by decide +kernel
theorem d_M_there_12 : decode mb_M_there 12 = .ok (.iconst 1, 1) := by decide +kernel
theorem d_M_there_13 : decode mb_M_there 13 = .ok (.goto 4, 3) := by decide +kernel
theorem d_M_there_16 : decode mb_M_there 16 = .ok (.iconst 0, 1) := by decide +kernel
theorem d_M_there_17 : decode mb_M_there 17 = .ok (.ireturn, 1) := by decide +kernel
theorem d_M_stateOf_0 : decode mb_M_stateOf 0 = .ok (.aload_n 0, 1) := by decide +kernel
theorem d_M_stateOf_1 : decode mb_M_stateOf 1 = .ok (.getfield 45, 3) := by decide +kernel
theorem d_M_stateOf_4 : decode mb_M_stateOf 4 = .ok (.iload_n 1, 1) := by decide +kernel
theorem d_M_stateOf_5 : decode mb_M_stateOf 5 = .ok (.iaload, 1) := by decide +kernel
theorem d_M_stateOf_6 : decode mb_M_stateOf 6 = .ok (.iconst 2, 1) := by decide +kernel
theorem d_M_stateOf_7 : decode mb_M_stateOf 7 = .ok (.if_icmp .ge 23, 3) := by decide +kernel
theorem d_M_stateOf_10 : decode mb_M_stateOf 10 = .ok (.aload_n 0, 1) := by decide +kernel
theorem d_M_stateOf_11 : decode mb_M_stateOf 11 = .ok (.getfield 145, 3) := by decide +kernel
theorem d_M_stateOf_14 : decode mb_M_stateOf 14 = .ok (.aload_n 0, 1) := by decide +kernel
theorem d_M_stateOf_15 : decode mb_M_stateOf 15 = .ok (.getfield 48, 3) := by decide +kernel
theorem d_M_stateOf_18 : decode mb_M_stateOf 18 = .ok (.iload_n 1, 1) := by decide +kernel
theorem d_M_stateOf_19 : decode mb_M_stateOf 19 = .ok (.iaload, 1) := by decide +kernel
theorem d_M_stateOf_20 : decode mb_M_stateOf 20 = .ok (.isub, 1) := by decide +kernel
theorem d_M_stateOf_21 : decode mb_M_stateOf 21 = .ok (.bipush 20, 2) := by decide +kernel
theorem d_M_stateOf_23 : decode mb_M_stateOf 23 = .ok (.if_icmp .lt 7, 3) := by decide +kernel
theorem d_M_stateOf_26 : decode mb_M_stateOf 26 = .ok (.iconst 4, 1) := by decide +kernel
theorem d_M_stateOf_27 : decode mb_M_stateOf 27 = .ok (.goto 9, 3) := by decide +kernel
theorem d_M_stateOf_30 : decode mb_M_stateOf 30 = .ok (.aload_n 0, 1) := by decide +kernel
theorem d_M_stateOf_31 : decode mb_M_stateOf 31 = .ok (.getfield 45, 3) := by decide +kernel
theorem d_M_stateOf_34 : decode mb_M_stateOf 34 = .ok (.iload_n 1, 1) := by decide +kernel
theorem d_M_stateOf_35 : decode mb_M_stateOf 35 = .ok (.iaload, 1) := by decide +kernel
theorem d_M_stateOf_36 : decode mb_M_stateOf 36 = .ok (.ireturn, 1) := by decide +kernel
theorem d_M_bare_0 : decode mb_M_bare 0 = .ok (.aload_n 0, 1) := by decide +kernel
theorem d_M_bare_1 : decode mb_M_bare 1 = .ok (.getfield 35, 3) := by decide +kernel
theorem d_M_bare_4 : decode mb_M_bare 4 = .ok (.iload_n 1, 1) := by decide +kernel
theorem d_M_bare_5 : decode mb_M_bare 5 = .ok (.baload, 1) := by decide +kernel
theorem d_M_bare_6 : decode mb_M_bare 6 = .ok (.ifCond .eq 9, 3) := by decide +kernel
theorem d_M_bare_9 : decode mb_M_bare 9 = .ok (.ldc2_w 152, 3) := by decide +kernel
theorem d_M_bare_12 : decode mb_M_bare 12 = .ok (.goto 6, 3) := by decide +kernel
theorem d_M_bare_15 : decode mb_M_bare 15 = .ok (.ldc2_w 157, 3) := by decide +kernel
theorem d_M_bare_18 : decode mb_M_bare 18 = .ok (.aload_n 0, 1) := by decide +kernel
theorem d_M_bare_19 : decode mb_M_bare 19 = .ok (.getfield 57, 3) := by decide +kernel
theorem d_M_bare_22 : decode mb_M_bare 22 = .ok (.iload_n 1, 1) := by decide +kernel
theorem d_M_bare_23 : decode mb_M_bare 23 = .ok (.laload, 1) := by decide +kernel
theorem d_M_bare_24 : decode mb_M_bare 24 = .ok (.invokestatic 130, 3) := by decide +kernel
theorem d_M_bare_27 : decode mb_M_bare 27 = .ok (.lstore 4, 2) := by decide +kernel
theorem d_M_bare_29 : decode mb_M_bare 29 = .ok (.lload_n 2, 1) := by decide +kernel
theorem d_M_bare_30 : decode mb_M_bare 30 = .ok (.lload 4, 2) := by decide +kernel
theorem d_M_bare_32 : decode mb_M_bare 32 = .ok (.ldc2_w 159, 3) := by decide +kernel
theorem d_M_bare_35 : decode mb_M_bare 35 = .ok (.invokestatic 130, 3) := by decide +kernel
theorem d_M_bare_38 : decode mb_M_bare 38 = .ok (.lmul, 1) := by decide +kernel
theorem d_M_bare_39 : decode mb_M_bare 39 = .ok (.ldc2_w 80, 3) := by decide +kernel
theorem d_M_bare_42 : decode mb_M_bare 42 = .ok (.lrem, 1) := by decide +kernel
theorem d_M_bare_43 : decode mb_M_bare 43 = .ok (.lreturn, 1) := by decide +kernel
theorem d_M_isRight_0 : decode mb_M_isRight 0 = .ok (.lload_n 2, 1) := by decide +kernel
theorem d_M_isRight_1 : decode mb_M_isRight 1 = .ok (.lconst 1, 1) := by decide +kernel
theorem d_M_isRight_2 : decode mb_M_isRight 2 = .ok (.lcmp, 1) := by decide +kernel
theorem d_M_isRight_3 : decode mb_M_isRight 3 = .ok (.ifCond .lt 11, 3) := by decide +kernel
theorem d_M_isRight_6 : decode mb_M_isRight 6 = .ok (.lload_n 2, 1) := by decide +kernel
theorem d_M_isRight_7 : decode mb_M_isRight 7 = .ok (.ldc2_w 80, 3) := by decide +kernel
theorem d_M_isRight_10 : decode mb_M_isRight 10 = .ok (.lcmp, 1) := by decide +kernel
theorem d_M_isRight_11 : decode mb_M_isRight 11 = .ok (.ifCond .lt 5, 3) := by decide +kernel
theorem d_M_isRight_14 : decode mb_M_isRight 14 = .ok (.iconst 0, 1) := by decide +kernel
theorem d_M_isRight_15 : decode mb_M_isRight 15 = .ok (.ireturn, 1) := by decide +kernel
theorem d_M_isRight_16 : decode mb_M_isRight 16 = .ok (.aload_n 0, 1) := by decide +kernel
theorem d_M_isRight_17 : decode mb_M_isRight 17 = .ok (.getfield 39, 3) := by decide +kernel
theorem d_M_isRight_20 : decode mb_M_isRight 20 = .ok (.iload_n 1, 1) := by decide +kernel
theorem d_M_isRight_21 : decode mb_M_isRight 21 = .ok (.iaload, 1) := by decide +kernel
theorem d_M_isRight_22 : decode mb_M_isRight 22 = .ok (.iconst 1, 1) := by decide +kernel
theorem d_M_isRight_23 : decode mb_M_isRight 23 = .ok (.if_icmp .eq 26, 3) := by decide +kernel
theorem d_M_isRight_26 : decode mb_M_isRight 26 = .ok (.lload_n 2, 1) := by decide +kernel
theorem d_M_isRight_27 : decode mb_M_isRight 27 = .ok (.ldc2_w 161, 3) := by decide +kernel
theorem d_M_isRight_30 : decode mb_M_isRight 30 = .ok (.invokestatic 130, 3) := by decide +kernel
theorem d_M_isRight_33 : decode mb_M_isRight 33 = .ok (.lconst 1, 1) := by decide +kernel
theorem d_M_isRight_34 : decode mb_M_isRight 34 = .ok (.lcmp, 1) := by decide +kernel
theorem d_M_isRight_35 : decode mb_M_isRight 35 = .ok (.ifCond .ne 18, 3) := by decide +kernel
theorem d_M_isRight_38 : decode mb_M_isRight 38 = .ok (.aload_n 0, 1) := by decide +kernel
theorem d_M_isRight_39 : decode mb_M_isRight 39 = .ok (.iload_n 1, 1) := by decide +kernel
theorem d_M_isRight_40 : decode mb_M_isRight 40 = .ok (.lload_n 2, 1) := by decide +kernel
theorem d_M_isRight_41 : decode mb_M_isRight 41 = .ok (.invokevirtual 163, 3) := by decide +kernel
theorem d_M_isRight_44 : decode mb_M_isRight 44 = .ok (.lconst 1, 1) := by decide +kernel
theorem d_M_isRight_45 : decode mb_M_isRight 45 = .ok (.lcmp, 1) := by decide +kernel
theorem d_M_isRight_46 : decode mb_M_isRight 46 = .ok (.ifCond .eq 7, 3) := by decide +kernel
theorem d_M_isRight_49 : decode mb_M_isRight 49 = .ok (.iconst 1, 1) := by decide +kernel
theorem d_M_isRight_50 : decode mb_M_isRight 50 = .ok (.goto 4, 3) := by decide +kernel
theorem d_M_isRight_53 : decode mb_M_isRight 53 = .ok (.iconst 0, 1) := by decide +kernel
theorem d_M_isRight_54 : decode mb_M_isRight 54 = .ok (.ireturn, 1) := by decide +kernel
theorem d_M_agree_0 : decode mb_M_agree 0 = .ok (.aload_n 0, 1) := by decide +kernel
theorem d_M_agree_1 : decode mb_M_agree 1 = .ok (.getfield 42, 3) := by decide +kernel
theorem d_M_agree_4 : decode mb_M_agree 4 = .ok (.iload_n 1, 1) := by decide +kernel
theorem d_M_agree_5 : decode mb_M_agree 5 = .ok (.iaload, 1) := by decide +kernel
theorem d_M_agree_6 : decode mb_M_agree 6 = .ok (.istore 4, 2) := by decide +kernel
theorem d_M_agree_8 : decode mb_M_agree 8 = .ok (.aload_n 0, 1) := by decide +kernel
theorem d_M_agree_9 : decode mb_M_agree 9 = .ok (.getfield 60, 3) := by decide +kernel
theorem d_M_agree_12 : decode mb_M_agree 12 = .ok (.iload_n 1, 1) := by decide +kernel
theorem d_M_agree_13 : decode mb_M_agree 13 = .ok (.laload, 1) := by decide +kernel
theorem d_M_agree_14 : decode mb_M_agree 14 = .ok (.lstore 5, 2) := by decide +kernel
theorem d_M_agree_16 : decode mb_M_agree 16 = .ok (.aload_n 0, 1) := by decide +kernel
theorem d_M_agree_17 : decode mb_M_agree 17 = .ok (.getfield 63, 3) := by decide +kernel
theorem d_M_agree_20 : decode mb_M_agree 20 = .ok (.iload_n 1, 1) := by decide +kernel
theorem d_M_agree_21 : decode mb_M_agree 21 = .ok (.laload, 1) := by decide +kernel
theorem d_M_agree_22 : decode mb_M_agree 22 = .ok (.lstore 7, 2) := by decide +kernel
theorem d_M_agree_24 : decode mb_M_agree 24 = .ok (.aload_n 0, 1) := by decide +kernel
theorem d_M_agree_25 : decode mb_M_agree 25 = .ok (.getfield 51, 3) := by decide +kernel
theorem d_M_agree_28 : decode mb_M_agree 28 = .ok (.iload_n 1, 1) := by decide +kernel
theorem d_M_agree_29 : decode mb_M_agree 29 = .ok (.laload, 1) := by decide +kernel
theorem d_M_agree_30 : decode mb_M_agree 30 = .ok (.lstore 9, 2) := by decide +kernel
theorem d_M_agree_32 : decode mb_M_agree 32 = .ok (.aload_n 0, 1) := by decide +kernel
theorem d_M_agree_33 : decode mb_M_agree 33 = .ok (.getfield 39, 3) := by decide +kernel
theorem d_M_agree_36 : decode mb_M_agree 36 = .ok (.iload_n 1, 1) := by decide +kernel
theorem d_M_agree_37 : decode mb_M_agree 37 = .ok (.iaload, 1) := by decide +kernel
theorem d_M_agree_38 : decode mb_M_agree 38 = .ok (.ifCond .ne 65, 3) := by decide +kernel
theorem d_M_agree_41 : decode mb_M_agree 41 = .ok (.aload_n 0, 1) := by decide +kernel
theorem d_M_agree_42 : decode mb_M_agree 42 = .ok (.iload_n 1, 1) := by decide +kernel
theorem d_M_agree_43 : decode mb_M_agree 43 = .ok (.lload_n 2, 1) := by decide +kernel
theorem d_M_agree_44 : decode mb_M_agree 44 = .ok (.invokevirtual 163, 3) := by decide +kernel
theorem d_M_agree_47 : decode mb_M_agree 47 = .ok (.lload 9, 2) := by decide +kernel
theorem d_M_agree_49 : decode mb_M_agree 49 = .ok (.invokestatic 130, 3) := by decide +kernel
theorem d_M_agree_52 : decode mb_M_agree 52 = .ok (.lstore 11, 2) := by decide +kernel
theorem d_M_agree_54 : decode mb_M_agree 54 = .ok (.aload_n 0, 1) := by decide +kernel
theorem d_M_agree_55 : decode mb_M_agree 55 = .ok (.ldc2_w 166, 3) := by decide +kernel
theorem d_M_agree_58 : decode mb_M_agree 58 = .ok (.iload 4, 2) := by decide +kernel
theorem d_M_agree_60 : decode mb_M_agree 60 = .ok (.i2l, 1) := by decide +kernel
theorem d_M_agree_61 : decode mb_M_agree 61 = .ok (.invokevirtual 101, 3) := by decide +kernel
theorem d_M_agree_64 : decode mb_M_agree 64 = .ok (.aload_n 0, 1) := by decide +kernel
theorem d_M_agree_65 : decode mb_M_agree 65 = .ok (.lload 5, 2) := by decide +kernel
theorem d_M_agree_67 : decode mb_M_agree 67 = .ok (.invokevirtual 93, 3) := by decide +kernel
theorem d_M_agree_70 : decode mb_M_agree 70 = .ok (.aload_n 0, 1) := by decide +kernel
theorem d_M_agree_71 : decode mb_M_agree 71 = .ok (.lload 7, 2) := by decide +kernel
theorem d_M_agree_73 : decode mb_M_agree 73 = .ok (.invokevirtual 93, 3) := by decide +kernel
theorem d_M_agree_76 : decode mb_M_agree 76 = .ok (.aload_n 0, 1) := by decide +kernel
theorem d_M_agree_77 : decode mb_M_agree 77 = .ok (.lload 11, 2) := by decide +kernel
theorem d_M_agree_79 : decode mb_M_agree 79 = .ok (.invokevirtual 93, 3) := by decide +kernel
theorem d_M_agree_82 : decode mb_M_agree 82 = .ok (.aload_n 0, 1) := by decide +kernel
theorem d_M_agree_83 : decode mb_M_agree 83 = .ok (.aload_n 0, 1) := by decide +kernel
theorem d_M_agree_84 : decode mb_M_agree 84 = .ok (.getfield 57, 3) := by decide +kernel
theorem d_M_agree_87 : decode mb_M_agree 87 = .ok (.iload_n 1, 1) := by decide +kernel
theorem d_M_agree_88 : decode mb_M_agree 88 = .ok (.laload, 1) := by decide +kernel
theorem d_M_agree_89 : decode mb_M_agree 89 = .ok (.invokevirtual 93, 3) := by decide +kernel
theorem d_M_agree_92 : decode mb_M_agree 92 = .ok (.aload_n 0, 1) := by decide +kernel
theorem d_M_agree_93 : decode mb_M_agree 93 = .ok (.getfield 66, 3) := by decide +kernel
theorem d_M_agree_96 : decode mb_M_agree 96 = .ok (.iload_n 1, 1) := by decide +kernel
theorem d_M_agree_97 : decode mb_M_agree 97 = .ok (.aload_n 0, 1) := by decide +kernel
theorem d_M_agree_98 : decode mb_M_agree 98 = .ok (.invokevirtual 105, 3) := by decide +kernel
theorem d_M_agree_101 : decode mb_M_agree 101 = .ok (.lastore, 1) := by decide +kernel
theorem d_M_agree_102 : decode mb_M_agree 102 = .ok (.return_, 1) := by decide +kernel
theorem d_M_agree_103 : decode mb_M_agree 103 = .ok (.aload_n 0, 1) := by decide +kernel
theorem d_M_agree_104 : decode mb_M_agree 104 = .ok (.ldc2_w 168, 3) := by decide +kernel
theorem d_M_agree_107 : decode mb_M_agree 107 = .ok (.lload 5, 2) := by decide +kernel
theorem d_M_agree_109 : decode mb_M_agree 109 = .ok (.invokevirtual 101, 3) := by decide +kernel
theorem d_M_agree_112 : decode mb_M_agree 112 = .ok (.aload_n 0, 1) := by decide +kernel
theorem d_M_agree_113 : decode mb_M_agree 113 = .ok (.lload 7, 2) := by decide +kernel
theorem d_M_agree_115 : decode mb_M_agree 115 = .ok (.invokevirtual 93, 3) := by decide +kernel
theorem d_M_agree_118 : decode mb_M_agree 118 = .ok (.aload_n 0, 1) := by decide +kernel
theorem d_M_agree_119 : decode mb_M_agree 119 = .ok (.invokevirtual 105, 3) := by decide +kernel
theorem d_M_agree_122 : decode mb_M_agree 122 = .ok (.invokestatic 109, 3) := by decide +kernel
theorem d_M_agree_125 : decode mb_M_agree 125 = .ok (.lstore 11, 2) := by decide +kernel
theorem d_M_agree_127 : decode mb_M_agree 127 = .ok (.aload_n 0, 1) := by decide +kernel
theorem d_M_agree_128 : decode mb_M_agree 128 = .ok (.getfield 35, 3) := by decide +kernel
theorem d_M_agree_131 : decode mb_M_agree 131 = .ok (.iload_n 1, 1) := by decide +kernel
theorem d_M_agree_132 : decode mb_M_agree 132 = .ok (.baload, 1) := by decide +kernel
theorem d_M_agree_133 : decode mb_M_agree 133 = .ok (.ifCond .eq 31, 3) := by decide +kernel
theorem d_M_agree_136 : decode mb_M_agree 136 = .ok (.lload 5, 2) := by decide +kernel
theorem d_M_agree_138 : decode mb_M_agree 138 = .ok (.aload_n 0, 1) := by decide +kernel
theorem d_M_agree_139 : decode mb_M_agree 139 = .ok (.getfield 57, 3) := by decide +kernel
theorem d_M_agree_142 : decode mb_M_agree 142 = .ok (.iload_n 1, 1) := by decide +kernel
theorem d_M_agree_143 : decode mb_M_agree 143 = .ok (.laload, 1) := by decide +kernel
theorem d_M_agree_144 : decode mb_M_agree 144 = .ok (.lload 11, 2) := by decide +kernel
theorem d_M_agree_146 : decode mb_M_agree 146 = .ok (.invokestatic 130, 3) := by decide +kernel
theorem d_M_agree_149 : decode mb_M_agree 149 = .ok (.lmul, 1) := by decide +kernel
theorem d_M_agree_150 : decode mb_M_agree 150 = .ok (.ldc2_w 80, 3) := by decide +kernel
theorem d_M_agree_153 : decode mb_M_agree 153 = .ok (.lrem, 1) := by decide +kernel
theorem d_M_agree_154 : decode mb_M_agree 154 = .ok (.lload 9, 2) := by decide +kernel
theorem d_M_agree_156 : decode mb_M_agree 156 = .ok (.invokestatic 130, 3) := by decide +kernel
theorem d_M_agree_159 : decode mb_M_agree 159 = .ok (.lstore 13, 2) := by decide +kernel
theorem d_M_agree_161 : decode mb_M_agree 161 = .ok (.goto 75, 3) := by decide +kernel
theorem d_M_agree_164 : decode mb_M_agree 164 = .ok (.aload_n 0, 1) := by decide +kernel
theorem d_M_agree_165 : decode mb_M_agree 165 = .ok (.aload_n 0, 1) := by decide +kernel
theorem d_M_agree_166 : decode mb_M_agree 166 = .ok (.iload 4, 2) := by decide +kernel
theorem d_M_agree_168 : decode mb_M_agree 168 = .ok (.invokevirtual 138, 3) := by decide +kernel
theorem d_M_agree_171 : decode mb_M_agree 171 = .ok (.iload 4, 2) := by decide +kernel
theorem d_M_agree_173 : decode mb_M_agree 173 = .ok (.aload_n 0, 1) := by decide +kernel
theorem d_M_agree_174 : decode mb_M_agree 174 = .ok (.getfield 54, 3) := by decide +kernel
theorem d_M_agree_177 : decode mb_M_agree 177 = .ok (.iload_n 1, 1) := by decide +kernel
theorem d_M_agree_178 : decode mb_M_agree 178 = .ok (.laload, 1) := by decide +kernel
theorem d_M_agree_179 : decode mb_M_agree 179 = .ok (.invokevirtual 126, 3) := by decide +kernel
theorem d_M_agree_182 : decode mb_M_agree 182 = .ok (.lstore 15, 2) := by decide +kernel
theorem d_M_agree_184 : decode mb_M_agree 184 = .ok (.lload 7, 2) := by decide +kernel
theorem d_M_agree_186 : decode mb_M_agree 186 = .ok (.ldc2_w 80, 3) := by decide +kernel
theorem d_M_agree_189 : decode mb_M_agree 189 = .ok (.ladd, 1) := by decide +kernel
theorem d_M_agree_190 : decode mb_M_agree 190 = .ok (.ldc2_w 170, 3) := by decide +kernel
theorem d_M_agree_193 : decode mb_M_agree 193 = .ok (.ldc2_w 124, 3) := by decide +kernel
theorem d_M_agree_196 : decode mb_M_agree 196 = .ok (.lload 15, 2) := by decide +kernel
theorem d_M_agree_198 : decode mb_M_agree 198 = .ok (.invokestatic 130, 3) := by decide +kernel
theorem d_M_agree_201 : decode mb_M_agree 201 = .ok (.lmul, 1) := by decide +kernel
theorem d_M_agree_202 : decode mb_M_agree 202 = .ok (.ldc2_w 80, 3) := by decide +kernel
theorem d_M_agree_205 : decode mb_M_agree 205 = .ok (.lrem, 1) := by decide +kernel
theorem d_M_agree_206 : decode mb_M_agree 206 = .ok (.lsub, 1) := by decide +kernel
theorem d_M_agree_207 : decode mb_M_agree 207 = .ok (.ldc2_w 80, 3) := by decide +kernel
theorem d_M_agree_210 : decode mb_M_agree 210 = .ok (.lrem, 1) := by decide +kernel
theorem d_M_agree_211 : decode mb_M_agree 211 = .ok (.lstore 17, 2) := by decide +kernel
theorem d_M_agree_213 : decode mb_M_agree 213 = .ok (.lload 17, 2) := by decide +kernel
theorem d_M_agree_215 : decode mb_M_agree 215 = .ok (.lload 9, 2) := by decide +kernel
theorem d_M_agree_217 : decode mb_M_agree 217 = .ok (.lload 11, 2) := by decide +kernel
theorem d_M_agree_219 : decode mb_M_agree 219 = .ok (.lload 15, 2) := by decide +kernel
theorem d_M_agree_221 : decode mb_M_agree 221 = .ok (.lmul, 1) := by decide +kernel
theorem d_M_agree_222 : decode mb_M_agree 222 = .ok (.ldc2_w 161, 3) := by decide +kernel
theorem d_M_agree_225 : decode mb_M_agree 225 = .ok (.lrem, 1) := by decide +kernel
theorem d_M_agree_226 : decode mb_M_agree 226 = .ok (.ladd, 1) := by decide +kernel
theorem d_M_agree_227 : decode mb_M_agree 227 = .ok (.ldc2_w 161, 3) := by decide +kernel
theorem d_M_agree_230 : decode mb_M_agree 230 = .ok (.lrem, 1) := by decide +kernel
theorem d_M_agree_231 : decode mb_M_agree 231 = .ok (.invokestatic 130, 3) := by decide +kernel
theorem d_M_agree_234 : decode mb_M_agree 234 = .ok (.lstore 13, 2) := by decide +kernel
theorem d_M_agree_236 : decode mb_M_agree 236 = .ok (.aload_n 0, 1) := by decide +kernel
theorem d_M_agree_237 : decode mb_M_agree 237 = .ok (.ldc2_w 172, 3) := by decide +kernel
theorem d_M_agree_240 : decode mb_M_agree 240 = .ok (.iload 4, 2) := by decide +kernel
theorem d_M_agree_242 : decode mb_M_agree 242 = .ok (.i2l, 1) := by decide +kernel
theorem d_M_agree_243 : decode mb_M_agree 243 = .ok (.invokevirtual 101, 3) := by decide +kernel
theorem d_M_agree_246 : decode mb_M_agree 246 = .ok (.aload_n 0, 1) := by decide +kernel
theorem d_M_agree_247 : decode mb_M_agree 247 = .ok (.lload 5, 2) := by decide +kernel
theorem d_M_agree_249 : decode mb_M_agree 249 = .ok (.invokevirtual 93, 3) := by decide +kernel
theorem d_M_agree_252 : decode mb_M_agree 252 = .ok (.aload_n 0, 1) := by decide +kernel
theorem d_M_agree_253 : decode mb_M_agree 253 = .ok (.lload 7, 2) := by decide +kernel
theorem d_M_agree_255 : decode mb_M_agree 255 = .ok (.invokevirtual 93, 3) := by decide +kernel
theorem d_M_agree_258 : decode mb_M_agree 258 = .ok (.aload_n 0, 1) := by decide +kernel
theorem d_M_agree_259 : decode mb_M_agree 259 = .ok (.lload 13, 2) := by decide +kernel
theorem d_M_agree_261 : decode mb_M_agree 261 = .ok (.invokevirtual 93, 3) := by decide +kernel
theorem d_M_agree_264 : decode mb_M_agree 264 = .ok (.aload_n 0, 1) := by decide +kernel
theorem d_M_agree_265 : decode mb_M_agree 265 = .ok (.getfield 66, 3) := by decide +kernel
theorem d_M_agree_268 : decode mb_M_agree 268 = .ok (.iload_n 1, 1) := by decide +kernel
theorem d_M_agree_269 : decode mb_M_agree 269 = .ok (.aload_n 0, 1) := by decide +kernel
theorem d_M_agree_270 : decode mb_M_agree 270 = .ok (.invokevirtual 105, 3) := by decide +kernel
theorem d_M_agree_273 : decode mb_M_agree 273 = .ok (.lastore, 1) := by decide +kernel
theorem d_M_agree_274 : decode mb_M_agree 274 = .ok (.return_, 1) := by decide +kernel
theorem d_M_confirmation_0 : decode mb_M_confirmation 0 = .ok (.aload_n 0, 1) := by decide +kernel
theorem d_M_confirmation_1 : decode mb_M_confirmation 1 = .ok (.ldc2_w 152, 3) := by decide +kernel
theorem d_M_confirmation_4 : decode mb_M_confirmation 4 = .ok (.aload_n 0, 1) := by decide +kernel
theorem d_M_confirmation_5 : decode mb_M_confirmation 5 = .ok (.getfield 66, 3) := by decide +kernel
theorem d_M_confirmation_8 : decode mb_M_confirmation 8 = .ok (.iload_n 1, 1) := by decide +kernel
theorem d_M_confirmation_9 : decode mb_M_confirmation 9 = .ok (.laload, 1) := by decide +kernel
theorem d_M_confirmation_10 : decode mb_M_confirmation 10 = .ok (.invokevirtual 101, 3) := by decide +kernel
theorem d_M_confirmation_13 : decode mb_M_confirmation 13 = .ok (.aload_n 0, 1) := by decide +kernel
theorem d_M_confirmation_14 : decode mb_M_confirmation 14 = .ok (.aload_n 0, 1) := by decide +kernel
theorem d_M_confirmation_15 : decode mb_M_confirmation 15 = .ok (.getfield 60, 3) := by decide +kernel
theorem d_M_confirmation_18 : decode mb_M_confirmation 18 = .ok (.iload_n 1, 1) := by decide +kernel
theorem d_M_confirmation_19 : decode mb_M_confirmation 19 = .ok (.laload, 1) := by decide +kernel
theorem d_M_confirmation_20 : decode mb_M_confirmation 20 = .ok (.invokevirtual 93, 3) := by decide +kernel
theorem d_M_confirmation_23 : decode mb_M_confirmation 23 = .ok (.aload_n 0, 1) := by decide +kernel
theorem d_M_confirmation_24 : decode mb_M_confirmation 24 = .ok (.aload_n 0, 1) := by decide +kernel
theorem d_M_confirmation_25 : decode mb_M_confirmation 25 = .ok (.getfield 63, 3) := by decide +kernel
theorem d_M_confirmation_28 : decode mb_M_confirmation 28 = .ok (.iload_n 1, 1) := by decide +kernel
theorem d_M_confirmation_29 : decode mb_M_confirmation 29 = .ok (.laload, 1) := by decide +kernel
theorem d_M_confirmation_30 : decode mb_M_confirmation 30 = .ok (.invokevirtual 93, 3) := by decide +kernel
theorem d_M_confirmation_33 : decode mb_M_confirmation 33 = .ok (.aload_n 0, 1) := by decide +kernel
theorem d_M_confirmation_34 : decode mb_M_confirmation 34 = .ok (.invokevirtual 105, 3) := by decide +kernel
theorem d_M_confirmation_37 : decode mb_M_confirmation 37 = .ok (.lreturn, 1) := by decide +kernel
theorem d_M_answer_0 : decode mb_M_answer 0 = .ok (.aload_n 0, 1) := by decide +kernel
theorem d_M_answer_1 : decode mb_M_answer 1 = .ok (.ldc2_w 174, 3) := by decide +kernel
theorem d_M_answer_4 : decode mb_M_answer 4 = .ok (.aload_n 0, 1) := by decide +kernel
theorem d_M_answer_5 : decode mb_M_answer 5 = .ok (.getfield 66, 3) := by decide +kernel
theorem d_M_answer_8 : decode mb_M_answer 8 = .ok (.iload_n 1, 1) := by decide +kernel
theorem d_M_answer_9 : decode mb_M_answer 9 = .ok (.laload, 1) := by decide +kernel
theorem d_M_answer_10 : decode mb_M_answer 10 = .ok (.invokevirtual 101, 3) := by decide +kernel
theorem d_M_answer_13 : decode mb_M_answer 13 = .ok (.aload_n 0, 1) := by decide +kernel
theorem d_M_answer_14 : decode mb_M_answer 14 = .ok (.lload_n 2, 1) := by decide +kernel
theorem d_M_answer_15 : decode mb_M_answer 15 = .ok (.invokevirtual 93, 3) := by decide +kernel
theorem d_M_answer_18 : decode mb_M_answer 18 = .ok (.aload_n 0, 1) := by decide +kernel
theorem d_M_answer_19 : decode mb_M_answer 19 = .ok (.invokevirtual 105, 3) := by decide +kernel
theorem d_M_answer_22 : decode mb_M_answer 22 = .ok (.lreturn, 1) := by decide +kernel
theorem d_M_meet_0 : decode mb_M_meet 0 = .ok (.aload_n 0, 1) := by decide +kernel
theorem d_M_meet_1 : decode mb_M_meet 1 = .ok (.getfield 35, 3) := by decide +kernel
theorem d_M_meet_4 : decode mb_M_meet 4 = .ok (.iload_n 1, 1) := by decide +kernel
theorem d_M_meet_5 : decode mb_M_meet 5 = .ok (.baload, 1) := by decide +kernel
theorem d_M_meet_6 : decode mb_M_meet 6 = .ok (.ifCond .eq 81, 3) := by decide +kernel
theorem d_M_meet_9 : decode mb_M_meet 9 = .ok (.ldc2_w 124, 3) := by decide +kernel
theorem d_M_meet_12 : decode mb_M_meet 12 = .ok (.aload_n 0, 1) := by decide +kernel
theorem d_M_meet_13 : decode mb_M_meet 13 = .ok (.getfield 51, 3) := by decide +kernel
theorem d_M_meet_16 : decode mb_M_meet 16 = .ok (.iload_n 1, 1) := by decide +kernel
theorem d_M_meet_17 : decode mb_M_meet 17 = .ok (.laload, 1) := by decide +kernel
theorem d_M_meet_18 : decode mb_M_meet 18 = .ok (.invokestatic 130, 3) := by decide +kernel
theorem d_M_meet_21 : decode mb_M_meet 21 = .ok (.lstore 4, 2) := by decide +kernel
theorem d_M_meet_23 : decode mb_M_meet 23 = .ok (.aload_n 0, 1) := by decide +kernel
theorem d_M_meet_24 : decode mb_M_meet 24 = .ok (.getfield 60, 3) := by decide +kernel
theorem d_M_meet_27 : decode mb_M_meet 27 = .ok (.iload_n 1, 1) := by decide +kernel
theorem d_M_meet_28 : decode mb_M_meet 28 = .ok (.lload_n 2, 1) := by decide +kernel
theorem d_M_meet_29 : decode mb_M_meet 29 = .ok (.lastore, 1) := by decide +kernel
theorem d_M_meet_30 : decode mb_M_meet 30 = .ok (.aload_n 0, 1) := by decide +kernel
theorem d_M_meet_31 : decode mb_M_meet 31 = .ok (.getfield 63, 3) := by decide +kernel
theorem d_M_meet_34 : decode mb_M_meet 34 = .ok (.iload_n 1, 1) := by decide +kernel
theorem d_M_meet_35 : decode mb_M_meet 35 = .ok (.aload_n 0, 1) := by decide +kernel
theorem d_M_meet_36 : decode mb_M_meet 36 = .ok (.getfield 39, 3) := by decide +kernel
theorem d_M_meet_39 : decode mb_M_meet 39 = .ok (.iload_n 1, 1) := by decide +kernel
theorem d_M_meet_40 : decode mb_M_meet 40 = .ok (.iaload, 1) := by decide +kernel
theorem d_M_meet_41 : decode mb_M_meet 41 = .ok (.ifCond .ne 25, 3) := by decide +kernel
theorem d_M_meet_44 : decode mb_M_meet 44 = .ok (.lload 4, 2) := by decide +kernel
theorem d_M_meet_46 : decode mb_M_meet 46 = .ok (.ldc2_w 157, 3) := by decide +kernel
theorem d_M_meet_49 : decode mb_M_meet 49 = .ok (.aload_n 0, 1) := by decide +kernel
theorem d_M_meet_50 : decode mb_M_meet 50 = .ok (.getfield 57, 3) := by decide +kernel
theorem d_M_meet_53 : decode mb_M_meet 53 = .ok (.iload_n 1, 1) := by decide +kernel
theorem d_M_meet_54 : decode mb_M_meet 54 = .ok (.laload, 1) := by decide +kernel
theorem d_M_meet_55 : decode mb_M_meet 55 = .ok (.invokestatic 130, 3) := by decide +kernel
theorem d_M_meet_58 : decode mb_M_meet 58 = .ok (.lmul, 1) := by decide +kernel
theorem d_M_meet_59 : decode mb_M_meet 59 = .ok (.ldc2_w 80, 3) := by decide +kernel
theorem d_M_meet_62 : decode mb_M_meet 62 = .ok (.lrem, 1) := by decide +kernel
theorem d_M_meet_63 : decode mb_M_meet 63 = .ok (.goto 20, 3) := by decide +kernel
theorem d_M_meet_66 : decode mb_M_meet 66 = .ok (.ldc2_w 170, 3) := by decide +kernel
theorem d_M_meet_69 : decode mb_M_meet 69 = .ok (.aload_n 0, 1) := by decide +kernel
theorem d_M_meet_70 : decode mb_M_meet 70 = .ok (.getfield 57, 3) := by decide +kernel
theorem d_M_meet_73 : decode mb_M_meet 73 = .ok (.iload_n 1, 1) := by decide +kernel
theorem d_M_meet_74 : decode mb_M_meet 74 = .ok (.laload, 1) := by decide +kernel
theorem d_M_meet_75 : decode mb_M_meet 75 = .ok (.lmul, 1) := by decide +kernel
theorem d_M_meet_76 : decode mb_M_meet 76 = .ok (.lload 4, 2) := by decide +kernel
theorem d_M_meet_78 : decode mb_M_meet 78 = .ok (.ladd, 1) := by decide +kernel
theorem d_M_meet_79 : decode mb_M_meet 79 = .ok (.ldc2_w 80, 3) := by decide +kernel
theorem d_M_meet_82 : decode mb_M_meet 82 = .ok (.lrem, 1) := by decide +kernel
theorem d_M_meet_83 : decode mb_M_meet 83 = .ok (.lastore, 1) := by decide +kernel
theorem d_M_meet_84 : decode mb_M_meet 84 = .ok (.goto 10, 3) := by decide +kernel
theorem d_M_meet_87 : decode mb_M_meet 87 = .ok (.aload_n 0, 1) := by decide +kernel
theorem d_M_meet_88 : decode mb_M_meet 88 = .ok (.getfield 63, 3) := by decide +kernel
theorem d_M_meet_91 : decode mb_M_meet 91 = .ok (.iload_n 1, 1) := by decide +kernel
theorem d_M_meet_92 : decode mb_M_meet 92 = .ok (.lload_n 2, 1) := by decide +kernel
theorem d_M_meet_93 : decode mb_M_meet 93 = .ok (.lastore, 1) := by decide +kernel
theorem d_M_meet_94 : decode mb_M_meet 94 = .ok (.aload_n 0, 1) := by decide +kernel
theorem d_M_meet_95 : decode mb_M_meet 95 = .ok (.iload_n 1, 1) := by decide +kernel
theorem d_M_meet_96 : decode mb_M_meet 96 = .ok (.lload_n 2, 1) := by decide +kernel
theorem d_M_meet_97 : decode mb_M_meet 97 = .ok (.invokevirtual 176, 3) := by decide +kernel
theorem d_M_meet_100 : decode mb_M_meet 100 = .ok (.aload_n 0, 1) := by decide +kernel
theorem d_M_meet_101 : decode mb_M_meet 101 = .ok (.getfield 69, 3) := by decide +kernel
theorem d_M_meet_104 : decode mb_M_meet 104 = .ok (.iload_n 1, 1) := by decide +kernel
theorem d_M_meet_105 : decode mb_M_meet 105 = .ok (.aload_n 0, 1) := by decide +kernel
theorem d_M_meet_106 : decode mb_M_meet 106 = .ok (.getfield 35, 3) := by decide +kernel
theorem d_M_meet_109 : decode mb_M_meet 109 = .ok (.iload_n 1, 1) := by decide +kernel
theorem d_M_meet_110 : decode mb_M_meet 110 = .ok (.baload, 1) := by decide +kernel
theorem d_M_meet_111 : decode mb_M_meet 111 = .ok (.ifCond .eq 12, 3) := by decide +kernel
theorem d_M_meet_114 : decode mb_M_meet 114 = .ok (.aload_n 0, 1) := by decide +kernel
theorem d_M_meet_115 : decode mb_M_meet 115 = .ok (.getfield 63, 3) := by decide +kernel
theorem d_M_meet_118 : decode mb_M_meet 118 = .ok (.iload_n 1, 1) := by decide +kernel
theorem d_M_meet_119 : decode mb_M_meet 119 = .ok (.laload, 1) := by decide +kernel
theorem d_M_meet_120 : decode mb_M_meet 120 = .ok (.goto 8, 3) := by decide +kernel
theorem d_M_meet_123 : decode mb_M_meet 123 = .ok (.aload_n 0, 1) := by decide +kernel
theorem d_M_meet_124 : decode mb_M_meet 124 = .ok (.iload_n 1, 1) := by decide +kernel
theorem d_M_meet_125 : decode mb_M_meet 125 = .ok (.invokevirtual 180, 3) := by decide +kernel
theorem d_M_meet_128 : decode mb_M_meet 128 = .ok (.lastore, 1) := by decide +kernel
theorem d_M_meet_129 : decode mb_M_meet 129 = .ok (.aload_n 0, 1) := by decide +kernel
theorem d_M_meet_130 : decode mb_M_meet 130 = .ok (.getfield 45, 3) := by decide +kernel
theorem d_M_meet_133 : decode mb_M_meet 133 = .ok (.iload_n 1, 1) := by decide +kernel
theorem d_M_meet_134 : decode mb_M_meet 134 = .ok (.iconst 1, 1) := by decide +kernel
theorem d_M_meet_135 : decode mb_M_meet 135 = .ok (.iastore, 1) := by decide +kernel
theorem d_M_meet_136 : decode mb_M_meet 136 = .ok (.return_, 1) := by decide +kernel
theorem d_M_confirm_0 : decode mb_M_confirm 0 = .ok (.aload_n 0, 1) := by decide +kernel
theorem d_M_confirm_1 : decode mb_M_confirm 1 = .ok (.iload_n 1, 1) := by decide +kernel
theorem d_M_confirm_2 : decode mb_M_confirm 2 = .ok (.invokevirtual 180, 3) := by decide +kernel
theorem d_M_confirm_5 : decode mb_M_confirm 5 = .ok (.lstore 4, 2) := by decide +kernel
theorem d_M_confirm_7 : decode mb_M_confirm 7 = .ok (.aload_n 0, 1) := by decide +kernel
theorem d_M_confirm_8 : decode mb_M_confirm 8 = .ok (.getfield 42, 3) := by decide +kernel
theorem d_M_confirm_11 : decode mb_M_confirm 11 = .ok (.iload_n 1, 1) := by decide +kernel
theorem d_M_confirm_12 : decode mb_M_confirm 12 = .ok (.iaload, 1) := by decide +kernel
theorem d_M_confirm_13 : decode mb_M_confirm 13 = .ok (.istore 6, 2) := by decide +kernel
theorem d_M_confirm_15 : decode mb_M_confirm 15 = .ok (.lload_n 2, 1) := by decide +kernel
theorem d_M_confirm_16 : decode mb_M_confirm 16 = .ok (.aload_n 0, 1) := by decide +kernel
theorem d_M_confirm_17 : decode mb_M_confirm 17 = .ok (.getfield 35, 3) := by decide +kernel
theorem d_M_confirm_20 : decode mb_M_confirm 20 = .ok (.iload_n 1, 1) := by decide +kernel
theorem d_M_confirm_21 : decode mb_M_confirm 21 = .ok (.baload, 1) := by decide +kernel
theorem d_M_confirm_22 : decode mb_M_confirm 22 = .ok (.ifCond .eq 8, 3) := by decide +kernel
theorem d_M_confirm_25 : decode mb_M_confirm 25 = .ok (.lload 4, 2) := by decide +kernel
theorem d_M_confirm_27 : decode mb_M_confirm 27 = .ok (.goto 10, 3) := by decide +kernel
theorem d_M_confirm_30 : decode mb_M_confirm 30 = .ok (.aload_n 0, 1) := by decide +kernel
theorem d_M_confirm_31 : decode mb_M_confirm 31 = .ok (.iload_n 1, 1) := by decide +kernel
theorem d_M_confirm_32 : decode mb_M_confirm 32 = .ok (.lload 4, 2) := by decide +kernel
theorem d_M_confirm_34 : decode mb_M_confirm 34 = .ok (.invokevirtual 183, 3) := by decide +kernel
theorem d_M_confirm_37 : decode mb_M_confirm 37 = .ok (.lcmp, 1) := by decide +kernel
theorem d_M_confirm_38 : decode mb_M_confirm 38 = .ok (.ifCond .ne 7, 3) := by decide +kernel
theorem d_M_confirm_41 : decode mb_M_confirm 41 = .ok (.iconst 1, 1) := by decide +kernel
theorem d_M_confirm_42 : decode mb_M_confirm 42 = .ok (.goto 4, 3) := by decide +kernel
theorem d_M_confirm_45 : decode mb_M_confirm 45 = .ok (.iconst 0, 1) := by decide +kernel
theorem d_M_confirm_46 : decode mb_M_confirm 46 = .ok (.istore 7, 2) := by decide +kernel
theorem d_M_confirm_48 : decode mb_M_confirm 48 = .ok (.aload_n 0, 1) := by decide +kernel
theorem d_M_confirm_49 : decode mb_M_confirm 49 = .ok (.getfield 45, 3) := by decide +kernel
theorem d_M_confirm_52 : decode mb_M_confirm 52 = .ok (.iload_n 1, 1) := by decide +kernel
theorem d_M_confirm_53 : decode mb_M_confirm 53 = .ok (.iload 7, 2) := by decide +kernel
theorem d_M_confirm_55 : decode mb_M_confirm 55 = .ok (.ifCond .eq 7, 3) := by decide +kernel
theorem d_M_confirm_58 : decode mb_M_confirm 58 = .ok (.iconst 2, 1) := by decide +kernel
theorem d_M_confirm_59 : decode mb_M_confirm 59 = .ok (.goto 4, 3) := by decide +kernel
theorem d_M_confirm_62 : decode mb_M_confirm 62 = .ok (.iconst 3, 1) := by decide +kernel
theorem d_M_confirm_63 : decode mb_M_confirm 63 = .ok (.iastore, 1) := by decide +kernel
theorem d_M_confirm_64 : decode mb_M_confirm 64 = .ok (.aload_n 0, 1) := by decide +kernel
theorem d_M_confirm_65 : decode mb_M_confirm 65 = .ok (.iload 7, 2) := by decide +kernel
theorem d_M_confirm_67 : decode mb_M_confirm 67 = .ok (.ifCond .eq 7, 3) := by decide +kernel
theorem d_M_confirm_70 : decode mb_M_confirm 70 = .ok (.iconst 0, 1) := by decide +kernel
theorem d_M_confirm_71 : decode mb_M_confirm 71 = .ok (.goto 4, 3) := by decide +kernel
theorem d_M_confirm_74 : decode mb_M_confirm 74 = .ok (.iconst 4, 1) := by decide +kernel
theorem d_M_confirm_75 : decode mb_M_confirm 75 = .ok (.putfield 76, 3) := by decide +kernel
theorem d_M_confirm_78 : decode mb_M_confirm 78 = .ok (.aload_n 0, 1) := by decide +kernel
theorem d_M_confirm_79 : decode mb_M_confirm 79 = .ok (.getfield 35, 3) := by decide +kernel
theorem d_M_confirm_82 : decode mb_M_confirm 82 = .ok (.iload_n 1, 1) := by decide +kernel
theorem d_M_confirm_83 : decode mb_M_confirm 83 = .ok (.baload, 1) := by decide +kernel
theorem d_M_confirm_84 : decode mb_M_confirm 84 = .ok (.ifCond .eq 32, 3) := by decide +kernel
theorem d_M_confirm_87 : decode mb_M_confirm 87 = .ok (.iload 7, 2) := by decide +kernel
theorem d_M_confirm_89 : decode mb_M_confirm 89 = .ok (.ifCond .eq 27, 3) := by decide +kernel
theorem d_M_confirm_92 : decode mb_M_confirm 92 = .ok (.aload_n 0, 1) := by decide +kernel
theorem d_M_confirm_93 : decode mb_M_confirm 93 = .ok (.getfield 69, 3) := by decide +kernel
theorem d_M_confirm_96 : decode mb_M_confirm 96 = .ok (.iload_n 1, 1) := by decide +kernel
theorem d_M_confirm_97 : decode mb_M_confirm 97 = .ok (.aload_n 0, 1) := by decide +kernel
theorem d_M_confirm_98 : decode mb_M_confirm 98 = .ok (.iload_n 1, 1) := by decide +kernel
theorem d_M_confirm_99 : decode mb_M_confirm 99 = .ok (.lload 4, 2) := by decide +kernel
theorem d_M_confirm_101 : decode mb_M_confirm 101 = .ok (.invokevirtual 183, 3) := by decide +kernel
theorem d_M_confirm_104 : decode mb_M_confirm 104 = .ok (.lastore, 1) := by decide +kernel
theorem d_M_confirm_105 : decode mb_M_confirm 105 = .ok (.aload_n 0, 1) := by decide +kernel
theorem d_M_confirm_106 : decode mb_M_confirm 106 = .ok (.getfield 23, 3) := by decide +kernel
theorem d_M_confirm_109 : decode mb_M_confirm 109 = .ok (.iload 6, 2) := by decide +kernel
theorem d_M_confirm_111 : decode mb_M_confirm 111 = .ok (.iconst 0, 1) := by decide +kernel
theorem d_M_confirm_112 : decode mb_M_confirm 112 = .ok (.iastore, 1) := by decide +kernel
theorem d_M_confirm_113 : decode mb_M_confirm 113 = .ok (.goto 62, 3) := by decide +kernel
theorem d_M_confirm_116 : decode mb_M_confirm 116 = .ok (.aload_n 0, 1) := by decide +kernel
theorem d_M_confirm_117 : decode mb_M_confirm 117 = .ok (.getfield 35, 3) := by decide +kernel
theorem d_M_confirm_120 : decode mb_M_confirm 120 = .ok (.iload_n 1, 1) := by decide +kernel
theorem d_M_confirm_121 : decode mb_M_confirm 121 = .ok (.baload, 1) := by decide +kernel
theorem d_M_confirm_122 : decode mb_M_confirm 122 = .ok (.ifCond .eq 53, 3) := by decide +kernel
theorem d_M_confirm_125 : decode mb_M_confirm 125 = .ok (.aload_n 0, 1) := by decide +kernel
theorem d_M_confirm_126 : decode mb_M_confirm 126 = .ok (.getfield 32, 3) := by decide +kernel
theorem d_M_confirm_129 : decode mb_M_confirm 129 = .ok (.iload 6, 2) := by decide +kernel
theorem d_M_confirm_131 : decode mb_M_confirm 131 = .ok (.aload_n 0, 1) := by decide +kernel
theorem d_M_confirm_132 : decode mb_M_confirm 132 = .ok (.getfield 29, 3) := by decide +kernel
theorem d_M_confirm_135 : decode mb_M_confirm 135 = .ok (.iload 6, 2) := by decide +kernel
theorem d_M_confirm_137 : decode mb_M_confirm 137 = .ok (.iaload, 1) := by decide +kernel
theorem d_M_confirm_138 : decode mb_M_confirm 138 = .ok (.iastore, 1) := by decide +kernel
theorem d_M_confirm_139 : decode mb_M_confirm 139 = .ok (.aload_n 0, 1) := by decide +kernel
theorem d_M_confirm_140 : decode mb_M_confirm 140 = .ok (.getfield 29, 3) := by decide +kernel
theorem d_M_confirm_143 : decode mb_M_confirm 143 = .ok (.iload 6, 2) := by decide +kernel
theorem d_M_confirm_145 : decode mb_M_confirm 145 = .ok (.aload_n 0, 1) := by decide +kernel
theorem d_M_confirm_146 : decode mb_M_confirm 146 = .ok (.getfield 26, 3) := by decide +kernel
theorem d_M_confirm_149 : decode mb_M_confirm 149 = .ok (.iload 6, 2) := by decide +kernel
theorem d_M_confirm_151 : decode mb_M_confirm 151 = .ok (.iaload, 1) := by decide +kernel
theorem d_M_confirm_152 : decode mb_M_confirm 152 = .ok (.iastore, 1) := by decide +kernel
theorem d_M_confirm_153 : decode mb_M_confirm 153 = .ok (.aload_n 0, 1) := by decide +kernel
theorem d_M_confirm_154 : decode mb_M_confirm 154 = .ok (.getfield 26, 3) := by decide +kernel
theorem d_M_confirm_157 : decode mb_M_confirm 157 = .ok (.iload 6, 2) := by decide +kernel
theorem d_M_confirm_159 : decode mb_M_confirm 159 = .ok (.aload_n 0, 1) := by decide +kernel
theorem d_M_confirm_160 : decode mb_M_confirm 160 = .ok (.getfield 145, 3) := by decide +kernel
theorem d_M_confirm_163 : decode mb_M_confirm 163 = .ok (.iastore, 1) := by decide +kernel
theorem d_M_confirm_164 : decode mb_M_confirm 164 = .ok (.aload_n 0, 1) := by decide +kernel
theorem d_M_confirm_165 : decode mb_M_confirm 165 = .ok (.getfield 23, 3) := by decide +kernel
theorem d_M_confirm_168 : decode mb_M_confirm 168 = .ok (.iload 6, 2) := by decide +kernel
theorem d_M_confirm_170 : decode mb_M_confirm 170 = .ok (.dup2, 1) := by decide +kernel
theorem d_M_confirm_171 : decode mb_M_confirm 171 = .ok (.iaload, 1) := by decide +kernel
theorem d_M_confirm_172 : decode mb_M_confirm 172 = .ok (.iconst 1, 1) := by decide +kernel
theorem d_M_confirm_173 : decode mb_M_confirm 173 = .ok (.iadd, 1) := by decide +kernel
theorem d_M_confirm_174 : decode mb_M_confirm 174 = .ok (.iastore, 1) := by decide +kernel
theorem d_M_confirm_175 : decode mb_M_confirm 175 = .ok (.return_, 1) := by decide +kernel
theorem d_M_received_0 : decode mb_M_received 0 = .ok (.aload_n 0, 1) := by decide +kernel
theorem d_M_received_1 : decode mb_M_received 1 = .ok (.iload_n 1, 1) := by decide +kernel
theorem d_M_received_2 : decode mb_M_received 2 = .ok (.invokevirtual 186, 3) := by decide +kernel
theorem d_M_received_5 : decode mb_M_received 5 = .ok (.ifCond .ne 10, 3) := by decide +kernel
theorem d_M_received_8 : decode mb_M_received 8 = .ok (.aload_n 0, 1) := by decide +kernel
theorem d_M_received_9 : decode mb_M_received 9 = .ok (.iconst 1, 1) := by decide +kernel
theorem d_M_received_10 : decode mb_M_received 10 = .ok (.putfield 76, 3) := by decide +kernel
theorem d_M_received_13 : decode mb_M_received 13 = .ok (.iconst 0, 1) := by decide +kernel
theorem d_M_received_14 : decode mb_M_received 14 = .ok (.ireturn, 1) := by decide +kernel
theorem d_M_received_15 : decode mb_M_received 15 = .ok (.aload_n 0, 1) := by decide +kernel
theorem d_M_received_16 : decode mb_M_received 16 = .ok (.iload_n 1, 1) := by decide +kernel
theorem d_M_received_17 : decode mb_M_received 17 = .ok (.invokevirtual 189, 3) := by decide +kernel
theorem d_M_received_20 : decode mb_M_received 20 = .ok (.istore 4, 2) := by decide +kernel
theorem d_M_received_22 : decode mb_M_received 22 = .ok (.iload 4, 2) := by decide +kernel
theorem d_M_received_24 : decode mb_M_received 24 = .ok (.iconst 1, 1) := by decide +kernel
theorem d_M_received_25 : decode mb_M_received 25 = .ok (.if_icmp .le 10, 3) := by decide +kernel
theorem d_M_received_28 : decode mb_M_received 28 = .ok (.aload_n 0, 1) := by decide +kernel
theorem d_M_received_29 : decode mb_M_received 29 = .ok (.iconst 2, 1) := by decide +kernel
theorem d_M_received_30 : decode mb_M_received 30 = .ok (.putfield 76, 3) := by decide +kernel
theorem d_M_received_33 : decode mb_M_received 33 = .ok (.iconst 0, 1) := by decide +kernel
theorem d_M_received_34 : decode mb_M_received 34 = .ok (.ireturn, 1) := by decide +kernel
theorem d_M_received_35 : decode mb_M_received 35 = .ok (.iload 4, 2) := by decide +kernel
theorem d_M_received_37 : decode mb_M_received 37 = .ok (.iconst 1, 1) := by decide +kernel
theorem d_M_received_38 : decode mb_M_received 38 = .ok (.if_icmp .ne 12, 3) := by decide +kernel
theorem d_M_received_41 : decode mb_M_received 41 = .ok (.aload_n 0, 1) := by decide +kernel
theorem d_M_received_42 : decode mb_M_received 42 = .ok (.iload_n 1, 1) := by decide +kernel
theorem d_M_received_43 : decode mb_M_received 43 = .ok (.lload_n 2, 1) := by decide +kernel
theorem d_M_received_44 : decode mb_M_received 44 = .ok (.invokevirtual 193, 3) := by decide +kernel
theorem d_M_received_47 : decode mb_M_received 47 = .ok (.goto 33, 3) := by decide +kernel
theorem d_M_received_50 : decode mb_M_received 50 = .ok (.aload_n 0, 1) := by decide +kernel
theorem d_M_received_51 : decode mb_M_received 51 = .ok (.iload_n 1, 1) := by decide +kernel
theorem d_M_received_52 : decode mb_M_received 52 = .ok (.lload_n 2, 1) := by decide +kernel
theorem d_M_received_53 : decode mb_M_received 53 = .ok (.invokevirtual 196, 3) := by decide +kernel
theorem d_M_received_56 : decode mb_M_received 56 = .ok (.ifCond .eq 12, 3) := by decide +kernel
theorem d_M_received_59 : decode mb_M_received 59 = .ok (.aload_n 0, 1) := by decide +kernel
theorem d_M_received_60 : decode mb_M_received 60 = .ok (.iload_n 1, 1) := by decide +kernel
theorem d_M_received_61 : decode mb_M_received 61 = .ok (.lload_n 2, 1) := by decide +kernel
theorem d_M_received_62 : decode mb_M_received 62 = .ok (.invokevirtual 200, 3) := by decide +kernel
theorem d_M_received_65 : decode mb_M_received 65 = .ok (.goto 15, 3) := by decide +kernel
theorem d_M_received_68 : decode mb_M_received 68 = .ok (.aload_n 0, 1) := by decide +kernel
theorem d_M_received_69 : decode mb_M_received 69 = .ok (.getfield 45, 3) := by decide +kernel
theorem d_M_received_72 : decode mb_M_received 72 = .ok (.iload_n 1, 1) := by decide +kernel
theorem d_M_received_73 : decode mb_M_received 73 = .ok (.iconst 3, 1) := by decide +kernel
theorem d_M_received_74 : decode mb_M_received 74 = .ok (.iastore, 1) := by decide +kernel
theorem d_M_received_75 : decode mb_M_received 75 = .ok (.aload_n 0, 1) := by decide +kernel
theorem d_M_received_76 : decode mb_M_received 76 = .ok (.iconst 3, 1) := by decide +kernel
theorem d_M_received_77 : decode mb_M_received 77 = .ok (.putfield 76, 3) := by decide +kernel
theorem d_M_received_80 : decode mb_M_received 80 = .ok (.aload_n 0, 1) := by decide +kernel
theorem d_M_received_81 : decode mb_M_received 81 = .ok (.getfield 76, 3) := by decide +kernel
theorem d_M_received_84 : decode mb_M_received 84 = .ok (.ifCond .le 7, 3) := by decide +kernel
theorem d_M_received_87 : decode mb_M_received 87 = .ok (.iconst 0, 1) := by decide +kernel
theorem d_M_received_88 : decode mb_M_received 88 = .ok (.goto 9, 3) := by decide +kernel
theorem d_M_received_91 : decode mb_M_received 91 = .ok (.aload_n 0, 1) := by decide +kernel
theorem d_M_received_92 : decode mb_M_received 92 = .ok (.getfield 45, 3) := by decide +kernel
theorem d_M_received_95 : decode mb_M_received 95 = .ok (.iload_n 1, 1) := by decide +kernel
theorem d_M_received_96 : decode mb_M_received 96 = .ok (.iaload, 1) := by decide +kernel
theorem d_M_received_97 : decode mb_M_received 97 = .ok (.ireturn, 1) := by decide +kernel
theorem d_M_receive_0 : decode mb_M_receive 0 = .ok (.aload_n 0, 1) := by decide +kernel
theorem d_M_receive_1 : decode mb_M_receive 1 = .ok (.iconst 0, 1) := by decide +kernel
theorem d_M_receive_2 : decode mb_M_receive 2 = .ok (.putfield 76, 3) := by decide +kernel
theorem d_M_receive_5 : decode mb_M_receive 5 = .ok (.aload_n 0, 1) := by decide +kernel
theorem d_M_receive_6 : decode mb_M_receive 6 = .ok (.iload_n 1, 1) := by decide +kernel
theorem d_M_receive_7 : decode mb_M_receive 7 = .ok (.lload_n 2, 1) := by decide +kernel
theorem d_M_receive_8 : decode mb_M_receive 8 = .ok (.invokevirtual 203, 3) := by decide +kernel
theorem d_M_receive_11 : decode mb_M_receive 11 = .ok (.ireturn, 1) := by decide +kernel
theorem d_M_pass_0 : decode mb_M_pass 0 = .ok (.aload_n 0, 1) := by decide +kernel
theorem d_M_pass_1 : decode mb_M_pass 1 = .ok (.iconst 0, 1) := by decide +kernel
theorem d_M_pass_2 : decode mb_M_pass 2 = .ok (.putfield 76, 3) := by decide +kernel
theorem d_M_pass_5 : decode mb_M_pass 5 = .ok (.aload_n 0, 1) := by decide +kernel
theorem d_M_pass_6 : decode mb_M_pass 6 = .ok (.iload_n 2, 1) := by decide +kernel
theorem d_M_pass_7 : decode mb_M_pass 7 = .ok (.aload_n 0, 1) := by decide +kernel
theorem d_M_pass_8 : decode mb_M_pass 8 = .ok (.iload_n 1, 1) := by decide +kernel
theorem d_M_pass_9 : decode mb_M_pass 9 = .ok (.invokevirtual 186, 3) := by decide +kernel
theorem d_M_pass_12 : decode mb_M_pass 12 = .ok (.ifCond .eq 14, 3) := by decide +kernel
theorem d_M_pass_15 : decode mb_M_pass 15 = .ok (.aload_n 0, 1) := by decide +kernel
theorem d_M_pass_16 : decode mb_M_pass 16 = .ok (.getfield 69, 3) := by decide +kernel
theorem d_M_pass_19 : decode mb_M_pass 19 = .ok (.iload_n 1, 1) := by decide +kernel
theorem d_M_pass_20 : decode mb_M_pass 20 = .ok (.laload, 1) := by decide +kernel
theorem d_M_pass_21 : decode mb_M_pass 21 = .ok (.lload_n 3, 1) := by decide +kernel
theorem d_M_pass_22 : decode mb_M_pass 22 = .ok (.lxor, 1) := by decide +kernel
theorem d_M_pass_23 : decode mb_M_pass 23 = .ok (.goto 4, 3) := by decide +kernel
theorem d_M_pass_26 : decode mb_M_pass 26 = .ok (.lload_n 3, 1) := by decide +kernel
theorem d_M_pass_27 : decode mb_M_pass 27 = .ok (.invokevirtual 203, 3) := by decide +kernel
theorem d_M_pass_30 : decode mb_M_pass 30 = .ok (.ireturn, 1) := by decide +kernel
theorem d_M_message_0 : decode mb_M_message 0 = .ok (.aload_n 0, 1) := by decide +kernel
theorem d_M_message_1 : decode mb_M_message 1 = .ok (.iconst 0, 1) := by decide +kernel
theorem d_M_message_2 : decode mb_M_message 2 = .ok (.putfield 76, 3) := by decide +kernel
theorem d_M_message_5 : decode mb_M_message 5 = .ok (.aload_n 0, 1) := by decide +kernel
theorem d_M_message_6 : decode mb_M_message 6 = .ok (.iload_n 1, 1) := by decide +kernel
theorem d_M_message_7 : decode mb_M_message 7 = .ok (.invokevirtual 186, 3) := by decide +kernel
theorem d_M_message_10 : decode mb_M_message 10 = .ok (.ifCond .eq 12, 3) := by decide +kernel
theorem d_M_message_13 : decode mb_M_message 13 = .ok (.aload_n 0, 1) := by decide +kernel
theorem d_M_message_14 : decode mb_M_message 14 = .ok (.getfield 69, 3) := by decide +kernel
theorem d_M_message_17 : decode mb_M_message 17 = .ok (.iload_n 1, 1) := by decide +kernel
theorem d_M_message_18 : decode mb_M_message 18 = .ok (.laload, 1) := by decide +kernel
theorem d_M_message_19 : decode mb_M_message 19 = .ok (.goto 4, 3) := by decide +kernel
theorem d_M_message_22 : decode mb_M_message 22 = .ok (.lconst 0, 1) := by decide +kernel
theorem d_M_message_23 : decode mb_M_message 23 = .ok (.lreturn, 1) := by decide +kernel
theorem d_M_key_0 : decode mb_M_key 0 = .ok (.aload_n 0, 1) := by decide +kernel
theorem d_M_key_1 : decode mb_M_key 1 = .ok (.aload_n 0, 1) := by decide +kernel
theorem d_M_key_2 : decode mb_M_key 2 = .ok (.iload_n 1, 1) := by decide +kernel
theorem d_M_key_3 : decode mb_M_key 3 = .ok (.invokevirtual 186, 3) := by decide +kernel
theorem d_M_key_6 : decode mb_M_key 6 = .ok (.ifCond .ne 7, 3) := by decide +kernel
theorem d_M_key_9 : decode mb_M_key 9 = .ok (.iconst 1, 1) := by decide +kernel
theorem d_M_key_10 : decode mb_M_key 10 = .ok (.goto 18, 3) := by decide +kernel
theorem d_M_key_13 : decode mb_M_key 13 = .ok (.aload_n 0, 1) := by decide +kernel
theorem d_M_key_14 : decode mb_M_key 14 = .ok (.getfield 45, 3) := by decide +kernel
theorem d_M_key_17 : decode mb_M_key 17 = .ok (.iload_n 1, 1) := by decide +kernel
theorem d_M_key_18 : decode mb_M_key 18 = .ok (.iaload, 1) := by decide +kernel
theorem d_M_key_19 : decode mb_M_key 19 = .ok (.iconst 2, 1) := by decide +kernel
theorem d_M_key_20 : decode mb_M_key 20 = .ok (.if_icmp .eq 7, 3) := by decide +kernel
theorem d_M_key_23 : decode mb_M_key 23 = .ok (.iconst 2, 1) := by decide +kernel
theorem d_M_key_24 : decode mb_M_key 24 = .ok (.goto 4, 3) := by decide +kernel
theorem d_M_key_27 : decode mb_M_key 27 = .ok (.iconst 0, 1) := by decide +kernel
theorem d_M_key_28 : decode mb_M_key 28 = .ok (.putfield 76, 3) := by decide +kernel
theorem d_M_key_31 : decode mb_M_key 31 = .ok (.aload_n 0, 1) := by decide +kernel
theorem d_M_key_32 : decode mb_M_key 32 = .ok (.getfield 76, 3) := by decide +kernel
theorem d_M_key_35 : decode mb_M_key 35 = .ok (.ifCond .le 7, 3) := by decide +kernel
theorem d_M_key_38 : decode mb_M_key 38 = .ok (.lconst 0, 1) := by decide +kernel
theorem d_M_key_39 : decode mb_M_key 39 = .ok (.goto 9, 3) := by decide +kernel
theorem d_M_key_42 : decode mb_M_key 42 = .ok (.aload_n 0, 1) := by decide +kernel
theorem d_M_key_43 : decode mb_M_key 43 = .ok (.getfield 66, 3) := by decide +kernel
theorem d_M_key_46 : decode mb_M_key 46 = .ok (.iload_n 1, 1) := by decide +kernel
theorem d_M_key_47 : decode mb_M_key 47 = .ok (.laload, 1) := by decide +kernel
theorem d_M_key_48 : decode mb_M_key 48 = .ok (.lreturn, 1) := by decide +kernel
theorem d_M_state_0 : decode mb_M_state 0 = .ok (.aload_n 0, 1) := by decide +kernel
theorem d_M_state_1 : decode mb_M_state 1 = .ok (.iconst 0, 1) := by decide +kernel
theorem d_M_state_2 : decode mb_M_state 2 = .ok (.putfield 76, 3) := by decide +kernel
theorem d_M_state_5 : decode mb_M_state 5 = .ok (.aload_n 0, 1) := by decide +kernel
theorem d_M_state_6 : decode mb_M_state 6 = .ok (.iload_n 1, 1) := by decide +kernel
theorem d_M_state_7 : decode mb_M_state 7 = .ok (.invokevirtual 186, 3) := by decide +kernel
theorem d_M_state_10 : decode mb_M_state 10 = .ok (.ifCond .eq 11, 3) := by decide +kernel
theorem d_M_state_13 : decode mb_M_state 13 = .ok (.aload_n 0, 1) := by decide +kernel
theorem d_M_state_14 : decode mb_M_state 14 = .ok (.iload_n 1, 1) := by decide +kernel
theorem d_M_state_15 : decode mb_M_state 15 = .ok (.invokevirtual 189, 3) := by decide +kernel
theorem d_M_state_18 : decode mb_M_state 18 = .ok (.goto 4, 3) := by decide +kernel
theorem d_M_state_21 : decode mb_M_state 21 = .ok (.iconst (-1), 1) := by decide +kernel
theorem d_M_state_22 : decode mb_M_state 22 = .ok (.ireturn, 1) := by decide +kernel
theorem d_M_blocked_0 : decode mb_M_blocked 0 = .ok (.aload_n 0, 1) := by decide +kernel
theorem d_M_blocked_1 : decode mb_M_blocked 1 = .ok (.iconst 0, 1) := by decide +kernel
theorem d_M_blocked_2 : decode mb_M_blocked 2 = .ok (.putfield 76, 3) := by decide +kernel
theorem d_M_blocked_5 : decode mb_M_blocked 5 = .ok (.iload_n 1, 1) := by decide +kernel
theorem d_M_blocked_6 : decode mb_M_blocked 6 = .ok (.invokestatic 113, 3) := by decide +kernel
theorem d_M_blocked_9 : decode mb_M_blocked 9 = .ok (.ifCond .eq 15, 3) := by decide +kernel
theorem d_M_blocked_12 : decode mb_M_blocked 12 = .ok (.aload_n 0, 1) := by decide +kernel
theorem d_M_blocked_13 : decode mb_M_blocked 13 = .ok (.iload_n 1, 1) := by decide +kernel
theorem d_M_blocked_14 : decode mb_M_blocked 14 = .ok (.invokevirtual 154, 3) := by decide +kernel
theorem d_M_blocked_17 : decode mb_M_blocked 17 = .ok (.ifCond .eq 7, 3) := by decide +kernel
theorem d_M_blocked_20 : decode mb_M_blocked 20 = .ok (.iconst 1, 1) := by decide +kernel
theorem d_M_blocked_21 : decode mb_M_blocked 21 = .ok (.goto 4, 3) := by decide +kernel
theorem d_M_blocked_24 : decode mb_M_blocked 24 = .ok (.iconst 0, 1) := by decide +kernel
theorem d_M_blocked_25 : decode mb_M_blocked 25 = .ok (.ireturn, 1) := by decide +kernel
theorem d_M_tick_0 : decode mb_M_tick 0 = .ok (.aload_n 0, 1) := by decide +kernel
theorem d_M_tick_1 : decode mb_M_tick 1 = .ok (.iload_n 1, 1) := by decide +kernel
theorem d_M_tick_2 : decode mb_M_tick 2 = .ok (.ifCond .lt 9, 3) := by decide +kernel
theorem d_M_tick_5 : decode mb_M_tick 5 = .ok (.iload_n 1, 1) := by decide +kernel
theorem d_M_tick_6 : decode mb_M_tick 6 = .ok (.bipush 100, 2) := by decide +kernel
theorem d_M_tick_8 : decode mb_M_tick 8 = .ok (.if_icmp .le 7, 3) := by decide +kernel
theorem d_M_tick_11 : decode mb_M_tick 11 = .ok (.iconst 1, 1) := by decide +kernel
theorem d_M_tick_12 : decode mb_M_tick 12 = .ok (.goto 4, 3) := by decide +kernel
theorem d_M_tick_15 : decode mb_M_tick 15 = .ok (.iconst 0, 1) := by decide +kernel
theorem d_M_tick_16 : decode mb_M_tick 16 = .ok (.putfield 76, 3) := by decide +kernel
theorem d_M_tick_19 : decode mb_M_tick 19 = .ok (.aload_n 0, 1) := by decide +kernel
theorem d_M_tick_20 : decode mb_M_tick 20 = .ok (.aload_n 0, 1) := by decide +kernel
theorem d_M_tick_21 : decode mb_M_tick 21 = .ok (.getfield 76, 3) := by decide +kernel
theorem d_M_tick_24 : decode mb_M_tick 24 = .ok (.ifCond .le 10, 3) := by decide +kernel
theorem d_M_tick_27 : decode mb_M_tick 27 = .ok (.aload_n 0, 1) := by decide +kernel
theorem d_M_tick_28 : decode mb_M_tick 28 = .ok (.getfield 145, 3) := by decide +kernel
theorem d_M_tick_31 : decode mb_M_tick 31 = .ok (.goto 9, 3) := by decide +kernel
theorem d_M_tick_34 : decode mb_M_tick 34 = .ok (.aload_n 0, 1) := by decide +kernel
theorem d_M_tick_35 : decode mb_M_tick 35 = .ok (.getfield 145, 3) := by decide +kernel
theorem d_M_tick_38 : decode mb_M_tick 38 = .ok (.iload_n 1, 1) := by decide +kernel
theorem d_M_tick_39 : decode mb_M_tick 39 = .ok (.iadd, 1) := by decide +kernel
theorem d_M_tick_40 : decode mb_M_tick 40 = .ok (.putfield 145, 3) := by decide +kernel
theorem d_M_tick_43 : decode mb_M_tick 43 = .ok (.aload_n 0, 1) := by decide +kernel
theorem d_M_tick_44 : decode mb_M_tick 44 = .ok (.getfield 76, 3) := by decide +kernel
theorem d_M_tick_47 : decode mb_M_tick 47 = .ok (.ifCond .le 7, 3) := by decide +kernel
theorem d_M_tick_50 : decode mb_M_tick 50 = .ok (.iconst 0, 1) := by decide +kernel
theorem d_M_tick_51 : decode mb_M_tick 51 = .ok (.goto 7, 3) := by decide +kernel
theorem d_M_tick_54 : decode mb_M_tick 54 = .ok (.aload_n 0, 1) := by decide +kernel
theorem d_M_tick_55 : decode mb_M_tick 55 = .ok (.getfield 145, 3) := by decide +kernel
theorem d_M_tick_58 : decode mb_M_tick 58 = .ok (.ireturn, 1) := by decide +kernel
theorem d_M_sessions_0 : decode mb_M_sessions 0 = .ok (.aload_n 0, 1) := by decide +kernel
theorem d_M_sessions_1 : decode mb_M_sessions 1 = .ok (.iconst 0, 1) := by decide +kernel
theorem d_M_sessions_2 : decode mb_M_sessions 2 = .ok (.putfield 76, 3) := by decide +kernel
theorem d_M_sessions_5 : decode mb_M_sessions 5 = .ok (.aload_n 0, 1) := by decide +kernel
theorem d_M_sessions_6 : decode mb_M_sessions 6 = .ok (.getfield 142, 3) := by decide +kernel
theorem d_M_sessions_9 : decode mb_M_sessions 9 = .ok (.ireturn, 1) := by decide +kernel
theorem m63 {a : Nat} (h : a < pq_P) : a < 2 ^ 63 := Nat.lt_trans h (by decide)
theorem qz_Q (a : Nat) : a % pq_Q < pq_Q := Nat.mod_lt _ (by decide)
theorem up_se (f : Nat → Int32) (k : Nat) (x : Int32) : upd f k x k = x := if_pos rfl
theorem ul_se (f : Nat → Int64) (k : Nat) (x : Int64) : vp_updL f k x k = x := if_pos rfl
theorem ln_r2 {a : Nat} (h : a < 2 ^ 63) : lN a - lN a / 2 * 2 = lN (a % 2) := pk_lRem h (by decide) (by decide)
theorem ln_d2 {a : Nat} (h : a < 2 ^ 63) : lN a / 2 = lN (a / 2) := pk_lDiv h (by decide) (by decide)
theorem ln_rP {a : Nat} (h : a < 2 ^ 63) : lN a - lN a / 2147483579 * 2147483579 = lN (a % pq_P) := pk_lRem h (by decide) (by decide)
theorem ln_rQ {a : Nat} (h : a < 2 ^ 63) : lN a - lN a / 1073741789 * 1073741789 = lN (a % pq_Q) := pk_lRem h (by decide) (by decide)
theorem pm_e {r x f : Nat} (hr : r < pq_P) (hf : f = 0) : r * x ^ f % pq_P = r := by
  rw [hf, Nat.pow_zero, Nat.mul_one, Nat.mod_eq_of_lt hr]
theorem pm_1 {r x f t : Nat} (h : r * x ^ f % pq_P = t) (ho : f % 2 = 1) : (r * x % pq_P) * (x * x % pq_P) ^ (f / 2) % pq_P = t := by
  rw [pw_r1, show 2 * (f / 2) + 1 = f by omega]; exact h
theorem pm_0 {r x f t : Nat} (h : r * x ^ f % pq_P = t) (ho : ¬ f % 2 = 1) : r * (x * x % pq_P) ^ (f / 2) % pq_P = t := by
  rw [pw_r0, show 2 * (f / 2) = f by omega]; exact h
theorem pm_h {f g : Nat} (h : f < 2 ^ (g + 1)) : f / 2 < 2 ^ g := by
  rw [Nat.pow_succ] at h; omega
theorem pm_z {f : Nat} (h : f < 2 ^ 63) (h0 : lN f ≤ 0) : f = 0 := by
  have h1 : lN f ≤ lN 0 := h0
  rw [pk_lLE h (by decide)] at h1
  omega
abbrev us_in (a : Int32) : Prop := 0 ≤ a ∧ a < 8
abbrev wy_in (a : Int32) : Prop := a = 0 ∨ a = 1
theorem us_k {k : Nat} (h : k < 8) : us_in (nI k) := by
  have : ∀ k, k < 8 → us_in (nI k) := by decide
  exact this k h
abbrev th_in (a : Int32) (n : Nat) : Prop := 0 ≤ a ∧ a < nI n
def sm_sa (sd : Int64) (nb wy : Int32) (sa : Int64) : Int64 := if wy = 1 then sa else dg_3 4 sd nb.toInt64
abbrev sm_bl (fa l3 ck : Int32) : Prop := 2 < fa ∧ ck - l3 < 30
def sm_at (st bg ck : Int32) : Int32 := if st < 2 ∧ 20 ≤ ck - bg then 4 else st
theorem ba_v {rc f : Nat} (h0 : 1 ≤ rc) (h1 : rc < pq_Q) (hf : f < pq_P) : lN f * lN (pw_m (pw_m 9 rc) 2147483577) - lN f * lN (pw_m (pw_m 9 rc) 2147483577) / 2147483579 * 2147483579 = lN (sv_um rc f) := by
  rw [ln_mulP hf (pw_lt _ _)]
  have h : pw_m (pw_m 9 rc) 2147483577 = pw_m 9 (pq_Q - rc) := pw_inv pw_9Q h0 (Nat.le_of_lt h1)
  rw [h]; rfl
theorem ba_c {rc f : Nat} (h0 : 1 ≤ rc) (h1 : rc < pq_Q) (hf : f < pq_P) : lN f * lN (pw_m (pw_m 25 rc) 2147483577) - lN f * lN (pw_m (pw_m 25 rc) 2147483577) / 2147483579 * 2147483579 = lN (cl_um rc f) := by
  rw [ln_mulP hf (pw_lt _ _)]
  have h : pw_m (pw_m 25 rc) 2147483577 = pw_m 25 (pq_Q - rc) := pw_inv pw_25Q h0 (Nat.le_of_lt h1)
  rw [h]; rfl
theorem bt_y2 {a : Int64} (h1 : ¬ a < 1) (h2 : a < 2147483579) : bt_w a := by
  refine ⟨Int64.not_lt.mp h1, ?_⟩
  rw [Int64.lt_iff_toInt_lt] at h2
  rw [Int64.le_iff_toInt_le]
  have e1 : (2147483579 : Int64).toInt = 2147483579 := by decide
  have e2 : (2147483578 : Int64).toInt = 2147483578 := by decide
  omega
theorem bt_n2 {a : Int64} (h2 : ¬ a < 2147483579) : ¬ bt_w a := fun q => h2 (by
  have q2 := q.2
  rw [Int64.le_iff_toInt_le] at q2
  rw [Int64.lt_iff_toInt_lt]
  have e1 : (2147483579 : Int64).toInt = 2147483579 := by decide
  have e2 : (2147483578 : Int64).toInt = 2147483578 := by decide
  omega)
set_option maxHeartbeats 4000000 in
set_option maxRecDepth 100000 in
theorem c_M_thrown (l : Launch) (G : va_G) (ct : Nat → ClassId) (sz : Nat) (hm : Nat) (th : Int32) (sd : Int64) (nw : Int32) (hh : Int64) (q1 : Nat) (q2 : Nat) (q3 : Nat) (q4 : Nat) (q5 : Nat) (q6 : Nat) (q7 : Nat) (q8 : Nat) (q9 : Nat) (q10 : Nat) (q11 : Nat) (q12 : Nat) (q13 : Nat) (q14 : Nat) (q15 : Nat) (q16 : Nat) (q17 : Nat) (q18 : Nat) (q19 : Nat) (q20 : Nat) (n : Nat) : Met l my_M_thrown (tb_w my_M_thrown mb_M_thrown 1 (some .int)) ({ frames := 0, cells := 0, slots := 0, locals := 0 }) (wk_P [.ref hm] G ct [(hm, .inr (4, [.int th, .long sd, .int nw, .long hh, .ref q1, .ref q2, .ref q3, .ref q4, .ref q5, .ref q6, .ref q7, .ref q8, .int (nI n), .ref q9, .ref q10, .ref q11, .ref q12, .ref q13, .ref q14, .ref q15, .ref q16, .ref q17, .ref q18, .ref q19, .ref q20]))] sz) (vp_Si (fun r => r = th)) 0 0 (fun _ => False) := by
  refine Met.ofW (cc := mb_M_thrown) (maxL := 1) (ret := (some .int)) (by decide) rfl ?_
  intro p e s m args below meth c s₁ B hml hv
  obtain ⟨rfl, hsz, hP, hK, hD0⟩ := hv
  have hx := B.exec
  have hb := B.bytes
  have hr := B.returns
  have hts := atoms_spec (ws := tb_w my_M_thrown mb_M_thrown 1 (some .int)) B.pre
  have hw : ∀ w ∈ gt_tbl, w.before [.ref hm].toArray s = true := fun w h => hts w (List.mem_cons_of_mem _ h)
  have hown : s.vm.findClass cr_M = some m.cls := findClass_of_methodNamed B.named
  have hlocks := B.notSynchronized
  subst hsz
  have hD := hD0.self (sz := s.heap.size)
  generalize hAe : va_A [(hm, .inr (4, [.int th, .long sd, .int nw, .long hh, .ref q1, .ref q2, .ref q3, .ref q4, .ref q5, .ref q6, .ref q7, .ref q8, .int (nI n), .ref q9, .ref q10, .ref q11, .ref q12, .ref q13, .ref q14, .ref q15, .ref q16, .ref q17, .ref q18, .ref q19, .ref q20]))] s.heap.size = A at hD ⊢
  have hA : ∀ q : Nat, s.heap.size ≤ q → A q := fun q h => by rw [← hAe]; exact Or.inr h
  have hS : va_S A s.heap s.heap [] := va_S.rf
  have hP : va_P G classes [(hm, .inr (4, [.int th, .long sd, .int nw, .long hh, .ref q1, .ref q2, .ref q3, .ref q4, .ref q5, .ref q6, .ref q7, .ref q8, .int (nI n), .ref q9, .ref q10, .ref q11, .ref q12, .ref q13, .ref q14, .ref q15, .ref q16, .ref q17, .ref q18, .ref q19, .ref q20]))] s.heap := hP
  have hl := lv_entry ([.ref hm]) (n := 1) (Nat.le_of_ble_eq_true rfl)
  rw [lg_entry_eq]
  generalize (lg_sl ([.ref hm]) ++ List.replicate (1 - (lg_sl ([.ref hm])).length) Slot.unset).toArray = ls at hl ⊢
  have hl : lv_has ls 1 [(0, .ref hm)] := hl
  refine lv_aload_n hx hb d_M_thrown_0 rfl (lv_at hl 0 rfl) ?_
  refine va_get (D := G) (ci := 4) (v := .int th) (C := cr_M) (T := cf_M) (N := 25) hx hb hw uw_M hown hK.1 hP 0 rfl rfl 0 (by decide) (hw _ ww_640) (fun _ h9 => h9) rfl d_M_thrown_1 ?_
  exact W.iret (v := th) hx hb hr (fun t ht hW => ⟨th, rfl, rfl, ht⟩) (fun q h => nomatch h) d_M_thrown_4
set_option maxHeartbeats 4000000 in
set_option maxRecDepth 100000 in
theorem c_M_power (l : Launch) (b : Nat) (ex : Nat) (hb1 : b < 2 ^ 63) (he1 : ex < 2 ^ 63) : Met l my_M_power (tb_w my_M_power mb_M_power 10 (some .long)) ({ frames := 0, cells := 0, slots := 0, locals := 0 }) (fun av _ => av = [.long (lN b), .long (lN ex)].toArray) (vp_Sl (fun r => r = lN (pw_m b ex))) 0 0 (fun _ => False) := by
  refine Met.ofW (cc := mb_M_power) (maxL := 10) (ret := (some .long)) (by decide) rfl ?_
  intro p e s m args below meth c s₁ B hml hv
  subst hv
  have hx := B.exec
  have hb := B.bytes
  have hr := B.returns
  have hts := atoms_spec (ws := tb_w my_M_power mb_M_power 10 (some .long)) B.pre
  have hw : ∀ w ∈ gt_tbl, w.before [.long (lN b), .long (lN ex)].toArray s = true := fun w h => hts w (List.mem_cons_of_mem _ h)
  have hown : s.vm.findClass cr_M = some m.cls := findClass_of_methodNamed B.named
  have hlocks := B.notSynchronized
  have hl := lv_entry ([.long (lN b), .long (lN ex)]) (n := 10) (Nat.le_of_ble_eq_true rfl)
  rw [lg_entry_eq]
  generalize (lg_sl ([.long (lN b), .long (lN ex)]) ++ List.replicate (10 - (lg_sl ([.long (lN b), .long (lN ex)])).length) Slot.unset).toArray = ls at hl ⊢
  have hl : lv_has ls 10 [(0, .long (lN b)), (2, .long (lN ex))] := hl
  refine lv_lconst (v := 1) hx hb d_M_power_0 (by decide) ?_
  refine lv_lstore (lv' := [(4, .long 1), (0, .long (lN b)), (2, .long (lN ex))]) hx hb d_M_power_1 hl (Nat.le_of_ble_eq_true rfl) rfl (fun ls hl => ?_)
  refine lv_lload_n hx hb d_M_power_3 rfl (lv_at hl 1 rfl) ?_
  refine lv_ldc2 (v := 2147483579) hx hb hown (hw _ ww_766) d_M_power_4 ?_
  refine lv_lrem hx hb d_M_power_7 (by decide) ?_
  refine tp_l (ln_rP hb1) ?_
  refine lv_lstore (lv' := [(6, .long (lN (b % pq_P))), (4, .long 1), (0, .long (lN b)), (2, .long (lN ex))]) hx hb d_M_power_8 hl (Nat.le_of_ble_eq_true rfl) rfl (fun ls hl => ?_)
  refine lv_lload_n hx hb d_M_power_10 rfl (lv_at hl 3 rfl) ?_
  refine lv_lstore (lv' := [(8, .long (lN ex)), (6, .long (lN (b % pq_P))), (4, .long 1), (0, .long (lN b)), (2, .long (lN ex))]) hx hb d_M_power_11 hl (Nat.le_of_ble_eq_true rfl) rfl (fun ls hl => ?_)
  have key : ∀ (g f rr xx : Nat), f < 2 ^ g → g ≤ 63 → rr < pq_P → xx < pq_P → rr * xx ^ f % pq_P = pw_m b ex → ∀ ls : Array Slot, lv_has ls 10 [(8, .long (lN f)), (6, .long (lN xx)), (4, .long (lN rr)), (0, .long (lN b)), (2, .long (lN ex))] → W p l e (headSpec (tb_w my_M_power mb_M_power 10 (some .long)) ({ frames := 0, cells := 0, slots := 0, locals := 0 })).room s m [.long (lN b), .long (lN ex)].toArray below meth c s.heap [] 0 0 (MQ below (vp_Sl (fun r => r = lN (pw_m b ex))) [.long (lN b), .long (lN ex)].toArray s 0 0 (fun _ => False)) (F0 m 13 ls []) := by
    intro g
    induction g with
    | zero =>
      intro f rr xx hf hg hr1 hx1 hq ls hl
      have hf0 : f = 0 := by have : f < 1 := hf; omega
      rw [hf0] at hl
      refine lv_lload hx hb d_M_power_13 (lv_at hl 0 rfl) ?_
      refine lv_lconst (v := 0) hx hb d_M_power_15 (by decide) ?_
      refine W.lcmp hx hb d_M_power_16 ?_
      refine lv_if_le (tgt := 69) hx hb d_M_power_17 (by decide) (fun h180 => ?_) (fun h180 => ?_)
      · have h180 := (lg_cmp_le _ _).mp h180
        refine lv_lload hx hb d_M_power_69 (lv_at hl 2 rfl) ?_
        exact W.lret (v := lN rr) hx hb hr (fun t ht hW => ⟨lN rr, rfl, congrArg lN ((pm_e hr1 hf0).symm.trans hq), ht⟩) (fun q h => nomatch h) d_M_power_71
      · have h180 := fun q => h180 ((lg_cmp_le _ _).mpr q)
        exact absurd (by decide) h180
    | succ g ih =>
      intro f rr xx hf hg hr1 hx1 hq ls hl
      have h63 : f < 2 ^ 63 := Nat.lt_of_lt_of_le hf (Nat.pow_le_pow_right (by decide) hg)
      refine lv_lload hx hb d_M_power_13 (lv_at hl 0 rfl) ?_
      refine lv_lconst (v := 0) hx hb d_M_power_15 (by decide) ?_
      refine W.lcmp hx hb d_M_power_16 ?_
      refine lv_if_le (tgt := 69) hx hb d_M_power_17 (by decide) (fun h181 => ?_) (fun h181 => ?_)
      · have h181 := (lg_cmp_le _ _).mp h181
        have hf0 : f = 0 := pm_z h63 h181
        refine lv_lload hx hb d_M_power_69 (lv_at hl 2 rfl) ?_
        exact W.lret (v := lN rr) hx hb hr (fun t ht hW => ⟨lN rr, rfl, congrArg lN ((pm_e hr1 hf0).symm.trans hq), ht⟩) (fun q h => nomatch h) d_M_power_71
      · have h181 := fun q => h181 ((lg_cmp_le _ _).mpr q)
        refine lv_lload hx hb d_M_power_20 (lv_at hl 0 rfl) ?_
        refine lv_ldc2 (v := 2) hx hb hown (hw _ ww_762) d_M_power_22 ?_
        refine lv_lrem hx hb d_M_power_25 (by decide) ?_
        refine tp_l (ln_r2 h63) ?_
        refine lv_lconst (v := 1) hx hb d_M_power_26 (by decide) ?_
        refine W.lcmp hx hb d_M_power_27 ?_
        refine lv_if_ne (tgt := 43) hx hb d_M_power_28 (by decide) (fun h182 => ?_) (fun h182 => ?_)
        · have h182 := fun q => h182 ((lg_cmp_eq _ _).mpr q)
          have hbit : ¬ f % 2 = 1 := fun q => h182 (congrArg lN q)
          refine lv_lload hx hb d_M_power_43 (lv_at hl 2 rfl) ?_
          refine lv_lstore (lv' := [(4, .long (lN rr)), (8, .long (lN f)), (6, .long (lN xx)), (0, .long (lN b)), (2, .long (lN ex))]) hx hb d_M_power_45 hl (Nat.le_of_ble_eq_true rfl) rfl (fun ls hl => ?_)
          refine lv_lload hx hb d_M_power_47 (lv_at hl 2 rfl) ?_
          refine lv_lload hx hb d_M_power_49 (lv_at hl 2 rfl) ?_
          refine lv_lmul hx hb d_M_power_51 ?_
          refine lv_ldc2 (v := 2147483579) hx hb hown (hw _ ww_766) d_M_power_52 ?_
          refine lv_lrem hx hb d_M_power_55 (by decide) ?_
          refine tp_l (ln_mulP hx1 hx1) ?_
          refine lv_lstore (lv' := [(6, .long (lN (xx * xx % pq_P))), (4, .long (lN rr)), (8, .long (lN f)), (0, .long (lN b)), (2, .long (lN ex))]) hx hb d_M_power_56 hl (Nat.le_of_ble_eq_true rfl) rfl (fun ls hl => ?_)
          refine lv_lload hx hb d_M_power_58 (lv_at hl 2 rfl) ?_
          refine lv_ldc2 (v := 2) hx hb hown (hw _ ww_762) d_M_power_60 ?_
          refine lv_ldiv hx hb d_M_power_63 (by decide) ?_
          refine tp_l (ln_d2 h63) ?_
          refine lv_lstore (lv' := [(8, .long (lN (f / 2))), (6, .long (lN (xx * xx % pq_P))), (4, .long (lN rr)), (0, .long (lN b)), (2, .long (lN ex))]) hx hb d_M_power_64 hl (Nat.le_of_ble_eq_true rfl) rfl (fun ls hl => ?_)
          refine lv_goto (tgt := 13) hx hb d_M_power_66 (by decide) ?_
          exact ih (f / 2) _ _ (pm_h hf) (by omega) hr1 (Nat.mod_lt _ pq_pos) (pm_0 hq hbit) ls (lv_sub hl [0, 1, 2, 3, 4] rfl)
        · have h182 := (lg_cmp_eq _ _).mp h182
          have hbit : f % 2 = 1 := (pk_lEQ (by omega) (by decide)).mp h182
          refine lv_lload hx hb d_M_power_31 (lv_at hl 2 rfl) ?_
          refine lv_lload hx hb d_M_power_33 (lv_at hl 1 rfl) ?_
          refine lv_lmul hx hb d_M_power_35 ?_
          refine lv_ldc2 (v := 2147483579) hx hb hown (hw _ ww_766) d_M_power_36 ?_
          refine lv_lrem hx hb d_M_power_39 (by decide) ?_
          refine tp_l (ln_mulP hr1 hx1) ?_
          refine lv_goto (tgt := 45) hx hb d_M_power_40 (by decide) ?_
          refine lv_lstore (lv' := [(4, .long (lN (rr * xx % pq_P))), (8, .long (lN f)), (6, .long (lN xx)), (0, .long (lN b)), (2, .long (lN ex))]) hx hb d_M_power_45 hl (Nat.le_of_ble_eq_true rfl) rfl (fun ls hl => ?_)
          refine lv_lload hx hb d_M_power_47 (lv_at hl 2 rfl) ?_
          refine lv_lload hx hb d_M_power_49 (lv_at hl 2 rfl) ?_
          refine lv_lmul hx hb d_M_power_51 ?_
          refine lv_ldc2 (v := 2147483579) hx hb hown (hw _ ww_766) d_M_power_52 ?_
          refine lv_lrem hx hb d_M_power_55 (by decide) ?_
          refine tp_l (ln_mulP hx1 hx1) ?_
          refine lv_lstore (lv' := [(6, .long (lN (xx * xx % pq_P))), (4, .long (lN (rr * xx % pq_P))), (8, .long (lN f)), (0, .long (lN b)), (2, .long (lN ex))]) hx hb d_M_power_56 hl (Nat.le_of_ble_eq_true rfl) rfl (fun ls hl => ?_)
          refine lv_lload hx hb d_M_power_58 (lv_at hl 2 rfl) ?_
          refine lv_ldc2 (v := 2) hx hb hown (hw _ ww_762) d_M_power_60 ?_
          refine lv_ldiv hx hb d_M_power_63 (by decide) ?_
          refine tp_l (ln_d2 h63) ?_
          refine lv_lstore (lv' := [(8, .long (lN (f / 2))), (6, .long (lN (xx * xx % pq_P))), (4, .long (lN (rr * xx % pq_P))), (0, .long (lN b)), (2, .long (lN ex))]) hx hb d_M_power_64 hl (Nat.le_of_ble_eq_true rfl) rfl (fun ls hl => ?_)
          refine lv_goto (tgt := 13) hx hb d_M_power_66 (by decide) ?_
          exact ih (f / 2) _ _ (pm_h hf) (by omega) (Nat.mod_lt _ pq_pos) (Nat.mod_lt _ pq_pos) (pm_1 hq hbit) ls (lv_sub hl [0, 1, 2, 3, 4] rfl)
  exact key 63 ex 1 (b % pq_P) he1 (Nat.le_refl _) (by decide) (Nat.mod_lt _ pq_pos) (by rw [Nat.one_mul]; exact pw_mb b ex) ls (lv_sub hl [0, 1, 2, 3, 4] rfl)
set_option maxHeartbeats 4000000 in
set_option maxRecDepth 100000 in
theorem c_M_feed (l : Launch) (G : va_G) (ct : Nat → ClassId) (sz : Nat) (hm : Nat) (th : Int32) (sd : Int64) (nw : Int32) (hh : Int64) (q1 : Nat) (q2 : Nat) (q3 : Nat) (q4 : Nat) (q5 : Nat) (q6 : Nat) (q7 : Nat) (q8 : Nat) (q9 : Nat) (q10 : Nat) (q11 : Nat) (q12 : Nat) (q13 : Nat) (q14 : Nat) (q15 : Nat) (q16 : Nat) (q17 : Nat) (q18 : Nat) (q19 : Nat) (q20 : Nat) (n : Nat) (x1 : Int64) : Met l my_M_feed (tb_w my_M_feed mb_M_feed 4 none) ({ frames := 0, cells := 0, slots := 0, locals := 0 }) (wk_P [.ref hm, .long x1] G ct [(hm, .inr (4, [.int th, .long sd, .int nw, .long hh, .ref q1, .ref q2, .ref q3, .ref q4, .ref q5, .ref q6, .ref q7, .ref q8, .int (nI n), .ref q9, .ref q10, .ref q11, .ref q12, .ref q13, .ref q14, .ref q15, .ref q16, .ref q17, .ref q18, .ref q19, .ref q20]))] sz) (wk_Q (wk_ov (S := Unit) (fun _ => True)) (fun _ : Unit => [(hm, .inr (4, [.int th, .long sd, .int nw, .long (dg_a hh x1), .ref q1, .ref q2, .ref q3, .ref q4, .ref q5, .ref q6, .ref q7, .ref q8, .int (nI n), .ref q9, .ref q10, .ref q11, .ref q12, .ref q13, .ref q14, .ref q15, .ref q16, .ref q17, .ref q18, .ref q19, .ref q20]))]) G (va_A [(hm, .inr (4, [.int th, .long sd, .int nw, .long hh, .ref q1, .ref q2, .ref q3, .ref q4, .ref q5, .ref q6, .ref q7, .ref q8, .int (nI n), .ref q9, .ref q10, .ref q11, .ref q12, .ref q13, .ref q14, .ref q15, .ref q16, .ref q17, .ref q18, .ref q19, .ref q20]))] sz)) 0 0 (va_A [(hm, .inr (4, [.int th, .long sd, .int nw, .long hh, .ref q1, .ref q2, .ref q3, .ref q4, .ref q5, .ref q6, .ref q7, .ref q8, .int (nI n), .ref q9, .ref q10, .ref q11, .ref q12, .ref q13, .ref q14, .ref q15, .ref q16, .ref q17, .ref q18, .ref q19, .ref q20]))] sz) := by
  refine Met.ofW (cc := mb_M_feed) (maxL := 4) (ret := none) (by decide) rfl ?_
  intro p e s m args below meth c s₁ B hml hv
  obtain ⟨rfl, hsz, hP, hK, hD0⟩ := hv
  have hx := B.exec
  have hb := B.bytes
  have hr := B.returns
  have hts := atoms_spec (ws := tb_w my_M_feed mb_M_feed 4 none) B.pre
  have hw : ∀ w ∈ gt_tbl, w.before [.ref hm, .long x1].toArray s = true := fun w h => hts w (List.mem_cons_of_mem _ h)
  have hown : s.vm.findClass cr_M = some m.cls := findClass_of_methodNamed B.named
  have hlocks := B.notSynchronized
  subst hsz
  have hD := hD0.self (sz := s.heap.size)
  generalize hAe : va_A [(hm, .inr (4, [.int th, .long sd, .int nw, .long hh, .ref q1, .ref q2, .ref q3, .ref q4, .ref q5, .ref q6, .ref q7, .ref q8, .int (nI n), .ref q9, .ref q10, .ref q11, .ref q12, .ref q13, .ref q14, .ref q15, .ref q16, .ref q17, .ref q18, .ref q19, .ref q20]))] s.heap.size = A at hD ⊢
  have hA : ∀ q : Nat, s.heap.size ≤ q → A q := fun q h => by rw [← hAe]; exact Or.inr h
  have hS : va_S A s.heap s.heap [] := va_S.rf
  have hP : va_P G classes [(hm, .inr (4, [.int th, .long sd, .int nw, .long hh, .ref q1, .ref q2, .ref q3, .ref q4, .ref q5, .ref q6, .ref q7, .ref q8, .int (nI n), .ref q9, .ref q10, .ref q11, .ref q12, .ref q13, .ref q14, .ref q15, .ref q16, .ref q17, .ref q18, .ref q19, .ref q20]))] s.heap := hP
  have hl := lv_entry ([.ref hm, .long x1]) (n := 4) (Nat.le_of_ble_eq_true rfl)
  rw [lg_entry_eq]
  generalize (lg_sl ([.ref hm, .long x1]) ++ List.replicate (4 - (lg_sl ([.ref hm, .long x1])).length) Slot.unset).toArray = ls at hl ⊢
  have hl : lv_has ls 4 [(0, .ref hm), (1, .long x1)] := hl
  refine lv_bipush (v := 7) hx hb d_M_feed_0 (by decide) ?_
  refine lv_istore_n (lv' := [(3, .int 7), (0, .ref hm), (1, .long x1)]) hx hb d_M_feed_2 rfl hl (Nat.le_of_ble_eq_true rfl) rfl (fun ls hl => ?_)
  refine lv_iload_n hx hb d_M_feed_3 rfl (lv_at hl 0 rfl) ?_
  refine lv_if_lt (tgt := 36) hx hb d_M_feed_4 (by decide) (fun h183 => ?_) (fun h183 => ?_)
  · exact absurd h183 (by decide)
  · refine lv_aload_n hx hb d_M_feed_7 rfl (lv_at hl 1 rfl) ?_
    refine lv_aload_n hx hb d_M_feed_8 rfl (lv_at hl 1 rfl) ?_
    refine va_get (D := G) (ci := 4) (v := .long hh) (C := cr_M) (T := cf_M) (N := 25) hx hb hw uw_M hown hK.1 hP 0 rfl rfl 3 (by decide) (hw _ ww_643) (fun _ h9 => h9) rfl d_M_feed_9 ?_
    refine lv_lload_n hx hb d_M_feed_12 rfl (lv_at hl 2 rfl) ?_
    refine lv_bipush (v := 8) hx hb d_M_feed_13 (by decide) ?_
    refine lv_iload_n hx hb d_M_feed_15 rfl (lv_at hl 0 rfl) ?_
    refine lv_imul hx hb d_M_feed_16 ?_
    refine tp_i ((by decide : (8 * 7 : Int32) = 56)) ?_
    refine lv_lushr (v := dg_sh x1 56) hx hb d_M_feed_17 rfl ?_
    refine lv_ldc2 (v := 255) hx hb hown (hw _ ww_746) d_M_feed_18 ?_
    refine lv_land hx hb d_M_feed_21 ?_
    refine lv_lxor hx hb d_M_feed_22 ?_
    refine lv_ldc2 (v := 1099511628211) hx hb hown (hw _ ww_747) d_M_feed_23 ?_
    refine lv_lmul hx hb d_M_feed_26 ?_
    refine tp_l (rfl) ?_
    refine va_put (D := G) (ci := 4) (v := .long (dg_b x1 hh 56)) (ty := .long) (C := cr_M) (T := cf_M) (N := 25) hx hb hw uw_M ct_M ct_M_ok ct_M_nm hown hK.1 hP hD hS 0 rfl rfl 3 (by decide) (hw _ ww_643) (fun _ h9 => h9) rfl (by decide +kernel) rfl rfl (Nat.le_of_ble_eq_true rfl) d_M_feed_27 (fun H locs hP hD hS => ?_)
    have hP : va_P G classes [(hm, .inr (4, [.int th, .long sd, .int nw, .long (dg_b x1 hh 56), .ref q1, .ref q2, .ref q3, .ref q4, .ref q5, .ref q6, .ref q7, .ref q8, .int (nI n), .ref q9, .ref q10, .ref q11, .ref q12, .ref q13, .ref q14, .ref q15, .ref q16, .ref q17, .ref q18, .ref q19, .ref q20]))] H := hP
    have hD : va_D A [(hm, .inr (4, [.int th, .long sd, .int nw, .long (dg_b x1 hh 56), .ref q1, .ref q2, .ref q3, .ref q4, .ref q5, .ref q6, .ref q7, .ref q8, .int (nI n), .ref q9, .ref q10, .ref q11, .ref q12, .ref q13, .ref q14, .ref q15, .ref q16, .ref q17, .ref q18, .ref q19, .ref q20]))] := hD
    refine lv_iinc (k := 0) (v := 6) (lv' := [(3, .int 6), (0, .ref hm), (1, .long x1)]) hx hb d_M_feed_30 hl rfl (by decide) (Nat.le_of_ble_eq_true rfl) rfl (fun ls hl => ?_)
    refine lv_goto (tgt := 3) hx hb d_M_feed_33 (by decide) ?_
    refine lv_iload_n hx hb d_M_feed_3 rfl (lv_at hl 0 rfl) ?_
    refine lv_if_lt (tgt := 36) hx hb d_M_feed_4 (by decide) (fun h184 => ?_) (fun h184 => ?_)
    · exact absurd h184 (by decide)
    · refine lv_aload_n hx hb d_M_feed_7 rfl (lv_at hl 1 rfl) ?_
      refine lv_aload_n hx hb d_M_feed_8 rfl (lv_at hl 1 rfl) ?_
      refine va_get (D := G) (ci := 4) (v := .long (dg_b x1 hh 56)) (C := cr_M) (T := cf_M) (N := 25) hx hb hw uw_M hown hK.1 hP 0 rfl rfl 3 (by decide) (hw _ ww_643) (fun _ h9 => h9) rfl d_M_feed_9 ?_
      refine lv_lload_n hx hb d_M_feed_12 rfl (lv_at hl 2 rfl) ?_
      refine lv_bipush (v := 8) hx hb d_M_feed_13 (by decide) ?_
      refine lv_iload_n hx hb d_M_feed_15 rfl (lv_at hl 0 rfl) ?_
      refine lv_imul hx hb d_M_feed_16 ?_
      refine tp_i ((by decide : (8 * 6 : Int32) = 48)) ?_
      refine lv_lushr (v := dg_sh x1 48) hx hb d_M_feed_17 rfl ?_
      refine lv_ldc2 (v := 255) hx hb hown (hw _ ww_746) d_M_feed_18 ?_
      refine lv_land hx hb d_M_feed_21 ?_
      refine lv_lxor hx hb d_M_feed_22 ?_
      refine lv_ldc2 (v := 1099511628211) hx hb hown (hw _ ww_747) d_M_feed_23 ?_
      refine lv_lmul hx hb d_M_feed_26 ?_
      refine tp_l (rfl) ?_
      refine va_put (D := G) (ci := 4) (v := .long (dg_b x1 (dg_b x1 hh 56) 48)) (ty := .long) (C := cr_M) (T := cf_M) (N := 25) hx hb hw uw_M ct_M ct_M_ok ct_M_nm hown hK.1 hP hD hS 0 rfl rfl 3 (by decide) (hw _ ww_643) (fun _ h9 => h9) rfl (by decide +kernel) rfl rfl (Nat.le_of_ble_eq_true rfl) d_M_feed_27 (fun H locs hP hD hS => ?_)
      have hP : va_P G classes [(hm, .inr (4, [.int th, .long sd, .int nw, .long (dg_b x1 (dg_b x1 hh 56) 48), .ref q1, .ref q2, .ref q3, .ref q4, .ref q5, .ref q6, .ref q7, .ref q8, .int (nI n), .ref q9, .ref q10, .ref q11, .ref q12, .ref q13, .ref q14, .ref q15, .ref q16, .ref q17, .ref q18, .ref q19, .ref q20]))] H := hP
      have hD : va_D A [(hm, .inr (4, [.int th, .long sd, .int nw, .long (dg_b x1 (dg_b x1 hh 56) 48), .ref q1, .ref q2, .ref q3, .ref q4, .ref q5, .ref q6, .ref q7, .ref q8, .int (nI n), .ref q9, .ref q10, .ref q11, .ref q12, .ref q13, .ref q14, .ref q15, .ref q16, .ref q17, .ref q18, .ref q19, .ref q20]))] := hD
      refine lv_iinc (k := 0) (v := 5) (lv' := [(3, .int 5), (0, .ref hm), (1, .long x1)]) hx hb d_M_feed_30 hl rfl (by decide) (Nat.le_of_ble_eq_true rfl) rfl (fun ls hl => ?_)
      refine lv_goto (tgt := 3) hx hb d_M_feed_33 (by decide) ?_
      refine lv_iload_n hx hb d_M_feed_3 rfl (lv_at hl 0 rfl) ?_
      refine lv_if_lt (tgt := 36) hx hb d_M_feed_4 (by decide) (fun h185 => ?_) (fun h185 => ?_)
      · exact absurd h185 (by decide)
      · refine lv_aload_n hx hb d_M_feed_7 rfl (lv_at hl 1 rfl) ?_
        refine lv_aload_n hx hb d_M_feed_8 rfl (lv_at hl 1 rfl) ?_
        refine va_get (D := G) (ci := 4) (v := .long (dg_b x1 (dg_b x1 hh 56) 48)) (C := cr_M) (T := cf_M) (N := 25) hx hb hw uw_M hown hK.1 hP 0 rfl rfl 3 (by decide) (hw _ ww_643) (fun _ h9 => h9) rfl d_M_feed_9 ?_
        refine lv_lload_n hx hb d_M_feed_12 rfl (lv_at hl 2 rfl) ?_
        refine lv_bipush (v := 8) hx hb d_M_feed_13 (by decide) ?_
        refine lv_iload_n hx hb d_M_feed_15 rfl (lv_at hl 0 rfl) ?_
        refine lv_imul hx hb d_M_feed_16 ?_
        refine tp_i ((by decide : (8 * 5 : Int32) = 40)) ?_
        refine lv_lushr (v := dg_sh x1 40) hx hb d_M_feed_17 rfl ?_
        refine lv_ldc2 (v := 255) hx hb hown (hw _ ww_746) d_M_feed_18 ?_
        refine lv_land hx hb d_M_feed_21 ?_
        refine lv_lxor hx hb d_M_feed_22 ?_
        refine lv_ldc2 (v := 1099511628211) hx hb hown (hw _ ww_747) d_M_feed_23 ?_
        refine lv_lmul hx hb d_M_feed_26 ?_
        refine tp_l (rfl) ?_
        refine va_put (D := G) (ci := 4) (v := .long (dg_b x1 (dg_b x1 (dg_b x1 hh 56) 48) 40)) (ty := .long) (C := cr_M) (T := cf_M) (N := 25) hx hb hw uw_M ct_M ct_M_ok ct_M_nm hown hK.1 hP hD hS 0 rfl rfl 3 (by decide) (hw _ ww_643) (fun _ h9 => h9) rfl (by decide +kernel) rfl rfl (Nat.le_of_ble_eq_true rfl) d_M_feed_27 (fun H locs hP hD hS => ?_)
        have hP : va_P G classes [(hm, .inr (4, [.int th, .long sd, .int nw, .long (dg_b x1 (dg_b x1 (dg_b x1 hh 56) 48) 40), .ref q1, .ref q2, .ref q3, .ref q4, .ref q5, .ref q6, .ref q7, .ref q8, .int (nI n), .ref q9, .ref q10, .ref q11, .ref q12, .ref q13, .ref q14, .ref q15, .ref q16, .ref q17, .ref q18, .ref q19, .ref q20]))] H := hP
        have hD : va_D A [(hm, .inr (4, [.int th, .long sd, .int nw, .long (dg_b x1 (dg_b x1 (dg_b x1 hh 56) 48) 40), .ref q1, .ref q2, .ref q3, .ref q4, .ref q5, .ref q6, .ref q7, .ref q8, .int (nI n), .ref q9, .ref q10, .ref q11, .ref q12, .ref q13, .ref q14, .ref q15, .ref q16, .ref q17, .ref q18, .ref q19, .ref q20]))] := hD
        refine lv_iinc (k := 0) (v := 4) (lv' := [(3, .int 4), (0, .ref hm), (1, .long x1)]) hx hb d_M_feed_30 hl rfl (by decide) (Nat.le_of_ble_eq_true rfl) rfl (fun ls hl => ?_)
        refine lv_goto (tgt := 3) hx hb d_M_feed_33 (by decide) ?_
        refine lv_iload_n hx hb d_M_feed_3 rfl (lv_at hl 0 rfl) ?_
        refine lv_if_lt (tgt := 36) hx hb d_M_feed_4 (by decide) (fun h186 => ?_) (fun h186 => ?_)
        · exact absurd h186 (by decide)
        · refine lv_aload_n hx hb d_M_feed_7 rfl (lv_at hl 1 rfl) ?_
          refine lv_aload_n hx hb d_M_feed_8 rfl (lv_at hl 1 rfl) ?_
          refine va_get (D := G) (ci := 4) (v := .long (dg_b x1 (dg_b x1 (dg_b x1 hh 56) 48) 40)) (C := cr_M) (T := cf_M) (N := 25) hx hb hw uw_M hown hK.1 hP 0 rfl rfl 3 (by decide) (hw _ ww_643) (fun _ h9 => h9) rfl d_M_feed_9 ?_
          refine lv_lload_n hx hb d_M_feed_12 rfl (lv_at hl 2 rfl) ?_
          refine lv_bipush (v := 8) hx hb d_M_feed_13 (by decide) ?_
          refine lv_iload_n hx hb d_M_feed_15 rfl (lv_at hl 0 rfl) ?_
          refine lv_imul hx hb d_M_feed_16 ?_
          refine tp_i ((by decide : (8 * 4 : Int32) = 32)) ?_
          refine lv_lushr (v := dg_sh x1 32) hx hb d_M_feed_17 rfl ?_
          refine lv_ldc2 (v := 255) hx hb hown (hw _ ww_746) d_M_feed_18 ?_
          refine lv_land hx hb d_M_feed_21 ?_
          refine lv_lxor hx hb d_M_feed_22 ?_
          refine lv_ldc2 (v := 1099511628211) hx hb hown (hw _ ww_747) d_M_feed_23 ?_
          refine lv_lmul hx hb d_M_feed_26 ?_
          refine tp_l (rfl) ?_
          refine va_put (D := G) (ci := 4) (v := .long (dg_b x1 (dg_b x1 (dg_b x1 (dg_b x1 hh 56) 48) 40) 32)) (ty := .long) (C := cr_M) (T := cf_M) (N := 25) hx hb hw uw_M ct_M ct_M_ok ct_M_nm hown hK.1 hP hD hS 0 rfl rfl 3 (by decide) (hw _ ww_643) (fun _ h9 => h9) rfl (by decide +kernel) rfl rfl (Nat.le_of_ble_eq_true rfl) d_M_feed_27 (fun H locs hP hD hS => ?_)
          have hP : va_P G classes [(hm, .inr (4, [.int th, .long sd, .int nw, .long (dg_b x1 (dg_b x1 (dg_b x1 (dg_b x1 hh 56) 48) 40) 32), .ref q1, .ref q2, .ref q3, .ref q4, .ref q5, .ref q6, .ref q7, .ref q8, .int (nI n), .ref q9, .ref q10, .ref q11, .ref q12, .ref q13, .ref q14, .ref q15, .ref q16, .ref q17, .ref q18, .ref q19, .ref q20]))] H := hP
          have hD : va_D A [(hm, .inr (4, [.int th, .long sd, .int nw, .long (dg_b x1 (dg_b x1 (dg_b x1 (dg_b x1 hh 56) 48) 40) 32), .ref q1, .ref q2, .ref q3, .ref q4, .ref q5, .ref q6, .ref q7, .ref q8, .int (nI n), .ref q9, .ref q10, .ref q11, .ref q12, .ref q13, .ref q14, .ref q15, .ref q16, .ref q17, .ref q18, .ref q19, .ref q20]))] := hD
          refine lv_iinc (k := 0) (v := 3) (lv' := [(3, .int 3), (0, .ref hm), (1, .long x1)]) hx hb d_M_feed_30 hl rfl (by decide) (Nat.le_of_ble_eq_true rfl) rfl (fun ls hl => ?_)
          refine lv_goto (tgt := 3) hx hb d_M_feed_33 (by decide) ?_
          refine lv_iload_n hx hb d_M_feed_3 rfl (lv_at hl 0 rfl) ?_
          refine lv_if_lt (tgt := 36) hx hb d_M_feed_4 (by decide) (fun h187 => ?_) (fun h187 => ?_)
          · exact absurd h187 (by decide)
          · refine lv_aload_n hx hb d_M_feed_7 rfl (lv_at hl 1 rfl) ?_
            refine lv_aload_n hx hb d_M_feed_8 rfl (lv_at hl 1 rfl) ?_
            refine va_get (D := G) (ci := 4) (v := .long (dg_b x1 (dg_b x1 (dg_b x1 (dg_b x1 hh 56) 48) 40) 32)) (C := cr_M) (T := cf_M) (N := 25) hx hb hw uw_M hown hK.1 hP 0 rfl rfl 3 (by decide) (hw _ ww_643) (fun _ h9 => h9) rfl d_M_feed_9 ?_
            refine lv_lload_n hx hb d_M_feed_12 rfl (lv_at hl 2 rfl) ?_
            refine lv_bipush (v := 8) hx hb d_M_feed_13 (by decide) ?_
            refine lv_iload_n hx hb d_M_feed_15 rfl (lv_at hl 0 rfl) ?_
            refine lv_imul hx hb d_M_feed_16 ?_
            refine tp_i ((by decide : (8 * 3 : Int32) = 24)) ?_
            refine lv_lushr (v := dg_sh x1 24) hx hb d_M_feed_17 rfl ?_
            refine lv_ldc2 (v := 255) hx hb hown (hw _ ww_746) d_M_feed_18 ?_
            refine lv_land hx hb d_M_feed_21 ?_
            refine lv_lxor hx hb d_M_feed_22 ?_
            refine lv_ldc2 (v := 1099511628211) hx hb hown (hw _ ww_747) d_M_feed_23 ?_
            refine lv_lmul hx hb d_M_feed_26 ?_
            refine tp_l (rfl) ?_
            refine va_put (D := G) (ci := 4) (v := .long (dg_b x1 (dg_b x1 (dg_b x1 (dg_b x1 (dg_b x1 hh 56) 48) 40) 32) 24)) (ty := .long) (C := cr_M) (T := cf_M) (N := 25) hx hb hw uw_M ct_M ct_M_ok ct_M_nm hown hK.1 hP hD hS 0 rfl rfl 3 (by decide) (hw _ ww_643) (fun _ h9 => h9) rfl (by decide +kernel) rfl rfl (Nat.le_of_ble_eq_true rfl) d_M_feed_27 (fun H locs hP hD hS => ?_)
            have hP : va_P G classes [(hm, .inr (4, [.int th, .long sd, .int nw, .long (dg_b x1 (dg_b x1 (dg_b x1 (dg_b x1 (dg_b x1 hh 56) 48) 40) 32) 24), .ref q1, .ref q2, .ref q3, .ref q4, .ref q5, .ref q6, .ref q7, .ref q8, .int (nI n), .ref q9, .ref q10, .ref q11, .ref q12, .ref q13, .ref q14, .ref q15, .ref q16, .ref q17, .ref q18, .ref q19, .ref q20]))] H := hP
            have hD : va_D A [(hm, .inr (4, [.int th, .long sd, .int nw, .long (dg_b x1 (dg_b x1 (dg_b x1 (dg_b x1 (dg_b x1 hh 56) 48) 40) 32) 24), .ref q1, .ref q2, .ref q3, .ref q4, .ref q5, .ref q6, .ref q7, .ref q8, .int (nI n), .ref q9, .ref q10, .ref q11, .ref q12, .ref q13, .ref q14, .ref q15, .ref q16, .ref q17, .ref q18, .ref q19, .ref q20]))] := hD
            refine lv_iinc (k := 0) (v := 2) (lv' := [(3, .int 2), (0, .ref hm), (1, .long x1)]) hx hb d_M_feed_30 hl rfl (by decide) (Nat.le_of_ble_eq_true rfl) rfl (fun ls hl => ?_)
            refine lv_goto (tgt := 3) hx hb d_M_feed_33 (by decide) ?_
            refine lv_iload_n hx hb d_M_feed_3 rfl (lv_at hl 0 rfl) ?_
            refine lv_if_lt (tgt := 36) hx hb d_M_feed_4 (by decide) (fun h188 => ?_) (fun h188 => ?_)
            · exact absurd h188 (by decide)
            · refine lv_aload_n hx hb d_M_feed_7 rfl (lv_at hl 1 rfl) ?_
              refine lv_aload_n hx hb d_M_feed_8 rfl (lv_at hl 1 rfl) ?_
              refine va_get (D := G) (ci := 4) (v := .long (dg_b x1 (dg_b x1 (dg_b x1 (dg_b x1 (dg_b x1 hh 56) 48) 40) 32) 24)) (C := cr_M) (T := cf_M) (N := 25) hx hb hw uw_M hown hK.1 hP 0 rfl rfl 3 (by decide) (hw _ ww_643) (fun _ h9 => h9) rfl d_M_feed_9 ?_
              refine lv_lload_n hx hb d_M_feed_12 rfl (lv_at hl 2 rfl) ?_
              refine lv_bipush (v := 8) hx hb d_M_feed_13 (by decide) ?_
              refine lv_iload_n hx hb d_M_feed_15 rfl (lv_at hl 0 rfl) ?_
              refine lv_imul hx hb d_M_feed_16 ?_
              refine tp_i ((by decide : (8 * 2 : Int32) = 16)) ?_
              refine lv_lushr (v := dg_sh x1 16) hx hb d_M_feed_17 rfl ?_
              refine lv_ldc2 (v := 255) hx hb hown (hw _ ww_746) d_M_feed_18 ?_
              refine lv_land hx hb d_M_feed_21 ?_
              refine lv_lxor hx hb d_M_feed_22 ?_
              refine lv_ldc2 (v := 1099511628211) hx hb hown (hw _ ww_747) d_M_feed_23 ?_
              refine lv_lmul hx hb d_M_feed_26 ?_
              refine tp_l (rfl) ?_
              refine va_put (D := G) (ci := 4) (v := .long (dg_b x1 (dg_b x1 (dg_b x1 (dg_b x1 (dg_b x1 (dg_b x1 hh 56) 48) 40) 32) 24) 16)) (ty := .long) (C := cr_M) (T := cf_M) (N := 25) hx hb hw uw_M ct_M ct_M_ok ct_M_nm hown hK.1 hP hD hS 0 rfl rfl 3 (by decide) (hw _ ww_643) (fun _ h9 => h9) rfl (by decide +kernel) rfl rfl (Nat.le_of_ble_eq_true rfl) d_M_feed_27 (fun H locs hP hD hS => ?_)
              have hP : va_P G classes [(hm, .inr (4, [.int th, .long sd, .int nw, .long (dg_b x1 (dg_b x1 (dg_b x1 (dg_b x1 (dg_b x1 (dg_b x1 hh 56) 48) 40) 32) 24) 16), .ref q1, .ref q2, .ref q3, .ref q4, .ref q5, .ref q6, .ref q7, .ref q8, .int (nI n), .ref q9, .ref q10, .ref q11, .ref q12, .ref q13, .ref q14, .ref q15, .ref q16, .ref q17, .ref q18, .ref q19, .ref q20]))] H := hP
              have hD : va_D A [(hm, .inr (4, [.int th, .long sd, .int nw, .long (dg_b x1 (dg_b x1 (dg_b x1 (dg_b x1 (dg_b x1 (dg_b x1 hh 56) 48) 40) 32) 24) 16), .ref q1, .ref q2, .ref q3, .ref q4, .ref q5, .ref q6, .ref q7, .ref q8, .int (nI n), .ref q9, .ref q10, .ref q11, .ref q12, .ref q13, .ref q14, .ref q15, .ref q16, .ref q17, .ref q18, .ref q19, .ref q20]))] := hD
              refine lv_iinc (k := 0) (v := 1) (lv' := [(3, .int 1), (0, .ref hm), (1, .long x1)]) hx hb d_M_feed_30 hl rfl (by decide) (Nat.le_of_ble_eq_true rfl) rfl (fun ls hl => ?_)
              refine lv_goto (tgt := 3) hx hb d_M_feed_33 (by decide) ?_
              refine lv_iload_n hx hb d_M_feed_3 rfl (lv_at hl 0 rfl) ?_
              refine lv_if_lt (tgt := 36) hx hb d_M_feed_4 (by decide) (fun h189 => ?_) (fun h189 => ?_)
              · exact absurd h189 (by decide)
              · refine lv_aload_n hx hb d_M_feed_7 rfl (lv_at hl 1 rfl) ?_
                refine lv_aload_n hx hb d_M_feed_8 rfl (lv_at hl 1 rfl) ?_
                refine va_get (D := G) (ci := 4) (v := .long (dg_b x1 (dg_b x1 (dg_b x1 (dg_b x1 (dg_b x1 (dg_b x1 hh 56) 48) 40) 32) 24) 16)) (C := cr_M) (T := cf_M) (N := 25) hx hb hw uw_M hown hK.1 hP 0 rfl rfl 3 (by decide) (hw _ ww_643) (fun _ h9 => h9) rfl d_M_feed_9 ?_
                refine lv_lload_n hx hb d_M_feed_12 rfl (lv_at hl 2 rfl) ?_
                refine lv_bipush (v := 8) hx hb d_M_feed_13 (by decide) ?_
                refine lv_iload_n hx hb d_M_feed_15 rfl (lv_at hl 0 rfl) ?_
                refine lv_imul hx hb d_M_feed_16 ?_
                refine tp_i ((by decide : (8 * 1 : Int32) = 8)) ?_
                refine lv_lushr (v := dg_sh x1 8) hx hb d_M_feed_17 rfl ?_
                refine lv_ldc2 (v := 255) hx hb hown (hw _ ww_746) d_M_feed_18 ?_
                refine lv_land hx hb d_M_feed_21 ?_
                refine lv_lxor hx hb d_M_feed_22 ?_
                refine lv_ldc2 (v := 1099511628211) hx hb hown (hw _ ww_747) d_M_feed_23 ?_
                refine lv_lmul hx hb d_M_feed_26 ?_
                refine tp_l (rfl) ?_
                refine va_put (D := G) (ci := 4) (v := .long (dg_b x1 (dg_b x1 (dg_b x1 (dg_b x1 (dg_b x1 (dg_b x1 (dg_b x1 hh 56) 48) 40) 32) 24) 16) 8)) (ty := .long) (C := cr_M) (T := cf_M) (N := 25) hx hb hw uw_M ct_M ct_M_ok ct_M_nm hown hK.1 hP hD hS 0 rfl rfl 3 (by decide) (hw _ ww_643) (fun _ h9 => h9) rfl (by decide +kernel) rfl rfl (Nat.le_of_ble_eq_true rfl) d_M_feed_27 (fun H locs hP hD hS => ?_)
                have hP : va_P G classes [(hm, .inr (4, [.int th, .long sd, .int nw, .long (dg_b x1 (dg_b x1 (dg_b x1 (dg_b x1 (dg_b x1 (dg_b x1 (dg_b x1 hh 56) 48) 40) 32) 24) 16) 8), .ref q1, .ref q2, .ref q3, .ref q4, .ref q5, .ref q6, .ref q7, .ref q8, .int (nI n), .ref q9, .ref q10, .ref q11, .ref q12, .ref q13, .ref q14, .ref q15, .ref q16, .ref q17, .ref q18, .ref q19, .ref q20]))] H := hP
                have hD : va_D A [(hm, .inr (4, [.int th, .long sd, .int nw, .long (dg_b x1 (dg_b x1 (dg_b x1 (dg_b x1 (dg_b x1 (dg_b x1 (dg_b x1 hh 56) 48) 40) 32) 24) 16) 8), .ref q1, .ref q2, .ref q3, .ref q4, .ref q5, .ref q6, .ref q7, .ref q8, .int (nI n), .ref q9, .ref q10, .ref q11, .ref q12, .ref q13, .ref q14, .ref q15, .ref q16, .ref q17, .ref q18, .ref q19, .ref q20]))] := hD
                refine lv_iinc (k := 0) (v := 0) (lv' := [(3, .int 0), (0, .ref hm), (1, .long x1)]) hx hb d_M_feed_30 hl rfl (by decide) (Nat.le_of_ble_eq_true rfl) rfl (fun ls hl => ?_)
                refine lv_goto (tgt := 3) hx hb d_M_feed_33 (by decide) ?_
                refine lv_iload_n hx hb d_M_feed_3 rfl (lv_at hl 0 rfl) ?_
                refine lv_if_lt (tgt := 36) hx hb d_M_feed_4 (by decide) (fun h190 => ?_) (fun h190 => ?_)
                · exact absurd h190 (by decide)
                · refine lv_aload_n hx hb d_M_feed_7 rfl (lv_at hl 1 rfl) ?_
                  refine lv_aload_n hx hb d_M_feed_8 rfl (lv_at hl 1 rfl) ?_
                  refine va_get (D := G) (ci := 4) (v := .long (dg_b x1 (dg_b x1 (dg_b x1 (dg_b x1 (dg_b x1 (dg_b x1 (dg_b x1 hh 56) 48) 40) 32) 24) 16) 8)) (C := cr_M) (T := cf_M) (N := 25) hx hb hw uw_M hown hK.1 hP 0 rfl rfl 3 (by decide) (hw _ ww_643) (fun _ h9 => h9) rfl d_M_feed_9 ?_
                  refine lv_lload_n hx hb d_M_feed_12 rfl (lv_at hl 2 rfl) ?_
                  refine lv_bipush (v := 8) hx hb d_M_feed_13 (by decide) ?_
                  refine lv_iload_n hx hb d_M_feed_15 rfl (lv_at hl 0 rfl) ?_
                  refine lv_imul hx hb d_M_feed_16 ?_
                  refine tp_i ((by decide : (8 * 0 : Int32) = 0)) ?_
                  refine lv_lushr (v := dg_sh x1 0) hx hb d_M_feed_17 rfl ?_
                  refine lv_ldc2 (v := 255) hx hb hown (hw _ ww_746) d_M_feed_18 ?_
                  refine lv_land hx hb d_M_feed_21 ?_
                  refine lv_lxor hx hb d_M_feed_22 ?_
                  refine lv_ldc2 (v := 1099511628211) hx hb hown (hw _ ww_747) d_M_feed_23 ?_
                  refine lv_lmul hx hb d_M_feed_26 ?_
                  refine tp_l (rfl) ?_
                  refine va_put (D := G) (ci := 4) (v := .long (dg_b x1 (dg_b x1 (dg_b x1 (dg_b x1 (dg_b x1 (dg_b x1 (dg_b x1 (dg_b x1 hh 56) 48) 40) 32) 24) 16) 8) 0)) (ty := .long) (C := cr_M) (T := cf_M) (N := 25) hx hb hw uw_M ct_M ct_M_ok ct_M_nm hown hK.1 hP hD hS 0 rfl rfl 3 (by decide) (hw _ ww_643) (fun _ h9 => h9) rfl (by decide +kernel) rfl rfl (Nat.le_of_ble_eq_true rfl) d_M_feed_27 (fun H locs hP hD hS => ?_)
                  have hP : va_P G classes [(hm, .inr (4, [.int th, .long sd, .int nw, .long (dg_b x1 (dg_b x1 (dg_b x1 (dg_b x1 (dg_b x1 (dg_b x1 (dg_b x1 (dg_b x1 hh 56) 48) 40) 32) 24) 16) 8) 0), .ref q1, .ref q2, .ref q3, .ref q4, .ref q5, .ref q6, .ref q7, .ref q8, .int (nI n), .ref q9, .ref q10, .ref q11, .ref q12, .ref q13, .ref q14, .ref q15, .ref q16, .ref q17, .ref q18, .ref q19, .ref q20]))] H := hP
                  have hD : va_D A [(hm, .inr (4, [.int th, .long sd, .int nw, .long (dg_b x1 (dg_b x1 (dg_b x1 (dg_b x1 (dg_b x1 (dg_b x1 (dg_b x1 (dg_b x1 hh 56) 48) 40) 32) 24) 16) 8) 0), .ref q1, .ref q2, .ref q3, .ref q4, .ref q5, .ref q6, .ref q7, .ref q8, .int (nI n), .ref q9, .ref q10, .ref q11, .ref q12, .ref q13, .ref q14, .ref q15, .ref q16, .ref q17, .ref q18, .ref q19, .ref q20]))] := hD
                  refine lv_iinc (k := 0) (v := (-1)) (lv' := [(3, .int (-1)), (0, .ref hm), (1, .long x1)]) hx hb d_M_feed_30 hl rfl (by decide) (Nat.le_of_ble_eq_true rfl) rfl (fun ls hl => ?_)
                  refine lv_goto (tgt := 3) hx hb d_M_feed_33 (by decide) ?_
                  refine lv_iload_n hx hb d_M_feed_3 rfl (lv_at hl 0 rfl) ?_
                  refine lv_if_lt (tgt := 36) hx hb d_M_feed_4 (by decide) (fun h191 => ?_) (fun h191 => ?_)
                  · exact W.vret hx hb hr (fun t ht hW => ⟨⟨(), ⟨rfl, trivial⟩, by rw [ht]; exact hP, hD⟩, hS.F ht⟩) hS.2.2 d_M_feed_36
                  · exact absurd h191 (by decide)
set_option maxHeartbeats 4000000 in
set_option maxRecDepth 100000 in
theorem c_M_begin (l : Launch) (G : va_G) (ct : Nat → ClassId) (sz : Nat) (hm : Nat) (th : Int32) (sd : Int64) (nw : Int32) (hh : Int64) (q1 : Nat) (q2 : Nat) (q3 : Nat) (q4 : Nat) (q5 : Nat) (q6 : Nat) (q7 : Nat) (q8 : Nat) (q9 : Nat) (q10 : Nat) (q11 : Nat) (q12 : Nat) (q13 : Nat) (q14 : Nat) (q15 : Nat) (q16 : Nat) (q17 : Nat) (q18 : Nat) (q19 : Nat) (q20 : Nat) (n : Nat) (x1 : Int64) (x2 : Int64) : Met l my_M_begin (tb_w my_M_begin mb_M_begin 5 none) ({ frames := 1, cells := 0, slots := 0, locals := 23 }) (wk_P [.ref hm, .long x1, .long x2] G ct [(hm, .inr (4, [.int th, .long sd, .int nw, .long hh, .ref q1, .ref q2, .ref q3, .ref q4, .ref q5, .ref q6, .ref q7, .ref q8, .int (nI n), .ref q9, .ref q10, .ref q11, .ref q12, .ref q13, .ref q14, .ref q15, .ref q16, .ref q17, .ref q18, .ref q19, .ref q20]))] sz) (wk_Q (wk_ov (S := Unit) (fun _ => True)) (fun _ : Unit => [(hm, .inr (4, [.int th, .long sd, .int nw, .long (dg_a (dg_a dg_0 x1) x2), .ref q1, .ref q2, .ref q3, .ref q4, .ref q5, .ref q6, .ref q7, .ref q8, .int (nI n), .ref q9, .ref q10, .ref q11, .ref q12, .ref q13, .ref q14, .ref q15, .ref q16, .ref q17, .ref q18, .ref q19, .ref q20]))]) G (va_A [(hm, .inr (4, [.int th, .long sd, .int nw, .long hh, .ref q1, .ref q2, .ref q3, .ref q4, .ref q5, .ref q6, .ref q7, .ref q8, .int (nI n), .ref q9, .ref q10, .ref q11, .ref q12, .ref q13, .ref q14, .ref q15, .ref q16, .ref q17, .ref q18, .ref q19, .ref q20]))] sz)) 0 0 (va_A [(hm, .inr (4, [.int th, .long sd, .int nw, .long hh, .ref q1, .ref q2, .ref q3, .ref q4, .ref q5, .ref q6, .ref q7, .ref q8, .int (nI n), .ref q9, .ref q10, .ref q11, .ref q12, .ref q13, .ref q14, .ref q15, .ref q16, .ref q17, .ref q18, .ref q19, .ref q20]))] sz) := by
  refine Met.ofW (cc := mb_M_begin) (maxL := 5) (ret := none) (by decide) rfl ?_
  intro p e s m args below meth c s₁ B hml hv
  obtain ⟨rfl, hsz, hP, hK, hD0⟩ := hv
  have hx := B.exec
  have hb := B.bytes
  have hr := B.returns
  have hts := atoms_spec (ws := tb_w my_M_begin mb_M_begin 5 none) B.pre
  have hw : ∀ w ∈ gt_tbl, w.before [.ref hm, .long x1, .long x2].toArray s = true := fun w h => hts w (List.mem_cons_of_mem _ h)
  have hown : s.vm.findClass cr_M = some m.cls := findClass_of_methodNamed B.named
  have hlocks := B.notSynchronized
  subst hsz
  have hD := hD0.self (sz := s.heap.size)
  generalize hAe : va_A [(hm, .inr (4, [.int th, .long sd, .int nw, .long hh, .ref q1, .ref q2, .ref q3, .ref q4, .ref q5, .ref q6, .ref q7, .ref q8, .int (nI n), .ref q9, .ref q10, .ref q11, .ref q12, .ref q13, .ref q14, .ref q15, .ref q16, .ref q17, .ref q18, .ref q19, .ref q20]))] s.heap.size = A at hD ⊢
  have hA : ∀ q : Nat, s.heap.size ≤ q → A q := fun q h => by rw [← hAe]; exact Or.inr h
  have hS : va_S A s.heap s.heap [] := va_S.rf
  have hP : va_P G classes [(hm, .inr (4, [.int th, .long sd, .int nw, .long hh, .ref q1, .ref q2, .ref q3, .ref q4, .ref q5, .ref q6, .ref q7, .ref q8, .int (nI n), .ref q9, .ref q10, .ref q11, .ref q12, .ref q13, .ref q14, .ref q15, .ref q16, .ref q17, .ref q18, .ref q19, .ref q20]))] s.heap := hP
  have hl := lv_entry ([.ref hm, .long x1, .long x2]) (n := 5) (Nat.le_of_ble_eq_true rfl)
  rw [lg_entry_eq]
  generalize (lg_sl ([.ref hm, .long x1, .long x2]) ++ List.replicate (5 - (lg_sl ([.ref hm, .long x1, .long x2])).length) Slot.unset).toArray = ls at hl ⊢
  have hl : lv_has ls 5 [(0, .ref hm), (1, .long x1), (3, .long x2)] := hl
  refine lv_aload_n hx hb d_M_begin_0 rfl (lv_at hl 0 rfl) ?_
  refine lv_ldc2 (v := 1469598103934665603) hx hb hown (hw _ ww_741) d_M_begin_1 ?_
  refine va_put (D := G) (ci := 4) (v := .long 1469598103934665603) (ty := .long) (C := cr_M) (T := cf_M) (N := 25) hx hb hw uw_M ct_M ct_M_ok ct_M_nm hown hK.1 hP hD hS 0 rfl rfl 3 (by decide) (hw _ ww_643) (fun _ h9 => h9) rfl (by decide +kernel) rfl rfl (Nat.le_of_ble_eq_true rfl) d_M_begin_4 (fun H locs hP hD hS => ?_)
  have hP : va_P G classes [(hm, .inr (4, [.int th, .long sd, .int nw, .long 1469598103934665603, .ref q1, .ref q2, .ref q3, .ref q4, .ref q5, .ref q6, .ref q7, .ref q8, .int (nI n), .ref q9, .ref q10, .ref q11, .ref q12, .ref q13, .ref q14, .ref q15, .ref q16, .ref q17, .ref q18, .ref q19, .ref q20]))] H := hP
  have hD : va_D A [(hm, .inr (4, [.int th, .long sd, .int nw, .long 1469598103934665603, .ref q1, .ref q2, .ref q3, .ref q4, .ref q5, .ref q6, .ref q7, .ref q8, .int (nI n), .ref q9, .ref q10, .ref q11, .ref q12, .ref q13, .ref q14, .ref q15, .ref q16, .ref q17, .ref q18, .ref q19, .ref q20]))] := hD
  refine lv_aload_n hx hb d_M_begin_7 rfl (lv_at hl 0 rfl) ?_
  refine lv_lload_n hx hb d_M_begin_8 rfl (lv_at hl 1 rfl) ?_
  have hPc : va_P G classes [(hm, .inr (4, [.int th, .long sd, .int nw, .long 1469598103934665603, .ref q1, .ref q2, .ref q3, .ref q4, .ref q5, .ref q6, .ref q7, .ref q8, .int (nI n), .ref q9, .ref q10, .ref q11, .ref q12, .ref q13, .ref q14, .ref q15, .ref q16, .ref q17, .ref q18, .ref q19, .ref q20]))] H := hP.sub [0] rfl
  have hDc := hD.sub (ws' := [(hm, .inr (4, [.int th, .long sd, .int nw, .long 1469598103934665603, .ref q1, .ref q2, .ref q3, .ref q4, .ref q5, .ref q6, .ref q7, .ref q8, .int (nI n), .ref q9, .ref q10, .ref q11, .ref q12, .ref q13, .ref q14, .ref q15, .ref q16, .ref q17, .ref q18, .ref q19, .ref q20]))]) [0] (by decide) rfl
  refine wk_v (va_runV (As := [.long x1]) (rest := []) ⟨hx, hb, hml, hown, hts⟩ (c_M_feed l G ct H.size hm th sd nw 1469598103934665603 q1 q2 q3 q4 q5 q6 q7 q8 q9 q10 q11 q12 q13 q14 q15 q16 q17 q18 q19 q20 n x1) (tb_V hw cy_M_feed ww_742 ww_744 wp_M_feed rfl rfl ⟨Nat.le_of_ble_eq_true rfl, Nat.le_of_ble_eq_true rfl⟩) (wk_preV (ci := 4) (q0 := 0) hPc hK hDc rfl rfl) rfl rfl hl.1 rfl (lv_room (Nat.le_of_ble_eq_true rfl)) d_M_begin_9 ⟨Nat.le_of_ble_eq_true rfl, Nat.le_of_ble_eq_true rfl⟩) hP hD hS hA [0] (by decide) rfl (fun _ => by simp only [List.map_cons, List.map_nil]) (fun _ H locs ok192 hP hD hS => ?_)
  have hP : va_P G classes [(hm, .inr (4, [.int th, .long sd, .int nw, .long (dg_a 1469598103934665603 x1), .ref q1, .ref q2, .ref q3, .ref q4, .ref q5, .ref q6, .ref q7, .ref q8, .int (nI n), .ref q9, .ref q10, .ref q11, .ref q12, .ref q13, .ref q14, .ref q15, .ref q16, .ref q17, .ref q18, .ref q19, .ref q20]))] H := hP
  have hD : va_D A [(hm, .inr (4, [.int th, .long sd, .int nw, .long (dg_a 1469598103934665603 x1), .ref q1, .ref q2, .ref q3, .ref q4, .ref q5, .ref q6, .ref q7, .ref q8, .int (nI n), .ref q9, .ref q10, .ref q11, .ref q12, .ref q13, .ref q14, .ref q15, .ref q16, .ref q17, .ref q18, .ref q19, .ref q20]))] := hD
  refine lv_aload_n hx hb d_M_begin_12 rfl (lv_at hl 0 rfl) ?_
  refine lv_lload_n hx hb d_M_begin_13 rfl (lv_at hl 2 rfl) ?_
  have hPc : va_P G classes [(hm, .inr (4, [.int th, .long sd, .int nw, .long (dg_a 1469598103934665603 x1), .ref q1, .ref q2, .ref q3, .ref q4, .ref q5, .ref q6, .ref q7, .ref q8, .int (nI n), .ref q9, .ref q10, .ref q11, .ref q12, .ref q13, .ref q14, .ref q15, .ref q16, .ref q17, .ref q18, .ref q19, .ref q20]))] H := hP.sub [0] rfl
  have hDc := hD.sub (ws' := [(hm, .inr (4, [.int th, .long sd, .int nw, .long (dg_a 1469598103934665603 x1), .ref q1, .ref q2, .ref q3, .ref q4, .ref q5, .ref q6, .ref q7, .ref q8, .int (nI n), .ref q9, .ref q10, .ref q11, .ref q12, .ref q13, .ref q14, .ref q15, .ref q16, .ref q17, .ref q18, .ref q19, .ref q20]))]) [0] (by decide) rfl
  refine wk_v (va_runV (As := [.long x2]) (rest := []) ⟨hx, hb, hml, hown, hts⟩ (c_M_feed l G ct H.size hm th sd nw (dg_a 1469598103934665603 x1) q1 q2 q3 q4 q5 q6 q7 q8 q9 q10 q11 q12 q13 q14 q15 q16 q17 q18 q19 q20 n x2) (tb_V hw cy_M_feed ww_742 ww_744 wp_M_feed rfl rfl ⟨Nat.le_of_ble_eq_true rfl, Nat.le_of_ble_eq_true rfl⟩) (wk_preV (ci := 4) (q0 := 0) hPc hK hDc rfl rfl) rfl rfl hl.1 rfl (lv_room (Nat.le_of_ble_eq_true rfl)) d_M_begin_14 ⟨Nat.le_of_ble_eq_true rfl, Nat.le_of_ble_eq_true rfl⟩) hP hD hS hA [0] (by decide) rfl (fun _ => by simp only [List.map_cons, List.map_nil]) (fun _ H locs ok193 hP hD hS => ?_)
  have hP : va_P G classes [(hm, .inr (4, [.int th, .long sd, .int nw, .long (dg_a (dg_a 1469598103934665603 x1) x2), .ref q1, .ref q2, .ref q3, .ref q4, .ref q5, .ref q6, .ref q7, .ref q8, .int (nI n), .ref q9, .ref q10, .ref q11, .ref q12, .ref q13, .ref q14, .ref q15, .ref q16, .ref q17, .ref q18, .ref q19, .ref q20]))] H := hP
  have hD : va_D A [(hm, .inr (4, [.int th, .long sd, .int nw, .long (dg_a (dg_a 1469598103934665603 x1) x2), .ref q1, .ref q2, .ref q3, .ref q4, .ref q5, .ref q6, .ref q7, .ref q8, .int (nI n), .ref q9, .ref q10, .ref q11, .ref q12, .ref q13, .ref q14, .ref q15, .ref q16, .ref q17, .ref q18, .ref q19, .ref q20]))] := hD
  exact W.vret hx hb hr (fun t ht hW => ⟨⟨(), ⟨rfl, trivial⟩, by rw [ht]; exact hP, hD⟩, hS.F ht⟩) hS.2.2 d_M_begin_17
set_option maxHeartbeats 4000000 in
set_option maxRecDepth 100000 in
theorem c_M_digest (l : Launch) (G : va_G) (ct : Nat → ClassId) (sz : Nat) (hm : Nat) (th : Int32) (sd : Int64) (nw : Int32) (hh : Int64) (q1 : Nat) (q2 : Nat) (q3 : Nat) (q4 : Nat) (q5 : Nat) (q6 : Nat) (q7 : Nat) (q8 : Nat) (q9 : Nat) (q10 : Nat) (q11 : Nat) (q12 : Nat) (q13 : Nat) (q14 : Nat) (q15 : Nat) (q16 : Nat) (q17 : Nat) (q18 : Nat) (q19 : Nat) (q20 : Nat) (n : Nat) : Met l my_M_digest (tb_w my_M_digest mb_M_digest 3 (some .long)) ({ frames := 0, cells := 0, slots := 0, locals := 0 }) (wk_P [.ref hm] G ct [(hm, .inr (4, [.int th, .long sd, .int nw, .long hh, .ref q1, .ref q2, .ref q3, .ref q4, .ref q5, .ref q6, .ref q7, .ref q8, .int (nI n), .ref q9, .ref q10, .ref q11, .ref q12, .ref q13, .ref q14, .ref q15, .ref q16, .ref q17, .ref q18, .ref q19, .ref q20]))] sz) (vp_Sl (fun r => r = dg_f hh)) 0 0 (fun _ => False) := by
  refine Met.ofW (cc := mb_M_digest) (maxL := 3) (ret := (some .long)) (by decide) rfl ?_
  intro p e s m args below meth c s₁ B hml hv
  obtain ⟨rfl, hsz, hP, hK, hD0⟩ := hv
  have hx := B.exec
  have hb := B.bytes
  have hr := B.returns
  have hts := atoms_spec (ws := tb_w my_M_digest mb_M_digest 3 (some .long)) B.pre
  have hw : ∀ w ∈ gt_tbl, w.before [.ref hm].toArray s = true := fun w h => hts w (List.mem_cons_of_mem _ h)
  have hown : s.vm.findClass cr_M = some m.cls := findClass_of_methodNamed B.named
  have hlocks := B.notSynchronized
  subst hsz
  have hD := hD0.self (sz := s.heap.size)
  generalize hAe : va_A [(hm, .inr (4, [.int th, .long sd, .int nw, .long hh, .ref q1, .ref q2, .ref q3, .ref q4, .ref q5, .ref q6, .ref q7, .ref q8, .int (nI n), .ref q9, .ref q10, .ref q11, .ref q12, .ref q13, .ref q14, .ref q15, .ref q16, .ref q17, .ref q18, .ref q19, .ref q20]))] s.heap.size = A at hD ⊢
  have hA : ∀ q : Nat, s.heap.size ≤ q → A q := fun q h => by rw [← hAe]; exact Or.inr h
  have hS : va_S A s.heap s.heap [] := va_S.rf
  have hP : va_P G classes [(hm, .inr (4, [.int th, .long sd, .int nw, .long hh, .ref q1, .ref q2, .ref q3, .ref q4, .ref q5, .ref q6, .ref q7, .ref q8, .int (nI n), .ref q9, .ref q10, .ref q11, .ref q12, .ref q13, .ref q14, .ref q15, .ref q16, .ref q17, .ref q18, .ref q19, .ref q20]))] s.heap := hP
  have hl := lv_entry ([.ref hm]) (n := 3) (Nat.le_of_ble_eq_true rfl)
  rw [lg_entry_eq]
  generalize (lg_sl ([.ref hm]) ++ List.replicate (3 - (lg_sl ([.ref hm])).length) Slot.unset).toArray = ls at hl ⊢
  have hl : lv_has ls 3 [(0, .ref hm)] := hl
  refine lv_aload_n hx hb d_M_digest_0 rfl (lv_at hl 0 rfl) ?_
  refine va_get (D := G) (ci := 4) (v := .long hh) (C := cr_M) (T := cf_M) (N := 25) hx hb hw uw_M hown hK.1 hP 0 rfl rfl 3 (by decide) (hw _ ww_643) (fun _ h9 => h9) rfl d_M_digest_1 ?_
  refine lv_aload_n hx hb d_M_digest_4 rfl (lv_at hl 0 rfl) ?_
  refine va_get (D := G) (ci := 4) (v := .long hh) (C := cr_M) (T := cf_M) (N := 25) hx hb hw uw_M hown hK.1 hP 0 rfl rfl 3 (by decide) (hw _ ww_643) (fun _ h9 => h9) rfl d_M_digest_5 ?_
  refine lv_bipush (v := 32) hx hb d_M_digest_8 (by decide) ?_
  refine lv_lushr (v := dg_sh hh 32) hx hb d_M_digest_10 rfl ?_
  refine lv_lxor hx hb d_M_digest_11 ?_
  refine lv_lstore_n (lv' := [(1, .long (hh ^^^ (dg_sh hh 32))), (0, .ref hm)]) hx hb d_M_digest_12 rfl hl (Nat.le_of_ble_eq_true rfl) rfl (fun ls hl => ?_)
  refine lv_lload_n hx hb d_M_digest_13 rfl (lv_at hl 0 rfl) ?_
  refine lv_ldc2 (v := (-7046029254386353131)) hx hb hown (hw _ ww_752) d_M_digest_14 ?_
  refine lv_lmul hx hb d_M_digest_17 ?_
  refine lv_lstore_n (lv' := [(1, .long ((hh ^^^ (dg_sh hh 32)) * (-7046029254386353131))), (0, .ref hm)]) hx hb d_M_digest_18 rfl hl (Nat.le_of_ble_eq_true rfl) rfl (fun ls hl => ?_)
  refine lv_lload_n hx hb d_M_digest_19 rfl (lv_at hl 0 rfl) ?_
  refine lv_lload_n hx hb d_M_digest_20 rfl (lv_at hl 0 rfl) ?_
  refine lv_bipush (v := 29) hx hb d_M_digest_21 (by decide) ?_
  refine lv_lushr (v := dg_sh ((hh ^^^ (dg_sh hh 32)) * (-7046029254386353131)) 29) hx hb d_M_digest_23 rfl ?_
  refine lv_lxor hx hb d_M_digest_24 ?_
  exact W.lret (v := ((hh ^^^ (dg_sh hh 32)) * (-7046029254386353131)) ^^^ (dg_sh ((hh ^^^ (dg_sh hh 32)) * (-7046029254386353131)) 29)) hx hb hr (fun t ht hW => ⟨((hh ^^^ (dg_sh hh 32)) * (-7046029254386353131)) ^^^ (dg_sh ((hh ^^^ (dg_sh hh 32)) * (-7046029254386353131)) 29), rfl, rfl, ht⟩) (fun q h => nomatch h) d_M_digest_25
set_option maxHeartbeats 4000000 in
set_option maxRecDepth 100000 in
theorem c_M_scalar (l : Launch) (x1 : Int64) : Met l my_M_scalar (tb_w my_M_scalar mb_M_scalar 2 (some .long)) ({ frames := 0, cells := 0, slots := 0, locals := 0 }) (fun av _ => av = [.long x1].toArray) (vp_Sl (fun r => r = lN (sc_n x1))) 0 0 (fun _ => False) := by
  refine Met.ofW (cc := mb_M_scalar) (maxL := 2) (ret := (some .long)) (by decide) rfl ?_
  intro p e s m args below meth c s₁ B hml hv
  subst hv
  have hx := B.exec
  have hb := B.bytes
  have hr := B.returns
  have hts := atoms_spec (ws := tb_w my_M_scalar mb_M_scalar 2 (some .long)) B.pre
  have hw : ∀ w ∈ gt_tbl, w.before [.long x1].toArray s = true := fun w h => hts w (List.mem_cons_of_mem _ h)
  have hown : s.vm.findClass cr_M = some m.cls := findClass_of_methodNamed B.named
  have hlocks := B.notSynchronized
  have hl := lv_entry ([.long x1]) (n := 2) (Nat.le_of_ble_eq_true rfl)
  rw [lg_entry_eq]
  generalize (lg_sl ([.long x1]) ++ List.replicate (2 - (lg_sl ([.long x1])).length) Slot.unset).toArray = ls at hl ⊢
  have hl : lv_has ls 2 [(0, .long x1)] := hl
  refine lv_lload_n hx hb d_M_scalar_0 rfl (lv_at hl 0 rfl) ?_
  refine lv_iconst (v := 1) hx hb d_M_scalar_1 (by decide) ?_
  refine lv_lushr (v := dg_sh x1 1) hx hb d_M_scalar_2 rfl ?_
  refine lv_ldc2 (v := 1073741788) hx hb hown (hw _ ww_756) d_M_scalar_3 ?_
  refine lv_lrem hx hb d_M_scalar_6 (by decide) ?_
  refine lv_lconst (v := 1) hx hb d_M_scalar_7 (by decide) ?_
  refine lv_ladd hx hb d_M_scalar_8 ?_
  exact W.lret (v := ((dg_sh x1 1) - (dg_sh x1 1) / 1073741788 * 1073741788) + 1) hx hb hr (fun t ht hW => ⟨((dg_sh x1 1) - (dg_sh x1 1) / 1073741788 * 1073741788) + 1, rfl, ln_sc x1, ht⟩) (fun q h => nomatch h) d_M_scalar_9
set_option maxHeartbeats 4000000 in
set_option maxRecDepth 100000 in
theorem c_M_word (l : Launch) (G : va_G) (ct : Nat → ClassId) (sz : Nat) (hm : Nat) (th : Int32) (sd : Int64) (nw : Int32) (hh : Int64) (q1 : Nat) (q2 : Nat) (q3 : Nat) (q4 : Nat) (q5 : Nat) (q6 : Nat) (q7 : Nat) (q8 : Nat) (q9 : Nat) (q10 : Nat) (q11 : Nat) (q12 : Nat) (q13 : Nat) (q14 : Nat) (q15 : Nat) (q16 : Nat) (q17 : Nat) (q18 : Nat) (q19 : Nat) (q20 : Nat) (n : Nat) (nb : Int32) (pw : Int64) : Met l my_M_word (tb_w my_M_word mb_M_word 4 (some .long)) ({ frames := 2, cells := 0, slots := 0, locals := 47 }) (wk_P [.ref hm, .int nb, .long pw] G ct [(hm, .inr (4, [.int th, .long sd, .int nw, .long hh, .ref q1, .ref q2, .ref q3, .ref q4, .ref q5, .ref q6, .ref q7, .ref q8, .int (nI n), .ref q9, .ref q10, .ref q11, .ref q12, .ref q13, .ref q14, .ref q15, .ref q16, .ref q17, .ref q18, .ref q19, .ref q20]))] sz) (wk_Q (wk_ol (S := Int64) (fun z2 => lN (wd_n nb pw)) (fun _ => True)) (fun z2 : Int64 => [(hm, .inr (4, [.int th, .long sd, .int nw, .long z2, .ref q1, .ref q2, .ref q3, .ref q4, .ref q5, .ref q6, .ref q7, .ref q8, .int (nI n), .ref q9, .ref q10, .ref q11, .ref q12, .ref q13, .ref q14, .ref q15, .ref q16, .ref q17, .ref q18, .ref q19, .ref q20]))]) G (va_A [(hm, .inr (4, [.int th, .long sd, .int nw, .long hh, .ref q1, .ref q2, .ref q3, .ref q4, .ref q5, .ref q6, .ref q7, .ref q8, .int (nI n), .ref q9, .ref q10, .ref q11, .ref q12, .ref q13, .ref q14, .ref q15, .ref q16, .ref q17, .ref q18, .ref q19, .ref q20]))] sz)) 0 0 (va_A [(hm, .inr (4, [.int th, .long sd, .int nw, .long hh, .ref q1, .ref q2, .ref q3, .ref q4, .ref q5, .ref q6, .ref q7, .ref q8, .int (nI n), .ref q9, .ref q10, .ref q11, .ref q12, .ref q13, .ref q14, .ref q15, .ref q16, .ref q17, .ref q18, .ref q19, .ref q20]))] sz) := by
  refine Met.ofW (cc := mb_M_word) (maxL := 4) (ret := (some .long)) (by decide) rfl ?_
  intro p e s m args below meth c s₁ B hml hv
  obtain ⟨rfl, hsz, hP, hK, hD0⟩ := hv
  have hx := B.exec
  have hb := B.bytes
  have hr := B.returns
  have hts := atoms_spec (ws := tb_w my_M_word mb_M_word 4 (some .long)) B.pre
  have hw : ∀ w ∈ gt_tbl, w.before [.ref hm, .int nb, .long pw].toArray s = true := fun w h => hts w (List.mem_cons_of_mem _ h)
  have hown : s.vm.findClass cr_M = some m.cls := findClass_of_methodNamed B.named
  have hlocks := B.notSynchronized
  subst hsz
  have hD := hD0.self (sz := s.heap.size)
  generalize hAe : va_A [(hm, .inr (4, [.int th, .long sd, .int nw, .long hh, .ref q1, .ref q2, .ref q3, .ref q4, .ref q5, .ref q6, .ref q7, .ref q8, .int (nI n), .ref q9, .ref q10, .ref q11, .ref q12, .ref q13, .ref q14, .ref q15, .ref q16, .ref q17, .ref q18, .ref q19, .ref q20]))] s.heap.size = A at hD ⊢
  have hA : ∀ q : Nat, s.heap.size ≤ q → A q := fun q h => by rw [← hAe]; exact Or.inr h
  have hS : va_S A s.heap s.heap [] := va_S.rf
  have hP : va_P G classes [(hm, .inr (4, [.int th, .long sd, .int nw, .long hh, .ref q1, .ref q2, .ref q3, .ref q4, .ref q5, .ref q6, .ref q7, .ref q8, .int (nI n), .ref q9, .ref q10, .ref q11, .ref q12, .ref q13, .ref q14, .ref q15, .ref q16, .ref q17, .ref q18, .ref q19, .ref q20]))] s.heap := hP
  have hl := lv_entry ([.ref hm, .int nb, .long pw]) (n := 4) (Nat.le_of_ble_eq_true rfl)
  rw [lg_entry_eq]
  generalize (lg_sl ([.ref hm, .int nb, .long pw]) ++ List.replicate (4 - (lg_sl ([.ref hm, .int nb, .long pw])).length) Slot.unset).toArray = ls at hl ⊢
  have hl : lv_has ls 4 [(0, .ref hm), (1, .int nb), (2, .long pw)] := hl
  refine lv_aload_n hx hb d_M_word_0 rfl (lv_at hl 0 rfl) ?_
  refine lv_lconst (v := 1) hx hb d_M_word_1 (by decide) ?_
  refine lv_iload_n hx hb d_M_word_2 rfl (lv_at hl 1 rfl) ?_
  refine lv_i2l (v := nb.toInt64) hx hb d_M_word_3 rfl ?_
  have hPc : va_P G classes [(hm, .inr (4, [.int th, .long sd, .int nw, .long hh, .ref q1, .ref q2, .ref q3, .ref q4, .ref q5, .ref q6, .ref q7, .ref q8, .int (nI n), .ref q9, .ref q10, .ref q11, .ref q12, .ref q13, .ref q14, .ref q15, .ref q16, .ref q17, .ref q18, .ref q19, .ref q20]))] s.heap := hP.sub [0] rfl
  have hDc := hD.sub (ws' := [(hm, .inr (4, [.int th, .long sd, .int nw, .long hh, .ref q1, .ref q2, .ref q3, .ref q4, .ref q5, .ref q6, .ref q7, .ref q8, .int (nI n), .ref q9, .ref q10, .ref q11, .ref q12, .ref q13, .ref q14, .ref q15, .ref q16, .ref q17, .ref q18, .ref q19, .ref q20]))]) [0] (by decide) rfl
  refine wk_v (va_runV (As := [.long 1, .long nb.toInt64]) (rest := []) ⟨hx, hb, hml, hown, hts⟩ (c_M_begin l G ct s.heap.size hm th sd nw hh q1 q2 q3 q4 q5 q6 q7 q8 q9 q10 q11 q12 q13 q14 q15 q16 q17 q18 q19 q20 n 1 nb.toInt64) (tb_V hw cy_M_begin ww_737 ww_739 wp_M_begin rfl rfl ⟨Nat.le_of_ble_eq_true rfl, Nat.le_of_ble_eq_true rfl⟩) (wk_preV (ci := 4) (q0 := 0) hPc hK hDc rfl rfl) rfl rfl hl.1 rfl (lv_room (Nat.le_of_ble_eq_true rfl)) d_M_word_4 ⟨Nat.le_of_ble_eq_true rfl, Nat.le_of_ble_eq_true rfl⟩) hP hD hS hA [0] (by decide) rfl (fun _ => by simp only [List.map_cons, List.map_nil]) (fun _ H locs ok194 hP hD hS => ?_)
  have hP : va_P G classes [(hm, .inr (4, [.int th, .long sd, .int nw, .long (dg_a (dg_a dg_0 1) nb.toInt64), .ref q1, .ref q2, .ref q3, .ref q4, .ref q5, .ref q6, .ref q7, .ref q8, .int (nI n), .ref q9, .ref q10, .ref q11, .ref q12, .ref q13, .ref q14, .ref q15, .ref q16, .ref q17, .ref q18, .ref q19, .ref q20]))] H := hP
  have hD : va_D A [(hm, .inr (4, [.int th, .long sd, .int nw, .long (dg_a (dg_a dg_0 1) nb.toInt64), .ref q1, .ref q2, .ref q3, .ref q4, .ref q5, .ref q6, .ref q7, .ref q8, .int (nI n), .ref q9, .ref q10, .ref q11, .ref q12, .ref q13, .ref q14, .ref q15, .ref q16, .ref q17, .ref q18, .ref q19, .ref q20]))] := hD
  refine lv_aload_n hx hb d_M_word_7 rfl (lv_at hl 0 rfl) ?_
  refine lv_lload_n hx hb d_M_word_8 rfl (lv_at hl 2 rfl) ?_
  have hPc : va_P G classes [(hm, .inr (4, [.int th, .long sd, .int nw, .long (dg_a (dg_a dg_0 1) nb.toInt64), .ref q1, .ref q2, .ref q3, .ref q4, .ref q5, .ref q6, .ref q7, .ref q8, .int (nI n), .ref q9, .ref q10, .ref q11, .ref q12, .ref q13, .ref q14, .ref q15, .ref q16, .ref q17, .ref q18, .ref q19, .ref q20]))] H := hP.sub [0] rfl
  have hDc := hD.sub (ws' := [(hm, .inr (4, [.int th, .long sd, .int nw, .long (dg_a (dg_a dg_0 1) nb.toInt64), .ref q1, .ref q2, .ref q3, .ref q4, .ref q5, .ref q6, .ref q7, .ref q8, .int (nI n), .ref q9, .ref q10, .ref q11, .ref q12, .ref q13, .ref q14, .ref q15, .ref q16, .ref q17, .ref q18, .ref q19, .ref q20]))]) [0] (by decide) rfl
  refine wk_v (va_runV (As := [.long pw]) (rest := []) ⟨hx, hb, hml, hown, hts⟩ (c_M_feed l G ct H.size hm th sd nw (dg_a (dg_a dg_0 1) nb.toInt64) q1 q2 q3 q4 q5 q6 q7 q8 q9 q10 q11 q12 q13 q14 q15 q16 q17 q18 q19 q20 n pw) (tb_V hw cy_M_feed ww_742 ww_744 wp_M_feed rfl rfl ⟨Nat.le_of_ble_eq_true rfl, Nat.le_of_ble_eq_true rfl⟩) (wk_preV (ci := 4) (q0 := 0) hPc hK hDc rfl rfl) rfl rfl hl.1 rfl (lv_room (Nat.le_of_ble_eq_true rfl)) d_M_word_9 ⟨Nat.le_of_ble_eq_true rfl, Nat.le_of_ble_eq_true rfl⟩) hP hD hS hA [0] (by decide) rfl (fun _ => by simp only [List.map_cons, List.map_nil]) (fun _ H locs ok195 hP hD hS => ?_)
  have hP : va_P G classes [(hm, .inr (4, [.int th, .long sd, .int nw, .long (dg_a (dg_a (dg_a dg_0 1) nb.toInt64) pw), .ref q1, .ref q2, .ref q3, .ref q4, .ref q5, .ref q6, .ref q7, .ref q8, .int (nI n), .ref q9, .ref q10, .ref q11, .ref q12, .ref q13, .ref q14, .ref q15, .ref q16, .ref q17, .ref q18, .ref q19, .ref q20]))] H := hP
  have hD : va_D A [(hm, .inr (4, [.int th, .long sd, .int nw, .long (dg_a (dg_a (dg_a dg_0 1) nb.toInt64) pw), .ref q1, .ref q2, .ref q3, .ref q4, .ref q5, .ref q6, .ref q7, .ref q8, .int (nI n), .ref q9, .ref q10, .ref q11, .ref q12, .ref q13, .ref q14, .ref q15, .ref q16, .ref q17, .ref q18, .ref q19, .ref q20]))] := hD
  refine lv_aload_n hx hb d_M_word_12 rfl (lv_at hl 0 rfl) ?_
  have hPc : va_P G classes [(hm, .inr (4, [.int th, .long sd, .int nw, .long (dg_a (dg_a (dg_a dg_0 1) nb.toInt64) pw), .ref q1, .ref q2, .ref q3, .ref q4, .ref q5, .ref q6, .ref q7, .ref q8, .int (nI n), .ref q9, .ref q10, .ref q11, .ref q12, .ref q13, .ref q14, .ref q15, .ref q16, .ref q17, .ref q18, .ref q19, .ref q20]))] H := hP.sub [0] rfl
  have hDc := hD.sub (ws' := [(hm, .inr (4, [.int th, .long sd, .int nw, .long (dg_a (dg_a (dg_a dg_0 1) nb.toInt64) pw), .ref q1, .ref q2, .ref q3, .ref q4, .ref q5, .ref q6, .ref q7, .ref q8, .int (nI n), .ref q9, .ref q10, .ref q11, .ref q12, .ref q13, .ref q14, .ref q15, .ref q16, .ref q17, .ref q18, .ref q19, .ref q20]))]) [0] (by decide) rfl
  refine vp_callSl (W.runV (As := []) (rest := []) ⟨hx, hb, hml, hown, hts⟩ (c_M_digest l G ct H.size hm th sd nw (dg_a (dg_a (dg_a dg_0 1) nb.toInt64) pw) q1 q2 q3 q4 q5 q6 q7 q8 q9 q10 q11 q12 q13 q14 q15 q16 q17 q18 q19 q20 n) (tb_V hw cy_M_digest ww_748 ww_750 wp_M_digest rfl rfl ⟨Nat.le_of_ble_eq_true rfl, Nat.le_of_ble_eq_true rfl⟩) (wk_preV (ci := 4) (q0 := 0) hPc hK hDc rfl rfl) rfl rfl hl.1 rfl (lv_room (Nat.le_of_ble_eq_true rfl)) d_M_word_13 ⟨Nat.le_of_ble_eq_true rfl, Nat.le_of_ble_eq_true rfl⟩) (fun r196 er196 => ?_)
  subst er196
  refine vp_callSl (W.runS (As := [.long (dg_f (dg_a (dg_a (dg_a dg_0 1) nb.toInt64) pw))]) (rest := []) ⟨hx, hb, hml, hown, hts⟩ (c_M_scalar l (dg_f (dg_a (dg_a (dg_a dg_0 1) nb.toInt64) pw))) (tb_S hw cy_M_scalar ww_753 ww_754 rfl rfl ⟨Nat.le_of_ble_eq_true rfl, Nat.le_of_ble_eq_true rfl⟩) preEq rfl rfl hl.1 rfl (lv_room (Nat.le_of_ble_eq_true rfl)) d_M_word_16 ⟨Nat.le_of_ble_eq_true rfl, Nat.le_of_ble_eq_true rfl⟩) (fun r197 er197 => ?_)
  subst er197
  exact W.lret (v := lN (sc_n (dg_f (dg_a (dg_a (dg_a dg_0 1) nb.toInt64) pw)))) hx hb hr (fun t ht hW => ⟨⟨dg_a (dg_a (dg_a dg_0 1) nb.toInt64) pw, ⟨rfl, trivial⟩, by rw [ht]; exact hP, hD⟩, hS.F ht⟩) hS.2.2 d_M_word_19
set_option maxHeartbeats 4000000 in
set_option maxRecDepth 100000 in
theorem c_M_exponent (l : Launch) (G : va_G) (ct : Nat → ClassId) (sz : Nat) (hm : Nat) (th : Int32) (sd : Int64) (nw : Int32) (hh : Int64) (q1 : Nat) (q2 : Nat) (q3 : Nat) (q4 : Nat) (q5 : Nat) (q6 : Nat) (q7 : Nat) (q8 : Nat) (q9 : Nat) (q10 : Nat) (q11 : Nat) (q12 : Nat) (q13 : Nat) (q14 : Nat) (q15 : Nat) (q16 : Nat) (q17 : Nat) (q18 : Nat) (q19 : Nat) (q20 : Nat) (n : Nat) (sl : Int64) (nb : Int32) (pw : Int64) : Met l my_M_exponent (tb_w my_M_exponent mb_M_exponent 6 (some .long)) ({ frames := 2, cells := 0, slots := 0, locals := 47 }) (wk_P [.ref hm, .long sl, .int nb, .long pw] G ct [(hm, .inr (4, [.int th, .long sd, .int nw, .long hh, .ref q1, .ref q2, .ref q3, .ref q4, .ref q5, .ref q6, .ref q7, .ref q8, .int (nI n), .ref q9, .ref q10, .ref q11, .ref q12, .ref q13, .ref q14, .ref q15, .ref q16, .ref q17, .ref q18, .ref q19, .ref q20]))] sz) (wk_Q (wk_ol (S := Int64) (fun z2 => lN (ex_n sl nb pw)) (fun _ => True)) (fun z2 : Int64 => [(hm, .inr (4, [.int th, .long sd, .int nw, .long z2, .ref q1, .ref q2, .ref q3, .ref q4, .ref q5, .ref q6, .ref q7, .ref q8, .int (nI n), .ref q9, .ref q10, .ref q11, .ref q12, .ref q13, .ref q14, .ref q15, .ref q16, .ref q17, .ref q18, .ref q19, .ref q20]))]) G (va_A [(hm, .inr (4, [.int th, .long sd, .int nw, .long hh, .ref q1, .ref q2, .ref q3, .ref q4, .ref q5, .ref q6, .ref q7, .ref q8, .int (nI n), .ref q9, .ref q10, .ref q11, .ref q12, .ref q13, .ref q14, .ref q15, .ref q16, .ref q17, .ref q18, .ref q19, .ref q20]))] sz)) 0 0 (va_A [(hm, .inr (4, [.int th, .long sd, .int nw, .long hh, .ref q1, .ref q2, .ref q3, .ref q4, .ref q5, .ref q6, .ref q7, .ref q8, .int (nI n), .ref q9, .ref q10, .ref q11, .ref q12, .ref q13, .ref q14, .ref q15, .ref q16, .ref q17, .ref q18, .ref q19, .ref q20]))] sz) := by
  refine Met.ofW (cc := mb_M_exponent) (maxL := 6) (ret := (some .long)) (by decide) rfl ?_
  intro p e s m args below meth c s₁ B hml hv
  obtain ⟨rfl, hsz, hP, hK, hD0⟩ := hv
  have hx := B.exec
  have hb := B.bytes
  have hr := B.returns
  have hts := atoms_spec (ws := tb_w my_M_exponent mb_M_exponent 6 (some .long)) B.pre
  have hw : ∀ w ∈ gt_tbl, w.before [.ref hm, .long sl, .int nb, .long pw].toArray s = true := fun w h => hts w (List.mem_cons_of_mem _ h)
  have hown : s.vm.findClass cr_M = some m.cls := findClass_of_methodNamed B.named
  have hlocks := B.notSynchronized
  subst hsz
  have hD := hD0.self (sz := s.heap.size)
  generalize hAe : va_A [(hm, .inr (4, [.int th, .long sd, .int nw, .long hh, .ref q1, .ref q2, .ref q3, .ref q4, .ref q5, .ref q6, .ref q7, .ref q8, .int (nI n), .ref q9, .ref q10, .ref q11, .ref q12, .ref q13, .ref q14, .ref q15, .ref q16, .ref q17, .ref q18, .ref q19, .ref q20]))] s.heap.size = A at hD ⊢
  have hA : ∀ q : Nat, s.heap.size ≤ q → A q := fun q h => by rw [← hAe]; exact Or.inr h
  have hS : va_S A s.heap s.heap [] := va_S.rf
  have hP : va_P G classes [(hm, .inr (4, [.int th, .long sd, .int nw, .long hh, .ref q1, .ref q2, .ref q3, .ref q4, .ref q5, .ref q6, .ref q7, .ref q8, .int (nI n), .ref q9, .ref q10, .ref q11, .ref q12, .ref q13, .ref q14, .ref q15, .ref q16, .ref q17, .ref q18, .ref q19, .ref q20]))] s.heap := hP
  have hl := lv_entry ([.ref hm, .long sl, .int nb, .long pw]) (n := 6) (Nat.le_of_ble_eq_true rfl)
  rw [lg_entry_eq]
  generalize (lg_sl ([.ref hm, .long sl, .int nb, .long pw]) ++ List.replicate (6 - (lg_sl ([.ref hm, .long sl, .int nb, .long pw])).length) Slot.unset).toArray = ls at hl ⊢
  have hl : lv_has ls 6 [(0, .ref hm), (1, .long sl), (3, .int nb), (4, .long pw)] := hl
  refine lv_aload_n hx hb d_M_exponent_0 rfl (lv_at hl 0 rfl) ?_
  refine lv_ldc2 (v := 2) hx hb hown (hw _ ww_762) d_M_exponent_1 ?_
  refine lv_lload_n hx hb d_M_exponent_4 rfl (lv_at hl 1 rfl) ?_
  have hPc : va_P G classes [(hm, .inr (4, [.int th, .long sd, .int nw, .long hh, .ref q1, .ref q2, .ref q3, .ref q4, .ref q5, .ref q6, .ref q7, .ref q8, .int (nI n), .ref q9, .ref q10, .ref q11, .ref q12, .ref q13, .ref q14, .ref q15, .ref q16, .ref q17, .ref q18, .ref q19, .ref q20]))] s.heap := hP.sub [0] rfl
  have hDc := hD.sub (ws' := [(hm, .inr (4, [.int th, .long sd, .int nw, .long hh, .ref q1, .ref q2, .ref q3, .ref q4, .ref q5, .ref q6, .ref q7, .ref q8, .int (nI n), .ref q9, .ref q10, .ref q11, .ref q12, .ref q13, .ref q14, .ref q15, .ref q16, .ref q17, .ref q18, .ref q19, .ref q20]))]) [0] (by decide) rfl
  refine wk_v (va_runV (As := [.long 2, .long sl]) (rest := []) ⟨hx, hb, hml, hown, hts⟩ (c_M_begin l G ct s.heap.size hm th sd nw hh q1 q2 q3 q4 q5 q6 q7 q8 q9 q10 q11 q12 q13 q14 q15 q16 q17 q18 q19 q20 n 2 sl) (tb_V hw cy_M_begin ww_737 ww_739 wp_M_begin rfl rfl ⟨Nat.le_of_ble_eq_true rfl, Nat.le_of_ble_eq_true rfl⟩) (wk_preV (ci := 4) (q0 := 0) hPc hK hDc rfl rfl) rfl rfl hl.1 rfl (lv_room (Nat.le_of_ble_eq_true rfl)) d_M_exponent_5 ⟨Nat.le_of_ble_eq_true rfl, Nat.le_of_ble_eq_true rfl⟩) hP hD hS hA [0] (by decide) rfl (fun _ => by simp only [List.map_cons, List.map_nil]) (fun _ H locs ok198 hP hD hS => ?_)
  have hP : va_P G classes [(hm, .inr (4, [.int th, .long sd, .int nw, .long (dg_a (dg_a dg_0 2) sl), .ref q1, .ref q2, .ref q3, .ref q4, .ref q5, .ref q6, .ref q7, .ref q8, .int (nI n), .ref q9, .ref q10, .ref q11, .ref q12, .ref q13, .ref q14, .ref q15, .ref q16, .ref q17, .ref q18, .ref q19, .ref q20]))] H := hP
  have hD : va_D A [(hm, .inr (4, [.int th, .long sd, .int nw, .long (dg_a (dg_a dg_0 2) sl), .ref q1, .ref q2, .ref q3, .ref q4, .ref q5, .ref q6, .ref q7, .ref q8, .int (nI n), .ref q9, .ref q10, .ref q11, .ref q12, .ref q13, .ref q14, .ref q15, .ref q16, .ref q17, .ref q18, .ref q19, .ref q20]))] := hD
  refine lv_aload_n hx hb d_M_exponent_8 rfl (lv_at hl 0 rfl) ?_
  refine lv_iload_n hx hb d_M_exponent_9 rfl (lv_at hl 2 rfl) ?_
  refine lv_i2l (v := nb.toInt64) hx hb d_M_exponent_10 rfl ?_
  have hPc : va_P G classes [(hm, .inr (4, [.int th, .long sd, .int nw, .long (dg_a (dg_a dg_0 2) sl), .ref q1, .ref q2, .ref q3, .ref q4, .ref q5, .ref q6, .ref q7, .ref q8, .int (nI n), .ref q9, .ref q10, .ref q11, .ref q12, .ref q13, .ref q14, .ref q15, .ref q16, .ref q17, .ref q18, .ref q19, .ref q20]))] H := hP.sub [0] rfl
  have hDc := hD.sub (ws' := [(hm, .inr (4, [.int th, .long sd, .int nw, .long (dg_a (dg_a dg_0 2) sl), .ref q1, .ref q2, .ref q3, .ref q4, .ref q5, .ref q6, .ref q7, .ref q8, .int (nI n), .ref q9, .ref q10, .ref q11, .ref q12, .ref q13, .ref q14, .ref q15, .ref q16, .ref q17, .ref q18, .ref q19, .ref q20]))]) [0] (by decide) rfl
  refine wk_v (va_runV (As := [.long nb.toInt64]) (rest := []) ⟨hx, hb, hml, hown, hts⟩ (c_M_feed l G ct H.size hm th sd nw (dg_a (dg_a dg_0 2) sl) q1 q2 q3 q4 q5 q6 q7 q8 q9 q10 q11 q12 q13 q14 q15 q16 q17 q18 q19 q20 n nb.toInt64) (tb_V hw cy_M_feed ww_742 ww_744 wp_M_feed rfl rfl ⟨Nat.le_of_ble_eq_true rfl, Nat.le_of_ble_eq_true rfl⟩) (wk_preV (ci := 4) (q0 := 0) hPc hK hDc rfl rfl) rfl rfl hl.1 rfl (lv_room (Nat.le_of_ble_eq_true rfl)) d_M_exponent_11 ⟨Nat.le_of_ble_eq_true rfl, Nat.le_of_ble_eq_true rfl⟩) hP hD hS hA [0] (by decide) rfl (fun _ => by simp only [List.map_cons, List.map_nil]) (fun _ H locs ok199 hP hD hS => ?_)
  have hP : va_P G classes [(hm, .inr (4, [.int th, .long sd, .int nw, .long (dg_a (dg_a (dg_a dg_0 2) sl) nb.toInt64), .ref q1, .ref q2, .ref q3, .ref q4, .ref q5, .ref q6, .ref q7, .ref q8, .int (nI n), .ref q9, .ref q10, .ref q11, .ref q12, .ref q13, .ref q14, .ref q15, .ref q16, .ref q17, .ref q18, .ref q19, .ref q20]))] H := hP
  have hD : va_D A [(hm, .inr (4, [.int th, .long sd, .int nw, .long (dg_a (dg_a (dg_a dg_0 2) sl) nb.toInt64), .ref q1, .ref q2, .ref q3, .ref q4, .ref q5, .ref q6, .ref q7, .ref q8, .int (nI n), .ref q9, .ref q10, .ref q11, .ref q12, .ref q13, .ref q14, .ref q15, .ref q16, .ref q17, .ref q18, .ref q19, .ref q20]))] := hD
  refine lv_aload_n hx hb d_M_exponent_14 rfl (lv_at hl 0 rfl) ?_
  refine lv_lload hx hb d_M_exponent_15 (lv_at hl 3 rfl) ?_
  have hPc : va_P G classes [(hm, .inr (4, [.int th, .long sd, .int nw, .long (dg_a (dg_a (dg_a dg_0 2) sl) nb.toInt64), .ref q1, .ref q2, .ref q3, .ref q4, .ref q5, .ref q6, .ref q7, .ref q8, .int (nI n), .ref q9, .ref q10, .ref q11, .ref q12, .ref q13, .ref q14, .ref q15, .ref q16, .ref q17, .ref q18, .ref q19, .ref q20]))] H := hP.sub [0] rfl
  have hDc := hD.sub (ws' := [(hm, .inr (4, [.int th, .long sd, .int nw, .long (dg_a (dg_a (dg_a dg_0 2) sl) nb.toInt64), .ref q1, .ref q2, .ref q3, .ref q4, .ref q5, .ref q6, .ref q7, .ref q8, .int (nI n), .ref q9, .ref q10, .ref q11, .ref q12, .ref q13, .ref q14, .ref q15, .ref q16, .ref q17, .ref q18, .ref q19, .ref q20]))]) [0] (by decide) rfl
  refine wk_v (va_runV (As := [.long pw]) (rest := []) ⟨hx, hb, hml, hown, hts⟩ (c_M_feed l G ct H.size hm th sd nw (dg_a (dg_a (dg_a dg_0 2) sl) nb.toInt64) q1 q2 q3 q4 q5 q6 q7 q8 q9 q10 q11 q12 q13 q14 q15 q16 q17 q18 q19 q20 n pw) (tb_V hw cy_M_feed ww_742 ww_744 wp_M_feed rfl rfl ⟨Nat.le_of_ble_eq_true rfl, Nat.le_of_ble_eq_true rfl⟩) (wk_preV (ci := 4) (q0 := 0) hPc hK hDc rfl rfl) rfl rfl hl.1 rfl (lv_room (Nat.le_of_ble_eq_true rfl)) d_M_exponent_17 ⟨Nat.le_of_ble_eq_true rfl, Nat.le_of_ble_eq_true rfl⟩) hP hD hS hA [0] (by decide) rfl (fun _ => by simp only [List.map_cons, List.map_nil]) (fun _ H locs ok200 hP hD hS => ?_)
  have hP : va_P G classes [(hm, .inr (4, [.int th, .long sd, .int nw, .long (dg_a (dg_a (dg_a (dg_a dg_0 2) sl) nb.toInt64) pw), .ref q1, .ref q2, .ref q3, .ref q4, .ref q5, .ref q6, .ref q7, .ref q8, .int (nI n), .ref q9, .ref q10, .ref q11, .ref q12, .ref q13, .ref q14, .ref q15, .ref q16, .ref q17, .ref q18, .ref q19, .ref q20]))] H := hP
  have hD : va_D A [(hm, .inr (4, [.int th, .long sd, .int nw, .long (dg_a (dg_a (dg_a (dg_a dg_0 2) sl) nb.toInt64) pw), .ref q1, .ref q2, .ref q3, .ref q4, .ref q5, .ref q6, .ref q7, .ref q8, .int (nI n), .ref q9, .ref q10, .ref q11, .ref q12, .ref q13, .ref q14, .ref q15, .ref q16, .ref q17, .ref q18, .ref q19, .ref q20]))] := hD
  refine lv_aload_n hx hb d_M_exponent_20 rfl (lv_at hl 0 rfl) ?_
  have hPc : va_P G classes [(hm, .inr (4, [.int th, .long sd, .int nw, .long (dg_a (dg_a (dg_a (dg_a dg_0 2) sl) nb.toInt64) pw), .ref q1, .ref q2, .ref q3, .ref q4, .ref q5, .ref q6, .ref q7, .ref q8, .int (nI n), .ref q9, .ref q10, .ref q11, .ref q12, .ref q13, .ref q14, .ref q15, .ref q16, .ref q17, .ref q18, .ref q19, .ref q20]))] H := hP.sub [0] rfl
  have hDc := hD.sub (ws' := [(hm, .inr (4, [.int th, .long sd, .int nw, .long (dg_a (dg_a (dg_a (dg_a dg_0 2) sl) nb.toInt64) pw), .ref q1, .ref q2, .ref q3, .ref q4, .ref q5, .ref q6, .ref q7, .ref q8, .int (nI n), .ref q9, .ref q10, .ref q11, .ref q12, .ref q13, .ref q14, .ref q15, .ref q16, .ref q17, .ref q18, .ref q19, .ref q20]))]) [0] (by decide) rfl
  refine vp_callSl (W.runV (As := []) (rest := []) ⟨hx, hb, hml, hown, hts⟩ (c_M_digest l G ct H.size hm th sd nw (dg_a (dg_a (dg_a (dg_a dg_0 2) sl) nb.toInt64) pw) q1 q2 q3 q4 q5 q6 q7 q8 q9 q10 q11 q12 q13 q14 q15 q16 q17 q18 q19 q20 n) (tb_V hw cy_M_digest ww_748 ww_750 wp_M_digest rfl rfl ⟨Nat.le_of_ble_eq_true rfl, Nat.le_of_ble_eq_true rfl⟩) (wk_preV (ci := 4) (q0 := 0) hPc hK hDc rfl rfl) rfl rfl hl.1 rfl (lv_room (Nat.le_of_ble_eq_true rfl)) d_M_exponent_21 ⟨Nat.le_of_ble_eq_true rfl, Nat.le_of_ble_eq_true rfl⟩) (fun r201 er201 => ?_)
  subst er201
  refine vp_callSl (W.runS (As := [.long (dg_f (dg_a (dg_a (dg_a (dg_a dg_0 2) sl) nb.toInt64) pw))]) (rest := []) ⟨hx, hb, hml, hown, hts⟩ (c_M_scalar l (dg_f (dg_a (dg_a (dg_a (dg_a dg_0 2) sl) nb.toInt64) pw))) (tb_S hw cy_M_scalar ww_753 ww_754 rfl rfl ⟨Nat.le_of_ble_eq_true rfl, Nat.le_of_ble_eq_true rfl⟩) preEq rfl rfl hl.1 rfl (lv_room (Nat.le_of_ble_eq_true rfl)) d_M_exponent_24 ⟨Nat.le_of_ble_eq_true rfl, Nat.le_of_ble_eq_true rfl⟩) (fun r202 er202 => ?_)
  subst er202
  exact W.lret (v := lN (sc_n (dg_f (dg_a (dg_a (dg_a (dg_a dg_0 2) sl) nb.toInt64) pw)))) hx hb hr (fun t ht hW => ⟨⟨dg_a (dg_a (dg_a (dg_a dg_0 2) sl) nb.toInt64) pw, ⟨rfl, trivial⟩, by rw [ht]; exact hP, hD⟩, hS.F ht⟩) hS.2.2 d_M_exponent_27
set_option maxHeartbeats 4000000 in
set_option maxRecDepth 100000 in
theorem c_M_fake (l : Launch) (G : va_G) (ct : Nat → ClassId) (sz : Nat) (hm : Nat) (th : Int32) (sd : Int64) (nw : Int32) (hh : Int64) (q1 : Nat) (q2 : Nat) (q3 : Nat) (q4 : Nat) (q5 : Nat) (q6 : Nat) (q7 : Nat) (q8 : Nat) (q9 : Nat) (q10 : Nat) (q11 : Nat) (q12 : Nat) (q13 : Nat) (q14 : Nat) (q15 : Nat) (q16 : Nat) (q17 : Nat) (q18 : Nat) (q19 : Nat) (q20 : Nat) (n : Nat) (wh : Int32) (nb : Int32) : Met l my_M_fake (tb_w my_M_fake mb_M_fake 3 (some .long)) ({ frames := 2, cells := 0, slots := 0, locals := 47 }) (wk_P [.ref hm, .int wh, .int nb] G ct [(hm, .inr (4, [.int th, .long sd, .int nw, .long hh, .ref q1, .ref q2, .ref q3, .ref q4, .ref q5, .ref q6, .ref q7, .ref q8, .int (nI n), .ref q9, .ref q10, .ref q11, .ref q12, .ref q13, .ref q14, .ref q15, .ref q16, .ref q17, .ref q18, .ref q19, .ref q20]))] sz) (wk_Q (wk_ol (S := Int64) (fun z2 => dg_3 (Int32.toInt64 wh) sd (Int32.toInt64 nb)) (fun _ => True)) (fun z2 : Int64 => [(hm, .inr (4, [.int th, .long sd, .int nw, .long z2, .ref q1, .ref q2, .ref q3, .ref q4, .ref q5, .ref q6, .ref q7, .ref q8, .int (nI n), .ref q9, .ref q10, .ref q11, .ref q12, .ref q13, .ref q14, .ref q15, .ref q16, .ref q17, .ref q18, .ref q19, .ref q20]))]) G (va_A [(hm, .inr (4, [.int th, .long sd, .int nw, .long hh, .ref q1, .ref q2, .ref q3, .ref q4, .ref q5, .ref q6, .ref q7, .ref q8, .int (nI n), .ref q9, .ref q10, .ref q11, .ref q12, .ref q13, .ref q14, .ref q15, .ref q16, .ref q17, .ref q18, .ref q19, .ref q20]))] sz)) 0 0 (va_A [(hm, .inr (4, [.int th, .long sd, .int nw, .long hh, .ref q1, .ref q2, .ref q3, .ref q4, .ref q5, .ref q6, .ref q7, .ref q8, .int (nI n), .ref q9, .ref q10, .ref q11, .ref q12, .ref q13, .ref q14, .ref q15, .ref q16, .ref q17, .ref q18, .ref q19, .ref q20]))] sz) := by
  refine Met.ofW (cc := mb_M_fake) (maxL := 3) (ret := (some .long)) (by decide) rfl ?_
  intro p e s m args below meth c s₁ B hml hv
  obtain ⟨rfl, hsz, hP, hK, hD0⟩ := hv
  have hx := B.exec
  have hb := B.bytes
  have hr := B.returns
  have hts := atoms_spec (ws := tb_w my_M_fake mb_M_fake 3 (some .long)) B.pre
  have hw : ∀ w ∈ gt_tbl, w.before [.ref hm, .int wh, .int nb].toArray s = true := fun w h => hts w (List.mem_cons_of_mem _ h)
  have hown : s.vm.findClass cr_M = some m.cls := findClass_of_methodNamed B.named
  have hlocks := B.notSynchronized
  subst hsz
  have hD := hD0.self (sz := s.heap.size)
  generalize hAe : va_A [(hm, .inr (4, [.int th, .long sd, .int nw, .long hh, .ref q1, .ref q2, .ref q3, .ref q4, .ref q5, .ref q6, .ref q7, .ref q8, .int (nI n), .ref q9, .ref q10, .ref q11, .ref q12, .ref q13, .ref q14, .ref q15, .ref q16, .ref q17, .ref q18, .ref q19, .ref q20]))] s.heap.size = A at hD ⊢
  have hA : ∀ q : Nat, s.heap.size ≤ q → A q := fun q h => by rw [← hAe]; exact Or.inr h
  have hS : va_S A s.heap s.heap [] := va_S.rf
  have hP : va_P G classes [(hm, .inr (4, [.int th, .long sd, .int nw, .long hh, .ref q1, .ref q2, .ref q3, .ref q4, .ref q5, .ref q6, .ref q7, .ref q8, .int (nI n), .ref q9, .ref q10, .ref q11, .ref q12, .ref q13, .ref q14, .ref q15, .ref q16, .ref q17, .ref q18, .ref q19, .ref q20]))] s.heap := hP
  have hl := lv_entry ([.ref hm, .int wh, .int nb]) (n := 3) (Nat.le_of_ble_eq_true rfl)
  rw [lg_entry_eq]
  generalize (lg_sl ([.ref hm, .int wh, .int nb]) ++ List.replicate (3 - (lg_sl ([.ref hm, .int wh, .int nb])).length) Slot.unset).toArray = ls at hl ⊢
  have hl : lv_has ls 3 [(0, .ref hm), (1, .int wh), (2, .int nb)] := hl
  refine lv_aload_n hx hb d_M_fake_0 rfl (lv_at hl 0 rfl) ?_
  refine lv_iload_n hx hb d_M_fake_1 rfl (lv_at hl 1 rfl) ?_
  refine lv_i2l (v := wh.toInt64) hx hb d_M_fake_2 rfl ?_
  refine lv_aload_n hx hb d_M_fake_3 rfl (lv_at hl 0 rfl) ?_
  refine va_get (D := G) (ci := 4) (v := .long sd) (C := cr_M) (T := cf_M) (N := 25) hx hb hw uw_M hown hK.1 hP 0 rfl rfl 1 (by decide) (hw _ ww_641) (fun _ h9 => h9) rfl d_M_fake_4 ?_
  have hPc : va_P G classes [(hm, .inr (4, [.int th, .long sd, .int nw, .long hh, .ref q1, .ref q2, .ref q3, .ref q4, .ref q5, .ref q6, .ref q7, .ref q8, .int (nI n), .ref q9, .ref q10, .ref q11, .ref q12, .ref q13, .ref q14, .ref q15, .ref q16, .ref q17, .ref q18, .ref q19, .ref q20]))] s.heap := hP.sub [0] rfl
  have hDc := hD.sub (ws' := [(hm, .inr (4, [.int th, .long sd, .int nw, .long hh, .ref q1, .ref q2, .ref q3, .ref q4, .ref q5, .ref q6, .ref q7, .ref q8, .int (nI n), .ref q9, .ref q10, .ref q11, .ref q12, .ref q13, .ref q14, .ref q15, .ref q16, .ref q17, .ref q18, .ref q19, .ref q20]))]) [0] (by decide) rfl
  refine wk_v (va_runV (As := [.long wh.toInt64, .long sd]) (rest := []) ⟨hx, hb, hml, hown, hts⟩ (c_M_begin l G ct s.heap.size hm th sd nw hh q1 q2 q3 q4 q5 q6 q7 q8 q9 q10 q11 q12 q13 q14 q15 q16 q17 q18 q19 q20 n wh.toInt64 sd) (tb_V hw cy_M_begin ww_737 ww_739 wp_M_begin rfl rfl ⟨Nat.le_of_ble_eq_true rfl, Nat.le_of_ble_eq_true rfl⟩) (wk_preV (ci := 4) (q0 := 0) hPc hK hDc rfl rfl) rfl rfl hl.1 rfl (lv_room (Nat.le_of_ble_eq_true rfl)) d_M_fake_7 ⟨Nat.le_of_ble_eq_true rfl, Nat.le_of_ble_eq_true rfl⟩) hP hD hS hA [0] (by decide) rfl (fun _ => by simp only [List.map_cons, List.map_nil]) (fun _ H locs ok203 hP hD hS => ?_)
  have hP : va_P G classes [(hm, .inr (4, [.int th, .long sd, .int nw, .long (dg_a (dg_a dg_0 wh.toInt64) sd), .ref q1, .ref q2, .ref q3, .ref q4, .ref q5, .ref q6, .ref q7, .ref q8, .int (nI n), .ref q9, .ref q10, .ref q11, .ref q12, .ref q13, .ref q14, .ref q15, .ref q16, .ref q17, .ref q18, .ref q19, .ref q20]))] H := hP
  have hD : va_D A [(hm, .inr (4, [.int th, .long sd, .int nw, .long (dg_a (dg_a dg_0 wh.toInt64) sd), .ref q1, .ref q2, .ref q3, .ref q4, .ref q5, .ref q6, .ref q7, .ref q8, .int (nI n), .ref q9, .ref q10, .ref q11, .ref q12, .ref q13, .ref q14, .ref q15, .ref q16, .ref q17, .ref q18, .ref q19, .ref q20]))] := hD
  refine lv_aload_n hx hb d_M_fake_10 rfl (lv_at hl 0 rfl) ?_
  refine lv_iload_n hx hb d_M_fake_11 rfl (lv_at hl 2 rfl) ?_
  refine lv_i2l (v := nb.toInt64) hx hb d_M_fake_12 rfl ?_
  have hPc : va_P G classes [(hm, .inr (4, [.int th, .long sd, .int nw, .long (dg_a (dg_a dg_0 wh.toInt64) sd), .ref q1, .ref q2, .ref q3, .ref q4, .ref q5, .ref q6, .ref q7, .ref q8, .int (nI n), .ref q9, .ref q10, .ref q11, .ref q12, .ref q13, .ref q14, .ref q15, .ref q16, .ref q17, .ref q18, .ref q19, .ref q20]))] H := hP.sub [0] rfl
  have hDc := hD.sub (ws' := [(hm, .inr (4, [.int th, .long sd, .int nw, .long (dg_a (dg_a dg_0 wh.toInt64) sd), .ref q1, .ref q2, .ref q3, .ref q4, .ref q5, .ref q6, .ref q7, .ref q8, .int (nI n), .ref q9, .ref q10, .ref q11, .ref q12, .ref q13, .ref q14, .ref q15, .ref q16, .ref q17, .ref q18, .ref q19, .ref q20]))]) [0] (by decide) rfl
  refine wk_v (va_runV (As := [.long nb.toInt64]) (rest := []) ⟨hx, hb, hml, hown, hts⟩ (c_M_feed l G ct H.size hm th sd nw (dg_a (dg_a dg_0 wh.toInt64) sd) q1 q2 q3 q4 q5 q6 q7 q8 q9 q10 q11 q12 q13 q14 q15 q16 q17 q18 q19 q20 n nb.toInt64) (tb_V hw cy_M_feed ww_742 ww_744 wp_M_feed rfl rfl ⟨Nat.le_of_ble_eq_true rfl, Nat.le_of_ble_eq_true rfl⟩) (wk_preV (ci := 4) (q0 := 0) hPc hK hDc rfl rfl) rfl rfl hl.1 rfl (lv_room (Nat.le_of_ble_eq_true rfl)) d_M_fake_13 ⟨Nat.le_of_ble_eq_true rfl, Nat.le_of_ble_eq_true rfl⟩) hP hD hS hA [0] (by decide) rfl (fun _ => by simp only [List.map_cons, List.map_nil]) (fun _ H locs ok204 hP hD hS => ?_)
  have hP : va_P G classes [(hm, .inr (4, [.int th, .long sd, .int nw, .long (dg_a (dg_a (dg_a dg_0 wh.toInt64) sd) nb.toInt64), .ref q1, .ref q2, .ref q3, .ref q4, .ref q5, .ref q6, .ref q7, .ref q8, .int (nI n), .ref q9, .ref q10, .ref q11, .ref q12, .ref q13, .ref q14, .ref q15, .ref q16, .ref q17, .ref q18, .ref q19, .ref q20]))] H := hP
  have hD : va_D A [(hm, .inr (4, [.int th, .long sd, .int nw, .long (dg_a (dg_a (dg_a dg_0 wh.toInt64) sd) nb.toInt64), .ref q1, .ref q2, .ref q3, .ref q4, .ref q5, .ref q6, .ref q7, .ref q8, .int (nI n), .ref q9, .ref q10, .ref q11, .ref q12, .ref q13, .ref q14, .ref q15, .ref q16, .ref q17, .ref q18, .ref q19, .ref q20]))] := hD
  refine lv_aload_n hx hb d_M_fake_16 rfl (lv_at hl 0 rfl) ?_
  have hPc : va_P G classes [(hm, .inr (4, [.int th, .long sd, .int nw, .long (dg_a (dg_a (dg_a dg_0 wh.toInt64) sd) nb.toInt64), .ref q1, .ref q2, .ref q3, .ref q4, .ref q5, .ref q6, .ref q7, .ref q8, .int (nI n), .ref q9, .ref q10, .ref q11, .ref q12, .ref q13, .ref q14, .ref q15, .ref q16, .ref q17, .ref q18, .ref q19, .ref q20]))] H := hP.sub [0] rfl
  have hDc := hD.sub (ws' := [(hm, .inr (4, [.int th, .long sd, .int nw, .long (dg_a (dg_a (dg_a dg_0 wh.toInt64) sd) nb.toInt64), .ref q1, .ref q2, .ref q3, .ref q4, .ref q5, .ref q6, .ref q7, .ref q8, .int (nI n), .ref q9, .ref q10, .ref q11, .ref q12, .ref q13, .ref q14, .ref q15, .ref q16, .ref q17, .ref q18, .ref q19, .ref q20]))]) [0] (by decide) rfl
  refine vp_callSl (W.runV (As := []) (rest := []) ⟨hx, hb, hml, hown, hts⟩ (c_M_digest l G ct H.size hm th sd nw (dg_a (dg_a (dg_a dg_0 wh.toInt64) sd) nb.toInt64) q1 q2 q3 q4 q5 q6 q7 q8 q9 q10 q11 q12 q13 q14 q15 q16 q17 q18 q19 q20 n) (tb_V hw cy_M_digest ww_748 ww_750 wp_M_digest rfl rfl ⟨Nat.le_of_ble_eq_true rfl, Nat.le_of_ble_eq_true rfl⟩) (wk_preV (ci := 4) (q0 := 0) hPc hK hDc rfl rfl) rfl rfl hl.1 rfl (lv_room (Nat.le_of_ble_eq_true rfl)) d_M_fake_17 ⟨Nat.le_of_ble_eq_true rfl, Nat.le_of_ble_eq_true rfl⟩) (fun r205 er205 => ?_)
  subst er205
  exact W.lret (v := dg_f (dg_a (dg_a (dg_a dg_0 wh.toInt64) sd) nb.toInt64)) hx hb hr (fun t ht hW => ⟨⟨dg_a (dg_a (dg_a dg_0 wh.toInt64) sd) nb.toInt64, ⟨rfl, trivial⟩, by rw [ht]; exact hP, hD⟩, hS.F ht⟩) hS.2.2 d_M_fake_20
set_option maxHeartbeats 4000000 in
set_option maxRecDepth 100000 in
theorem c_M_isUser (l : Launch) (ua : Int32) : Met l my_M_isUser (tb_w my_M_isUser mb_M_isUser 1 (some .boolean)) ({ frames := 0, cells := 0, slots := 0, locals := 0 }) (fun av _ => av = [.int ua].toArray) (vp_Si (fun r => r = (if us_in ua then 1 else 0))) 0 0 (fun _ => False) := by
  refine Met.ofW (cc := mb_M_isUser) (maxL := 1) (ret := (some .boolean)) (by decide) rfl ?_
  intro p e s m args below meth c s₁ B hml hv
  subst hv
  have hx := B.exec
  have hb := B.bytes
  have hr := B.returns
  have hts := atoms_spec (ws := tb_w my_M_isUser mb_M_isUser 1 (some .boolean)) B.pre
  have hw : ∀ w ∈ gt_tbl, w.before [.int ua].toArray s = true := fun w h => hts w (List.mem_cons_of_mem _ h)
  have hown : s.vm.findClass cr_M = some m.cls := findClass_of_methodNamed B.named
  have hlocks := B.notSynchronized
  have hl := lv_entry ([.int ua]) (n := 1) (Nat.le_of_ble_eq_true rfl)
  rw [lg_entry_eq]
  generalize (lg_sl ([.int ua]) ++ List.replicate (1 - (lg_sl ([.int ua])).length) Slot.unset).toArray = ls at hl ⊢
  have hl : lv_has ls 1 [(0, .int ua)] := hl
  refine lv_iload_n hx hb d_M_isUser_0 rfl (lv_at hl 0 rfl) ?_
  refine lv_if_lt (tgt := 14) hx hb d_M_isUser_1 (by decide) (fun h206 => ?_) (fun h206 => ?_)
  · refine lv_iconst (v := 0) hx hb d_M_isUser_14 (by decide) ?_
    exact W.zret (v := 0) (ty := .boolean) hx hb hr rfl (fun t ht hW => ⟨0, rfl, (by rw [if_neg (fun z => (Int32.not_lt.mpr z.1) h206)]), ht⟩) (fun q h => nomatch h) d_M_isUser_15
  · refine lv_iload_n hx hb d_M_isUser_4 rfl (lv_at hl 0 rfl) ?_
    refine lv_bipush (v := 8) hx hb d_M_isUser_5 (by decide) ?_
    refine lv_icmp_ge (tgt := 14) hx hb d_M_isUser_7 (by decide) (fun h207 => ?_) (fun h207 => ?_)
    · refine lv_iconst (v := 0) hx hb d_M_isUser_14 (by decide) ?_
      exact W.zret (v := 0) (ty := .boolean) hx hb hr rfl (fun t ht hW => ⟨0, rfl, (by rw [if_neg (fun z => (Int32.not_le.mpr z.2) h207)]), ht⟩) (fun q h => nomatch h) d_M_isUser_15
    · refine lv_iconst (v := 1) hx hb d_M_isUser_10 (by decide) ?_
      refine lv_goto (tgt := 15) hx hb d_M_isUser_11 (by decide) ?_
      exact W.zret (v := 1) (ty := .boolean) hx hb hr rfl (fun t ht hW => ⟨1, rfl, (by rw [if_pos ⟨Int32.not_lt.mp h206, Int32.not_le.mp h207⟩]), ht⟩) (fun q h => nomatch h) d_M_isUser_15
set_option maxHeartbeats 4000000 in
set_option maxRecDepth 100000 in
theorem c_M_isWay (l : Launch) (wy : Int32) : Met l my_M_isWay (tb_w my_M_isWay mb_M_isWay 1 (some .boolean)) ({ frames := 0, cells := 0, slots := 0, locals := 0 }) (fun av _ => av = [.int wy].toArray) (vp_Si (fun r => r = (if wy_in wy then 1 else 0))) 0 0 (fun _ => False) := by
  refine Met.ofW (cc := mb_M_isWay) (maxL := 1) (ret := (some .boolean)) (by decide) rfl ?_
  intro p e s m args below meth c s₁ B hml hv
  subst hv
  have hx := B.exec
  have hb := B.bytes
  have hr := B.returns
  have hts := atoms_spec (ws := tb_w my_M_isWay mb_M_isWay 1 (some .boolean)) B.pre
  have hw : ∀ w ∈ gt_tbl, w.before [.int wy].toArray s = true := fun w h => hts w (List.mem_cons_of_mem _ h)
  have hown : s.vm.findClass cr_M = some m.cls := findClass_of_methodNamed B.named
  have hlocks := B.notSynchronized
  have hl := lv_entry ([.int wy]) (n := 1) (Nat.le_of_ble_eq_true rfl)
  rw [lg_entry_eq]
  generalize (lg_sl ([.int wy]) ++ List.replicate (1 - (lg_sl ([.int wy])).length) Slot.unset).toArray = ls at hl ⊢
  have hl : lv_has ls 1 [(0, .int wy)] := hl
  refine lv_iload_n hx hb d_M_isWay_0 rfl (lv_at hl 0 rfl) ?_
  refine lv_if_eq (tgt := 9) hx hb d_M_isWay_1 (by decide) (fun h208 => ?_) (fun h208 => ?_)
  · refine lv_iconst (v := 1) hx hb d_M_isWay_9 (by decide) ?_
    refine lv_goto (tgt := 14) hx hb d_M_isWay_10 (by decide) ?_
    exact W.zret (v := 1) (ty := .boolean) hx hb hr rfl (fun t ht hW => ⟨1, rfl, (by rw [if_pos (Or.inl h208)]), ht⟩) (fun q h => nomatch h) d_M_isWay_14
  · refine lv_iload_n hx hb d_M_isWay_4 rfl (lv_at hl 0 rfl) ?_
    refine lv_iconst (v := 1) hx hb d_M_isWay_5 (by decide) ?_
    refine lv_icmp_ne (tgt := 13) hx hb d_M_isWay_6 (by decide) (fun h209 => ?_) (fun h209 => ?_)
    · refine lv_iconst (v := 0) hx hb d_M_isWay_13 (by decide) ?_
      exact W.zret (v := 0) (ty := .boolean) hx hb hr rfl (fun t ht hW => ⟨0, rfl, (by rw [if_neg (fun z => z.elim h208 h209)]), ht⟩) (fun q h => nomatch h) d_M_isWay_14
    · refine lv_iconst (v := 1) hx hb d_M_isWay_9 (by decide) ?_
      refine lv_goto (tgt := 14) hx hb d_M_isWay_10 (by decide) ?_
      exact W.zret (v := 1) (ty := .boolean) hx hb hr rfl (fun t ht hW => ⟨1, rfl, (by rw [if_pos (Or.inr h209)]), ht⟩) (fun q h => nomatch h) d_M_isWay_14
set_option maxHeartbeats 4000000 in
set_option maxRecDepth 100000 in
theorem c_M_saltOf (l : Launch) (G : va_G) (ct : Nat → ClassId) (sz : Nat) (hm : Nat) (th : Int32) (sd : Int64) (nw : Int32) (hh : Int64) (q1 : Nat) (q2 : Nat) (q3 : Nat) (q4 : Nat) (q5 : Nat) (q6 : Nat) (q7 : Nat) (q8 : Nat) (q9 : Nat) (q10 : Nat) (q11 : Nat) (q12 : Nat) (q13 : Nat) (q14 : Nat) (q15 : Nat) (q16 : Nat) (q17 : Nat) (q18 : Nat) (q19 : Nat) (q20 : Nat) (n : Nat) (a1 : Nat → Int32) (a3 : Nat → Int64) (k : Nat) (hk : k < 8) : Met l my_M_saltOf (tb_w my_M_saltOf mb_M_saltOf 2 (some .long)) ({ frames := 3, cells := 0, slots := 0, locals := 69 }) (wk_P [.ref hm, .int (nI k)] G ct [(hm, .inr (4, [.int th, .long sd, .int nw, .long hh, .ref q1, .ref q2, .ref q3, .ref q4, .ref q5, .ref q6, .ref q7, .ref q8, .int (nI n), .ref q9, .ref q10, .ref q11, .ref q12, .ref q13, .ref q14, .ref q15, .ref q16, .ref q17, .ref q18, .ref q19, .ref q20])), (q1, .inl ((ct 0), 8, .inl a1)), (q3, .inl ((ct 1), 8, .inr (.inl a3)))] sz) (wk_Q (wk_ol (S := Int64) (fun z2 => sm_sa sd (nI k) (a1 k) (a3 k)) (fun _ => True)) (fun z2 : Int64 => [(hm, .inr (4, [.int th, .long sd, .int nw, .long z2, .ref q1, .ref q2, .ref q3, .ref q4, .ref q5, .ref q6, .ref q7, .ref q8, .int (nI n), .ref q9, .ref q10, .ref q11, .ref q12, .ref q13, .ref q14, .ref q15, .ref q16, .ref q17, .ref q18, .ref q19, .ref q20])), (q1, .inl ((ct 0), 8, .inl a1)), (q3, .inl ((ct 1), 8, .inr (.inl a3)))]) G (va_A [(hm, .inr (4, [.int th, .long sd, .int nw, .long hh, .ref q1, .ref q2, .ref q3, .ref q4, .ref q5, .ref q6, .ref q7, .ref q8, .int (nI n), .ref q9, .ref q10, .ref q11, .ref q12, .ref q13, .ref q14, .ref q15, .ref q16, .ref q17, .ref q18, .ref q19, .ref q20])), (q1, .inl ((ct 0), 8, .inl a1)), (q3, .inl ((ct 1), 8, .inr (.inl a3)))] sz)) 0 0 (va_A [(hm, .inr (4, [.int th, .long sd, .int nw, .long hh, .ref q1, .ref q2, .ref q3, .ref q4, .ref q5, .ref q6, .ref q7, .ref q8, .int (nI n), .ref q9, .ref q10, .ref q11, .ref q12, .ref q13, .ref q14, .ref q15, .ref q16, .ref q17, .ref q18, .ref q19, .ref q20])), (q1, .inl ((ct 0), 8, .inl a1)), (q3, .inl ((ct 1), 8, .inr (.inl a3)))] sz) := by
  refine Met.ofW (cc := mb_M_saltOf) (maxL := 2) (ret := (some .long)) (by decide) rfl ?_
  intro p e s m args below meth c s₁ B hml hv
  obtain ⟨rfl, hsz, hP, hK, hD0⟩ := hv
  have hx := B.exec
  have hb := B.bytes
  have hr := B.returns
  have hts := atoms_spec (ws := tb_w my_M_saltOf mb_M_saltOf 2 (some .long)) B.pre
  have hw : ∀ w ∈ gt_tbl, w.before [.ref hm, .int (nI k)].toArray s = true := fun w h => hts w (List.mem_cons_of_mem _ h)
  have hown : s.vm.findClass cr_M = some m.cls := findClass_of_methodNamed B.named
  have hlocks := B.notSynchronized
  subst hsz
  have hD := hD0.self (sz := s.heap.size)
  generalize hAe : va_A [(hm, .inr (4, [.int th, .long sd, .int nw, .long hh, .ref q1, .ref q2, .ref q3, .ref q4, .ref q5, .ref q6, .ref q7, .ref q8, .int (nI n), .ref q9, .ref q10, .ref q11, .ref q12, .ref q13, .ref q14, .ref q15, .ref q16, .ref q17, .ref q18, .ref q19, .ref q20])), (q1, .inl ((ct 0), 8, .inl a1)), (q3, .inl ((ct 1), 8, .inr (.inl a3)))] s.heap.size = A at hD ⊢
  have hA : ∀ q : Nat, s.heap.size ≤ q → A q := fun q h => by rw [← hAe]; exact Or.inr h
  have hS : va_S A s.heap s.heap [] := va_S.rf
  have hP : va_P G classes [(hm, .inr (4, [.int th, .long sd, .int nw, .long hh, .ref q1, .ref q2, .ref q3, .ref q4, .ref q5, .ref q6, .ref q7, .ref q8, .int (nI n), .ref q9, .ref q10, .ref q11, .ref q12, .ref q13, .ref q14, .ref q15, .ref q16, .ref q17, .ref q18, .ref q19, .ref q20])), (q1, .inl ((ct 0), 8, .inl a1)), (q3, .inl ((ct 1), 8, .inr (.inl a3)))] s.heap := hP
  have hl := lv_entry ([.ref hm, .int (nI k)]) (n := 2) (Nat.le_of_ble_eq_true rfl)
  rw [lg_entry_eq]
  generalize (lg_sl ([.ref hm, .int (nI k)]) ++ List.replicate (2 - (lg_sl ([.ref hm, .int (nI k)])).length) Slot.unset).toArray = ls at hl ⊢
  have hl : lv_has ls 2 [(0, .ref hm), (1, .int (nI k))] := hl
  refine lv_aload_n hx hb d_M_saltOf_0 rfl (lv_at hl 0 rfl) ?_
  refine va_get (D := G) (ci := 4) (v := .ref q1) (C := cr_M) (T := cf_M) (N := 25) hx hb hw uw_M hown hK.1 hP 0 rfl rfl 4 (by decide) (hw _ ww_644) (fun _ h9 => h9) rfl d_M_saltOf_1 ?_
  refine lv_iload_n hx hb d_M_saltOf_4 rfl (lv_at hl 1 rfl) ?_
  refine ra_il hx hb hK.1 hP 1 0 rfl rfl (k := k) (by omega) (by decide) d_M_saltOf_5 ?_
  refine lv_iconst (v := 1) hx hb d_M_saltOf_6 (by decide) ?_
  refine lv_icmp_ne (tgt := 19) hx hb d_M_saltOf_7 (by decide) (fun h210 => ?_) (fun h210 => ?_)
  · refine lv_aload_n hx hb d_M_saltOf_19 rfl (lv_at hl 0 rfl) ?_
    refine lv_iconst (v := 4) hx hb d_M_saltOf_20 (by decide) ?_
    refine lv_iload_n hx hb d_M_saltOf_21 rfl (lv_at hl 1 rfl) ?_
    have hPc : va_P G classes [(hm, .inr (4, [.int th, .long sd, .int nw, .long hh, .ref q1, .ref q2, .ref q3, .ref q4, .ref q5, .ref q6, .ref q7, .ref q8, .int (nI n), .ref q9, .ref q10, .ref q11, .ref q12, .ref q13, .ref q14, .ref q15, .ref q16, .ref q17, .ref q18, .ref q19, .ref q20]))] s.heap := hP.sub [0] rfl
    have hDc := hD.sub (ws' := [(hm, .inr (4, [.int th, .long sd, .int nw, .long hh, .ref q1, .ref q2, .ref q3, .ref q4, .ref q5, .ref q6, .ref q7, .ref q8, .int (nI n), .ref q9, .ref q10, .ref q11, .ref q12, .ref q13, .ref q14, .ref q15, .ref q16, .ref q17, .ref q18, .ref q19, .ref q20]))]) [0] (by decide) rfl
    refine wk_l (va_runV (As := [.int 4, .int (nI k)]) (rest := []) ⟨hx, hb, hml, hown, hts⟩ (c_M_fake l G ct s.heap.size hm th sd nw hh q1 q2 q3 q4 q5 q6 q7 q8 q9 q10 q11 q12 q13 q14 q15 q16 q17 q18 q19 q20 n 4 (nI k)) (tb_V hw cy_M_fake ww_783 ww_785 wp_M_fake rfl rfl ⟨Nat.le_of_ble_eq_true rfl, Nat.le_of_ble_eq_true rfl⟩) (wk_preV (ci := 4) (q0 := 0) hPc hK hDc rfl rfl) rfl rfl hl.1 rfl (lv_room (Nat.le_of_ble_eq_true rfl)) d_M_saltOf_22 ⟨Nat.le_of_ble_eq_true rfl, Nat.le_of_ble_eq_true rfl⟩) hP hD hS hA [0] (by decide) rfl (fun _ => by simp only [List.map_cons, List.map_nil]) (fun z2211 H locs ok212 hP hD hS => ?_)
    have hP : va_P G classes [(hm, .inr (4, [.int th, .long sd, .int nw, .long z2211, .ref q1, .ref q2, .ref q3, .ref q4, .ref q5, .ref q6, .ref q7, .ref q8, .int (nI n), .ref q9, .ref q10, .ref q11, .ref q12, .ref q13, .ref q14, .ref q15, .ref q16, .ref q17, .ref q18, .ref q19, .ref q20])), (q1, .inl ((ct 0), 8, .inl a1)), (q3, .inl ((ct 1), 8, .inr (.inl a3)))] H := hP
    have hD : va_D A [(hm, .inr (4, [.int th, .long sd, .int nw, .long z2211, .ref q1, .ref q2, .ref q3, .ref q4, .ref q5, .ref q6, .ref q7, .ref q8, .int (nI n), .ref q9, .ref q10, .ref q11, .ref q12, .ref q13, .ref q14, .ref q15, .ref q16, .ref q17, .ref q18, .ref q19, .ref q20])), (q1, .inl ((ct 0), 8, .inl a1)), (q3, .inl ((ct 1), 8, .inr (.inl a3)))] := hD
    exact W.lret (v := dg_3 (Int32.toInt64 4) sd (Int32.toInt64 (nI k))) hx hb hr (fun t ht hW => ⟨⟨z2211, ⟨congrArg (fun z => Outcome.returned (some (.long z))) ((by unfold sm_sa; rw [if_neg h210]; rfl)), trivial⟩, by rw [ht]; exact hP, hD⟩, hS.F ht⟩) hS.2.2 d_M_saltOf_25
  · refine lv_aload_n hx hb d_M_saltOf_10 rfl (lv_at hl 0 rfl) ?_
    refine va_get (D := G) (ci := 4) (v := .ref q3) (C := cr_M) (T := cf_M) (N := 25) hx hb hw uw_M hown hK.1 hP 0 rfl rfl 6 (by decide) (hw _ ww_646) (fun _ h9 => h9) rfl d_M_saltOf_11 ?_
    refine lv_iload_n hx hb d_M_saltOf_14 rfl (lv_at hl 1 rfl) ?_
    refine ra_ll hx hb hK.1 hP 2 1 rfl rfl (k := k) (by omega) (by decide) d_M_saltOf_15 ?_
    refine lv_goto (tgt := 25) hx hb d_M_saltOf_16 (by decide) ?_
    exact W.lret (v := a3 k) hx hb hr (fun t ht hW => ⟨⟨hh, ⟨congrArg (fun z => Outcome.returned (some (.long z))) ((by unfold sm_sa; rw [if_pos h210])), trivial⟩, by rw [ht]; exact hP, hD⟩, hS.F ht⟩) hS.2.2 d_M_saltOf_25
set_option maxHeartbeats 4000000 in
set_option maxRecDepth 100000 in
theorem c_M_isBlocked (l : Launch) (G : va_G) (ct : Nat → ClassId) (sz : Nat) (hm : Nat) (th : Int32) (sd : Int64) (nw : Int32) (hh : Int64) (q1 : Nat) (q2 : Nat) (q3 : Nat) (q4 : Nat) (q5 : Nat) (q6 : Nat) (q7 : Nat) (q8 : Nat) (q9 : Nat) (q10 : Nat) (q11 : Nat) (q12 : Nat) (q13 : Nat) (q14 : Nat) (q15 : Nat) (q16 : Nat) (q17 : Nat) (q18 : Nat) (q19 : Nat) (q20 : Nat) (n : Nat) (a5 : Nat → Int32) (a8 : Nat → Int32) (k : Nat) (hk : k < 8) : Met l my_M_isBlocked (tb_w my_M_isBlocked mb_M_isBlocked 2 (some .boolean)) ({ frames := 0, cells := 0, slots := 0, locals := 0 }) (wk_P [.ref hm, .int (nI k)] G ct [(hm, .inr (4, [.int th, .long sd, .int nw, .long hh, .ref q1, .ref q2, .ref q3, .ref q4, .ref q5, .ref q6, .ref q7, .ref q8, .int (nI n), .ref q9, .ref q10, .ref q11, .ref q12, .ref q13, .ref q14, .ref q15, .ref q16, .ref q17, .ref q18, .ref q19, .ref q20])), (q5, .inl ((ct 0), 8, .inl a5)), (q8, .inl ((ct 0), 8, .inl a8))] sz) (vp_Si (fun r => r = (if sm_bl (a5 k) (a8 k) nw then 1 else 0))) 0 0 (fun _ => False) := by
  refine Met.ofW (cc := mb_M_isBlocked) (maxL := 2) (ret := (some .boolean)) (by decide) rfl ?_
  intro p e s m args below meth c s₁ B hml hv
  obtain ⟨rfl, hsz, hP, hK, hD0⟩ := hv
  have hx := B.exec
  have hb := B.bytes
  have hr := B.returns
  have hts := atoms_spec (ws := tb_w my_M_isBlocked mb_M_isBlocked 2 (some .boolean)) B.pre
  have hw : ∀ w ∈ gt_tbl, w.before [.ref hm, .int (nI k)].toArray s = true := fun w h => hts w (List.mem_cons_of_mem _ h)
  have hown : s.vm.findClass cr_M = some m.cls := findClass_of_methodNamed B.named
  have hlocks := B.notSynchronized
  subst hsz
  have hD := hD0.self (sz := s.heap.size)
  generalize hAe : va_A [(hm, .inr (4, [.int th, .long sd, .int nw, .long hh, .ref q1, .ref q2, .ref q3, .ref q4, .ref q5, .ref q6, .ref q7, .ref q8, .int (nI n), .ref q9, .ref q10, .ref q11, .ref q12, .ref q13, .ref q14, .ref q15, .ref q16, .ref q17, .ref q18, .ref q19, .ref q20])), (q5, .inl ((ct 0), 8, .inl a5)), (q8, .inl ((ct 0), 8, .inl a8))] s.heap.size = A at hD ⊢
  have hA : ∀ q : Nat, s.heap.size ≤ q → A q := fun q h => by rw [← hAe]; exact Or.inr h
  have hS : va_S A s.heap s.heap [] := va_S.rf
  have hP : va_P G classes [(hm, .inr (4, [.int th, .long sd, .int nw, .long hh, .ref q1, .ref q2, .ref q3, .ref q4, .ref q5, .ref q6, .ref q7, .ref q8, .int (nI n), .ref q9, .ref q10, .ref q11, .ref q12, .ref q13, .ref q14, .ref q15, .ref q16, .ref q17, .ref q18, .ref q19, .ref q20])), (q5, .inl ((ct 0), 8, .inl a5)), (q8, .inl ((ct 0), 8, .inl a8))] s.heap := hP
  have hl := lv_entry ([.ref hm, .int (nI k)]) (n := 2) (Nat.le_of_ble_eq_true rfl)
  rw [lg_entry_eq]
  generalize (lg_sl ([.ref hm, .int (nI k)]) ++ List.replicate (2 - (lg_sl ([.ref hm, .int (nI k)])).length) Slot.unset).toArray = ls at hl ⊢
  have hl : lv_has ls 2 [(0, .ref hm), (1, .int (nI k))] := hl
  refine lv_aload_n hx hb d_M_isBlocked_0 rfl (lv_at hl 0 rfl) ?_
  refine va_get (D := G) (ci := 4) (v := .ref q5) (C := cr_M) (T := cf_M) (N := 25) hx hb hw uw_M hown hK.1 hP 0 rfl rfl 8 (by decide) (hw _ ww_648) (fun _ h9 => h9) rfl d_M_isBlocked_1 ?_
  refine lv_iload_n hx hb d_M_isBlocked_4 rfl (lv_at hl 1 rfl) ?_
  refine ra_il hx hb hK.1 hP 1 0 rfl rfl (k := k) (by omega) (by decide) d_M_isBlocked_5 ?_
  refine lv_iconst (v := 2) hx hb d_M_isBlocked_6 (by decide) ?_
  refine lv_icmp_le (tgt := 30) hx hb d_M_isBlocked_7 (by decide) (fun h213 => ?_) (fun h213 => ?_)
  · refine lv_iconst (v := 0) hx hb d_M_isBlocked_30 (by decide) ?_
    exact W.zret (v := 0) (ty := .boolean) hx hb hr rfl (fun t ht hW => ⟨0, rfl, (by rw [if_neg (fun z => (Int32.not_le.mpr z.1) h213)]), ht⟩) (fun q h => nomatch h) d_M_isBlocked_31
  · refine lv_aload_n hx hb d_M_isBlocked_10 rfl (lv_at hl 0 rfl) ?_
    refine va_get (D := G) (ci := 4) (v := .int nw) (C := cr_M) (T := cf_M) (N := 25) hx hb hw uw_M hown hK.1 hP 0 rfl rfl 2 (by decide) (hw _ ww_642) (fun _ h9 => h9) rfl d_M_isBlocked_11 ?_
    refine lv_aload_n hx hb d_M_isBlocked_14 rfl (lv_at hl 0 rfl) ?_
    refine va_get (D := G) (ci := 4) (v := .ref q8) (C := cr_M) (T := cf_M) (N := 25) hx hb hw uw_M hown hK.1 hP 0 rfl rfl 11 (by decide) (hw _ ww_651) (fun _ h9 => h9) rfl d_M_isBlocked_15 ?_
    refine lv_iload_n hx hb d_M_isBlocked_18 rfl (lv_at hl 1 rfl) ?_
    refine ra_il hx hb hK.1 hP 2 0 rfl rfl (k := k) (by omega) (by decide) d_M_isBlocked_19 ?_
    refine lv_isub hx hb d_M_isBlocked_20 ?_
    refine lv_bipush (v := 30) hx hb d_M_isBlocked_21 (by decide) ?_
    refine lv_icmp_ge (tgt := 30) hx hb d_M_isBlocked_23 (by decide) (fun h214 => ?_) (fun h214 => ?_)
    · refine lv_iconst (v := 0) hx hb d_M_isBlocked_30 (by decide) ?_
      exact W.zret (v := 0) (ty := .boolean) hx hb hr rfl (fun t ht hW => ⟨0, rfl, (by rw [if_neg (fun z => (Int32.not_le.mpr z.2) h214)]), ht⟩) (fun q h => nomatch h) d_M_isBlocked_31
    · refine lv_iconst (v := 1) hx hb d_M_isBlocked_26 (by decide) ?_
      refine lv_goto (tgt := 31) hx hb d_M_isBlocked_27 (by decide) ?_
      exact W.zret (v := 1) (ty := .boolean) hx hb hr rfl (fun t ht hW => ⟨1, rfl, (by rw [if_pos ⟨Int32.not_le.mp h213, Int32.not_le.mp h214⟩]), ht⟩) (fun q h => nomatch h) d_M_isBlocked_31
set_option maxHeartbeats 4000000 in
set_option maxRecDepth 100000 in
theorem c_M_there (l : Launch) (G : va_G) (ct : Nat → ClassId) (sz : Nat) (hm : Nat) (th : Int32) (sd : Int64) (nw : Int32) (hh : Int64) (q1 : Nat) (q2 : Nat) (q3 : Nat) (q4 : Nat) (q5 : Nat) (q6 : Nat) (q7 : Nat) (q8 : Nat) (q9 : Nat) (q10 : Nat) (q11 : Nat) (q12 : Nat) (q13 : Nat) (q14 : Nat) (q15 : Nat) (q16 : Nat) (q17 : Nat) (q18 : Nat) (q19 : Nat) (q20 : Nat) (n : Nat) (sa : Int32) : Met l my_M_there (tb_w my_M_there mb_M_there 2 (some .boolean)) ({ frames := 0, cells := 0, slots := 0, locals := 0 }) (wk_P [.ref hm, .int sa] G ct [(hm, .inr (4, [.int th, .long sd, .int nw, .long hh, .ref q1, .ref q2, .ref q3, .ref q4, .ref q5, .ref q6, .ref q7, .ref q8, .int (nI n), .ref q9, .ref q10, .ref q11, .ref q12, .ref q13, .ref q14, .ref q15, .ref q16, .ref q17, .ref q18, .ref q19, .ref q20]))] sz) (vp_Si (fun r => r = (if th_in sa n then 1 else 0))) 0 0 (fun _ => False) := by
  refine Met.ofW (cc := mb_M_there) (maxL := 2) (ret := (some .boolean)) (by decide) rfl ?_
  intro p e s m args below meth c s₁ B hml hv
  obtain ⟨rfl, hsz, hP, hK, hD0⟩ := hv
  have hx := B.exec
  have hb := B.bytes
  have hr := B.returns
  have hts := atoms_spec (ws := tb_w my_M_there mb_M_there 2 (some .boolean)) B.pre
  have hw : ∀ w ∈ gt_tbl, w.before [.ref hm, .int sa].toArray s = true := fun w h => hts w (List.mem_cons_of_mem _ h)
  have hown : s.vm.findClass cr_M = some m.cls := findClass_of_methodNamed B.named
  have hlocks := B.notSynchronized
  subst hsz
  have hD := hD0.self (sz := s.heap.size)
  generalize hAe : va_A [(hm, .inr (4, [.int th, .long sd, .int nw, .long hh, .ref q1, .ref q2, .ref q3, .ref q4, .ref q5, .ref q6, .ref q7, .ref q8, .int (nI n), .ref q9, .ref q10, .ref q11, .ref q12, .ref q13, .ref q14, .ref q15, .ref q16, .ref q17, .ref q18, .ref q19, .ref q20]))] s.heap.size = A at hD ⊢
  have hA : ∀ q : Nat, s.heap.size ≤ q → A q := fun q h => by rw [← hAe]; exact Or.inr h
  have hS : va_S A s.heap s.heap [] := va_S.rf
  have hP : va_P G classes [(hm, .inr (4, [.int th, .long sd, .int nw, .long hh, .ref q1, .ref q2, .ref q3, .ref q4, .ref q5, .ref q6, .ref q7, .ref q8, .int (nI n), .ref q9, .ref q10, .ref q11, .ref q12, .ref q13, .ref q14, .ref q15, .ref q16, .ref q17, .ref q18, .ref q19, .ref q20]))] s.heap := hP
  have hl := lv_entry ([.ref hm, .int sa]) (n := 2) (Nat.le_of_ble_eq_true rfl)
  rw [lg_entry_eq]
  generalize (lg_sl ([.ref hm, .int sa]) ++ List.replicate (2 - (lg_sl ([.ref hm, .int sa])).length) Slot.unset).toArray = ls at hl ⊢
  have hl : lv_has ls 2 [(0, .ref hm), (1, .int sa)] := hl
  refine lv_iload_n hx hb d_M_there_0 rfl (lv_at hl 1 rfl) ?_
  refine lv_if_lt (tgt := 16) hx hb d_M_there_1 (by decide) (fun h215 => ?_) (fun h215 => ?_)
  · refine lv_iconst (v := 0) hx hb d_M_there_16 (by decide) ?_
    exact W.zret (v := 0) (ty := .boolean) hx hb hr rfl (fun t ht hW => ⟨0, rfl, (by rw [if_neg (fun z => (Int32.not_lt.mpr z.1) h215)]), ht⟩) (fun q h => nomatch h) d_M_there_17
  · refine lv_iload_n hx hb d_M_there_4 rfl (lv_at hl 1 rfl) ?_
    refine lv_aload_n hx hb d_M_there_5 rfl (lv_at hl 0 rfl) ?_
    refine va_get (D := G) (ci := 4) (v := .int (nI n)) (C := cr_M) (T := cf_M) (N := 25) hx hb hw uw_M hown hK.1 hP 0 rfl rfl 12 (by decide) (hw _ ww_652) (fun _ h9 => h9) rfl d_M_there_6 ?_
    refine lv_icmp_ge (tgt := 16) hx hb d_M_there_9 (by decide) (fun h216 => ?_) (fun h216 => ?_)
    · refine lv_iconst (v := 0) hx hb d_M_there_16 (by decide) ?_
      exact W.zret (v := 0) (ty := .boolean) hx hb hr rfl (fun t ht hW => ⟨0, rfl, (by rw [if_neg (fun z => (Int32.not_le.mpr z.2) h216)]), ht⟩) (fun q h => nomatch h) d_M_there_17
    · refine lv_iconst (v := 1) hx hb d_M_there_12 (by decide) ?_
      refine lv_goto (tgt := 17) hx hb d_M_there_13 (by decide) ?_
      exact W.zret (v := 1) (ty := .boolean) hx hb hr rfl (fun t ht hW => ⟨1, rfl, (by rw [if_pos ⟨Int32.not_lt.mp h215, Int32.not_le.mp h216⟩]), ht⟩) (fun q h => nomatch h) d_M_there_17
set_option maxHeartbeats 4000000 in
set_option maxRecDepth 100000 in
theorem c_M_stateOf (l : Launch) (G : va_G) (ct : Nat → ClassId) (sz : Nat) (hm : Nat) (th : Int32) (sd : Int64) (nw : Int32) (hh : Int64) (q1 : Nat) (q2 : Nat) (q3 : Nat) (q4 : Nat) (q5 : Nat) (q6 : Nat) (q7 : Nat) (q8 : Nat) (q9 : Nat) (q10 : Nat) (q11 : Nat) (q12 : Nat) (q13 : Nat) (q14 : Nat) (q15 : Nat) (q16 : Nat) (q17 : Nat) (q18 : Nat) (q19 : Nat) (q20 : Nat) (n : Nat) (b2 : Nat → Int32) (b3 : Nat → Int32) (k : Nat) (hk : k < 40) : Met l my_M_stateOf (tb_w my_M_stateOf mb_M_stateOf 2 (some .int)) ({ frames := 0, cells := 0, slots := 0, locals := 0 }) (wk_P [.ref hm, .int (nI k)] G ct [(hm, .inr (4, [.int th, .long sd, .int nw, .long hh, .ref q1, .ref q2, .ref q3, .ref q4, .ref q5, .ref q6, .ref q7, .ref q8, .int (nI n), .ref q9, .ref q10, .ref q11, .ref q12, .ref q13, .ref q14, .ref q15, .ref q16, .ref q17, .ref q18, .ref q19, .ref q20])), (q12, .inl ((ct 0), 40, .inl b2)), (q13, .inl ((ct 0), 40, .inl b3))] sz) (vp_Si (fun r => r = sm_at (b2 k) (b3 k) nw)) 0 0 (fun _ => False) := by
  refine Met.ofW (cc := mb_M_stateOf) (maxL := 2) (ret := (some .int)) (by decide) rfl ?_
  intro p e s m args below meth c s₁ B hml hv
  obtain ⟨rfl, hsz, hP, hK, hD0⟩ := hv
  have hx := B.exec
  have hb := B.bytes
  have hr := B.returns
  have hts := atoms_spec (ws := tb_w my_M_stateOf mb_M_stateOf 2 (some .int)) B.pre
  have hw : ∀ w ∈ gt_tbl, w.before [.ref hm, .int (nI k)].toArray s = true := fun w h => hts w (List.mem_cons_of_mem _ h)
  have hown : s.vm.findClass cr_M = some m.cls := findClass_of_methodNamed B.named
  have hlocks := B.notSynchronized
  subst hsz
  have hD := hD0.self (sz := s.heap.size)
  generalize hAe : va_A [(hm, .inr (4, [.int th, .long sd, .int nw, .long hh, .ref q1, .ref q2, .ref q3, .ref q4, .ref q5, .ref q6, .ref q7, .ref q8, .int (nI n), .ref q9, .ref q10, .ref q11, .ref q12, .ref q13, .ref q14, .ref q15, .ref q16, .ref q17, .ref q18, .ref q19, .ref q20])), (q12, .inl ((ct 0), 40, .inl b2)), (q13, .inl ((ct 0), 40, .inl b3))] s.heap.size = A at hD ⊢
  have hA : ∀ q : Nat, s.heap.size ≤ q → A q := fun q h => by rw [← hAe]; exact Or.inr h
  have hS : va_S A s.heap s.heap [] := va_S.rf
  have hP : va_P G classes [(hm, .inr (4, [.int th, .long sd, .int nw, .long hh, .ref q1, .ref q2, .ref q3, .ref q4, .ref q5, .ref q6, .ref q7, .ref q8, .int (nI n), .ref q9, .ref q10, .ref q11, .ref q12, .ref q13, .ref q14, .ref q15, .ref q16, .ref q17, .ref q18, .ref q19, .ref q20])), (q12, .inl ((ct 0), 40, .inl b2)), (q13, .inl ((ct 0), 40, .inl b3))] s.heap := hP
  have hl := lv_entry ([.ref hm, .int (nI k)]) (n := 2) (Nat.le_of_ble_eq_true rfl)
  rw [lg_entry_eq]
  generalize (lg_sl ([.ref hm, .int (nI k)]) ++ List.replicate (2 - (lg_sl ([.ref hm, .int (nI k)])).length) Slot.unset).toArray = ls at hl ⊢
  have hl : lv_has ls 2 [(0, .ref hm), (1, .int (nI k))] := hl
  refine lv_aload_n hx hb d_M_stateOf_0 rfl (lv_at hl 0 rfl) ?_
  refine va_get (D := G) (ci := 4) (v := .ref q12) (C := cr_M) (T := cf_M) (N := 25) hx hb hw uw_M hown hK.1 hP 0 rfl rfl 16 (by decide) (hw _ ww_656) (fun _ h9 => h9) rfl d_M_stateOf_1 ?_
  refine lv_iload_n hx hb d_M_stateOf_4 rfl (lv_at hl 1 rfl) ?_
  refine ra_il hx hb hK.1 hP 1 0 rfl rfl (k := k) (by omega) (by decide) d_M_stateOf_5 ?_
  refine lv_iconst (v := 2) hx hb d_M_stateOf_6 (by decide) ?_
  refine lv_icmp_ge (tgt := 30) hx hb d_M_stateOf_7 (by decide) (fun h217 => ?_) (fun h217 => ?_)
  · refine lv_aload_n hx hb d_M_stateOf_30 rfl (lv_at hl 0 rfl) ?_
    refine va_get (D := G) (ci := 4) (v := .ref q12) (C := cr_M) (T := cf_M) (N := 25) hx hb hw uw_M hown hK.1 hP 0 rfl rfl 16 (by decide) (hw _ ww_656) (fun _ h9 => h9) rfl d_M_stateOf_31 ?_
    refine lv_iload_n hx hb d_M_stateOf_34 rfl (lv_at hl 1 rfl) ?_
    refine ra_il hx hb hK.1 hP 1 0 rfl rfl (k := k) (by omega) (by decide) d_M_stateOf_35 ?_
    exact W.iret (v := b2 k) hx hb hr (fun t ht hW => ⟨b2 k, rfl, (by unfold sm_at; rw [if_neg (fun z => (Int32.not_le.mpr z.1) h217)]), ht⟩) (fun q h => nomatch h) d_M_stateOf_36
  · refine lv_aload_n hx hb d_M_stateOf_10 rfl (lv_at hl 0 rfl) ?_
    refine va_get (D := G) (ci := 4) (v := .int nw) (C := cr_M) (T := cf_M) (N := 25) hx hb hw uw_M hown hK.1 hP 0 rfl rfl 2 (by decide) (hw _ ww_642) (fun _ h9 => h9) rfl d_M_stateOf_11 ?_
    refine lv_aload_n hx hb d_M_stateOf_14 rfl (lv_at hl 0 rfl) ?_
    refine va_get (D := G) (ci := 4) (v := .ref q13) (C := cr_M) (T := cf_M) (N := 25) hx hb hw uw_M hown hK.1 hP 0 rfl rfl 17 (by decide) (hw _ ww_657) (fun _ h9 => h9) rfl d_M_stateOf_15 ?_
    refine lv_iload_n hx hb d_M_stateOf_18 rfl (lv_at hl 1 rfl) ?_
    refine ra_il hx hb hK.1 hP 2 0 rfl rfl (k := k) (by omega) (by decide) d_M_stateOf_19 ?_
    refine lv_isub hx hb d_M_stateOf_20 ?_
    refine lv_bipush (v := 20) hx hb d_M_stateOf_21 (by decide) ?_
    refine lv_icmp_lt (tgt := 30) hx hb d_M_stateOf_23 (by decide) (fun h218 => ?_) (fun h218 => ?_)
    · refine lv_aload_n hx hb d_M_stateOf_30 rfl (lv_at hl 0 rfl) ?_
      refine va_get (D := G) (ci := 4) (v := .ref q12) (C := cr_M) (T := cf_M) (N := 25) hx hb hw uw_M hown hK.1 hP 0 rfl rfl 16 (by decide) (hw _ ww_656) (fun _ h9 => h9) rfl d_M_stateOf_31 ?_
      refine lv_iload_n hx hb d_M_stateOf_34 rfl (lv_at hl 1 rfl) ?_
      refine ra_il hx hb hK.1 hP 1 0 rfl rfl (k := k) (by omega) (by decide) d_M_stateOf_35 ?_
      exact W.iret (v := b2 k) hx hb hr (fun t ht hW => ⟨b2 k, rfl, (by unfold sm_at; rw [if_neg (fun z => (Int32.not_le.mpr h218) z.2)]), ht⟩) (fun q h => nomatch h) d_M_stateOf_36
    · refine lv_iconst (v := 4) hx hb d_M_stateOf_26 (by decide) ?_
      refine lv_goto (tgt := 36) hx hb d_M_stateOf_27 (by decide) ?_
      exact W.iret (v := 4) hx hb hr (fun t ht hW => ⟨4, rfl, (by unfold sm_at; rw [if_pos ⟨Int32.not_le.mp h217, Int32.not_lt.mp h218⟩]), ht⟩) (fun q h => nomatch h) d_M_stateOf_36
set_option maxHeartbeats 4000000 in
set_option maxRecDepth 100000 in
theorem c_M_open (l : Launch) (G : va_G) (ct : Nat → ClassId) (sz : Nat) (hm : Nat) (th : Int32) (sd : Int64) (nw : Int32) (hh : Int64) (q1 : Nat) (q2 : Nat) (q3 : Nat) (q4 : Nat) (q5 : Nat) (q6 : Nat) (q7 : Nat) (q8 : Nat) (q9 : Nat) (q10 : Nat) (q11 : Nat) (q12 : Nat) (q13 : Nat) (q14 : Nat) (q15 : Nat) (q16 : Nat) (q17 : Nat) (q18 : Nat) (q19 : Nat) (q20 : Nat) (n : Nat) (b0 : Nat → Int32) (b1 : Nat → Int32) (b2 : Nat → Int32) (b3 : Nat → Int32) (b4 : Nat → Int64) (b10 : Nat → Int64) (nb : Int32) (wy : Int32) (se : Int64) (hn : n < 40) : Met l my_M_open (tb_w my_M_open mb_M_open 6 (some .int)) ({ frames := 1, cells := 0, slots := 0, locals := 21 }) (wk_P [.ref hm, .int nb, .int wy, .long se] G ct [(hm, .inr (4, [.int th, .long sd, .int nw, .long hh, .ref q1, .ref q2, .ref q3, .ref q4, .ref q5, .ref q6, .ref q7, .ref q8, .int (nI n), .ref q9, .ref q10, .ref q11, .ref q12, .ref q13, .ref q14, .ref q15, .ref q16, .ref q17, .ref q18, .ref q19, .ref q20])), (q10, .inl ((ct 0), 40, .inl b0)), (q11, .inl ((ct 0), 40, .inl b1)), (q12, .inl ((ct 0), 40, .inl b2)), (q13, .inl ((ct 0), 40, .inl b3)), (q14, .inl ((ct 1), 40, .inr (.inl b4))), (q20, .inl ((ct 1), 40, .inr (.inl b10)))] sz) (wk_Q (wk_oi (S := Unit) (fun _ => nI n) (fun _ => True)) (fun _ : Unit => [(hm, .inr (4, [.int th, .long sd, .int nw, .long hh, .ref q1, .ref q2, .ref q3, .ref q4, .ref q5, .ref q6, .ref q7, .ref q8, .int (nI (n + 1)), .ref q9, .ref q10, .ref q11, .ref q12, .ref q13, .ref q14, .ref q15, .ref q16, .ref q17, .ref q18, .ref q19, .ref q20])), (q10, .inl ((ct 0), 40, .inl (upd b0 n wy))), (q11, .inl ((ct 0), 40, .inl (upd b1 n nb))), (q12, .inl ((ct 0), 40, .inl (upd b2 n 0))), (q13, .inl ((ct 0), 40, .inl (upd b3 n nw))), (q14, .inl ((ct 1), 40, .inr (.inl (vp_updL b4 n (lN (sc_n se)))))), (q20, .inl ((ct 1), 40, .inr (.inl (vp_updL b10 n 0))))]) G (va_A [(hm, .inr (4, [.int th, .long sd, .int nw, .long hh, .ref q1, .ref q2, .ref q3, .ref q4, .ref q5, .ref q6, .ref q7, .ref q8, .int (nI n), .ref q9, .ref q10, .ref q11, .ref q12, .ref q13, .ref q14, .ref q15, .ref q16, .ref q17, .ref q18, .ref q19, .ref q20])), (q10, .inl ((ct 0), 40, .inl b0)), (q11, .inl ((ct 0), 40, .inl b1)), (q12, .inl ((ct 0), 40, .inl b2)), (q13, .inl ((ct 0), 40, .inl b3)), (q14, .inl ((ct 1), 40, .inr (.inl b4))), (q20, .inl ((ct 1), 40, .inr (.inl b10)))] sz)) 0 0 (va_A [(hm, .inr (4, [.int th, .long sd, .int nw, .long hh, .ref q1, .ref q2, .ref q3, .ref q4, .ref q5, .ref q6, .ref q7, .ref q8, .int (nI n), .ref q9, .ref q10, .ref q11, .ref q12, .ref q13, .ref q14, .ref q15, .ref q16, .ref q17, .ref q18, .ref q19, .ref q20])), (q10, .inl ((ct 0), 40, .inl b0)), (q11, .inl ((ct 0), 40, .inl b1)), (q12, .inl ((ct 0), 40, .inl b2)), (q13, .inl ((ct 0), 40, .inl b3)), (q14, .inl ((ct 1), 40, .inr (.inl b4))), (q20, .inl ((ct 1), 40, .inr (.inl b10)))] sz) := by
  refine Met.ofW (cc := mb_M_open) (maxL := 6) (ret := (some .int)) (by decide) rfl ?_
  intro p e s m args below meth c s₁ B hml hv
  obtain ⟨rfl, hsz, hP, hK, hD0⟩ := hv
  have hx := B.exec
  have hb := B.bytes
  have hr := B.returns
  have hts := atoms_spec (ws := tb_w my_M_open mb_M_open 6 (some .int)) B.pre
  have hw : ∀ w ∈ gt_tbl, w.before [.ref hm, .int nb, .int wy, .long se].toArray s = true := fun w h => hts w (List.mem_cons_of_mem _ h)
  have hown : s.vm.findClass cr_M = some m.cls := findClass_of_methodNamed B.named
  have hlocks := B.notSynchronized
  subst hsz
  have hD := hD0.self (sz := s.heap.size)
  generalize hAe : va_A [(hm, .inr (4, [.int th, .long sd, .int nw, .long hh, .ref q1, .ref q2, .ref q3, .ref q4, .ref q5, .ref q6, .ref q7, .ref q8, .int (nI n), .ref q9, .ref q10, .ref q11, .ref q12, .ref q13, .ref q14, .ref q15, .ref q16, .ref q17, .ref q18, .ref q19, .ref q20])), (q10, .inl ((ct 0), 40, .inl b0)), (q11, .inl ((ct 0), 40, .inl b1)), (q12, .inl ((ct 0), 40, .inl b2)), (q13, .inl ((ct 0), 40, .inl b3)), (q14, .inl ((ct 1), 40, .inr (.inl b4))), (q20, .inl ((ct 1), 40, .inr (.inl b10)))] s.heap.size = A at hD ⊢
  have hA : ∀ q : Nat, s.heap.size ≤ q → A q := fun q h => by rw [← hAe]; exact Or.inr h
  have hS : va_S A s.heap s.heap [] := va_S.rf
  have hP : va_P G classes [(hm, .inr (4, [.int th, .long sd, .int nw, .long hh, .ref q1, .ref q2, .ref q3, .ref q4, .ref q5, .ref q6, .ref q7, .ref q8, .int (nI n), .ref q9, .ref q10, .ref q11, .ref q12, .ref q13, .ref q14, .ref q15, .ref q16, .ref q17, .ref q18, .ref q19, .ref q20])), (q10, .inl ((ct 0), 40, .inl b0)), (q11, .inl ((ct 0), 40, .inl b1)), (q12, .inl ((ct 0), 40, .inl b2)), (q13, .inl ((ct 0), 40, .inl b3)), (q14, .inl ((ct 1), 40, .inr (.inl b4))), (q20, .inl ((ct 1), 40, .inr (.inl b10)))] s.heap := hP
  have hl := lv_entry ([.ref hm, .int nb, .int wy, .long se]) (n := 6) (Nat.le_of_ble_eq_true rfl)
  rw [lg_entry_eq]
  generalize (lg_sl ([.ref hm, .int nb, .int wy, .long se]) ++ List.replicate (6 - (lg_sl ([.ref hm, .int nb, .int wy, .long se])).length) Slot.unset).toArray = ls at hl ⊢
  have hl : lv_has ls 6 [(0, .ref hm), (1, .int nb), (2, .int wy), (3, .long se)] := hl
  refine lv_aload_n hx hb d_M_open_0 rfl (lv_at hl 0 rfl) ?_
  refine va_get (D := G) (ci := 4) (v := .int (nI n)) (C := cr_M) (T := cf_M) (N := 25) hx hb hw uw_M hown hK.1 hP 0 rfl rfl 12 (by decide) (hw _ ww_652) (fun _ h9 => h9) rfl d_M_open_1 ?_
  refine lv_istore (lv' := [(5, .int (nI n)), (0, .ref hm), (1, .int nb), (2, .int wy), (3, .long se)]) hx hb d_M_open_4 hl (Nat.le_of_ble_eq_true rfl) rfl (fun ls hl => ?_)
  refine lv_aload_n hx hb d_M_open_6 rfl (lv_at hl 1 rfl) ?_
  refine lv_dup hx hb d_M_open_7 rfl ?_
  refine va_get (D := G) (ci := 4) (v := .int (nI n)) (C := cr_M) (T := cf_M) (N := 25) hx hb hw uw_M hown hK.1 hP 0 rfl rfl 12 (by decide) (hw _ ww_652) (fun _ h9 => h9) rfl d_M_open_8 ?_
  refine lv_iconst (v := 1) hx hb d_M_open_11 (by decide) ?_
  refine lv_iadd hx hb d_M_open_12 ?_
  refine tp_i ((nI_succ n).symm) ?_
  refine va_put (D := G) (ci := 4) (v := .int (nI (n + 1))) (ty := .int) (C := cr_M) (T := cf_M) (N := 25) hx hb hw uw_M ct_M ct_M_ok ct_M_nm hown hK.1 hP hD hS 0 rfl rfl 12 (by decide) (hw _ ww_652) (fun _ h9 => h9) rfl (by decide +kernel) rfl rfl (Nat.le_of_ble_eq_true rfl) d_M_open_13 (fun H locs hP hD hS => ?_)
  have hP : va_P G classes [(hm, .inr (4, [.int th, .long sd, .int nw, .long hh, .ref q1, .ref q2, .ref q3, .ref q4, .ref q5, .ref q6, .ref q7, .ref q8, .int (nI (n + 1)), .ref q9, .ref q10, .ref q11, .ref q12, .ref q13, .ref q14, .ref q15, .ref q16, .ref q17, .ref q18, .ref q19, .ref q20])), (q10, .inl ((ct 0), 40, .inl b0)), (q11, .inl ((ct 0), 40, .inl b1)), (q12, .inl ((ct 0), 40, .inl b2)), (q13, .inl ((ct 0), 40, .inl b3)), (q14, .inl ((ct 1), 40, .inr (.inl b4))), (q20, .inl ((ct 1), 40, .inr (.inl b10)))] H := hP
  have hD : va_D A [(hm, .inr (4, [.int th, .long sd, .int nw, .long hh, .ref q1, .ref q2, .ref q3, .ref q4, .ref q5, .ref q6, .ref q7, .ref q8, .int (nI (n + 1)), .ref q9, .ref q10, .ref q11, .ref q12, .ref q13, .ref q14, .ref q15, .ref q16, .ref q17, .ref q18, .ref q19, .ref q20])), (q10, .inl ((ct 0), 40, .inl b0)), (q11, .inl ((ct 0), 40, .inl b1)), (q12, .inl ((ct 0), 40, .inl b2)), (q13, .inl ((ct 0), 40, .inl b3)), (q14, .inl ((ct 1), 40, .inr (.inl b4))), (q20, .inl ((ct 1), 40, .inr (.inl b10)))] := hD
  refine lv_aload_n hx hb d_M_open_16 rfl (lv_at hl 1 rfl) ?_
  refine va_get (D := G) (ci := 4) (v := .ref q11) (C := cr_M) (T := cf_M) (N := 25) hx hb hw uw_M hown hK.1 hP 0 rfl rfl 15 (by decide) (hw _ ww_655) (fun _ h9 => h9) rfl d_M_open_17 ?_
  refine lv_iload hx hb d_M_open_20 (lv_at hl 0 rfl) ?_
  refine lv_iload_n hx hb d_M_open_22 rfl (lv_at hl 2 rfl) ?_
  refine ra_is hx hb hK.1 hP hD hS 2 0 rfl rfl (k := n) (by omega) (by decide) d_M_open_23 (fun H locs hP hD hS => ?_)
  have hP : va_P G classes [(hm, .inr (4, [.int th, .long sd, .int nw, .long hh, .ref q1, .ref q2, .ref q3, .ref q4, .ref q5, .ref q6, .ref q7, .ref q8, .int (nI (n + 1)), .ref q9, .ref q10, .ref q11, .ref q12, .ref q13, .ref q14, .ref q15, .ref q16, .ref q17, .ref q18, .ref q19, .ref q20])), (q10, .inl ((ct 0), 40, .inl b0)), (q11, .inl ((ct 0), 40, .inl (upd b1 n nb))), (q12, .inl ((ct 0), 40, .inl b2)), (q13, .inl ((ct 0), 40, .inl b3)), (q14, .inl ((ct 1), 40, .inr (.inl b4))), (q20, .inl ((ct 1), 40, .inr (.inl b10)))] H := hP
  have hD : va_D A [(hm, .inr (4, [.int th, .long sd, .int nw, .long hh, .ref q1, .ref q2, .ref q3, .ref q4, .ref q5, .ref q6, .ref q7, .ref q8, .int (nI (n + 1)), .ref q9, .ref q10, .ref q11, .ref q12, .ref q13, .ref q14, .ref q15, .ref q16, .ref q17, .ref q18, .ref q19, .ref q20])), (q10, .inl ((ct 0), 40, .inl b0)), (q11, .inl ((ct 0), 40, .inl (upd b1 n nb))), (q12, .inl ((ct 0), 40, .inl b2)), (q13, .inl ((ct 0), 40, .inl b3)), (q14, .inl ((ct 1), 40, .inr (.inl b4))), (q20, .inl ((ct 1), 40, .inr (.inl b10)))] := hD
  refine lv_aload_n hx hb d_M_open_24 rfl (lv_at hl 1 rfl) ?_
  refine va_get (D := G) (ci := 4) (v := .ref q10) (C := cr_M) (T := cf_M) (N := 25) hx hb hw uw_M hown hK.1 hP 0 rfl rfl 14 (by decide) (hw _ ww_654) (fun _ h9 => h9) rfl d_M_open_25 ?_
  refine lv_iload hx hb d_M_open_28 (lv_at hl 0 rfl) ?_
  refine lv_iload_n hx hb d_M_open_30 rfl (lv_at hl 3 rfl) ?_
  refine ra_is hx hb hK.1 hP hD hS 1 0 rfl rfl (k := n) (by omega) (by decide) d_M_open_31 (fun H locs hP hD hS => ?_)
  have hP : va_P G classes [(hm, .inr (4, [.int th, .long sd, .int nw, .long hh, .ref q1, .ref q2, .ref q3, .ref q4, .ref q5, .ref q6, .ref q7, .ref q8, .int (nI (n + 1)), .ref q9, .ref q10, .ref q11, .ref q12, .ref q13, .ref q14, .ref q15, .ref q16, .ref q17, .ref q18, .ref q19, .ref q20])), (q10, .inl ((ct 0), 40, .inl (upd b0 n wy))), (q11, .inl ((ct 0), 40, .inl (upd b1 n nb))), (q12, .inl ((ct 0), 40, .inl b2)), (q13, .inl ((ct 0), 40, .inl b3)), (q14, .inl ((ct 1), 40, .inr (.inl b4))), (q20, .inl ((ct 1), 40, .inr (.inl b10)))] H := hP
  have hD : va_D A [(hm, .inr (4, [.int th, .long sd, .int nw, .long hh, .ref q1, .ref q2, .ref q3, .ref q4, .ref q5, .ref q6, .ref q7, .ref q8, .int (nI (n + 1)), .ref q9, .ref q10, .ref q11, .ref q12, .ref q13, .ref q14, .ref q15, .ref q16, .ref q17, .ref q18, .ref q19, .ref q20])), (q10, .inl ((ct 0), 40, .inl (upd b0 n wy))), (q11, .inl ((ct 0), 40, .inl (upd b1 n nb))), (q12, .inl ((ct 0), 40, .inl b2)), (q13, .inl ((ct 0), 40, .inl b3)), (q14, .inl ((ct 1), 40, .inr (.inl b4))), (q20, .inl ((ct 1), 40, .inr (.inl b10)))] := hD
  refine lv_aload_n hx hb d_M_open_32 rfl (lv_at hl 1 rfl) ?_
  refine va_get (D := G) (ci := 4) (v := .ref q14) (C := cr_M) (T := cf_M) (N := 25) hx hb hw uw_M hown hK.1 hP 0 rfl rfl 18 (by decide) (hw _ ww_658) (fun _ h9 => h9) rfl d_M_open_33 ?_
  refine lv_iload hx hb d_M_open_36 (lv_at hl 0 rfl) ?_
  refine lv_lload_n hx hb d_M_open_38 rfl (lv_at hl 4 rfl) ?_
  refine vp_callSl (W.runS (As := [.long se]) (rest := [.int (nI n), .ref q14]) ⟨hx, hb, hml, hown, hts⟩ (c_M_scalar l se) (tb_S hw cy_M_scalar ww_753 ww_754 rfl rfl ⟨Nat.le_of_ble_eq_true rfl, Nat.le_of_ble_eq_true rfl⟩) preEq rfl rfl hl.1 rfl (lv_room (Nat.le_of_ble_eq_true rfl)) d_M_open_39 ⟨Nat.le_of_ble_eq_true rfl, Nat.le_of_ble_eq_true rfl⟩) (fun r219 er219 => ?_)
  subst er219
  refine ra_ls hx hb hK.1 hP hD hS 5 1 rfl rfl (k := n) (by omega) (by decide) d_M_open_42 (fun H locs hP hD hS => ?_)
  have hP : va_P G classes [(hm, .inr (4, [.int th, .long sd, .int nw, .long hh, .ref q1, .ref q2, .ref q3, .ref q4, .ref q5, .ref q6, .ref q7, .ref q8, .int (nI (n + 1)), .ref q9, .ref q10, .ref q11, .ref q12, .ref q13, .ref q14, .ref q15, .ref q16, .ref q17, .ref q18, .ref q19, .ref q20])), (q10, .inl ((ct 0), 40, .inl (upd b0 n wy))), (q11, .inl ((ct 0), 40, .inl (upd b1 n nb))), (q12, .inl ((ct 0), 40, .inl b2)), (q13, .inl ((ct 0), 40, .inl b3)), (q14, .inl ((ct 1), 40, .inr (.inl (vp_updL b4 n (lN (sc_n se)))))), (q20, .inl ((ct 1), 40, .inr (.inl b10)))] H := hP
  have hD : va_D A [(hm, .inr (4, [.int th, .long sd, .int nw, .long hh, .ref q1, .ref q2, .ref q3, .ref q4, .ref q5, .ref q6, .ref q7, .ref q8, .int (nI (n + 1)), .ref q9, .ref q10, .ref q11, .ref q12, .ref q13, .ref q14, .ref q15, .ref q16, .ref q17, .ref q18, .ref q19, .ref q20])), (q10, .inl ((ct 0), 40, .inl (upd b0 n wy))), (q11, .inl ((ct 0), 40, .inl (upd b1 n nb))), (q12, .inl ((ct 0), 40, .inl b2)), (q13, .inl ((ct 0), 40, .inl b3)), (q14, .inl ((ct 1), 40, .inr (.inl (vp_updL b4 n (lN (sc_n se)))))), (q20, .inl ((ct 1), 40, .inr (.inl b10)))] := hD
  refine lv_aload_n hx hb d_M_open_43 rfl (lv_at hl 1 rfl) ?_
  refine va_get (D := G) (ci := 4) (v := .ref q12) (C := cr_M) (T := cf_M) (N := 25) hx hb hw uw_M hown hK.1 hP 0 rfl rfl 16 (by decide) (hw _ ww_656) (fun _ h9 => h9) rfl d_M_open_44 ?_
  refine lv_iload hx hb d_M_open_47 (lv_at hl 0 rfl) ?_
  refine lv_iconst (v := 0) hx hb d_M_open_49 (by decide) ?_
  refine ra_is hx hb hK.1 hP hD hS 3 0 rfl rfl (k := n) (by omega) (by decide) d_M_open_50 (fun H locs hP hD hS => ?_)
  have hP : va_P G classes [(hm, .inr (4, [.int th, .long sd, .int nw, .long hh, .ref q1, .ref q2, .ref q3, .ref q4, .ref q5, .ref q6, .ref q7, .ref q8, .int (nI (n + 1)), .ref q9, .ref q10, .ref q11, .ref q12, .ref q13, .ref q14, .ref q15, .ref q16, .ref q17, .ref q18, .ref q19, .ref q20])), (q10, .inl ((ct 0), 40, .inl (upd b0 n wy))), (q11, .inl ((ct 0), 40, .inl (upd b1 n nb))), (q12, .inl ((ct 0), 40, .inl (upd b2 n 0))), (q13, .inl ((ct 0), 40, .inl b3)), (q14, .inl ((ct 1), 40, .inr (.inl (vp_updL b4 n (lN (sc_n se)))))), (q20, .inl ((ct 1), 40, .inr (.inl b10)))] H := hP
  have hD : va_D A [(hm, .inr (4, [.int th, .long sd, .int nw, .long hh, .ref q1, .ref q2, .ref q3, .ref q4, .ref q5, .ref q6, .ref q7, .ref q8, .int (nI (n + 1)), .ref q9, .ref q10, .ref q11, .ref q12, .ref q13, .ref q14, .ref q15, .ref q16, .ref q17, .ref q18, .ref q19, .ref q20])), (q10, .inl ((ct 0), 40, .inl (upd b0 n wy))), (q11, .inl ((ct 0), 40, .inl (upd b1 n nb))), (q12, .inl ((ct 0), 40, .inl (upd b2 n 0))), (q13, .inl ((ct 0), 40, .inl b3)), (q14, .inl ((ct 1), 40, .inr (.inl (vp_updL b4 n (lN (sc_n se)))))), (q20, .inl ((ct 1), 40, .inr (.inl b10)))] := hD
  refine lv_aload_n hx hb d_M_open_51 rfl (lv_at hl 1 rfl) ?_
  refine va_get (D := G) (ci := 4) (v := .ref q13) (C := cr_M) (T := cf_M) (N := 25) hx hb hw uw_M hown hK.1 hP 0 rfl rfl 17 (by decide) (hw _ ww_657) (fun _ h9 => h9) rfl d_M_open_52 ?_
  refine lv_iload hx hb d_M_open_55 (lv_at hl 0 rfl) ?_
  refine lv_aload_n hx hb d_M_open_57 rfl (lv_at hl 1 rfl) ?_
  refine va_get (D := G) (ci := 4) (v := .int nw) (C := cr_M) (T := cf_M) (N := 25) hx hb hw uw_M hown hK.1 hP 0 rfl rfl 2 (by decide) (hw _ ww_642) (fun _ h9 => h9) rfl d_M_open_58 ?_
  refine ra_is hx hb hK.1 hP hD hS 4 0 rfl rfl (k := n) (by omega) (by decide) d_M_open_61 (fun H locs hP hD hS => ?_)
  have hP : va_P G classes [(hm, .inr (4, [.int th, .long sd, .int nw, .long hh, .ref q1, .ref q2, .ref q3, .ref q4, .ref q5, .ref q6, .ref q7, .ref q8, .int (nI (n + 1)), .ref q9, .ref q10, .ref q11, .ref q12, .ref q13, .ref q14, .ref q15, .ref q16, .ref q17, .ref q18, .ref q19, .ref q20])), (q10, .inl ((ct 0), 40, .inl (upd b0 n wy))), (q11, .inl ((ct 0), 40, .inl (upd b1 n nb))), (q12, .inl ((ct 0), 40, .inl (upd b2 n 0))), (q13, .inl ((ct 0), 40, .inl (upd b3 n nw))), (q14, .inl ((ct 1), 40, .inr (.inl (vp_updL b4 n (lN (sc_n se)))))), (q20, .inl ((ct 1), 40, .inr (.inl b10)))] H := hP
  have hD : va_D A [(hm, .inr (4, [.int th, .long sd, .int nw, .long hh, .ref q1, .ref q2, .ref q3, .ref q4, .ref q5, .ref q6, .ref q7, .ref q8, .int (nI (n + 1)), .ref q9, .ref q10, .ref q11, .ref q12, .ref q13, .ref q14, .ref q15, .ref q16, .ref q17, .ref q18, .ref q19, .ref q20])), (q10, .inl ((ct 0), 40, .inl (upd b0 n wy))), (q11, .inl ((ct 0), 40, .inl (upd b1 n nb))), (q12, .inl ((ct 0), 40, .inl (upd b2 n 0))), (q13, .inl ((ct 0), 40, .inl (upd b3 n nw))), (q14, .inl ((ct 1), 40, .inr (.inl (vp_updL b4 n (lN (sc_n se)))))), (q20, .inl ((ct 1), 40, .inr (.inl b10)))] := hD
  refine lv_aload_n hx hb d_M_open_62 rfl (lv_at hl 1 rfl) ?_
  refine va_get (D := G) (ci := 4) (v := .ref q20) (C := cr_M) (T := cf_M) (N := 25) hx hb hw uw_M hown hK.1 hP 0 rfl rfl 24 (by decide) (hw _ ww_664) (fun _ h9 => h9) rfl d_M_open_63 ?_
  refine lv_iload hx hb d_M_open_66 (lv_at hl 0 rfl) ?_
  refine lv_lconst (v := 0) hx hb d_M_open_68 (by decide) ?_
  refine ra_ls hx hb hK.1 hP hD hS 6 1 rfl rfl (k := n) (by omega) (by decide) d_M_open_69 (fun H locs hP hD hS => ?_)
  have hP : va_P G classes [(hm, .inr (4, [.int th, .long sd, .int nw, .long hh, .ref q1, .ref q2, .ref q3, .ref q4, .ref q5, .ref q6, .ref q7, .ref q8, .int (nI (n + 1)), .ref q9, .ref q10, .ref q11, .ref q12, .ref q13, .ref q14, .ref q15, .ref q16, .ref q17, .ref q18, .ref q19, .ref q20])), (q10, .inl ((ct 0), 40, .inl (upd b0 n wy))), (q11, .inl ((ct 0), 40, .inl (upd b1 n nb))), (q12, .inl ((ct 0), 40, .inl (upd b2 n 0))), (q13, .inl ((ct 0), 40, .inl (upd b3 n nw))), (q14, .inl ((ct 1), 40, .inr (.inl (vp_updL b4 n (lN (sc_n se)))))), (q20, .inl ((ct 1), 40, .inr (.inl (vp_updL b10 n 0))))] H := hP
  have hD : va_D A [(hm, .inr (4, [.int th, .long sd, .int nw, .long hh, .ref q1, .ref q2, .ref q3, .ref q4, .ref q5, .ref q6, .ref q7, .ref q8, .int (nI (n + 1)), .ref q9, .ref q10, .ref q11, .ref q12, .ref q13, .ref q14, .ref q15, .ref q16, .ref q17, .ref q18, .ref q19, .ref q20])), (q10, .inl ((ct 0), 40, .inl (upd b0 n wy))), (q11, .inl ((ct 0), 40, .inl (upd b1 n nb))), (q12, .inl ((ct 0), 40, .inl (upd b2 n 0))), (q13, .inl ((ct 0), 40, .inl (upd b3 n nw))), (q14, .inl ((ct 1), 40, .inr (.inl (vp_updL b4 n (lN (sc_n se)))))), (q20, .inl ((ct 1), 40, .inr (.inl (vp_updL b10 n 0))))] := hD
  refine lv_iload hx hb d_M_open_70 (lv_at hl 0 rfl) ?_
  exact W.iret (v := nI n) hx hb hr (fun t ht hW => ⟨⟨(), ⟨rfl, trivial⟩, by rw [ht]; exact hP, hD⟩, hS.F ht⟩) hS.2.2 d_M_open_72
