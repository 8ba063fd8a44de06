theorem ww_12 : (Jvm.Cond.initialized "PakeDesk$Client") ∈ gt_tbl := gt_m (List.mem_append_right _ (List.mem_append_left _ (List.mem_of_getElem? (i := 12) (by decide +kernel)))) (by decide)
theorem ww_33 : (Jvm.Cond.fieldLink "PakeDesk$Session" (62 : Nat) "PakeDesk$User" "number" "I") ∈ gt_tbl := gt_m (List.mem_append_right _ (List.mem_append_left _ (List.mem_of_getElem? (i := 33) (by decide +kernel)))) (by decide)
theorem ww_285 : (Jvm.Cond.methodLink "PakeDesk$Session" (3 : Nat) ({ cls := "java/lang/Object", name := "<init>", desc := "()V" } : Jvm.MethodName)) ∈ gt_tbl := gt_m (List.mem_append_right _ (List.mem_append_right _ (List.mem_append_left _ (List.mem_of_getElem? (i := 45) (by decide +kernel))))) (by decide)
theorem ww_286 : (Jvm.Cond.methodLink "PakeDesk$Session" (19 : Nat) ({ cls := "PakeDesk$Numbers", name := "scalar", desc := "(J)J" } : Jvm.MethodName)) ∈ gt_tbl := gt_m (List.mem_append_right _ (List.mem_append_right _ (List.mem_append_left _ (List.mem_of_getElem? (i := 46) (by decide +kernel))))) (by decide)
theorem ww_295 : (Jvm.Cond.fieldLink "PakeDesk$Client" (21 : Nat) "PakeDesk$Client" "word" "J") ∈ gt_tbl := gt_m (List.mem_append_right _ (List.mem_append_right _ (List.mem_append_left _ (List.mem_of_getElem? (i := 55) (by decide +kernel))))) (by decide)
theorem ww_296 : (Jvm.Cond.fieldLink "PakeDesk$Session" (9 : Nat) "PakeDesk$Session" "user" "LPakeDesk$User;") ∈ gt_tbl := gt_m (List.mem_append_right _ (List.mem_append_right _ (List.mem_append_left _ (List.mem_of_getElem? (i := 56) (by decide +kernel))))) (by decide)
theorem ww_301 : (Jvm.Cond.fieldLink "PakeDesk$Session" (15 : Nat) "PakeDesk$Session" "way" "I") ∈ gt_tbl := gt_m (List.mem_append_right _ (List.mem_append_right _ (List.mem_append_left _ (List.mem_of_getElem? (i := 61) (by decide +kernel))))) (by decide)
theorem ww_306 : (Jvm.Cond.fieldLink "PakeDesk$Session" (25 : Nat) "PakeDesk$Session" "secret" "J") ∈ gt_tbl := gt_m (List.mem_append_right _ (List.mem_append_right _ (List.mem_append_left _ (List.mem_of_getElem? (i := 66) (by decide +kernel))))) (by decide)
theorem ww_311 : (Jvm.Cond.fieldLink "PakeDesk$Session" (29 : Nat) "PakeDesk$Session" "began" "I") ∈ gt_tbl := gt_m (List.mem_append_right _ (List.mem_append_right _ (List.mem_append_left _ (List.mem_of_getElem? (i := 71) (by decide +kernel))))) (by decide)
theorem ww_312 : (Jvm.Cond.fieldLink "PakeDesk$Session" (32 : Nat) "PakeDesk$Session" "state" "I") ∈ gt_tbl := gt_m (List.mem_append_right _ (List.mem_append_right _ (List.mem_append_left _ (List.mem_of_getElem? (i := 72) (by decide +kernel))))) (by decide)
theorem ww_318 : (Jvm.Cond.fieldLink "PakeDesk$Session" (67 : Nat) "PakeDesk$Session" "x" "J") ∈ gt_tbl := gt_m (List.mem_append_right _ (List.mem_append_right _ (List.mem_append_left _ (List.mem_of_getElem? (i := 78) (by decide +kernel))))) (by decide)
theorem ww_323 : (Jvm.Cond.fieldLink "PakeDesk$Session" (70 : Nat) "PakeDesk$Session" "y" "J") ∈ gt_tbl := gt_m (List.mem_append_right _ (List.mem_append_right _ (List.mem_append_left _ (List.mem_of_getElem? (i := 83) (by decide +kernel))))) (by decide)
theorem ww_328 : (Jvm.Cond.fieldLink "PakeDesk$Session" (95 : Nat) "PakeDesk$Session" "key" "J") ∈ gt_tbl := gt_m (List.mem_append_right _ (List.mem_append_right _ (List.mem_append_left _ (List.mem_of_getElem? (i := 88) (by decide +kernel))))) (by decide)
theorem ww_334 : (Jvm.Cond.fieldLink "PakeDesk$Session" (101 : Nat) "PakeDesk$Session" "confirmationOfClient" "J") ∈ gt_tbl := gt_m (List.mem_append_right _ (List.mem_append_right _ (List.mem_append_left _ (List.mem_of_getElem? (i := 94) (by decide +kernel))))) (by decide)
theorem ww_335 : (Jvm.Cond.fieldLink "PakeDesk$Client" (106 : Nat) "PakeDesk$Client" "confirmationOfServer" "J") ∈ gt_tbl := gt_m (List.mem_append_right _ (List.mem_append_right _ (List.mem_append_left _ (List.mem_of_getElem? (i := 95) (by decide +kernel))))) (by decide)
theorem ww_336 : (Jvm.Cond.sameField "PakeDesk$Client" "PakeDesk$Session" "confirmationOfServer" "J") ∈ gt_tbl := gt_m (List.mem_append_right _ (List.mem_append_right _ (List.mem_append_left _ (List.mem_of_getElem? (i := 96) (by decide +kernel))))) (by decide)
theorem ww_339 : (Jvm.Cond.fieldLink "PakeDesk$Session" (106 : Nat) "PakeDesk$Session" "confirmationOfServer" "J") ∈ gt_tbl := gt_m (List.mem_append_right _ (List.mem_append_right _ (List.mem_append_left _ (List.mem_of_getElem? (i := 99) (by decide +kernel))))) (by decide)
theorem ww_456 : (Jvm.Cond.methodLink "PakeDesk$Session" (51 : Nat) ({ cls := "PakeDesk$Numbers", name := "isBetweenZeroAndP", desc := "(J)Z" } : Jvm.MethodName)) ∈ gt_tbl := gt_m (List.mem_append_right _ (List.mem_append_right _ (List.mem_append_left _ (List.mem_of_getElem? (i := 216) (by decide +kernel))))) (by decide)
theorem ww_460 : (Jvm.Cond.methodLink "PakeDesk$Session" (54 : Nat) ({ cls := "PakeDesk$Numbers", name := "isElement", desc := "(J)Z" } : Jvm.MethodName)) ∈ gt_tbl := gt_m (List.mem_append_right _ (List.mem_append_right _ (List.mem_append_left _ (List.mem_of_getElem? (i := 220) (by decide +kernel))))) (by decide)
theorem ww_461 : (Jvm.Cond.static ({ cls := "PakeDesk$Numbers", name := "isElement", desc := "(J)Z" } : Jvm.MethodName)) ∈ gt_tbl := gt_m (List.mem_append_right _ (List.mem_append_right _ (List.mem_append_left _ (List.mem_of_getElem? (i := 221) (by decide +kernel))))) (by decide)
theorem ww_462 : (Jvm.Cond.code ({ cls := "PakeDesk$Numbers", name := "isElement", desc := "(J)Z" } : Jvm.MethodName) prog_4_method_6_code (2 : Nat) (Option.some Jvm.ClassFile.FieldType.boolean)) ∈ gt_tbl := gt_m (List.mem_append_right _ (List.mem_append_right _ (List.mem_append_left _ (List.mem_of_getElem? (i := 222) (by decide +kernel))))) (by decide)
theorem ww_466 : (Jvm.Cond.methodLink "PakeDesk$Session" (57 : Nat) ({ cls := "PakeDesk$Session", name := "unmasked", desc := "(J)J" } : Jvm.MethodName)) ∈ gt_tbl := gt_m (List.mem_append_right _ (List.mem_append_right _ (List.mem_append_left _ (List.mem_of_getElem? (i := 226) (by decide +kernel))))) (by decide)
theorem ww_468 : (Jvm.Cond.sameMethod "PakeDesk$Session" "PakeDesk$Session" "unmasked" "(J)J") ∈ gt_tbl := gt_m (List.mem_append_right _ (List.mem_append_right _ (List.mem_append_left _ (List.mem_of_getElem? (i := 228) (by decide +kernel))))) (by decide)
theorem ww_469 : (Jvm.Cond.selects "PakeDesk$Client" ({ cls := "PakeDesk$Session", name := "unmasked", desc := "(J)J" } : Jvm.MethodName) ({ cls := "PakeDesk$Client", name := "unmasked", desc := "(J)J" } : Jvm.MethodName)) ∈ gt_tbl := gt_m (List.mem_append_right _ (List.mem_append_right _ (List.mem_append_left _ (List.mem_of_getElem? (i := 229) (by decide +kernel))))) (by decide)
theorem ww_470 : (Jvm.Cond.instanceMethod ({ cls := "PakeDesk$Client", name := "unmasked", desc := "(J)J" } : Jvm.MethodName)) ∈ gt_tbl := gt_m (List.mem_append_right _ (List.mem_append_right _ (List.mem_append_left _ (List.mem_of_getElem? (i := 230) (by decide +kernel))))) (by decide)
theorem ww_471 : (Jvm.Cond.code ({ cls := "PakeDesk$Client", name := "unmasked", desc := "(J)J" } : Jvm.MethodName) prog_2_method_2_code (3 : Nat) (Option.some Jvm.ClassFile.FieldType.long)) ∈ gt_tbl := gt_m (List.mem_append_right _ (List.mem_append_right _ (List.mem_append_left _ (List.mem_of_getElem? (i := 231) (by decide +kernel))))) (by decide)
theorem ww_472 : (Jvm.Cond.constantLong "PakeDesk$Client" (46 : Nat) (25 : Int64)) ∈ gt_tbl := gt_m (List.mem_append_right _ (List.mem_append_right _ (List.mem_append_left _ (List.mem_of_getElem? (i := 232) (by decide +kernel))))) (by decide)
theorem ww_473 : (Jvm.Cond.methodLink "PakeDesk$Client" (48 : Nat) ({ cls := "PakeDesk$Numbers", name := "overPower", desc := "(JJJ)J" } : Jvm.MethodName)) ∈ gt_tbl := gt_m (List.mem_append_right _ (List.mem_append_right _ (List.mem_append_left _ (List.mem_of_getElem? (i := 233) (by decide +kernel))))) (by decide)
theorem ww_474 : (Jvm.Cond.static ({ cls := "PakeDesk$Numbers", name := "overPower", desc := "(JJJ)J" } : Jvm.MethodName)) ∈ gt_tbl := gt_m (List.mem_append_right _ (List.mem_append_right _ (List.mem_append_left _ (List.mem_of_getElem? (i := 234) (by decide +kernel))))) (by decide)
theorem ww_475 : (Jvm.Cond.code ({ cls := "PakeDesk$Numbers", name := "overPower", desc := "(JJJ)J" } : Jvm.MethodName) prog_4_method_4_code (6 : Nat) (Option.some Jvm.ClassFile.FieldType.long)) ∈ gt_tbl := gt_m (List.mem_append_right _ (List.mem_append_right _ (List.mem_append_left _ (List.mem_of_getElem? (i := 235) (by decide +kernel))))) (by decide)
theorem ww_495 : (Jvm.Cond.constantLong "PakeDesk$Session" (60 : Nat) (6 : Int64)) ∈ gt_tbl := gt_m (List.mem_append_right _ (List.mem_append_right _ (List.mem_append_right _ (List.mem_append_left _ (List.mem_of_getElem? (i := 15) (by decide +kernel)))))) (by decide)
theorem ww_496 : (Jvm.Cond.methodLink "PakeDesk$Session" (73 : Nat) ({ cls := "PakeDesk$Numbers", name := "power", desc := "(JJ)J" } : Jvm.MethodName)) ∈ gt_tbl := gt_m (List.mem_append_right _ (List.mem_append_right _ (List.mem_append_right _ (List.mem_append_left _ (List.mem_of_getElem? (i := 16) (by decide +kernel)))))) (by decide)
theorem ww_497 : (Jvm.Cond.methodLink "PakeDesk$Session" (77 : Nat) ({ cls := "PakeDesk$Digest", name := "of", desc := "(JJJJJJ)J" } : Jvm.MethodName)) ∈ gt_tbl := gt_m (List.mem_append_right _ (List.mem_append_right _ (List.mem_append_right _ (List.mem_append_left _ (List.mem_of_getElem? (i := 17) (by decide +kernel)))))) (by decide)
theorem ww_498 : (Jvm.Cond.static ({ cls := "PakeDesk$Digest", name := "of", desc := "(JJJJJJ)J" } : Jvm.MethodName)) ∈ gt_tbl := gt_m (List.mem_append_right _ (List.mem_append_right _ (List.mem_append_right _ (List.mem_append_left _ (List.mem_of_getElem? (i := 18) (by decide +kernel)))))) (by decide)
theorem ww_499 : (Jvm.Cond.code ({ cls := "PakeDesk$Digest", name := "of", desc := "(JJJJJJ)J" } : Jvm.MethodName) prog_3_method_5_code (14 : Nat) (Option.some Jvm.ClassFile.FieldType.long)) ∈ gt_tbl := gt_m (List.mem_append_right _ (List.mem_append_right _ (List.mem_append_right _ (List.mem_append_left _ (List.mem_of_getElem? (i := 19) (by decide +kernel)))))) (by decide)
theorem ww_508 : (Jvm.Cond.constantLong "PakeDesk$Session" (88 : Nat) (7 : Int64)) ∈ gt_tbl := gt_m (List.mem_append_right _ (List.mem_append_right _ (List.mem_append_right _ (List.mem_append_left _ (List.mem_of_getElem? (i := 28) (by decide +kernel)))))) (by decide)
theorem ww_509 : (Jvm.Cond.methodLink "PakeDesk$Session" (90 : Nat) ({ cls := "PakeDesk$Digest", name := "of", desc := "(JJJ)J" } : Jvm.MethodName)) ∈ gt_tbl := gt_m (List.mem_append_right _ (List.mem_append_right _ (List.mem_append_right _ (List.mem_append_left _ (List.mem_of_getElem? (i := 29) (by decide +kernel)))))) (by decide)
theorem ww_526 : (Jvm.Cond.constantLong "PakeDesk$Session" (83 : Nat) (8 : Int64)) ∈ gt_tbl := gt_m (List.mem_append_right _ (List.mem_append_right _ (List.mem_append_right _ (List.mem_append_left _ (List.mem_of_getElem? (i := 46) (by decide +kernel)))))) (by decide)
theorem ww_527 : (Jvm.Cond.methodLink "PakeDesk$Session" (85 : Nat) ({ cls := "PakeDesk$Digest", name := "of", desc := "(JJJJJ)J" } : Jvm.MethodName)) ∈ gt_tbl := gt_m (List.mem_append_right _ (List.mem_append_right _ (List.mem_append_right _ (List.mem_append_left _ (List.mem_of_getElem? (i := 47) (by decide +kernel)))))) (by decide)
theorem ww_528 : (Jvm.Cond.static ({ cls := "PakeDesk$Digest", name := "of", desc := "(JJJJJ)J" } : Jvm.MethodName)) ∈ gt_tbl := gt_m (List.mem_append_right _ (List.mem_append_right _ (List.mem_append_right _ (List.mem_append_left _ (List.mem_of_getElem? (i := 48) (by decide +kernel)))))) (by decide)
theorem ww_529 : (Jvm.Cond.code ({ cls := "PakeDesk$Digest", name := "of", desc := "(JJJJJ)J" } : Jvm.MethodName) prog_3_method_4_code (10 : Nat) (Option.some Jvm.ClassFile.FieldType.long)) ∈ gt_tbl := gt_m (List.mem_append_right _ (List.mem_append_right _ (List.mem_append_right _ (List.mem_append_left _ (List.mem_of_getElem? (i := 49) (by decide +kernel)))))) (by decide)
theorem ww_536 : (Jvm.Cond.constantLong "PakeDesk$Session" (93 : Nat) (9 : Int64)) ∈ gt_tbl := gt_m (List.mem_append_right _ (List.mem_append_right _ (List.mem_append_right _ (List.mem_append_left _ (List.mem_of_getElem? (i := 56) (by decide +kernel)))))) (by decide)
theorem ww_537 : (Jvm.Cond.methodLink "PakeDesk$Session" (98 : Nat) ({ cls := "PakeDesk$Digest", name := "of", desc := "(JJJJ)J" } : Jvm.MethodName)) ∈ gt_tbl := gt_m (List.mem_append_right _ (List.mem_append_right _ (List.mem_append_right _ (List.mem_append_left _ (List.mem_of_getElem? (i := 57) (by decide +kernel)))))) (by decide)
theorem ww_538 : (Jvm.Cond.constantLong "PakeDesk$Session" (104 : Nat) (10 : Int64)) ∈ gt_tbl := gt_m (List.mem_append_right _ (List.mem_append_right _ (List.mem_append_right _ (List.mem_append_left _ (List.mem_of_getElem? (i := 58) (by decide +kernel)))))) (by decide)
theorem wf_467 : (Jvm.Cond.declares ({ cls := "PakeDesk$Session", name := "unmasked", desc := "(J)J" } : Jvm.MethodName)) ∈ nw_tbl := List.mem_filter.mpr ⟨List.mem_append_right _ (List.mem_append_right _ (List.mem_append_left _ (List.mem_of_getElem? (i := 227) (by decide +kernel)))), by decide⟩
theorem cy_G_of6 : tb_C my_G_of6 mb_G_of6 14 (some .long) 6 := ⟨ww_499, ww_4, by decide, by decide, by decide +kernel⟩
theorem cy_G_of5 : tb_C my_G_of5 mb_G_of5 10 (some .long) 5 := ⟨ww_529, ww_4, by decide, by decide, by decide +kernel⟩
theorem cy_N_overPower : tb_C my_N_overPower mb_N_overPower 6 (some .long) 3 := ⟨ww_475, ww_5, by decide, by decide, by decide +kernel⟩
theorem cy_N_isElement : tb_C my_N_isElement mb_N_isElement 2 (some .boolean) 1 := ⟨ww_462, ww_5, by decide, by decide, by decide +kernel⟩
theorem cy_C_unmasked : tb_C my_C_unmasked mb_C_unmasked 3 (some .long) 1 := ⟨ww_471, ww_12, by decide, by decide, by decide +kernel⟩
theorem d_S_init_0 : decode mb_S_init 0 = .ok (.aload_n 0, 1) := by decide +kernel
theorem d_S_init_1 : decode mb_S_init 1 = .ok (.invokespecial 3, 3) := by decide +kernel
theorem d_S_init_4 : decode mb_S_init 4 = .ok (.aload_n 0, 1) := by decide +kernel
theorem d_S_init_5 : decode mb_S_init 5 = .ok (.aload_n 1, 1) := by decide +kernel
theorem d_S_init_6 : decode mb_S_init 6 = .ok (.putfield 9, 3) := by decide +kernel
theorem d_S_init_9 : decode mb_S_init 9 = .ok (.aload_n 0, 1) := by decide +kernel
theorem d_S_init_10 : decode mb_S_init 10 = .ok (.iload_n 2, 1) := by decide +kernel
theorem d_S_init_11 : decode mb_S_init 11 = .ok (.putfield 15, 3) := by decide +kernel
theorem d_S_init_14 : decode mb_S_init 14 = .ok (.aload_n 0, 1) := by decide +kernel
theorem d_S_init_15 : decode mb_S_init 15 = .ok (.lload_n 3, 1) := by decide +kernel
theorem d_S_init_16 : decode mb_S_init 16 = .ok (.invokestatic 19, 3) := by decide +kernel
theorem d_S_init_19 : decode mb_S_init 19 = .ok (.putfield 25, 3) := by decide +kernel
theorem d_S_init_22 : decode mb_S_init 22 = .ok (.aload_n 0, 1) := by decide +kernel
theorem d_S_init_23 : decode mb_S_init 23 = .ok (.iload 5, 2) := by decide +kernel
theorem d_S_init_25 : decode mb_S_init 25 = .ok (.putfield 29, 3) := by decide +kernel
theorem d_S_init_28 : decode mb_S_init 28 = .ok (.aload_n 0, 1) := by decide +kernel
theorem d_S_init_29 : decode mb_S_init 29 = .ok (.iconst 0, 1) := by decide +kernel
theorem d_S_init_30 : decode mb_S_init 30 = .ok (.putfield 32, 3) := by decide +kernel
theorem d_S_init_33 : decode mb_S_init 33 = .ok (.return_, 1) := by decide +kernel
theorem d_S_stateAt_0 : decode mb_S_stateAt 0 = .ok (.aload_n 0, 1) := by decide +kernel
theorem d_S_stateAt_1 : decode mb_S_stateAt 1 = .ok (.getfield 32, 3) := by decide +kernel
theorem d_S_stateAt_4 : decode mb_S_stateAt 4 = .ok (.ifCond .eq 11, 3) := by decide +kernel
theorem d_S_stateAt_7 : decode mb_S_stateAt 7 = .ok (.aload_n 0, 1) := by decide +kernel
theorem d_S_stateAt_8 : decode mb_S_stateAt 8 = .ok (.getfield 32, 3) := by decide +kernel
theorem d_S_stateAt_11 : decode mb_S_stateAt 11 = .ok (.iconst 1, 1) := by decide +kernel
theorem d_S_stateAt_12 : decode mb_S_stateAt 12 = .ok (.if_icmp .ne 7, 3) := by decide +kernel
theorem d_S_stateAt_15 : decode mb_S_stateAt 15 = .ok (.iconst 1, 1) := by decide +kernel
theorem d_S_stateAt_16 : decode mb_S_stateAt 16 = .ok (.goto 4, 3) := by decide +kernel
theorem d_S_stateAt_19 : decode mb_S_stateAt 19 = .ok (.iconst 0, 1) := by decide +kernel
theorem d_S_stateAt_20 : decode mb_S_stateAt 20 = .ok (.istore_n 2, 1) := by decide +kernel
theorem d_S_stateAt_21 : decode mb_S_stateAt 21 = .ok (.iload_n 2, 1) := by decide +kernel
theorem d_S_stateAt_22 : decode mb_S_stateAt 22 = .ok (.ifCond .eq 18, 3) := by decide +kernel
theorem d_S_stateAt_25 : decode mb_S_stateAt 25 = .ok (.iload_n 1, 1) := by decide +kernel
theorem d_S_stateAt_26 : decode mb_S_stateAt 26 = .ok (.aload_n 0, 1) := by decide +kernel
theorem d_S_stateAt_27 : decode mb_S_stateAt 27 = .ok (.getfield 29, 3) := by decide +kernel
theorem d_S_stateAt_30 : decode mb_S_stateAt 30 = .ok (.isub, 1) := by decide +kernel
theorem d_S_stateAt_31 : decode mb_S_stateAt 31 = .ok (.bipush 20, 2) := by decide +kernel
theorem d_S_stateAt_33 : decode mb_S_stateAt 33 = .ok (.if_icmp .lt 7, 3) := by decide +kernel
theorem d_S_stateAt_36 : decode mb_S_stateAt 36 = .ok (.iconst 4, 1) := by decide +kernel
theorem d_S_stateAt_37 : decode mb_S_stateAt 37 = .ok (.goto 7, 3) := by decide +kernel
theorem d_S_stateAt_40 : decode mb_S_stateAt 40 = .ok (.aload_n 0, 1) := by decide +kernel
theorem d_S_stateAt_41 : decode mb_S_stateAt 41 = .ok (.getfield 32, 3) := by decide +kernel
theorem d_S_stateAt_44 : decode mb_S_stateAt 44 = .ok (.ireturn, 1) := by decide +kernel
theorem d_S_takesFirst_0 : decode mb_S_takesFirst 0 = .ok (.aload_n 0, 1) := by decide +kernel
theorem d_S_takesFirst_1 : decode mb_S_takesFirst 1 = .ok (.lload_n 1, 1) := by decide +kernel
theorem d_S_takesFirst_2 : decode mb_S_takesFirst 2 = .ok (.invokevirtual 35, 3) := by decide +kernel
theorem d_S_takesFirst_5 : decode mb_S_takesFirst 5 = .ok (.istore_n 3, 1) := by decide +kernel
theorem d_S_takesFirst_6 : decode mb_S_takesFirst 6 = .ok (.iload_n 3, 1) := by decide +kernel
theorem d_S_takesFirst_7 : decode mb_S_takesFirst 7 = .ok (.ifCond .eq 8, 3) := by decide +kernel
theorem d_S_takesFirst_10 : decode mb_S_takesFirst 10 = .ok (.aload_n 0, 1) := by decide +kernel
theorem d_S_takesFirst_11 : decode mb_S_takesFirst 11 = .ok (.lload_n 1, 1) := by decide +kernel
theorem d_S_takesFirst_12 : decode mb_S_takesFirst 12 = .ok (.invokevirtual 39, 3) := by decide +kernel
theorem d_S_takesFirst_15 : decode mb_S_takesFirst 15 = .ok (.aload_n 0, 1) := by decide +kernel
theorem d_S_takesFirst_16 : decode mb_S_takesFirst 16 = .ok (.iload_n 3, 1) := by decide +kernel
theorem d_S_takesFirst_17 : decode mb_S_takesFirst 17 = .ok (.ifCond .eq 7, 3) := by decide +kernel
theorem d_S_takesFirst_20 : decode mb_S_takesFirst 20 = .ok (.iconst 1, 1) := by decide +kernel
theorem d_S_takesFirst_21 : decode mb_S_takesFirst 21 = .ok (.goto 4, 3) := by decide +kernel
theorem d_S_takesFirst_24 : decode mb_S_takesFirst 24 = .ok (.iconst 3, 1) := by decide +kernel
theorem d_S_takesFirst_25 : decode mb_S_takesFirst 25 = .ok (.putfield 32, 3) := by decide +kernel
theorem d_S_takesFirst_28 : decode mb_S_takesFirst 28 = .ok (.iload_n 3, 1) := by decide +kernel
theorem d_S_takesFirst_29 : decode mb_S_takesFirst 29 = .ok (.ireturn, 1) := by decide +kernel
theorem d_S_takesConfirmation_0 : decode mb_S_takesConfirmation 0 = .ok (.lload_n 1, 1) := by decide +kernel
theorem d_S_takesConfirmation_1 : decode mb_S_takesConfirmation 1 = .ok (.aload_n 0, 1) := by decide +kernel
theorem d_S_takesConfirmation_2 : decode mb_S_takesConfirmation 2 = .ok (.invokevirtual 43, 3) := by decide +kernel
theorem d_S_takesConfirmation_5 : decode mb_S_takesConfirmation 5 = .ok (.lcmp, 1) := by decide +kernel
theorem d_S_takesConfirmation_6 : decode mb_S_takesConfirmation 6 = .ok (.ifCond .ne 7, 3) := by decide +kernel
theorem d_S_takesConfirmation_9 : decode mb_S_takesConfirmation 9 = .ok (.iconst 1, 1) := by decide +kernel
theorem d_S_takesConfirmation_10 : decode mb_S_takesConfirmation 10 = .ok (.goto 4, 3) := by decide +kernel
theorem d_S_takesConfirmation_13 : decode mb_S_takesConfirmation 13 = .ok (.iconst 0, 1) := by decide +kernel
theorem d_S_takesConfirmation_14 : decode mb_S_takesConfirmation 14 = .ok (.istore 4, 2) := by decide +kernel
theorem d_S_takesConfirmation_16 : decode mb_S_takesConfirmation 16 = .ok (.aload_n 0, 1) := by decide +kernel
theorem d_S_takesConfirmation_17 : decode mb_S_takesConfirmation 17 = .ok (.iload 4, 2) := by decide +kernel
theorem d_S_takesConfirmation_19 : decode mb_S_takesConfirmation 19 = .ok (.ifCond .eq 7, 3) := by decide +kernel
theorem d_S_takesConfirmation_22 : decode mb_S_takesConfirmation 22 = .ok (.iconst 2, 1) := by decide +kernel
theorem d_S_takesConfirmation_23 : decode mb_S_takesConfirmation 23 = .ok (.goto 4, 3) := by decide +kernel
theorem d_S_takesConfirmation_26 : decode mb_S_takesConfirmation 26 = .ok (.iconst 3, 1) := by decide +kernel
theorem d_S_takesConfirmation_27 : decode mb_S_takesConfirmation 27 = .ok (.putfield 32, 3) := by decide +kernel
theorem d_S_takesConfirmation_30 : decode mb_S_takesConfirmation 30 = .ok (.aload_n 0, 1) := by decide +kernel
theorem d_S_takesConfirmation_31 : decode mb_S_takesConfirmation 31 = .ok (.iload 4, 2) := by decide +kernel
theorem d_S_takesConfirmation_33 : decode mb_S_takesConfirmation 33 = .ok (.iload_n 3, 1) := by decide +kernel
theorem d_S_takesConfirmation_34 : decode mb_S_takesConfirmation 34 = .ok (.invokevirtual 47, 3) := by decide +kernel
theorem d_S_takesConfirmation_37 : decode mb_S_takesConfirmation 37 = .ok (.iload 4, 2) := by decide +kernel
theorem d_S_takesConfirmation_39 : decode mb_S_takesConfirmation 39 = .ok (.ireturn, 1) := by decide +kernel
theorem d_S_isRightFirst_0 : decode mb_S_isRightFirst 0 = .ok (.aload_n 0, 1) := by decide +kernel
theorem d_S_isRightFirst_1 : decode mb_S_isRightFirst 1 = .ok (.getfield 15, 3) := by decide +kernel
theorem d_S_isRightFirst_4 : decode mb_S_isRightFirst 4 = .ok (.iconst 1, 1) := by decide +kernel
theorem d_S_isRightFirst_5 : decode mb_S_isRightFirst 5 = .ok (.if_icmp .ne 8, 3) := by decide +kernel
theorem d_S_isRightFirst_8 : decode mb_S_isRightFirst 8 = .ok (.lload_n 1, 1) := by decide +kernel
theorem d_S_isRightFirst_9 : decode mb_S_isRightFirst 9 = .ok (.invokestatic 51, 3) := by decide +kernel
theorem d_S_isRightFirst_12 : decode mb_S_isRightFirst 12 = .ok (.ireturn, 1) := by decide +kernel
theorem d_S_isRightFirst_13 : decode mb_S_isRightFirst 13 = .ok (.lload_n 1, 1) := by decide +kernel
theorem d_S_isRightFirst_14 : decode mb_S_isRightFirst 14 = .ok (.invokestatic 54, 3) := by decide +kernel
theorem d_S_isRightFirst_17 : decode mb_S_isRightFirst 17 = .ok (.ifCond .eq 17, 3) := by decide +kernel
theorem d_S_isRightFirst_20 : decode mb_S_isRightFirst 20 = .ok (.aload_n 0, 1) := by decide +kernel
theorem d_S_isRightFirst_21 : decode mb_S_isRightFirst 21 = .ok (.lload_n 1, 1) := by decide +kernel
theorem d_S_isRightFirst_22 : decode mb_S_isRightFirst 22 = .ok (.invokevirtual 57, 3) := by decide +kernel
theorem d_S_isRightFirst_25 : decode mb_S_isRightFirst 25 = .ok (.lconst 1, 1) := by decide +kernel
theorem d_S_isRightFirst_26 : decode mb_S_isRightFirst 26 = .ok (.lcmp, 1) := by decide +kernel
theorem d_S_isRightFirst_27 : decode mb_S_isRightFirst 27 = .ok (.ifCond .eq 7, 3) := by decide +kernel
theorem d_S_isRightFirst_30 : decode mb_S_isRightFirst 30 = .ok (.iconst 1, 1) := by decide +kernel
theorem d_S_isRightFirst_31 : decode mb_S_isRightFirst 31 = .ok (.goto 4, 3) := by decide +kernel
theorem d_S_isRightFirst_34 : decode mb_S_isRightFirst 34 = .ok (.iconst 0, 1) := by decide +kernel
theorem d_S_isRightFirst_35 : decode mb_S_isRightFirst 35 = .ok (.ireturn, 1) := by decide +kernel
theorem d_S_keyByWord_0 : decode mb_S_keyByWord 0 = .ok (.ldc2_w 60, 3) := by decide +kernel
theorem d_S_keyByWord_3 : decode mb_S_keyByWord 3 = .ok (.aload_n 0, 1) := by decide +kernel
theorem d_S_keyByWord_4 : decode mb_S_keyByWord 4 = .ok (.getfield 9, 3) := by decide +kernel
theorem d_S_keyByWord_7 : decode mb_S_keyByWord 7 = .ok (.getfield 62, 3) := by decide +kernel
theorem d_S_keyByWord_10 : decode mb_S_keyByWord 10 = .ok (.i2l, 1) := by decide +kernel
theorem d_S_keyByWord_11 : decode mb_S_keyByWord 11 = .ok (.aload_n 0, 1) := by decide +kernel
theorem d_S_keyByWord_12 : decode mb_S_keyByWord 12 = .ok (.getfield 67, 3) := by decide +kernel
theorem d_S_keyByWord_15 : decode mb_S_keyByWord 15 = .ok (.aload_n 0, 1) := by decide +kernel
theorem d_S_keyByWord_16 : decode mb_S_keyByWord 16 = .ok (.getfield 70, 3) := by decide +kernel
theorem d_S_keyByWord_19 : decode mb_S_keyByWord 19 = .ok (.lload_n 1, 1) := by decide +kernel
theorem d_S_keyByWord_20 : decode mb_S_keyByWord 20 = .ok (.aload_n 0, 1) := by decide +kernel
theorem d_S_keyByWord_21 : decode mb_S_keyByWord 21 = .ok (.getfield 25, 3) := by decide +kernel
theorem d_S_keyByWord_24 : decode mb_S_keyByWord 24 = .ok (.invokestatic 73, 3) := by decide +kernel
theorem d_S_keyByWord_27 : decode mb_S_keyByWord 27 = .ok (.lload_n 3, 1) := by decide +kernel
theorem d_S_keyByWord_28 : decode mb_S_keyByWord 28 = .ok (.invokestatic 77, 3) := by decide +kernel
theorem d_S_keyByWord_31 : decode mb_S_keyByWord 31 = .ok (.lreturn, 1) := by decide +kernel
theorem d_S_keyBySalt_0 : decode mb_S_keyBySalt 0 = .ok (.ldc2_w 83, 3) := by decide +kernel
theorem d_S_keyBySalt_3 : decode mb_S_keyBySalt 3 = .ok (.aload_n 0, 1) := by decide +kernel
theorem d_S_keyBySalt_4 : decode mb_S_keyBySalt 4 = .ok (.getfield 9, 3) := by decide +kernel
theorem d_S_keyBySalt_7 : decode mb_S_keyBySalt 7 = .ok (.getfield 62, 3) := by decide +kernel
theorem d_S_keyBySalt_10 : decode mb_S_keyBySalt 10 = .ok (.i2l, 1) := by decide +kernel
theorem d_S_keyBySalt_11 : decode mb_S_keyBySalt 11 = .ok (.aload_n 0, 1) := by decide +kernel
theorem d_S_keyBySalt_12 : decode mb_S_keyBySalt 12 = .ok (.getfield 67, 3) := by decide +kernel
theorem d_S_keyBySalt_15 : decode mb_S_keyBySalt 15 = .ok (.aload_n 0, 1) := by decide +kernel
theorem d_S_keyBySalt_16 : decode mb_S_keyBySalt 16 = .ok (.getfield 70, 3) := by decide +kernel
theorem d_S_keyBySalt_19 : decode mb_S_keyBySalt 19 = .ok (.lload_n 1, 1) := by decide +kernel
theorem d_S_keyBySalt_20 : decode mb_S_keyBySalt 20 = .ok (.invokestatic 85, 3) := by decide +kernel
theorem d_S_keyBySalt_23 : decode mb_S_keyBySalt 23 = .ok (.lreturn, 1) := by decide +kernel
theorem d_S_blend_0 : decode mb_S_blend 0 = .ok (.ldc2_w 88, 3) := by decide +kernel
theorem d_S_blend_3 : decode mb_S_blend 3 = .ok (.aload_n 0, 1) := by decide +kernel
theorem d_S_blend_4 : decode mb_S_blend 4 = .ok (.getfield 67, 3) := by decide +kernel
theorem d_S_blend_7 : decode mb_S_blend 7 = .ok (.aload_n 0, 1) := by decide +kernel
theorem d_S_blend_8 : decode mb_S_blend 8 = .ok (.getfield 70, 3) := by decide +kernel
theorem d_S_blend_11 : decode mb_S_blend 11 = .ok (.invokestatic 90, 3) := by decide +kernel
theorem d_S_blend_14 : decode mb_S_blend 14 = .ok (.invokestatic 19, 3) := by decide +kernel
theorem d_S_blend_17 : decode mb_S_blend 17 = .ok (.lreturn, 1) := by decide +kernel
theorem d_S_makeConfirmations_0 : decode mb_S_makeConfirmations 0 = .ok (.aload_n 0, 1) := by decide +kernel
theorem d_S_makeConfirmations_1 : decode mb_S_makeConfirmations 1 = .ok (.ldc2_w 93, 3) := by decide +kernel
theorem d_S_makeConfirmations_4 : decode mb_S_makeConfirmations 4 = .ok (.aload_n 0, 1) := by decide +kernel
theorem d_S_makeConfirmations_5 : decode mb_S_makeConfirmations 5 = .ok (.getfield 95, 3) := by decide +kernel
theorem d_S_makeConfirmations_8 : decode mb_S_makeConfirmations 8 = .ok (.aload_n 0, 1) := by decide +kernel
theorem d_S_makeConfirmations_9 : decode mb_S_makeConfirmations 9 = .ok (.getfield 67, 3) := by decide +kernel
theorem d_S_makeConfirmations_12 : decode mb_S_makeConfirmations 12 = .ok (.aload_n 0, 1) := by decide +kernel
theorem d_S_makeConfirmations_13 : decode mb_S_makeConfirmations 13 = .ok (.getfield 70, 3) := by decide +kernel
theorem d_S_makeConfirmations_16 : decode mb_S_makeConfirmations 16 = .ok (.invokestatic 98, 3) := by decide +kernel
theorem d_S_makeConfirmations_19 : decode mb_S_makeConfirmations 19 = .ok (.putfield 101, 3) := by decide +kernel
theorem d_S_makeConfirmations_22 : decode mb_S_makeConfirmations 22 = .ok (.aload_n 0, 1) := by decide +kernel
theorem d_S_makeConfirmations_23 : decode mb_S_makeConfirmations 23 = .ok (.ldc2_w 104, 3) := by decide +kernel
theorem d_S_makeConfirmations_26 : decode mb_S_makeConfirmations 26 = .ok (.aload_n 0, 1) := by decide +kernel
theorem d_S_makeConfirmations_27 : decode mb_S_makeConfirmations 27 = .ok (.getfield 95, 3) := by decide +kernel
theorem d_S_makeConfirmations_30 : decode mb_S_makeConfirmations 30 = .ok (.aload_n 0, 1) := by decide +kernel
theorem d_S_makeConfirmations_31 : decode mb_S_makeConfirmations 31 = .ok (.getfield 101, 3) := by decide +kernel
theorem d_S_makeConfirmations_34 : decode mb_S_makeConfirmations 34 = .ok (.invokestatic 90, 3) := by decide +kernel
theorem d_S_makeConfirmations_37 : decode mb_S_makeConfirmations 37 = .ok (.putfield 106, 3) := by decide +kernel
theorem d_S_makeConfirmations_40 : decode mb_S_makeConfirmations 40 = .ok (.return_, 1) := by decide +kernel
theorem d_C_init_0 : decode mb_C_init 0 = .ok (.aload_n 0, 1) := by decide +kernel
theorem d_C_init_1 : decode mb_C_init 1 = .ok (.aload_n 1, 1) := by decide +kernel
theorem d_C_init_2 : decode mb_C_init 2 = .ok (.iload_n 2, 1) := by decide +kernel
theorem d_C_init_3 : decode mb_C_init 3 = .ok (.lload 5, 2) := by decide +kernel
theorem d_C_init_5 : decode mb_C_init 5 = .ok (.iload 7, 2) := by decide +kernel
theorem d_C_init_7 : decode mb_C_init 7 = .ok (.invokespecial 3, 3) := by decide +kernel
theorem d_C_init_10 : decode mb_C_init 10 = .ok (.aload_n 0, 1) := by decide +kernel
theorem d_C_init_11 : decode mb_C_init 11 = .ok (.lload_n 3, 1) := by decide +kernel
theorem d_C_init_12 : decode mb_C_init 12 = .ok (.putfield 9, 3) := by decide +kernel
theorem d_C_init_15 : decode mb_C_init 15 = .ok (.aload_n 0, 1) := by decide +kernel
theorem d_C_init_16 : decode mb_C_init 16 = .ok (.aload_n 1, 1) := by decide +kernel
theorem d_C_init_17 : decode mb_C_init 17 = .ok (.lload_n 3, 1) := by decide +kernel
theorem d_C_init_18 : decode mb_C_init 18 = .ok (.invokevirtual 15, 3) := by decide +kernel
theorem d_C_init_21 : decode mb_C_init 21 = .ok (.putfield 21, 3) := by decide +kernel
theorem d_C_init_24 : decode mb_C_init 24 = .ok (.ldc2_w 26, 3) := by decide +kernel
theorem d_C_init_27 : decode mb_C_init 27 = .ok (.aload_n 0, 1) := by decide +kernel
theorem d_C_init_28 : decode mb_C_init 28 = .ok (.getfield 28, 3) := by decide +kernel
theorem d_C_init_31 : decode mb_C_init 31 = .ok (.invokestatic 31, 3) := by decide +kernel
theorem d_C_init_34 : decode mb_C_init 34 = .ok (.lstore 8, 2) := by decide +kernel
theorem d_C_init_36 : decode mb_C_init 36 = .ok (.aload_n 0, 1) := by decide +kernel
theorem d_C_init_37 : decode mb_C_init 37 = .ok (.iload_n 2, 1) := by decide +kernel
theorem d_C_init_38 : decode mb_C_init 38 = .ok (.iconst 1, 1) := by decide +kernel
theorem d_C_init_39 : decode mb_C_init 39 = .ok (.if_icmp .ne 8, 3) := by decide +kernel
theorem d_C_init_42 : decode mb_C_init 42 = .ok (.lload 8, 2) := by decide +kernel
theorem d_C_init_44 : decode mb_C_init 44 = .ok (.goto 18, 3) := by decide +kernel
theorem d_C_init_47 : decode mb_C_init 47 = .ok (.lload 8, 2) := by decide +kernel
theorem d_C_init_49 : decode mb_C_init 49 = .ok (.ldc2_w 35, 3) := by decide +kernel
theorem d_C_init_52 : decode mb_C_init 52 = .ok (.aload_n 0, 1) := by decide +kernel
theorem d_C_init_53 : decode mb_C_init 53 = .ok (.getfield 21, 3) := by decide +kernel
theorem d_C_init_56 : decode mb_C_init 56 = .ok (.invokestatic 31, 3) := by decide +kernel
theorem d_C_init_59 : decode mb_C_init 59 = .ok (.invokestatic 37, 3) := by decide +kernel
theorem d_C_init_62 : decode mb_C_init 62 = .ok (.putfield 40, 3) := by decide +kernel
theorem d_C_init_65 : decode mb_C_init 65 = .ok (.aload_n 0, 1) := by decide +kernel
theorem d_C_init_66 : decode mb_C_init 66 = .ok (.aload_n 0, 1) := by decide +kernel
theorem d_C_init_67 : decode mb_C_init 67 = .ok (.getfield 40, 3) := by decide +kernel
theorem d_C_init_70 : decode mb_C_init 70 = .ok (.putfield 43, 3) := by decide +kernel
theorem d_C_init_73 : decode mb_C_init 73 = .ok (.return_, 1) := by decide +kernel
theorem d_C_unmasked_0 : decode mb_C_unmasked 0 = .ok (.lload_n 1, 1) := by decide +kernel
theorem d_C_unmasked_1 : decode mb_C_unmasked 1 = .ok (.ldc2_w 46, 3) := by decide +kernel
theorem d_C_unmasked_4 : decode mb_C_unmasked 4 = .ok (.aload_n 0, 1) := by decide +kernel
theorem d_C_unmasked_5 : decode mb_C_unmasked 5 = .ok (.getfield 21, 3) := by decide +kernel
theorem d_C_unmasked_8 : decode mb_C_unmasked 8 = .ok (.invokestatic 48, 3) := by decide +kernel
theorem d_C_unmasked_11 : decode mb_C_unmasked 11 = .ok (.lreturn, 1) := by decide +kernel
theorem d_C_answerFirst_0 : decode mb_C_answerFirst 0 = .ok (.aload_n 0, 1) := by decide +kernel
theorem d_C_answerFirst_1 : decode mb_C_answerFirst 1 = .ok (.lload_n 1, 1) := by decide +kernel
theorem d_C_answerFirst_2 : decode mb_C_answerFirst 2 = .ok (.putfield 52, 3) := by decide +kernel
theorem d_C_answerFirst_5 : decode mb_C_answerFirst 5 = .ok (.aload_n 0, 1) := by decide +kernel
theorem d_C_answerFirst_6 : decode mb_C_answerFirst 6 = .ok (.getfield 55, 3) := by decide +kernel
theorem d_C_answerFirst_9 : decode mb_C_answerFirst 9 = .ok (.ifCond .ne 23, 3) := by decide +kernel
theorem d_C_answerFirst_12 : decode mb_C_answerFirst 12 = .ok (.aload_n 0, 1) := by decide +kernel
theorem d_C_answerFirst_13 : decode mb_C_answerFirst 13 = .ok (.aload_n 0, 1) := by decide +kernel
theorem d_C_answerFirst_14 : decode mb_C_answerFirst 14 = .ok (.aload_n 0, 1) := by decide +kernel
theorem d_C_answerFirst_15 : decode mb_C_answerFirst 15 = .ok (.lload_n 1, 1) := by decide +kernel
theorem d_C_answerFirst_16 : decode mb_C_answerFirst 16 = .ok (.invokevirtual 59, 3) := by decide +kernel
theorem d_C_answerFirst_19 : decode mb_C_answerFirst 19 = .ok (.aload_n 0, 1) := by decide +kernel
theorem d_C_answerFirst_20 : decode mb_C_answerFirst 20 = .ok (.getfield 21, 3) := by decide +kernel
theorem d_C_answerFirst_23 : decode mb_C_answerFirst 23 = .ok (.invokevirtual 62, 3) := by decide +kernel
theorem d_C_answerFirst_26 : decode mb_C_answerFirst 26 = .ok (.putfield 65, 3) := by decide +kernel
theorem d_C_answerFirst_29 : decode mb_C_answerFirst 29 = .ok (.goto 37, 3) := by decide +kernel
theorem d_C_answerFirst_32 : decode mb_C_answerFirst 32 = .ok (.aload_n 0, 1) := by decide +kernel
theorem d_C_answerFirst_33 : decode mb_C_answerFirst 33 = .ok (.aload_n 0, 1) := by decide +kernel
theorem d_C_answerFirst_34 : decode mb_C_answerFirst 34 = .ok (.aload_n 0, 1) := by decide +kernel
theorem d_C_answerFirst_35 : decode mb_C_answerFirst 35 = .ok (.aload_n 0, 1) := by decide +kernel
theorem d_C_answerFirst_36 : decode mb_C_answerFirst 36 = .ok (.getfield 68, 3) := by decide +kernel
theorem d_C_answerFirst_39 : decode mb_C_answerFirst 39 = .ok (.aload_n 0, 1) := by decide +kernel
theorem d_C_answerFirst_40 : decode mb_C_answerFirst 40 = .ok (.getfield 9, 3) := by decide +kernel
theorem d_C_answerFirst_43 : decode mb_C_answerFirst 43 = .ok (.aload_n 0, 1) := by decide +kernel
theorem d_C_answerFirst_44 : decode mb_C_answerFirst 44 = .ok (.getfield 68, 3) := by decide +kernel
theorem d_C_answerFirst_47 : decode mb_C_answerFirst 47 = .ok (.invokevirtual 72, 3) := by decide +kernel
theorem d_C_answerFirst_50 : decode mb_C_answerFirst 50 = .ok (.invokevirtual 76, 3) := by decide +kernel
theorem d_C_answerFirst_53 : decode mb_C_answerFirst 53 = .ok (.aload_n 0, 1) := by decide +kernel
theorem d_C_answerFirst_54 : decode mb_C_answerFirst 54 = .ok (.invokevirtual 79, 3) := by decide +kernel
theorem d_C_answerFirst_57 : decode mb_C_answerFirst 57 = .ok (.invokevirtual 82, 3) := by decide +kernel
theorem d_C_answerFirst_60 : decode mb_C_answerFirst 60 = .ok (.invokevirtual 85, 3) := by decide +kernel
theorem d_C_answerFirst_63 : decode mb_C_answerFirst 63 = .ok (.putfield 65, 3) := by decide +kernel
theorem d_C_answerFirst_66 : decode mb_C_answerFirst 66 = .ok (.aload_n 0, 1) := by decide +kernel
theorem d_C_answerFirst_67 : decode mb_C_answerFirst 67 = .ok (.invokevirtual 88, 3) := by decide +kernel
theorem d_C_answerFirst_70 : decode mb_C_answerFirst 70 = .ok (.aload_n 0, 1) := by decide +kernel
theorem d_C_answerFirst_71 : decode mb_C_answerFirst 71 = .ok (.aload_n 0, 1) := by decide +kernel
theorem d_C_answerFirst_72 : decode mb_C_answerFirst 72 = .ok (.getfield 92, 3) := by decide +kernel
theorem d_C_answerFirst_75 : decode mb_C_answerFirst 75 = .ok (.putfield 43, 3) := by decide +kernel
theorem d_C_answerFirst_78 : decode mb_C_answerFirst 78 = .ok (.return_, 1) := by decide +kernel
theorem d_C_common_0 : decode mb_C_common 0 = .ok (.ldc2_w 95, 3) := by decide +kernel
theorem d_C_common_3 : decode mb_C_common 3 = .ok (.ldc2_w 26, 3) := by decide +kernel
theorem d_C_common_6 : decode mb_C_common 6 = .ok (.lload_n 1, 1) := by decide +kernel
theorem d_C_common_7 : decode mb_C_common 7 = .ok (.invokestatic 31, 3) := by decide +kernel
theorem d_C_common_10 : decode mb_C_common 10 = .ok (.invokestatic 37, 3) := by decide +kernel
theorem d_C_common_13 : decode mb_C_common 13 = .ok (.lstore 5, 2) := by decide +kernel
theorem d_C_common_15 : decode mb_C_common 15 = .ok (.aload_n 0, 1) := by decide +kernel
theorem d_C_common_16 : decode mb_C_common 16 = .ok (.getfield 52, 3) := by decide +kernel
theorem d_C_common_19 : decode mb_C_common 19 = .ok (.lload 5, 2) := by decide +kernel
theorem d_C_common_21 : decode mb_C_common 21 = .ok (.lsub, 1) := by decide +kernel
theorem d_C_common_22 : decode mb_C_common 22 = .ok (.ldc2_w 97, 3) := by decide +kernel
theorem d_C_common_25 : decode mb_C_common 25 = .ok (.invokestatic 99, 3) := by decide +kernel
theorem d_C_common_28 : decode mb_C_common 28 = .ok (.lstore 7, 2) := by decide +kernel
theorem d_C_common_30 : decode mb_C_common 30 = .ok (.lload 7, 2) := by decide +kernel
theorem d_C_common_32 : decode mb_C_common 32 = .ok (.aload_n 0, 1) := by decide +kernel
theorem d_C_common_33 : decode mb_C_common 33 = .ok (.getfield 28, 3) := by decide +kernel
theorem d_C_common_36 : decode mb_C_common 36 = .ok (.lload_n 3, 1) := by decide +kernel
theorem d_C_common_37 : decode mb_C_common 37 = .ok (.lload_n 1, 1) := by decide +kernel
theorem d_C_common_38 : decode mb_C_common 38 = .ok (.lmul, 1) := by decide +kernel
theorem d_C_common_39 : decode mb_C_common 39 = .ok (.ladd, 1) := by decide +kernel
theorem d_C_common_40 : decode mb_C_common 40 = .ok (.ldc2_w 104, 3) := by decide +kernel
theorem d_C_common_43 : decode mb_C_common 43 = .ok (.lrem, 1) := by decide +kernel
theorem d_C_common_44 : decode mb_C_common 44 = .ok (.invokestatic 31, 3) := by decide +kernel
theorem d_C_common_47 : decode mb_C_common 47 = .ok (.lreturn, 1) := by decide +kernel
theorem d_C_awaitedConfirmation_0 : decode mb_C_awaitedConfirmation 0 = .ok (.aload_n 0, 1) := by decide +kernel
theorem d_C_awaitedConfirmation_1 : decode mb_C_awaitedConfirmation 1 = .ok (.getfield 106, 3) := by decide +kernel
theorem d_C_awaitedConfirmation_4 : decode mb_C_awaitedConfirmation 4 = .ok (.lreturn, 1) := by decide +kernel
theorem d_C_endWith_0 : decode mb_C_endWith 0 = .ok (.return_, 1) := by decide +kernel
set_option maxHeartbeats 4000000 in
set_option maxRecDepth 100000 in
theorem c_C_super (l : Launch) (G : va_G) (ct : Nat → ClassId) (sz : Nat) (h0 : Nat) (hu : Nat) (wy : Int32) (se : Int64) (bg : Int32) : Met l my_S_init (tb_w my_S_init mb_S_init 6 none) ({ frames := 1, cells := 0, slots := 0, locals := 21 }) (wk_P [.ref h0, .ref hu, .int wy, .long se, .int bg] G ct [(h0, .inr (2, [.null, .int 0, .long 0, .int 0, .int 0, .long 0, .long 0, .long 0, .long 0, .long 0, .long 0, .long 0, .long 0]))] sz) (wk_Q (wk_ov (S := Unit) (fun _ => True)) (fun _ : Unit => [(h0, .inr (2, [.ref hu, .int wy, .long (lN (sc_n se)), .int bg, .int 0, .long (lN 0), .long (lN 0), .long 0, .long 0, .long 0, .long 0, .long 0, .long (lN 0)]))]) G (va_A [(h0, .inr (2, [.null, .int 0, .long 0, .int 0, .int 0, .long 0, .long 0, .long 0, .long 0, .long 0, .long 0, .long 0, .long 0]))] sz)) 0 0 (va_A [(h0, .inr (2, [.null, .int 0, .long 0, .int 0, .int 0, .long 0, .long 0, .long 0, .long 0, .long 0, .long 0, .long 0, .long 0]))] sz) := by
  refine Met.ofW (cc := mb_S_init) (maxL := 6) (ret := none) (by decide) rfl ?_
  intro p e s m args below meth c s₁ B hml hv
  obtain ⟨rfl, hsz, hP, hK, hD0⟩ := hv
  have hx := B.exec
  have hb := B.bytes
  have hr := B.returns
  have hts := atoms_spec (ws := tb_w my_S_init mb_S_init 6 none) B.pre
  have hw : ∀ w ∈ gt_tbl, w.before [.ref h0, .ref hu, .int wy, .long se, .int bg].toArray s = true := fun w h => hts w (List.mem_cons_of_mem _ h)
  have hown : s.vm.findClass cr_S = some m.cls := findClass_of_methodNamed B.named
  have hlocks := B.notSynchronized
  have hin : meth.name = "<init>" := (name_of_methodNamed B.named B.method).1
  subst hsz
  have hD := hD0.self (sz := s.heap.size)
  generalize hAe : va_A [(h0, .inr (2, [.null, .int 0, .long 0, .int 0, .int 0, .long 0, .long 0, .long 0, .long 0, .long 0, .long 0, .long 0, .long 0]))] s.heap.size = A at hD ⊢
  have hA : ∀ q : Nat, s.heap.size ≤ q → A q := fun q h => by rw [← hAe]; exact Or.inr h
  have hS : va_S A s.heap s.heap [] := va_S.rf
  have hP : va_P G classes [(h0, .inr (2, [.null, .int 0, .long 0, .int 0, .int 0, .long 0, .long 0, .long 0, .long 0, .long 0, .long 0, .long 0, .long 0]))] s.heap := hP
  have hl := lv_entry ([.ref h0, .ref hu, .int wy, .long se, .int bg]) (n := 6) (Nat.le_of_ble_eq_true rfl)
  rw [lg_entry_eq]
  generalize (lg_sl ([.ref h0, .ref hu, .int wy, .long se, .int bg]) ++ List.replicate (6 - (lg_sl ([.ref h0, .ref hu, .int wy, .long se, .int bg])).length) Slot.unset).toArray = ls at hl ⊢
  have hl : lv_has ls 6 [(0, .ref h0), (1, .ref hu), (2, .int wy), (3, .long se), (5, .int bg)] := hl
  refine lv_aload_n hx hb d_S_init_0 rfl (lv_at hl 0 rfl) ?_
  refine W.objInit hx hb hown (hw _ ww_285) (hw _ ww_23) (hw _ ww_24) rfl (by rw [hml]; exact hl.1) rfl d_S_init_1 (Nat.le_of_ble_eq_true rfl) (Nat.le_of_ble_eq_true rfl) ?_
  refine W.eq (g2 := F0 m 4 ls []) rfl ?_
  refine lv_aload_n hx hb d_S_init_4 rfl (lv_at hl 0 rfl) ?_
  refine lv_aload_n hx hb d_S_init_5 rfl (lv_at hl 1 rfl) ?_
  refine va_putF (D := G) (ci := 2) (v := .ref hu) (ty := (.object "PakeDesk$User")) (C := cr_C) (T := cf_C) (N := 13) hx hb hw uw_C ct_C ct_C_ok ct_C_nm hown hK.1 hP hD hS 0 rfl rfl 0 (by decide) (hw _ ww_296) (fun _ h9 => h9) rfl hin rfl (by decide +kernel) rfl rfl (Nat.le_of_ble_eq_true rfl) d_S_init_6 (fun H locs hP hD hS => ?_)
  have hP : va_P G classes [(h0, .inr (2, [.ref hu, .int 0, .long 0, .int 0, .int 0, .long 0, .long 0, .long 0, .long 0, .long 0, .long 0, .long 0, .long 0]))] H := hP
  have hD : va_D A [(h0, .inr (2, [.ref hu, .int 0, .long 0, .int 0, .int 0, .long 0, .long 0, .long 0, .long 0, .long 0, .long 0, .long 0, .long 0]))] := hD
  refine lv_aload_n hx hb d_S_init_9 rfl (lv_at hl 0 rfl) ?_
  refine lv_iload_n hx hb d_S_init_10 rfl (lv_at hl 2 rfl) ?_
  refine va_putF (D := G) (ci := 2) (v := .int wy) (ty := .int) (C := cr_C) (T := cf_C) (N := 13) hx hb hw uw_C ct_C ct_C_ok ct_C_nm hown hK.1 hP hD hS 0 rfl rfl 1 (by decide) (hw _ ww_301) (fun _ h9 => h9) rfl hin rfl (by decide +kernel) rfl rfl (Nat.le_of_ble_eq_true rfl) d_S_init_11 (fun H locs hP hD hS => ?_)
  have hP : va_P G classes [(h0, .inr (2, [.ref hu, .int wy, .long 0, .int 0, .int 0, .long 0, .long 0, .long 0, .long 0, .long 0, .long 0, .long 0, .long 0]))] H := hP
  have hD : va_D A [(h0, .inr (2, [.ref hu, .int wy, .long 0, .int 0, .int 0, .long 0, .long 0, .long 0, .long 0, .long 0, .long 0, .long 0, .long 0]))] := hD
  refine lv_aload_n hx hb d_S_init_14 rfl (lv_at hl 0 rfl) ?_
  refine lv_lload_n hx hb d_S_init_15 rfl (lv_at hl 3 rfl) ?_
  refine vp_callSl (W.runS (As := [.long se]) (rest := [.ref h0]) ⟨hx, hb, hml, hown, hts⟩ (c_N_scalar l se) (tb_S hw cy_N_scalar ww_286 ww_114 rfl rfl ⟨Nat.le_of_ble_eq_true rfl, Nat.le_of_ble_eq_true rfl⟩) preEq rfl rfl hl.1 rfl (lv_room (Nat.le_of_ble_eq_true rfl)) d_S_init_16 ⟨Nat.le_of_ble_eq_true rfl, Nat.le_of_ble_eq_true rfl⟩) (fun r65 er65 => ?_)
  subst er65
  refine va_putF (D := G) (ci := 2) (v := .long (lN (sc_n se))) (ty := .long) (C := cr_C) (T := cf_C) (N := 13) hx hb hw uw_C ct_C ct_C_ok ct_C_nm hown hK.1 hP hD hS 0 rfl rfl 2 (by decide) (hw _ ww_306) (fun _ h9 => h9) rfl hin rfl (by decide +kernel) rfl rfl (Nat.le_of_ble_eq_true rfl) d_S_init_19 (fun H locs hP hD hS => ?_)
  have hP : va_P G classes [(h0, .inr (2, [.ref hu, .int wy, .long (lN (sc_n se)), .int 0, .int 0, .long 0, .long 0, .long 0, .long 0, .long 0, .long 0, .long 0, .long 0]))] H := hP
  have hD : va_D A [(h0, .inr (2, [.ref hu, .int wy, .long (lN (sc_n se)), .int 0, .int 0, .long 0, .long 0, .long 0, .long 0, .long 0, .long 0, .long 0, .long 0]))] := hD
  refine lv_aload_n hx hb d_S_init_22 rfl (lv_at hl 0 rfl) ?_
  refine lv_iload hx hb d_S_init_23 (lv_at hl 4 rfl) ?_
  refine va_putF (D := G) (ci := 2) (v := .int bg) (ty := .int) (C := cr_C) (T := cf_C) (N := 13) hx hb hw uw_C ct_C ct_C_ok ct_C_nm hown hK.1 hP hD hS 0 rfl rfl 3 (by decide) (hw _ ww_311) (fun _ h9 => h9) rfl hin rfl (by decide +kernel) rfl rfl (Nat.le_of_ble_eq_true rfl) d_S_init_25 (fun H locs hP hD hS => ?_)
  have hP : va_P G classes [(h0, .inr (2, [.ref hu, .int wy, .long (lN (sc_n se)), .int bg, .int 0, .long 0, .long 0, .long 0, .long 0, .long 0, .long 0, .long 0, .long 0]))] H := hP
  have hD : va_D A [(h0, .inr (2, [.ref hu, .int wy, .long (lN (sc_n se)), .int bg, .int 0, .long 0, .long 0, .long 0, .long 0, .long 0, .long 0, .long 0, .long 0]))] := hD
  refine lv_aload_n hx hb d_S_init_28 rfl (lv_at hl 0 rfl) ?_
  refine lv_iconst (v := 0) hx hb d_S_init_29 (by decide) ?_
  refine va_put (D := G) (ci := 2) (v := .int 0) (ty := .int) (C := cr_C) (T := cf_C) (N := 13) hx hb hw uw_C ct_C ct_C_ok ct_C_nm hown hK.1 hP hD hS 0 rfl rfl 4 (by decide) (hw _ ww_312) (fun _ h9 => h9) rfl (by decide +kernel) rfl rfl (Nat.le_of_ble_eq_true rfl) d_S_init_30 (fun H locs hP hD hS => ?_)
  have hP : va_P G classes [(h0, .inr (2, [.ref hu, .int wy, .long (lN (sc_n se)), .int bg, .int 0, .long 0, .long 0, .long 0, .long 0, .long 0, .long 0, .long 0, .long 0]))] H := hP
  have hD : va_D A [(h0, .inr (2, [.ref hu, .int wy, .long (lN (sc_n se)), .int bg, .int 0, .long 0, .long 0, .long 0, .long 0, .long 0, .long 0, .long 0, .long 0]))] := hD
  exact W.vret hx hb hr (fun t ht hW => ⟨⟨(), ⟨rfl, trivial⟩, by rw [ht]; exact hP, hD⟩, hS.F ht⟩) hS.2.2 d_S_init_33
set_option maxHeartbeats 4000000 in
set_option maxRecDepth 100000 in
theorem c_C_stateAt (l : Launch) (G : va_G) (ct : Nat → ClassId) (sz : Nat) (h0 : Nat) (hu : Nat) (wy : Int32) (sec : Nat) (bg : Int32) (st : Int32) (x : Nat) (y : Nat) (ky : Int64) (c1 : Int64) (c2 : Int64) (ms : Int64) (pw : Int64) (rc : Nat) (ck : Int32) : Met l my_S_stateAt (tb_w my_S_stateAt mb_S_stateAt 3 (some .int)) ({ frames := 0, cells := 0, slots := 0, locals := 0 }) (wk_P [.ref h0, .int ck] G ct [(h0, .inr (2, [.ref hu, .int wy, .long (lN sec), .int bg, .int st, .long (lN x), .long (lN y), .long ky, .long c1, .long c2, .long ms, .long pw, .long (lN rc)]))] sz) (vp_Si (fun r => r = se_at st bg ck)) 0 0 (fun _ => False) := by
  refine Met.ofW (cc := mb_S_stateAt) (maxL := 3) (ret := (some .int)) (by decide) rfl ?_
  intro p e s m args below meth c s₁ B hml hv
  obtain ⟨rfl, hsz, hP, hK, hD0⟩ := hv
  have hx := B.exec
  have hb := B.bytes
  have hr := B.returns
  have hts := atoms_spec (ws := tb_w my_S_stateAt mb_S_stateAt 3 (some .int)) B.pre
  have hw : ∀ w ∈ gt_tbl, w.before [.ref h0, .int ck].toArray s = true := fun w h => hts w (List.mem_cons_of_mem _ h)
  have hown : s.vm.findClass cr_S = some m.cls := findClass_of_methodNamed B.named
  have hlocks := B.notSynchronized
  subst hsz
  have hD := hD0.self (sz := s.heap.size)
  generalize hAe : va_A [(h0, .inr (2, [.ref hu, .int wy, .long (lN sec), .int bg, .int st, .long (lN x), .long (lN y), .long ky, .long c1, .long c2, .long ms, .long pw, .long (lN rc)]))] s.heap.size = A at hD ⊢
  have hA : ∀ q : Nat, s.heap.size ≤ q → A q := fun q h => by rw [← hAe]; exact Or.inr h
  have hS : va_S A s.heap s.heap [] := va_S.rf
  have hP : va_P G classes [(h0, .inr (2, [.ref hu, .int wy, .long (lN sec), .int bg, .int st, .long (lN x), .long (lN y), .long ky, .long c1, .long c2, .long ms, .long pw, .long (lN rc)]))] s.heap := hP
  have hl := lv_entry ([.ref h0, .int ck]) (n := 3) (Nat.le_of_ble_eq_true rfl)
  rw [lg_entry_eq]
  generalize (lg_sl ([.ref h0, .int ck]) ++ List.replicate (3 - (lg_sl ([.ref h0, .int ck])).length) Slot.unset).toArray = ls at hl ⊢
  have hl : lv_has ls 3 [(0, .ref h0), (1, .int ck)] := hl
  refine lv_aload_n hx hb d_S_stateAt_0 rfl (lv_at hl 0 rfl) ?_
  refine va_get (D := G) (ci := 2) (v := .int st) (C := cr_C) (T := cf_C) (N := 13) hx hb hw uw_C hown hK.1 hP 0 rfl rfl 4 (by decide) (hw _ ww_312) (fun _ h9 => h9) rfl d_S_stateAt_1 ?_
  refine lv_if_eq (tgt := 15) hx hb d_S_stateAt_4 (by decide) (fun h66 => ?_) (fun h66 => ?_)
  · refine lv_iconst (v := 1) hx hb d_S_stateAt_15 (by decide) ?_
    refine lv_goto (tgt := 20) hx hb d_S_stateAt_16 (by decide) ?_
    refine lv_istore_n (lv' := [(2, .int 1), (0, .ref h0), (1, .int ck)]) hx hb d_S_stateAt_20 rfl hl (Nat.le_of_ble_eq_true rfl) rfl (fun ls hl => ?_)
    refine lv_iload_n hx hb d_S_stateAt_21 rfl (lv_at hl 0 rfl) ?_
    refine lv_if_eq (tgt := 40) hx hb d_S_stateAt_22 (by decide) (fun h67 => ?_) (fun h67 => ?_)
    · exact absurd h67 (by decide)
    · refine lv_iload_n hx hb d_S_stateAt_25 rfl (lv_at hl 2 rfl) ?_
      refine lv_aload_n hx hb d_S_stateAt_26 rfl (lv_at hl 1 rfl) ?_
      refine va_get (D := G) (ci := 2) (v := .int bg) (C := cr_C) (T := cf_C) (N := 13) hx hb hw uw_C hown hK.1 hP 0 rfl rfl 3 (by decide) (hw _ ww_311) (fun _ h9 => h9) rfl d_S_stateAt_27 ?_
      refine lv_isub hx hb d_S_stateAt_30 ?_
      refine lv_bipush (v := 20) hx hb d_S_stateAt_31 (by decide) ?_
      refine lv_icmp_lt (tgt := 40) hx hb d_S_stateAt_33 (by decide) (fun h68 => ?_) (fun h68 => ?_)
      · refine lv_aload_n hx hb d_S_stateAt_40 rfl (lv_at hl 1 rfl) ?_
        refine va_get (D := G) (ci := 2) (v := .int st) (C := cr_C) (T := cf_C) (N := 13) hx hb hw uw_C hown hK.1 hP 0 rfl rfl 4 (by decide) (hw _ ww_312) (fun _ h9 => h9) rfl d_S_stateAt_41 ?_
        exact W.iret (v := st) hx hb hr (fun t ht hW => ⟨st, rfl, (by unfold se_at; rw [if_neg (fun q => (Int32.not_le.mpr h68) q.2)]), ht⟩) (fun q h => nomatch h) d_S_stateAt_44
      · refine lv_iconst (v := 4) hx hb d_S_stateAt_36 (by decide) ?_
        refine lv_goto (tgt := 44) hx hb d_S_stateAt_37 (by decide) ?_
        exact W.iret (v := 4) hx hb hr (fun t ht hW => ⟨4, rfl, (by unfold se_at; rw [if_pos ⟨Or.inl h66, Int32.not_lt.mp h68⟩]), ht⟩) (fun q h => nomatch h) d_S_stateAt_44
  · refine lv_aload_n hx hb d_S_stateAt_7 rfl (lv_at hl 0 rfl) ?_
    refine va_get (D := G) (ci := 2) (v := .int st) (C := cr_C) (T := cf_C) (N := 13) hx hb hw uw_C hown hK.1 hP 0 rfl rfl 4 (by decide) (hw _ ww_312) (fun _ h9 => h9) rfl d_S_stateAt_8 ?_
    refine lv_iconst (v := 1) hx hb d_S_stateAt_11 (by decide) ?_
    refine lv_icmp_ne (tgt := 19) hx hb d_S_stateAt_12 (by decide) (fun h69 => ?_) (fun h69 => ?_)
    · refine lv_iconst (v := 0) hx hb d_S_stateAt_19 (by decide) ?_
      refine lv_istore_n (lv' := [(2, .int 0), (0, .ref h0), (1, .int ck)]) hx hb d_S_stateAt_20 rfl hl (Nat.le_of_ble_eq_true rfl) rfl (fun ls hl => ?_)
      refine lv_iload_n hx hb d_S_stateAt_21 rfl (lv_at hl 0 rfl) ?_
      refine lv_if_eq (tgt := 40) hx hb d_S_stateAt_22 (by decide) (fun h70 => ?_) (fun h70 => ?_)
      · refine lv_aload_n hx hb d_S_stateAt_40 rfl (lv_at hl 1 rfl) ?_
        refine va_get (D := G) (ci := 2) (v := .int st) (C := cr_C) (T := cf_C) (N := 13) hx hb hw uw_C hown hK.1 hP 0 rfl rfl 4 (by decide) (hw _ ww_312) (fun _ h9 => h9) rfl d_S_stateAt_41 ?_
        exact W.iret (v := st) hx hb hr (fun t ht hW => ⟨st, rfl, (by unfold se_at; rw [if_neg (fun q => q.1.elim h66 h69)]), ht⟩) (fun q h => nomatch h) d_S_stateAt_44
      · exact absurd h70 (by decide)
    · refine lv_iconst (v := 1) hx hb d_S_stateAt_15 (by decide) ?_
      refine lv_goto (tgt := 20) hx hb d_S_stateAt_16 (by decide) ?_
      refine lv_istore_n (lv' := [(2, .int 1), (0, .ref h0), (1, .int ck)]) hx hb d_S_stateAt_20 rfl hl (Nat.le_of_ble_eq_true rfl) rfl (fun ls hl => ?_)
      refine lv_iload_n hx hb d_S_stateAt_21 rfl (lv_at hl 0 rfl) ?_
      refine lv_if_eq (tgt := 40) hx hb d_S_stateAt_22 (by decide) (fun h71 => ?_) (fun h71 => ?_)
      · exact absurd h71 (by decide)
      · refine lv_iload_n hx hb d_S_stateAt_25 rfl (lv_at hl 2 rfl) ?_
        refine lv_aload_n hx hb d_S_stateAt_26 rfl (lv_at hl 1 rfl) ?_
        refine va_get (D := G) (ci := 2) (v := .int bg) (C := cr_C) (T := cf_C) (N := 13) hx hb hw uw_C hown hK.1 hP 0 rfl rfl 3 (by decide) (hw _ ww_311) (fun _ h9 => h9) rfl d_S_stateAt_27 ?_
        refine lv_isub hx hb d_S_stateAt_30 ?_
        refine lv_bipush (v := 20) hx hb d_S_stateAt_31 (by decide) ?_
        refine lv_icmp_lt (tgt := 40) hx hb d_S_stateAt_33 (by decide) (fun h72 => ?_) (fun h72 => ?_)
        · refine lv_aload_n hx hb d_S_stateAt_40 rfl (lv_at hl 1 rfl) ?_
          refine va_get (D := G) (ci := 2) (v := .int st) (C := cr_C) (T := cf_C) (N := 13) hx hb hw uw_C hown hK.1 hP 0 rfl rfl 4 (by decide) (hw _ ww_312) (fun _ h9 => h9) rfl d_S_stateAt_41 ?_
          exact W.iret (v := st) hx hb hr (fun t ht hW => ⟨st, rfl, (by unfold se_at; rw [if_neg (fun q => (Int32.not_le.mpr h72) q.2)]), ht⟩) (fun q h => nomatch h) d_S_stateAt_44
        · refine lv_iconst (v := 4) hx hb d_S_stateAt_36 (by decide) ?_
          refine lv_goto (tgt := 44) hx hb d_S_stateAt_37 (by decide) ?_
          exact W.iret (v := 4) hx hb hr (fun t ht hW => ⟨4, rfl, (by unfold se_at; rw [if_pos ⟨Or.inr h69, Int32.not_lt.mp h72⟩]), ht⟩) (fun q h => nomatch h) d_S_stateAt_44
set_option maxHeartbeats 4000000 in
set_option maxRecDepth 100000 in
theorem c_C_keyByWord (l : Launch) (G : va_G) (ct : Nat → ClassId) (sz : Nat) (h0 : Nat) (hu : Nat) (wy : Int32) (sec : Nat) (bg : Int32) (st : Int32) (x : Nat) (y : Nat) (ky : Int64) (c1 : Int64) (c2 : Int64) (ms : Int64) (pw : Int64) (rc : Nat) (nb : Int32) (sd : Int32) (uw : Int32) (uo : Nat) (ul : Int64) (uv : Nat) (uf : Int32) (u1 : Int32) (u2 : Int32) (u3 : Int32) (um : Nat) (w0 : Nat) (hs1 : sec < pq_Q) (hu1 : um < pq_P) : Met l my_S_keyByWord (tb_w my_S_keyByWord mb_S_keyByWord 5 (some .long)) ({ frames := 2, cells := 0, slots := 0, locals := 59 }) (wk_P [.ref h0, .long (lN um), .long (lN w0)] G ct [(h0, .inr (2, [.ref hu, .int wy, .long (lN sec), .int bg, .int st, .long (lN x), .long (lN y), .long ky, .long c1, .long c2, .long ms, .long pw, .long (lN rc)])), (hu, .inr (1, [.int nb, .int sd, .int uw, .long (lN uo), .long ul, .long (lN uv), .int uf, .int u1, .int u2, .int u3]))] sz) (vp_Sl (fun r => r = ky_w nb x y (pw_m um sec) w0)) 0 0 (fun _ => False) := by
  refine Met.ofW (cc := mb_S_keyByWord) (maxL := 5) (ret := (some .long)) (by decide) rfl ?_
  intro p e s m args below meth c s₁ B hml hv
  obtain ⟨rfl, hsz, hP, hK, hD0⟩ := hv
  have hx := B.exec
  have hb := B.bytes
  have hr := B.returns
  have hts := atoms_spec (ws := tb_w my_S_keyByWord mb_S_keyByWord 5 (some .long)) B.pre
  have hw : ∀ w ∈ gt_tbl, w.before [.ref h0, .long (lN um), .long (lN w0)].toArray s = true := fun w h => hts w (List.mem_cons_of_mem _ h)
  have hown : s.vm.findClass cr_S = some m.cls := findClass_of_methodNamed B.named
  have hlocks := B.notSynchronized
  subst hsz
  have hD := hD0.self (sz := s.heap.size)
  generalize hAe : va_A [(h0, .inr (2, [.ref hu, .int wy, .long (lN sec), .int bg, .int st, .long (lN x), .long (lN y), .long ky, .long c1, .long c2, .long ms, .long pw, .long (lN rc)])), (hu, .inr (1, [.int nb, .int sd, .int uw, .long (lN uo), .long ul, .long (lN uv), .int uf, .int u1, .int u2, .int u3]))] s.heap.size = A at hD ⊢
  have hA : ∀ q : Nat, s.heap.size ≤ q → A q := fun q h => by rw [← hAe]; exact Or.inr h
  have hS : va_S A s.heap s.heap [] := va_S.rf
  have hP : va_P G classes [(h0, .inr (2, [.ref hu, .int wy, .long (lN sec), .int bg, .int st, .long (lN x), .long (lN y), .long ky, .long c1, .long c2, .long ms, .long pw, .long (lN rc)])), (hu, .inr (1, [.int nb, .int sd, .int uw, .long (lN uo), .long ul, .long (lN uv), .int uf, .int u1, .int u2, .int u3]))] s.heap := hP
  have hl := lv_entry ([.ref h0, .long (lN um), .long (lN w0)]) (n := 5) (Nat.le_of_ble_eq_true rfl)
  rw [lg_entry_eq]
  generalize (lg_sl ([.ref h0, .long (lN um), .long (lN w0)]) ++ List.replicate (5 - (lg_sl ([.ref h0, .long (lN um), .long (lN w0)])).length) Slot.unset).toArray = ls at hl ⊢
  have hl : lv_has ls 5 [(0, .ref h0), (1, .long (lN um)), (3, .long (lN w0))] := hl
  refine lv_ldc2 (v := 6) hx hb hown (hw _ ww_495) d_S_keyByWord_0 ?_
  refine lv_aload_n hx hb d_S_keyByWord_3 rfl (lv_at hl 0 rfl) ?_
  refine va_get (D := G) (ci := 2) (v := .ref hu) (C := cr_C) (T := cf_C) (N := 13) hx hb hw uw_C hown hK.1 hP 0 rfl rfl 0 (by decide) (hw _ ww_296) (fun _ h9 => h9) rfl d_S_keyByWord_4 ?_
  refine va_get (D := G) (ci := 1) (v := .int nb) (C := cr_U) (T := cf_U) (N := 10) hx hb hw uw_U hown hK.1 hP 1 rfl rfl 0 (by decide) (hw _ ww_33) (fun _ h9 => h9) rfl d_S_keyByWord_7 ?_
  refine lv_i2l (v := nb.toInt64) hx hb d_S_keyByWord_10 rfl ?_
  refine lv_aload_n hx hb d_S_keyByWord_11 rfl (lv_at hl 0 rfl) ?_
  refine va_get (D := G) (ci := 2) (v := .long (lN x)) (C := cr_C) (T := cf_C) (N := 13) hx hb hw uw_C hown hK.1 hP 0 rfl rfl 5 (by decide) (hw _ ww_318) (fun _ h9 => h9) rfl d_S_keyByWord_12 ?_
  refine lv_aload_n hx hb d_S_keyByWord_15 rfl (lv_at hl 0 rfl) ?_
  refine va_get (D := G) (ci := 2) (v := .long (lN y)) (C := cr_C) (T := cf_C) (N := 13) hx hb hw uw_C hown hK.1 hP 0 rfl rfl 6 (by decide) (hw _ ww_323) (fun _ h9 => h9) rfl d_S_keyByWord_16 ?_
  refine lv_lload_n hx hb d_S_keyByWord_19 rfl (lv_at hl 1 rfl) ?_
  refine lv_aload_n hx hb d_S_keyByWord_20 rfl (lv_at hl 0 rfl) ?_
  refine va_get (D := G) (ci := 2) (v := .long (lN sec)) (C := cr_C) (T := cf_C) (N := 13) hx hb hw uw_C hown hK.1 hP 0 rfl rfl 2 (by decide) (hw _ ww_306) (fun _ h9 => h9) rfl d_S_keyByWord_21 ?_
  refine vp_callSl (W.runS (As := [.long (lN um), .long (lN sec)]) (rest := [.long (lN y), .long (lN x), .long nb.toInt64, .long 6]) ⟨hx, hb, hml, hown, hts⟩ (c_N_power l um sec (by first | assumption | exact pw_lt _ _ | exact Nat.mod_lt _ pq_pos | exact qs_P (by assumption) | decide) (by first | assumption | exact sc_30 _ | exact qs_30 (by assumption) | exact qz_lt _ | decide | omega)) (tb_S hw cy_N_power ww_496 ww_127 rfl rfl ⟨Nat.le_of_ble_eq_true rfl, Nat.le_of_ble_eq_true rfl⟩) preEq rfl rfl hl.1 rfl (lv_room (Nat.le_of_ble_eq_true rfl)) d_S_keyByWord_24 ⟨Nat.le_of_ble_eq_true rfl, Nat.le_of_ble_eq_true rfl⟩) (fun r73 er73 => ?_)
  subst er73
  refine lv_lload_n hx hb d_S_keyByWord_27 rfl (lv_at hl 2 rfl) ?_
  refine vp_callSl (W.runS (As := [.long 6, .long nb.toInt64, .long (lN x), .long (lN y), .long (lN (pw_m um sec)), .long (lN w0)]) (rest := []) ⟨hx, hb, hml, hown, hts⟩ (c_G_of6 l 6 nb.toInt64 (lN x) (lN y) (lN (pw_m um sec)) (lN w0)) (tb_S hw cy_G_of6 ww_497 ww_498 rfl rfl ⟨Nat.le_of_ble_eq_true rfl, Nat.le_of_ble_eq_true rfl⟩) preEq rfl rfl hl.1 rfl (lv_room (Nat.le_of_ble_eq_true rfl)) d_S_keyByWord_28 ⟨Nat.le_of_ble_eq_true rfl, Nat.le_of_ble_eq_true rfl⟩) (fun r74 er74 => ?_)
  subst er74
  exact W.lret (v := dg_6 6 nb.toInt64 (lN x) (lN y) (lN (pw_m um sec)) (lN w0)) hx hb hr (fun t ht hW => ⟨dg_6 6 nb.toInt64 (lN x) (lN y) (lN (pw_m um sec)) (lN w0), rfl, rfl, ht⟩) (fun q h => nomatch h) d_S_keyByWord_31
set_option maxHeartbeats 4000000 in
set_option maxRecDepth 100000 in
theorem c_C_keyBySalt (l : Launch) (G : va_G) (ct : Nat → ClassId) (sz : Nat) (h0 : Nat) (hu : Nat) (wy : Int32) (sec : Nat) (bg : Int32) (st : Int32) (x : Nat) (y : Nat) (ky : Int64) (c1 : Int64) (c2 : Int64) (ms : Int64) (pw : Int64) (rc : Nat) (nb : Int32) (sd : Int32) (uw : Int32) (uo : Nat) (ul : Int64) (uv : Nat) (uf : Int32) (u1 : Int32) (u2 : Int32) (u3 : Int32) (cm : Nat) : Met l my_S_keyBySalt (tb_w my_S_keyBySalt mb_S_keyBySalt 3 (some .long)) ({ frames := 2, cells := 0, slots := 0, locals := 55 }) (wk_P [.ref h0, .long (lN cm)] G ct [(h0, .inr (2, [.ref hu, .int wy, .long (lN sec), .int bg, .int st, .long (lN x), .long (lN y), .long ky, .long c1, .long c2, .long ms, .long pw, .long (lN rc)])), (hu, .inr (1, [.int nb, .int sd, .int uw, .long (lN uo), .long ul, .long (lN uv), .int uf, .int u1, .int u2, .int u3]))] sz) (vp_Sl (fun r => r = ky_s nb x y cm)) 0 0 (fun _ => False) := by
  refine Met.ofW (cc := mb_S_keyBySalt) (maxL := 3) (ret := (some .long)) (by decide) rfl ?_
  intro p e s m args below meth c s₁ B hml hv
  obtain ⟨rfl, hsz, hP, hK, hD0⟩ := hv
  have hx := B.exec
  have hb := B.bytes
  have hr := B.returns
  have hts := atoms_spec (ws := tb_w my_S_keyBySalt mb_S_keyBySalt 3 (some .long)) B.pre
  have hw : ∀ w ∈ gt_tbl, w.before [.ref h0, .long (lN cm)].toArray s = true := fun w h => hts w (List.mem_cons_of_mem _ h)
  have hown : s.vm.findClass cr_S = some m.cls := findClass_of_methodNamed B.named
  have hlocks := B.notSynchronized
  subst hsz
  have hD := hD0.self (sz := s.heap.size)
  generalize hAe : va_A [(h0, .inr (2, [.ref hu, .int wy, .long (lN sec), .int bg, .int st, .long (lN x), .long (lN y), .long ky, .long c1, .long c2, .long ms, .long pw, .long (lN rc)])), (hu, .inr (1, [.int nb, .int sd, .int uw, .long (lN uo), .long ul, .long (lN uv), .int uf, .int u1, .int u2, .int u3]))] s.heap.size = A at hD ⊢
  have hA : ∀ q : Nat, s.heap.size ≤ q → A q := fun q h => by rw [← hAe]; exact Or.inr h
  have hS : va_S A s.heap s.heap [] := va_S.rf
  have hP : va_P G classes [(h0, .inr (2, [.ref hu, .int wy, .long (lN sec), .int bg, .int st, .long (lN x), .long (lN y), .long ky, .long c1, .long c2, .long ms, .long pw, .long (lN rc)])), (hu, .inr (1, [.int nb, .int sd, .int uw, .long (lN uo), .long ul, .long (lN uv), .int uf, .int u1, .int u2, .int u3]))] s.heap := hP
  have hl := lv_entry ([.ref h0, .long (lN cm)]) (n := 3) (Nat.le_of_ble_eq_true rfl)
  rw [lg_entry_eq]
  generalize (lg_sl ([.ref h0, .long (lN cm)]) ++ List.replicate (3 - (lg_sl ([.ref h0, .long (lN cm)])).length) Slot.unset).toArray = ls at hl ⊢
  have hl : lv_has ls 3 [(0, .ref h0), (1, .long (lN cm))] := hl
  refine lv_ldc2 (v := 8) hx hb hown (hw _ ww_526) d_S_keyBySalt_0 ?_
  refine lv_aload_n hx hb d_S_keyBySalt_3 rfl (lv_at hl 0 rfl) ?_
  refine va_get (D := G) (ci := 2) (v := .ref hu) (C := cr_C) (T := cf_C) (N := 13) hx hb hw uw_C hown hK.1 hP 0 rfl rfl 0 (by decide) (hw _ ww_296) (fun _ h9 => h9) rfl d_S_keyBySalt_4 ?_
  refine va_get (D := G) (ci := 1) (v := .int nb) (C := cr_U) (T := cf_U) (N := 10) hx hb hw uw_U hown hK.1 hP 1 rfl rfl 0 (by decide) (hw _ ww_33) (fun _ h9 => h9) rfl d_S_keyBySalt_7 ?_
  refine lv_i2l (v := nb.toInt64) hx hb d_S_keyBySalt_10 rfl ?_
  refine lv_aload_n hx hb d_S_keyBySalt_11 rfl (lv_at hl 0 rfl) ?_
  refine va_get (D := G) (ci := 2) (v := .long (lN x)) (C := cr_C) (T := cf_C) (N := 13) hx hb hw uw_C hown hK.1 hP 0 rfl rfl 5 (by decide) (hw _ ww_318) (fun _ h9 => h9) rfl d_S_keyBySalt_12 ?_
  refine lv_aload_n hx hb d_S_keyBySalt_15 rfl (lv_at hl 0 rfl) ?_
  refine va_get (D := G) (ci := 2) (v := .long (lN y)) (C := cr_C) (T := cf_C) (N := 13) hx hb hw uw_C hown hK.1 hP 0 rfl rfl 6 (by decide) (hw _ ww_323) (fun _ h9 => h9) rfl d_S_keyBySalt_16 ?_
  refine lv_lload_n hx hb d_S_keyBySalt_19 rfl (lv_at hl 1 rfl) ?_
  refine vp_callSl (W.runS (As := [.long 8, .long nb.toInt64, .long (lN x), .long (lN y), .long (lN cm)]) (rest := []) ⟨hx, hb, hml, hown, hts⟩ (c_G_of5 l 8 nb.toInt64 (lN x) (lN y) (lN cm)) (tb_S hw cy_G_of5 ww_527 ww_528 rfl rfl ⟨Nat.le_of_ble_eq_true rfl, Nat.le_of_ble_eq_true rfl⟩) preEq rfl rfl hl.1 rfl (lv_room (Nat.le_of_ble_eq_true rfl)) d_S_keyBySalt_20 ⟨Nat.le_of_ble_eq_true rfl, Nat.le_of_ble_eq_true rfl⟩) (fun r75 er75 => ?_)
  subst er75
  exact W.lret (v := dg_5 8 nb.toInt64 (lN x) (lN y) (lN cm)) hx hb hr (fun t ht hW => ⟨dg_5 8 nb.toInt64 (lN x) (lN y) (lN cm), rfl, rfl, ht⟩) (fun q h => nomatch h) d_S_keyBySalt_23
set_option maxHeartbeats 4000000 in
set_option maxRecDepth 100000 in
theorem c_C_blend (l : Launch) (G : va_G) (ct : Nat → ClassId) (sz : Nat) (h0 : Nat) (hu : Nat) (wy : Int32) (sec : Nat) (bg : Int32) (st : Int32) (x : Nat) (y : Nat) (ky : Int64) (c1 : Int64) (c2 : Int64) (ms : Int64) (pw : Int64) (rc : Nat) : Met l my_S_blend (tb_w my_S_blend mb_S_blend 1 (some .long)) ({ frames := 2, cells := 0, slots := 0, locals := 51 }) (wk_P [.ref h0] G ct [(h0, .inr (2, [.ref hu, .int wy, .long (lN sec), .int bg, .int st, .long (lN x), .long (lN y), .long ky, .long c1, .long c2, .long ms, .long pw, .long (lN rc)]))] sz) (vp_Sl (fun r => r = lN (bl_n x y))) 0 0 (fun _ => False) := by
  refine Met.ofW (cc := mb_S_blend) (maxL := 1) (ret := (some .long)) (by decide) rfl ?_
  intro p e s m args below meth c s₁ B hml hv
  obtain ⟨rfl, hsz, hP, hK, hD0⟩ := hv
  have hx := B.exec
  have hb := B.bytes
  have hr := B.returns
  have hts := atoms_spec (ws := tb_w my_S_blend mb_S_blend 1 (some .long)) B.pre
  have hw : ∀ w ∈ gt_tbl, w.before [.ref h0].toArray s = true := fun w h => hts w (List.mem_cons_of_mem _ h)
  have hown : s.vm.findClass cr_S = some m.cls := findClass_of_methodNamed B.named
  have hlocks := B.notSynchronized
  subst hsz
  have hD := hD0.self (sz := s.heap.size)
  generalize hAe : va_A [(h0, .inr (2, [.ref hu, .int wy, .long (lN sec), .int bg, .int st, .long (lN x), .long (lN y), .long ky, .long c1, .long c2, .long ms, .long pw, .long (lN rc)]))] s.heap.size = A at hD ⊢
  have hA : ∀ q : Nat, s.heap.size ≤ q → A q := fun q h => by rw [← hAe]; exact Or.inr h
  have hS : va_S A s.heap s.heap [] := va_S.rf
  have hP : va_P G classes [(h0, .inr (2, [.ref hu, .int wy, .long (lN sec), .int bg, .int st, .long (lN x), .long (lN y), .long ky, .long c1, .long c2, .long ms, .long pw, .long (lN rc)]))] s.heap := hP
  have hl := lv_entry ([.ref h0]) (n := 1) (Nat.le_of_ble_eq_true rfl)
  rw [lg_entry_eq]
  generalize (lg_sl ([.ref h0]) ++ List.replicate (1 - (lg_sl ([.ref h0])).length) Slot.unset).toArray = ls at hl ⊢
  have hl : lv_has ls 1 [(0, .ref h0)] := hl
  refine lv_ldc2 (v := 7) hx hb hown (hw _ ww_508) d_S_blend_0 ?_
  refine lv_aload_n hx hb d_S_blend_3 rfl (lv_at hl 0 rfl) ?_
  refine va_get (D := G) (ci := 2) (v := .long (lN x)) (C := cr_C) (T := cf_C) (N := 13) hx hb hw uw_C hown hK.1 hP 0 rfl rfl 5 (by decide) (hw _ ww_318) (fun _ h9 => h9) rfl d_S_blend_4 ?_
  refine lv_aload_n hx hb d_S_blend_7 rfl (lv_at hl 0 rfl) ?_
  refine va_get (D := G) (ci := 2) (v := .long (lN y)) (C := cr_C) (T := cf_C) (N := 13) hx hb hw uw_C hown hK.1 hP 0 rfl rfl 6 (by decide) (hw _ ww_323) (fun _ h9 => h9) rfl d_S_blend_8 ?_
  refine vp_callSl (W.runS (As := [.long 7, .long (lN x), .long (lN y)]) (rest := []) ⟨hx, hb, hml, hown, hts⟩ (c_G_of3 l 7 (lN x) (lN y)) (tb_S hw cy_G_of3 ww_509 ww_101 rfl rfl ⟨Nat.le_of_ble_eq_true rfl, Nat.le_of_ble_eq_true rfl⟩) preEq rfl rfl hl.1 rfl (lv_room (Nat.le_of_ble_eq_true rfl)) d_S_blend_11 ⟨Nat.le_of_ble_eq_true rfl, Nat.le_of_ble_eq_true rfl⟩) (fun r76 er76 => ?_)
  subst er76
  refine vp_callSl (W.runS (As := [.long (dg_3 7 (lN x) (lN y))]) (rest := []) ⟨hx, hb, hml, hown, hts⟩ (c_N_scalar l (dg_3 7 (lN x) (lN y))) (tb_S hw cy_N_scalar ww_286 ww_114 rfl rfl ⟨Nat.le_of_ble_eq_true rfl, Nat.le_of_ble_eq_true rfl⟩) preEq rfl rfl hl.1 rfl (lv_room (Nat.le_of_ble_eq_true rfl)) d_S_blend_14 ⟨Nat.le_of_ble_eq_true rfl, Nat.le_of_ble_eq_true rfl⟩) (fun r77 er77 => ?_)
  subst er77
  exact W.lret (v := lN (sc_n (dg_3 7 (lN x) (lN y)))) hx hb hr (fun t ht hW => ⟨lN (sc_n (dg_3 7 (lN x) (lN y))), rfl, rfl, ht⟩) (fun q h => nomatch h) d_S_blend_17
set_option maxHeartbeats 4000000 in
set_option maxRecDepth 100000 in
theorem c_C_makeConfirmations (l : Launch) (G : va_G) (ct : Nat → ClassId) (sz : Nat) (h0 : Nat) (hu : Nat) (wy : Int32) (sec : Nat) (bg : Int32) (st : Int32) (x : Nat) (y : Nat) (ky : Int64) (c1 : Int64) (c2 : Int64) (ms : Int64) (pw : Int64) (rc : Nat) : Met l my_S_makeConfirmations (tb_w my_S_makeConfirmations mb_S_makeConfirmations 1 none) ({ frames := 2, cells := 0, slots := 0, locals := 53 }) (wk_P [.ref h0] G ct [(h0, .inr (2, [.ref hu, .int wy, .long (lN sec), .int bg, .int st, .long (lN x), .long (lN y), .long ky, .long c1, .long c2, .long ms, .long pw, .long (lN rc)]))] sz) (wk_Q (wk_ov (S := Unit) (fun _ => True)) (fun _ : Unit => [(h0, .inr (2, [.ref hu, .int wy, .long (lN sec), .int bg, .int st, .long (lN x), .long (lN y), .long ky, .long (cf_c ky x y), .long (cf_s ky (cf_c ky x y)), .long ms, .long pw, .long (lN rc)]))]) G (va_A [(h0, .inr (2, [.ref hu, .int wy, .long (lN sec), .int bg, .int st, .long (lN x), .long (lN y), .long ky, .long c1, .long c2, .long ms, .long pw, .long (lN rc)]))] sz)) 0 0 (va_A [(h0, .inr (2, [.ref hu, .int wy, .long (lN sec), .int bg, .int st, .long (lN x), .long (lN y), .long ky, .long c1, .long c2, .long ms, .long pw, .long (lN rc)]))] sz) := by
  refine Met.ofW (cc := mb_S_makeConfirmations) (maxL := 1) (ret := none) (by decide) rfl ?_
  intro p e s m args below meth c s₁ B hml hv
  obtain ⟨rfl, hsz, hP, hK, hD0⟩ := hv
  have hx := B.exec
  have hb := B.bytes
  have hr := B.returns
  have hts := atoms_spec (ws := tb_w my_S_makeConfirmations mb_S_makeConfirmations 1 none) B.pre
  have hw : ∀ w ∈ gt_tbl, w.before [.ref h0].toArray s = true := fun w h => hts w (List.mem_cons_of_mem _ h)
  have hown : s.vm.findClass cr_S = some m.cls := findClass_of_methodNamed B.named
  have hlocks := B.notSynchronized
  subst hsz
  have hD := hD0.self (sz := s.heap.size)
  generalize hAe : va_A [(h0, .inr (2, [.ref hu, .int wy, .long (lN sec), .int bg, .int st, .long (lN x), .long (lN y), .long ky, .long c1, .long c2, .long ms, .long pw, .long (lN rc)]))] s.heap.size = A at hD ⊢
  have hA : ∀ q : Nat, s.heap.size ≤ q → A q := fun q h => by rw [← hAe]; exact Or.inr h
  have hS : va_S A s.heap s.heap [] := va_S.rf
  have hP : va_P G classes [(h0, .inr (2, [.ref hu, .int wy, .long (lN sec), .int bg, .int st, .long (lN x), .long (lN y), .long ky, .long c1, .long c2, .long ms, .long pw, .long (lN rc)]))] s.heap := hP
  have hl := lv_entry ([.ref h0]) (n := 1) (Nat.le_of_ble_eq_true rfl)
  rw [lg_entry_eq]
  generalize (lg_sl ([.ref h0]) ++ List.replicate (1 - (lg_sl ([.ref h0])).length) Slot.unset).toArray = ls at hl ⊢
  have hl : lv_has ls 1 [(0, .ref h0)] := hl
  refine lv_aload_n hx hb d_S_makeConfirmations_0 rfl (lv_at hl 0 rfl) ?_
  refine lv_ldc2 (v := 9) hx hb hown (hw _ ww_536) d_S_makeConfirmations_1 ?_
  refine lv_aload_n hx hb d_S_makeConfirmations_4 rfl (lv_at hl 0 rfl) ?_
  refine va_get (D := G) (ci := 2) (v := .long ky) (C := cr_C) (T := cf_C) (N := 13) hx hb hw uw_C hown hK.1 hP 0 rfl rfl 7 (by decide) (hw _ ww_328) (fun _ h9 => h9) rfl d_S_makeConfirmations_5 ?_
  refine lv_aload_n hx hb d_S_makeConfirmations_8 rfl (lv_at hl 0 rfl) ?_
  refine va_get (D := G) (ci := 2) (v := .long (lN x)) (C := cr_C) (T := cf_C) (N := 13) hx hb hw uw_C hown hK.1 hP 0 rfl rfl 5 (by decide) (hw _ ww_318) (fun _ h9 => h9) rfl d_S_makeConfirmations_9 ?_
  refine lv_aload_n hx hb d_S_makeConfirmations_12 rfl (lv_at hl 0 rfl) ?_
  refine va_get (D := G) (ci := 2) (v := .long (lN y)) (C := cr_C) (T := cf_C) (N := 13) hx hb hw uw_C hown hK.1 hP 0 rfl rfl 6 (by decide) (hw _ ww_323) (fun _ h9 => h9) rfl d_S_makeConfirmations_13 ?_
  refine vp_callSl (W.runS (As := [.long 9, .long ky, .long (lN x), .long (lN y)]) (rest := [.ref h0]) ⟨hx, hb, hml, hown, hts⟩ (c_G_of4 l 9 ky (lN x) (lN y)) (tb_S hw cy_G_of4 ww_537 ww_124 rfl rfl ⟨Nat.le_of_ble_eq_true rfl, Nat.le_of_ble_eq_true rfl⟩) preEq rfl rfl hl.1 rfl (lv_room (Nat.le_of_ble_eq_true rfl)) d_S_makeConfirmations_16 ⟨Nat.le_of_ble_eq_true rfl, Nat.le_of_ble_eq_true rfl⟩) (fun r78 er78 => ?_)
  subst er78
  refine va_put (D := G) (ci := 2) (v := .long (dg_4 9 ky (lN x) (lN y))) (ty := .long) (C := cr_C) (T := cf_C) (N := 13) hx hb hw uw_C ct_C ct_C_ok ct_C_nm hown hK.1 hP hD hS 0 rfl rfl 8 (by decide) (hw _ ww_334) (fun _ h9 => h9) rfl (by decide +kernel) rfl rfl (Nat.le_of_ble_eq_true rfl) d_S_makeConfirmations_19 (fun H locs hP hD hS => ?_)
  have hP : va_P G classes [(h0, .inr (2, [.ref hu, .int wy, .long (lN sec), .int bg, .int st, .long (lN x), .long (lN y), .long ky, .long (dg_4 9 ky (lN x) (lN y)), .long c2, .long ms, .long pw, .long (lN rc)]))] H := hP
  have hD : va_D A [(h0, .inr (2, [.ref hu, .int wy, .long (lN sec), .int bg, .int st, .long (lN x), .long (lN y), .long ky, .long (dg_4 9 ky (lN x) (lN y)), .long c2, .long ms, .long pw, .long (lN rc)]))] := hD
  refine lv_aload_n hx hb d_S_makeConfirmations_22 rfl (lv_at hl 0 rfl) ?_
  refine lv_ldc2 (v := 10) hx hb hown (hw _ ww_538) d_S_makeConfirmations_23 ?_
  refine lv_aload_n hx hb d_S_makeConfirmations_26 rfl (lv_at hl 0 rfl) ?_
  refine va_get (D := G) (ci := 2) (v := .long ky) (C := cr_C) (T := cf_C) (N := 13) hx hb hw uw_C hown hK.1 hP 0 rfl rfl 7 (by decide) (hw _ ww_328) (fun _ h9 => h9) rfl d_S_makeConfirmations_27 ?_
  refine lv_aload_n hx hb d_S_makeConfirmations_30 rfl (lv_at hl 0 rfl) ?_
  refine va_get (D := G) (ci := 2) (v := .long (dg_4 9 ky (lN x) (lN y))) (C := cr_C) (T := cf_C) (N := 13) hx hb hw uw_C hown hK.1 hP 0 rfl rfl 8 (by decide) (hw _ ww_334) (fun _ h9 => h9) rfl d_S_makeConfirmations_31 ?_
  refine vp_callSl (W.runS (As := [.long 10, .long ky, .long (dg_4 9 ky (lN x) (lN y))]) (rest := [.ref h0]) ⟨hx, hb, hml, hown, hts⟩ (c_G_of3 l 10 ky (dg_4 9 ky (lN x) (lN y))) (tb_S hw cy_G_of3 ww_509 ww_101 rfl rfl ⟨Nat.le_of_ble_eq_true rfl, Nat.le_of_ble_eq_true rfl⟩) preEq rfl rfl hl.1 rfl (lv_room (Nat.le_of_ble_eq_true rfl)) d_S_makeConfirmations_34 ⟨Nat.le_of_ble_eq_true rfl, Nat.le_of_ble_eq_true rfl⟩) (fun r79 er79 => ?_)
  subst er79
  refine va_put (D := G) (ci := 2) (v := .long (dg_3 10 ky (dg_4 9 ky (lN x) (lN y)))) (ty := .long) (C := cr_C) (T := cf_C) (N := 13) hx hb hw uw_C ct_C ct_C_ok ct_C_nm hown hK.1 hP hD hS 0 rfl rfl 9 (by decide) (hw _ ww_339) (fun _ h9 => h9) rfl (by decide +kernel) rfl rfl (Nat.le_of_ble_eq_true rfl) d_S_makeConfirmations_37 (fun H locs hP hD hS => ?_)
  have hP : va_P G classes [(h0, .inr (2, [.ref hu, .int wy, .long (lN sec), .int bg, .int st, .long (lN x), .long (lN y), .long ky, .long (dg_4 9 ky (lN x) (lN y)), .long (dg_3 10 ky (dg_4 9 ky (lN x) (lN y))), .long ms, .long pw, .long (lN rc)]))] H := hP
  have hD : va_D A [(h0, .inr (2, [.ref hu, .int wy, .long (lN sec), .int bg, .int st, .long (lN x), .long (lN y), .long ky, .long (dg_4 9 ky (lN x) (lN y)), .long (dg_3 10 ky (dg_4 9 ky (lN x) (lN y))), .long ms, .long pw, .long (lN rc)]))] := hD
  exact W.vret hx hb hr (fun t ht hW => ⟨⟨(), ⟨rfl, trivial⟩, by rw [ht]; exact hP, hD⟩, hS.F ht⟩) hS.2.2 d_S_makeConfirmations_40
set_option maxHeartbeats 4000000 in
set_option maxRecDepth 100000 in
theorem c_C_unmasked (l : Launch) (G : va_G) (ct : Nat → ClassId) (sz : Nat) (h0 : Nat) (hu : Nat) (wy : Int32) (sec : Nat) (bg : Int32) (st : Int32) (x : Nat) (y : Nat) (ky : Int64) (c1 : Int64) (c2 : Int64) (ms : Int64) (pw : Int64) (rc : Nat) (n : Nat) (hr0 : 1 ≤ rc) (hr1 : rc < pq_Q) (hn1 : n < pq_P) : Met l my_C_unmasked (tb_w my_C_unmasked mb_C_unmasked 3 (some .long)) ({ frames := 2, cells := 0, slots := 0, locals := 51 }) (wk_P [.ref h0, .long (lN n)] G ct [(h0, .inr (2, [.ref hu, .int wy, .long (lN sec), .int bg, .int st, .long (lN x), .long (lN y), .long ky, .long c1, .long c2, .long ms, .long pw, .long (lN rc)]))] sz) (vp_Sl (fun r => r = lN (cl_um rc n))) 0 0 (fun _ => False) := by
  refine Met.ofW (cc := mb_C_unmasked) (maxL := 3) (ret := (some .long)) (by decide) rfl ?_
  intro p e s m args below meth c s₁ B hml hv
  obtain ⟨rfl, hsz, hP, hK, hD0⟩ := hv
  have hx := B.exec
  have hb := B.bytes
  have hr := B.returns
  have hts := atoms_spec (ws := tb_w my_C_unmasked mb_C_unmasked 3 (some .long)) B.pre
  have hw : ∀ w ∈ gt_tbl, w.before [.ref h0, .long (lN n)].toArray s = true := fun w h => hts w (List.mem_cons_of_mem _ h)
  have hown : s.vm.findClass cr_C = some m.cls := findClass_of_methodNamed B.named
  have hlocks := B.notSynchronized
  subst hsz
  have hD := hD0.self (sz := s.heap.size)
  generalize hAe : va_A [(h0, .inr (2, [.ref hu, .int wy, .long (lN sec), .int bg, .int st, .long (lN x), .long (lN y), .long ky, .long c1, .long c2, .long ms, .long pw, .long (lN rc)]))] s.heap.size = A at hD ⊢
  have hA : ∀ q : Nat, s.heap.size ≤ q → A q := fun q h => by rw [← hAe]; exact Or.inr h
  have hS : va_S A s.heap s.heap [] := va_S.rf
  have hP : va_P G classes [(h0, .inr (2, [.ref hu, .int wy, .long (lN sec), .int bg, .int st, .long (lN x), .long (lN y), .long ky, .long c1, .long c2, .long ms, .long pw, .long (lN rc)]))] s.heap := hP
  have hl := lv_entry ([.ref h0, .long (lN n)]) (n := 3) (Nat.le_of_ble_eq_true rfl)
  rw [lg_entry_eq]
  generalize (lg_sl ([.ref h0, .long (lN n)]) ++ List.replicate (3 - (lg_sl ([.ref h0, .long (lN n)])).length) Slot.unset).toArray = ls at hl ⊢
  have hl : lv_has ls 3 [(0, .ref h0), (1, .long (lN n))] := hl
  refine lv_lload_n hx hb d_C_unmasked_0 rfl (lv_at hl 1 rfl) ?_
  refine lv_ldc2 (v := 25) hx hb hown (hw _ ww_472) d_C_unmasked_1 ?_
  refine lv_aload_n hx hb d_C_unmasked_4 rfl (lv_at hl 0 rfl) ?_
  refine va_get (D := G) (ci := 2) (v := .long (lN rc)) (C := cr_C) (T := cf_C) (N := 13) hx hb hw uw_C hown hK.1 hP 0 rfl rfl 12 (by decide) (hw _ ww_295) (fun _ h9 => h9) rfl d_C_unmasked_5 ?_
  refine vp_callSl (W.runS (As := [.long (lN n), .long (lN 25), .long (lN rc)]) (rest := []) ⟨hx, hb, hml, hown, hts⟩ (c_N_overPower l n 25 rc (by first | assumption | exact pw_lt _ _ | exact Nat.mod_lt _ pq_pos | exact qs_P (by assumption) | decide) (by first | assumption | exact pw_lt _ _ | exact Nat.mod_lt _ pq_pos | exact qs_P (by assumption) | decide) (by assumption) (by assumption)) (tb_S hw cy_N_overPower ww_473 ww_474 rfl rfl ⟨Nat.le_of_ble_eq_true rfl, Nat.le_of_ble_eq_true rfl⟩) preEq rfl rfl hl.1 rfl (lv_room (Nat.le_of_ble_eq_true rfl)) d_C_unmasked_8 ⟨Nat.le_of_ble_eq_true rfl, Nat.le_of_ble_eq_true rfl⟩) (fun r80 er80 => ?_)
  subst er80
  exact W.lret (v := lN (n * pw_m 25 (pq_Q - rc) % pq_P)) hx hb hr (fun t ht hW => ⟨lN (n * pw_m 25 (pq_Q - rc) % pq_P), rfl, rfl, ht⟩) (fun q h => nomatch h) d_C_unmasked_11
theorem rt_1_C {rc : Nat} {wy : Int32} {a : Int64} (h : wy = 1) : (if rt_c wy rc a then (1 : Int32) else 0) = if bt_w a then 1 else 0 := by
  by_cases hb : bt_w a
  · rw [if_pos hb, if_pos ⟨hb, Or.inl h⟩]
  · rw [if_neg hb, if_neg (fun q => hb q.1)]
set_option maxHeartbeats 4000000 in
set_option maxRecDepth 100000 in
theorem c_C_isRightFirst (l : Launch) (G : va_G) (ct : Nat → ClassId) (sz : Nat) (h0 : Nat) (hu : Nat) (wy : Int32) (sec : Nat) (bg : Int32) (st : Int32) (x : Nat) (y : Nat) (ky : Int64) (c1 : Int64) (c2 : Int64) (ms : Int64) (pw : Int64) (rc : Nat) (a : Int64) (hq1 : ¬ wy = 1 → 1 ≤ rc ∧ rc < pq_Q) : Met l my_S_isRightFirst (tb_w my_S_isRightFirst mb_S_isRightFirst 3 (some .boolean)) ({ frames := 3, cells := 0, slots := 0, locals := 73 }) (wk_P [.ref h0, .long a] G ct [(h0, .inr (2, [.ref hu, .int wy, .long (lN sec), .int bg, .int st, .long (lN x), .long (lN y), .long ky, .long c1, .long c2, .long ms, .long pw, .long (lN rc)]))] sz) (vp_Si (fun r => r = (if rt_c wy rc a then 1 else 0))) 0 0 (fun _ => False) := by
  refine Met.ofW (cc := mb_S_isRightFirst) (maxL := 3) (ret := (some .boolean)) (by decide) rfl ?_
  intro p e s m args below meth c s₁ B hml hv
  obtain ⟨rfl, hsz, hP, hK, hD0⟩ := hv
  have hx := B.exec
  have hb := B.bytes
  have hr := B.returns
  have hts := atoms_spec (ws := tb_w my_S_isRightFirst mb_S_isRightFirst 3 (some .boolean)) B.pre
  have hw : ∀ w ∈ gt_tbl, w.before [.ref h0, .long a].toArray s = true := fun w h => hts w (List.mem_cons_of_mem _ h)
  have hown : s.vm.findClass cr_S = some m.cls := findClass_of_methodNamed B.named
  have hlocks := B.notSynchronized
  subst hsz
  have hD := hD0.self (sz := s.heap.size)
  generalize hAe : va_A [(h0, .inr (2, [.ref hu, .int wy, .long (lN sec), .int bg, .int st, .long (lN x), .long (lN y), .long ky, .long c1, .long c2, .long ms, .long pw, .long (lN rc)]))] s.heap.size = A at hD ⊢
  have hA : ∀ q : Nat, s.heap.size ≤ q → A q := fun q h => by rw [← hAe]; exact Or.inr h
  have hS : va_S A s.heap s.heap [] := va_S.rf
  have hP : va_P G classes [(h0, .inr (2, [.ref hu, .int wy, .long (lN sec), .int bg, .int st, .long (lN x), .long (lN y), .long ky, .long c1, .long c2, .long ms, .long pw, .long (lN rc)]))] s.heap := hP
  have hl := lv_entry ([.ref h0, .long a]) (n := 3) (Nat.le_of_ble_eq_true rfl)
  rw [lg_entry_eq]
  generalize (lg_sl ([.ref h0, .long a]) ++ List.replicate (3 - (lg_sl ([.ref h0, .long a])).length) Slot.unset).toArray = ls at hl ⊢
  have hl : lv_has ls 3 [(0, .ref h0), (1, .long a)] := hl
  refine lv_aload_n hx hb d_S_isRightFirst_0 rfl (lv_at hl 0 rfl) ?_
  refine va_get (D := G) (ci := 2) (v := .int wy) (C := cr_C) (T := cf_C) (N := 13) hx hb hw uw_C hown hK.1 hP 0 rfl rfl 1 (by decide) (hw _ ww_301) (fun _ h9 => h9) rfl d_S_isRightFirst_1 ?_
  refine lv_iconst (v := 1) hx hb d_S_isRightFirst_4 (by decide) ?_
  refine lv_icmp_ne (tgt := 13) hx hb d_S_isRightFirst_5 (by decide) (fun h81 => ?_) (fun h81 => ?_)
  · refine lv_lload_n hx hb d_S_isRightFirst_13 rfl (lv_at hl 1 rfl) ?_
    refine vp_callSi (W.runS (As := [.long a]) (rest := []) ⟨hx, hb, hml, hown, hts⟩ (c_N_element l a) (tb_S hw cy_N_isElement ww_460 ww_461 rfl rfl ⟨Nat.le_of_ble_eq_true rfl, Nat.le_of_ble_eq_true rfl⟩) preEq rfl rfl hl.1 rfl (lv_room (Nat.le_of_ble_eq_true rfl)) d_S_isRightFirst_14 ⟨Nat.le_of_ble_eq_true rfl, Nat.le_of_ble_eq_true rfl⟩) (fun r82 er82 => ?_)
    subst er82
    refine lv_if_eq (tgt := 34) hx hb d_S_isRightFirst_17 (by decide) (fun h83 => ?_) (fun h83 => ?_)
    · have hem := bz_f h83
      refine lv_iconst (v := 0) hx hb d_S_isRightFirst_34 (by decide) ?_
      exact W.zret (v := 0) (ty := .boolean) hx hb hr rfl (fun t ht hW => ⟨0, rfl, (by rw [if_neg (fun q => hem ⟨q.1, (q.2.resolve_left h81).1⟩)]), ht⟩) (fun q h => nomatch h) d_S_isRightFirst_35
    · have hem := bz_t h83
      obtain ⟨hn1, hn2, hn3⟩ := bt_of hem.1
      obtain ⟨hr0, hr1⟩ := hq1 h81
      have hl : lv_has ls 3 [(0, .ref h0), (1, .long (lN a.toBitVec.toNat))] := by rw [← hn1]; exact hl
      refine lv_aload_n hx hb d_S_isRightFirst_20 rfl (lv_at hl 0 rfl) ?_
      refine lv_lload_n hx hb d_S_isRightFirst_21 rfl (lv_at hl 1 rfl) ?_
      have hPc : va_P G classes [(h0, .inr (2, [.ref hu, .int wy, .long (lN sec), .int bg, .int st, .long (lN x), .long (lN y), .long ky, .long c1, .long c2, .long ms, .long pw, .long (lN rc)]))] s.heap := hP.sub [0] rfl
      have hDc := hD0.sub (ws' := [(h0, .inr (2, [.ref hu, .int wy, .long (lN sec), .int bg, .int st, .long (lN x), .long (lN y), .long ky, .long c1, .long c2, .long ms, .long pw, .long (lN rc)]))]) [0] (by decide) rfl
      refine vp_callSl (va_Run.run (va_runU (As := [.long (lN a.toBitVec.toNat)]) (rest := []) ⟨hx, hb, hml, hown, hts⟩ (c_C_unmasked l G ct s.heap.size h0 hu wy sec bg st x y ky c1 c2 ms pw rc a.toBitVec.toNat (by first | assumption | exact pw_lt _ _ | exact Nat.mod_lt _ pq_pos | exact sc_lt _ | exact sc_pos _ | exact sc_30 _ | exact qs_30 (by assumption) | exact qs_P (by assumption) | exact qz_lt _ | decide | omega) (by first | assumption | exact pw_lt _ _ | exact Nat.mod_lt _ pq_pos | exact sc_lt _ | exact sc_pos _ | exact sc_30 _ | exact qs_30 (by assumption) | exact qs_P (by assumption) | exact qz_lt _ | decide | omega) (by first | assumption | exact pw_lt _ _ | exact Nat.mod_lt _ pq_pos | exact sc_lt _ | exact sc_pos _ | exact sc_30 _ | exact qs_30 (by assumption) | exact qs_P (by assumption) | exact qz_lt _ | decide | omega)) (tb_U (owner := cr_S) (x := ⟨"PakeDesk$Session", "unmasked", "(J)J"⟩) hw cy_C_unmasked ww_466 ww_468 (va_Decl.abs (hK.2.use wf_467)) ⟨by decide, by decide⟩ rfl ww_470 ww_469 rfl rfl ⟨Nat.le_of_ble_eq_true rfl, Nat.le_of_ble_eq_true rfl⟩) (wk_preV (ci := 2) (q0 := 0) hPc hK hDc rfl rfl) rfl rfl hl.1 rfl (lv_room (Nat.le_of_ble_eq_true rfl)) d_S_isRightFirst_22 ⟨Nat.le_of_ble_eq_true rfl, Nat.le_of_ble_eq_true rfl⟩)) (fun r84 er84 => ?_)
      subst er84
      refine lv_lconst (v := 1) hx hb d_S_isRightFirst_25 (by decide) ?_
      refine W.lcmp hx hb d_S_isRightFirst_26 ?_
      refine lv_if_eq (tgt := 34) hx hb d_S_isRightFirst_27 (by decide) (fun h85 => ?_) (fun h85 => ?_)
      · have h85 := (lg_cmp_eq _ _).mp h85
        refine lv_iconst (v := 0) hx hb d_S_isRightFirst_34 (by decide) ?_
        exact W.zret (v := 0) (ty := .boolean) hx hb hr rfl (fun t ht hW => ⟨0, rfl, (by rw [if_neg (fun q => (q.2.resolve_left h81).2 (ln_e1 h85))]), ht⟩) (fun q h => nomatch h) d_S_isRightFirst_35
      · have h85 := fun q => h85 ((lg_cmp_eq _ _).mpr q)
        refine lv_iconst (v := 1) hx hb d_S_isRightFirst_30 (by decide) ?_
        refine lv_goto (tgt := 35) hx hb d_S_isRightFirst_31 (by decide) ?_
        exact W.zret (v := 1) (ty := .boolean) hx hb hr rfl (fun t ht hW => ⟨1, rfl, (by rw [if_pos ⟨hem.1, Or.inr ⟨hem.2, fun q => h85 (congrArg lN q)⟩⟩]), ht⟩) (fun q h => nomatch h) d_S_isRightFirst_35
  · refine lv_lload_n hx hb d_S_isRightFirst_8 rfl (lv_at hl 1 rfl) ?_
    refine vp_callSi (W.runS (As := [.long a]) (rest := []) ⟨hx, hb, hml, hown, hts⟩ (c_N_between l a) (tb_S hw cy_N_isBetweenZeroAndP ww_456 ww_457 rfl rfl ⟨Nat.le_of_ble_eq_true rfl, Nat.le_of_ble_eq_true rfl⟩) preEq rfl rfl hl.1 rfl (lv_room (Nat.le_of_ble_eq_true rfl)) d_S_isRightFirst_9 ⟨Nat.le_of_ble_eq_true rfl, Nat.le_of_ble_eq_true rfl⟩) (fun r86 er86 => ?_)
    subst er86
    exact W.zret (v := if bt_w a then 1 else 0) (ty := .boolean) hx hb hr (by split <;> rfl) (fun t ht hW => ⟨if bt_w a then 1 else 0, rfl, (by rw [rt_1_C h81]), ht⟩) (fun q h => nomatch h) d_S_isRightFirst_12
set_option maxHeartbeats 4000000 in
set_option maxRecDepth 100000 in
theorem c_C_awaited (l : Launch) (G : va_G) (ct : Nat → ClassId) (sz : Nat) (h0 : Nat) (hu : Nat) (wy : Int32) (sec : Nat) (bg : Int32) (st : Int32) (x : Nat) (y : Nat) (ky : Int64) (c1 : Int64) (c2 : Int64) (ms : Int64) (pw : Int64) (rc : Nat) : Met l my_C_awaitedConfirmation (tb_w my_C_awaitedConfirmation mb_C_awaitedConfirmation 1 (some .long)) ({ frames := 0, cells := 0, slots := 0, locals := 0 }) (wk_P [.ref h0] G ct [(h0, .inr (2, [.ref hu, .int wy, .long (lN sec), .int bg, .int st, .long (lN x), .long (lN y), .long ky, .long c1, .long c2, .long ms, .long pw, .long (lN rc)]))] sz) (vp_Sl (fun r => r = c2)) 0 0 (fun _ => False) := by
  refine Met.ofW (cc := mb_C_awaitedConfirmation) (maxL := 1) (ret := (some .long)) (by decide) rfl ?_
  intro p e s m args below meth c s₁ B hml hv
  obtain ⟨rfl, hsz, hP, hK, hD0⟩ := hv
  have hx := B.exec
  have hb := B.bytes
  have hr := B.returns
  have hts := atoms_spec (ws := tb_w my_C_awaitedConfirmation mb_C_awaitedConfirmation 1 (some .long)) B.pre
  have hw : ∀ w ∈ gt_tbl, w.before [.ref h0].toArray s = true := fun w h => hts w (List.mem_cons_of_mem _ h)
  have hown : s.vm.findClass cr_C = some m.cls := findClass_of_methodNamed B.named
  have hlocks := B.notSynchronized
  subst hsz
  have hD := hD0.self (sz := s.heap.size)
  generalize hAe : va_A [(h0, .inr (2, [.ref hu, .int wy, .long (lN sec), .int bg, .int st, .long (lN x), .long (lN y), .long ky, .long c1, .long c2, .long ms, .long pw, .long (lN rc)]))] s.heap.size = A at hD ⊢
  have hA : ∀ q : Nat, s.heap.size ≤ q → A q := fun q h => by rw [← hAe]; exact Or.inr h
  have hS : va_S A s.heap s.heap [] := va_S.rf
  have hP : va_P G classes [(h0, .inr (2, [.ref hu, .int wy, .long (lN sec), .int bg, .int st, .long (lN x), .long (lN y), .long ky, .long c1, .long c2, .long ms, .long pw, .long (lN rc)]))] s.heap := hP
  have hl := lv_entry ([.ref h0]) (n := 1) (Nat.le_of_ble_eq_true rfl)
  rw [lg_entry_eq]
  generalize (lg_sl ([.ref h0]) ++ List.replicate (1 - (lg_sl ([.ref h0])).length) Slot.unset).toArray = ls at hl ⊢
  have hl : lv_has ls 1 [(0, .ref h0)] := hl
  refine lv_aload_n hx hb d_C_awaitedConfirmation_0 rfl (lv_at hl 0 rfl) ?_
  refine va_get (D := G) (ci := 2) (v := .long c2) (C := cr_C) (T := cf_C) (N := 13) hx hb hw uw_C hown hK.1 hP 0 rfl rfl 9 (by decide) (hw _ ww_335) (fun x9 h9 => u_same (hw _ ww_336) x9 h9) rfl d_C_awaitedConfirmation_1 ?_
  exact W.lret (v := c2) hx hb hr (fun t ht hW => ⟨c2, rfl, rfl, ht⟩) (fun q h => nomatch h) d_C_awaitedConfirmation_4
