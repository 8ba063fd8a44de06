theorem ww_13 : (Jvm.Cond.initialized "PakeDesk$Server") ∈ gt_tbl := gt_m (List.mem_append_right _ (List.mem_append_left _ (List.mem_of_getElem? (i := 13) (by decide +kernel)))) (by decide)
theorem ww_332 : (Jvm.Cond.fieldLink "PakeDesk$Server" (86 : Nat) "PakeDesk$Server" "confirmationOfClient" "J") ∈ gt_tbl := gt_m (List.mem_append_right _ (List.mem_append_right _ (List.mem_append_left _ (List.mem_of_getElem? (i := 92) (by decide +kernel))))) (by decide)
theorem ww_333 : (Jvm.Cond.sameField "PakeDesk$Server" "PakeDesk$Session" "confirmationOfClient" "J") ∈ gt_tbl := gt_m (List.mem_append_right _ (List.mem_append_right _ (List.mem_append_left _ (List.mem_of_getElem? (i := 93) (by decide +kernel))))) (by decide)
theorem ww_400 : (Jvm.Cond.fieldLink "PakeDesk$Server" (18 : Nat) "PakeDesk$Server" "held" "J") ∈ gt_tbl := gt_m (List.mem_append_right _ (List.mem_append_right _ (List.mem_append_left _ (List.mem_of_getElem? (i := 160) (by decide +kernel))))) (by decide)
theorem ww_477 : (Jvm.Cond.selects "PakeDesk$Server" ({ cls := "PakeDesk$Session", name := "unmasked", desc := "(J)J" } : Jvm.MethodName) ({ cls := "PakeDesk$Server", name := "unmasked", desc := "(J)J" } : Jvm.MethodName)) ∈ gt_tbl := gt_m (List.mem_append_right _ (List.mem_append_right _ (List.mem_append_left _ (List.mem_of_getElem? (i := 237) (by decide +kernel))))) (by decide)
theorem ww_478 : (Jvm.Cond.instanceMethod ({ cls := "PakeDesk$Server", name := "unmasked", desc := "(J)J" } : Jvm.MethodName)) ∈ gt_tbl := gt_m (List.mem_append_right _ (List.mem_append_right _ (List.mem_append_left _ (List.mem_of_getElem? (i := 238) (by decide +kernel))))) (by decide)
theorem ww_479 : (Jvm.Cond.code ({ cls := "PakeDesk$Server", name := "unmasked", desc := "(J)J" } : Jvm.MethodName) prog_5_method_2_code (3 : Nat) (Option.some Jvm.ClassFile.FieldType.long)) ∈ gt_tbl := gt_m (List.mem_append_right _ (List.mem_append_right _ (List.mem_append_left _ (List.mem_of_getElem? (i := 239) (by decide +kernel))))) (by decide)
theorem ww_480 : (Jvm.Cond.constantLong "PakeDesk$Server" (26 : Nat) (9 : Int64)) ∈ gt_tbl := gt_m (List.mem_append_right _ (List.mem_append_right _ (List.mem_append_right _ (List.mem_append_left _ (List.mem_of_getElem? (i := 0) (by decide +kernel)))))) (by decide)
theorem ww_481 : (Jvm.Cond.methodLink "PakeDesk$Server" (28 : Nat) ({ cls := "PakeDesk$Numbers", name := "overPower", desc := "(JJJ)J" } : Jvm.MethodName)) ∈ gt_tbl := gt_m (List.mem_append_right _ (List.mem_append_right _ (List.mem_append_right _ (List.mem_append_left _ (List.mem_of_getElem? (i := 1) (by decide +kernel)))))) (by decide)
theorem cy_V_unmasked : tb_C my_V_unmasked mb_V_unmasked 3 (some .long) 1 := ⟨ww_479, ww_13, by decide, by decide, by decide +kernel⟩
theorem d_V_init_0 : decode mb_V_init 0 = .ok (.aload_n 0, 1) := by decide +kernel
theorem d_V_init_1 : decode mb_V_init 1 = .ok (.aload_n 1, 1) := by decide +kernel
theorem d_V_init_2 : decode mb_V_init 2 = .ok (.iload_n 2, 1) := by decide +kernel
theorem d_V_init_3 : decode mb_V_init 3 = .ok (.lload_n 3, 1) := by decide +kernel
theorem d_V_init_4 : decode mb_V_init 4 = .ok (.iload 5, 2) := by decide +kernel
theorem d_V_init_6 : decode mb_V_init 6 = .ok (.invokespecial 3, 3) := by decide +kernel
theorem d_V_init_9 : decode mb_V_init 9 = .ok (.aload_n 0, 1) := by decide +kernel
theorem d_V_init_10 : decode mb_V_init 10 = .ok (.iload_n 2, 1) := by decide +kernel
theorem d_V_init_11 : decode mb_V_init 11 = .ok (.ifCond .ne 10, 3) := by decide +kernel
theorem d_V_init_14 : decode mb_V_init 14 = .ok (.aload_n 1, 1) := by decide +kernel
theorem d_V_init_15 : decode mb_V_init 15 = .ok (.invokevirtual 9, 3) := by decide +kernel
theorem d_V_init_18 : decode mb_V_init 18 = .ok (.goto 7, 3) := by decide +kernel
theorem d_V_init_21 : decode mb_V_init 21 = .ok (.aload_n 1, 1) := by decide +kernel
theorem d_V_init_22 : decode mb_V_init 22 = .ok (.invokevirtual 15, 3) := by decide +kernel
theorem d_V_init_25 : decode mb_V_init 25 = .ok (.putfield 18, 3) := by decide +kernel
theorem d_V_init_28 : decode mb_V_init 28 = .ok (.return_, 1) := by decide +kernel
theorem d_V_unmasked_0 : decode mb_V_unmasked 0 = .ok (.lload_n 1, 1) := by decide +kernel
theorem d_V_unmasked_1 : decode mb_V_unmasked 1 = .ok (.ldc2_w 26, 3) := by decide +kernel
theorem d_V_unmasked_4 : decode mb_V_unmasked 4 = .ok (.aload_n 0, 1) := by decide +kernel
theorem d_V_unmasked_5 : decode mb_V_unmasked 5 = .ok (.getfield 18, 3) := by decide +kernel
theorem d_V_unmasked_8 : decode mb_V_unmasked 8 = .ok (.invokestatic 28, 3) := by decide +kernel
theorem d_V_unmasked_11 : decode mb_V_unmasked 11 = .ok (.lreturn, 1) := by decide +kernel
theorem d_V_answerFirst_0 : decode mb_V_answerFirst 0 = .ok (.aload_n 0, 1) := by decide +kernel
theorem d_V_answerFirst_1 : decode mb_V_answerFirst 1 = .ok (.lload_n 1, 1) := by decide +kernel
theorem d_V_answerFirst_2 : decode mb_V_answerFirst 2 = .ok (.putfield 32, 3) := by decide +kernel
theorem d_V_answerFirst_5 : decode mb_V_answerFirst 5 = .ok (.ldc2_w 35, 3) := by decide +kernel
theorem d_V_answerFirst_8 : decode mb_V_answerFirst 8 = .ok (.aload_n 0, 1) := by decide +kernel
theorem d_V_answerFirst_9 : decode mb_V_answerFirst 9 = .ok (.getfield 37, 3) := by decide +kernel
theorem d_V_answerFirst_12 : decode mb_V_answerFirst 12 = .ok (.invokestatic 40, 3) := by decide +kernel
theorem d_V_answerFirst_15 : decode mb_V_answerFirst 15 = .ok (.lstore_n 3, 1) := by decide +kernel
theorem d_V_answerFirst_16 : decode mb_V_answerFirst 16 = .ok (.aload_n 0, 1) := by decide +kernel
theorem d_V_answerFirst_17 : decode mb_V_answerFirst 17 = .ok (.getfield 44, 3) := by decide +kernel
theorem d_V_answerFirst_20 : decode mb_V_answerFirst 20 = .ok (.ifCond .ne 41, 3) := by decide +kernel
theorem d_V_answerFirst_23 : decode mb_V_answerFirst 23 = .ok (.aload_n 0, 1) := by decide +kernel
theorem d_V_answerFirst_24 : decode mb_V_answerFirst 24 = .ok (.lload_n 3, 1) := by decide +kernel
theorem d_V_answerFirst_25 : decode mb_V_answerFirst 25 = .ok (.ldc2_w 48, 3) := by decide +kernel
theorem d_V_answerFirst_28 : decode mb_V_answerFirst 28 = .ok (.aload_n 0, 1) := by decide +kernel
theorem d_V_answerFirst_29 : decode mb_V_answerFirst 29 = .ok (.getfield 18, 3) := by decide +kernel
theorem d_V_answerFirst_32 : decode mb_V_answerFirst 32 = .ok (.invokestatic 40, 3) := by decide +kernel
theorem d_V_answerFirst_35 : decode mb_V_answerFirst 35 = .ok (.invokestatic 50, 3) := by decide +kernel
theorem d_V_answerFirst_38 : decode mb_V_answerFirst 38 = .ok (.putfield 53, 3) := by decide +kernel
theorem d_V_answerFirst_41 : decode mb_V_answerFirst 41 = .ok (.aload_n 0, 1) := by decide +kernel
theorem d_V_answerFirst_42 : decode mb_V_answerFirst 42 = .ok (.aload_n 0, 1) := by decide +kernel
theorem d_V_answerFirst_43 : decode mb_V_answerFirst 43 = .ok (.aload_n 0, 1) := by decide +kernel
theorem d_V_answerFirst_44 : decode mb_V_answerFirst 44 = .ok (.lload_n 1, 1) := by decide +kernel
theorem d_V_answerFirst_45 : decode mb_V_answerFirst 45 = .ok (.invokevirtual 56, 3) := by decide +kernel
theorem d_V_answerFirst_48 : decode mb_V_answerFirst 48 = .ok (.aload_n 0, 1) := by decide +kernel
theorem d_V_answerFirst_49 : decode mb_V_answerFirst 49 = .ok (.getfield 18, 3) := by decide +kernel
theorem d_V_answerFirst_52 : decode mb_V_answerFirst 52 = .ok (.invokevirtual 60, 3) := by decide +kernel
theorem d_V_answerFirst_55 : decode mb_V_answerFirst 55 = .ok (.putfield 63, 3) := by decide +kernel
theorem d_V_answerFirst_58 : decode mb_V_answerFirst 58 = .ok (.goto 37, 3) := by decide +kernel
theorem d_V_answerFirst_61 : decode mb_V_answerFirst 61 = .ok (.aload_n 0, 1) := by decide +kernel
theorem d_V_answerFirst_62 : decode mb_V_answerFirst 62 = .ok (.ldc2_w 66, 3) := by decide +kernel
theorem d_V_answerFirst_65 : decode mb_V_answerFirst 65 = .ok (.aload_n 0, 1) := by decide +kernel
theorem d_V_answerFirst_66 : decode mb_V_answerFirst 66 = .ok (.getfield 18, 3) := by decide +kernel
theorem d_V_answerFirst_69 : decode mb_V_answerFirst 69 = .ok (.lmul, 1) := by decide +kernel
theorem d_V_answerFirst_70 : decode mb_V_answerFirst 70 = .ok (.lload_n 3, 1) := by decide +kernel
theorem d_V_answerFirst_71 : decode mb_V_answerFirst 71 = .ok (.ladd, 1) := by decide +kernel
theorem d_V_answerFirst_72 : decode mb_V_answerFirst 72 = .ok (.ldc2_w 68, 3) := by decide +kernel
theorem d_V_answerFirst_75 : decode mb_V_answerFirst 75 = .ok (.lrem, 1) := by decide +kernel
theorem d_V_answerFirst_76 : decode mb_V_answerFirst 76 = .ok (.putfield 53, 3) := by decide +kernel
theorem d_V_answerFirst_79 : decode mb_V_answerFirst 79 = .ok (.aload_n 0, 1) := by decide +kernel
theorem d_V_answerFirst_80 : decode mb_V_answerFirst 80 = .ok (.aload_n 0, 1) := by decide +kernel
theorem d_V_answerFirst_81 : decode mb_V_answerFirst 81 = .ok (.aload_n 0, 1) := by decide +kernel
theorem d_V_answerFirst_82 : decode mb_V_answerFirst 82 = .ok (.aload_n 0, 1) := by decide +kernel
theorem d_V_answerFirst_83 : decode mb_V_answerFirst 83 = .ok (.invokevirtual 70, 3) := by decide +kernel
theorem d_V_answerFirst_86 : decode mb_V_answerFirst 86 = .ok (.invokevirtual 73, 3) := by decide +kernel
theorem d_V_answerFirst_89 : decode mb_V_answerFirst 89 = .ok (.invokevirtual 76, 3) := by decide +kernel
theorem d_V_answerFirst_92 : decode mb_V_answerFirst 92 = .ok (.putfield 63, 3) := by decide +kernel
theorem d_V_answerFirst_95 : decode mb_V_answerFirst 95 = .ok (.aload_n 0, 1) := by decide +kernel
theorem d_V_answerFirst_96 : decode mb_V_answerFirst 96 = .ok (.invokevirtual 79, 3) := by decide +kernel
theorem d_V_answerFirst_99 : decode mb_V_answerFirst 99 = .ok (.aload_n 0, 1) := by decide +kernel
theorem d_V_answerFirst_100 : decode mb_V_answerFirst 100 = .ok (.aload_n 0, 1) := by decide +kernel
theorem d_V_answerFirst_101 : decode mb_V_answerFirst 101 = .ok (.getfield 53, 3) := by decide +kernel
theorem d_V_answerFirst_104 : decode mb_V_answerFirst 104 = .ok (.putfield 83, 3) := by decide +kernel
theorem d_V_answerFirst_107 : decode mb_V_answerFirst 107 = .ok (.return_, 1) := by decide +kernel
theorem d_V_common_0 : decode mb_V_common 0 = .ok (.aload_n 0, 1) := by decide +kernel
theorem d_V_common_1 : decode mb_V_common 1 = .ok (.getfield 32, 3) := by decide +kernel
theorem d_V_common_4 : decode mb_V_common 4 = .ok (.aload_n 0, 1) := by decide +kernel
theorem d_V_common_5 : decode mb_V_common 5 = .ok (.getfield 18, 3) := by decide +kernel
theorem d_V_common_8 : decode mb_V_common 8 = .ok (.lload_n 1, 1) := by decide +kernel
theorem d_V_common_9 : decode mb_V_common 9 = .ok (.invokestatic 40, 3) := by decide +kernel
theorem d_V_common_12 : decode mb_V_common 12 = .ok (.invokestatic 50, 3) := by decide +kernel
theorem d_V_common_15 : decode mb_V_common 15 = .ok (.aload_n 0, 1) := by decide +kernel
theorem d_V_common_16 : decode mb_V_common 16 = .ok (.getfield 37, 3) := by decide +kernel
theorem d_V_common_19 : decode mb_V_common 19 = .ok (.invokestatic 40, 3) := by decide +kernel
theorem d_V_common_22 : decode mb_V_common 22 = .ok (.lreturn, 1) := by decide +kernel
theorem d_V_awaitedConfirmation_0 : decode mb_V_awaitedConfirmation 0 = .ok (.aload_n 0, 1) := by decide +kernel
theorem d_V_awaitedConfirmation_1 : decode mb_V_awaitedConfirmation 1 = .ok (.getfield 86, 3) := by decide +kernel
theorem d_V_awaitedConfirmation_4 : decode mb_V_awaitedConfirmation 4 = .ok (.lreturn, 1) := by decide +kernel
theorem d_V_endWith_0 : decode mb_V_endWith 0 = .ok (.iload_n 1, 1) := by decide +kernel
theorem d_V_endWith_1 : decode mb_V_endWith 1 = .ok (.ifCond .eq 22, 3) := by decide +kernel
theorem d_V_endWith_4 : decode mb_V_endWith 4 = .ok (.aload_n 0, 1) := by decide +kernel
theorem d_V_endWith_5 : decode mb_V_endWith 5 = .ok (.aload_n 0, 1) := by decide +kernel
theorem d_V_endWith_6 : decode mb_V_endWith 6 = .ok (.getfield 89, 3) := by decide +kernel
theorem d_V_endWith_9 : decode mb_V_endWith 9 = .ok (.putfield 83, 3) := by decide +kernel
theorem d_V_endWith_12 : decode mb_V_endWith 12 = .ok (.aload_n 0, 1) := by decide +kernel
theorem d_V_endWith_13 : decode mb_V_endWith 13 = .ok (.getfield 92, 3) := by decide +kernel
theorem d_V_endWith_16 : decode mb_V_endWith 16 = .ok (.iconst 0, 1) := by decide +kernel
theorem d_V_endWith_17 : decode mb_V_endWith 17 = .ok (.putfield 96, 3) := by decide +kernel
theorem d_V_endWith_20 : decode mb_V_endWith 20 = .ok (.goto 11, 3) := by decide +kernel
theorem d_V_endWith_23 : decode mb_V_endWith 23 = .ok (.aload_n 0, 1) := by decide +kernel
theorem d_V_endWith_24 : decode mb_V_endWith 24 = .ok (.getfield 92, 3) := by decide +kernel
theorem d_V_endWith_27 : decode mb_V_endWith 27 = .ok (.iload_n 2, 1) := by decide +kernel
theorem d_V_endWith_28 : decode mb_V_endWith 28 = .ok (.invokevirtual 99, 3) := by decide +kernel
theorem d_V_endWith_31 : decode mb_V_endWith 31 = .ok (.return_, 1) := by decide +kernel
set_option maxHeartbeats 4000000 in
set_option maxRecDepth 100000 in
theorem c_V_super (l : Launch) (G : va_G) (ct : Nat → ClassId) (sz : Nat) (h0 : Nat) (hu : Nat) (wy : Int32) (se : Int64) (bg : Int32) : Met l my_S_init (tb_w my_S_init mb_S_init 6 none) ({ frames := 1, cells := 0, slots := 0, locals := 21 }) (wk_P [.ref h0, .ref hu, .int wy, .long se, .int bg] G ct [(h0, .inr (3, [.null, .int 0, .long 0, .int 0, .int 0, .long 0, .long 0, .long 0, .long 0, .long 0, .long 0, .long 0]))] sz) (wk_Q (wk_ov (S := Unit) (fun _ => True)) (fun _ : Unit => [(h0, .inr (3, [.ref hu, .int wy, .long (lN (sc_n se)), .int bg, .int 0, .long (lN 0), .long (lN 0), .long 0, .long 0, .long 0, .long 0, .long (lN 0)]))]) G (va_A [(h0, .inr (3, [.null, .int 0, .long 0, .int 0, .int 0, .long 0, .long 0, .long 0, .long 0, .long 0, .long 0, .long 0]))] sz)) 0 0 (va_A [(h0, .inr (3, [.null, .int 0, .long 0, .int 0, .int 0, .long 0, .long 0, .long 0, .long 0, .long 0, .long 0, .long 0]))] sz) := by
  refine Met.ofW (cc := mb_S_init) (maxL := 6) (ret := none) (by decide) rfl ?_
  intro p e s m args below meth c s₁ B hml hv
  obtain ⟨rfl, hsz, hP, hK, hD0⟩ := hv
  have hx := B.exec
  have hb := B.bytes
  have hr := B.returns
  have hts := atoms_spec (ws := tb_w my_S_init mb_S_init 6 none) B.pre
  have hw : ∀ w ∈ gt_tbl, w.before [.ref h0, .ref hu, .int wy, .long se, .int bg].toArray s = true := fun w h => hts w (List.mem_cons_of_mem _ h)
  have hown : s.vm.findClass cr_S = some m.cls := findClass_of_methodNamed B.named
  have hlocks := B.notSynchronized
  have hin : meth.name = "<init>" := (name_of_methodNamed B.named B.method).1
  subst hsz
  have hD := hD0.self (sz := s.heap.size)
  generalize hAe : va_A [(h0, .inr (3, [.null, .int 0, .long 0, .int 0, .int 0, .long 0, .long 0, .long 0, .long 0, .long 0, .long 0, .long 0]))] s.heap.size = A at hD ⊢
  have hA : ∀ q : Nat, s.heap.size ≤ q → A q := fun q h => by rw [← hAe]; exact Or.inr h
  have hS : va_S A s.heap s.heap [] := va_S.rf
  have hP : va_P G classes [(h0, .inr (3, [.null, .int 0, .long 0, .int 0, .int 0, .long 0, .long 0, .long 0, .long 0, .long 0, .long 0, .long 0]))] s.heap := hP
  have hl := lv_entry ([.ref h0, .ref hu, .int wy, .long se, .int bg]) (n := 6) (Nat.le_of_ble_eq_true rfl)
  rw [lg_entry_eq]
  generalize (lg_sl ([.ref h0, .ref hu, .int wy, .long se, .int bg]) ++ List.replicate (6 - (lg_sl ([.ref h0, .ref hu, .int wy, .long se, .int bg])).length) Slot.unset).toArray = ls at hl ⊢
  have hl : lv_has ls 6 [(0, .ref h0), (1, .ref hu), (2, .int wy), (3, .long se), (5, .int bg)] := hl
  refine lv_aload_n hx hb d_S_init_0 rfl (lv_at hl 0 rfl) ?_
  refine W.objInit hx hb hown (hw _ ww_285) (hw _ ww_23) (hw _ ww_24) rfl (by rw [hml]; exact hl.1) rfl d_S_init_1 (Nat.le_of_ble_eq_true rfl) (Nat.le_of_ble_eq_true rfl) ?_
  refine W.eq (g2 := F0 m 4 ls []) rfl ?_
  refine lv_aload_n hx hb d_S_init_4 rfl (lv_at hl 0 rfl) ?_
  refine lv_aload_n hx hb d_S_init_5 rfl (lv_at hl 1 rfl) ?_
  refine va_putF (D := G) (ci := 3) (v := .ref hu) (ty := (.object "PakeDesk$User")) (C := cr_V) (T := cf_V) (N := 12) hx hb hw uw_V ct_V ct_V_ok ct_V_nm hown hK.1 hP hD hS 0 rfl rfl 0 (by decide) (hw _ ww_296) (fun _ h9 => h9) rfl hin rfl (by decide +kernel) rfl rfl (Nat.le_of_ble_eq_true rfl) d_S_init_6 (fun H locs hP hD hS => ?_)
  have hP : va_P G classes [(h0, .inr (3, [.ref hu, .int 0, .long 0, .int 0, .int 0, .long 0, .long 0, .long 0, .long 0, .long 0, .long 0, .long 0]))] H := hP
  have hD : va_D A [(h0, .inr (3, [.ref hu, .int 0, .long 0, .int 0, .int 0, .long 0, .long 0, .long 0, .long 0, .long 0, .long 0, .long 0]))] := hD
  refine lv_aload_n hx hb d_S_init_9 rfl (lv_at hl 0 rfl) ?_
  refine lv_iload_n hx hb d_S_init_10 rfl (lv_at hl 2 rfl) ?_
  refine va_putF (D := G) (ci := 3) (v := .int wy) (ty := .int) (C := cr_V) (T := cf_V) (N := 12) hx hb hw uw_V ct_V ct_V_ok ct_V_nm hown hK.1 hP hD hS 0 rfl rfl 1 (by decide) (hw _ ww_301) (fun _ h9 => h9) rfl hin rfl (by decide +kernel) rfl rfl (Nat.le_of_ble_eq_true rfl) d_S_init_11 (fun H locs hP hD hS => ?_)
  have hP : va_P G classes [(h0, .inr (3, [.ref hu, .int wy, .long 0, .int 0, .int 0, .long 0, .long 0, .long 0, .long 0, .long 0, .long 0, .long 0]))] H := hP
  have hD : va_D A [(h0, .inr (3, [.ref hu, .int wy, .long 0, .int 0, .int 0, .long 0, .long 0, .long 0, .long 0, .long 0, .long 0, .long 0]))] := hD
  refine lv_aload_n hx hb d_S_init_14 rfl (lv_at hl 0 rfl) ?_
  refine lv_lload_n hx hb d_S_init_15 rfl (lv_at hl 3 rfl) ?_
  refine vp_callSl (W.runS (As := [.long se]) (rest := [.ref h0]) ⟨hx, hb, hml, hown, hts⟩ (c_N_scalar l se) (tb_S hw cy_N_scalar ww_286 ww_114 rfl rfl ⟨Nat.le_of_ble_eq_true rfl, Nat.le_of_ble_eq_true rfl⟩) preEq rfl rfl hl.1 rfl (lv_room (Nat.le_of_ble_eq_true rfl)) d_S_init_16 ⟨Nat.le_of_ble_eq_true rfl, Nat.le_of_ble_eq_true rfl⟩) (fun r122 er122 => ?_)
  subst er122
  refine va_putF (D := G) (ci := 3) (v := .long (lN (sc_n se))) (ty := .long) (C := cr_V) (T := cf_V) (N := 12) hx hb hw uw_V ct_V ct_V_ok ct_V_nm hown hK.1 hP hD hS 0 rfl rfl 2 (by decide) (hw _ ww_306) (fun _ h9 => h9) rfl hin rfl (by decide +kernel) rfl rfl (Nat.le_of_ble_eq_true rfl) d_S_init_19 (fun H locs hP hD hS => ?_)
  have hP : va_P G classes [(h0, .inr (3, [.ref hu, .int wy, .long (lN (sc_n se)), .int 0, .int 0, .long 0, .long 0, .long 0, .long 0, .long 0, .long 0, .long 0]))] H := hP
  have hD : va_D A [(h0, .inr (3, [.ref hu, .int wy, .long (lN (sc_n se)), .int 0, .int 0, .long 0, .long 0, .long 0, .long 0, .long 0, .long 0, .long 0]))] := hD
  refine lv_aload_n hx hb d_S_init_22 rfl (lv_at hl 0 rfl) ?_
  refine lv_iload hx hb d_S_init_23 (lv_at hl 4 rfl) ?_
  refine va_putF (D := G) (ci := 3) (v := .int bg) (ty := .int) (C := cr_V) (T := cf_V) (N := 12) hx hb hw uw_V ct_V ct_V_ok ct_V_nm hown hK.1 hP hD hS 0 rfl rfl 3 (by decide) (hw _ ww_311) (fun _ h9 => h9) rfl hin rfl (by decide +kernel) rfl rfl (Nat.le_of_ble_eq_true rfl) d_S_init_25 (fun H locs hP hD hS => ?_)
  have hP : va_P G classes [(h0, .inr (3, [.ref hu, .int wy, .long (lN (sc_n se)), .int bg, .int 0, .long 0, .long 0, .long 0, .long 0, .long 0, .long 0, .long 0]))] H := hP
  have hD : va_D A [(h0, .inr (3, [.ref hu, .int wy, .long (lN (sc_n se)), .int bg, .int 0, .long 0, .long 0, .long 0, .long 0, .long 0, .long 0, .long 0]))] := hD
  refine lv_aload_n hx hb d_S_init_28 rfl (lv_at hl 0 rfl) ?_
  refine lv_iconst (v := 0) hx hb d_S_init_29 (by decide) ?_
  refine va_put (D := G) (ci := 3) (v := .int 0) (ty := .int) (C := cr_V) (T := cf_V) (N := 12) hx hb hw uw_V ct_V ct_V_ok ct_V_nm hown hK.1 hP hD hS 0 rfl rfl 4 (by decide) (hw _ ww_312) (fun _ h9 => h9) rfl (by decide +kernel) rfl rfl (Nat.le_of_ble_eq_true rfl) d_S_init_30 (fun H locs hP hD hS => ?_)
  have hP : va_P G classes [(h0, .inr (3, [.ref hu, .int wy, .long (lN (sc_n se)), .int bg, .int 0, .long 0, .long 0, .long 0, .long 0, .long 0, .long 0, .long 0]))] H := hP
  have hD : va_D A [(h0, .inr (3, [.ref hu, .int wy, .long (lN (sc_n se)), .int bg, .int 0, .long 0, .long 0, .long 0, .long 0, .long 0, .long 0, .long 0]))] := hD
  exact W.vret hx hb hr (fun t ht hW => ⟨⟨(), ⟨rfl, trivial⟩, by rw [ht]; exact hP, hD⟩, hS.F ht⟩) hS.2.2 d_S_init_33
set_option maxHeartbeats 4000000 in
set_option maxRecDepth 100000 in
theorem c_V_stateAt (l : Launch) (G : va_G) (ct : Nat → ClassId) (sz : Nat) (h0 : Nat) (hu : Nat) (wy : Int32) (sec : Nat) (bg : Int32) (st : Int32) (x : Nat) (y : Nat) (ky : Int64) (c1 : Int64) (c2 : Int64) (ms : Int64) (rc : Nat) (ck : Int32) : Met l my_S_stateAt (tb_w my_S_stateAt mb_S_stateAt 3 (some .int)) ({ frames := 0, cells := 0, slots := 0, locals := 0 }) (wk_P [.ref h0, .int ck] G ct [(h0, .inr (3, [.ref hu, .int wy, .long (lN sec), .int bg, .int st, .long (lN x), .long (lN y), .long ky, .long c1, .long c2, .long ms, .long (lN rc)]))] sz) (vp_Si (fun r => r = se_at st bg ck)) 0 0 (fun _ => False) := by
  refine Met.ofW (cc := mb_S_stateAt) (maxL := 3) (ret := (some .int)) (by decide) rfl ?_
  intro p e s m args below meth c s₁ B hml hv
  obtain ⟨rfl, hsz, hP, hK, hD0⟩ := hv
  have hx := B.exec
  have hb := B.bytes
  have hr := B.returns
  have hts := atoms_spec (ws := tb_w my_S_stateAt mb_S_stateAt 3 (some .int)) B.pre
  have hw : ∀ w ∈ gt_tbl, w.before [.ref h0, .int ck].toArray s = true := fun w h => hts w (List.mem_cons_of_mem _ h)
  have hown : s.vm.findClass cr_S = some m.cls := findClass_of_methodNamed B.named
  have hlocks := B.notSynchronized
  subst hsz
  have hD := hD0.self (sz := s.heap.size)
  generalize hAe : va_A [(h0, .inr (3, [.ref hu, .int wy, .long (lN sec), .int bg, .int st, .long (lN x), .long (lN y), .long ky, .long c1, .long c2, .long ms, .long (lN rc)]))] s.heap.size = A at hD ⊢
  have hA : ∀ q : Nat, s.heap.size ≤ q → A q := fun q h => by rw [← hAe]; exact Or.inr h
  have hS : va_S A s.heap s.heap [] := va_S.rf
  have hP : va_P G classes [(h0, .inr (3, [.ref hu, .int wy, .long (lN sec), .int bg, .int st, .long (lN x), .long (lN y), .long ky, .long c1, .long c2, .long ms, .long (lN rc)]))] s.heap := hP
  have hl := lv_entry ([.ref h0, .int ck]) (n := 3) (Nat.le_of_ble_eq_true rfl)
  rw [lg_entry_eq]
  generalize (lg_sl ([.ref h0, .int ck]) ++ List.replicate (3 - (lg_sl ([.ref h0, .int ck])).length) Slot.unset).toArray = ls at hl ⊢
  have hl : lv_has ls 3 [(0, .ref h0), (1, .int ck)] := hl
  refine lv_aload_n hx hb d_S_stateAt_0 rfl (lv_at hl 0 rfl) ?_
  refine va_get (D := G) (ci := 3) (v := .int st) (C := cr_V) (T := cf_V) (N := 12) hx hb hw uw_V hown hK.1 hP 0 rfl rfl 4 (by decide) (hw _ ww_312) (fun _ h9 => h9) rfl d_S_stateAt_1 ?_
  refine lv_if_eq (tgt := 15) hx hb d_S_stateAt_4 (by decide) (fun h123 => ?_) (fun h123 => ?_)
  · refine lv_iconst (v := 1) hx hb d_S_stateAt_15 (by decide) ?_
    refine lv_goto (tgt := 20) hx hb d_S_stateAt_16 (by decide) ?_
    refine lv_istore_n (lv' := [(2, .int 1), (0, .ref h0), (1, .int ck)]) hx hb d_S_stateAt_20 rfl hl (Nat.le_of_ble_eq_true rfl) rfl (fun ls hl => ?_)
    refine lv_iload_n hx hb d_S_stateAt_21 rfl (lv_at hl 0 rfl) ?_
    refine lv_if_eq (tgt := 40) hx hb d_S_stateAt_22 (by decide) (fun h124 => ?_) (fun h124 => ?_)
    · exact absurd h124 (by decide)
    · refine lv_iload_n hx hb d_S_stateAt_25 rfl (lv_at hl 2 rfl) ?_
      refine lv_aload_n hx hb d_S_stateAt_26 rfl (lv_at hl 1 rfl) ?_
      refine va_get (D := G) (ci := 3) (v := .int bg) (C := cr_V) (T := cf_V) (N := 12) hx hb hw uw_V hown hK.1 hP 0 rfl rfl 3 (by decide) (hw _ ww_311) (fun _ h9 => h9) rfl d_S_stateAt_27 ?_
      refine lv_isub hx hb d_S_stateAt_30 ?_
      refine lv_bipush (v := 20) hx hb d_S_stateAt_31 (by decide) ?_
      refine lv_icmp_lt (tgt := 40) hx hb d_S_stateAt_33 (by decide) (fun h125 => ?_) (fun h125 => ?_)
      · refine lv_aload_n hx hb d_S_stateAt_40 rfl (lv_at hl 1 rfl) ?_
        refine va_get (D := G) (ci := 3) (v := .int st) (C := cr_V) (T := cf_V) (N := 12) hx hb hw uw_V hown hK.1 hP 0 rfl rfl 4 (by decide) (hw _ ww_312) (fun _ h9 => h9) rfl d_S_stateAt_41 ?_
        exact W.iret (v := st) hx hb hr (fun t ht hW => ⟨st, rfl, (by unfold se_at; rw [if_neg (fun q => (Int32.not_le.mpr h125) q.2)]), ht⟩) (fun q h => nomatch h) d_S_stateAt_44
      · refine lv_iconst (v := 4) hx hb d_S_stateAt_36 (by decide) ?_
        refine lv_goto (tgt := 44) hx hb d_S_stateAt_37 (by decide) ?_
        exact W.iret (v := 4) hx hb hr (fun t ht hW => ⟨4, rfl, (by unfold se_at; rw [if_pos ⟨Or.inl h123, Int32.not_lt.mp h125⟩]), ht⟩) (fun q h => nomatch h) d_S_stateAt_44
  · refine lv_aload_n hx hb d_S_stateAt_7 rfl (lv_at hl 0 rfl) ?_
    refine va_get (D := G) (ci := 3) (v := .int st) (C := cr_V) (T := cf_V) (N := 12) hx hb hw uw_V hown hK.1 hP 0 rfl rfl 4 (by decide) (hw _ ww_312) (fun _ h9 => h9) rfl d_S_stateAt_8 ?_
    refine lv_iconst (v := 1) hx hb d_S_stateAt_11 (by decide) ?_
    refine lv_icmp_ne (tgt := 19) hx hb d_S_stateAt_12 (by decide) (fun h126 => ?_) (fun h126 => ?_)
    · refine lv_iconst (v := 0) hx hb d_S_stateAt_19 (by decide) ?_
      refine lv_istore_n (lv' := [(2, .int 0), (0, .ref h0), (1, .int ck)]) hx hb d_S_stateAt_20 rfl hl (Nat.le_of_ble_eq_true rfl) rfl (fun ls hl => ?_)
      refine lv_iload_n hx hb d_S_stateAt_21 rfl (lv_at hl 0 rfl) ?_
      refine lv_if_eq (tgt := 40) hx hb d_S_stateAt_22 (by decide) (fun h127 => ?_) (fun h127 => ?_)
      · refine lv_aload_n hx hb d_S_stateAt_40 rfl (lv_at hl 1 rfl) ?_
        refine va_get (D := G) (ci := 3) (v := .int st) (C := cr_V) (T := cf_V) (N := 12) hx hb hw uw_V hown hK.1 hP 0 rfl rfl 4 (by decide) (hw _ ww_312) (fun _ h9 => h9) rfl d_S_stateAt_41 ?_
        exact W.iret (v := st) hx hb hr (fun t ht hW => ⟨st, rfl, (by unfold se_at; rw [if_neg (fun q => q.1.elim h123 h126)]), ht⟩) (fun q h => nomatch h) d_S_stateAt_44
      · exact absurd h127 (by decide)
    · refine lv_iconst (v := 1) hx hb d_S_stateAt_15 (by decide) ?_
      refine lv_goto (tgt := 20) hx hb d_S_stateAt_16 (by decide) ?_
      refine lv_istore_n (lv' := [(2, .int 1), (0, .ref h0), (1, .int ck)]) hx hb d_S_stateAt_20 rfl hl (Nat.le_of_ble_eq_true rfl) rfl (fun ls hl => ?_)
      refine lv_iload_n hx hb d_S_stateAt_21 rfl (lv_at hl 0 rfl) ?_
      refine lv_if_eq (tgt := 40) hx hb d_S_stateAt_22 (by decide) (fun h128 => ?_) (fun h128 => ?_)
      · exact absurd h128 (by decide)
      · refine lv_iload_n hx hb d_S_stateAt_25 rfl (lv_at hl 2 rfl) ?_
        refine lv_aload_n hx hb d_S_stateAt_26 rfl (lv_at hl 1 rfl) ?_
        refine va_get (D := G) (ci := 3) (v := .int bg) (C := cr_V) (T := cf_V) (N := 12) hx hb hw uw_V hown hK.1 hP 0 rfl rfl 3 (by decide) (hw _ ww_311) (fun _ h9 => h9) rfl d_S_stateAt_27 ?_
        refine lv_isub hx hb d_S_stateAt_30 ?_
        refine lv_bipush (v := 20) hx hb d_S_stateAt_31 (by decide) ?_
        refine lv_icmp_lt (tgt := 40) hx hb d_S_stateAt_33 (by decide) (fun h129 => ?_) (fun h129 => ?_)
        · refine lv_aload_n hx hb d_S_stateAt_40 rfl (lv_at hl 1 rfl) ?_
          refine va_get (D := G) (ci := 3) (v := .int st) (C := cr_V) (T := cf_V) (N := 12) hx hb hw uw_V hown hK.1 hP 0 rfl rfl 4 (by decide) (hw _ ww_312) (fun _ h9 => h9) rfl d_S_stateAt_41 ?_
          exact W.iret (v := st) hx hb hr (fun t ht hW => ⟨st, rfl, (by unfold se_at; rw [if_neg (fun q => (Int32.not_le.mpr h129) q.2)]), ht⟩) (fun q h => nomatch h) d_S_stateAt_44
        · refine lv_iconst (v := 4) hx hb d_S_stateAt_36 (by decide) ?_
          refine lv_goto (tgt := 44) hx hb d_S_stateAt_37 (by decide) ?_
          exact W.iret (v := 4) hx hb hr (fun t ht hW => ⟨4, rfl, (by unfold se_at; rw [if_pos ⟨Or.inr h126, Int32.not_lt.mp h129⟩]), ht⟩) (fun q h => nomatch h) d_S_stateAt_44
set_option maxHeartbeats 4000000 in
set_option maxRecDepth 100000 in
theorem c_V_keyByWord (l : Launch) (G : va_G) (ct : Nat → ClassId) (sz : Nat) (h0 : Nat) (hu : Nat) (wy : Int32) (sec : Nat) (bg : Int32) (st : Int32) (x : Nat) (y : Nat) (ky : Int64) (c1 : Int64) (c2 : Int64) (ms : Int64) (rc : Nat) (nb : Int32) (sd : Int32) (uw : Int32) (uo : Nat) (ul : Int64) (uv : Nat) (uf : Int32) (u1 : Int32) (u2 : Int32) (u3 : Int32) (um : Nat) (w0 : Nat) (hs1 : sec < pq_Q) (hu1 : um < pq_P) : Met l my_S_keyByWord (tb_w my_S_keyByWord mb_S_keyByWord 5 (some .long)) ({ frames := 2, cells := 0, slots := 0, locals := 59 }) (wk_P [.ref h0, .long (lN um), .long (lN w0)] G ct [(h0, .inr (3, [.ref hu, .int wy, .long (lN sec), .int bg, .int st, .long (lN x), .long (lN y), .long ky, .long c1, .long c2, .long ms, .long (lN rc)])), (hu, .inr (1, [.int nb, .int sd, .int uw, .long (lN uo), .long ul, .long (lN uv), .int uf, .int u1, .int u2, .int u3]))] sz) (vp_Sl (fun r => r = ky_w nb x y (pw_m um sec) w0)) 0 0 (fun _ => False) := by
  refine Met.ofW (cc := mb_S_keyByWord) (maxL := 5) (ret := (some .long)) (by decide) rfl ?_
  intro p e s m args below meth c s₁ B hml hv
  obtain ⟨rfl, hsz, hP, hK, hD0⟩ := hv
  have hx := B.exec
  have hb := B.bytes
  have hr := B.returns
  have hts := atoms_spec (ws := tb_w my_S_keyByWord mb_S_keyByWord 5 (some .long)) B.pre
  have hw : ∀ w ∈ gt_tbl, w.before [.ref h0, .long (lN um), .long (lN w0)].toArray s = true := fun w h => hts w (List.mem_cons_of_mem _ h)
  have hown : s.vm.findClass cr_S = some m.cls := findClass_of_methodNamed B.named
  have hlocks := B.notSynchronized
  subst hsz
  have hD := hD0.self (sz := s.heap.size)
  generalize hAe : va_A [(h0, .inr (3, [.ref hu, .int wy, .long (lN sec), .int bg, .int st, .long (lN x), .long (lN y), .long ky, .long c1, .long c2, .long ms, .long (lN rc)])), (hu, .inr (1, [.int nb, .int sd, .int uw, .long (lN uo), .long ul, .long (lN uv), .int uf, .int u1, .int u2, .int u3]))] s.heap.size = A at hD ⊢
  have hA : ∀ q : Nat, s.heap.size ≤ q → A q := fun q h => by rw [← hAe]; exact Or.inr h
  have hS : va_S A s.heap s.heap [] := va_S.rf
  have hP : va_P G classes [(h0, .inr (3, [.ref hu, .int wy, .long (lN sec), .int bg, .int st, .long (lN x), .long (lN y), .long ky, .long c1, .long c2, .long ms, .long (lN rc)])), (hu, .inr (1, [.int nb, .int sd, .int uw, .long (lN uo), .long ul, .long (lN uv), .int uf, .int u1, .int u2, .int u3]))] s.heap := hP
  have hl := lv_entry ([.ref h0, .long (lN um), .long (lN w0)]) (n := 5) (Nat.le_of_ble_eq_true rfl)
  rw [lg_entry_eq]
  generalize (lg_sl ([.ref h0, .long (lN um), .long (lN w0)]) ++ List.replicate (5 - (lg_sl ([.ref h0, .long (lN um), .long (lN w0)])).length) Slot.unset).toArray = ls at hl ⊢
  have hl : lv_has ls 5 [(0, .ref h0), (1, .long (lN um)), (3, .long (lN w0))] := hl
  refine lv_ldc2 (v := 6) hx hb hown (hw _ ww_495) d_S_keyByWord_0 ?_
  refine lv_aload_n hx hb d_S_keyByWord_3 rfl (lv_at hl 0 rfl) ?_
  refine va_get (D := G) (ci := 3) (v := .ref hu) (C := cr_V) (T := cf_V) (N := 12) hx hb hw uw_V hown hK.1 hP 0 rfl rfl 0 (by decide) (hw _ ww_296) (fun _ h9 => h9) rfl d_S_keyByWord_4 ?_
  refine va_get (D := G) (ci := 1) (v := .int nb) (C := cr_U) (T := cf_U) (N := 10) hx hb hw uw_U hown hK.1 hP 1 rfl rfl 0 (by decide) (hw _ ww_33) (fun _ h9 => h9) rfl d_S_keyByWord_7 ?_
  refine lv_i2l (v := nb.toInt64) hx hb d_S_keyByWord_10 rfl ?_
  refine lv_aload_n hx hb d_S_keyByWord_11 rfl (lv_at hl 0 rfl) ?_
  refine va_get (D := G) (ci := 3) (v := .long (lN x)) (C := cr_V) (T := cf_V) (N := 12) hx hb hw uw_V hown hK.1 hP 0 rfl rfl 5 (by decide) (hw _ ww_318) (fun _ h9 => h9) rfl d_S_keyByWord_12 ?_
  refine lv_aload_n hx hb d_S_keyByWord_15 rfl (lv_at hl 0 rfl) ?_
  refine va_get (D := G) (ci := 3) (v := .long (lN y)) (C := cr_V) (T := cf_V) (N := 12) hx hb hw uw_V hown hK.1 hP 0 rfl rfl 6 (by decide) (hw _ ww_323) (fun _ h9 => h9) rfl d_S_keyByWord_16 ?_
  refine lv_lload_n hx hb d_S_keyByWord_19 rfl (lv_at hl 1 rfl) ?_
  refine lv_aload_n hx hb d_S_keyByWord_20 rfl (lv_at hl 0 rfl) ?_
  refine va_get (D := G) (ci := 3) (v := .long (lN sec)) (C := cr_V) (T := cf_V) (N := 12) hx hb hw uw_V hown hK.1 hP 0 rfl rfl 2 (by decide) (hw _ ww_306) (fun _ h9 => h9) rfl d_S_keyByWord_21 ?_
  refine vp_callSl (W.runS (As := [.long (lN um), .long (lN sec)]) (rest := [.long (lN y), .long (lN x), .long nb.toInt64, .long 6]) ⟨hx, hb, hml, hown, hts⟩ (c_N_power l um sec (by first | assumption | exact pw_lt _ _ | exact Nat.mod_lt _ pq_pos | exact qs_P (by assumption) | decide) (by first | assumption | exact sc_30 _ | exact qs_30 (by assumption) | exact qz_lt _ | decide | omega)) (tb_S hw cy_N_power ww_496 ww_127 rfl rfl ⟨Nat.le_of_ble_eq_true rfl, Nat.le_of_ble_eq_true rfl⟩) preEq rfl rfl hl.1 rfl (lv_room (Nat.le_of_ble_eq_true rfl)) d_S_keyByWord_24 ⟨Nat.le_of_ble_eq_true rfl, Nat.le_of_ble_eq_true rfl⟩) (fun r130 er130 => ?_)
  subst er130
  refine lv_lload_n hx hb d_S_keyByWord_27 rfl (lv_at hl 2 rfl) ?_
  refine vp_callSl (W.runS (As := [.long 6, .long nb.toInt64, .long (lN x), .long (lN y), .long (lN (pw_m um sec)), .long (lN w0)]) (rest := []) ⟨hx, hb, hml, hown, hts⟩ (c_G_of6 l 6 nb.toInt64 (lN x) (lN y) (lN (pw_m um sec)) (lN w0)) (tb_S hw cy_G_of6 ww_497 ww_498 rfl rfl ⟨Nat.le_of_ble_eq_true rfl, Nat.le_of_ble_eq_true rfl⟩) preEq rfl rfl hl.1 rfl (lv_room (Nat.le_of_ble_eq_true rfl)) d_S_keyByWord_28 ⟨Nat.le_of_ble_eq_true rfl, Nat.le_of_ble_eq_true rfl⟩) (fun r131 er131 => ?_)
  subst er131
  exact W.lret (v := dg_6 6 nb.toInt64 (lN x) (lN y) (lN (pw_m um sec)) (lN w0)) hx hb hr (fun t ht hW => ⟨dg_6 6 nb.toInt64 (lN x) (lN y) (lN (pw_m um sec)) (lN w0), rfl, rfl, ht⟩) (fun q h => nomatch h) d_S_keyByWord_31
set_option maxHeartbeats 4000000 in
set_option maxRecDepth 100000 in
theorem c_V_keyBySalt (l : Launch) (G : va_G) (ct : Nat → ClassId) (sz : Nat) (h0 : Nat) (hu : Nat) (wy : Int32) (sec : Nat) (bg : Int32) (st : Int32) (x : Nat) (y : Nat) (ky : Int64) (c1 : Int64) (c2 : Int64) (ms : Int64) (rc : Nat) (nb : Int32) (sd : Int32) (uw : Int32) (uo : Nat) (ul : Int64) (uv : Nat) (uf : Int32) (u1 : Int32) (u2 : Int32) (u3 : Int32) (cm : Nat) : Met l my_S_keyBySalt (tb_w my_S_keyBySalt mb_S_keyBySalt 3 (some .long)) ({ frames := 2, cells := 0, slots := 0, locals := 55 }) (wk_P [.ref h0, .long (lN cm)] G ct [(h0, .inr (3, [.ref hu, .int wy, .long (lN sec), .int bg, .int st, .long (lN x), .long (lN y), .long ky, .long c1, .long c2, .long ms, .long (lN rc)])), (hu, .inr (1, [.int nb, .int sd, .int uw, .long (lN uo), .long ul, .long (lN uv), .int uf, .int u1, .int u2, .int u3]))] sz) (vp_Sl (fun r => r = ky_s nb x y cm)) 0 0 (fun _ => False) := by
  refine Met.ofW (cc := mb_S_keyBySalt) (maxL := 3) (ret := (some .long)) (by decide) rfl ?_
  intro p e s m args below meth c s₁ B hml hv
  obtain ⟨rfl, hsz, hP, hK, hD0⟩ := hv
  have hx := B.exec
  have hb := B.bytes
  have hr := B.returns
  have hts := atoms_spec (ws := tb_w my_S_keyBySalt mb_S_keyBySalt 3 (some .long)) B.pre
  have hw : ∀ w ∈ gt_tbl, w.before [.ref h0, .long (lN cm)].toArray s = true := fun w h => hts w (List.mem_cons_of_mem _ h)
  have hown : s.vm.findClass cr_S = some m.cls := findClass_of_methodNamed B.named
  have hlocks := B.notSynchronized
  subst hsz
  have hD := hD0.self (sz := s.heap.size)
  generalize hAe : va_A [(h0, .inr (3, [.ref hu, .int wy, .long (lN sec), .int bg, .int st, .long (lN x), .long (lN y), .long ky, .long c1, .long c2, .long ms, .long (lN rc)])), (hu, .inr (1, [.int nb, .int sd, .int uw, .long (lN uo), .long ul, .long (lN uv), .int uf, .int u1, .int u2, .int u3]))] s.heap.size = A at hD ⊢
  have hA : ∀ q : Nat, s.heap.size ≤ q → A q := fun q h => by rw [← hAe]; exact Or.inr h
  have hS : va_S A s.heap s.heap [] := va_S.rf
  have hP : va_P G classes [(h0, .inr (3, [.ref hu, .int wy, .long (lN sec), .int bg, .int st, .long (lN x), .long (lN y), .long ky, .long c1, .long c2, .long ms, .long (lN rc)])), (hu, .inr (1, [.int nb, .int sd, .int uw, .long (lN uo), .long ul, .long (lN uv), .int uf, .int u1, .int u2, .int u3]))] s.heap := hP
  have hl := lv_entry ([.ref h0, .long (lN cm)]) (n := 3) (Nat.le_of_ble_eq_true rfl)
  rw [lg_entry_eq]
  generalize (lg_sl ([.ref h0, .long (lN cm)]) ++ List.replicate (3 - (lg_sl ([.ref h0, .long (lN cm)])).length) Slot.unset).toArray = ls at hl ⊢
  have hl : lv_has ls 3 [(0, .ref h0), (1, .long (lN cm))] := hl
  refine lv_ldc2 (v := 8) hx hb hown (hw _ ww_526) d_S_keyBySalt_0 ?_
  refine lv_aload_n hx hb d_S_keyBySalt_3 rfl (lv_at hl 0 rfl) ?_
  refine va_get (D := G) (ci := 3) (v := .ref hu) (C := cr_V) (T := cf_V) (N := 12) hx hb hw uw_V hown hK.1 hP 0 rfl rfl 0 (by decide) (hw _ ww_296) (fun _ h9 => h9) rfl d_S_keyBySalt_4 ?_
  refine va_get (D := G) (ci := 1) (v := .int nb) (C := cr_U) (T := cf_U) (N := 10) hx hb hw uw_U hown hK.1 hP 1 rfl rfl 0 (by decide) (hw _ ww_33) (fun _ h9 => h9) rfl d_S_keyBySalt_7 ?_
  refine lv_i2l (v := nb.toInt64) hx hb d_S_keyBySalt_10 rfl ?_
  refine lv_aload_n hx hb d_S_keyBySalt_11 rfl (lv_at hl 0 rfl) ?_
  refine va_get (D := G) (ci := 3) (v := .long (lN x)) (C := cr_V) (T := cf_V) (N := 12) hx hb hw uw_V hown hK.1 hP 0 rfl rfl 5 (by decide) (hw _ ww_318) (fun _ h9 => h9) rfl d_S_keyBySalt_12 ?_
  refine lv_aload_n hx hb d_S_keyBySalt_15 rfl (lv_at hl 0 rfl) ?_
  refine va_get (D := G) (ci := 3) (v := .long (lN y)) (C := cr_V) (T := cf_V) (N := 12) hx hb hw uw_V hown hK.1 hP 0 rfl rfl 6 (by decide) (hw _ ww_323) (fun _ h9 => h9) rfl d_S_keyBySalt_16 ?_
  refine lv_lload_n hx hb d_S_keyBySalt_19 rfl (lv_at hl 1 rfl) ?_
  refine vp_callSl (W.runS (As := [.long 8, .long nb.toInt64, .long (lN x), .long (lN y), .long (lN cm)]) (rest := []) ⟨hx, hb, hml, hown, hts⟩ (c_G_of5 l 8 nb.toInt64 (lN x) (lN y) (lN cm)) (tb_S hw cy_G_of5 ww_527 ww_528 rfl rfl ⟨Nat.le_of_ble_eq_true rfl, Nat.le_of_ble_eq_true rfl⟩) preEq rfl rfl hl.1 rfl (lv_room (Nat.le_of_ble_eq_true rfl)) d_S_keyBySalt_20 ⟨Nat.le_of_ble_eq_true rfl, Nat.le_of_ble_eq_true rfl⟩) (fun r132 er132 => ?_)
  subst er132
  exact W.lret (v := dg_5 8 nb.toInt64 (lN x) (lN y) (lN cm)) hx hb hr (fun t ht hW => ⟨dg_5 8 nb.toInt64 (lN x) (lN y) (lN cm), rfl, rfl, ht⟩) (fun q h => nomatch h) d_S_keyBySalt_23
set_option maxHeartbeats 4000000 in
set_option maxRecDepth 100000 in
theorem c_V_blend (l : Launch) (G : va_G) (ct : Nat → ClassId) (sz : Nat) (h0 : Nat) (hu : Nat) (wy : Int32) (sec : Nat) (bg : Int32) (st : Int32) (x : Nat) (y : Nat) (ky : Int64) (c1 : Int64) (c2 : Int64) (ms : Int64) (rc : Nat) : Met l my_S_blend (tb_w my_S_blend mb_S_blend 1 (some .long)) ({ frames := 2, cells := 0, slots := 0, locals := 51 }) (wk_P [.ref h0] G ct [(h0, .inr (3, [.ref hu, .int wy, .long (lN sec), .int bg, .int st, .long (lN x), .long (lN y), .long ky, .long c1, .long c2, .long ms, .long (lN rc)]))] sz) (vp_Sl (fun r => r = lN (bl_n x y))) 0 0 (fun _ => False) := by
  refine Met.ofW (cc := mb_S_blend) (maxL := 1) (ret := (some .long)) (by decide) rfl ?_
  intro p e s m args below meth c s₁ B hml hv
  obtain ⟨rfl, hsz, hP, hK, hD0⟩ := hv
  have hx := B.exec
  have hb := B.bytes
  have hr := B.returns
  have hts := atoms_spec (ws := tb_w my_S_blend mb_S_blend 1 (some .long)) B.pre
  have hw : ∀ w ∈ gt_tbl, w.before [.ref h0].toArray s = true := fun w h => hts w (List.mem_cons_of_mem _ h)
  have hown : s.vm.findClass cr_S = some m.cls := findClass_of_methodNamed B.named
  have hlocks := B.notSynchronized
  subst hsz
  have hD := hD0.self (sz := s.heap.size)
  generalize hAe : va_A [(h0, .inr (3, [.ref hu, .int wy, .long (lN sec), .int bg, .int st, .long (lN x), .long (lN y), .long ky, .long c1, .long c2, .long ms, .long (lN rc)]))] s.heap.size = A at hD ⊢
  have hA : ∀ q : Nat, s.heap.size ≤ q → A q := fun q h => by rw [← hAe]; exact Or.inr h
  have hS : va_S A s.heap s.heap [] := va_S.rf
  have hP : va_P G classes [(h0, .inr (3, [.ref hu, .int wy, .long (lN sec), .int bg, .int st, .long (lN x), .long (lN y), .long ky, .long c1, .long c2, .long ms, .long (lN rc)]))] s.heap := hP
  have hl := lv_entry ([.ref h0]) (n := 1) (Nat.le_of_ble_eq_true rfl)
  rw [lg_entry_eq]
  generalize (lg_sl ([.ref h0]) ++ List.replicate (1 - (lg_sl ([.ref h0])).length) Slot.unset).toArray = ls at hl ⊢
  have hl : lv_has ls 1 [(0, .ref h0)] := hl
  refine lv_ldc2 (v := 7) hx hb hown (hw _ ww_508) d_S_blend_0 ?_
  refine lv_aload_n hx hb d_S_blend_3 rfl (lv_at hl 0 rfl) ?_
  refine va_get (D := G) (ci := 3) (v := .long (lN x)) (C := cr_V) (T := cf_V) (N := 12) hx hb hw uw_V hown hK.1 hP 0 rfl rfl 5 (by decide) (hw _ ww_318) (fun _ h9 => h9) rfl d_S_blend_4 ?_
  refine lv_aload_n hx hb d_S_blend_7 rfl (lv_at hl 0 rfl) ?_
  refine va_get (D := G) (ci := 3) (v := .long (lN y)) (C := cr_V) (T := cf_V) (N := 12) hx hb hw uw_V hown hK.1 hP 0 rfl rfl 6 (by decide) (hw _ ww_323) (fun _ h9 => h9) rfl d_S_blend_8 ?_
  refine vp_callSl (W.runS (As := [.long 7, .long (lN x), .long (lN y)]) (rest := []) ⟨hx, hb, hml, hown, hts⟩ (c_G_of3 l 7 (lN x) (lN y)) (tb_S hw cy_G_of3 ww_509 ww_101 rfl rfl ⟨Nat.le_of_ble_eq_true rfl, Nat.le_of_ble_eq_true rfl⟩) preEq rfl rfl hl.1 rfl (lv_room (Nat.le_of_ble_eq_true rfl)) d_S_blend_11 ⟨Nat.le_of_ble_eq_true rfl, Nat.le_of_ble_eq_true rfl⟩) (fun r133 er133 => ?_)
  subst er133
  refine vp_callSl (W.runS (As := [.long (dg_3 7 (lN x) (lN y))]) (rest := []) ⟨hx, hb, hml, hown, hts⟩ (c_N_scalar l (dg_3 7 (lN x) (lN y))) (tb_S hw cy_N_scalar ww_286 ww_114 rfl rfl ⟨Nat.le_of_ble_eq_true rfl, Nat.le_of_ble_eq_true rfl⟩) preEq rfl rfl hl.1 rfl (lv_room (Nat.le_of_ble_eq_true rfl)) d_S_blend_14 ⟨Nat.le_of_ble_eq_true rfl, Nat.le_of_ble_eq_true rfl⟩) (fun r134 er134 => ?_)
  subst er134
  exact W.lret (v := lN (sc_n (dg_3 7 (lN x) (lN y)))) hx hb hr (fun t ht hW => ⟨lN (sc_n (dg_3 7 (lN x) (lN y))), rfl, rfl, ht⟩) (fun q h => nomatch h) d_S_blend_17
set_option maxHeartbeats 4000000 in
set_option maxRecDepth 100000 in
theorem c_V_makeConfirmations (l : Launch) (G : va_G) (ct : Nat → ClassId) (sz : Nat) (h0 : Nat) (hu : Nat) (wy : Int32) (sec : Nat) (bg : Int32) (st : Int32) (x : Nat) (y : Nat) (ky : Int64) (c1 : Int64) (c2 : Int64) (ms : Int64) (rc : Nat) : Met l my_S_makeConfirmations (tb_w my_S_makeConfirmations mb_S_makeConfirmations 1 none) ({ frames := 2, cells := 0, slots := 0, locals := 53 }) (wk_P [.ref h0] G ct [(h0, .inr (3, [.ref hu, .int wy, .long (lN sec), .int bg, .int st, .long (lN x), .long (lN y), .long ky, .long c1, .long c2, .long ms, .long (lN rc)]))] sz) (wk_Q (wk_ov (S := Unit) (fun _ => True)) (fun _ : Unit => [(h0, .inr (3, [.ref hu, .int wy, .long (lN sec), .int bg, .int st, .long (lN x), .long (lN y), .long ky, .long (cf_c ky x y), .long (cf_s ky (cf_c ky x y)), .long ms, .long (lN rc)]))]) G (va_A [(h0, .inr (3, [.ref hu, .int wy, .long (lN sec), .int bg, .int st, .long (lN x), .long (lN y), .long ky, .long c1, .long c2, .long ms, .long (lN rc)]))] sz)) 0 0 (va_A [(h0, .inr (3, [.ref hu, .int wy, .long (lN sec), .int bg, .int st, .long (lN x), .long (lN y), .long ky, .long c1, .long c2, .long ms, .long (lN rc)]))] sz) := by
  refine Met.ofW (cc := mb_S_makeConfirmations) (maxL := 1) (ret := none) (by decide) rfl ?_
  intro p e s m args below meth c s₁ B hml hv
  obtain ⟨rfl, hsz, hP, hK, hD0⟩ := hv
  have hx := B.exec
  have hb := B.bytes
  have hr := B.returns
  have hts := atoms_spec (ws := tb_w my_S_makeConfirmations mb_S_makeConfirmations 1 none) B.pre
  have hw : ∀ w ∈ gt_tbl, w.before [.ref h0].toArray s = true := fun w h => hts w (List.mem_cons_of_mem _ h)
  have hown : s.vm.findClass cr_S = some m.cls := findClass_of_methodNamed B.named
  have hlocks := B.notSynchronized
  subst hsz
  have hD := hD0.self (sz := s.heap.size)
  generalize hAe : va_A [(h0, .inr (3, [.ref hu, .int wy, .long (lN sec), .int bg, .int st, .long (lN x), .long (lN y), .long ky, .long c1, .long c2, .long ms, .long (lN rc)]))] s.heap.size = A at hD ⊢
  have hA : ∀ q : Nat, s.heap.size ≤ q → A q := fun q h => by rw [← hAe]; exact Or.inr h
  have hS : va_S A s.heap s.heap [] := va_S.rf
  have hP : va_P G classes [(h0, .inr (3, [.ref hu, .int wy, .long (lN sec), .int bg, .int st, .long (lN x), .long (lN y), .long ky, .long c1, .long c2, .long ms, .long (lN rc)]))] s.heap := hP
  have hl := lv_entry ([.ref h0]) (n := 1) (Nat.le_of_ble_eq_true rfl)
  rw [lg_entry_eq]
  generalize (lg_sl ([.ref h0]) ++ List.replicate (1 - (lg_sl ([.ref h0])).length) Slot.unset).toArray = ls at hl ⊢
  have hl : lv_has ls 1 [(0, .ref h0)] := hl
  refine lv_aload_n hx hb d_S_makeConfirmations_0 rfl (lv_at hl 0 rfl) ?_
  refine lv_ldc2 (v := 9) hx hb hown (hw _ ww_536) d_S_makeConfirmations_1 ?_
  refine lv_aload_n hx hb d_S_makeConfirmations_4 rfl (lv_at hl 0 rfl) ?_
  refine va_get (D := G) (ci := 3) (v := .long ky) (C := cr_V) (T := cf_V) (N := 12) hx hb hw uw_V hown hK.1 hP 0 rfl rfl 7 (by decide) (hw _ ww_328) (fun _ h9 => h9) rfl d_S_makeConfirmations_5 ?_
  refine lv_aload_n hx hb d_S_makeConfirmations_8 rfl (lv_at hl 0 rfl) ?_
  refine va_get (D := G) (ci := 3) (v := .long (lN x)) (C := cr_V) (T := cf_V) (N := 12) hx hb hw uw_V hown hK.1 hP 0 rfl rfl 5 (by decide) (hw _ ww_318) (fun _ h9 => h9) rfl d_S_makeConfirmations_9 ?_
  refine lv_aload_n hx hb d_S_makeConfirmations_12 rfl (lv_at hl 0 rfl) ?_
  refine va_get (D := G) (ci := 3) (v := .long (lN y)) (C := cr_V) (T := cf_V) (N := 12) hx hb hw uw_V hown hK.1 hP 0 rfl rfl 6 (by decide) (hw _ ww_323) (fun _ h9 => h9) rfl d_S_makeConfirmations_13 ?_
  refine vp_callSl (W.runS (As := [.long 9, .long ky, .long (lN x), .long (lN y)]) (rest := [.ref h0]) ⟨hx, hb, hml, hown, hts⟩ (c_G_of4 l 9 ky (lN x) (lN y)) (tb_S hw cy_G_of4 ww_537 ww_124 rfl rfl ⟨Nat.le_of_ble_eq_true rfl, Nat.le_of_ble_eq_true rfl⟩) preEq rfl rfl hl.1 rfl (lv_room (Nat.le_of_ble_eq_true rfl)) d_S_makeConfirmations_16 ⟨Nat.le_of_ble_eq_true rfl, Nat.le_of_ble_eq_true rfl⟩) (fun r135 er135 => ?_)
  subst er135
  refine va_put (D := G) (ci := 3) (v := .long (dg_4 9 ky (lN x) (lN y))) (ty := .long) (C := cr_V) (T := cf_V) (N := 12) hx hb hw uw_V ct_V ct_V_ok ct_V_nm hown hK.1 hP hD hS 0 rfl rfl 8 (by decide) (hw _ ww_334) (fun _ h9 => h9) rfl (by decide +kernel) rfl rfl (Nat.le_of_ble_eq_true rfl) d_S_makeConfirmations_19 (fun H locs hP hD hS => ?_)
  have hP : va_P G classes [(h0, .inr (3, [.ref hu, .int wy, .long (lN sec), .int bg, .int st, .long (lN x), .long (lN y), .long ky, .long (dg_4 9 ky (lN x) (lN y)), .long c2, .long ms, .long (lN rc)]))] H := hP
  have hD : va_D A [(h0, .inr (3, [.ref hu, .int wy, .long (lN sec), .int bg, .int st, .long (lN x), .long (lN y), .long ky, .long (dg_4 9 ky (lN x) (lN y)), .long c2, .long ms, .long (lN rc)]))] := hD
  refine lv_aload_n hx hb d_S_makeConfirmations_22 rfl (lv_at hl 0 rfl) ?_
  refine lv_ldc2 (v := 10) hx hb hown (hw _ ww_538) d_S_makeConfirmations_23 ?_
  refine lv_aload_n hx hb d_S_makeConfirmations_26 rfl (lv_at hl 0 rfl) ?_
  refine va_get (D := G) (ci := 3) (v := .long ky) (C := cr_V) (T := cf_V) (N := 12) hx hb hw uw_V hown hK.1 hP 0 rfl rfl 7 (by decide) (hw _ ww_328) (fun _ h9 => h9) rfl d_S_makeConfirmations_27 ?_
  refine lv_aload_n hx hb d_S_makeConfirmations_30 rfl (lv_at hl 0 rfl) ?_
  refine va_get (D := G) (ci := 3) (v := .long (dg_4 9 ky (lN x) (lN y))) (C := cr_V) (T := cf_V) (N := 12) hx hb hw uw_V hown hK.1 hP 0 rfl rfl 8 (by decide) (hw _ ww_334) (fun _ h9 => h9) rfl d_S_makeConfirmations_31 ?_
  refine vp_callSl (W.runS (As := [.long 10, .long ky, .long (dg_4 9 ky (lN x) (lN y))]) (rest := [.ref h0]) ⟨hx, hb, hml, hown, hts⟩ (c_G_of3 l 10 ky (dg_4 9 ky (lN x) (lN y))) (tb_S hw cy_G_of3 ww_509 ww_101 rfl rfl ⟨Nat.le_of_ble_eq_true rfl, Nat.le_of_ble_eq_true rfl⟩) preEq rfl rfl hl.1 rfl (lv_room (Nat.le_of_ble_eq_true rfl)) d_S_makeConfirmations_34 ⟨Nat.le_of_ble_eq_true rfl, Nat.le_of_ble_eq_true rfl⟩) (fun r136 er136 => ?_)
  subst er136
  refine va_put (D := G) (ci := 3) (v := .long (dg_3 10 ky (dg_4 9 ky (lN x) (lN y)))) (ty := .long) (C := cr_V) (T := cf_V) (N := 12) hx hb hw uw_V ct_V ct_V_ok ct_V_nm hown hK.1 hP hD hS 0 rfl rfl 9 (by decide) (hw _ ww_339) (fun _ h9 => h9) rfl (by decide +kernel) rfl rfl (Nat.le_of_ble_eq_true rfl) d_S_makeConfirmations_37 (fun H locs hP hD hS => ?_)
  have hP : va_P G classes [(h0, .inr (3, [.ref hu, .int wy, .long (lN sec), .int bg, .int st, .long (lN x), .long (lN y), .long ky, .long (dg_4 9 ky (lN x) (lN y)), .long (dg_3 10 ky (dg_4 9 ky (lN x) (lN y))), .long ms, .long (lN rc)]))] H := hP
  have hD : va_D A [(h0, .inr (3, [.ref hu, .int wy, .long (lN sec), .int bg, .int st, .long (lN x), .long (lN y), .long ky, .long (dg_4 9 ky (lN x) (lN y)), .long (dg_3 10 ky (dg_4 9 ky (lN x) (lN y))), .long ms, .long (lN rc)]))] := hD
  exact W.vret hx hb hr (fun t ht hW => ⟨⟨(), ⟨rfl, trivial⟩, by rw [ht]; exact hP, hD⟩, hS.F ht⟩) hS.2.2 d_S_makeConfirmations_40
set_option maxHeartbeats 4000000 in
set_option maxRecDepth 100000 in
theorem c_V_unmasked (l : Launch) (G : va_G) (ct : Nat → ClassId) (sz : Nat) (h0 : Nat) (hu : Nat) (wy : Int32) (sec : Nat) (bg : Int32) (st : Int32) (x : Nat) (y : Nat) (ky : Int64) (c1 : Int64) (c2 : Int64) (ms : Int64) (rc : Nat) (n : Nat) (hr0 : 1 ≤ rc) (hr1 : rc < pq_Q) (hn1 : n < pq_P) : Met l my_V_unmasked (tb_w my_V_unmasked mb_V_unmasked 3 (some .long)) ({ frames := 2, cells := 0, slots := 0, locals := 51 }) (wk_P [.ref h0, .long (lN n)] G ct [(h0, .inr (3, [.ref hu, .int wy, .long (lN sec), .int bg, .int st, .long (lN x), .long (lN y), .long ky, .long c1, .long c2, .long ms, .long (lN rc)]))] sz) (vp_Sl (fun r => r = lN (sv_um rc n))) 0 0 (fun _ => False) := by
  refine Met.ofW (cc := mb_V_unmasked) (maxL := 3) (ret := (some .long)) (by decide) rfl ?_
  intro p e s m args below meth c s₁ B hml hv
  obtain ⟨rfl, hsz, hP, hK, hD0⟩ := hv
  have hx := B.exec
  have hb := B.bytes
  have hr := B.returns
  have hts := atoms_spec (ws := tb_w my_V_unmasked mb_V_unmasked 3 (some .long)) B.pre
  have hw : ∀ w ∈ gt_tbl, w.before [.ref h0, .long (lN n)].toArray s = true := fun w h => hts w (List.mem_cons_of_mem _ h)
  have hown : s.vm.findClass cr_V = some m.cls := findClass_of_methodNamed B.named
  have hlocks := B.notSynchronized
  subst hsz
  have hD := hD0.self (sz := s.heap.size)
  generalize hAe : va_A [(h0, .inr (3, [.ref hu, .int wy, .long (lN sec), .int bg, .int st, .long (lN x), .long (lN y), .long ky, .long c1, .long c2, .long ms, .long (lN rc)]))] s.heap.size = A at hD ⊢
  have hA : ∀ q : Nat, s.heap.size ≤ q → A q := fun q h => by rw [← hAe]; exact Or.inr h
  have hS : va_S A s.heap s.heap [] := va_S.rf
  have hP : va_P G classes [(h0, .inr (3, [.ref hu, .int wy, .long (lN sec), .int bg, .int st, .long (lN x), .long (lN y), .long ky, .long c1, .long c2, .long ms, .long (lN rc)]))] s.heap := hP
  have hl := lv_entry ([.ref h0, .long (lN n)]) (n := 3) (Nat.le_of_ble_eq_true rfl)
  rw [lg_entry_eq]
  generalize (lg_sl ([.ref h0, .long (lN n)]) ++ List.replicate (3 - (lg_sl ([.ref h0, .long (lN n)])).length) Slot.unset).toArray = ls at hl ⊢
  have hl : lv_has ls 3 [(0, .ref h0), (1, .long (lN n))] := hl
  refine lv_lload_n hx hb d_V_unmasked_0 rfl (lv_at hl 1 rfl) ?_
  refine lv_ldc2 (v := 9) hx hb hown (hw _ ww_480) d_V_unmasked_1 ?_
  refine lv_aload_n hx hb d_V_unmasked_4 rfl (lv_at hl 0 rfl) ?_
  refine va_get (D := G) (ci := 3) (v := .long (lN rc)) (C := cr_V) (T := cf_V) (N := 12) hx hb hw uw_V hown hK.1 hP 0 rfl rfl 11 (by decide) (hw _ ww_400) (fun _ h9 => h9) rfl d_V_unmasked_5 ?_
  refine vp_callSl (W.runS (As := [.long (lN n), .long (lN 9), .long (lN rc)]) (rest := []) ⟨hx, hb, hml, hown, hts⟩ (c_N_overPower l n 9 rc (by first | assumption | exact pw_lt _ _ | exact Nat.mod_lt _ pq_pos | exact qs_P (by assumption) | decide) (by first | assumption | exact pw_lt _ _ | exact Nat.mod_lt _ pq_pos | exact qs_P (by assumption) | decide) (by assumption) (by assumption)) (tb_S hw cy_N_overPower ww_481 ww_474 rfl rfl ⟨Nat.le_of_ble_eq_true rfl, Nat.le_of_ble_eq_true rfl⟩) preEq rfl rfl hl.1 rfl (lv_room (Nat.le_of_ble_eq_true rfl)) d_V_unmasked_8 ⟨Nat.le_of_ble_eq_true rfl, Nat.le_of_ble_eq_true rfl⟩) (fun r137 er137 => ?_)
  subst er137
  exact W.lret (v := lN (n * pw_m 9 (pq_Q - rc) % pq_P)) hx hb hr (fun t ht hW => ⟨lN (n * pw_m 9 (pq_Q - rc) % pq_P), rfl, rfl, ht⟩) (fun q h => nomatch h) d_V_unmasked_11
theorem rt_1_V {rc : Nat} {wy : Int32} {a : Int64} (h : wy = 1) : (if rt_v wy rc a then (1 : Int32) else 0) = if bt_w a then 1 else 0 := by
  by_cases hb : bt_w a
  · rw [if_pos hb, if_pos ⟨hb, Or.inl h⟩]
  · rw [if_neg hb, if_neg (fun q => hb q.1)]
set_option maxHeartbeats 4000000 in
set_option maxRecDepth 100000 in
theorem c_V_isRightFirst (l : Launch) (G : va_G) (ct : Nat → ClassId) (sz : Nat) (h0 : Nat) (hu : Nat) (wy : Int32) (sec : Nat) (bg : Int32) (st : Int32) (x : Nat) (y : Nat) (ky : Int64) (c1 : Int64) (c2 : Int64) (ms : Int64) (rc : Nat) (a : Int64) (hq1 : ¬ wy = 1 → 1 ≤ rc ∧ rc < pq_Q) : Met l my_S_isRightFirst (tb_w my_S_isRightFirst mb_S_isRightFirst 3 (some .boolean)) ({ frames := 3, cells := 0, slots := 0, locals := 73 }) (wk_P [.ref h0, .long a] G ct [(h0, .inr (3, [.ref hu, .int wy, .long (lN sec), .int bg, .int st, .long (lN x), .long (lN y), .long ky, .long c1, .long c2, .long ms, .long (lN rc)]))] sz) (vp_Si (fun r => r = (if rt_v wy rc a then 1 else 0))) 0 0 (fun _ => False) := by
  refine Met.ofW (cc := mb_S_isRightFirst) (maxL := 3) (ret := (some .boolean)) (by decide) rfl ?_
  intro p e s m args below meth c s₁ B hml hv
  obtain ⟨rfl, hsz, hP, hK, hD0⟩ := hv
  have hx := B.exec
  have hb := B.bytes
  have hr := B.returns
  have hts := atoms_spec (ws := tb_w my_S_isRightFirst mb_S_isRightFirst 3 (some .boolean)) B.pre
  have hw : ∀ w ∈ gt_tbl, w.before [.ref h0, .long a].toArray s = true := fun w h => hts w (List.mem_cons_of_mem _ h)
  have hown : s.vm.findClass cr_S = some m.cls := findClass_of_methodNamed B.named
  have hlocks := B.notSynchronized
  subst hsz
  have hD := hD0.self (sz := s.heap.size)
  generalize hAe : va_A [(h0, .inr (3, [.ref hu, .int wy, .long (lN sec), .int bg, .int st, .long (lN x), .long (lN y), .long ky, .long c1, .long c2, .long ms, .long (lN rc)]))] s.heap.size = A at hD ⊢
  have hA : ∀ q : Nat, s.heap.size ≤ q → A q := fun q h => by rw [← hAe]; exact Or.inr h
  have hS : va_S A s.heap s.heap [] := va_S.rf
  have hP : va_P G classes [(h0, .inr (3, [.ref hu, .int wy, .long (lN sec), .int bg, .int st, .long (lN x), .long (lN y), .long ky, .long c1, .long c2, .long ms, .long (lN rc)]))] s.heap := hP
  have hl := lv_entry ([.ref h0, .long a]) (n := 3) (Nat.le_of_ble_eq_true rfl)
  rw [lg_entry_eq]
  generalize (lg_sl ([.ref h0, .long a]) ++ List.replicate (3 - (lg_sl ([.ref h0, .long a])).length) Slot.unset).toArray = ls at hl ⊢
  have hl : lv_has ls 3 [(0, .ref h0), (1, .long a)] := hl
  refine lv_aload_n hx hb d_S_isRightFirst_0 rfl (lv_at hl 0 rfl) ?_
  refine va_get (D := G) (ci := 3) (v := .int wy) (C := cr_V) (T := cf_V) (N := 12) hx hb hw uw_V hown hK.1 hP 0 rfl rfl 1 (by decide) (hw _ ww_301) (fun _ h9 => h9) rfl d_S_isRightFirst_1 ?_
  refine lv_iconst (v := 1) hx hb d_S_isRightFirst_4 (by decide) ?_
  refine lv_icmp_ne (tgt := 13) hx hb d_S_isRightFirst_5 (by decide) (fun h138 => ?_) (fun h138 => ?_)
  · refine lv_lload_n hx hb d_S_isRightFirst_13 rfl (lv_at hl 1 rfl) ?_
    refine vp_callSi (W.runS (As := [.long a]) (rest := []) ⟨hx, hb, hml, hown, hts⟩ (c_N_element l a) (tb_S hw cy_N_isElement ww_460 ww_461 rfl rfl ⟨Nat.le_of_ble_eq_true rfl, Nat.le_of_ble_eq_true rfl⟩) preEq rfl rfl hl.1 rfl (lv_room (Nat.le_of_ble_eq_true rfl)) d_S_isRightFirst_14 ⟨Nat.le_of_ble_eq_true rfl, Nat.le_of_ble_eq_true rfl⟩) (fun r139 er139 => ?_)
    subst er139
    refine lv_if_eq (tgt := 34) hx hb d_S_isRightFirst_17 (by decide) (fun h140 => ?_) (fun h140 => ?_)
    · have hem := bz_f h140
      refine lv_iconst (v := 0) hx hb d_S_isRightFirst_34 (by decide) ?_
      exact W.zret (v := 0) (ty := .boolean) hx hb hr rfl (fun t ht hW => ⟨0, rfl, (by rw [if_neg (fun q => hem ⟨q.1, (q.2.resolve_left h138).1⟩)]), ht⟩) (fun q h => nomatch h) d_S_isRightFirst_35
    · have hem := bz_t h140
      obtain ⟨hn1, hn2, hn3⟩ := bt_of hem.1
      obtain ⟨hr0, hr1⟩ := hq1 h138
      have hl : lv_has ls 3 [(0, .ref h0), (1, .long (lN a.toBitVec.toNat))] := by rw [← hn1]; exact hl
      refine lv_aload_n hx hb d_S_isRightFirst_20 rfl (lv_at hl 0 rfl) ?_
      refine lv_lload_n hx hb d_S_isRightFirst_21 rfl (lv_at hl 1 rfl) ?_
      have hPc : va_P G classes [(h0, .inr (3, [.ref hu, .int wy, .long (lN sec), .int bg, .int st, .long (lN x), .long (lN y), .long ky, .long c1, .long c2, .long ms, .long (lN rc)]))] s.heap := hP.sub [0] rfl
      have hDc := hD0.sub (ws' := [(h0, .inr (3, [.ref hu, .int wy, .long (lN sec), .int bg, .int st, .long (lN x), .long (lN y), .long ky, .long c1, .long c2, .long ms, .long (lN rc)]))]) [0] (by decide) rfl
      refine vp_callSl (va_Run.run (va_runU (As := [.long (lN a.toBitVec.toNat)]) (rest := []) ⟨hx, hb, hml, hown, hts⟩ (c_V_unmasked l G ct s.heap.size h0 hu wy sec bg st x y ky c1 c2 ms rc a.toBitVec.toNat (by first | assumption | exact pw_lt _ _ | exact Nat.mod_lt _ pq_pos | exact sc_lt _ | exact sc_pos _ | exact sc_30 _ | exact qs_30 (by assumption) | exact qs_P (by assumption) | exact qz_lt _ | decide | omega) (by first | assumption | exact pw_lt _ _ | exact Nat.mod_lt _ pq_pos | exact sc_lt _ | exact sc_pos _ | exact sc_30 _ | exact qs_30 (by assumption) | exact qs_P (by assumption) | exact qz_lt _ | decide | omega) (by first | assumption | exact pw_lt _ _ | exact Nat.mod_lt _ pq_pos | exact sc_lt _ | exact sc_pos _ | exact sc_30 _ | exact qs_30 (by assumption) | exact qs_P (by assumption) | exact qz_lt _ | decide | omega)) (tb_U (owner := cr_S) (x := ⟨"PakeDesk$Session", "unmasked", "(J)J"⟩) hw cy_V_unmasked ww_466 ww_468 (va_Decl.abs (hK.2.use wf_467)) ⟨by decide, by decide⟩ rfl ww_478 ww_477 rfl rfl ⟨Nat.le_of_ble_eq_true rfl, Nat.le_of_ble_eq_true rfl⟩) (wk_preV (ci := 3) (q0 := 0) hPc hK hDc rfl rfl) rfl rfl hl.1 rfl (lv_room (Nat.le_of_ble_eq_true rfl)) d_S_isRightFirst_22 ⟨Nat.le_of_ble_eq_true rfl, Nat.le_of_ble_eq_true rfl⟩)) (fun r141 er141 => ?_)
      subst er141
      refine lv_lconst (v := 1) hx hb d_S_isRightFirst_25 (by decide) ?_
      refine W.lcmp hx hb d_S_isRightFirst_26 ?_
      refine lv_if_eq (tgt := 34) hx hb d_S_isRightFirst_27 (by decide) (fun h142 => ?_) (fun h142 => ?_)
      · have h142 := (lg_cmp_eq _ _).mp h142
        refine lv_iconst (v := 0) hx hb d_S_isRightFirst_34 (by decide) ?_
        exact W.zret (v := 0) (ty := .boolean) hx hb hr rfl (fun t ht hW => ⟨0, rfl, (by rw [if_neg (fun q => (q.2.resolve_left h138).2 (ln_e1 h142))]), ht⟩) (fun q h => nomatch h) d_S_isRightFirst_35
      · have h142 := fun q => h142 ((lg_cmp_eq _ _).mpr q)
        refine lv_iconst (v := 1) hx hb d_S_isRightFirst_30 (by decide) ?_
        refine lv_goto (tgt := 35) hx hb d_S_isRightFirst_31 (by decide) ?_
        exact W.zret (v := 1) (ty := .boolean) hx hb hr rfl (fun t ht hW => ⟨1, rfl, (by rw [if_pos ⟨hem.1, Or.inr ⟨hem.2, fun q => h142 (congrArg lN q)⟩⟩]), ht⟩) (fun q h => nomatch h) d_S_isRightFirst_35
  · refine lv_lload_n hx hb d_S_isRightFirst_8 rfl (lv_at hl 1 rfl) ?_
    refine vp_callSi (W.runS (As := [.long a]) (rest := []) ⟨hx, hb, hml, hown, hts⟩ (c_N_between l a) (tb_S hw cy_N_isBetweenZeroAndP ww_456 ww_457 rfl rfl ⟨Nat.le_of_ble_eq_true rfl, Nat.le_of_ble_eq_true rfl⟩) preEq rfl rfl hl.1 rfl (lv_room (Nat.le_of_ble_eq_true rfl)) d_S_isRightFirst_9 ⟨Nat.le_of_ble_eq_true rfl, Nat.le_of_ble_eq_true rfl⟩) (fun r143 er143 => ?_)
    subst er143
    exact W.zret (v := if bt_w a then 1 else 0) (ty := .boolean) hx hb hr (by split <;> rfl) (fun t ht hW => ⟨if bt_w a then 1 else 0, rfl, (by rw [rt_1_V h138]), ht⟩) (fun q h => nomatch h) d_S_isRightFirst_12
set_option maxHeartbeats 4000000 in
set_option maxRecDepth 100000 in
theorem c_V_awaited (l : Launch) (G : va_G) (ct : Nat → ClassId) (sz : Nat) (h0 : Nat) (hu : Nat) (wy : Int32) (sec : Nat) (bg : Int32) (st : Int32) (x : Nat) (y : Nat) (ky : Int64) (c1 : Int64) (c2 : Int64) (ms : Int64) (rc : Nat) : Met l my_V_awaitedConfirmation (tb_w my_V_awaitedConfirmation mb_V_awaitedConfirmation 1 (some .long)) ({ frames := 0, cells := 0, slots := 0, locals := 0 }) (wk_P [.ref h0] G ct [(h0, .inr (3, [.ref hu, .int wy, .long (lN sec), .int bg, .int st, .long (lN x), .long (lN y), .long ky, .long c1, .long c2, .long ms, .long (lN rc)]))] sz) (vp_Sl (fun r => r = c1)) 0 0 (fun _ => False) := by
  refine Met.ofW (cc := mb_V_awaitedConfirmation) (maxL := 1) (ret := (some .long)) (by decide) rfl ?_
  intro p e s m args below meth c s₁ B hml hv
  obtain ⟨rfl, hsz, hP, hK, hD0⟩ := hv
  have hx := B.exec
  have hb := B.bytes
  have hr := B.returns
  have hts := atoms_spec (ws := tb_w my_V_awaitedConfirmation mb_V_awaitedConfirmation 1 (some .long)) B.pre
  have hw : ∀ w ∈ gt_tbl, w.before [.ref h0].toArray s = true := fun w h => hts w (List.mem_cons_of_mem _ h)
  have hown : s.vm.findClass cr_V = some m.cls := findClass_of_methodNamed B.named
  have hlocks := B.notSynchronized
  subst hsz
  have hD := hD0.self (sz := s.heap.size)
  generalize hAe : va_A [(h0, .inr (3, [.ref hu, .int wy, .long (lN sec), .int bg, .int st, .long (lN x), .long (lN y), .long ky, .long c1, .long c2, .long ms, .long (lN rc)]))] s.heap.size = A at hD ⊢
  have hA : ∀ q : Nat, s.heap.size ≤ q → A q := fun q h => by rw [← hAe]; exact Or.inr h
  have hS : va_S A s.heap s.heap [] := va_S.rf
  have hP : va_P G classes [(h0, .inr (3, [.ref hu, .int wy, .long (lN sec), .int bg, .int st, .long (lN x), .long (lN y), .long ky, .long c1, .long c2, .long ms, .long (lN rc)]))] s.heap := hP
  have hl := lv_entry ([.ref h0]) (n := 1) (Nat.le_of_ble_eq_true rfl)
  rw [lg_entry_eq]
  generalize (lg_sl ([.ref h0]) ++ List.replicate (1 - (lg_sl ([.ref h0])).length) Slot.unset).toArray = ls at hl ⊢
  have hl : lv_has ls 1 [(0, .ref h0)] := hl
  refine lv_aload_n hx hb d_V_awaitedConfirmation_0 rfl (lv_at hl 0 rfl) ?_
  refine va_get (D := G) (ci := 3) (v := .long c1) (C := cr_V) (T := cf_V) (N := 12) hx hb hw uw_V hown hK.1 hP 0 rfl rfl 8 (by decide) (hw _ ww_332) (fun x9 h9 => u_same (hw _ ww_333) x9 h9) rfl d_V_awaitedConfirmation_1 ?_
  exact W.lret (v := c1) hx hb hr (fun t ht hW => ⟨c1, rfl, rfl, ht⟩) (fun q h => nomatch h) d_V_awaitedConfirmation_4
