theorem ww_186 : (Jvm.Cond.classLink "PakeDeskLaw" (13 : Nat) "java/lang/IllegalArgumentException") ∈ gt_tbl := gt_m (List.mem_append_right _ (List.mem_append_left _ (List.mem_of_getElem? (i := 186) (by decide +kernel)))) (by decide)
theorem ww_187 : (Jvm.Cond.classLink "PakeDeskLaw" (15 : Nat) "java/lang/IllegalStateException") ∈ gt_tbl := gt_m (List.mem_append_right _ (List.mem_append_left _ (List.mem_of_getElem? (i := 187) (by decide +kernel)))) (by decide)
theorem ww_188 : (Jvm.Cond.methodLink "PakeDeskLaw" (7 : Nat) ({ cls := "PakeDesk", name := "client", desc := "(IIJJ)I" } : Jvm.MethodName)) ∈ gt_tbl := gt_m (List.mem_append_right _ (List.mem_append_left _ (List.mem_of_getElem? (i := 188) (by decide +kernel)))) (by decide)
theorem ww_189 : (Jvm.Cond.instanceMethod ({ cls := "PakeDesk", name := "client", desc := "(IIJJ)I" } : Jvm.MethodName)) ∈ gt_tbl := gt_m (List.mem_append_right _ (List.mem_append_left _ (List.mem_of_getElem? (i := 189) (by decide +kernel)))) (by decide)
theorem ww_190 : (Jvm.Cond.selects "PakeDesk" ({ cls := "PakeDesk", name := "client", desc := "(IIJJ)I" } : Jvm.MethodName) ({ cls := "PakeDesk", name := "client", desc := "(IIJJ)I" } : Jvm.MethodName)) ∈ gt_tbl := gt_m (List.mem_append_right _ (List.mem_append_left _ (List.mem_of_getElem? (i := 190) (by decide +kernel)))) (by decide)
theorem ww_191 : (Jvm.Cond.code ({ cls := "PakeDesk", name := "client", desc := "(IIJJ)I" } : Jvm.MethodName) prog_1_method_6_code (8 : Nat) (Option.some Jvm.ClassFile.FieldType.int)) ∈ gt_tbl := gt_m (List.mem_append_right _ (List.mem_append_left _ (List.mem_of_getElem? (i := 191) (by decide +kernel)))) (by decide)
theorem ww_379 : (Jvm.Cond.methodLink "PakeDeskLaw" (17 : Nat) ({ cls := "PakeDesk", name := "server", desc := "(IIJ)I" } : Jvm.MethodName)) ∈ gt_tbl := gt_m (List.mem_append_right _ (List.mem_append_right _ (List.mem_append_left _ (List.mem_of_getElem? (i := 139) (by decide +kernel))))) (by decide)
theorem ww_380 : (Jvm.Cond.instanceMethod ({ cls := "PakeDesk", name := "server", desc := "(IIJ)I" } : Jvm.MethodName)) ∈ gt_tbl := gt_m (List.mem_append_right _ (List.mem_append_right _ (List.mem_append_left _ (List.mem_of_getElem? (i := 140) (by decide +kernel))))) (by decide)
theorem ww_381 : (Jvm.Cond.selects "PakeDesk" ({ cls := "PakeDesk", name := "server", desc := "(IIJ)I" } : Jvm.MethodName) ({ cls := "PakeDesk", name := "server", desc := "(IIJ)I" } : Jvm.MethodName)) ∈ gt_tbl := gt_m (List.mem_append_right _ (List.mem_append_right _ (List.mem_append_left _ (List.mem_of_getElem? (i := 141) (by decide +kernel))))) (by decide)
theorem ww_382 : (Jvm.Cond.code ({ cls := "PakeDesk", name := "server", desc := "(IIJ)I" } : Jvm.MethodName) prog_1_method_7_code (6 : Nat) (Option.some Jvm.ClassFile.FieldType.int)) ∈ gt_tbl := gt_m (List.mem_append_right _ (List.mem_append_right _ (List.mem_append_left _ (List.mem_of_getElem? (i := 142) (by decide +kernel))))) (by decide)
theorem ww_418 : (Jvm.Cond.classLink "PakeDeskLaw" (25 : Nat) "java/util/NoSuchElementException") ∈ gt_tbl := gt_m (List.mem_append_right _ (List.mem_append_right _ (List.mem_append_left _ (List.mem_of_getElem? (i := 178) (by decide +kernel))))) (by decide)
theorem ww_621 : (Jvm.Cond.methodLink "PakeDeskLaw" (32 : Nat) ({ cls := "PakeDesk", name := "key", desc := "(I)J" } : Jvm.MethodName)) ∈ gt_tbl := gt_m (List.mem_append_right _ (List.mem_append_right _ (List.mem_append_right _ (List.mem_append_left _ (List.mem_of_getElem? (i := 141) (by decide +kernel)))))) (by decide)
theorem ww_622 : (Jvm.Cond.instanceMethod ({ cls := "PakeDesk", name := "key", desc := "(I)J" } : Jvm.MethodName)) ∈ gt_tbl := gt_m (List.mem_append_right _ (List.mem_append_right _ (List.mem_append_right _ (List.mem_append_left _ (List.mem_of_getElem? (i := 142) (by decide +kernel)))))) (by decide)
theorem ww_623 : (Jvm.Cond.selects "PakeDesk" ({ cls := "PakeDesk", name := "key", desc := "(I)J" } : Jvm.MethodName) ({ cls := "PakeDesk", name := "key", desc := "(I)J" } : Jvm.MethodName)) ∈ gt_tbl := gt_m (List.mem_append_right _ (List.mem_append_right _ (List.mem_append_right _ (List.mem_append_left _ (List.mem_of_getElem? (i := 143) (by decide +kernel)))))) (by decide)
theorem ww_624 : (Jvm.Cond.code ({ cls := "PakeDesk", name := "key", desc := "(I)J" } : Jvm.MethodName) prog_1_method_11_code (3 : Nat) (Option.some Jvm.ClassFile.FieldType.long)) ∈ gt_tbl := gt_m (List.mem_append_right _ (List.mem_append_right _ (List.mem_append_right _ (List.mem_append_left _ (List.mem_of_getElem? (i := 144) (by decide +kernel)))))) (by decide)
theorem ww_629 : (Jvm.Cond.methodLink "PakeDeskLaw" (36 : Nat) ({ cls := "PakeDesk", name := "tick", desc := "(I)I" } : Jvm.MethodName)) ∈ gt_tbl := gt_m (List.mem_append_right _ (List.mem_append_right _ (List.mem_append_right _ (List.mem_append_left _ (List.mem_of_getElem? (i := 149) (by decide +kernel)))))) (by decide)
theorem ww_630 : (Jvm.Cond.instanceMethod ({ cls := "PakeDesk", name := "tick", desc := "(I)I" } : Jvm.MethodName)) ∈ gt_tbl := gt_m (List.mem_append_right _ (List.mem_append_right _ (List.mem_append_right _ (List.mem_append_left _ (List.mem_of_getElem? (i := 150) (by decide +kernel)))))) (by decide)
theorem ww_631 : (Jvm.Cond.selects "PakeDesk" ({ cls := "PakeDesk", name := "tick", desc := "(I)I" } : Jvm.MethodName) ({ cls := "PakeDesk", name := "tick", desc := "(I)I" } : Jvm.MethodName)) ∈ gt_tbl := gt_m (List.mem_append_right _ (List.mem_append_right _ (List.mem_append_right _ (List.mem_append_left _ (List.mem_of_getElem? (i := 151) (by decide +kernel)))))) (by decide)
theorem ww_632 : (Jvm.Cond.code ({ cls := "PakeDesk", name := "tick", desc := "(I)I" } : Jvm.MethodName) prog_1_method_14_code (2 : Nat) (Option.some Jvm.ClassFile.FieldType.int)) ∈ gt_tbl := gt_m (List.mem_append_right _ (List.mem_append_right _ (List.mem_append_right _ (List.mem_append_left _ (List.mem_of_getElem? (i := 152) (by decide +kernel)))))) (by decide)
theorem wf_430 : (Jvm.Cond.castable "java/util/NoSuchElementException" "java/util/NoSuchElementException") ∈ nw_tbl := List.mem_filter.mpr ⟨List.mem_append_right _ (List.mem_append_right _ (List.mem_append_left _ (List.mem_of_getElem? (i := 190) (by decide +kernel)))), by decide⟩
theorem cy_D_tick : tb_C my_D_tick mb_D_tick 2 (some .int) 1 := ⟨ww_632, ww_1, by decide, by decide, by decide +kernel⟩
theorem cy_D_key : tb_C my_D_key mb_D_key 3 (some .long) 1 := ⟨ww_624, ww_1, by decide, by decide, by decide +kernel⟩
theorem cy_D_client : tb_C my_D_client mb_D_client 8 (some .int) 4 := ⟨ww_191, ww_1, by decide, by decide, by decide +kernel⟩
theorem cy_D_server : tb_C my_D_server mb_D_server 6 (some .int) 3 := ⟨ww_382, ww_1, by decide, by decide, by decide +kernel⟩
theorem d_L_client_0 : decode mb_L_client 0 = .ok (.aload 7, 2) := by decide +kernel
theorem d_L_client_2 : decode mb_L_client 2 = .ok (.iconst 0, 1) := by decide +kernel
theorem d_L_client_3 : decode mb_L_client 3 = .ok (.aload_n 0, 1) := by decide +kernel
theorem d_L_client_4 : decode mb_L_client 4 = .ok (.iload_n 1, 1) := by decide +kernel
theorem d_L_client_5 : decode mb_L_client 5 = .ok (.iload_n 2, 1) := by decide +kernel
theorem d_L_client_6 : decode mb_L_client 6 = .ok (.lload_n 3, 1) := by decide +kernel
theorem d_L_client_7 : decode mb_L_client 7 = .ok (.lload 5, 2) := by decide +kernel
theorem d_L_client_9 : decode mb_L_client 9 = .ok (.invokevirtual 7, 3) := by decide +kernel
theorem d_L_client_12 : decode mb_L_client 12 = .ok (.i2l, 1) := by decide +kernel
theorem d_L_client_13 : decode mb_L_client 13 = .ok (.lastore, 1) := by decide +kernel
theorem d_L_client_14 : decode mb_L_client 14 = .ok (.goto 11, 3) := by decide +kernel
theorem d_L_client_17 : decode mb_L_client 17 = .ok (.astore 8, 2) := by decide +kernel
theorem d_L_client_19 : decode mb_L_client 19 = .ok (.iconst 1, 1) := by decide +kernel
theorem d_L_client_20 : decode mb_L_client 20 = .ok (.ireturn, 1) := by decide +kernel
theorem d_L_client_21 : decode mb_L_client 21 = .ok (.astore 8, 2) := by decide +kernel
theorem d_L_client_23 : decode mb_L_client 23 = .ok (.iconst 2, 1) := by decide +kernel
theorem d_L_client_24 : decode mb_L_client 24 = .ok (.ireturn, 1) := by decide +kernel
theorem d_L_client_25 : decode mb_L_client 25 = .ok (.iconst 0, 1) := by decide +kernel
theorem d_L_client_26 : decode mb_L_client 26 = .ok (.ireturn, 1) := by decide +kernel
theorem d_L_server_0 : decode mb_L_server 0 = .ok (.aload 5, 2) := by decide +kernel
theorem d_L_server_2 : decode mb_L_server 2 = .ok (.iconst 0, 1) := by decide +kernel
theorem d_L_server_3 : decode mb_L_server 3 = .ok (.aload_n 0, 1) := by decide +kernel
theorem d_L_server_4 : decode mb_L_server 4 = .ok (.iload_n 1, 1) := by decide +kernel
theorem d_L_server_5 : decode mb_L_server 5 = .ok (.iload_n 2, 1) := by decide +kernel
theorem d_L_server_6 : decode mb_L_server 6 = .ok (.lload_n 3, 1) := by decide +kernel
theorem d_L_server_7 : decode mb_L_server 7 = .ok (.invokevirtual 17, 3) := by decide +kernel
theorem d_L_server_10 : decode mb_L_server 10 = .ok (.i2l, 1) := by decide +kernel
theorem d_L_server_11 : decode mb_L_server 11 = .ok (.lastore, 1) := by decide +kernel
theorem d_L_server_12 : decode mb_L_server 12 = .ok (.goto 11, 3) := by decide +kernel
theorem d_L_server_15 : decode mb_L_server 15 = .ok (.astore 6, 2) := by decide +kernel
theorem d_L_server_17 : decode mb_L_server 17 = .ok (.iconst 1, 1) := by decide +kernel
theorem d_L_server_18 : decode mb_L_server 18 = .ok (.ireturn, 1) := by decide +kernel
theorem d_L_server_19 : decode mb_L_server 19 = .ok (.astore 6, 2) := by decide +kernel
theorem d_L_server_21 : decode mb_L_server 21 = .ok (.iconst 2, 1) := by decide +kernel
theorem d_L_server_22 : decode mb_L_server 22 = .ok (.ireturn, 1) := by decide +kernel
theorem d_L_server_23 : decode mb_L_server 23 = .ok (.iconst 0, 1) := by decide +kernel
theorem d_L_server_24 : decode mb_L_server 24 = .ok (.ireturn, 1) := by decide +kernel
theorem d_L_receive_0 : decode mb_L_receive 0 = .ok (.aload 4, 2) := by decide +kernel
theorem d_L_receive_2 : decode mb_L_receive 2 = .ok (.iconst 0, 1) := by decide +kernel
theorem d_L_receive_3 : decode mb_L_receive 3 = .ok (.aload_n 0, 1) := by decide +kernel
theorem d_L_receive_4 : decode mb_L_receive 4 = .ok (.iload_n 1, 1) := by decide +kernel
theorem d_L_receive_5 : decode mb_L_receive 5 = .ok (.lload_n 2, 1) := by decide +kernel
theorem d_L_receive_6 : decode mb_L_receive 6 = .ok (.invokevirtual 21, 3) := by decide +kernel
theorem d_L_receive_9 : decode mb_L_receive 9 = .ok (.i2l, 1) := by decide +kernel
theorem d_L_receive_10 : decode mb_L_receive 10 = .ok (.lastore, 1) := by decide +kernel
theorem d_L_receive_11 : decode mb_L_receive 11 = .ok (.goto 19, 3) := by decide +kernel
theorem d_L_receive_14 : decode mb_L_receive 14 = .ok (.astore 5, 2) := by decide +kernel
theorem d_L_receive_16 : decode mb_L_receive 16 = .ok (.iconst 1, 1) := by decide +kernel
theorem d_L_receive_17 : decode mb_L_receive 17 = .ok (.ireturn, 1) := by decide +kernel
theorem d_L_receive_18 : decode mb_L_receive 18 = .ok (.astore 5, 2) := by decide +kernel
theorem d_L_receive_20 : decode mb_L_receive 20 = .ok (.iconst 2, 1) := by decide +kernel
theorem d_L_receive_21 : decode mb_L_receive 21 = .ok (.ireturn, 1) := by decide +kernel
theorem d_L_receive_22 : decode mb_L_receive 22 = .ok (.astore 5, 2) := by decide +kernel
theorem d_L_receive_24 : decode mb_L_receive 24 = .ok (.iconst 3, 1) := by decide +kernel
theorem d_L_receive_25 : decode mb_L_receive 25 = .ok (.ireturn, 1) := by decide +kernel
theorem d_L_receive_26 : decode mb_L_receive 26 = .ok (.astore 5, 2) := by decide +kernel
theorem d_L_receive_28 : decode mb_L_receive 28 = .ok (.iconst 4, 1) := by decide +kernel
theorem d_L_receive_29 : decode mb_L_receive 29 = .ok (.ireturn, 1) := by decide +kernel
theorem d_L_receive_30 : decode mb_L_receive 30 = .ok (.iconst 0, 1) := by decide +kernel
theorem d_L_receive_31 : decode mb_L_receive 31 = .ok (.ireturn, 1) := by decide +kernel
theorem d_L_pass_0 : decode mb_L_pass 0 = .ok (.aload 5, 2) := by decide +kernel
theorem d_L_pass_2 : decode mb_L_pass 2 = .ok (.iconst 0, 1) := by decide +kernel
theorem d_L_pass_3 : decode mb_L_pass 3 = .ok (.aload_n 0, 1) := by decide +kernel
theorem d_L_pass_4 : decode mb_L_pass 4 = .ok (.iload_n 1, 1) := by decide +kernel
theorem d_L_pass_5 : decode mb_L_pass 5 = .ok (.iload_n 2, 1) := by decide +kernel
theorem d_L_pass_6 : decode mb_L_pass 6 = .ok (.lload_n 3, 1) := by decide +kernel
theorem d_L_pass_7 : decode mb_L_pass 7 = .ok (.invokevirtual 29, 3) := by decide +kernel
theorem d_L_pass_10 : decode mb_L_pass 10 = .ok (.i2l, 1) := by decide +kernel
theorem d_L_pass_11 : decode mb_L_pass 11 = .ok (.lastore, 1) := by decide +kernel
theorem d_L_pass_12 : decode mb_L_pass 12 = .ok (.goto 19, 3) := by decide +kernel
theorem d_L_pass_15 : decode mb_L_pass 15 = .ok (.astore 6, 2) := by decide +kernel
theorem d_L_pass_17 : decode mb_L_pass 17 = .ok (.iconst 1, 1) := by decide +kernel
theorem d_L_pass_18 : decode mb_L_pass 18 = .ok (.ireturn, 1) := by decide +kernel
theorem d_L_pass_19 : decode mb_L_pass 19 = .ok (.astore 6, 2) := by decide +kernel
theorem d_L_pass_21 : decode mb_L_pass 21 = .ok (.iconst 2, 1) := by decide +kernel
theorem d_L_pass_22 : decode mb_L_pass 22 = .ok (.ireturn, 1) := by decide +kernel
theorem d_L_pass_23 : decode mb_L_pass 23 = .ok (.astore 6, 2) := by decide +kernel
theorem d_L_pass_25 : decode mb_L_pass 25 = .ok (.iconst 3, 1) := by decide +kernel
theorem d_L_pass_26 : decode mb_L_pass 26 = .ok (.ireturn, 1) := by decide +kernel
theorem d_L_pass_27 : decode mb_L_pass 27 = .ok (.astore 6, 2) := by decide +kernel
theorem d_L_pass_29 : decode mb_L_pass 29 = .ok (.iconst 4, 1) := by decide +kernel
theorem d_L_pass_30 : decode mb_L_pass 30 = .ok (.ireturn, 1) := by decide +kernel
theorem d_L_pass_31 : decode mb_L_pass 31 = .ok (.iconst 0, 1) := by decide +kernel
theorem d_L_pass_32 : decode mb_L_pass 32 = .ok (.ireturn, 1) := by decide +kernel
theorem d_L_key_0 : decode mb_L_key 0 = .ok (.aload_n 2, 1) := by decide +kernel
theorem d_L_key_1 : decode mb_L_key 1 = .ok (.iconst 0, 1) := by decide +kernel
theorem d_L_key_2 : decode mb_L_key 2 = .ok (.aload_n 0, 1) := by decide +kernel
theorem d_L_key_3 : decode mb_L_key 3 = .ok (.iload_n 1, 1) := by decide +kernel
theorem d_L_key_4 : decode mb_L_key 4 = .ok (.invokevirtual 32, 3) := by decide +kernel
theorem d_L_key_7 : decode mb_L_key 7 = .ok (.lastore, 1) := by decide +kernel
theorem d_L_key_8 : decode mb_L_key 8 = .ok (.goto 9, 3) := by decide +kernel
theorem d_L_key_11 : decode mb_L_key 11 = .ok (.astore_n 3, 1) := by decide +kernel
theorem d_L_key_12 : decode mb_L_key 12 = .ok (.iconst 1, 1) := by decide +kernel
theorem d_L_key_13 : decode mb_L_key 13 = .ok (.ireturn, 1) := by decide +kernel
theorem d_L_key_14 : decode mb_L_key 14 = .ok (.astore_n 3, 1) := by decide +kernel
theorem d_L_key_15 : decode mb_L_key 15 = .ok (.iconst 2, 1) := by decide +kernel
theorem d_L_key_16 : decode mb_L_key 16 = .ok (.ireturn, 1) := by decide +kernel
theorem d_L_key_17 : decode mb_L_key 17 = .ok (.iconst 0, 1) := by decide +kernel
theorem d_L_key_18 : decode mb_L_key 18 = .ok (.ireturn, 1) := by decide +kernel
theorem d_L_tick_0 : decode mb_L_tick 0 = .ok (.aload_n 2, 1) := by decide +kernel
theorem d_L_tick_1 : decode mb_L_tick 1 = .ok (.iconst 0, 1) := by decide +kernel
theorem d_L_tick_2 : decode mb_L_tick 2 = .ok (.aload_n 0, 1) := by decide +kernel
theorem d_L_tick_3 : decode mb_L_tick 3 = .ok (.iload_n 1, 1) := by decide +kernel
theorem d_L_tick_4 : decode mb_L_tick 4 = .ok (.invokevirtual 36, 3) := by decide +kernel
theorem d_L_tick_7 : decode mb_L_tick 7 = .ok (.i2l, 1) := by decide +kernel
theorem d_L_tick_8 : decode mb_L_tick 8 = .ok (.lastore, 1) := by decide +kernel
theorem d_L_tick_9 : decode mb_L_tick 9 = .ok (.goto 6, 3) := by decide +kernel
theorem d_L_tick_12 : decode mb_L_tick 12 = .ok (.astore_n 3, 1) := by decide +kernel
theorem d_L_tick_13 : decode mb_L_tick 13 = .ok (.iconst 1, 1) := by decide +kernel
theorem d_L_tick_14 : decode mb_L_tick 14 = .ok (.ireturn, 1) := by decide +kernel
theorem d_L_tick_15 : decode mb_L_tick 15 = .ok (.iconst 0, 1) := by decide +kernel
theorem d_L_tick_16 : decode mb_L_tick 16 = .ok (.ireturn, 1) := by decide +kernel
set_option maxHeartbeats 4000000 in
set_option maxRecDepth 100000 in
theorem c_L_tick1 (l : Launch) (G : va_G) (ct : Nat → ClassId) (sz : Nat) (hd : Nat) (us : Nat) (op : Nat) (n : Nat) (ck : Int32) (tk : Int32) (qo : Nat) (og : Nat → Int64) (ht0 : 0 ≤ tk) (ht1 : tk ≤ 100) : Met l my_L_tick (tb_wH my_L_tick mb_L_tick 4 (some .int) [(0, 9, 12, 13)]) ({ frames := 1, cells := 0, slots := 0, locals := 21 }) (wk_P [.ref hd, .int tk, .ref qo] G ct [(hd, .inr (0, [.ref us, .ref op, .int (nI n), .int ck])), (qo, .inl ((ct 1), 1, .inr (.inl og)))] sz) (wk_Q (wk_oi (S := Unit) (fun _ => 0) (fun _ => True)) (fun _ : Unit => [(hd, .inr (0, [.ref us, .ref op, .int (nI n), .int (ck + tk)])), (qo, .inl ((ct 1), 1, .inr (.inl (vp_updL og 0 ((ck + tk).toInt64)))))]) G (va_A [(hd, .inr (0, [.ref us, .ref op, .int (nI n), .int ck])), (qo, .inl ((ct 1), 1, .inr (.inl og)))] sz)) 0 0 (va_A [(hd, .inr (0, [.ref us, .ref op, .int (nI n), .int ck])), (qo, .inl ((ct 1), 1, .inr (.inl og)))] sz) := by
  refine va_MetW (cc := mb_L_tick) (maxL := 4) (ret := (some .int)) (by decide) rfl ?_
  intro p e s m args below meth c s₁ B hml hv
  have htab := sh_tab B
  obtain ⟨rfl, hsz, hP, hK, hD0⟩ := hv
  have hx := B.exec
  have hb := B.bytes
  have hr := B.returns
  have hts := atoms_spec (ws := tb_wH my_L_tick mb_L_tick 4 (some .int) [(0, 9, 12, 13)]) B.pre
  have hw : ∀ w ∈ gt_tbl, w.before [.ref hd, .int tk, .ref qo].toArray s = true := fun w h => hts w (List.mem_cons_of_mem _ h)
  have hown : s.vm.findClass cr_L = some m.cls := findClass_of_methodNamed B.named
  have hlocks := B.notSynchronized
  subst hsz
  have hD := hD0.self (sz := s.heap.size)
  generalize hAe : va_A [(hd, .inr (0, [.ref us, .ref op, .int (nI n), .int ck])), (qo, .inl ((ct 1), 1, .inr (.inl og)))] s.heap.size = A at hD ⊢
  have hA : ∀ q : Nat, s.heap.size ≤ q → A q := fun q h => by rw [← hAe]; exact Or.inr h
  have hS : va_S A s.heap s.heap [] := va_S.rf
  have hP : va_P G classes [(hd, .inr (0, [.ref us, .ref op, .int (nI n), .int ck])), (qo, .inl ((ct 1), 1, .inr (.inl og)))] s.heap := hP
  have hl := lv_entry ([.ref hd, .int tk, .ref qo]) (n := 4) (Nat.le_of_ble_eq_true rfl)
  rw [lg_entry_eq]
  generalize (lg_sl ([.ref hd, .int tk, .ref qo]) ++ List.replicate (4 - (lg_sl ([.ref hd, .int tk, .ref qo])).length) Slot.unset).toArray = ls at hl ⊢
  have hl : lv_has ls 4 [(0, .ref hd), (1, .int tk), (2, .ref qo)] := hl
  refine lv_aload_n hx hb d_L_tick_0 rfl (lv_at hl 2 rfl) ?_
  refine lv_iconst (v := 0) hx hb d_L_tick_1 (by decide) ?_
  refine lv_aload_n hx hb d_L_tick_2 rfl (lv_at hl 0 rfl) ?_
  refine lv_iload_n hx hb d_L_tick_3 rfl (lv_at hl 1 rfl) ?_
  have hPc : va_P G classes [(hd, .inr (0, [.ref us, .ref op, .int (nI n), .int ck]))] s.heap := hP.sub [0] rfl
  have hDc := hD.sub (ws' := [(hd, .inr (0, [.ref us, .ref op, .int (nI n), .int ck]))]) [0] (by decide) rfl
  refine wk_i (va_runV (As := [.int tk]) (rest := [.int 0, .ref qo]) ⟨hx, hb, hml, hown, hts⟩ (c_D_tick1 l G ct s.heap.size hd us op n ck tk ht0 ht1) (tb_V hw cy_D_tick ww_629 ww_630 ww_631 rfl rfl ⟨Nat.le_of_ble_eq_true rfl, Nat.le_of_ble_eq_true rfl⟩) (wk_preV (ci := 0) (q0 := 0) hPc hK hDc rfl rfl) rfl rfl hl.1 rfl (lv_room (Nat.le_of_ble_eq_true rfl)) d_L_tick_4 ⟨Nat.le_of_ble_eq_true rfl, Nat.le_of_ble_eq_true rfl⟩) hP hD hS hA [0] (by decide) rfl (fun _ => by simp only [List.map_cons, List.map_nil]) (fun _ H locs ok912 hP hD hS => ?_)
  have hP : va_P G classes [(hd, .inr (0, [.ref us, .ref op, .int (nI n), .int (ck + tk)])), (qo, .inl ((ct 1), 1, .inr (.inl og)))] H := hP
  have hD : va_D A [(hd, .inr (0, [.ref us, .ref op, .int (nI n), .int (ck + tk)])), (qo, .inl ((ct 1), 1, .inr (.inl og)))] := hD
  refine lv_i2l (v := (ck + tk).toInt64) hx hb d_L_tick_7 rfl ?_
  refine ra_ls hx hb hK.1 hP hD hS 1 1 rfl rfl (k := 0) (by omega) (by decide) d_L_tick_8 (fun H locs hP hD hS => ?_)
  have hP : va_P G classes [(hd, .inr (0, [.ref us, .ref op, .int (nI n), .int (ck + tk)])), (qo, .inl ((ct 1), 1, .inr (.inl (vp_updL og 0 ((ck + tk).toInt64)))))] H := hP
  have hD : va_D A [(hd, .inr (0, [.ref us, .ref op, .int (nI n), .int (ck + tk)])), (qo, .inl ((ct 1), 1, .inr (.inl (vp_updL og 0 ((ck + tk).toInt64)))))] := hD
  refine lv_goto (tgt := 15) hx hb d_L_tick_9 (by decide) ?_
  refine lv_iconst (v := 0) hx hb d_L_tick_15 (by decide) ?_
  exact W.iret (v := 0) hx hb hr (fun t ht hW => ⟨⟨(), ⟨rfl, trivial⟩, by rw [ht]; exact hP, hD⟩, hS.F ht⟩) hS.2.2 d_L_tick_16
set_option maxHeartbeats 4000000 in
set_option maxRecDepth 100000 in
theorem c_L_tick0 (l : Launch) (hfl : l.flags = pinnedFlags ++ [noTraceFlag]) (G : va_G) (ct : Nat → ClassId) (sz : Nat) (hd : Nat) (us : Nat) (op : Nat) (n : Nat) (ck : Int32) (tk : Int32) (qo : Nat) (og : Nat → Int64) (hno : ¬ (0 ≤ tk ∧ tk ≤ 100)) : Met l my_L_tick (tb_wH my_L_tick mb_L_tick 4 (some .int) [(0, 9, 12, 13)]) ({ frames := 7, cells := 1, slots := 6, locals := 103 }) (wk_P5 [.ref hd, .int tk, .ref qo] G ct [(hd, .inr (0, [.ref us, .ref op, .int (nI n), .int ck])), (qo, .inl ((ct 1), 1, .inr (.inl og)))] sz) (wk_Q (wk_oi (S := Unit) (fun _ => 1) (fun _ => True)) (fun _ : Unit => [(hd, .inr (0, [.ref us, .ref op, .int (nI n), .int ck])), (qo, .inl ((ct 1), 1, .inr (.inl og)))]) G (va_A [(hd, .inr (0, [.ref us, .ref op, .int (nI n), .int ck])), (qo, .inl ((ct 1), 1, .inr (.inl og)))] sz)) 1 6 (va_A [(hd, .inr (0, [.ref us, .ref op, .int (nI n), .int ck])), (qo, .inl ((ct 1), 1, .inr (.inl og)))] sz) := by
  refine va_MetW (cc := mb_L_tick) (maxL := 4) (ret := (some .int)) (by decide) rfl ?_
  intro p e s m args below meth c s₁ B hml hv
  have htab := sh_tab B
  obtain ⟨⟨⟨⟨rfl, hsz, hP, hK, hD0⟩, hZ⟩, hR⟩, hN⟩ := hv
  have hx := B.exec
  have hb := B.bytes
  have hr := B.returns
  have hts := atoms_spec (ws := tb_wH my_L_tick mb_L_tick 4 (some .int) [(0, 9, 12, 13)]) B.pre
  have hw : ∀ w ∈ gt_tbl, w.before [.ref hd, .int tk, .ref qo].toArray s = true := fun w h => hts w (List.mem_cons_of_mem _ h)
  have hown : s.vm.findClass cr_L = some m.cls := findClass_of_methodNamed B.named
  have hlocks := B.notSynchronized
  subst hsz
  have hD := hD0.self (sz := s.heap.size)
  generalize hAe : va_A [(hd, .inr (0, [.ref us, .ref op, .int (nI n), .int ck])), (qo, .inl ((ct 1), 1, .inr (.inl og)))] s.heap.size = A at hD hZ ⊢
  have hA : ∀ q : Nat, s.heap.size ≤ q → A q := fun q h => by rw [← hAe]; exact Or.inr h
  have hS : va_S A s.heap s.heap [] := va_S.rf
  have hP : va_P G classes [(hd, .inr (0, [.ref us, .ref op, .int (nI n), .int ck])), (qo, .inl ((ct 1), 1, .inr (.inl og)))] s.heap := hP
  have hl := lv_entry ([.ref hd, .int tk, .ref qo]) (n := 4) (Nat.le_of_ble_eq_true rfl)
  rw [lg_entry_eq]
  generalize (lg_sl ([.ref hd, .int tk, .ref qo]) ++ List.replicate (4 - (lg_sl ([.ref hd, .int tk, .ref qo])).length) Slot.unset).toArray = ls at hl ⊢
  have hl : lv_has ls 4 [(0, .ref hd), (1, .int tk), (2, .ref qo)] := hl
  refine lv_aload_n hx hb d_L_tick_0 rfl (lv_at hl 2 rfl) ?_
  refine lv_iconst (v := 0) hx hb d_L_tick_1 (by decide) ?_
  refine lv_aload_n hx hb d_L_tick_2 rfl (lv_at hl 0 rfl) ?_
  refine lv_iload_n hx hb d_L_tick_3 rfl (lv_at hl 1 rfl) ?_
  have hPc : va_P G classes [(hd, .inr (0, [.ref us, .ref op, .int (nI n), .int ck]))] s.heap := hP.sub [0] rfl
  have hDc := hD.sub (ws' := [(hd, .inr (0, [.ref us, .ref op, .int (nI n), .int ck]))]) [0] (by decide) rfl
  refine wk_catch (As := [.int tk]) (rest := [.int 0, .ref qo]) ⟨hx, hb, hml, hown, hts⟩ (c_D_tick0 l hfl G ct s.heap.size hd us op n ck tk hno) (tb_V hw cy_D_tick ww_629 ww_630 ww_631 rfl rfl ⟨Nat.le_of_ble_eq_true rfl, Nat.le_of_ble_eq_true rfl⟩) (wk_preV4 (ci := 0) (q0 := 0) hPc hK hDc hD hS hA [0] rfl hZ hR rfl rfl) rfl hl.1 rfl (lv_room (Nat.le_of_ble_eq_true rfl)) d_L_tick_4 ⟨Nat.le_of_ble_eq_true rfl, Nat.le_of_ble_eq_true rfl⟩ hP hD hS hA [0] (by decide) rfl (by simp only [List.map_cons, List.map_nil]) hown [] ⟨0, 9, 12, 13⟩ [] ((ct_tab htab).trans rfl) (fun _ h => nomatch h) rfl (by decide) (hw _ ww_186) (hK.2.use wf_194) (fun x9 H locs hP hD hS => ?_)
  have hP : va_P G classes [(hd, .inr (0, [.ref us, .ref op, .int (nI n), .int ck])), (qo, .inl ((ct 1), 1, .inr (.inl og)))] H := hP
  have hD : va_D A [(hd, .inr (0, [.ref us, .ref op, .int (nI n), .int ck])), (qo, .inl ((ct 1), 1, .inr (.inl og)))] := hD
  refine lv_astore_n (lv' := [(3, .ref x9), (0, .ref hd), (1, .int tk), (2, .ref qo)]) hx hb d_L_tick_12 rfl hl (Nat.le_of_ble_eq_true rfl) rfl (fun ls hl => ?_)
  refine lv_iconst (v := 1) hx hb d_L_tick_13 (by decide) ?_
  refine W.widen (k := 1) (n := 6) (Nat.le_of_ble_eq_true rfl) (Nat.le_of_ble_eq_true rfl) ?_
  exact W.iret (v := 1) hx hb hr (fun t ht hW => ⟨⟨(), ⟨rfl, trivial⟩, by rw [ht]; exact hP, hD⟩, hS.F ht⟩) hS.2.2 d_L_tick_14
set_option maxHeartbeats 4000000 in
set_option maxRecDepth 100000 in
theorem c_L_keyC (l : Launch) (G : va_G) (ct : Nat → ClassId) (sz : Nat) (hd : Nat) (us : Nat) (op : Nat) (n : Nat) (ck : Int32) (fo : Nat → Option Nat) (k : Nat) (h0 : Nat) (hu : Nat) (wy : Int32) (sec : Nat) (bg : Int32) (st : Int32) (x : Nat) (y : Nat) (ky : Int64) (c1 : Int64) (c2 : Int64) (ms : Int64) (pw : Int64) (rc : Nat) (qo : Nat) (og : Nat → Int64) (hn : n ≤ 40) (hkn : k < n) (hfo : fo k = some h0) (hst : st = 2) : Met l my_L_key (tb_wH my_L_key mb_L_key 4 (some .int) [(0, 8, 11, 25), (0, 8, 14, 15)]) ({ frames := 2, cells := 0, slots := 0, locals := 43 }) (wk_P [.ref hd, .int (nI k), .ref qo] G ct [(hd, .inr (0, [.ref us, .ref op, .int (nI n), .int ck])), (op, .inl ((ct 4), 40, .inr (.inr (.inr (.inr fo))))), (h0, .inr (2, [.ref hu, .int wy, .long (lN sec), .int bg, .int st, .long (lN x), .long (lN y), .long ky, .long c1, .long c2, .long ms, .long pw, .long (lN rc)])), (qo, .inl ((ct 1), 1, .inr (.inl og)))] sz) (wk_Q (wk_oi (S := Unit) (fun _ => 0) (fun _ => True)) (fun _ : Unit => [(hd, .inr (0, [.ref us, .ref op, .int (nI n), .int ck])), (op, .inl ((ct 4), 40, .inr (.inr (.inr (.inr fo))))), (h0, .inr (2, [.ref hu, .int wy, .long (lN sec), .int bg, .int st, .long (lN x), .long (lN y), .long ky, .long c1, .long c2, .long ms, .long pw, .long (lN rc)])), (qo, .inl ((ct 1), 1, .inr (.inl (vp_updL og 0 ky))))]) G (va_A [(hd, .inr (0, [.ref us, .ref op, .int (nI n), .int ck])), (op, .inl ((ct 4), 40, .inr (.inr (.inr (.inr fo))))), (h0, .inr (2, [.ref hu, .int wy, .long (lN sec), .int bg, .int st, .long (lN x), .long (lN y), .long ky, .long c1, .long c2, .long ms, .long pw, .long (lN rc)])), (qo, .inl ((ct 1), 1, .inr (.inl og)))] sz)) 0 0 (va_A [(hd, .inr (0, [.ref us, .ref op, .int (nI n), .int ck])), (op, .inl ((ct 4), 40, .inr (.inr (.inr (.inr fo))))), (h0, .inr (2, [.ref hu, .int wy, .long (lN sec), .int bg, .int st, .long (lN x), .long (lN y), .long ky, .long c1, .long c2, .long ms, .long pw, .long (lN rc)])), (qo, .inl ((ct 1), 1, .inr (.inl og)))] sz) := by
  refine va_MetW (cc := mb_L_key) (maxL := 4) (ret := (some .int)) (by decide) rfl ?_
  intro p e s m args below meth c s₁ B hml hv
  have htab := sh_tab B
  obtain ⟨rfl, hsz, hP, hK, hD0⟩ := hv
  have hx := B.exec
  have hb := B.bytes
  have hr := B.returns
  have hts := atoms_spec (ws := tb_wH my_L_key mb_L_key 4 (some .int) [(0, 8, 11, 25), (0, 8, 14, 15)]) B.pre
  have hw : ∀ w ∈ gt_tbl, w.before [.ref hd, .int (nI k), .ref qo].toArray s = true := fun w h => hts w (List.mem_cons_of_mem _ h)
  have hown : s.vm.findClass cr_L = some m.cls := findClass_of_methodNamed B.named
  have hlocks := B.notSynchronized
  subst hsz
  have hD := hD0.self (sz := s.heap.size)
  generalize hAe : va_A [(hd, .inr (0, [.ref us, .ref op, .int (nI n), .int ck])), (op, .inl ((ct 4), 40, .inr (.inr (.inr (.inr fo))))), (h0, .inr (2, [.ref hu, .int wy, .long (lN sec), .int bg, .int st, .long (lN x), .long (lN y), .long ky, .long c1, .long c2, .long ms, .long pw, .long (lN rc)])), (qo, .inl ((ct 1), 1, .inr (.inl og)))] s.heap.size = A at hD ⊢
  have hA : ∀ q : Nat, s.heap.size ≤ q → A q := fun q h => by rw [← hAe]; exact Or.inr h
  have hS : va_S A s.heap s.heap [] := va_S.rf
  have hP : va_P G classes [(hd, .inr (0, [.ref us, .ref op, .int (nI n), .int ck])), (op, .inl ((ct 4), 40, .inr (.inr (.inr (.inr fo))))), (h0, .inr (2, [.ref hu, .int wy, .long (lN sec), .int bg, .int st, .long (lN x), .long (lN y), .long ky, .long c1, .long c2, .long ms, .long pw, .long (lN rc)])), (qo, .inl ((ct 1), 1, .inr (.inl og)))] s.heap := hP
  have hl := lv_entry ([.ref hd, .int (nI k), .ref qo]) (n := 4) (Nat.le_of_ble_eq_true rfl)
  rw [lg_entry_eq]
  generalize (lg_sl ([.ref hd, .int (nI k), .ref qo]) ++ List.replicate (4 - (lg_sl ([.ref hd, .int (nI k), .ref qo])).length) Slot.unset).toArray = ls at hl ⊢
  have hl : lv_has ls 4 [(0, .ref hd), (1, .int (nI k)), (2, .ref qo)] := hl
  refine lv_aload_n hx hb d_L_key_0 rfl (lv_at hl 2 rfl) ?_
  refine lv_iconst (v := 0) hx hb d_L_key_1 (by decide) ?_
  refine lv_aload_n hx hb d_L_key_2 rfl (lv_at hl 0 rfl) ?_
  refine lv_iload_n hx hb d_L_key_3 rfl (lv_at hl 1 rfl) ?_
  have hPc : va_P G classes [(hd, .inr (0, [.ref us, .ref op, .int (nI n), .int ck])), (op, .inl ((ct 4), 40, .inr (.inr (.inr (.inr fo))))), (h0, .inr (2, [.ref hu, .int wy, .long (lN sec), .int bg, .int st, .long (lN x), .long (lN y), .long ky, .long c1, .long c2, .long ms, .long pw, .long (lN rc)]))] s.heap := hP.sub [0, 1, 2] rfl
  have hDc := hD.sub (ws' := [(hd, .inr (0, [.ref us, .ref op, .int (nI n), .int ck])), (op, .inl ((ct 4), 40, .inr (.inr (.inr (.inr fo))))), (h0, .inr (2, [.ref hu, .int wy, .long (lN sec), .int bg, .int st, .long (lN x), .long (lN y), .long ky, .long c1, .long c2, .long ms, .long pw, .long (lN rc)]))]) [0, 1, 2] (by decide) rfl
  refine vp_callSl (W.runV (As := [.int (nI k)]) (rest := [.int 0, .ref qo]) ⟨hx, hb, hml, hown, hts⟩ (c_D_keyC l G ct s.heap.size hd us op n ck fo k h0 hu wy sec bg st x y ky c1 c2 ms pw rc hn hkn hfo hst) (tb_V hw cy_D_key ww_621 ww_622 ww_623 rfl rfl ⟨Nat.le_of_ble_eq_true rfl, Nat.le_of_ble_eq_true rfl⟩) (wk_preV (ci := 0) (q0 := 0) hPc hK hDc rfl rfl) rfl rfl hl.1 rfl (lv_room (Nat.le_of_ble_eq_true rfl)) d_L_key_4 ⟨Nat.le_of_ble_eq_true rfl, Nat.le_of_ble_eq_true rfl⟩) (fun r913 er913 => ?_)
  rw [er913]
  refine ra_ls hx hb hK.1 hP hD hS 3 1 rfl rfl (k := 0) (by omega) (by decide) d_L_key_7 (fun H locs hP hD hS => ?_)
  have hP : va_P G classes [(hd, .inr (0, [.ref us, .ref op, .int (nI n), .int ck])), (op, .inl ((ct 4), 40, .inr (.inr (.inr (.inr fo))))), (h0, .inr (2, [.ref hu, .int wy, .long (lN sec), .int bg, .int st, .long (lN x), .long (lN y), .long ky, .long c1, .long c2, .long ms, .long pw, .long (lN rc)])), (qo, .inl ((ct 1), 1, .inr (.inl (vp_updL og 0 ky))))] H := hP
  have hD : va_D A [(hd, .inr (0, [.ref us, .ref op, .int (nI n), .int ck])), (op, .inl ((ct 4), 40, .inr (.inr (.inr (.inr fo))))), (h0, .inr (2, [.ref hu, .int wy, .long (lN sec), .int bg, .int st, .long (lN x), .long (lN y), .long ky, .long c1, .long c2, .long ms, .long pw, .long (lN rc)])), (qo, .inl ((ct 1), 1, .inr (.inl (vp_updL og 0 ky))))] := hD
  refine lv_goto (tgt := 17) hx hb d_L_key_8 (by decide) ?_
  refine lv_iconst (v := 0) hx hb d_L_key_17 (by decide) ?_
  exact W.iret (v := 0) hx hb hr (fun t ht hW => ⟨⟨(), ⟨rfl, trivial⟩, by rw [ht]; exact hP, hD⟩, hS.F ht⟩) hS.2.2 d_L_key_18
set_option maxHeartbeats 4000000 in
set_option maxRecDepth 100000 in
theorem c_L_keyV (l : Launch) (G : va_G) (ct : Nat → ClassId) (sz : Nat) (hd : Nat) (us : Nat) (op : Nat) (n : Nat) (ck : Int32) (fo : Nat → Option Nat) (k : Nat) (h0 : Nat) (hu : Nat) (wy : Int32) (sec : Nat) (bg : Int32) (st : Int32) (x : Nat) (y : Nat) (ky : Int64) (c1 : Int64) (c2 : Int64) (ms : Int64) (rc : Nat) (qo : Nat) (og : Nat → Int64) (hn : n ≤ 40) (hkn : k < n) (hfo : fo k = some h0) (hst : st = 2) : Met l my_L_key (tb_wH my_L_key mb_L_key 4 (some .int) [(0, 8, 11, 25), (0, 8, 14, 15)]) ({ frames := 2, cells := 0, slots := 0, locals := 43 }) (wk_P [.ref hd, .int (nI k), .ref qo] G ct [(hd, .inr (0, [.ref us, .ref op, .int (nI n), .int ck])), (op, .inl ((ct 4), 40, .inr (.inr (.inr (.inr fo))))), (h0, .inr (3, [.ref hu, .int wy, .long (lN sec), .int bg, .int st, .long (lN x), .long (lN y), .long ky, .long c1, .long c2, .long ms, .long (lN rc)])), (qo, .inl ((ct 1), 1, .inr (.inl og)))] sz) (wk_Q (wk_oi (S := Unit) (fun _ => 0) (fun _ => True)) (fun _ : Unit => [(hd, .inr (0, [.ref us, .ref op, .int (nI n), .int ck])), (op, .inl ((ct 4), 40, .inr (.inr (.inr (.inr fo))))), (h0, .inr (3, [.ref hu, .int wy, .long (lN sec), .int bg, .int st, .long (lN x), .long (lN y), .long ky, .long c1, .long c2, .long ms, .long (lN rc)])), (qo, .inl ((ct 1), 1, .inr (.inl (vp_updL og 0 ky))))]) G (va_A [(hd, .inr (0, [.ref us, .ref op, .int (nI n), .int ck])), (op, .inl ((ct 4), 40, .inr (.inr (.inr (.inr fo))))), (h0, .inr (3, [.ref hu, .int wy, .long (lN sec), .int bg, .int st, .long (lN x), .long (lN y), .long ky, .long c1, .long c2, .long ms, .long (lN rc)])), (qo, .inl ((ct 1), 1, .inr (.inl og)))] sz)) 0 0 (va_A [(hd, .inr (0, [.ref us, .ref op, .int (nI n), .int ck])), (op, .inl ((ct 4), 40, .inr (.inr (.inr (.inr fo))))), (h0, .inr (3, [.ref hu, .int wy, .long (lN sec), .int bg, .int st, .long (lN x), .long (lN y), .long ky, .long c1, .long c2, .long ms, .long (lN rc)])), (qo, .inl ((ct 1), 1, .inr (.inl og)))] sz) := by
  refine va_MetW (cc := mb_L_key) (maxL := 4) (ret := (some .int)) (by decide) rfl ?_
  intro p e s m args below meth c s₁ B hml hv
  have htab := sh_tab B
  obtain ⟨rfl, hsz, hP, hK, hD0⟩ := hv
  have hx := B.exec
  have hb := B.bytes
  have hr := B.returns
  have hts := atoms_spec (ws := tb_wH my_L_key mb_L_key 4 (some .int) [(0, 8, 11, 25), (0, 8, 14, 15)]) B.pre
  have hw : ∀ w ∈ gt_tbl, w.before [.ref hd, .int (nI k), .ref qo].toArray s = true := fun w h => hts w (List.mem_cons_of_mem _ h)
  have hown : s.vm.findClass cr_L = some m.cls := findClass_of_methodNamed B.named
  have hlocks := B.notSynchronized
  subst hsz
  have hD := hD0.self (sz := s.heap.size)
  generalize hAe : va_A [(hd, .inr (0, [.ref us, .ref op, .int (nI n), .int ck])), (op, .inl ((ct 4), 40, .inr (.inr (.inr (.inr fo))))), (h0, .inr (3, [.ref hu, .int wy, .long (lN sec), .int bg, .int st, .long (lN x), .long (lN y), .long ky, .long c1, .long c2, .long ms, .long (lN rc)])), (qo, .inl ((ct 1), 1, .inr (.inl og)))] s.heap.size = A at hD ⊢
  have hA : ∀ q : Nat, s.heap.size ≤ q → A q := fun q h => by rw [← hAe]; exact Or.inr h
  have hS : va_S A s.heap s.heap [] := va_S.rf
  have hP : va_P G classes [(hd, .inr (0, [.ref us, .ref op, .int (nI n), .int ck])), (op, .inl ((ct 4), 40, .inr (.inr (.inr (.inr fo))))), (h0, .inr (3, [.ref hu, .int wy, .long (lN sec), .int bg, .int st, .long (lN x), .long (lN y), .long ky, .long c1, .long c2, .long ms, .long (lN rc)])), (qo, .inl ((ct 1), 1, .inr (.inl og)))] s.heap := hP
  have hl := lv_entry ([.ref hd, .int (nI k), .ref qo]) (n := 4) (Nat.le_of_ble_eq_true rfl)
  rw [lg_entry_eq]
  generalize (lg_sl ([.ref hd, .int (nI k), .ref qo]) ++ List.replicate (4 - (lg_sl ([.ref hd, .int (nI k), .ref qo])).length) Slot.unset).toArray = ls at hl ⊢
  have hl : lv_has ls 4 [(0, .ref hd), (1, .int (nI k)), (2, .ref qo)] := hl
  refine lv_aload_n hx hb d_L_key_0 rfl (lv_at hl 2 rfl) ?_
  refine lv_iconst (v := 0) hx hb d_L_key_1 (by decide) ?_
  refine lv_aload_n hx hb d_L_key_2 rfl (lv_at hl 0 rfl) ?_
  refine lv_iload_n hx hb d_L_key_3 rfl (lv_at hl 1 rfl) ?_
  have hPc : va_P G classes [(hd, .inr (0, [.ref us, .ref op, .int (nI n), .int ck])), (op, .inl ((ct 4), 40, .inr (.inr (.inr (.inr fo))))), (h0, .inr (3, [.ref hu, .int wy, .long (lN sec), .int bg, .int st, .long (lN x), .long (lN y), .long ky, .long c1, .long c2, .long ms, .long (lN rc)]))] s.heap := hP.sub [0, 1, 2] rfl
  have hDc := hD.sub (ws' := [(hd, .inr (0, [.ref us, .ref op, .int (nI n), .int ck])), (op, .inl ((ct 4), 40, .inr (.inr (.inr (.inr fo))))), (h0, .inr (3, [.ref hu, .int wy, .long (lN sec), .int bg, .int st, .long (lN x), .long (lN y), .long ky, .long c1, .long c2, .long ms, .long (lN rc)]))]) [0, 1, 2] (by decide) rfl
  refine vp_callSl (W.runV (As := [.int (nI k)]) (rest := [.int 0, .ref qo]) ⟨hx, hb, hml, hown, hts⟩ (c_D_keyV l G ct s.heap.size hd us op n ck fo k h0 hu wy sec bg st x y ky c1 c2 ms rc hn hkn hfo hst) (tb_V hw cy_D_key ww_621 ww_622 ww_623 rfl rfl ⟨Nat.le_of_ble_eq_true rfl, Nat.le_of_ble_eq_true rfl⟩) (wk_preV (ci := 0) (q0 := 0) hPc hK hDc rfl rfl) rfl rfl hl.1 rfl (lv_room (Nat.le_of_ble_eq_true rfl)) d_L_key_4 ⟨Nat.le_of_ble_eq_true rfl, Nat.le_of_ble_eq_true rfl⟩) (fun r914 er914 => ?_)
  rw [er914]
  refine ra_ls hx hb hK.1 hP hD hS 3 1 rfl rfl (k := 0) (by omega) (by decide) d_L_key_7 (fun H locs hP hD hS => ?_)
  have hP : va_P G classes [(hd, .inr (0, [.ref us, .ref op, .int (nI n), .int ck])), (op, .inl ((ct 4), 40, .inr (.inr (.inr (.inr fo))))), (h0, .inr (3, [.ref hu, .int wy, .long (lN sec), .int bg, .int st, .long (lN x), .long (lN y), .long ky, .long c1, .long c2, .long ms, .long (lN rc)])), (qo, .inl ((ct 1), 1, .inr (.inl (vp_updL og 0 ky))))] H := hP
  have hD : va_D A [(hd, .inr (0, [.ref us, .ref op, .int (nI n), .int ck])), (op, .inl ((ct 4), 40, .inr (.inr (.inr (.inr fo))))), (h0, .inr (3, [.ref hu, .int wy, .long (lN sec), .int bg, .int st, .long (lN x), .long (lN y), .long ky, .long c1, .long c2, .long ms, .long (lN rc)])), (qo, .inl ((ct 1), 1, .inr (.inl (vp_updL og 0 ky))))] := hD
  refine lv_goto (tgt := 17) hx hb d_L_key_8 (by decide) ?_
  refine lv_iconst (v := 0) hx hb d_L_key_17 (by decide) ?_
  exact W.iret (v := 0) hx hb hr (fun t ht hW => ⟨⟨(), ⟨rfl, trivial⟩, by rw [ht]; exact hP, hD⟩, hS.F ht⟩) hS.2.2 d_L_key_18
set_option maxHeartbeats 4000000 in
set_option maxRecDepth 100000 in
theorem c_L_key2C (l : Launch) (hfl : l.flags = pinnedFlags ++ [noTraceFlag]) (G : va_G) (ct : Nat → ClassId) (sz : Nat) (hd : Nat) (us : Nat) (op : Nat) (n : Nat) (ck : Int32) (fo : Nat → Option Nat) (k : Nat) (h0 : Nat) (hu : Nat) (wy : Int32) (sec : Nat) (bg : Int32) (st : Int32) (x : Nat) (y : Nat) (ky : Int64) (c1 : Int64) (c2 : Int64) (ms : Int64) (pw : Int64) (rc : Nat) (qo : Nat) (og : Nat → Int64) (hn : n ≤ 40) (hkn : k < n) (hfo : fo k = some h0) (hst : ¬ st = 2) : Met l my_L_key (tb_wH my_L_key mb_L_key 4 (some .int) [(0, 8, 11, 25), (0, 8, 14, 15)]) ({ frames := 7, cells := 1, slots := 6, locals := 104 }) (wk_P5 [.ref hd, .int (nI k), .ref qo] G ct [(hd, .inr (0, [.ref us, .ref op, .int (nI n), .int ck])), (op, .inl ((ct 4), 40, .inr (.inr (.inr (.inr fo))))), (h0, .inr (2, [.ref hu, .int wy, .long (lN sec), .int bg, .int st, .long (lN x), .long (lN y), .long ky, .long c1, .long c2, .long ms, .long pw, .long (lN rc)])), (qo, .inl ((ct 1), 1, .inr (.inl og)))] sz) (wk_Q (wk_oi (S := Unit) (fun _ => 2) (fun _ => True)) (fun _ : Unit => [(hd, .inr (0, [.ref us, .ref op, .int (nI n), .int ck])), (op, .inl ((ct 4), 40, .inr (.inr (.inr (.inr fo))))), (h0, .inr (2, [.ref hu, .int wy, .long (lN sec), .int bg, .int st, .long (lN x), .long (lN y), .long ky, .long c1, .long c2, .long ms, .long pw, .long (lN rc)])), (qo, .inl ((ct 1), 1, .inr (.inl og)))]) G (va_A [(hd, .inr (0, [.ref us, .ref op, .int (nI n), .int ck])), (op, .inl ((ct 4), 40, .inr (.inr (.inr (.inr fo))))), (h0, .inr (2, [.ref hu, .int wy, .long (lN sec), .int bg, .int st, .long (lN x), .long (lN y), .long ky, .long c1, .long c2, .long ms, .long pw, .long (lN rc)])), (qo, .inl ((ct 1), 1, .inr (.inl og)))] sz)) 1 6 (va_A [(hd, .inr (0, [.ref us, .ref op, .int (nI n), .int ck])), (op, .inl ((ct 4), 40, .inr (.inr (.inr (.inr fo))))), (h0, .inr (2, [.ref hu, .int wy, .long (lN sec), .int bg, .int st, .long (lN x), .long (lN y), .long ky, .long c1, .long c2, .long ms, .long pw, .long (lN rc)])), (qo, .inl ((ct 1), 1, .inr (.inl og)))] sz) := by
  refine va_MetW (cc := mb_L_key) (maxL := 4) (ret := (some .int)) (by decide) rfl ?_
  intro p e s m args below meth c s₁ B hml hv
  have htab := sh_tab B
  obtain ⟨⟨⟨⟨rfl, hsz, hP, hK, hD0⟩, hZ⟩, hR⟩, hN⟩ := hv
  have hx := B.exec
  have hb := B.bytes
  have hr := B.returns
  have hts := atoms_spec (ws := tb_wH my_L_key mb_L_key 4 (some .int) [(0, 8, 11, 25), (0, 8, 14, 15)]) B.pre
  have hw : ∀ w ∈ gt_tbl, w.before [.ref hd, .int (nI k), .ref qo].toArray s = true := fun w h => hts w (List.mem_cons_of_mem _ h)
  have hown : s.vm.findClass cr_L = some m.cls := findClass_of_methodNamed B.named
  have hlocks := B.notSynchronized
  subst hsz
  have hD := hD0.self (sz := s.heap.size)
  generalize hAe : va_A [(hd, .inr (0, [.ref us, .ref op, .int (nI n), .int ck])), (op, .inl ((ct 4), 40, .inr (.inr (.inr (.inr fo))))), (h0, .inr (2, [.ref hu, .int wy, .long (lN sec), .int bg, .int st, .long (lN x), .long (lN y), .long ky, .long c1, .long c2, .long ms, .long pw, .long (lN rc)])), (qo, .inl ((ct 1), 1, .inr (.inl og)))] s.heap.size = A at hD hZ ⊢
  have hA : ∀ q : Nat, s.heap.size ≤ q → A q := fun q h => by rw [← hAe]; exact Or.inr h
  have hS : va_S A s.heap s.heap [] := va_S.rf
  have hP : va_P G classes [(hd, .inr (0, [.ref us, .ref op, .int (nI n), .int ck])), (op, .inl ((ct 4), 40, .inr (.inr (.inr (.inr fo))))), (h0, .inr (2, [.ref hu, .int wy, .long (lN sec), .int bg, .int st, .long (lN x), .long (lN y), .long ky, .long c1, .long c2, .long ms, .long pw, .long (lN rc)])), (qo, .inl ((ct 1), 1, .inr (.inl og)))] s.heap := hP
  have hl := lv_entry ([.ref hd, .int (nI k), .ref qo]) (n := 4) (Nat.le_of_ble_eq_true rfl)
  rw [lg_entry_eq]
  generalize (lg_sl ([.ref hd, .int (nI k), .ref qo]) ++ List.replicate (4 - (lg_sl ([.ref hd, .int (nI k), .ref qo])).length) Slot.unset).toArray = ls at hl ⊢
  have hl : lv_has ls 4 [(0, .ref hd), (1, .int (nI k)), (2, .ref qo)] := hl
  refine lv_aload_n hx hb d_L_key_0 rfl (lv_at hl 2 rfl) ?_
  refine lv_iconst (v := 0) hx hb d_L_key_1 (by decide) ?_
  refine lv_aload_n hx hb d_L_key_2 rfl (lv_at hl 0 rfl) ?_
  refine lv_iload_n hx hb d_L_key_3 rfl (lv_at hl 1 rfl) ?_
  have hPc : va_P G classes [(hd, .inr (0, [.ref us, .ref op, .int (nI n), .int ck])), (op, .inl ((ct 4), 40, .inr (.inr (.inr (.inr fo))))), (h0, .inr (2, [.ref hu, .int wy, .long (lN sec), .int bg, .int st, .long (lN x), .long (lN y), .long ky, .long c1, .long c2, .long ms, .long pw, .long (lN rc)]))] s.heap := hP.sub [0, 1, 2] rfl
  have hDc := hD.sub (ws' := [(hd, .inr (0, [.ref us, .ref op, .int (nI n), .int ck])), (op, .inl ((ct 4), 40, .inr (.inr (.inr (.inr fo))))), (h0, .inr (2, [.ref hu, .int wy, .long (lN sec), .int bg, .int st, .long (lN x), .long (lN y), .long ky, .long c1, .long c2, .long ms, .long pw, .long (lN rc)]))]) [0, 1, 2] (by decide) rfl
  refine wk_catch (As := [.int (nI k)]) (rest := [.int 0, .ref qo]) ⟨hx, hb, hml, hown, hts⟩ (c_D_key2C l hfl G ct s.heap.size hd us op n ck fo k h0 hu wy sec bg st x y ky c1 c2 ms pw rc hn hkn hfo hst) (tb_V hw cy_D_key ww_621 ww_622 ww_623 rfl rfl ⟨Nat.le_of_ble_eq_true rfl, Nat.le_of_ble_eq_true rfl⟩) (wk_preV4 (ci := 0) (q0 := 0) hPc hK hDc hD hS hA [0, 1, 2] rfl hZ hR rfl rfl) rfl hl.1 rfl (lv_room (Nat.le_of_ble_eq_true rfl)) d_L_key_4 ⟨Nat.le_of_ble_eq_true rfl, Nat.le_of_ble_eq_true rfl⟩ hP hD hS hA [0, 1, 2] (by decide) rfl (by simp only [List.map_cons, List.map_nil]) hown [⟨0, 8, 11, 25⟩] ⟨0, 8, 14, 15⟩ [] ((ct_tab htab).trans rfl) (hc_c ⟨rfl, by decide, "java/util/NoSuchElementException", hw _ ww_418, hN.2.1⟩ (fun _ h => nomatch h)) rfl (by decide) (hw _ ww_187) (hK.2.use wf_263) (fun x9 H locs hP hD hS => ?_)
  have hP : va_P G classes [(hd, .inr (0, [.ref us, .ref op, .int (nI n), .int ck])), (op, .inl ((ct 4), 40, .inr (.inr (.inr (.inr fo))))), (h0, .inr (2, [.ref hu, .int wy, .long (lN sec), .int bg, .int st, .long (lN x), .long (lN y), .long ky, .long c1, .long c2, .long ms, .long pw, .long (lN rc)])), (qo, .inl ((ct 1), 1, .inr (.inl og)))] H := hP
  have hD : va_D A [(hd, .inr (0, [.ref us, .ref op, .int (nI n), .int ck])), (op, .inl ((ct 4), 40, .inr (.inr (.inr (.inr fo))))), (h0, .inr (2, [.ref hu, .int wy, .long (lN sec), .int bg, .int st, .long (lN x), .long (lN y), .long ky, .long c1, .long c2, .long ms, .long pw, .long (lN rc)])), (qo, .inl ((ct 1), 1, .inr (.inl og)))] := hD
  refine lv_astore_n (lv' := [(3, .ref x9), (0, .ref hd), (1, .int (nI k)), (2, .ref qo)]) hx hb d_L_key_14 rfl hl (Nat.le_of_ble_eq_true rfl) rfl (fun ls hl => ?_)
  refine lv_iconst (v := 2) hx hb d_L_key_15 (by decide) ?_
  refine W.widen (k := 1) (n := 6) (Nat.le_of_ble_eq_true rfl) (Nat.le_of_ble_eq_true rfl) ?_
  exact W.iret (v := 2) hx hb hr (fun t ht hW => ⟨⟨(), ⟨rfl, trivial⟩, by rw [ht]; exact hP, hD⟩, hS.F ht⟩) hS.2.2 d_L_key_16
set_option maxHeartbeats 4000000 in
set_option maxRecDepth 100000 in
theorem c_L_key2V (l : Launch) (hfl : l.flags = pinnedFlags ++ [noTraceFlag]) (G : va_G) (ct : Nat → ClassId) (sz : Nat) (hd : Nat) (us : Nat) (op : Nat) (n : Nat) (ck : Int32) (fo : Nat → Option Nat) (k : Nat) (h0 : Nat) (hu : Nat) (wy : Int32) (sec : Nat) (bg : Int32) (st : Int32) (x : Nat) (y : Nat) (ky : Int64) (c1 : Int64) (c2 : Int64) (ms : Int64) (rc : Nat) (qo : Nat) (og : Nat → Int64) (hn : n ≤ 40) (hkn : k < n) (hfo : fo k = some h0) (hst : ¬ st = 2) : Met l my_L_key (tb_wH my_L_key mb_L_key 4 (some .int) [(0, 8, 11, 25), (0, 8, 14, 15)]) ({ frames := 7, cells := 1, slots := 6, locals := 104 }) (wk_P5 [.ref hd, .int (nI k), .ref qo] G ct [(hd, .inr (0, [.ref us, .ref op, .int (nI n), .int ck])), (op, .inl ((ct 4), 40, .inr (.inr (.inr (.inr fo))))), (h0, .inr (3, [.ref hu, .int wy, .long (lN sec), .int bg, .int st, .long (lN x), .long (lN y), .long ky, .long c1, .long c2, .long ms, .long (lN rc)])), (qo, .inl ((ct 1), 1, .inr (.inl og)))] sz) (wk_Q (wk_oi (S := Unit) (fun _ => 2) (fun _ => True)) (fun _ : Unit => [(hd, .inr (0, [.ref us, .ref op, .int (nI n), .int ck])), (op, .inl ((ct 4), 40, .inr (.inr (.inr (.inr fo))))), (h0, .inr (3, [.ref hu, .int wy, .long (lN sec), .int bg, .int st, .long (lN x), .long (lN y), .long ky, .long c1, .long c2, .long ms, .long (lN rc)])), (qo, .inl ((ct 1), 1, .inr (.inl og)))]) G (va_A [(hd, .inr (0, [.ref us, .ref op, .int (nI n), .int ck])), (op, .inl ((ct 4), 40, .inr (.inr (.inr (.inr fo))))), (h0, .inr (3, [.ref hu, .int wy, .long (lN sec), .int bg, .int st, .long (lN x), .long (lN y), .long ky, .long c1, .long c2, .long ms, .long (lN rc)])), (qo, .inl ((ct 1), 1, .inr (.inl og)))] sz)) 1 6 (va_A [(hd, .inr (0, [.ref us, .ref op, .int (nI n), .int ck])), (op, .inl ((ct 4), 40, .inr (.inr (.inr (.inr fo))))), (h0, .inr (3, [.ref hu, .int wy, .long (lN sec), .int bg, .int st, .long (lN x), .long (lN y), .long ky, .long c1, .long c2, .long ms, .long (lN rc)])), (qo, .inl ((ct 1), 1, .inr (.inl og)))] sz) := by
  refine va_MetW (cc := mb_L_key) (maxL := 4) (ret := (some .int)) (by decide) rfl ?_
  intro p e s m args below meth c s₁ B hml hv
  have htab := sh_tab B
  obtain ⟨⟨⟨⟨rfl, hsz, hP, hK, hD0⟩, hZ⟩, hR⟩, hN⟩ := hv
  have hx := B.exec
  have hb := B.bytes
  have hr := B.returns
  have hts := atoms_spec (ws := tb_wH my_L_key mb_L_key 4 (some .int) [(0, 8, 11, 25), (0, 8, 14, 15)]) B.pre
  have hw : ∀ w ∈ gt_tbl, w.before [.ref hd, .int (nI k), .ref qo].toArray s = true := fun w h => hts w (List.mem_cons_of_mem _ h)
  have hown : s.vm.findClass cr_L = some m.cls := findClass_of_methodNamed B.named
  have hlocks := B.notSynchronized
  subst hsz
  have hD := hD0.self (sz := s.heap.size)
  generalize hAe : va_A [(hd, .inr (0, [.ref us, .ref op, .int (nI n), .int ck])), (op, .inl ((ct 4), 40, .inr (.inr (.inr (.inr fo))))), (h0, .inr (3, [.ref hu, .int wy, .long (lN sec), .int bg, .int st, .long (lN x), .long (lN y), .long ky, .long c1, .long c2, .long ms, .long (lN rc)])), (qo, .inl ((ct 1), 1, .inr (.inl og)))] s.heap.size = A at hD hZ ⊢
  have hA : ∀ q : Nat, s.heap.size ≤ q → A q := fun q h => by rw [← hAe]; exact Or.inr h
  have hS : va_S A s.heap s.heap [] := va_S.rf
  have hP : va_P G classes [(hd, .inr (0, [.ref us, .ref op, .int (nI n), .int ck])), (op, .inl ((ct 4), 40, .inr (.inr (.inr (.inr fo))))), (h0, .inr (3, [.ref hu, .int wy, .long (lN sec), .int bg, .int st, .long (lN x), .long (lN y), .long ky, .long c1, .long c2, .long ms, .long (lN rc)])), (qo, .inl ((ct 1), 1, .inr (.inl og)))] s.heap := hP
  have hl := lv_entry ([.ref hd, .int (nI k), .ref qo]) (n := 4) (Nat.le_of_ble_eq_true rfl)
  rw [lg_entry_eq]
  generalize (lg_sl ([.ref hd, .int (nI k), .ref qo]) ++ List.replicate (4 - (lg_sl ([.ref hd, .int (nI k), .ref qo])).length) Slot.unset).toArray = ls at hl ⊢
  have hl : lv_has ls 4 [(0, .ref hd), (1, .int (nI k)), (2, .ref qo)] := hl
  refine lv_aload_n hx hb d_L_key_0 rfl (lv_at hl 2 rfl) ?_
  refine lv_iconst (v := 0) hx hb d_L_key_1 (by decide) ?_
  refine lv_aload_n hx hb d_L_key_2 rfl (lv_at hl 0 rfl) ?_
  refine lv_iload_n hx hb d_L_key_3 rfl (lv_at hl 1 rfl) ?_
  have hPc : va_P G classes [(hd, .inr (0, [.ref us, .ref op, .int (nI n), .int ck])), (op, .inl ((ct 4), 40, .inr (.inr (.inr (.inr fo))))), (h0, .inr (3, [.ref hu, .int wy, .long (lN sec), .int bg, .int st, .long (lN x), .long (lN y), .long ky, .long c1, .long c2, .long ms, .long (lN rc)]))] s.heap := hP.sub [0, 1, 2] rfl
  have hDc := hD.sub (ws' := [(hd, .inr (0, [.ref us, .ref op, .int (nI n), .int ck])), (op, .inl ((ct 4), 40, .inr (.inr (.inr (.inr fo))))), (h0, .inr (3, [.ref hu, .int wy, .long (lN sec), .int bg, .int st, .long (lN x), .long (lN y), .long ky, .long c1, .long c2, .long ms, .long (lN rc)]))]) [0, 1, 2] (by decide) rfl
  refine wk_catch (As := [.int (nI k)]) (rest := [.int 0, .ref qo]) ⟨hx, hb, hml, hown, hts⟩ (c_D_key2V l hfl G ct s.heap.size hd us op n ck fo k h0 hu wy sec bg st x y ky c1 c2 ms rc hn hkn hfo hst) (tb_V hw cy_D_key ww_621 ww_622 ww_623 rfl rfl ⟨Nat.le_of_ble_eq_true rfl, Nat.le_of_ble_eq_true rfl⟩) (wk_preV4 (ci := 0) (q0 := 0) hPc hK hDc hD hS hA [0, 1, 2] rfl hZ hR rfl rfl) rfl hl.1 rfl (lv_room (Nat.le_of_ble_eq_true rfl)) d_L_key_4 ⟨Nat.le_of_ble_eq_true rfl, Nat.le_of_ble_eq_true rfl⟩ hP hD hS hA [0, 1, 2] (by decide) rfl (by simp only [List.map_cons, List.map_nil]) hown [⟨0, 8, 11, 25⟩] ⟨0, 8, 14, 15⟩ [] ((ct_tab htab).trans rfl) (hc_c ⟨rfl, by decide, "java/util/NoSuchElementException", hw _ ww_418, hN.2.1⟩ (fun _ h => nomatch h)) rfl (by decide) (hw _ ww_187) (hK.2.use wf_263) (fun x9 H locs hP hD hS => ?_)
  have hP : va_P G classes [(hd, .inr (0, [.ref us, .ref op, .int (nI n), .int ck])), (op, .inl ((ct 4), 40, .inr (.inr (.inr (.inr fo))))), (h0, .inr (3, [.ref hu, .int wy, .long (lN sec), .int bg, .int st, .long (lN x), .long (lN y), .long ky, .long c1, .long c2, .long ms, .long (lN rc)])), (qo, .inl ((ct 1), 1, .inr (.inl og)))] H := hP
  have hD : va_D A [(hd, .inr (0, [.ref us, .ref op, .int (nI n), .int ck])), (op, .inl ((ct 4), 40, .inr (.inr (.inr (.inr fo))))), (h0, .inr (3, [.ref hu, .int wy, .long (lN sec), .int bg, .int st, .long (lN x), .long (lN y), .long ky, .long c1, .long c2, .long ms, .long (lN rc)])), (qo, .inl ((ct 1), 1, .inr (.inl og)))] := hD
  refine lv_astore_n (lv' := [(3, .ref x9), (0, .ref hd), (1, .int (nI k)), (2, .ref qo)]) hx hb d_L_key_14 rfl hl (Nat.le_of_ble_eq_true rfl) rfl (fun ls hl => ?_)
  refine lv_iconst (v := 2) hx hb d_L_key_15 (by decide) ?_
  refine W.widen (k := 1) (n := 6) (Nat.le_of_ble_eq_true rfl) (Nat.le_of_ble_eq_true rfl) ?_
  exact W.iret (v := 2) hx hb hr (fun t ht hW => ⟨⟨(), ⟨rfl, trivial⟩, by rw [ht]; exact hP, hD⟩, hS.F ht⟩) hS.2.2 d_L_key_16
set_option maxHeartbeats 4000000 in
set_option maxRecDepth 100000 in
theorem c_L_key0 (l : Launch) (hfl : l.flags = pinnedFlags ++ [noTraceFlag]) (G : va_G) (ct : Nat → ClassId) (sz : Nat) (hd : Nat) (us : Nat) (op : Nat) (n : Nat) (ck : Int32) (sa : Int32) (qo : Nat) (og : Nat → Int64) (hno : ¬ th_in sa n) : Met l my_L_key (tb_wH my_L_key mb_L_key 4 (some .int) [(0, 8, 11, 25), (0, 8, 14, 15)]) ({ frames := 7, cells := 1, slots := 6, locals := 104 }) (wk_P5 [.ref hd, .int sa, .ref qo] G ct [(hd, .inr (0, [.ref us, .ref op, .int (nI n), .int ck])), (qo, .inl ((ct 1), 1, .inr (.inl og)))] sz) (wk_Q (wk_oi (S := Unit) (fun _ => 1) (fun _ => True)) (fun _ : Unit => [(hd, .inr (0, [.ref us, .ref op, .int (nI n), .int ck])), (qo, .inl ((ct 1), 1, .inr (.inl og)))]) G (va_A [(hd, .inr (0, [.ref us, .ref op, .int (nI n), .int ck])), (qo, .inl ((ct 1), 1, .inr (.inl og)))] sz)) 1 6 (va_A [(hd, .inr (0, [.ref us, .ref op, .int (nI n), .int ck])), (qo, .inl ((ct 1), 1, .inr (.inl og)))] sz) := by
  refine va_MetW (cc := mb_L_key) (maxL := 4) (ret := (some .int)) (by decide) rfl ?_
  intro p e s m args below meth c s₁ B hml hv
  have htab := sh_tab B
  obtain ⟨⟨⟨⟨rfl, hsz, hP, hK, hD0⟩, hZ⟩, hR⟩, hN⟩ := hv
  have hx := B.exec
  have hb := B.bytes
  have hr := B.returns
  have hts := atoms_spec (ws := tb_wH my_L_key mb_L_key 4 (some .int) [(0, 8, 11, 25), (0, 8, 14, 15)]) B.pre
  have hw : ∀ w ∈ gt_tbl, w.before [.ref hd, .int sa, .ref qo].toArray s = true := fun w h => hts w (List.mem_cons_of_mem _ h)
  have hown : s.vm.findClass cr_L = some m.cls := findClass_of_methodNamed B.named
  have hlocks := B.notSynchronized
  subst hsz
  have hD := hD0.self (sz := s.heap.size)
  generalize hAe : va_A [(hd, .inr (0, [.ref us, .ref op, .int (nI n), .int ck])), (qo, .inl ((ct 1), 1, .inr (.inl og)))] s.heap.size = A at hD hZ ⊢
  have hA : ∀ q : Nat, s.heap.size ≤ q → A q := fun q h => by rw [← hAe]; exact Or.inr h
  have hS : va_S A s.heap s.heap [] := va_S.rf
  have hP : va_P G classes [(hd, .inr (0, [.ref us, .ref op, .int (nI n), .int ck])), (qo, .inl ((ct 1), 1, .inr (.inl og)))] s.heap := hP
  have hl := lv_entry ([.ref hd, .int sa, .ref qo]) (n := 4) (Nat.le_of_ble_eq_true rfl)
  rw [lg_entry_eq]
  generalize (lg_sl ([.ref hd, .int sa, .ref qo]) ++ List.replicate (4 - (lg_sl ([.ref hd, .int sa, .ref qo])).length) Slot.unset).toArray = ls at hl ⊢
  have hl : lv_has ls 4 [(0, .ref hd), (1, .int sa), (2, .ref qo)] := hl
  refine lv_aload_n hx hb d_L_key_0 rfl (lv_at hl 2 rfl) ?_
  refine lv_iconst (v := 0) hx hb d_L_key_1 (by decide) ?_
  refine lv_aload_n hx hb d_L_key_2 rfl (lv_at hl 0 rfl) ?_
  refine lv_iload_n hx hb d_L_key_3 rfl (lv_at hl 1 rfl) ?_
  have hPc : va_P G classes [(hd, .inr (0, [.ref us, .ref op, .int (nI n), .int ck]))] s.heap := hP.sub [0] rfl
  have hDc := hD.sub (ws' := [(hd, .inr (0, [.ref us, .ref op, .int (nI n), .int ck]))]) [0] (by decide) rfl
  refine wk_catch (As := [.int sa]) (rest := [.int 0, .ref qo]) ⟨hx, hb, hml, hown, hts⟩ (c_D_key0 l hfl G ct s.heap.size hd us op n ck sa hno) (tb_V hw cy_D_key ww_621 ww_622 ww_623 rfl rfl ⟨Nat.le_of_ble_eq_true rfl, Nat.le_of_ble_eq_true rfl⟩) (wk_preV4 (ci := 0) (q0 := 0) hPc hK hDc hD hS hA [0] rfl hZ hR rfl rfl) rfl hl.1 rfl (lv_room (Nat.le_of_ble_eq_true rfl)) d_L_key_4 ⟨Nat.le_of_ble_eq_true rfl, Nat.le_of_ble_eq_true rfl⟩ hP hD hS hA [0] (by decide) rfl (by simp only [List.map_cons, List.map_nil]) hown [] ⟨0, 8, 11, 25⟩ [⟨0, 8, 14, 15⟩] ((ct_tab htab).trans rfl) (fun _ h => nomatch h) rfl (by decide) (hw _ ww_418) (hK.2.use wf_430) (fun x9 H locs hP hD hS => ?_)
  have hP : va_P G classes [(hd, .inr (0, [.ref us, .ref op, .int (nI n), .int ck])), (qo, .inl ((ct 1), 1, .inr (.inl og)))] H := hP
  have hD : va_D A [(hd, .inr (0, [.ref us, .ref op, .int (nI n), .int ck])), (qo, .inl ((ct 1), 1, .inr (.inl og)))] := hD
  refine lv_astore_n (lv' := [(3, .ref x9), (0, .ref hd), (1, .int sa), (2, .ref qo)]) hx hb d_L_key_11 rfl hl (Nat.le_of_ble_eq_true rfl) rfl (fun ls hl => ?_)
  refine lv_iconst (v := 1) hx hb d_L_key_12 (by decide) ?_
  refine W.widen (k := 1) (n := 6) (Nat.le_of_ble_eq_true rfl) (Nat.le_of_ble_eq_true rfl) ?_
  exact W.iret (v := 1) hx hb hr (fun t ht hW => ⟨⟨(), ⟨rfl, trivial⟩, by rw [ht]; exact hP, hD⟩, hS.F ht⟩) hS.2.2 d_L_key_13
set_option maxHeartbeats 4000000 in
set_option maxRecDepth 100000 in
theorem c_L_client1 (l : Launch) (G : va_G) (ct : Nat → ClassId) (sz : Nat) (hd : Nat) (us : Nat) (op : Nat) (n : Nat) (ck : Int32) (fu : Nat → Option Nat) (fo : Nat → Option Nat) (hu : Nat) (k : Nat) (nb : Int32) (sd : Int32) (uw : Int32) (uo : Nat) (ul : Int64) (uv : Nat) (uf : Int32) (u1 : Int32) (u2 : Int32) (u3 : Int32) (wy : Int32) (pw : Int64) (se : Int64) (qo : Nat) (og : Nat → Int64) (hk : k < 8) (hfu : fu k = some hu) (hwi : wy_in wy) (hn : n < 40) : Met l my_L_client (tb_wH my_L_client mb_L_client 9 (some .int) [(0, 14, 17, 13), (0, 14, 21, 15)]) ({ frames := 5, cells := 1, slots := 13, locals := 129 }) (wk_P [.ref hd, .int (nI k), .int wy, .long pw, .long se, .ref qo] G ct [(hd, .inr (0, [.ref us, .ref op, .int (nI n), .int ck])), (us, .inl ((ct 3), 8, .inr (.inr (.inr (.inr fu))))), (op, .inl ((ct 4), 40, .inr (.inr (.inr (.inr fo))))), (hu, .inr (1, [.int nb, .int sd, .int uw, .long (lN uo), .long ul, .long (lN uv), .int uf, .int u1, .int u2, .int u3])), (qo, .inl ((ct 1), 1, .inr (.inl og)))] sz) (wk_Q (wk_oi (S := Nat) (fun _ => 0) (fun _ => True)) (fun q0 : Nat => [(hd, .inr (0, [.ref us, .ref op, .int (nI (n + 1)), .int ck])), (us, .inl ((ct 3), 8, .inr (.inr (.inr (.inr fu))))), (op, .inl ((ct 4), 40, .inr (.inr (.inr (.inr (va_up fo n (some q0))))))), (hu, .inr (1, [.int nb, .int sd, .int uw, .long (lN uo), .long ul, .long (lN uv), .int uf, .int u1, .int u2, .int u3])), (qo, .inl ((ct 1), 1, .inr (.inl (vp_updL og 0 ((nI n).toInt64))))), (q0, .inr (2, [.ref hu, .int wy, .long (lN (sc_n se)), .int ck, .int 0, .long (lN (cl_x0 wy (sc_n se) (wd_n nb pw))), .long (lN 0), .long 0, .long 0, .long 0, .long (lN (cl_x0 wy (sc_n se) (wd_n nb pw))), .long pw, .long (lN (wd_n nb pw))]))]) G (va_A [(hd, .inr (0, [.ref us, .ref op, .int (nI n), .int ck])), (us, .inl ((ct 3), 8, .inr (.inr (.inr (.inr fu))))), (op, .inl ((ct 4), 40, .inr (.inr (.inr (.inr fo))))), (hu, .inr (1, [.int nb, .int sd, .int uw, .long (lN uo), .long ul, .long (lN uv), .int uf, .int u1, .int u2, .int u3])), (qo, .inl ((ct 1), 1, .inr (.inl og)))] sz)) 1 13 (va_A [(hd, .inr (0, [.ref us, .ref op, .int (nI n), .int ck])), (us, .inl ((ct 3), 8, .inr (.inr (.inr (.inr fu))))), (op, .inl ((ct 4), 40, .inr (.inr (.inr (.inr fo))))), (hu, .inr (1, [.int nb, .int sd, .int uw, .long (lN uo), .long ul, .long (lN uv), .int uf, .int u1, .int u2, .int u3])), (qo, .inl ((ct 1), 1, .inr (.inl og)))] sz) := by
  refine va_MetW (cc := mb_L_client) (maxL := 9) (ret := (some .int)) (by decide) rfl ?_
  intro p e s m args below meth c s₁ B hml hv
  have htab := sh_tab B
  obtain ⟨rfl, hsz, hP, hK, hD0⟩ := hv
  have hx := B.exec
  have hb := B.bytes
  have hr := B.returns
  have hts := atoms_spec (ws := tb_wH my_L_client mb_L_client 9 (some .int) [(0, 14, 17, 13), (0, 14, 21, 15)]) B.pre
  have hw : ∀ w ∈ gt_tbl, w.before [.ref hd, .int (nI k), .int wy, .long pw, .long se, .ref qo].toArray s = true := fun w h => hts w (List.mem_cons_of_mem _ h)
  have hown : s.vm.findClass cr_L = some m.cls := findClass_of_methodNamed B.named
  have hlocks := B.notSynchronized
  subst hsz
  have hD := hD0.self (sz := s.heap.size)
  generalize hAe : va_A [(hd, .inr (0, [.ref us, .ref op, .int (nI n), .int ck])), (us, .inl ((ct 3), 8, .inr (.inr (.inr (.inr fu))))), (op, .inl ((ct 4), 40, .inr (.inr (.inr (.inr fo))))), (hu, .inr (1, [.int nb, .int sd, .int uw, .long (lN uo), .long ul, .long (lN uv), .int uf, .int u1, .int u2, .int u3])), (qo, .inl ((ct 1), 1, .inr (.inl og)))] s.heap.size = A at hD ⊢
  have hA : ∀ q : Nat, s.heap.size ≤ q → A q := fun q h => by rw [← hAe]; exact Or.inr h
  have hS : va_S A s.heap s.heap [] := va_S.rf
  have hP : va_P G classes [(hd, .inr (0, [.ref us, .ref op, .int (nI n), .int ck])), (us, .inl ((ct 3), 8, .inr (.inr (.inr (.inr fu))))), (op, .inl ((ct 4), 40, .inr (.inr (.inr (.inr fo))))), (hu, .inr (1, [.int nb, .int sd, .int uw, .long (lN uo), .long ul, .long (lN uv), .int uf, .int u1, .int u2, .int u3])), (qo, .inl ((ct 1), 1, .inr (.inl og)))] s.heap := hP
  have hl := lv_entry ([.ref hd, .int (nI k), .int wy, .long pw, .long se, .ref qo]) (n := 9) (Nat.le_of_ble_eq_true rfl)
  rw [lg_entry_eq]
  generalize (lg_sl ([.ref hd, .int (nI k), .int wy, .long pw, .long se, .ref qo]) ++ List.replicate (9 - (lg_sl ([.ref hd, .int (nI k), .int wy, .long pw, .long se, .ref qo])).length) Slot.unset).toArray = ls at hl ⊢
  have hl : lv_has ls 9 [(0, .ref hd), (1, .int (nI k)), (2, .int wy), (3, .long pw), (5, .long se), (7, .ref qo)] := hl
  refine lv_aload hx hb d_L_client_0 (lv_at hl 5 rfl) ?_
  refine lv_iconst (v := 0) hx hb d_L_client_2 (by decide) ?_
  refine lv_aload_n hx hb d_L_client_3 rfl (lv_at hl 0 rfl) ?_
  refine lv_iload_n hx hb d_L_client_4 rfl (lv_at hl 1 rfl) ?_
  refine lv_iload_n hx hb d_L_client_5 rfl (lv_at hl 2 rfl) ?_
  refine lv_lload_n hx hb d_L_client_6 rfl (lv_at hl 3 rfl) ?_
  refine lv_lload hx hb d_L_client_7 (lv_at hl 4 rfl) ?_
  have hPc : va_P G classes [(hd, .inr (0, [.ref us, .ref op, .int (nI n), .int ck])), (us, .inl ((ct 3), 8, .inr (.inr (.inr (.inr fu))))), (op, .inl ((ct 4), 40, .inr (.inr (.inr (.inr fo))))), (hu, .inr (1, [.int nb, .int sd, .int uw, .long (lN uo), .long ul, .long (lN uv), .int uf, .int u1, .int u2, .int u3]))] s.heap := hP.sub [0, 1, 2, 3] rfl
  have hDc := hD.sub (ws' := [(hd, .inr (0, [.ref us, .ref op, .int (nI n), .int ck])), (us, .inl ((ct 3), 8, .inr (.inr (.inr (.inr fu))))), (op, .inl ((ct 4), 40, .inr (.inr (.inr (.inr fo))))), (hu, .inr (1, [.int nb, .int sd, .int uw, .long (lN uo), .long ul, .long (lN uv), .int uf, .int u1, .int u2, .int u3]))]) [0, 1, 2, 3] (by decide) rfl
  refine wk_iN (w1 := (fun u9 : Nat => [(hd, .inr (0, [.ref us, .ref op, .int (nI (n + 1)), .int ck])), (us, .inl ((ct 3), 8, .inr (.inr (.inr (.inr fu))))), (op, .inl ((ct 4), 40, .inr (.inr (.inr (.inr (va_up fo n (some u9))))))), (hu, .inr (1, [.int nb, .int sd, .int uw, .long (lN uo), .long ul, .long (lN uv), .int uf, .int u1, .int u2, .int u3]))])) (w2 := (fun u9 : Nat => [(u9, .inr (2, [.ref hu, .int wy, .long (lN (sc_n se)), .int ck, .int 0, .long (lN (cl_x0 wy (sc_n se) (wd_n nb pw))), .long (lN 0), .long 0, .long 0, .long 0, .long (lN (cl_x0 wy (sc_n se) (wd_n nb pw))), .long pw, .long (lN (wd_n nb pw))]))])) (va_runV (As := [.int (nI k), .int wy, .long pw, .long se]) (rest := [.int 0, .ref qo]) ⟨hx, hb, hml, hown, hts⟩ (c_D_client1 l G ct s.heap.size hd us op n ck fu fo hu k nb sd uw uo ul uv uf u1 u2 u3 wy pw se hk hfu hwi hn) (tb_V hw cy_D_client ww_188 ww_189 ww_190 rfl rfl ⟨Nat.le_of_ble_eq_true rfl, Nat.le_of_ble_eq_true rfl⟩) (wk_preV (ci := 0) (q0 := 0) hPc hK hDc rfl rfl) rfl rfl hl.1 rfl (lv_room (Nat.le_of_ble_eq_true rfl)) d_L_client_9 ⟨Nat.le_of_ble_eq_true rfl, Nat.le_of_ble_eq_true rfl⟩) hP hD hS hA [0, 1, 2, 3] (by decide) rfl (fun _ => by simp only [List.map_cons, List.map_nil]) (fun q0915 H locs ok9 hP hD hS => ?_)
  have hP : va_P G classes [(hd, .inr (0, [.ref us, .ref op, .int (nI (n + 1)), .int ck])), (us, .inl ((ct 3), 8, .inr (.inr (.inr (.inr fu))))), (op, .inl ((ct 4), 40, .inr (.inr (.inr (.inr (va_up fo n (some q0915))))))), (hu, .inr (1, [.int nb, .int sd, .int uw, .long (lN uo), .long ul, .long (lN uv), .int uf, .int u1, .int u2, .int u3])), (qo, .inl ((ct 1), 1, .inr (.inl og))), (q0915, .inr (2, [.ref hu, .int wy, .long (lN (sc_n se)), .int ck, .int 0, .long (lN (cl_x0 wy (sc_n se) (wd_n nb pw))), .long (lN 0), .long 0, .long 0, .long 0, .long (lN (cl_x0 wy (sc_n se) (wd_n nb pw))), .long pw, .long (lN (wd_n nb pw))]))] H := hP
  have hD : va_D A [(hd, .inr (0, [.ref us, .ref op, .int (nI (n + 1)), .int ck])), (us, .inl ((ct 3), 8, .inr (.inr (.inr (.inr fu))))), (op, .inl ((ct 4), 40, .inr (.inr (.inr (.inr (va_up fo n (some q0915))))))), (hu, .inr (1, [.int nb, .int sd, .int uw, .long (lN uo), .long ul, .long (lN uv), .int uf, .int u1, .int u2, .int u3])), (qo, .inl ((ct 1), 1, .inr (.inl og))), (q0915, .inr (2, [.ref hu, .int wy, .long (lN (sc_n se)), .int ck, .int 0, .long (lN (cl_x0 wy (sc_n se) (wd_n nb pw))), .long (lN 0), .long 0, .long 0, .long 0, .long (lN (cl_x0 wy (sc_n se) (wd_n nb pw))), .long pw, .long (lN (wd_n nb pw))]))] := hD
  refine lv_i2l (v := (nI n).toInt64) hx hb d_L_client_12 rfl ?_
  refine ra_ls hx hb hK.1 hP hD hS 4 1 rfl rfl (k := 0) (by omega) (by decide) d_L_client_13 (fun H locs hP hD hS => ?_)
  have hP : va_P G classes [(hd, .inr (0, [.ref us, .ref op, .int (nI (n + 1)), .int ck])), (us, .inl ((ct 3), 8, .inr (.inr (.inr (.inr fu))))), (op, .inl ((ct 4), 40, .inr (.inr (.inr (.inr (va_up fo n (some q0915))))))), (hu, .inr (1, [.int nb, .int sd, .int uw, .long (lN uo), .long ul, .long (lN uv), .int uf, .int u1, .int u2, .int u3])), (qo, .inl ((ct 1), 1, .inr (.inl (vp_updL og 0 ((nI n).toInt64))))), (q0915, .inr (2, [.ref hu, .int wy, .long (lN (sc_n se)), .int ck, .int 0, .long (lN (cl_x0 wy (sc_n se) (wd_n nb pw))), .long (lN 0), .long 0, .long 0, .long 0, .long (lN (cl_x0 wy (sc_n se) (wd_n nb pw))), .long pw, .long (lN (wd_n nb pw))]))] H := hP
  have hD : va_D A [(hd, .inr (0, [.ref us, .ref op, .int (nI (n + 1)), .int ck])), (us, .inl ((ct 3), 8, .inr (.inr (.inr (.inr fu))))), (op, .inl ((ct 4), 40, .inr (.inr (.inr (.inr (va_up fo n (some q0915))))))), (hu, .inr (1, [.int nb, .int sd, .int uw, .long (lN uo), .long ul, .long (lN uv), .int uf, .int u1, .int u2, .int u3])), (qo, .inl ((ct 1), 1, .inr (.inl (vp_updL og 0 ((nI n).toInt64))))), (q0915, .inr (2, [.ref hu, .int wy, .long (lN (sc_n se)), .int ck, .int 0, .long (lN (cl_x0 wy (sc_n se) (wd_n nb pw))), .long (lN 0), .long 0, .long 0, .long 0, .long (lN (cl_x0 wy (sc_n se) (wd_n nb pw))), .long pw, .long (lN (wd_n nb pw))]))] := hD
  refine lv_goto (tgt := 25) hx hb d_L_client_14 (by decide) ?_
  refine lv_iconst (v := 0) hx hb d_L_client_25 (by decide) ?_
  refine W.widen (k := 1) (n := 13) (Nat.le_of_ble_eq_true rfl) (Nat.le_of_ble_eq_true rfl) ?_
  have hP : va_P G classes [(hd, .inr (0, [.ref us, .ref op, .int (nI (n + 1)), .int ck])), (us, .inl ((ct 3), 8, .inr (.inr (.inr (.inr fu))))), (op, .inl ((ct 4), 40, .inr (.inr (.inr (.inr (va_up fo n (some q0915))))))), (hu, .inr (1, [.int nb, .int sd, .int uw, .long (lN uo), .long ul, .long (lN uv), .int uf, .int u1, .int u2, .int u3])), (qo, .inl ((ct 1), 1, .inr (.inl (vp_updL og 0 ((nI n).toInt64))))), (q0915, .inr (2, [.ref hu, .int wy, .long (lN (sc_n se)), .int ck, .int 0, .long (lN (cl_x0 wy (sc_n se) (wd_n nb pw))), .long (lN 0), .long 0, .long 0, .long 0, .long (lN (cl_x0 wy (sc_n se) (wd_n nb pw))), .long pw, .long (lN (wd_n nb pw))]))] H := hP
  exact W.iret (v := 0) hx hb hr (fun t ht hW => ⟨⟨q0915, ⟨rfl, trivial⟩, by rw [ht]; exact hP, hD⟩, hS.F ht⟩) hS.2.2 d_L_client_26
set_option maxHeartbeats 4000000 in
set_option maxRecDepth 100000 in
theorem c_L_client0 (l : Launch) (hfl : l.flags = pinnedFlags ++ [noTraceFlag]) (G : va_G) (ct : Nat → ClassId) (sz : Nat) (hd : Nat) (us : Nat) (op : Nat) (n : Nat) (ck : Int32) (ua : Int32) (wy : Int32) (pw : Int64) (se : Int64) (qo : Nat) (og : Nat → Int64) (hno : ¬ us_in ua) : Met l my_L_client (tb_wH my_L_client mb_L_client 9 (some .int) [(0, 14, 17, 13), (0, 14, 21, 15)]) ({ frames := 7, cells := 1, slots := 6, locals := 109 }) (wk_P5 [.ref hd, .int ua, .int wy, .long pw, .long se, .ref qo] G ct [(hd, .inr (0, [.ref us, .ref op, .int (nI n), .int ck])), (qo, .inl ((ct 1), 1, .inr (.inl og)))] sz) (wk_Q (wk_oi (S := Unit) (fun _ => 1) (fun _ => True)) (fun _ : Unit => [(hd, .inr (0, [.ref us, .ref op, .int (nI n), .int ck])), (qo, .inl ((ct 1), 1, .inr (.inl og)))]) G (va_A [(hd, .inr (0, [.ref us, .ref op, .int (nI n), .int ck])), (qo, .inl ((ct 1), 1, .inr (.inl og)))] sz)) 1 6 (va_A [(hd, .inr (0, [.ref us, .ref op, .int (nI n), .int ck])), (qo, .inl ((ct 1), 1, .inr (.inl og)))] sz) := by
  refine va_MetW (cc := mb_L_client) (maxL := 9) (ret := (some .int)) (by decide) rfl ?_
  intro p e s m args below meth c s₁ B hml hv
  have htab := sh_tab B
  obtain ⟨⟨⟨⟨rfl, hsz, hP, hK, hD0⟩, hZ⟩, hR⟩, hN⟩ := hv
  have hx := B.exec
  have hb := B.bytes
  have hr := B.returns
  have hts := atoms_spec (ws := tb_wH my_L_client mb_L_client 9 (some .int) [(0, 14, 17, 13), (0, 14, 21, 15)]) B.pre
  have hw : ∀ w ∈ gt_tbl, w.before [.ref hd, .int ua, .int wy, .long pw, .long se, .ref qo].toArray s = true := fun w h => hts w (List.mem_cons_of_mem _ h)
  have hown : s.vm.findClass cr_L = some m.cls := findClass_of_methodNamed B.named
  have hlocks := B.notSynchronized
  subst hsz
  have hD := hD0.self (sz := s.heap.size)
  generalize hAe : va_A [(hd, .inr (0, [.ref us, .ref op, .int (nI n), .int ck])), (qo, .inl ((ct 1), 1, .inr (.inl og)))] s.heap.size = A at hD hZ ⊢
  have hA : ∀ q : Nat, s.heap.size ≤ q → A q := fun q h => by rw [← hAe]; exact Or.inr h
  have hS : va_S A s.heap s.heap [] := va_S.rf
  have hP : va_P G classes [(hd, .inr (0, [.ref us, .ref op, .int (nI n), .int ck])), (qo, .inl ((ct 1), 1, .inr (.inl og)))] s.heap := hP
  have hl := lv_entry ([.ref hd, .int ua, .int wy, .long pw, .long se, .ref qo]) (n := 9) (Nat.le_of_ble_eq_true rfl)
  rw [lg_entry_eq]
  generalize (lg_sl ([.ref hd, .int ua, .int wy, .long pw, .long se, .ref qo]) ++ List.replicate (9 - (lg_sl ([.ref hd, .int ua, .int wy, .long pw, .long se, .ref qo])).length) Slot.unset).toArray = ls at hl ⊢
  have hl : lv_has ls 9 [(0, .ref hd), (1, .int ua), (2, .int wy), (3, .long pw), (5, .long se), (7, .ref qo)] := hl
  refine lv_aload hx hb d_L_client_0 (lv_at hl 5 rfl) ?_
  refine lv_iconst (v := 0) hx hb d_L_client_2 (by decide) ?_
  refine lv_aload_n hx hb d_L_client_3 rfl (lv_at hl 0 rfl) ?_
  refine lv_iload_n hx hb d_L_client_4 rfl (lv_at hl 1 rfl) ?_
  refine lv_iload_n hx hb d_L_client_5 rfl (lv_at hl 2 rfl) ?_
  refine lv_lload_n hx hb d_L_client_6 rfl (lv_at hl 3 rfl) ?_
  refine lv_lload hx hb d_L_client_7 (lv_at hl 4 rfl) ?_
  have hPc : va_P G classes [(hd, .inr (0, [.ref us, .ref op, .int (nI n), .int ck]))] s.heap := hP.sub [0] rfl
  have hDc := hD.sub (ws' := [(hd, .inr (0, [.ref us, .ref op, .int (nI n), .int ck]))]) [0] (by decide) rfl
  refine wk_catch (As := [.int ua, .int wy, .long pw, .long se]) (rest := [.int 0, .ref qo]) ⟨hx, hb, hml, hown, hts⟩ (c_D_client0 l hfl G ct s.heap.size hd us op n ck ua wy pw se hno) (tb_V hw cy_D_client ww_188 ww_189 ww_190 rfl rfl ⟨Nat.le_of_ble_eq_true rfl, Nat.le_of_ble_eq_true rfl⟩) (wk_preV4 (ci := 0) (q0 := 0) hPc hK hDc hD hS hA [0] rfl hZ hR rfl rfl) rfl hl.1 rfl (lv_room (Nat.le_of_ble_eq_true rfl)) d_L_client_9 ⟨Nat.le_of_ble_eq_true rfl, Nat.le_of_ble_eq_true rfl⟩ hP hD hS hA [0] (by decide) rfl (by simp only [List.map_cons, List.map_nil]) hown [] ⟨0, 14, 17, 13⟩ [⟨0, 14, 21, 15⟩] ((ct_tab htab).trans rfl) (fun _ h => nomatch h) rfl (by decide) (hw _ ww_186) (hK.2.use wf_194) (fun x9 H locs hP hD hS => ?_)
  have hP : va_P G classes [(hd, .inr (0, [.ref us, .ref op, .int (nI n), .int ck])), (qo, .inl ((ct 1), 1, .inr (.inl og)))] H := hP
  have hD : va_D A [(hd, .inr (0, [.ref us, .ref op, .int (nI n), .int ck])), (qo, .inl ((ct 1), 1, .inr (.inl og)))] := hD
  refine lv_astore (lv' := [(8, .ref x9), (0, .ref hd), (1, .int ua), (2, .int wy), (3, .long pw), (5, .long se), (7, .ref qo)]) hx hb d_L_client_17 hl (Nat.le_of_ble_eq_true rfl) rfl (fun ls hl => ?_)
  refine lv_iconst (v := 1) hx hb d_L_client_19 (by decide) ?_
  refine W.widen (k := 1) (n := 6) (Nat.le_of_ble_eq_true rfl) (Nat.le_of_ble_eq_true rfl) ?_
  exact W.iret (v := 1) hx hb hr (fun t ht hW => ⟨⟨(), ⟨rfl, trivial⟩, by rw [ht]; exact hP, hD⟩, hS.F ht⟩) hS.2.2 d_L_client_20
set_option maxHeartbeats 4000000 in
set_option maxRecDepth 100000 in
theorem c_L_client0b (l : Launch) (hfl : l.flags = pinnedFlags ++ [noTraceFlag]) (G : va_G) (ct : Nat → ClassId) (sz : Nat) (hd : Nat) (us : Nat) (op : Nat) (n : Nat) (ck : Int32) (fu : Nat → Option Nat) (hu : Nat) (k : Nat) (wy : Int32) (pw : Int64) (se : Int64) (qo : Nat) (og : Nat → Int64) (hk : k < 8) (hfu : fu k = some hu) (hwi : ¬ wy_in wy) : Met l my_L_client (tb_wH my_L_client mb_L_client 9 (some .int) [(0, 14, 17, 13), (0, 14, 21, 15)]) ({ frames := 7, cells := 1, slots := 6, locals := 109 }) (wk_P5 [.ref hd, .int (nI k), .int wy, .long pw, .long se, .ref qo] G ct [(hd, .inr (0, [.ref us, .ref op, .int (nI n), .int ck])), (us, .inl ((ct 3), 8, .inr (.inr (.inr (.inr fu))))), (qo, .inl ((ct 1), 1, .inr (.inl og)))] sz) (wk_Q (wk_oi (S := Unit) (fun _ => 1) (fun _ => True)) (fun _ : Unit => [(hd, .inr (0, [.ref us, .ref op, .int (nI n), .int ck])), (us, .inl ((ct 3), 8, .inr (.inr (.inr (.inr fu))))), (qo, .inl ((ct 1), 1, .inr (.inl og)))]) G (va_A [(hd, .inr (0, [.ref us, .ref op, .int (nI n), .int ck])), (us, .inl ((ct 3), 8, .inr (.inr (.inr (.inr fu))))), (qo, .inl ((ct 1), 1, .inr (.inl og)))] sz)) 1 6 (va_A [(hd, .inr (0, [.ref us, .ref op, .int (nI n), .int ck])), (us, .inl ((ct 3), 8, .inr (.inr (.inr (.inr fu))))), (qo, .inl ((ct 1), 1, .inr (.inl og)))] sz) := by
  refine va_MetW (cc := mb_L_client) (maxL := 9) (ret := (some .int)) (by decide) rfl ?_
  intro p e s m args below meth c s₁ B hml hv
  have htab := sh_tab B
  obtain ⟨⟨⟨⟨rfl, hsz, hP, hK, hD0⟩, hZ⟩, hR⟩, hN⟩ := hv
  have hx := B.exec
  have hb := B.bytes
  have hr := B.returns
  have hts := atoms_spec (ws := tb_wH my_L_client mb_L_client 9 (some .int) [(0, 14, 17, 13), (0, 14, 21, 15)]) B.pre
  have hw : ∀ w ∈ gt_tbl, w.before [.ref hd, .int (nI k), .int wy, .long pw, .long se, .ref qo].toArray s = true := fun w h => hts w (List.mem_cons_of_mem _ h)
  have hown : s.vm.findClass cr_L = some m.cls := findClass_of_methodNamed B.named
  have hlocks := B.notSynchronized
  subst hsz
  have hD := hD0.self (sz := s.heap.size)
  generalize hAe : va_A [(hd, .inr (0, [.ref us, .ref op, .int (nI n), .int ck])), (us, .inl ((ct 3), 8, .inr (.inr (.inr (.inr fu))))), (qo, .inl ((ct 1), 1, .inr (.inl og)))] s.heap.size = A at hD hZ ⊢
  have hA : ∀ q : Nat, s.heap.size ≤ q → A q := fun q h => by rw [← hAe]; exact Or.inr h
  have hS : va_S A s.heap s.heap [] := va_S.rf
  have hP : va_P G classes [(hd, .inr (0, [.ref us, .ref op, .int (nI n), .int ck])), (us, .inl ((ct 3), 8, .inr (.inr (.inr (.inr fu))))), (qo, .inl ((ct 1), 1, .inr (.inl og)))] s.heap := hP
  have hl := lv_entry ([.ref hd, .int (nI k), .int wy, .long pw, .long se, .ref qo]) (n := 9) (Nat.le_of_ble_eq_true rfl)
  rw [lg_entry_eq]
  generalize (lg_sl ([.ref hd, .int (nI k), .int wy, .long pw, .long se, .ref qo]) ++ List.replicate (9 - (lg_sl ([.ref hd, .int (nI k), .int wy, .long pw, .long se, .ref qo])).length) Slot.unset).toArray = ls at hl ⊢
  have hl : lv_has ls 9 [(0, .ref hd), (1, .int (nI k)), (2, .int wy), (3, .long pw), (5, .long se), (7, .ref qo)] := hl
  refine lv_aload hx hb d_L_client_0 (lv_at hl 5 rfl) ?_
  refine lv_iconst (v := 0) hx hb d_L_client_2 (by decide) ?_
  refine lv_aload_n hx hb d_L_client_3 rfl (lv_at hl 0 rfl) ?_
  refine lv_iload_n hx hb d_L_client_4 rfl (lv_at hl 1 rfl) ?_
  refine lv_iload_n hx hb d_L_client_5 rfl (lv_at hl 2 rfl) ?_
  refine lv_lload_n hx hb d_L_client_6 rfl (lv_at hl 3 rfl) ?_
  refine lv_lload hx hb d_L_client_7 (lv_at hl 4 rfl) ?_
  have hPc : va_P G classes [(hd, .inr (0, [.ref us, .ref op, .int (nI n), .int ck])), (us, .inl ((ct 3), 8, .inr (.inr (.inr (.inr fu)))))] s.heap := hP.sub [0, 1] rfl
  have hDc := hD.sub (ws' := [(hd, .inr (0, [.ref us, .ref op, .int (nI n), .int ck])), (us, .inl ((ct 3), 8, .inr (.inr (.inr (.inr fu)))))]) [0, 1] (by decide) rfl
  refine wk_catch (As := [.int (nI k), .int wy, .long pw, .long se]) (rest := [.int 0, .ref qo]) ⟨hx, hb, hml, hown, hts⟩ (c_D_client0b l hfl G ct s.heap.size hd us op n ck fu hu k wy pw se hk hfu hwi) (tb_V hw cy_D_client ww_188 ww_189 ww_190 rfl rfl ⟨Nat.le_of_ble_eq_true rfl, Nat.le_of_ble_eq_true rfl⟩) (wk_preV4 (ci := 0) (q0 := 0) hPc hK hDc hD hS hA [0, 1] rfl hZ hR rfl rfl) rfl hl.1 rfl (lv_room (Nat.le_of_ble_eq_true rfl)) d_L_client_9 ⟨Nat.le_of_ble_eq_true rfl, Nat.le_of_ble_eq_true rfl⟩ hP hD hS hA [0, 1] (by decide) rfl (by simp only [List.map_cons, List.map_nil]) hown [] ⟨0, 14, 17, 13⟩ [⟨0, 14, 21, 15⟩] ((ct_tab htab).trans rfl) (fun _ h => nomatch h) rfl (by decide) (hw _ ww_186) (hK.2.use wf_194) (fun x9 H locs hP hD hS => ?_)
  have hP : va_P G classes [(hd, .inr (0, [.ref us, .ref op, .int (nI n), .int ck])), (us, .inl ((ct 3), 8, .inr (.inr (.inr (.inr fu))))), (qo, .inl ((ct 1), 1, .inr (.inl og)))] H := hP
  have hD : va_D A [(hd, .inr (0, [.ref us, .ref op, .int (nI n), .int ck])), (us, .inl ((ct 3), 8, .inr (.inr (.inr (.inr fu))))), (qo, .inl ((ct 1), 1, .inr (.inl og)))] := hD
  refine lv_astore (lv' := [(8, .ref x9), (0, .ref hd), (1, .int (nI k)), (2, .int wy), (3, .long pw), (5, .long se), (7, .ref qo)]) hx hb d_L_client_17 hl (Nat.le_of_ble_eq_true rfl) rfl (fun ls hl => ?_)
  refine lv_iconst (v := 1) hx hb d_L_client_19 (by decide) ?_
  refine W.widen (k := 1) (n := 6) (Nat.le_of_ble_eq_true rfl) (Nat.le_of_ble_eq_true rfl) ?_
  exact W.iret (v := 1) hx hb hr (fun t ht hW => ⟨⟨(), ⟨rfl, trivial⟩, by rw [ht]; exact hP, hD⟩, hS.F ht⟩) hS.2.2 d_L_client_20
set_option maxHeartbeats 4000000 in
set_option maxRecDepth 100000 in
theorem c_L_client2 (l : Launch) (hfl : l.flags = pinnedFlags ++ [noTraceFlag]) (G : va_G) (ct : Nat → ClassId) (sz : Nat) (hd : Nat) (us : Nat) (op : Nat) (n : Nat) (ck : Int32) (fu : Nat → Option Nat) (hu : Nat) (k : Nat) (wy : Int32) (pw : Int64) (se : Int64) (qo : Nat) (og : Nat → Int64) (hk : k < 8) (hfu : fu k = some hu) (hwi : wy_in wy) (hn : ¬ nI n < 40) : Met l my_L_client (tb_wH my_L_client mb_L_client 9 (some .int) [(0, 14, 17, 13), (0, 14, 21, 15)]) ({ frames := 7, cells := 1, slots := 6, locals := 109 }) (wk_P5 [.ref hd, .int (nI k), .int wy, .long pw, .long se, .ref qo] G ct [(hd, .inr (0, [.ref us, .ref op, .int (nI n), .int ck])), (us, .inl ((ct 3), 8, .inr (.inr (.inr (.inr fu))))), (qo, .inl ((ct 1), 1, .inr (.inl og)))] sz) (wk_Q (wk_oi (S := Unit) (fun _ => 2) (fun _ => True)) (fun _ : Unit => [(hd, .inr (0, [.ref us, .ref op, .int (nI n), .int ck])), (us, .inl ((ct 3), 8, .inr (.inr (.inr (.inr fu))))), (qo, .inl ((ct 1), 1, .inr (.inl og)))]) G (va_A [(hd, .inr (0, [.ref us, .ref op, .int (nI n), .int ck])), (us, .inl ((ct 3), 8, .inr (.inr (.inr (.inr fu))))), (qo, .inl ((ct 1), 1, .inr (.inl og)))] sz)) 1 6 (va_A [(hd, .inr (0, [.ref us, .ref op, .int (nI n), .int ck])), (us, .inl ((ct 3), 8, .inr (.inr (.inr (.inr fu))))), (qo, .inl ((ct 1), 1, .inr (.inl og)))] sz) := by
  refine va_MetW (cc := mb_L_client) (maxL := 9) (ret := (some .int)) (by decide) rfl ?_
  intro p e s m args below meth c s₁ B hml hv
  have htab := sh_tab B
  obtain ⟨⟨⟨⟨rfl, hsz, hP, hK, hD0⟩, hZ⟩, hR⟩, hN⟩ := hv
  have hx := B.exec
  have hb := B.bytes
  have hr := B.returns
  have hts := atoms_spec (ws := tb_wH my_L_client mb_L_client 9 (some .int) [(0, 14, 17, 13), (0, 14, 21, 15)]) B.pre
  have hw : ∀ w ∈ gt_tbl, w.before [.ref hd, .int (nI k), .int wy, .long pw, .long se, .ref qo].toArray s = true := fun w h => hts w (List.mem_cons_of_mem _ h)
  have hown : s.vm.findClass cr_L = some m.cls := findClass_of_methodNamed B.named
  have hlocks := B.notSynchronized
  subst hsz
  have hD := hD0.self (sz := s.heap.size)
  generalize hAe : va_A [(hd, .inr (0, [.ref us, .ref op, .int (nI n), .int ck])), (us, .inl ((ct 3), 8, .inr (.inr (.inr (.inr fu))))), (qo, .inl ((ct 1), 1, .inr (.inl og)))] s.heap.size = A at hD hZ ⊢
  have hA : ∀ q : Nat, s.heap.size ≤ q → A q := fun q h => by rw [← hAe]; exact Or.inr h
  have hS : va_S A s.heap s.heap [] := va_S.rf
  have hP : va_P G classes [(hd, .inr (0, [.ref us, .ref op, .int (nI n), .int ck])), (us, .inl ((ct 3), 8, .inr (.inr (.inr (.inr fu))))), (qo, .inl ((ct 1), 1, .inr (.inl og)))] s.heap := hP
  have hl := lv_entry ([.ref hd, .int (nI k), .int wy, .long pw, .long se, .ref qo]) (n := 9) (Nat.le_of_ble_eq_true rfl)
  rw [lg_entry_eq]
  generalize (lg_sl ([.ref hd, .int (nI k), .int wy, .long pw, .long se, .ref qo]) ++ List.replicate (9 - (lg_sl ([.ref hd, .int (nI k), .int wy, .long pw, .long se, .ref qo])).length) Slot.unset).toArray = ls at hl ⊢
  have hl : lv_has ls 9 [(0, .ref hd), (1, .int (nI k)), (2, .int wy), (3, .long pw), (5, .long se), (7, .ref qo)] := hl
  refine lv_aload hx hb d_L_client_0 (lv_at hl 5 rfl) ?_
  refine lv_iconst (v := 0) hx hb d_L_client_2 (by decide) ?_
  refine lv_aload_n hx hb d_L_client_3 rfl (lv_at hl 0 rfl) ?_
  refine lv_iload_n hx hb d_L_client_4 rfl (lv_at hl 1 rfl) ?_
  refine lv_iload_n hx hb d_L_client_5 rfl (lv_at hl 2 rfl) ?_
  refine lv_lload_n hx hb d_L_client_6 rfl (lv_at hl 3 rfl) ?_
  refine lv_lload hx hb d_L_client_7 (lv_at hl 4 rfl) ?_
  have hPc : va_P G classes [(hd, .inr (0, [.ref us, .ref op, .int (nI n), .int ck])), (us, .inl ((ct 3), 8, .inr (.inr (.inr (.inr fu)))))] s.heap := hP.sub [0, 1] rfl
  have hDc := hD.sub (ws' := [(hd, .inr (0, [.ref us, .ref op, .int (nI n), .int ck])), (us, .inl ((ct 3), 8, .inr (.inr (.inr (.inr fu)))))]) [0, 1] (by decide) rfl
  refine wk_catch (As := [.int (nI k), .int wy, .long pw, .long se]) (rest := [.int 0, .ref qo]) ⟨hx, hb, hml, hown, hts⟩ (c_D_client2 l hfl G ct s.heap.size hd us op n ck fu hu k wy pw se hk hfu hwi hn) (tb_V hw cy_D_client ww_188 ww_189 ww_190 rfl rfl ⟨Nat.le_of_ble_eq_true rfl, Nat.le_of_ble_eq_true rfl⟩) (wk_preV4 (ci := 0) (q0 := 0) hPc hK hDc hD hS hA [0, 1] rfl hZ hR rfl rfl) rfl hl.1 rfl (lv_room (Nat.le_of_ble_eq_true rfl)) d_L_client_9 ⟨Nat.le_of_ble_eq_true rfl, Nat.le_of_ble_eq_true rfl⟩ hP hD hS hA [0, 1] (by decide) rfl (by simp only [List.map_cons, List.map_nil]) hown [⟨0, 14, 17, 13⟩] ⟨0, 14, 21, 15⟩ [] ((ct_tab htab).trans rfl) (hc_c ⟨rfl, by decide, "java/lang/IllegalArgumentException", hw _ ww_186, hN.1⟩ (fun _ h => nomatch h)) rfl (by decide) (hw _ ww_187) (hK.2.use wf_263) (fun x9 H locs hP hD hS => ?_)
  have hP : va_P G classes [(hd, .inr (0, [.ref us, .ref op, .int (nI n), .int ck])), (us, .inl ((ct 3), 8, .inr (.inr (.inr (.inr fu))))), (qo, .inl ((ct 1), 1, .inr (.inl og)))] H := hP
  have hD : va_D A [(hd, .inr (0, [.ref us, .ref op, .int (nI n), .int ck])), (us, .inl ((ct 3), 8, .inr (.inr (.inr (.inr fu))))), (qo, .inl ((ct 1), 1, .inr (.inl og)))] := hD
  refine lv_astore (lv' := [(8, .ref x9), (0, .ref hd), (1, .int (nI k)), (2, .int wy), (3, .long pw), (5, .long se), (7, .ref qo)]) hx hb d_L_client_21 hl (Nat.le_of_ble_eq_true rfl) rfl (fun ls hl => ?_)
  refine lv_iconst (v := 2) hx hb d_L_client_23 (by decide) ?_
  refine W.widen (k := 1) (n := 6) (Nat.le_of_ble_eq_true rfl) (Nat.le_of_ble_eq_true rfl) ?_
  exact W.iret (v := 2) hx hb hr (fun t ht hW => ⟨⟨(), ⟨rfl, trivial⟩, by rw [ht]; exact hP, hD⟩, hS.F ht⟩) hS.2.2 d_L_client_24
set_option maxHeartbeats 4000000 in
set_option maxRecDepth 100000 in
theorem c_L_server1 (l : Launch) (G : va_G) (ct : Nat → ClassId) (sz : Nat) (hd : Nat) (us : Nat) (op : Nat) (n : Nat) (ck : Int32) (fu : Nat → Option Nat) (fo : Nat → Option Nat) (hu : Nat) (k : Nat) (nb : Int32) (sd : Int32) (uw : Int32) (uo : Nat) (ul : Int64) (uv : Nat) (uf : Int32) (u1 : Int32) (u2 : Int32) (u3 : Int32) (wy : Int32) (se : Int64) (qo : Nat) (og : Nat → Int64) (hk : k < 8) (hfu : fu k = some hu) (hwi : wy_in wy) (hn : n < 40) (hbl : ¬ us_bl uf u3 ck) : Met l my_L_server (tb_wH my_L_server mb_L_server 7 (some .int) [(0, 12, 15, 13), (0, 12, 19, 15)]) ({ frames := 5, cells := 1, slots := 12, locals := 121 }) (wk_P [.ref hd, .int (nI k), .int wy, .long se, .ref qo] G ct [(hd, .inr (0, [.ref us, .ref op, .int (nI n), .int ck])), (us, .inl ((ct 3), 8, .inr (.inr (.inr (.inr fu))))), (op, .inl ((ct 4), 40, .inr (.inr (.inr (.inr fo))))), (hu, .inr (1, [.int nb, .int sd, .int uw, .long (lN uo), .long ul, .long (lN uv), .int uf, .int u1, .int u2, .int u3])), (qo, .inl ((ct 1), 1, .inr (.inl og)))] sz) (wk_Q (wk_oi (S := Nat) (fun _ => 0) (fun _ => True)) (fun q0 : Nat => [(hd, .inr (0, [.ref us, .ref op, .int (nI (n + 1)), .int ck])), (us, .inl ((ct 3), 8, .inr (.inr (.inr (.inr fu))))), (op, .inl ((ct 4), 40, .inr (.inr (.inr (.inr (va_up fo n (some q0))))))), (hu, .inr (1, [.int nb, .int sd, .int uw, .long (lN uo), .long ul, .long (lN uv), .int uf, .int u1, .int u2, .int u3])), (qo, .inl ((ct 1), 1, .inr (.inl (vp_updL og 0 ((nI n).toInt64))))), (q0, .inr (3, [.ref hu, .int wy, .long (lN (sc_n se)), .int ck, .int 0, .long (lN 0), .long (lN 0), .long 0, .long 0, .long 0, .long 0, .long (lN (sv_r0 sd nb wy uw uo uv))]))]) G (va_A [(hd, .inr (0, [.ref us, .ref op, .int (nI n), .int ck])), (us, .inl ((ct 3), 8, .inr (.inr (.inr (.inr fu))))), (op, .inl ((ct 4), 40, .inr (.inr (.inr (.inr fo))))), (hu, .inr (1, [.int nb, .int sd, .int uw, .long (lN uo), .long ul, .long (lN uv), .int uf, .int u1, .int u2, .int u3])), (qo, .inl ((ct 1), 1, .inr (.inl og)))] sz)) 1 12 (va_A [(hd, .inr (0, [.ref us, .ref op, .int (nI n), .int ck])), (us, .inl ((ct 3), 8, .inr (.inr (.inr (.inr fu))))), (op, .inl ((ct 4), 40, .inr (.inr (.inr (.inr fo))))), (hu, .inr (1, [.int nb, .int sd, .int uw, .long (lN uo), .long ul, .long (lN uv), .int uf, .int u1, .int u2, .int u3])), (qo, .inl ((ct 1), 1, .inr (.inl og)))] sz) := by
  refine va_MetW (cc := mb_L_server) (maxL := 7) (ret := (some .int)) (by decide) rfl ?_
  intro p e s m args below meth c s₁ B hml hv
  have htab := sh_tab B
  obtain ⟨rfl, hsz, hP, hK, hD0⟩ := hv
  have hx := B.exec
  have hb := B.bytes
  have hr := B.returns
  have hts := atoms_spec (ws := tb_wH my_L_server mb_L_server 7 (some .int) [(0, 12, 15, 13), (0, 12, 19, 15)]) B.pre
  have hw : ∀ w ∈ gt_tbl, w.before [.ref hd, .int (nI k), .int wy, .long se, .ref qo].toArray s = true := fun w h => hts w (List.mem_cons_of_mem _ h)
  have hown : s.vm.findClass cr_L = some m.cls := findClass_of_methodNamed B.named
  have hlocks := B.notSynchronized
  subst hsz
  have hD := hD0.self (sz := s.heap.size)
  generalize hAe : va_A [(hd, .inr (0, [.ref us, .ref op, .int (nI n), .int ck])), (us, .inl ((ct 3), 8, .inr (.inr (.inr (.inr fu))))), (op, .inl ((ct 4), 40, .inr (.inr (.inr (.inr fo))))), (hu, .inr (1, [.int nb, .int sd, .int uw, .long (lN uo), .long ul, .long (lN uv), .int uf, .int u1, .int u2, .int u3])), (qo, .inl ((ct 1), 1, .inr (.inl og)))] s.heap.size = A at hD ⊢
  have hA : ∀ q : Nat, s.heap.size ≤ q → A q := fun q h => by rw [← hAe]; exact Or.inr h
  have hS : va_S A s.heap s.heap [] := va_S.rf
  have hP : va_P G classes [(hd, .inr (0, [.ref us, .ref op, .int (nI n), .int ck])), (us, .inl ((ct 3), 8, .inr (.inr (.inr (.inr fu))))), (op, .inl ((ct 4), 40, .inr (.inr (.inr (.inr fo))))), (hu, .inr (1, [.int nb, .int sd, .int uw, .long (lN uo), .long ul, .long (lN uv), .int uf, .int u1, .int u2, .int u3])), (qo, .inl ((ct 1), 1, .inr (.inl og)))] s.heap := hP
  have hl := lv_entry ([.ref hd, .int (nI k), .int wy, .long se, .ref qo]) (n := 7) (Nat.le_of_ble_eq_true rfl)
  rw [lg_entry_eq]
  generalize (lg_sl ([.ref hd, .int (nI k), .int wy, .long se, .ref qo]) ++ List.replicate (7 - (lg_sl ([.ref hd, .int (nI k), .int wy, .long se, .ref qo])).length) Slot.unset).toArray = ls at hl ⊢
  have hl : lv_has ls 7 [(0, .ref hd), (1, .int (nI k)), (2, .int wy), (3, .long se), (5, .ref qo)] := hl
  refine lv_aload hx hb d_L_server_0 (lv_at hl 4 rfl) ?_
  refine lv_iconst (v := 0) hx hb d_L_server_2 (by decide) ?_
  refine lv_aload_n hx hb d_L_server_3 rfl (lv_at hl 0 rfl) ?_
  refine lv_iload_n hx hb d_L_server_4 rfl (lv_at hl 1 rfl) ?_
  refine lv_iload_n hx hb d_L_server_5 rfl (lv_at hl 2 rfl) ?_
  refine lv_lload_n hx hb d_L_server_6 rfl (lv_at hl 3 rfl) ?_
  have hPc : va_P G classes [(hd, .inr (0, [.ref us, .ref op, .int (nI n), .int ck])), (us, .inl ((ct 3), 8, .inr (.inr (.inr (.inr fu))))), (op, .inl ((ct 4), 40, .inr (.inr (.inr (.inr fo))))), (hu, .inr (1, [.int nb, .int sd, .int uw, .long (lN uo), .long ul, .long (lN uv), .int uf, .int u1, .int u2, .int u3]))] s.heap := hP.sub [0, 1, 2, 3] rfl
  have hDc := hD.sub (ws' := [(hd, .inr (0, [.ref us, .ref op, .int (nI n), .int ck])), (us, .inl ((ct 3), 8, .inr (.inr (.inr (.inr fu))))), (op, .inl ((ct 4), 40, .inr (.inr (.inr (.inr fo))))), (hu, .inr (1, [.int nb, .int sd, .int uw, .long (lN uo), .long ul, .long (lN uv), .int uf, .int u1, .int u2, .int u3]))]) [0, 1, 2, 3] (by decide) rfl
  refine wk_iN (w1 := (fun u9 : Nat => [(hd, .inr (0, [.ref us, .ref op, .int (nI (n + 1)), .int ck])), (us, .inl ((ct 3), 8, .inr (.inr (.inr (.inr fu))))), (op, .inl ((ct 4), 40, .inr (.inr (.inr (.inr (va_up fo n (some u9))))))), (hu, .inr (1, [.int nb, .int sd, .int uw, .long (lN uo), .long ul, .long (lN uv), .int uf, .int u1, .int u2, .int u3]))])) (w2 := (fun u9 : Nat => [(u9, .inr (3, [.ref hu, .int wy, .long (lN (sc_n se)), .int ck, .int 0, .long (lN 0), .long (lN 0), .long 0, .long 0, .long 0, .long 0, .long (lN (sv_r0 sd nb wy uw uo uv))]))])) (va_runV (As := [.int (nI k), .int wy, .long se]) (rest := [.int 0, .ref qo]) ⟨hx, hb, hml, hown, hts⟩ (c_D_server1 l G ct s.heap.size hd us op n ck fu fo hu k nb sd uw uo ul uv uf u1 u2 u3 wy se hk hfu hwi hn hbl) (tb_V hw cy_D_server ww_379 ww_380 ww_381 rfl rfl ⟨Nat.le_of_ble_eq_true rfl, Nat.le_of_ble_eq_true rfl⟩) (wk_preV (ci := 0) (q0 := 0) hPc hK hDc rfl rfl) rfl rfl hl.1 rfl (lv_room (Nat.le_of_ble_eq_true rfl)) d_L_server_7 ⟨Nat.le_of_ble_eq_true rfl, Nat.le_of_ble_eq_true rfl⟩) hP hD hS hA [0, 1, 2, 3] (by decide) rfl (fun _ => by simp only [List.map_cons, List.map_nil]) (fun q0916 H locs ok9 hP hD hS => ?_)
  have hP : va_P G classes [(hd, .inr (0, [.ref us, .ref op, .int (nI (n + 1)), .int ck])), (us, .inl ((ct 3), 8, .inr (.inr (.inr (.inr fu))))), (op, .inl ((ct 4), 40, .inr (.inr (.inr (.inr (va_up fo n (some q0916))))))), (hu, .inr (1, [.int nb, .int sd, .int uw, .long (lN uo), .long ul, .long (lN uv), .int uf, .int u1, .int u2, .int u3])), (qo, .inl ((ct 1), 1, .inr (.inl og))), (q0916, .inr (3, [.ref hu, .int wy, .long (lN (sc_n se)), .int ck, .int 0, .long (lN 0), .long (lN 0), .long 0, .long 0, .long 0, .long 0, .long (lN (sv_r0 sd nb wy uw uo uv))]))] H := hP
  have hD : va_D A [(hd, .inr (0, [.ref us, .ref op, .int (nI (n + 1)), .int ck])), (us, .inl ((ct 3), 8, .inr (.inr (.inr (.inr fu))))), (op, .inl ((ct 4), 40, .inr (.inr (.inr (.inr (va_up fo n (some q0916))))))), (hu, .inr (1, [.int nb, .int sd, .int uw, .long (lN uo), .long ul, .long (lN uv), .int uf, .int u1, .int u2, .int u3])), (qo, .inl ((ct 1), 1, .inr (.inl og))), (q0916, .inr (3, [.ref hu, .int wy, .long (lN (sc_n se)), .int ck, .int 0, .long (lN 0), .long (lN 0), .long 0, .long 0, .long 0, .long 0, .long (lN (sv_r0 sd nb wy uw uo uv))]))] := hD
  refine lv_i2l (v := (nI n).toInt64) hx hb d_L_server_10 rfl ?_
  refine ra_ls hx hb hK.1 hP hD hS 4 1 rfl rfl (k := 0) (by omega) (by decide) d_L_server_11 (fun H locs hP hD hS => ?_)
  have hP : va_P G classes [(hd, .inr (0, [.ref us, .ref op, .int (nI (n + 1)), .int ck])), (us, .inl ((ct 3), 8, .inr (.inr (.inr (.inr fu))))), (op, .inl ((ct 4), 40, .inr (.inr (.inr (.inr (va_up fo n (some q0916))))))), (hu, .inr (1, [.int nb, .int sd, .int uw, .long (lN uo), .long ul, .long (lN uv), .int uf, .int u1, .int u2, .int u3])), (qo, .inl ((ct 1), 1, .inr (.inl (vp_updL og 0 ((nI n).toInt64))))), (q0916, .inr (3, [.ref hu, .int wy, .long (lN (sc_n se)), .int ck, .int 0, .long (lN 0), .long (lN 0), .long 0, .long 0, .long 0, .long 0, .long (lN (sv_r0 sd nb wy uw uo uv))]))] H := hP
  have hD : va_D A [(hd, .inr (0, [.ref us, .ref op, .int (nI (n + 1)), .int ck])), (us, .inl ((ct 3), 8, .inr (.inr (.inr (.inr fu))))), (op, .inl ((ct 4), 40, .inr (.inr (.inr (.inr (va_up fo n (some q0916))))))), (hu, .inr (1, [.int nb, .int sd, .int uw, .long (lN uo), .long ul, .long (lN uv), .int uf, .int u1, .int u2, .int u3])), (qo, .inl ((ct 1), 1, .inr (.inl (vp_updL og 0 ((nI n).toInt64))))), (q0916, .inr (3, [.ref hu, .int wy, .long (lN (sc_n se)), .int ck, .int 0, .long (lN 0), .long (lN 0), .long 0, .long 0, .long 0, .long 0, .long (lN (sv_r0 sd nb wy uw uo uv))]))] := hD
  refine lv_goto (tgt := 23) hx hb d_L_server_12 (by decide) ?_
  refine lv_iconst (v := 0) hx hb d_L_server_23 (by decide) ?_
  refine W.widen (k := 1) (n := 12) (Nat.le_of_ble_eq_true rfl) (Nat.le_of_ble_eq_true rfl) ?_
  have hP : va_P G classes [(hd, .inr (0, [.ref us, .ref op, .int (nI (n + 1)), .int ck])), (us, .inl ((ct 3), 8, .inr (.inr (.inr (.inr fu))))), (op, .inl ((ct 4), 40, .inr (.inr (.inr (.inr (va_up fo n (some q0916))))))), (hu, .inr (1, [.int nb, .int sd, .int uw, .long (lN uo), .long ul, .long (lN uv), .int uf, .int u1, .int u2, .int u3])), (qo, .inl ((ct 1), 1, .inr (.inl (vp_updL og 0 ((nI n).toInt64))))), (q0916, .inr (3, [.ref hu, .int wy, .long (lN (sc_n se)), .int ck, .int 0, .long (lN 0), .long (lN 0), .long 0, .long 0, .long 0, .long 0, .long (lN (sv_r0 sd nb wy uw uo uv))]))] H := hP
  exact W.iret (v := 0) hx hb hr (fun t ht hW => ⟨⟨q0916, ⟨rfl, trivial⟩, by rw [ht]; exact hP, hD⟩, hS.F ht⟩) hS.2.2 d_L_server_24
set_option maxHeartbeats 4000000 in
set_option maxRecDepth 100000 in
theorem c_L_server0 (l : Launch) (hfl : l.flags = pinnedFlags ++ [noTraceFlag]) (G : va_G) (ct : Nat → ClassId) (sz : Nat) (hd : Nat) (us : Nat) (op : Nat) (n : Nat) (ck : Int32) (ua : Int32) (wy : Int32) (se : Int64) (qo : Nat) (og : Nat → Int64) (hno : ¬ us_in ua) : Met l my_L_server (tb_wH my_L_server mb_L_server 7 (some .int) [(0, 12, 15, 13), (0, 12, 19, 15)]) ({ frames := 7, cells := 1, slots := 6, locals := 107 }) (wk_P5 [.ref hd, .int ua, .int wy, .long se, .ref qo] G ct [(hd, .inr (0, [.ref us, .ref op, .int (nI n), .int ck])), (qo, .inl ((ct 1), 1, .inr (.inl og)))] sz) (wk_Q (wk_oi (S := Unit) (fun _ => 1) (fun _ => True)) (fun _ : Unit => [(hd, .inr (0, [.ref us, .ref op, .int (nI n), .int ck])), (qo, .inl ((ct 1), 1, .inr (.inl og)))]) G (va_A [(hd, .inr (0, [.ref us, .ref op, .int (nI n), .int ck])), (qo, .inl ((ct 1), 1, .inr (.inl og)))] sz)) 1 6 (va_A [(hd, .inr (0, [.ref us, .ref op, .int (nI n), .int ck])), (qo, .inl ((ct 1), 1, .inr (.inl og)))] sz) := by
  refine va_MetW (cc := mb_L_server) (maxL := 7) (ret := (some .int)) (by decide) rfl ?_
  intro p e s m args below meth c s₁ B hml hv
  have htab := sh_tab B
  obtain ⟨⟨⟨⟨rfl, hsz, hP, hK, hD0⟩, hZ⟩, hR⟩, hN⟩ := hv
  have hx := B.exec
  have hb := B.bytes
  have hr := B.returns
  have hts := atoms_spec (ws := tb_wH my_L_server mb_L_server 7 (some .int) [(0, 12, 15, 13), (0, 12, 19, 15)]) B.pre
  have hw : ∀ w ∈ gt_tbl, w.before [.ref hd, .int ua, .int wy, .long se, .ref qo].toArray s = true := fun w h => hts w (List.mem_cons_of_mem _ h)
  have hown : s.vm.findClass cr_L = some m.cls := findClass_of_methodNamed B.named
  have hlocks := B.notSynchronized
  subst hsz
  have hD := hD0.self (sz := s.heap.size)
  generalize hAe : va_A [(hd, .inr (0, [.ref us, .ref op, .int (nI n), .int ck])), (qo, .inl ((ct 1), 1, .inr (.inl og)))] s.heap.size = A at hD hZ ⊢
  have hA : ∀ q : Nat, s.heap.size ≤ q → A q := fun q h => by rw [← hAe]; exact Or.inr h
  have hS : va_S A s.heap s.heap [] := va_S.rf
  have hP : va_P G classes [(hd, .inr (0, [.ref us, .ref op, .int (nI n), .int ck])), (qo, .inl ((ct 1), 1, .inr (.inl og)))] s.heap := hP
  have hl := lv_entry ([.ref hd, .int ua, .int wy, .long se, .ref qo]) (n := 7) (Nat.le_of_ble_eq_true rfl)
  rw [lg_entry_eq]
  generalize (lg_sl ([.ref hd, .int ua, .int wy, .long se, .ref qo]) ++ List.replicate (7 - (lg_sl ([.ref hd, .int ua, .int wy, .long se, .ref qo])).length) Slot.unset).toArray = ls at hl ⊢
  have hl : lv_has ls 7 [(0, .ref hd), (1, .int ua), (2, .int wy), (3, .long se), (5, .ref qo)] := hl
  refine lv_aload hx hb d_L_server_0 (lv_at hl 4 rfl) ?_
  refine lv_iconst (v := 0) hx hb d_L_server_2 (by decide) ?_
  refine lv_aload_n hx hb d_L_server_3 rfl (lv_at hl 0 rfl) ?_
  refine lv_iload_n hx hb d_L_server_4 rfl (lv_at hl 1 rfl) ?_
  refine lv_iload_n hx hb d_L_server_5 rfl (lv_at hl 2 rfl) ?_
  refine lv_lload_n hx hb d_L_server_6 rfl (lv_at hl 3 rfl) ?_
  have hPc : va_P G classes [(hd, .inr (0, [.ref us, .ref op, .int (nI n), .int ck]))] s.heap := hP.sub [0] rfl
  have hDc := hD.sub (ws' := [(hd, .inr (0, [.ref us, .ref op, .int (nI n), .int ck]))]) [0] (by decide) rfl
  refine wk_catch (As := [.int ua, .int wy, .long se]) (rest := [.int 0, .ref qo]) ⟨hx, hb, hml, hown, hts⟩ (c_D_server0 l hfl G ct s.heap.size hd us op n ck ua wy se hno) (tb_V hw cy_D_server ww_379 ww_380 ww_381 rfl rfl ⟨Nat.le_of_ble_eq_true rfl, Nat.le_of_ble_eq_true rfl⟩) (wk_preV4 (ci := 0) (q0 := 0) hPc hK hDc hD hS hA [0] rfl hZ hR rfl rfl) rfl hl.1 rfl (lv_room (Nat.le_of_ble_eq_true rfl)) d_L_server_7 ⟨Nat.le_of_ble_eq_true rfl, Nat.le_of_ble_eq_true rfl⟩ hP hD hS hA [0] (by decide) rfl (by simp only [List.map_cons, List.map_nil]) hown [] ⟨0, 12, 15, 13⟩ [⟨0, 12, 19, 15⟩] ((ct_tab htab).trans rfl) (fun _ h => nomatch h) rfl (by decide) (hw _ ww_186) (hK.2.use wf_194) (fun x9 H locs hP hD hS => ?_)
  have hP : va_P G classes [(hd, .inr (0, [.ref us, .ref op, .int (nI n), .int ck])), (qo, .inl ((ct 1), 1, .inr (.inl og)))] H := hP
  have hD : va_D A [(hd, .inr (0, [.ref us, .ref op, .int (nI n), .int ck])), (qo, .inl ((ct 1), 1, .inr (.inl og)))] := hD
  refine lv_astore (lv' := [(6, .ref x9), (0, .ref hd), (1, .int ua), (2, .int wy), (3, .long se), (5, .ref qo)]) hx hb d_L_server_15 hl (Nat.le_of_ble_eq_true rfl) rfl (fun ls hl => ?_)
  refine lv_iconst (v := 1) hx hb d_L_server_17 (by decide) ?_
  refine W.widen (k := 1) (n := 6) (Nat.le_of_ble_eq_true rfl) (Nat.le_of_ble_eq_true rfl) ?_
  exact W.iret (v := 1) hx hb hr (fun t ht hW => ⟨⟨(), ⟨rfl, trivial⟩, by rw [ht]; exact hP, hD⟩, hS.F ht⟩) hS.2.2 d_L_server_18
set_option maxHeartbeats 4000000 in
set_option maxRecDepth 100000 in
theorem c_L_server0b (l : Launch) (hfl : l.flags = pinnedFlags ++ [noTraceFlag]) (G : va_G) (ct : Nat → ClassId) (sz : Nat) (hd : Nat) (us : Nat) (op : Nat) (n : Nat) (ck : Int32) (fu : Nat → Option Nat) (hu : Nat) (k : Nat) (wy : Int32) (se : Int64) (qo : Nat) (og : Nat → Int64) (hk : k < 8) (hfu : fu k = some hu) (hwi : ¬ wy_in wy) : Met l my_L_server (tb_wH my_L_server mb_L_server 7 (some .int) [(0, 12, 15, 13), (0, 12, 19, 15)]) ({ frames := 7, cells := 1, slots := 6, locals := 107 }) (wk_P5 [.ref hd, .int (nI k), .int wy, .long se, .ref qo] G ct [(hd, .inr (0, [.ref us, .ref op, .int (nI n), .int ck])), (us, .inl ((ct 3), 8, .inr (.inr (.inr (.inr fu))))), (qo, .inl ((ct 1), 1, .inr (.inl og)))] sz) (wk_Q (wk_oi (S := Unit) (fun _ => 1) (fun _ => True)) (fun _ : Unit => [(hd, .inr (0, [.ref us, .ref op, .int (nI n), .int ck])), (us, .inl ((ct 3), 8, .inr (.inr (.inr (.inr fu))))), (qo, .inl ((ct 1), 1, .inr (.inl og)))]) G (va_A [(hd, .inr (0, [.ref us, .ref op, .int (nI n), .int ck])), (us, .inl ((ct 3), 8, .inr (.inr (.inr (.inr fu))))), (qo, .inl ((ct 1), 1, .inr (.inl og)))] sz)) 1 6 (va_A [(hd, .inr (0, [.ref us, .ref op, .int (nI n), .int ck])), (us, .inl ((ct 3), 8, .inr (.inr (.inr (.inr fu))))), (qo, .inl ((ct 1), 1, .inr (.inl og)))] sz) := by
  refine va_MetW (cc := mb_L_server) (maxL := 7) (ret := (some .int)) (by decide) rfl ?_
  intro p e s m args below meth c s₁ B hml hv
  have htab := sh_tab B
  obtain ⟨⟨⟨⟨rfl, hsz, hP, hK, hD0⟩, hZ⟩, hR⟩, hN⟩ := hv
  have hx := B.exec
  have hb := B.bytes
  have hr := B.returns
  have hts := atoms_spec (ws := tb_wH my_L_server mb_L_server 7 (some .int) [(0, 12, 15, 13), (0, 12, 19, 15)]) B.pre
  have hw : ∀ w ∈ gt_tbl, w.before [.ref hd, .int (nI k), .int wy, .long se, .ref qo].toArray s = true := fun w h => hts w (List.mem_cons_of_mem _ h)
  have hown : s.vm.findClass cr_L = some m.cls := findClass_of_methodNamed B.named
  have hlocks := B.notSynchronized
  subst hsz
  have hD := hD0.self (sz := s.heap.size)
  generalize hAe : va_A [(hd, .inr (0, [.ref us, .ref op, .int (nI n), .int ck])), (us, .inl ((ct 3), 8, .inr (.inr (.inr (.inr fu))))), (qo, .inl ((ct 1), 1, .inr (.inl og)))] s.heap.size = A at hD hZ ⊢
  have hA : ∀ q : Nat, s.heap.size ≤ q → A q := fun q h => by rw [← hAe]; exact Or.inr h
  have hS : va_S A s.heap s.heap [] := va_S.rf
  have hP : va_P G classes [(hd, .inr (0, [.ref us, .ref op, .int (nI n), .int ck])), (us, .inl ((ct 3), 8, .inr (.inr (.inr (.inr fu))))), (qo, .inl ((ct 1), 1, .inr (.inl og)))] s.heap := hP
  have hl := lv_entry ([.ref hd, .int (nI k), .int wy, .long se, .ref qo]) (n := 7) (Nat.le_of_ble_eq_true rfl)
  rw [lg_entry_eq]
  generalize (lg_sl ([.ref hd, .int (nI k), .int wy, .long se, .ref qo]) ++ List.replicate (7 - (lg_sl ([.ref hd, .int (nI k), .int wy, .long se, .ref qo])).length) Slot.unset).toArray = ls at hl ⊢
  have hl : lv_has ls 7 [(0, .ref hd), (1, .int (nI k)), (2, .int wy), (3, .long se), (5, .ref qo)] := hl
  refine lv_aload hx hb d_L_server_0 (lv_at hl 4 rfl) ?_
  refine lv_iconst (v := 0) hx hb d_L_server_2 (by decide) ?_
  refine lv_aload_n hx hb d_L_server_3 rfl (lv_at hl 0 rfl) ?_
  refine lv_iload_n hx hb d_L_server_4 rfl (lv_at hl 1 rfl) ?_
  refine lv_iload_n hx hb d_L_server_5 rfl (lv_at hl 2 rfl) ?_
  refine lv_lload_n hx hb d_L_server_6 rfl (lv_at hl 3 rfl) ?_
  have hPc : va_P G classes [(hd, .inr (0, [.ref us, .ref op, .int (nI n), .int ck])), (us, .inl ((ct 3), 8, .inr (.inr (.inr (.inr fu)))))] s.heap := hP.sub [0, 1] rfl
  have hDc := hD.sub (ws' := [(hd, .inr (0, [.ref us, .ref op, .int (nI n), .int ck])), (us, .inl ((ct 3), 8, .inr (.inr (.inr (.inr fu)))))]) [0, 1] (by decide) rfl
  refine wk_catch (As := [.int (nI k), .int wy, .long se]) (rest := [.int 0, .ref qo]) ⟨hx, hb, hml, hown, hts⟩ (c_D_server0b l hfl G ct s.heap.size hd us op n ck fu hu k wy se hk hfu hwi) (tb_V hw cy_D_server ww_379 ww_380 ww_381 rfl rfl ⟨Nat.le_of_ble_eq_true rfl, Nat.le_of_ble_eq_true rfl⟩) (wk_preV4 (ci := 0) (q0 := 0) hPc hK hDc hD hS hA [0, 1] rfl hZ hR rfl rfl) rfl hl.1 rfl (lv_room (Nat.le_of_ble_eq_true rfl)) d_L_server_7 ⟨Nat.le_of_ble_eq_true rfl, Nat.le_of_ble_eq_true rfl⟩ hP hD hS hA [0, 1] (by decide) rfl (by simp only [List.map_cons, List.map_nil]) hown [] ⟨0, 12, 15, 13⟩ [⟨0, 12, 19, 15⟩] ((ct_tab htab).trans rfl) (fun _ h => nomatch h) rfl (by decide) (hw _ ww_186) (hK.2.use wf_194) (fun x9 H locs hP hD hS => ?_)
  have hP : va_P G classes [(hd, .inr (0, [.ref us, .ref op, .int (nI n), .int ck])), (us, .inl ((ct 3), 8, .inr (.inr (.inr (.inr fu))))), (qo, .inl ((ct 1), 1, .inr (.inl og)))] H := hP
  have hD : va_D A [(hd, .inr (0, [.ref us, .ref op, .int (nI n), .int ck])), (us, .inl ((ct 3), 8, .inr (.inr (.inr (.inr fu))))), (qo, .inl ((ct 1), 1, .inr (.inl og)))] := hD
  refine lv_astore (lv' := [(6, .ref x9), (0, .ref hd), (1, .int (nI k)), (2, .int wy), (3, .long se), (5, .ref qo)]) hx hb d_L_server_15 hl (Nat.le_of_ble_eq_true rfl) rfl (fun ls hl => ?_)
  refine lv_iconst (v := 1) hx hb d_L_server_17 (by decide) ?_
  refine W.widen (k := 1) (n := 6) (Nat.le_of_ble_eq_true rfl) (Nat.le_of_ble_eq_true rfl) ?_
  exact W.iret (v := 1) hx hb hr (fun t ht hW => ⟨⟨(), ⟨rfl, trivial⟩, by rw [ht]; exact hP, hD⟩, hS.F ht⟩) hS.2.2 d_L_server_18
set_option maxHeartbeats 4000000 in
set_option maxRecDepth 100000 in
theorem c_L_server2 (l : Launch) (hfl : l.flags = pinnedFlags ++ [noTraceFlag]) (G : va_G) (ct : Nat → ClassId) (sz : Nat) (hd : Nat) (us : Nat) (op : Nat) (n : Nat) (ck : Int32) (fu : Nat → Option Nat) (hu : Nat) (k : Nat) (wy : Int32) (se : Int64) (qo : Nat) (og : Nat → Int64) (hk : k < 8) (hfu : fu k = some hu) (hwi : wy_in wy) (hn : ¬ nI n < 40) : Met l my_L_server (tb_wH my_L_server mb_L_server 7 (some .int) [(0, 12, 15, 13), (0, 12, 19, 15)]) ({ frames := 7, cells := 1, slots := 6, locals := 107 }) (wk_P5 [.ref hd, .int (nI k), .int wy, .long se, .ref qo] G ct [(hd, .inr (0, [.ref us, .ref op, .int (nI n), .int ck])), (us, .inl ((ct 3), 8, .inr (.inr (.inr (.inr fu))))), (qo, .inl ((ct 1), 1, .inr (.inl og)))] sz) (wk_Q (wk_oi (S := Unit) (fun _ => 2) (fun _ => True)) (fun _ : Unit => [(hd, .inr (0, [.ref us, .ref op, .int (nI n), .int ck])), (us, .inl ((ct 3), 8, .inr (.inr (.inr (.inr fu))))), (qo, .inl ((ct 1), 1, .inr (.inl og)))]) G (va_A [(hd, .inr (0, [.ref us, .ref op, .int (nI n), .int ck])), (us, .inl ((ct 3), 8, .inr (.inr (.inr (.inr fu))))), (qo, .inl ((ct 1), 1, .inr (.inl og)))] sz)) 1 6 (va_A [(hd, .inr (0, [.ref us, .ref op, .int (nI n), .int ck])), (us, .inl ((ct 3), 8, .inr (.inr (.inr (.inr fu))))), (qo, .inl ((ct 1), 1, .inr (.inl og)))] sz) := by
  refine va_MetW (cc := mb_L_server) (maxL := 7) (ret := (some .int)) (by decide) rfl ?_
  intro p e s m args below meth c s₁ B hml hv
  have htab := sh_tab B
  obtain ⟨⟨⟨⟨rfl, hsz, hP, hK, hD0⟩, hZ⟩, hR⟩, hN⟩ := hv
  have hx := B.exec
  have hb := B.bytes
  have hr := B.returns
  have hts := atoms_spec (ws := tb_wH my_L_server mb_L_server 7 (some .int) [(0, 12, 15, 13), (0, 12, 19, 15)]) B.pre
  have hw : ∀ w ∈ gt_tbl, w.before [.ref hd, .int (nI k), .int wy, .long se, .ref qo].toArray s = true := fun w h => hts w (List.mem_cons_of_mem _ h)
  have hown : s.vm.findClass cr_L = some m.cls := findClass_of_methodNamed B.named
  have hlocks := B.notSynchronized
  subst hsz
  have hD := hD0.self (sz := s.heap.size)
  generalize hAe : va_A [(hd, .inr (0, [.ref us, .ref op, .int (nI n), .int ck])), (us, .inl ((ct 3), 8, .inr (.inr (.inr (.inr fu))))), (qo, .inl ((ct 1), 1, .inr (.inl og)))] s.heap.size = A at hD hZ ⊢
  have hA : ∀ q : Nat, s.heap.size ≤ q → A q := fun q h => by rw [← hAe]; exact Or.inr h
  have hS : va_S A s.heap s.heap [] := va_S.rf
  have hP : va_P G classes [(hd, .inr (0, [.ref us, .ref op, .int (nI n), .int ck])), (us, .inl ((ct 3), 8, .inr (.inr (.inr (.inr fu))))), (qo, .inl ((ct 1), 1, .inr (.inl og)))] s.heap := hP
  have hl := lv_entry ([.ref hd, .int (nI k), .int wy, .long se, .ref qo]) (n := 7) (Nat.le_of_ble_eq_true rfl)
  rw [lg_entry_eq]
  generalize (lg_sl ([.ref hd, .int (nI k), .int wy, .long se, .ref qo]) ++ List.replicate (7 - (lg_sl ([.ref hd, .int (nI k), .int wy, .long se, .ref qo])).length) Slot.unset).toArray = ls at hl ⊢
  have hl : lv_has ls 7 [(0, .ref hd), (1, .int (nI k)), (2, .int wy), (3, .long se), (5, .ref qo)] := hl
  refine lv_aload hx hb d_L_server_0 (lv_at hl 4 rfl) ?_
  refine lv_iconst (v := 0) hx hb d_L_server_2 (by decide) ?_
  refine lv_aload_n hx hb d_L_server_3 rfl (lv_at hl 0 rfl) ?_
  refine lv_iload_n hx hb d_L_server_4 rfl (lv_at hl 1 rfl) ?_
  refine lv_iload_n hx hb d_L_server_5 rfl (lv_at hl 2 rfl) ?_
  refine lv_lload_n hx hb d_L_server_6 rfl (lv_at hl 3 rfl) ?_
  have hPc : va_P G classes [(hd, .inr (0, [.ref us, .ref op, .int (nI n), .int ck])), (us, .inl ((ct 3), 8, .inr (.inr (.inr (.inr fu)))))] s.heap := hP.sub [0, 1] rfl
  have hDc := hD.sub (ws' := [(hd, .inr (0, [.ref us, .ref op, .int (nI n), .int ck])), (us, .inl ((ct 3), 8, .inr (.inr (.inr (.inr fu)))))]) [0, 1] (by decide) rfl
  refine wk_catch (As := [.int (nI k), .int wy, .long se]) (rest := [.int 0, .ref qo]) ⟨hx, hb, hml, hown, hts⟩ (c_D_server2 l hfl G ct s.heap.size hd us op n ck fu hu k wy se hk hfu hwi hn) (tb_V hw cy_D_server ww_379 ww_380 ww_381 rfl rfl ⟨Nat.le_of_ble_eq_true rfl, Nat.le_of_ble_eq_true rfl⟩) (wk_preV4 (ci := 0) (q0 := 0) hPc hK hDc hD hS hA [0, 1] rfl hZ hR rfl rfl) rfl hl.1 rfl (lv_room (Nat.le_of_ble_eq_true rfl)) d_L_server_7 ⟨Nat.le_of_ble_eq_true rfl, Nat.le_of_ble_eq_true rfl⟩ hP hD hS hA [0, 1] (by decide) rfl (by simp only [List.map_cons, List.map_nil]) hown [⟨0, 12, 15, 13⟩] ⟨0, 12, 19, 15⟩ [] ((ct_tab htab).trans rfl) (hc_c ⟨rfl, by decide, "java/lang/IllegalArgumentException", hw _ ww_186, hN.1⟩ (fun _ h => nomatch h)) rfl (by decide) (hw _ ww_187) (hK.2.use wf_263) (fun x9 H locs hP hD hS => ?_)
  have hP : va_P G classes [(hd, .inr (0, [.ref us, .ref op, .int (nI n), .int ck])), (us, .inl ((ct 3), 8, .inr (.inr (.inr (.inr fu))))), (qo, .inl ((ct 1), 1, .inr (.inl og)))] H := hP
  have hD : va_D A [(hd, .inr (0, [.ref us, .ref op, .int (nI n), .int ck])), (us, .inl ((ct 3), 8, .inr (.inr (.inr (.inr fu))))), (qo, .inl ((ct 1), 1, .inr (.inl og)))] := hD
  refine lv_astore (lv' := [(6, .ref x9), (0, .ref hd), (1, .int (nI k)), (2, .int wy), (3, .long se), (5, .ref qo)]) hx hb d_L_server_19 hl (Nat.le_of_ble_eq_true rfl) rfl (fun ls hl => ?_)
  refine lv_iconst (v := 2) hx hb d_L_server_21 (by decide) ?_
  refine W.widen (k := 1) (n := 6) (Nat.le_of_ble_eq_true rfl) (Nat.le_of_ble_eq_true rfl) ?_
  exact W.iret (v := 2) hx hb hr (fun t ht hW => ⟨⟨(), ⟨rfl, trivial⟩, by rw [ht]; exact hP, hD⟩, hS.F ht⟩) hS.2.2 d_L_server_22
set_option maxHeartbeats 4000000 in
set_option maxRecDepth 100000 in
theorem c_L_server3 (l : Launch) (hfl : l.flags = pinnedFlags ++ [noTraceFlag]) (G : va_G) (ct : Nat → ClassId) (sz : Nat) (hd : Nat) (us : Nat) (op : Nat) (n : Nat) (ck : Int32) (fu : Nat → Option Nat) (hu : Nat) (k : Nat) (nb : Int32) (sd : Int32) (uw : Int32) (uo : Nat) (ul : Int64) (uv : Nat) (uf : Int32) (u1 : Int32) (u2 : Int32) (u3 : Int32) (wy : Int32) (se : Int64) (qo : Nat) (og : Nat → Int64) (hk : k < 8) (hfu : fu k = some hu) (hwi : wy_in wy) (hn : nI n < 40) (hbl : us_bl uf u3 ck) : Met l my_L_server (tb_wH my_L_server mb_L_server 7 (some .int) [(0, 12, 15, 13), (0, 12, 19, 15)]) ({ frames := 7, cells := 1, slots := 6, locals := 107 }) (wk_P5 [.ref hd, .int (nI k), .int wy, .long se, .ref qo] G ct [(hd, .inr (0, [.ref us, .ref op, .int (nI n), .int ck])), (us, .inl ((ct 3), 8, .inr (.inr (.inr (.inr fu))))), (hu, .inr (1, [.int nb, .int sd, .int uw, .long (lN uo), .long ul, .long (lN uv), .int uf, .int u1, .int u2, .int u3])), (qo, .inl ((ct 1), 1, .inr (.inl og)))] sz) (wk_Q (wk_oi (S := Unit) (fun _ => 2) (fun _ => True)) (fun _ : Unit => [(hd, .inr (0, [.ref us, .ref op, .int (nI n), .int ck])), (us, .inl ((ct 3), 8, .inr (.inr (.inr (.inr fu))))), (hu, .inr (1, [.int nb, .int sd, .int uw, .long (lN uo), .long ul, .long (lN uv), .int uf, .int u1, .int u2, .int u3])), (qo, .inl ((ct 1), 1, .inr (.inl og)))]) G (va_A [(hd, .inr (0, [.ref us, .ref op, .int (nI n), .int ck])), (us, .inl ((ct 3), 8, .inr (.inr (.inr (.inr fu))))), (hu, .inr (1, [.int nb, .int sd, .int uw, .long (lN uo), .long ul, .long (lN uv), .int uf, .int u1, .int u2, .int u3])), (qo, .inl ((ct 1), 1, .inr (.inl og)))] sz)) 1 6 (va_A [(hd, .inr (0, [.ref us, .ref op, .int (nI n), .int ck])), (us, .inl ((ct 3), 8, .inr (.inr (.inr (.inr fu))))), (hu, .inr (1, [.int nb, .int sd, .int uw, .long (lN uo), .long ul, .long (lN uv), .int uf, .int u1, .int u2, .int u3])), (qo, .inl ((ct 1), 1, .inr (.inl og)))] sz) := by
  refine va_MetW (cc := mb_L_server) (maxL := 7) (ret := (some .int)) (by decide) rfl ?_
  intro p e s m args below meth c s₁ B hml hv
  have htab := sh_tab B
  obtain ⟨⟨⟨⟨rfl, hsz, hP, hK, hD0⟩, hZ⟩, hR⟩, hN⟩ := hv
  have hx := B.exec
  have hb := B.bytes
  have hr := B.returns
  have hts := atoms_spec (ws := tb_wH my_L_server mb_L_server 7 (some .int) [(0, 12, 15, 13), (0, 12, 19, 15)]) B.pre
  have hw : ∀ w ∈ gt_tbl, w.before [.ref hd, .int (nI k), .int wy, .long se, .ref qo].toArray s = true := fun w h => hts w (List.mem_cons_of_mem _ h)
  have hown : s.vm.findClass cr_L = some m.cls := findClass_of_methodNamed B.named
  have hlocks := B.notSynchronized
  subst hsz
  have hD := hD0.self (sz := s.heap.size)
  generalize hAe : va_A [(hd, .inr (0, [.ref us, .ref op, .int (nI n), .int ck])), (us, .inl ((ct 3), 8, .inr (.inr (.inr (.inr fu))))), (hu, .inr (1, [.int nb, .int sd, .int uw, .long (lN uo), .long ul, .long (lN uv), .int uf, .int u1, .int u2, .int u3])), (qo, .inl ((ct 1), 1, .inr (.inl og)))] s.heap.size = A at hD hZ ⊢
  have hA : ∀ q : Nat, s.heap.size ≤ q → A q := fun q h => by rw [← hAe]; exact Or.inr h
  have hS : va_S A s.heap s.heap [] := va_S.rf
  have hP : va_P G classes [(hd, .inr (0, [.ref us, .ref op, .int (nI n), .int ck])), (us, .inl ((ct 3), 8, .inr (.inr (.inr (.inr fu))))), (hu, .inr (1, [.int nb, .int sd, .int uw, .long (lN uo), .long ul, .long (lN uv), .int uf, .int u1, .int u2, .int u3])), (qo, .inl ((ct 1), 1, .inr (.inl og)))] s.heap := hP
  have hl := lv_entry ([.ref hd, .int (nI k), .int wy, .long se, .ref qo]) (n := 7) (Nat.le_of_ble_eq_true rfl)
  rw [lg_entry_eq]
  generalize (lg_sl ([.ref hd, .int (nI k), .int wy, .long se, .ref qo]) ++ List.replicate (7 - (lg_sl ([.ref hd, .int (nI k), .int wy, .long se, .ref qo])).length) Slot.unset).toArray = ls at hl ⊢
  have hl : lv_has ls 7 [(0, .ref hd), (1, .int (nI k)), (2, .int wy), (3, .long se), (5, .ref qo)] := hl
  refine lv_aload hx hb d_L_server_0 (lv_at hl 4 rfl) ?_
  refine lv_iconst (v := 0) hx hb d_L_server_2 (by decide) ?_
  refine lv_aload_n hx hb d_L_server_3 rfl (lv_at hl 0 rfl) ?_
  refine lv_iload_n hx hb d_L_server_4 rfl (lv_at hl 1 rfl) ?_
  refine lv_iload_n hx hb d_L_server_5 rfl (lv_at hl 2 rfl) ?_
  refine lv_lload_n hx hb d_L_server_6 rfl (lv_at hl 3 rfl) ?_
  have hPc : va_P G classes [(hd, .inr (0, [.ref us, .ref op, .int (nI n), .int ck])), (us, .inl ((ct 3), 8, .inr (.inr (.inr (.inr fu))))), (hu, .inr (1, [.int nb, .int sd, .int uw, .long (lN uo), .long ul, .long (lN uv), .int uf, .int u1, .int u2, .int u3]))] s.heap := hP.sub [0, 1, 2] rfl
  have hDc := hD.sub (ws' := [(hd, .inr (0, [.ref us, .ref op, .int (nI n), .int ck])), (us, .inl ((ct 3), 8, .inr (.inr (.inr (.inr fu))))), (hu, .inr (1, [.int nb, .int sd, .int uw, .long (lN uo), .long ul, .long (lN uv), .int uf, .int u1, .int u2, .int u3]))]) [0, 1, 2] (by decide) rfl
  refine wk_catch (As := [.int (nI k), .int wy, .long se]) (rest := [.int 0, .ref qo]) ⟨hx, hb, hml, hown, hts⟩ (c_D_server3 l hfl G ct s.heap.size hd us op n ck fu hu k nb sd uw uo ul uv uf u1 u2 u3 wy se hk hfu hwi hn hbl) (tb_V hw cy_D_server ww_379 ww_380 ww_381 rfl rfl ⟨Nat.le_of_ble_eq_true rfl, Nat.le_of_ble_eq_true rfl⟩) (wk_preV4 (ci := 0) (q0 := 0) hPc hK hDc hD hS hA [0, 1, 2] rfl hZ hR rfl rfl) rfl hl.1 rfl (lv_room (Nat.le_of_ble_eq_true rfl)) d_L_server_7 ⟨Nat.le_of_ble_eq_true rfl, Nat.le_of_ble_eq_true rfl⟩ hP hD hS hA [0, 1, 2] (by decide) rfl (by simp only [List.map_cons, List.map_nil]) hown [⟨0, 12, 15, 13⟩] ⟨0, 12, 19, 15⟩ [] ((ct_tab htab).trans rfl) (hc_c ⟨rfl, by decide, "java/lang/IllegalArgumentException", hw _ ww_186, hN.1⟩ (fun _ h => nomatch h)) rfl (by decide) (hw _ ww_187) (hK.2.use wf_263) (fun x9 H locs hP hD hS => ?_)
  have hP : va_P G classes [(hd, .inr (0, [.ref us, .ref op, .int (nI n), .int ck])), (us, .inl ((ct 3), 8, .inr (.inr (.inr (.inr fu))))), (hu, .inr (1, [.int nb, .int sd, .int uw, .long (lN uo), .long ul, .long (lN uv), .int uf, .int u1, .int u2, .int u3])), (qo, .inl ((ct 1), 1, .inr (.inl og)))] H := hP
  have hD : va_D A [(hd, .inr (0, [.ref us, .ref op, .int (nI n), .int ck])), (us, .inl ((ct 3), 8, .inr (.inr (.inr (.inr fu))))), (hu, .inr (1, [.int nb, .int sd, .int uw, .long (lN uo), .long ul, .long (lN uv), .int uf, .int u1, .int u2, .int u3])), (qo, .inl ((ct 1), 1, .inr (.inl og)))] := hD
  refine lv_astore (lv' := [(6, .ref x9), (0, .ref hd), (1, .int (nI k)), (2, .int wy), (3, .long se), (5, .ref qo)]) hx hb d_L_server_19 hl (Nat.le_of_ble_eq_true rfl) rfl (fun ls hl => ?_)
  refine lv_iconst (v := 2) hx hb d_L_server_21 (by decide) ?_
  refine W.widen (k := 1) (n := 6) (Nat.le_of_ble_eq_true rfl) (Nat.le_of_ble_eq_true rfl) ?_
  exact W.iret (v := 2) hx hb hr (fun t ht hW => ⟨⟨(), ⟨rfl, trivial⟩, by rw [ht]; exact hP, hD⟩, hS.F ht⟩) hS.2.2 d_L_server_22
