theorem ww_5 : (Jvm.Cond.initialized "PakeDesk$Numbers") ∈ gt_tbl := gt_m (List.mem_append_right _ (List.mem_append_left _ (List.mem_of_getElem? (i := 5) (by decide +kernel)))) (by decide)
theorem ww_116 : (Jvm.Cond.constantLong "PakeDesk$Numbers" (26 : Nat) (1073741788 : Int64)) ∈ gt_tbl := gt_m (List.mem_append_right _ (List.mem_append_left _ (List.mem_of_getElem? (i := 116) (by decide +kernel)))) (by decide)
theorem ww_127 : (Jvm.Cond.static ({ cls := "PakeDesk$Numbers", name := "power", desc := "(JJ)J" } : Jvm.MethodName)) ∈ gt_tbl := gt_m (List.mem_append_right _ (List.mem_append_left _ (List.mem_of_getElem? (i := 127) (by decide +kernel)))) (by decide)
theorem ww_128 : (Jvm.Cond.code ({ cls := "PakeDesk$Numbers", name := "power", desc := "(JJ)J" } : Jvm.MethodName) prog_4_method_3_code (7 : Nat) (Option.some Jvm.ClassFile.FieldType.long)) ∈ gt_tbl := gt_m (List.mem_append_right _ (List.mem_append_left _ (List.mem_of_getElem? (i := 128) (by decide +kernel)))) (by decide)
theorem ww_129 : (Jvm.Cond.constantLong "PakeDesk$Numbers" (9 : Nat) (2147483579 : Int64)) ∈ gt_tbl := gt_m (List.mem_append_right _ (List.mem_append_left _ (List.mem_of_getElem? (i := 129) (by decide +kernel)))) (by decide)
theorem ww_292 : (Jvm.Cond.static ({ cls := "PakeDesk$Numbers", name := "times", desc := "(JJ)J" } : Jvm.MethodName)) ∈ gt_tbl := gt_m (List.mem_append_right _ (List.mem_append_right _ (List.mem_append_left _ (List.mem_of_getElem? (i := 52) (by decide +kernel))))) (by decide)
theorem ww_293 : (Jvm.Cond.code ({ cls := "PakeDesk$Numbers", name := "times", desc := "(JJ)J" } : Jvm.MethodName) prog_4_method_2_code (4 : Nat) (Option.some Jvm.ClassFile.FieldType.long)) ∈ gt_tbl := gt_m (List.mem_append_right _ (List.mem_append_right _ (List.mem_append_left _ (List.mem_of_getElem? (i := 53) (by decide +kernel))))) (by decide)
theorem ww_457 : (Jvm.Cond.static ({ cls := "PakeDesk$Numbers", name := "isBetweenZeroAndP", desc := "(J)Z" } : Jvm.MethodName)) ∈ gt_tbl := gt_m (List.mem_append_right _ (List.mem_append_right _ (List.mem_append_left _ (List.mem_of_getElem? (i := 217) (by decide +kernel))))) (by decide)
theorem ww_458 : (Jvm.Cond.code ({ cls := "PakeDesk$Numbers", name := "isBetweenZeroAndP", desc := "(J)Z" } : Jvm.MethodName) prog_4_method_5_code (2 : Nat) (Option.some Jvm.ClassFile.FieldType.boolean)) ∈ gt_tbl := gt_m (List.mem_append_right _ (List.mem_append_right _ (List.mem_append_left _ (List.mem_of_getElem? (i := 218) (by decide +kernel))))) (by decide)
theorem ww_459 : (Jvm.Cond.constantLong "PakeDesk$Numbers" (20 : Nat) (2147483578 : Int64)) ∈ gt_tbl := gt_m (List.mem_append_right _ (List.mem_append_right _ (List.mem_append_left _ (List.mem_of_getElem? (i := 219) (by decide +kernel))))) (by decide)
theorem ww_463 : (Jvm.Cond.methodLink "PakeDesk$Numbers" (22 : Nat) ({ cls := "PakeDesk$Numbers", name := "isBetweenZeroAndP", desc := "(J)Z" } : Jvm.MethodName)) ∈ gt_tbl := gt_m (List.mem_append_right _ (List.mem_append_right _ (List.mem_append_left _ (List.mem_of_getElem? (i := 223) (by decide +kernel))))) (by decide)
theorem ww_464 : (Jvm.Cond.constantLong "PakeDesk$Numbers" (11 : Nat) (1073741789 : Int64)) ∈ gt_tbl := gt_m (List.mem_append_right _ (List.mem_append_right _ (List.mem_append_left _ (List.mem_of_getElem? (i := 224) (by decide +kernel))))) (by decide)
theorem ww_465 : (Jvm.Cond.methodLink "PakeDesk$Numbers" (13 : Nat) ({ cls := "PakeDesk$Numbers", name := "power", desc := "(JJ)J" } : Jvm.MethodName)) ∈ gt_tbl := gt_m (List.mem_append_right _ (List.mem_append_right _ (List.mem_append_left _ (List.mem_of_getElem? (i := 225) (by decide +kernel))))) (by decide)
theorem ww_476 : (Jvm.Cond.methodLink "PakeDesk$Numbers" (17 : Nat) ({ cls := "PakeDesk$Numbers", name := "times", desc := "(JJ)J" } : Jvm.MethodName)) ∈ gt_tbl := gt_m (List.mem_append_right _ (List.mem_append_right _ (List.mem_append_left _ (List.mem_of_getElem? (i := 236) (by decide +kernel))))) (by decide)
theorem cy_N_power : tb_C my_N_power mb_N_power 7 (some .long) 2 := ⟨ww_128, ww_5, by decide, by decide, by decide +kernel⟩
theorem cy_N_times : tb_C my_N_times mb_N_times 4 (some .long) 2 := ⟨ww_293, ww_5, by decide, by decide, by decide +kernel⟩
theorem cy_N_isBetweenZeroAndP : tb_C my_N_isBetweenZeroAndP mb_N_isBetweenZeroAndP 2 (some .boolean) 1 := ⟨ww_458, ww_5, by decide, by decide, by decide +kernel⟩
theorem d_N_times_0 : decode mb_N_times 0 = .ok (.lload_n 0, 1) := by decide +kernel
theorem d_N_times_1 : decode mb_N_times 1 = .ok (.lload_n 2, 1) := by decide +kernel
theorem d_N_times_2 : decode mb_N_times 2 = .ok (.lmul, 1) := by decide +kernel
theorem d_N_times_3 : decode mb_N_times 3 = .ok (.ldc2_w 9, 3) := by decide +kernel
theorem d_N_times_6 : decode mb_N_times 6 = .ok (.lrem, 1) := by decide +kernel
theorem d_N_times_7 : decode mb_N_times 7 = .ok (.lreturn, 1) := by decide +kernel
theorem d_N_power_0 : decode mb_N_power 0 = .ok (.lconst 1, 1) := by decide +kernel
theorem d_N_power_1 : decode mb_N_power 1 = .ok (.lstore 4, 2) := by decide +kernel
theorem d_N_power_3 : decode mb_N_power 3 = .ok (.bipush 29, 2) := by decide +kernel
theorem d_N_power_5 : decode mb_N_power 5 = .ok (.istore 6, 2) := by decide +kernel
theorem d_N_power_7 : decode mb_N_power 7 = .ok (.iload 6, 2) := by decide +kernel
theorem d_N_power_9 : decode mb_N_power 9 = .ok (.ifCond .lt 41, 3) := by decide +kernel
theorem d_N_power_12 : decode mb_N_power 12 = .ok (.lload 4, 2) := by decide +kernel
theorem d_N_power_14 : decode mb_N_power 14 = .ok (.lload 4, 2) := by decide +kernel
theorem d_N_power_16 : decode mb_N_power 16 = .ok (.lmul, 1) := by decide +kernel
theorem d_N_power_17 : decode mb_N_power 17 = .ok (.ldc2_w 9, 3) := by decide +kernel
theorem d_N_power_20 : decode mb_N_power 20 = .ok (.lrem, 1) := by decide +kernel
theorem d_N_power_21 : decode mb_N_power 21 = .ok (.lstore 4, 2) := by decide +kernel
theorem d_N_power_23 : decode mb_N_power 23 = .ok (.lload_n 2, 1) := by decide +kernel
theorem d_N_power_24 : decode mb_N_power 24 = .ok (.iload 6, 2) := by decide +kernel
theorem d_N_power_26 : decode mb_N_power 26 = .ok (.lushr, 1) := by decide +kernel
theorem d_N_power_27 : decode mb_N_power 27 = .ok (.lconst 1, 1) := by decide +kernel
theorem d_N_power_28 : decode mb_N_power 28 = .ok (.land, 1) := by decide +kernel
theorem d_N_power_29 : decode mb_N_power 29 = .ok (.lconst 1, 1) := by decide +kernel
theorem d_N_power_30 : decode mb_N_power 30 = .ok (.lcmp, 1) := by decide +kernel
theorem d_N_power_31 : decode mb_N_power 31 = .ok (.ifCond .ne 13, 3) := by decide +kernel
theorem d_N_power_34 : decode mb_N_power 34 = .ok (.lload 4, 2) := by decide +kernel
theorem d_N_power_36 : decode mb_N_power 36 = .ok (.lload_n 0, 1) := by decide +kernel
theorem d_N_power_37 : decode mb_N_power 37 = .ok (.lmul, 1) := by decide +kernel
theorem d_N_power_38 : decode mb_N_power 38 = .ok (.ldc2_w 9, 3) := by decide +kernel
theorem d_N_power_41 : decode mb_N_power 41 = .ok (.lrem, 1) := by decide +kernel
theorem d_N_power_42 : decode mb_N_power 42 = .ok (.lstore 4, 2) := by decide +kernel
theorem d_N_power_44 : decode mb_N_power 44 = .ok (.iinc 6 (-1), 3) := by decide +kernel
theorem d_N_power_47 : decode mb_N_power 47 = .ok (.goto (-40), 3) := by decide +kernel
theorem d_N_power_50 : decode mb_N_power 50 = .ok (.lload 4, 2) := by decide +kernel
theorem d_N_power_52 : decode mb_N_power 52 = .ok (.lreturn, 1) := by decide +kernel
theorem d_N_overPower_0 : decode mb_N_overPower 0 = .ok (.lload_n 0, 1) := by decide +kernel
theorem d_N_overPower_1 : decode mb_N_overPower 1 = .ok (.lload_n 2, 1) := by decide +kernel
theorem d_N_overPower_2 : decode mb_N_overPower 2 = .ok (.ldc2_w 11, 3) := by decide +kernel
theorem d_N_overPower_5 : decode mb_N_overPower 5 = .ok (.lload 4, 2) := by decide +kernel
theorem d_N_overPower_7 : decode mb_N_overPower 7 = .ok (.lsub, 1) := by decide +kernel
theorem d_N_overPower_8 : decode mb_N_overPower 8 = .ok (.invokestatic 13, 3) := by decide +kernel
theorem d_N_overPower_11 : decode mb_N_overPower 11 = .ok (.invokestatic 17, 3) := by decide +kernel
theorem d_N_overPower_14 : decode mb_N_overPower 14 = .ok (.lreturn, 1) := by decide +kernel
theorem d_N_isBetweenZeroAndP_0 : decode mb_N_isBetweenZeroAndP 0 = .ok (.lload_n 0, 1) := by decide +kernel
theorem d_N_isBetweenZeroAndP_1 : decode mb_N_isBetweenZeroAndP 1 = .ok (.lconst 1, 1) := by decide +kernel
theorem d_N_isBetweenZeroAndP_2 : decode mb_N_isBetweenZeroAndP 2 = .ok (.lcmp, 1) := by decide +kernel
theorem d_N_isBetweenZeroAndP_3 : decode mb_N_isBetweenZeroAndP 3 = .ok (.ifCond .lt 15, 3) := by decide +kernel
theorem d_N_isBetweenZeroAndP_6 : decode mb_N_isBetweenZeroAndP 6 = .ok (.lload_n 0, 1) := by decide +kernel
theorem d_N_isBetweenZeroAndP_7 : decode mb_N_isBetweenZeroAndP 7 = .ok (.ldc2_w 20, 3) := by decide +kernel
theorem d_N_isBetweenZeroAndP_10 : decode mb_N_isBetweenZeroAndP 10 = .ok (.lcmp, 1) := by decide +kernel
theorem d_N_isBetweenZeroAndP_11 : decode mb_N_isBetweenZeroAndP 11 = .ok (.ifCond .gt 7, 3) := by decide +kernel
theorem d_N_isBetweenZeroAndP_14 : decode mb_N_isBetweenZeroAndP 14 = .ok (.iconst 1, 1) := by decide +kernel
theorem d_N_isBetweenZeroAndP_15 : decode mb_N_isBetweenZeroAndP 15 = .ok (.goto 4, 3) := by decide +kernel
theorem d_N_isBetweenZeroAndP_18 : decode mb_N_isBetweenZeroAndP 18 = .ok (.iconst 0, 1) := by decide +kernel
theorem d_N_isBetweenZeroAndP_19 : decode mb_N_isBetweenZeroAndP 19 = .ok (.ireturn, 1) := by decide +kernel
theorem d_N_isElement_0 : decode mb_N_isElement 0 = .ok (.lload_n 0, 1) := by decide +kernel
theorem d_N_isElement_1 : decode mb_N_isElement 1 = .ok (.invokestatic 22, 3) := by decide +kernel
theorem d_N_isElement_4 : decode mb_N_isElement 4 = .ok (.ifCond .eq 19, 3) := by decide +kernel
theorem d_N_isElement_7 : decode mb_N_isElement 7 = .ok (.lload_n 0, 1) := by decide +kernel
theorem d_N_isElement_8 : decode mb_N_isElement 8 = .ok (.ldc2_w 11, 3) := by decide +kernel
theorem d_N_isElement_11 : decode mb_N_isElement 11 = .ok (.invokestatic 13, 3) := by decide +kernel
theorem d_N_isElement_14 : decode mb_N_isElement 14 = .ok (.lconst 1, 1) := by decide +kernel
theorem d_N_isElement_15 : decode mb_N_isElement 15 = .ok (.lcmp, 1) := by decide +kernel
theorem d_N_isElement_16 : decode mb_N_isElement 16 = .ok (.ifCond .ne 7, 3) := by decide +kernel
theorem d_N_isElement_19 : decode mb_N_isElement 19 = .ok (.iconst 1, 1) := by decide +kernel
theorem d_N_isElement_20 : decode mb_N_isElement 20 = .ok (.goto 4, 3) := by decide +kernel
theorem d_N_isElement_23 : decode mb_N_isElement 23 = .ok (.iconst 0, 1) := by decide +kernel
theorem d_N_isElement_24 : decode mb_N_isElement 24 = .ok (.ireturn, 1) := by decide +kernel
theorem d_N_scalar_0 : decode mb_N_scalar 0 = .ok (.lload_n 0, 1) := by decide +kernel
theorem d_N_scalar_1 : decode mb_N_scalar 1 = .ok (.iconst 1, 1) := by decide +kernel
theorem d_N_scalar_2 : decode mb_N_scalar 2 = .ok (.lushr, 1) := by decide +kernel
theorem d_N_scalar_3 : decode mb_N_scalar 3 = .ok (.ldc2_w 26, 3) := by decide +kernel
theorem d_N_scalar_6 : decode mb_N_scalar 6 = .ok (.lrem, 1) := by decide +kernel
theorem d_N_scalar_7 : decode mb_N_scalar 7 = .ok (.lconst 1, 1) := by decide +kernel
theorem d_N_scalar_8 : decode mb_N_scalar 8 = .ok (.ladd, 1) := by decide +kernel
theorem d_N_scalar_9 : decode mb_N_scalar 9 = .ok (.lreturn, 1) := by decide +kernel
set_option maxHeartbeats 4000000 in
set_option maxRecDepth 100000 in
theorem c_N_times (l : Launch) (a b : Nat) (ha1 : a < pq_P) (hb1 : b < pq_P) : Met l my_N_times (tb_w my_N_times mb_N_times 4 (some .long)) ({ frames := 0, cells := 0, slots := 0, locals := 0 }) (fun av _ => av = [.long (lN a), .long (lN b)].toArray) (vp_Sl (fun r => r = lN (a * b % pq_P))) 0 0 (fun _ => False) := by
  refine Met.ofW (cc := mb_N_times) (maxL := 4) (ret := (some .long)) (by decide) rfl ?_
  intro p e s m args below meth c s₁ B hml hv
  subst hv
  have hx := B.exec
  have hb := B.bytes
  have hr := B.returns
  have hts := atoms_spec (ws := tb_w my_N_times mb_N_times 4 (some .long)) B.pre
  have hw : ∀ w ∈ gt_tbl, w.before [.long (lN a), .long (lN b)].toArray s = true := fun w h => hts w (List.mem_cons_of_mem _ h)
  have hown : s.vm.findClass cr_N = some m.cls := findClass_of_methodNamed B.named
  have hlocks := B.notSynchronized
  have hl := lv_entry ([.long (lN a), .long (lN b)]) (n := 4) (Nat.le_of_ble_eq_true rfl)
  rw [lg_entry_eq]
  generalize (lg_sl ([.long (lN a), .long (lN b)]) ++ List.replicate (4 - (lg_sl ([.long (lN a), .long (lN b)])).length) Slot.unset).toArray = ls at hl ⊢
  have hl : lv_has ls 4 [(0, .long (lN a)), (2, .long (lN b))] := hl
  refine lv_lload_n hx hb d_N_times_0 rfl (lv_at hl 0 rfl) ?_
  refine lv_lload_n hx hb d_N_times_1 rfl (lv_at hl 1 rfl) ?_
  refine lv_lmul hx hb d_N_times_2 ?_
  refine lv_ldc2 (v := 2147483579) hx hb hown (hw _ ww_129) d_N_times_3 ?_
  refine lv_lrem hx hb d_N_times_6 (by decide) ?_
  exact W.lret (v := ((lN a) * (lN b)) - ((lN a) * (lN b)) / 2147483579 * 2147483579) hx hb hr (fun t ht hW => ⟨((lN a) * (lN b)) - ((lN a) * (lN b)) / 2147483579 * 2147483579, rfl, ln_mulP ha1 hb1, ht⟩) (fun q h => nomatch h) d_N_times_7
set_option maxHeartbeats 4000000 in
set_option maxRecDepth 100000 in
theorem c_N_scalar (l : Launch) (x1 : Int64) : Met l my_N_scalar (tb_w my_N_scalar mb_N_scalar 2 (some .long)) ({ frames := 0, cells := 0, slots := 0, locals := 0 }) (fun av _ => av = [.long x1].toArray) (vp_Sl (fun r => r = lN (sc_n x1))) 0 0 (fun _ => False) := by
  refine Met.ofW (cc := mb_N_scalar) (maxL := 2) (ret := (some .long)) (by decide) rfl ?_
  intro p e s m args below meth c s₁ B hml hv
  subst hv
  have hx := B.exec
  have hb := B.bytes
  have hr := B.returns
  have hts := atoms_spec (ws := tb_w my_N_scalar mb_N_scalar 2 (some .long)) B.pre
  have hw : ∀ w ∈ gt_tbl, w.before [.long x1].toArray s = true := fun w h => hts w (List.mem_cons_of_mem _ h)
  have hown : s.vm.findClass cr_N = some m.cls := findClass_of_methodNamed B.named
  have hlocks := B.notSynchronized
  have hl := lv_entry ([.long x1]) (n := 2) (Nat.le_of_ble_eq_true rfl)
  rw [lg_entry_eq]
  generalize (lg_sl ([.long x1]) ++ List.replicate (2 - (lg_sl ([.long x1])).length) Slot.unset).toArray = ls at hl ⊢
  have hl : lv_has ls 2 [(0, .long x1)] := hl
  refine lv_lload_n hx hb d_N_scalar_0 rfl (lv_at hl 0 rfl) ?_
  refine lv_iconst (v := 1) hx hb d_N_scalar_1 (by decide) ?_
  refine lv_lushr (v := dg_sh x1 1) hx hb d_N_scalar_2 rfl ?_
  refine lv_ldc2 (v := 1073741788) hx hb hown (hw _ ww_116) d_N_scalar_3 ?_
  refine lv_lrem hx hb d_N_scalar_6 (by decide) ?_
  refine lv_lconst (v := 1) hx hb d_N_scalar_7 (by decide) ?_
  refine lv_ladd hx hb d_N_scalar_8 ?_
  exact W.lret (v := ((dg_sh x1 1) - (dg_sh x1 1) / 1073741788 * 1073741788) + 1) hx hb hr (fun t ht hW => ⟨((dg_sh x1 1) - (dg_sh x1 1) / 1073741788 * 1073741788) + 1, rfl, ln_sc x1, ht⟩) (fun q h => nomatch h) d_N_scalar_9
set_option maxHeartbeats 4000000 in
set_option maxRecDepth 100000 in
theorem c_N_power (l : Launch) (b ex : Nat) (hb1 : b < pq_P) (he1 : ex < 2 ^ 30) : Met l my_N_power (tb_w my_N_power mb_N_power 7 (some .long)) ({ frames := 0, cells := 0, slots := 0, locals := 0 }) (fun av _ => av = [.long (lN b), .long (lN ex)].toArray) (vp_Sl (fun r => r = lN (pw_m b ex))) 0 0 (fun _ => False) := by
  refine Met.ofW (cc := mb_N_power) (maxL := 7) (ret := (some .long)) (by decide) rfl ?_
  intro p e s m args below meth c s₁ B hml hv
  subst hv
  have hx := B.exec
  have hb := B.bytes
  have hr := B.returns
  have hts := atoms_spec (ws := tb_w my_N_power mb_N_power 7 (some .long)) B.pre
  have hw : ∀ w ∈ gt_tbl, w.before [.long (lN b), .long (lN ex)].toArray s = true := fun w h => hts w (List.mem_cons_of_mem _ h)
  have hown : s.vm.findClass cr_N = some m.cls := findClass_of_methodNamed B.named
  have hlocks := B.notSynchronized
  have hl := lv_entry ([.long (lN b), .long (lN ex)]) (n := 7) (Nat.le_of_ble_eq_true rfl)
  rw [lg_entry_eq]
  generalize (lg_sl ([.long (lN b), .long (lN ex)]) ++ List.replicate (7 - (lg_sl ([.long (lN b), .long (lN ex)])).length) Slot.unset).toArray = ls at hl ⊢
  have hl : lv_has ls 7 [(0, .long (lN b)), (2, .long (lN ex))] := hl
  refine lv_lconst (v := 1) hx hb d_N_power_0 (by decide) ?_
  refine lv_lstore (lv' := [(4, .long 1), (0, .long (lN b)), (2, .long (lN ex))]) hx hb d_N_power_1 hl (Nat.le_of_ble_eq_true rfl) rfl (fun ls hl => ?_)
  refine lv_bipush (v := 29) hx hb d_N_power_3 (by decide) ?_
  refine lv_istore (lv' := [(6, .int 29), (4, .long 1), (0, .long (lN b)), (2, .long (lN ex))]) hx hb d_N_power_5 hl (Nat.le_of_ble_eq_true rfl) rfl (fun ls hl => ?_)
  have hl : lv_has ls 7 [(6, .int (nI 30 - 1)), (4, .long (lN (pw_m b (ex / 2 ^ 30)))), (0, .long (lN b)), (2, .long (lN ex))] := by
    rw [show ex / 2 ^ 30 = 0 from Nat.div_eq_of_lt he1, pw_0]; exact hl
  have key : ∀ (k : Nat), k ≤ 30 → ∀ ls : Array Slot, lv_has ls 7 [(6, .int (nI k - 1)), (4, .long (lN (pw_m b (ex / 2 ^ k)))), (0, .long (lN b)), (2, .long (lN ex))] → W p l e (headSpec (tb_w my_N_power mb_N_power 7 (some .long)) ({ frames := 0, cells := 0, slots := 0, locals := 0 })).room s m [.long (lN b), .long (lN ex)].toArray below meth c s.heap [] 0 0 (MQ below (vp_Sl (fun r => r = lN (pw_m b ex))) [.long (lN b), .long (lN ex)].toArray s 0 0 (fun _ => False)) (F0 m 7 ls []) := by
    intro k
    induction k with
    | zero =>
      intro _ ls hl
      refine lv_iload hx hb d_N_power_7 (lv_at hl 0 rfl) ?_
      refine lv_if_lt (tgt := 50) hx hb d_N_power_9 (by decide) (fun h32 => ?_) (fun h32 => ?_)
      · refine lv_lload hx hb d_N_power_50 (lv_at hl 1 rfl) ?_
        exact W.lret (v := lN (pw_m b (ex / 2 ^ 0))) hx hb hr (fun t ht hW => ⟨lN (pw_m b (ex / 2 ^ 0)), rfl, by rw [Nat.pow_zero, Nat.div_one], ht⟩) (fun q h => nomatch h) d_N_power_52
      · exact absurd (by decide) h32
    | succ k ih =>
      intro hk ls hl
      rw [nI_pred] at hl
      refine lv_iload hx hb d_N_power_7 (lv_at hl 0 rfl) ?_
      refine lv_if_lt (tgt := 50) hx hb d_N_power_9 (by decide) (fun h33 => ?_) (fun h33 => ?_)
      · exact absurd h33 (nI_pos (by omega))
      · refine lv_lload hx hb d_N_power_12 (lv_at hl 1 rfl) ?_
        refine lv_lload hx hb d_N_power_14 (lv_at hl 1 rfl) ?_
        refine lv_lmul hx hb d_N_power_16 ?_
        refine lv_ldc2 (v := 2147483579) hx hb hown (hw _ ww_129) d_N_power_17 ?_
        refine lv_lrem hx hb d_N_power_20 (by decide) ?_
        refine tp_l (ln_mulP (pw_lt _ _) (pw_lt _ _)) ?_
        refine tp_l (congrArg lN (pw_sq b (ex / 2 ^ (k + 1)))) ?_
        refine lv_lstore (lv' := [(4, .long (lN (pw_m b (2 * (ex / 2 ^ (k + 1)))))), (6, .int (nI k)), (0, .long (lN b)), (2, .long (lN ex))]) hx hb d_N_power_21 hl (Nat.le_of_ble_eq_true rfl) rfl (fun ls hl => ?_)
        refine lv_lload_n hx hb d_N_power_23 rfl (lv_at hl 3 rfl) ?_
        refine lv_iload hx hb d_N_power_24 (lv_at hl 1 rfl) ?_
        refine lv_lushr (v := dg_sh (lN ex) (nI k)) hx hb d_N_power_26 rfl ?_
        refine lv_lconst (v := 1) hx hb d_N_power_27 (by decide) ?_
        refine lv_land hx hb d_N_power_28 ?_
        refine tp_l (ln_bit ex k (by omega) (by omega)) ?_
        refine lv_lconst (v := 1) hx hb d_N_power_29 (by decide) ?_
        refine W.lcmp hx hb d_N_power_30 ?_
        refine lv_if_ne (tgt := 44) hx hb d_N_power_31 (by decide) (fun h34 => ?_) (fun h34 => ?_)
        · have h34 := fun q => h34 ((lg_cmp_eq _ _).mpr q)
          have hbit : ex / 2 ^ k = 2 * (ex / 2 ^ (k + 1)) := pw_b0 (by rw [← pk_lEQ (by omega) (by decide)]; exact h34)
          refine lv_iinc (k := 1) (v := nI k - 1) (lv' := [(6, .int (nI k - 1)), (4, .long (lN (pw_m b (2 * (ex / 2 ^ (k + 1)))))), (0, .long (lN b)), (2, .long (lN ex))]) hx hb d_N_power_44 hl rfl (by rw [Int32.sub_eq_add_neg]; rfl) (Nat.le_of_ble_eq_true rfl) rfl (fun ls hl => ?_)
          refine lv_goto (tgt := 7) hx hb d_N_power_47 (by decide) ?_
          refine ih (by omega) ls ?_
          rw [hbit]
          exact lv_sub hl [0, 1, 2, 3] rfl
        · have h34 := (lg_cmp_eq _ _).mp h34
          have hbit : ex / 2 ^ k = 2 * (ex / 2 ^ (k + 1)) + 1 := pw_b1 (by rw [← pk_lEQ (by omega) (by decide)]; exact h34)
          refine lv_lload hx hb d_N_power_34 (lv_at hl 0 rfl) ?_
          refine lv_lload_n hx hb d_N_power_36 rfl (lv_at hl 2 rfl) ?_
          refine lv_lmul hx hb d_N_power_37 ?_
          refine lv_ldc2 (v := 2147483579) hx hb hown (hw _ ww_129) d_N_power_38 ?_
          refine lv_lrem hx hb d_N_power_41 (by decide) ?_
          refine tp_l (ln_mulP (pw_lt _ _) hb1) ?_
          refine tp_l (congrArg lN (pw_s1 b (2 * (ex / 2 ^ (k + 1))))) ?_
          refine lv_lstore (lv' := [(4, .long (lN (pw_m b (2 * (ex / 2 ^ (k + 1)) + 1)))), (6, .int (nI k)), (0, .long (lN b)), (2, .long (lN ex))]) hx hb d_N_power_42 hl (Nat.le_of_ble_eq_true rfl) rfl (fun ls hl => ?_)
          refine lv_iinc (k := 1) (v := nI k - 1) (lv' := [(6, .int (nI k - 1)), (4, .long (lN (pw_m b (2 * (ex / 2 ^ (k + 1)) + 1)))), (0, .long (lN b)), (2, .long (lN ex))]) hx hb d_N_power_44 hl rfl (by rw [Int32.sub_eq_add_neg]; rfl) (Nat.le_of_ble_eq_true rfl) rfl (fun ls hl => ?_)
          refine lv_goto (tgt := 7) hx hb d_N_power_47 (by decide) ?_
          refine ih (by omega) ls ?_
          rw [hbit]
          exact lv_sub hl [0, 1, 2, 3] rfl
  exact key 30 (Nat.le_refl _) ls hl
set_option maxHeartbeats 4000000 in
set_option maxRecDepth 100000 in
theorem c_N_overPower (l : Launch) (a b wo : Nat) (ha1 : a < pq_P) (hb1 : b < pq_P) (hw0 : 1 ≤ wo) (hw1 : wo < pq_Q) : Met l my_N_overPower (tb_w my_N_overPower mb_N_overPower 6 (some .long)) ({ frames := 1, cells := 0, slots := 0, locals := 26 }) (fun av _ => av = [.long (lN a), .long (lN b), .long (lN wo)].toArray) (vp_Sl (fun r => r = lN (a * pw_m b (pq_Q - wo) % pq_P))) 0 0 (fun _ => False) := by
  refine Met.ofW (cc := mb_N_overPower) (maxL := 6) (ret := (some .long)) (by decide) rfl ?_
  intro p e s m args below meth c s₁ B hml hv
  subst hv
  have hx := B.exec
  have hb := B.bytes
  have hr := B.returns
  have hts := atoms_spec (ws := tb_w my_N_overPower mb_N_overPower 6 (some .long)) B.pre
  have hw : ∀ w ∈ gt_tbl, w.before [.long (lN a), .long (lN b), .long (lN wo)].toArray s = true := fun w h => hts w (List.mem_cons_of_mem _ h)
  have hown : s.vm.findClass cr_N = some m.cls := findClass_of_methodNamed B.named
  have hlocks := B.notSynchronized
  have hl := lv_entry ([.long (lN a), .long (lN b), .long (lN wo)]) (n := 6) (Nat.le_of_ble_eq_true rfl)
  rw [lg_entry_eq]
  generalize (lg_sl ([.long (lN a), .long (lN b), .long (lN wo)]) ++ List.replicate (6 - (lg_sl ([.long (lN a), .long (lN b), .long (lN wo)])).length) Slot.unset).toArray = ls at hl ⊢
  have hl : lv_has ls 6 [(0, .long (lN a)), (2, .long (lN b)), (4, .long (lN wo))] := hl
  have hq1 : pq_Q - wo < 2 ^ 30 := by unfold pq_Q; omega
  refine lv_lload_n hx hb d_N_overPower_0 rfl (lv_at hl 0 rfl) ?_
  refine lv_lload_n hx hb d_N_overPower_1 rfl (lv_at hl 1 rfl) ?_
  refine lv_ldc2 (v := 1073741789) hx hb hown (hw _ ww_464) d_N_overPower_2 ?_
  refine lv_lload hx hb d_N_overPower_5 (lv_at hl 2 rfl) ?_
  refine lv_lsub hx hb d_N_overPower_7 ?_
  refine tp_l (ln_Qs (Nat.le_of_lt hw1)) ?_
  refine vp_callSl (W.runS (As := [.long (lN b), .long (lN (pq_Q - wo))]) (rest := [.long (lN a)]) ⟨hx, hb, hml, hown, hts⟩ (c_N_power l b (pq_Q - wo) (by first | assumption | exact pw_lt _ _ | exact Nat.mod_lt _ pq_pos | exact qs_P (by assumption) | decide) (by first | assumption | exact sc_30 _ | exact qs_30 (by assumption) | exact qz_lt _ | decide | omega)) (tb_S hw cy_N_power ww_465 ww_127 rfl rfl ⟨Nat.le_of_ble_eq_true rfl, Nat.le_of_ble_eq_true rfl⟩) preEq rfl rfl hl.1 rfl (lv_room (Nat.le_of_ble_eq_true rfl)) d_N_overPower_8 ⟨Nat.le_of_ble_eq_true rfl, Nat.le_of_ble_eq_true rfl⟩) (fun r35 er35 => ?_)
  subst er35
  refine vp_callSl (W.runS (As := [.long (lN a), .long (lN (pw_m b (pq_Q - wo)))]) (rest := []) ⟨hx, hb, hml, hown, hts⟩ (c_N_times l a (pw_m b (pq_Q - wo)) (by first | assumption | exact pw_lt _ _ | exact Nat.mod_lt _ pq_pos | exact qs_P (by assumption) | decide) (by first | assumption | exact pw_lt _ _ | exact Nat.mod_lt _ pq_pos | exact qs_P (by assumption) | decide)) (tb_S hw cy_N_times ww_476 ww_292 rfl rfl ⟨Nat.le_of_ble_eq_true rfl, Nat.le_of_ble_eq_true rfl⟩) preEq rfl rfl hl.1 rfl (lv_room (Nat.le_of_ble_eq_true rfl)) d_N_overPower_11 ⟨Nat.le_of_ble_eq_true rfl, Nat.le_of_ble_eq_true rfl⟩) (fun r36 er36 => ?_)
  subst er36
  exact W.lret (v := lN (a * (pw_m b (pq_Q - wo)) % pq_P)) hx hb hr (fun t ht hW => ⟨lN (a * (pw_m b (pq_Q - wo)) % pq_P), rfl, rfl, ht⟩) (fun q h => nomatch h) d_N_overPower_14
set_option maxHeartbeats 4000000 in
set_option maxRecDepth 100000 in
theorem c_N_between (l : Launch) (a : Int64) : Met l my_N_isBetweenZeroAndP (tb_w my_N_isBetweenZeroAndP mb_N_isBetweenZeroAndP 2 (some .boolean)) ({ frames := 0, cells := 0, slots := 0, locals := 0 }) (fun av _ => av = [.long a].toArray) (vp_Si (fun r => r = (if bt_w a then 1 else 0))) 0 0 (fun _ => False) := by
  refine Met.ofW (cc := mb_N_isBetweenZeroAndP) (maxL := 2) (ret := (some .boolean)) (by decide) rfl ?_
  intro p e s m args below meth c s₁ B hml hv
  subst hv
  have hx := B.exec
  have hb := B.bytes
  have hr := B.returns
  have hts := atoms_spec (ws := tb_w my_N_isBetweenZeroAndP mb_N_isBetweenZeroAndP 2 (some .boolean)) B.pre
  have hw : ∀ w ∈ gt_tbl, w.before [.long a].toArray s = true := fun w h => hts w (List.mem_cons_of_mem _ h)
  have hown : s.vm.findClass cr_N = some m.cls := findClass_of_methodNamed B.named
  have hlocks := B.notSynchronized
  have hl := lv_entry ([.long a]) (n := 2) (Nat.le_of_ble_eq_true rfl)
  rw [lg_entry_eq]
  generalize (lg_sl ([.long a]) ++ List.replicate (2 - (lg_sl ([.long a])).length) Slot.unset).toArray = ls at hl ⊢
  have hl : lv_has ls 2 [(0, .long a)] := hl
  refine lv_lload_n hx hb d_N_isBetweenZeroAndP_0 rfl (lv_at hl 0 rfl) ?_
  refine lv_lconst (v := 1) hx hb d_N_isBetweenZeroAndP_1 (by decide) ?_
  refine W.lcmp hx hb d_N_isBetweenZeroAndP_2 ?_
  refine lv_if_lt (tgt := 18) hx hb d_N_isBetweenZeroAndP_3 (by decide) (fun h37 => ?_) (fun h37 => ?_)
  · have h37 := (lg_cmp_lt _ _).mp h37
    refine lv_iconst (v := 0) hx hb d_N_isBetweenZeroAndP_18 (by decide) ?_
    exact W.zret (v := 0) (ty := .boolean) hx hb hr rfl (fun t ht hW => ⟨0, rfl, (by rw [if_neg (by first | exact bt_no1 (by assumption) | exact bt_no2 (by assumption))]), ht⟩) (fun q h => nomatch h) d_N_isBetweenZeroAndP_19
  · have h37 := fun q => h37 ((lg_cmp_lt _ _).mpr q)
    refine lv_lload_n hx hb d_N_isBetweenZeroAndP_6 rfl (lv_at hl 0 rfl) ?_
    refine lv_ldc2 (v := 2147483578) hx hb hown (hw _ ww_459) d_N_isBetweenZeroAndP_7 ?_
    refine W.lcmp hx hb d_N_isBetweenZeroAndP_10 ?_
    refine lv_if_gt (tgt := 18) hx hb d_N_isBetweenZeroAndP_11 (by decide) (fun h38 => ?_) (fun h38 => ?_)
    · have h38 := (lg_cmp_gt _ _).mp h38
      refine lv_iconst (v := 0) hx hb d_N_isBetweenZeroAndP_18 (by decide) ?_
      exact W.zret (v := 0) (ty := .boolean) hx hb hr rfl (fun t ht hW => ⟨0, rfl, (by rw [if_neg (by first | exact bt_no1 (by assumption) | exact bt_no2 (by assumption))]), ht⟩) (fun q h => nomatch h) d_N_isBetweenZeroAndP_19
    · have h38 := fun q => h38 ((lg_cmp_gt _ _).mpr q)
      refine lv_iconst (v := 1) hx hb d_N_isBetweenZeroAndP_14 (by decide) ?_
      refine lv_goto (tgt := 19) hx hb d_N_isBetweenZeroAndP_15 (by decide) ?_
      exact W.zret (v := 1) (ty := .boolean) hx hb hr rfl (fun t ht hW => ⟨1, rfl, (by rw [if_pos (bt_yes (by assumption) (by assumption))]), ht⟩) (fun q h => nomatch h) d_N_isBetweenZeroAndP_19
set_option maxHeartbeats 4000000 in
set_option maxRecDepth 100000 in
theorem c_N_element (l : Launch) (a : Int64) : Met l my_N_isElement (tb_w my_N_isElement mb_N_isElement 2 (some .boolean)) ({ frames := 1, cells := 0, slots := 0, locals := 26 }) (fun av _ => av = [.long a].toArray) (vp_Si (fun r => r = (if em_k a then 1 else 0))) 0 0 (fun _ => False) := by
  refine Met.ofW (cc := mb_N_isElement) (maxL := 2) (ret := (some .boolean)) (by decide) rfl ?_
  intro p e s m args below meth c s₁ B hml hv
  subst hv
  have hx := B.exec
  have hb := B.bytes
  have hr := B.returns
  have hts := atoms_spec (ws := tb_w my_N_isElement mb_N_isElement 2 (some .boolean)) B.pre
  have hw : ∀ w ∈ gt_tbl, w.before [.long a].toArray s = true := fun w h => hts w (List.mem_cons_of_mem _ h)
  have hown : s.vm.findClass cr_N = some m.cls := findClass_of_methodNamed B.named
  have hlocks := B.notSynchronized
  have hl := lv_entry ([.long a]) (n := 2) (Nat.le_of_ble_eq_true rfl)
  rw [lg_entry_eq]
  generalize (lg_sl ([.long a]) ++ List.replicate (2 - (lg_sl ([.long a])).length) Slot.unset).toArray = ls at hl ⊢
  have hl : lv_has ls 2 [(0, .long a)] := hl
  refine lv_lload_n hx hb d_N_isElement_0 rfl (lv_at hl 0 rfl) ?_
  refine vp_callSi (W.runS (As := [.long a]) (rest := []) ⟨hx, hb, hml, hown, hts⟩ (c_N_between l a) (tb_S hw cy_N_isBetweenZeroAndP ww_463 ww_457 rfl rfl ⟨Nat.le_of_ble_eq_true rfl, Nat.le_of_ble_eq_true rfl⟩) preEq rfl rfl hl.1 rfl (lv_room (Nat.le_of_ble_eq_true rfl)) d_N_isElement_1 ⟨Nat.le_of_ble_eq_true rfl, Nat.le_of_ble_eq_true rfl⟩) (fun r39 er39 => ?_)
  subst er39
  refine lv_if_eq (tgt := 23) hx hb d_N_isElement_4 (by decide) (fun h40 => ?_) (fun h40 => ?_)
  · have hnb := bz_f h40
    refine lv_iconst (v := 0) hx hb d_N_isElement_23 (by decide) ?_
    exact W.zret (v := 0) (ty := .boolean) hx hb hr rfl (fun t ht hW => ⟨0, rfl, (by rw [if_neg (fun q => hnb q.1)]), ht⟩) (fun q h => nomatch h) d_N_isElement_24
  · have hbt := bz_t h40
    obtain ⟨hn1, hn2, hn3⟩ := bt_of hbt
    have hl : lv_has ls 2 [(0, .long (lN a.toBitVec.toNat))] := by rw [← hn1]; exact hl
    refine lv_lload_n hx hb d_N_isElement_7 rfl (lv_at hl 0 rfl) ?_
    refine lv_ldc2 (v := 1073741789) hx hb hown (hw _ ww_464) d_N_isElement_8 ?_
    refine vp_callSl (W.runS (As := [.long (lN a.toBitVec.toNat), .long (lN 1073741789)]) (rest := []) ⟨hx, hb, hml, hown, hts⟩ (c_N_power l a.toBitVec.toNat 1073741789 (by first | assumption | exact pw_lt _ _ | exact Nat.mod_lt _ pq_pos | exact qs_P (by assumption) | decide) (by first | assumption | exact sc_30 _ | exact qs_30 (by assumption) | exact qz_lt _ | decide | omega)) (tb_S hw cy_N_power ww_465 ww_127 rfl rfl ⟨Nat.le_of_ble_eq_true rfl, Nat.le_of_ble_eq_true rfl⟩) preEq rfl rfl hl.1 rfl (lv_room (Nat.le_of_ble_eq_true rfl)) d_N_isElement_11 ⟨Nat.le_of_ble_eq_true rfl, Nat.le_of_ble_eq_true rfl⟩) (fun r41 er41 => ?_)
    subst er41
    refine lv_lconst (v := 1) hx hb d_N_isElement_14 (by decide) ?_
    refine W.lcmp hx hb d_N_isElement_15 ?_
    refine lv_if_ne (tgt := 23) hx hb d_N_isElement_16 (by decide) (fun h42 => ?_) (fun h42 => ?_)
    · have h42 := fun q => h42 ((lg_cmp_eq _ _).mpr q)
      refine lv_iconst (v := 0) hx hb d_N_isElement_23 (by decide) ?_
      exact W.zret (v := 0) (ty := .boolean) hx hb hr rfl (fun t ht hW => ⟨0, rfl, (by rw [if_neg (fun q => h42 (congrArg lN q.2))]), ht⟩) (fun q h => nomatch h) d_N_isElement_24
    · have h42 := (lg_cmp_eq _ _).mp h42
      refine lv_iconst (v := 1) hx hb d_N_isElement_19 (by decide) ?_
      refine lv_goto (tgt := 24) hx hb d_N_isElement_20 (by decide) ?_
      exact W.zret (v := 1) (ty := .boolean) hx hb hr rfl (fun t ht hW => ⟨1, rfl, (by rw [if_pos ⟨hbt, (pk_lEQ (Nat.lt_trans (pw_lt _ _) (by decide)) (by decide)).mp h42⟩]), ht⟩) (fun q h => nomatch h) d_N_isElement_24
