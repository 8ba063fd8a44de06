theorem ww_4 : (Jvm.Cond.initialized "PakeDesk$Digest") ∈ gt_tbl := gt_m (List.mem_append_right _ (List.mem_append_left _ (List.mem_of_getElem? (i := 4) (by decide +kernel)))) (by decide)
theorem ww_103 : (Jvm.Cond.constantLong "PakeDesk$Digest" (9 : Nat) (1469598103934665603 : Int64)) ∈ gt_tbl := gt_m (List.mem_append_right _ (List.mem_append_left _ (List.mem_of_getElem? (i := 103) (by decide +kernel)))) (by decide)
theorem ww_104 : (Jvm.Cond.methodLink "PakeDesk$Digest" (11 : Nat) ({ cls := "PakeDesk$Digest", name := "absorb", desc := "(JJ)J" } : Jvm.MethodName)) ∈ gt_tbl := gt_m (List.mem_append_right _ (List.mem_append_left _ (List.mem_of_getElem? (i := 104) (by decide +kernel)))) (by decide)
theorem ww_105 : (Jvm.Cond.static ({ cls := "PakeDesk$Digest", name := "absorb", desc := "(JJ)J" } : Jvm.MethodName)) ∈ gt_tbl := gt_m (List.mem_append_right _ (List.mem_append_left _ (List.mem_of_getElem? (i := 105) (by decide +kernel)))) (by decide)
theorem ww_106 : (Jvm.Cond.code ({ cls := "PakeDesk$Digest", name := "absorb", desc := "(JJ)J" } : Jvm.MethodName) prog_3_method_6_code (7 : Nat) (Option.some Jvm.ClassFile.FieldType.long)) ∈ gt_tbl := gt_m (List.mem_append_right _ (List.mem_append_left _ (List.mem_of_getElem? (i := 106) (by decide +kernel)))) (by decide)
theorem ww_107 : (Jvm.Cond.constantLong "PakeDesk$Digest" (19 : Nat) (255 : Int64)) ∈ gt_tbl := gt_m (List.mem_append_right _ (List.mem_append_left _ (List.mem_of_getElem? (i := 107) (by decide +kernel)))) (by decide)
theorem ww_108 : (Jvm.Cond.constantLong "PakeDesk$Digest" (21 : Nat) (1099511628211 : Int64)) ∈ gt_tbl := gt_m (List.mem_append_right _ (List.mem_append_left _ (List.mem_of_getElem? (i := 108) (by decide +kernel)))) (by decide)
theorem ww_109 : (Jvm.Cond.methodLink "PakeDesk$Digest" (15 : Nat) ({ cls := "PakeDesk$Digest", name := "finish", desc := "(J)J" } : Jvm.MethodName)) ∈ gt_tbl := gt_m (List.mem_append_right _ (List.mem_append_left _ (List.mem_of_getElem? (i := 109) (by decide +kernel)))) (by decide)
theorem ww_110 : (Jvm.Cond.static ({ cls := "PakeDesk$Digest", name := "finish", desc := "(J)J" } : Jvm.MethodName)) ∈ gt_tbl := gt_m (List.mem_append_right _ (List.mem_append_left _ (List.mem_of_getElem? (i := 110) (by decide +kernel)))) (by decide)
theorem ww_111 : (Jvm.Cond.code ({ cls := "PakeDesk$Digest", name := "finish", desc := "(J)J" } : Jvm.MethodName) prog_3_method_7_code (4 : Nat) (Option.some Jvm.ClassFile.FieldType.long)) ∈ gt_tbl := gt_m (List.mem_append_right _ (List.mem_append_left _ (List.mem_of_getElem? (i := 111) (by decide +kernel)))) (by decide)
theorem ww_112 : (Jvm.Cond.constantLong "PakeDesk$Digest" (23 : Nat) (-7046029254386353131 : Int64)) ∈ gt_tbl := gt_m (List.mem_append_right _ (List.mem_append_left _ (List.mem_of_getElem? (i := 112) (by decide +kernel)))) (by decide)
theorem cy_G_absorb : tb_C my_G_absorb mb_G_absorb 7 (some .long) 2 := ⟨ww_106, ww_4, by decide, by decide, by decide +kernel⟩
theorem cy_G_finish : tb_C my_G_finish mb_G_finish 4 (some .long) 1 := ⟨ww_111, ww_4, by decide, by decide, by decide +kernel⟩
theorem d_G_of3_0 : decode mb_G_of3 0 = .ok (.ldc2_w 9, 3) := by decide +kernel
theorem d_G_of3_3 : decode mb_G_of3 3 = .ok (.lload_n 0, 1) := by decide +kernel
theorem d_G_of3_4 : decode mb_G_of3 4 = .ok (.invokestatic 11, 3) := by decide +kernel
theorem d_G_of3_7 : decode mb_G_of3 7 = .ok (.lload_n 2, 1) := by decide +kernel
theorem d_G_of3_8 : decode mb_G_of3 8 = .ok (.invokestatic 11, 3) := by decide +kernel
theorem d_G_of3_11 : decode mb_G_of3 11 = .ok (.lload 4, 2) := by decide +kernel
theorem d_G_of3_13 : decode mb_G_of3 13 = .ok (.invokestatic 11, 3) := by decide +kernel
theorem d_G_of3_16 : decode mb_G_of3 16 = .ok (.invokestatic 15, 3) := by decide +kernel
theorem d_G_of3_19 : decode mb_G_of3 19 = .ok (.lreturn, 1) := by decide +kernel
theorem d_G_of4_0 : decode mb_G_of4 0 = .ok (.ldc2_w 9, 3) := by decide +kernel
theorem d_G_of4_3 : decode mb_G_of4 3 = .ok (.lload_n 0, 1) := by decide +kernel
theorem d_G_of4_4 : decode mb_G_of4 4 = .ok (.invokestatic 11, 3) := by decide +kernel
theorem d_G_of4_7 : decode mb_G_of4 7 = .ok (.lload_n 2, 1) := by decide +kernel
theorem d_G_of4_8 : decode mb_G_of4 8 = .ok (.invokestatic 11, 3) := by decide +kernel
theorem d_G_of4_11 : decode mb_G_of4 11 = .ok (.lload 4, 2) := by decide +kernel
theorem d_G_of4_13 : decode mb_G_of4 13 = .ok (.invokestatic 11, 3) := by decide +kernel
theorem d_G_of4_16 : decode mb_G_of4 16 = .ok (.lload 6, 2) := by decide +kernel
theorem d_G_of4_18 : decode mb_G_of4 18 = .ok (.invokestatic 11, 3) := by decide +kernel
theorem d_G_of4_21 : decode mb_G_of4 21 = .ok (.invokestatic 15, 3) := by decide +kernel
theorem d_G_of4_24 : decode mb_G_of4 24 = .ok (.lreturn, 1) := by decide +kernel
theorem d_G_of5_0 : decode mb_G_of5 0 = .ok (.ldc2_w 9, 3) := by decide +kernel
theorem d_G_of5_3 : decode mb_G_of5 3 = .ok (.lload_n 0, 1) := by decide +kernel
theorem d_G_of5_4 : decode mb_G_of5 4 = .ok (.invokestatic 11, 3) := by decide +kernel
theorem d_G_of5_7 : decode mb_G_of5 7 = .ok (.lload_n 2, 1) := by decide +kernel
theorem d_G_of5_8 : decode mb_G_of5 8 = .ok (.invokestatic 11, 3) := by decide +kernel
theorem d_G_of5_11 : decode mb_G_of5 11 = .ok (.lload 4, 2) := by decide +kernel
theorem d_G_of5_13 : decode mb_G_of5 13 = .ok (.invokestatic 11, 3) := by decide +kernel
theorem d_G_of5_16 : decode mb_G_of5 16 = .ok (.lload 6, 2) := by decide +kernel
theorem d_G_of5_18 : decode mb_G_of5 18 = .ok (.invokestatic 11, 3) := by decide +kernel
theorem d_G_of5_21 : decode mb_G_of5 21 = .ok (.lload 8, 2) := by decide +kernel
theorem d_G_of5_23 : decode mb_G_of5 23 = .ok (.invokestatic 11, 3) := by decide +kernel
theorem d_G_of5_26 : decode mb_G_of5 26 = .ok (.invokestatic 15, 3) := by decide +kernel
theorem d_G_of5_29 : decode mb_G_of5 29 = .ok (.lreturn, 1) := by decide +kernel
theorem d_G_of6_0 : decode mb_G_of6 0 = .ok (.ldc2_w 9, 3) := by decide +kernel
theorem d_G_of6_3 : decode mb_G_of6 3 = .ok (.lload_n 0, 1) := by decide +kernel
theorem d_G_of6_4 : decode mb_G_of6 4 = .ok (.invokestatic 11, 3) := by decide +kernel
theorem d_G_of6_7 : decode mb_G_of6 7 = .ok (.lload_n 2, 1) := by decide +kernel
theorem d_G_of6_8 : decode mb_G_of6 8 = .ok (.invokestatic 11, 3) := by decide +kernel
theorem d_G_of6_11 : decode mb_G_of6 11 = .ok (.lload 4, 2) := by decide +kernel
theorem d_G_of6_13 : decode mb_G_of6 13 = .ok (.invokestatic 11, 3) := by decide +kernel
theorem d_G_of6_16 : decode mb_G_of6 16 = .ok (.lstore 12, 2) := by decide +kernel
theorem d_G_of6_18 : decode mb_G_of6 18 = .ok (.lload 12, 2) := by decide +kernel
theorem d_G_of6_20 : decode mb_G_of6 20 = .ok (.lload 6, 2) := by decide +kernel
theorem d_G_of6_22 : decode mb_G_of6 22 = .ok (.invokestatic 11, 3) := by decide +kernel
theorem d_G_of6_25 : decode mb_G_of6 25 = .ok (.lload 8, 2) := by decide +kernel
theorem d_G_of6_27 : decode mb_G_of6 27 = .ok (.invokestatic 11, 3) := by decide +kernel
theorem d_G_of6_30 : decode mb_G_of6 30 = .ok (.lload 10, 2) := by decide +kernel
theorem d_G_of6_32 : decode mb_G_of6 32 = .ok (.invokestatic 11, 3) := by decide +kernel
theorem d_G_of6_35 : decode mb_G_of6 35 = .ok (.invokestatic 15, 3) := by decide +kernel
theorem d_G_of6_38 : decode mb_G_of6 38 = .ok (.lreturn, 1) := by decide +kernel
theorem d_G_absorb_0 : decode mb_G_absorb 0 = .ok (.lload_n 0, 1) := by decide +kernel
theorem d_G_absorb_1 : decode mb_G_absorb 1 = .ok (.lstore 4, 2) := by decide +kernel
theorem d_G_absorb_3 : decode mb_G_absorb 3 = .ok (.bipush 56, 2) := by decide +kernel
theorem d_G_absorb_5 : decode mb_G_absorb 5 = .ok (.istore 6, 2) := by decide +kernel
theorem d_G_absorb_7 : decode mb_G_absorb 7 = .ok (.iload 6, 2) := by decide +kernel
theorem d_G_absorb_9 : decode mb_G_absorb 9 = .ok (.ifCond .lt 26, 3) := by decide +kernel
theorem d_G_absorb_12 : decode mb_G_absorb 12 = .ok (.lload 4, 2) := by decide +kernel
theorem d_G_absorb_14 : decode mb_G_absorb 14 = .ok (.lload_n 2, 1) := by decide +kernel
theorem d_G_absorb_15 : decode mb_G_absorb 15 = .ok (.iload 6, 2) := by decide +kernel
theorem d_G_absorb_17 : decode mb_G_absorb 17 = .ok (.lushr, 1) := by decide +kernel
theorem d_G_absorb_18 : decode mb_G_absorb 18 = .ok (.ldc2_w 19, 3) := by decide +kernel
theorem d_G_absorb_21 : decode mb_G_absorb 21 = .ok (.land, 1) := by decide +kernel
theorem d_G_absorb_22 : decode mb_G_absorb 22 = .ok (.lxor, 1) := by decide +kernel
theorem d_G_absorb_23 : decode mb_G_absorb 23 = .ok (.ldc2_w 21, 3) := by decide +kernel
theorem d_G_absorb_26 : decode mb_G_absorb 26 = .ok (.lmul, 1) := by decide +kernel
theorem d_G_absorb_27 : decode mb_G_absorb 27 = .ok (.lstore 4, 2) := by decide +kernel
theorem d_G_absorb_29 : decode mb_G_absorb 29 = .ok (.iinc 6 (-8), 3) := by decide +kernel
theorem d_G_absorb_32 : decode mb_G_absorb 32 = .ok (.goto (-25), 3) := by decide +kernel
theorem d_G_absorb_35 : decode mb_G_absorb 35 = .ok (.lload 4, 2) := by decide +kernel
theorem d_G_absorb_37 : decode mb_G_absorb 37 = .ok (.lreturn, 1) := by decide +kernel
theorem d_G_finish_0 : decode mb_G_finish 0 = .ok (.lload_n 0, 1) := by decide +kernel
theorem d_G_finish_1 : decode mb_G_finish 1 = .ok (.lload_n 0, 1) := by decide +kernel
theorem d_G_finish_2 : decode mb_G_finish 2 = .ok (.bipush 32, 2) := by decide +kernel
theorem d_G_finish_4 : decode mb_G_finish 4 = .ok (.lushr, 1) := by decide +kernel
theorem d_G_finish_5 : decode mb_G_finish 5 = .ok (.lxor, 1) := by decide +kernel
theorem d_G_finish_6 : decode mb_G_finish 6 = .ok (.lstore_n 2, 1) := by decide +kernel
theorem d_G_finish_7 : decode mb_G_finish 7 = .ok (.lload_n 2, 1) := by decide +kernel
theorem d_G_finish_8 : decode mb_G_finish 8 = .ok (.ldc2_w 23, 3) := by decide +kernel
theorem d_G_finish_11 : decode mb_G_finish 11 = .ok (.lmul, 1) := by decide +kernel
theorem d_G_finish_12 : decode mb_G_finish 12 = .ok (.lstore_n 2, 1) := by decide +kernel
theorem d_G_finish_13 : decode mb_G_finish 13 = .ok (.lload_n 2, 1) := by decide +kernel
theorem d_G_finish_14 : decode mb_G_finish 14 = .ok (.lload_n 2, 1) := by decide +kernel
theorem d_G_finish_15 : decode mb_G_finish 15 = .ok (.bipush 29, 2) := by decide +kernel
theorem d_G_finish_17 : decode mb_G_finish 17 = .ok (.lushr, 1) := by decide +kernel
theorem d_G_finish_18 : decode mb_G_finish 18 = .ok (.lxor, 1) := by decide +kernel
theorem d_G_finish_19 : decode mb_G_finish 19 = .ok (.lreturn, 1) := by decide +kernel
set_option maxHeartbeats 4000000 in
set_option maxRecDepth 100000 in
theorem c_G_finish (l : Launch) (x1 : Int64) : Met l my_G_finish (tb_w my_G_finish mb_G_finish 4 (some .long)) ({ frames := 0, cells := 0, slots := 0, locals := 0 }) (fun av _ => av = [.long x1].toArray) (vp_Sl (fun r => r = dg_f x1)) 0 0 (fun _ => False) := by
  refine Met.ofW (cc := mb_G_finish) (maxL := 4) (ret := (some .long)) (by decide) rfl ?_
  intro p e s m args below meth c s₁ B hml hv
  subst hv
  have hx := B.exec
  have hb := B.bytes
  have hr := B.returns
  have hts := atoms_spec (ws := tb_w my_G_finish mb_G_finish 4 (some .long)) B.pre
  have hw : ∀ w ∈ gt_tbl, w.before [.long x1].toArray s = true := fun w h => hts w (List.mem_cons_of_mem _ h)
  have hown : s.vm.findClass cr_G = some m.cls := findClass_of_methodNamed B.named
  have hlocks := B.notSynchronized
  have hl := lv_entry ([.long x1]) (n := 4) (Nat.le_of_ble_eq_true rfl)
  rw [lg_entry_eq]
  generalize (lg_sl ([.long x1]) ++ List.replicate (4 - (lg_sl ([.long x1])).length) Slot.unset).toArray = ls at hl ⊢
  have hl : lv_has ls 4 [(0, .long x1)] := hl
  refine lv_lload_n hx hb d_G_finish_0 rfl (lv_at hl 0 rfl) ?_
  refine lv_lload_n hx hb d_G_finish_1 rfl (lv_at hl 0 rfl) ?_
  refine lv_bipush (v := 32) hx hb d_G_finish_2 (by decide) ?_
  refine lv_lushr (v := dg_sh x1 32) hx hb d_G_finish_4 rfl ?_
  refine lv_lxor hx hb d_G_finish_5 ?_
  refine lv_lstore_n (lv' := [(2, .long (x1 ^^^ (dg_sh x1 32))), (0, .long x1)]) hx hb d_G_finish_6 rfl hl (Nat.le_of_ble_eq_true rfl) rfl (fun ls hl => ?_)
  refine lv_lload_n hx hb d_G_finish_7 rfl (lv_at hl 0 rfl) ?_
  refine lv_ldc2 (v := (-7046029254386353131)) hx hb hown (hw _ ww_112) d_G_finish_8 ?_
  refine lv_lmul hx hb d_G_finish_11 ?_
  refine lv_lstore_n (lv' := [(2, .long ((x1 ^^^ (dg_sh x1 32)) * (-7046029254386353131))), (0, .long x1)]) hx hb d_G_finish_12 rfl hl (Nat.le_of_ble_eq_true rfl) rfl (fun ls hl => ?_)
  refine lv_lload_n hx hb d_G_finish_13 rfl (lv_at hl 0 rfl) ?_
  refine lv_lload_n hx hb d_G_finish_14 rfl (lv_at hl 0 rfl) ?_
  refine lv_bipush (v := 29) hx hb d_G_finish_15 (by decide) ?_
  refine lv_lushr (v := dg_sh ((x1 ^^^ (dg_sh x1 32)) * (-7046029254386353131)) 29) hx hb d_G_finish_17 rfl ?_
  refine lv_lxor hx hb d_G_finish_18 ?_
  exact W.lret (v := ((x1 ^^^ (dg_sh x1 32)) * (-7046029254386353131)) ^^^ (dg_sh ((x1 ^^^ (dg_sh x1 32)) * (-7046029254386353131)) 29)) hx hb hr (fun t ht hW => ⟨((x1 ^^^ (dg_sh x1 32)) * (-7046029254386353131)) ^^^ (dg_sh ((x1 ^^^ (dg_sh x1 32)) * (-7046029254386353131)) 29), rfl, rfl, ht⟩) (fun q h => nomatch h) d_G_finish_19
set_option maxHeartbeats 4000000 in
set_option maxRecDepth 100000 in
theorem c_G_absorb (l : Launch) (x1 x2 : Int64) : Met l my_G_absorb (tb_w my_G_absorb mb_G_absorb 7 (some .long)) ({ frames := 0, cells := 0, slots := 0, locals := 0 }) (fun av _ => av = [.long x1, .long x2].toArray) (vp_Sl (fun r => r = dg_a x1 x2)) 0 0 (fun _ => False) := by
  refine Met.ofW (cc := mb_G_absorb) (maxL := 7) (ret := (some .long)) (by decide) rfl ?_
  intro p e s m args below meth c s₁ B hml hv
  subst hv
  have hx := B.exec
  have hb := B.bytes
  have hr := B.returns
  have hts := atoms_spec (ws := tb_w my_G_absorb mb_G_absorb 7 (some .long)) B.pre
  have hw : ∀ w ∈ gt_tbl, w.before [.long x1, .long x2].toArray s = true := fun w h => hts w (List.mem_cons_of_mem _ h)
  have hown : s.vm.findClass cr_G = some m.cls := findClass_of_methodNamed B.named
  have hlocks := B.notSynchronized
  have hl := lv_entry ([.long x1, .long x2]) (n := 7) (Nat.le_of_ble_eq_true rfl)
  rw [lg_entry_eq]
  generalize (lg_sl ([.long x1, .long x2]) ++ List.replicate (7 - (lg_sl ([.long x1, .long x2])).length) Slot.unset).toArray = ls at hl ⊢
  have hl : lv_has ls 7 [(0, .long x1), (2, .long x2)] := hl
  refine lv_lload_n hx hb d_G_absorb_0 rfl (lv_at hl 0 rfl) ?_
  refine lv_lstore (lv' := [(4, .long x1), (0, .long x1), (2, .long x2)]) hx hb d_G_absorb_1 hl (Nat.le_of_ble_eq_true rfl) rfl (fun ls hl => ?_)
  refine lv_bipush (v := 56) hx hb d_G_absorb_3 (by decide) ?_
  refine lv_istore (lv' := [(6, .int 56), (4, .long x1), (0, .long x1), (2, .long x2)]) hx hb d_G_absorb_5 hl (Nat.le_of_ble_eq_true rfl) rfl (fun ls hl => ?_)
  refine lv_iload hx hb d_G_absorb_7 (lv_at hl 0 rfl) ?_
  refine lv_if_lt (tgt := 35) hx hb d_G_absorb_9 (by decide) (fun h1 => ?_) (fun h1 => ?_)
  · exact absurd h1 (by decide)
  · refine lv_lload hx hb d_G_absorb_12 (lv_at hl 1 rfl) ?_
    refine lv_lload_n hx hb d_G_absorb_14 rfl (lv_at hl 3 rfl) ?_
    refine lv_iload hx hb d_G_absorb_15 (lv_at hl 0 rfl) ?_
    refine lv_lushr (v := dg_sh x2 56) hx hb d_G_absorb_17 rfl ?_
    refine lv_ldc2 (v := 255) hx hb hown (hw _ ww_107) d_G_absorb_18 ?_
    refine lv_land hx hb d_G_absorb_21 ?_
    refine lv_lxor hx hb d_G_absorb_22 ?_
    refine lv_ldc2 (v := 1099511628211) hx hb hown (hw _ ww_108) d_G_absorb_23 ?_
    refine lv_lmul hx hb d_G_absorb_26 ?_
    refine lv_lstore (lv' := [(4, .long ((x1 ^^^ ((dg_sh x2 56) &&& 255)) * 1099511628211)), (6, .int 56), (0, .long x1), (2, .long x2)]) hx hb d_G_absorb_27 hl (Nat.le_of_ble_eq_true rfl) rfl (fun ls hl => ?_)
    refine lv_iinc (k := 1) (v := 48) (lv' := [(6, .int 48), (4, .long ((x1 ^^^ ((dg_sh x2 56) &&& 255)) * 1099511628211)), (0, .long x1), (2, .long x2)]) hx hb d_G_absorb_29 hl rfl (by decide) (Nat.le_of_ble_eq_true rfl) rfl (fun ls hl => ?_)
    refine lv_goto (tgt := 7) hx hb d_G_absorb_32 (by decide) ?_
    refine lv_iload hx hb d_G_absorb_7 (lv_at hl 0 rfl) ?_
    refine lv_if_lt (tgt := 35) hx hb d_G_absorb_9 (by decide) (fun h2 => ?_) (fun h2 => ?_)
    · exact absurd h2 (by decide)
    · refine lv_lload hx hb d_G_absorb_12 (lv_at hl 1 rfl) ?_
      refine lv_lload_n hx hb d_G_absorb_14 rfl (lv_at hl 3 rfl) ?_
      refine lv_iload hx hb d_G_absorb_15 (lv_at hl 0 rfl) ?_
      refine lv_lushr (v := dg_sh x2 48) hx hb d_G_absorb_17 rfl ?_
      refine lv_ldc2 (v := 255) hx hb hown (hw _ ww_107) d_G_absorb_18 ?_
      refine lv_land hx hb d_G_absorb_21 ?_
      refine lv_lxor hx hb d_G_absorb_22 ?_
      refine lv_ldc2 (v := 1099511628211) hx hb hown (hw _ ww_108) d_G_absorb_23 ?_
      refine lv_lmul hx hb d_G_absorb_26 ?_
      refine lv_lstore (lv' := [(4, .long ((((x1 ^^^ ((dg_sh x2 56) &&& 255)) * 1099511628211) ^^^ ((dg_sh x2 48) &&& 255)) * 1099511628211)), (6, .int 48), (0, .long x1), (2, .long x2)]) hx hb d_G_absorb_27 hl (Nat.le_of_ble_eq_true rfl) rfl (fun ls hl => ?_)
      refine lv_iinc (k := 1) (v := 40) (lv' := [(6, .int 40), (4, .long ((((x1 ^^^ ((dg_sh x2 56) &&& 255)) * 1099511628211) ^^^ ((dg_sh x2 48) &&& 255)) * 1099511628211)), (0, .long x1), (2, .long x2)]) hx hb d_G_absorb_29 hl rfl (by decide) (Nat.le_of_ble_eq_true rfl) rfl (fun ls hl => ?_)
      refine lv_goto (tgt := 7) hx hb d_G_absorb_32 (by decide) ?_
      refine lv_iload hx hb d_G_absorb_7 (lv_at hl 0 rfl) ?_
      refine lv_if_lt (tgt := 35) hx hb d_G_absorb_9 (by decide) (fun h3 => ?_) (fun h3 => ?_)
      · exact absurd h3 (by decide)
      · refine lv_lload hx hb d_G_absorb_12 (lv_at hl 1 rfl) ?_
        refine lv_lload_n hx hb d_G_absorb_14 rfl (lv_at hl 3 rfl) ?_
        refine lv_iload hx hb d_G_absorb_15 (lv_at hl 0 rfl) ?_
        refine lv_lushr (v := dg_sh x2 40) hx hb d_G_absorb_17 rfl ?_
        refine lv_ldc2 (v := 255) hx hb hown (hw _ ww_107) d_G_absorb_18 ?_
        refine lv_land hx hb d_G_absorb_21 ?_
        refine lv_lxor hx hb d_G_absorb_22 ?_
        refine lv_ldc2 (v := 1099511628211) hx hb hown (hw _ ww_108) d_G_absorb_23 ?_
        refine lv_lmul hx hb d_G_absorb_26 ?_
        refine lv_lstore (lv' := [(4, .long ((((((x1 ^^^ ((dg_sh x2 56) &&& 255)) * 1099511628211) ^^^ ((dg_sh x2 48) &&& 255)) * 1099511628211) ^^^ ((dg_sh x2 40) &&& 255)) * 1099511628211)), (6, .int 40), (0, .long x1), (2, .long x2)]) hx hb d_G_absorb_27 hl (Nat.le_of_ble_eq_true rfl) rfl (fun ls hl => ?_)
        refine lv_iinc (k := 1) (v := 32) (lv' := [(6, .int 32), (4, .long ((((((x1 ^^^ ((dg_sh x2 56) &&& 255)) * 1099511628211) ^^^ ((dg_sh x2 48) &&& 255)) * 1099511628211) ^^^ ((dg_sh x2 40) &&& 255)) * 1099511628211)), (0, .long x1), (2, .long x2)]) hx hb d_G_absorb_29 hl rfl (by decide) (Nat.le_of_ble_eq_true rfl) rfl (fun ls hl => ?_)
        refine lv_goto (tgt := 7) hx hb d_G_absorb_32 (by decide) ?_
        refine lv_iload hx hb d_G_absorb_7 (lv_at hl 0 rfl) ?_
        refine lv_if_lt (tgt := 35) hx hb d_G_absorb_9 (by decide) (fun h4 => ?_) (fun h4 => ?_)
        · exact absurd h4 (by decide)
        · refine lv_lload hx hb d_G_absorb_12 (lv_at hl 1 rfl) ?_
          refine lv_lload_n hx hb d_G_absorb_14 rfl (lv_at hl 3 rfl) ?_
          refine lv_iload hx hb d_G_absorb_15 (lv_at hl 0 rfl) ?_
          refine lv_lushr (v := dg_sh x2 32) hx hb d_G_absorb_17 rfl ?_
          refine lv_ldc2 (v := 255) hx hb hown (hw _ ww_107) d_G_absorb_18 ?_
          refine lv_land hx hb d_G_absorb_21 ?_
          refine lv_lxor hx hb d_G_absorb_22 ?_
          refine lv_ldc2 (v := 1099511628211) hx hb hown (hw _ ww_108) d_G_absorb_23 ?_
          refine lv_lmul hx hb d_G_absorb_26 ?_
          refine lv_lstore (lv' := [(4, .long ((((((((x1 ^^^ ((dg_sh x2 56) &&& 255)) * 1099511628211) ^^^ ((dg_sh x2 48) &&& 255)) * 1099511628211) ^^^ ((dg_sh x2 40) &&& 255)) * 1099511628211) ^^^ ((dg_sh x2 32) &&& 255)) * 1099511628211)), (6, .int 32), (0, .long x1), (2, .long x2)]) hx hb d_G_absorb_27 hl (Nat.le_of_ble_eq_true rfl) rfl (fun ls hl => ?_)
          refine lv_iinc (k := 1) (v := 24) (lv' := [(6, .int 24), (4, .long ((((((((x1 ^^^ ((dg_sh x2 56) &&& 255)) * 1099511628211) ^^^ ((dg_sh x2 48) &&& 255)) * 1099511628211) ^^^ ((dg_sh x2 40) &&& 255)) * 1099511628211) ^^^ ((dg_sh x2 32) &&& 255)) * 1099511628211)), (0, .long x1), (2, .long x2)]) hx hb d_G_absorb_29 hl rfl (by decide) (Nat.le_of_ble_eq_true rfl) rfl (fun ls hl => ?_)
          refine lv_goto (tgt := 7) hx hb d_G_absorb_32 (by decide) ?_
          refine lv_iload hx hb d_G_absorb_7 (lv_at hl 0 rfl) ?_
          refine lv_if_lt (tgt := 35) hx hb d_G_absorb_9 (by decide) (fun h5 => ?_) (fun h5 => ?_)
          · exact absurd h5 (by decide)
          · refine lv_lload hx hb d_G_absorb_12 (lv_at hl 1 rfl) ?_
            refine lv_lload_n hx hb d_G_absorb_14 rfl (lv_at hl 3 rfl) ?_
            refine lv_iload hx hb d_G_absorb_15 (lv_at hl 0 rfl) ?_
            refine lv_lushr (v := dg_sh x2 24) hx hb d_G_absorb_17 rfl ?_
            refine lv_ldc2 (v := 255) hx hb hown (hw _ ww_107) d_G_absorb_18 ?_
            refine lv_land hx hb d_G_absorb_21 ?_
            refine lv_lxor hx hb d_G_absorb_22 ?_
            refine lv_ldc2 (v := 1099511628211) hx hb hown (hw _ ww_108) d_G_absorb_23 ?_
            refine lv_lmul hx hb d_G_absorb_26 ?_
            refine lv_lstore (lv' := [(4, .long ((((((((((x1 ^^^ ((dg_sh x2 56) &&& 255)) * 1099511628211) ^^^ ((dg_sh x2 48) &&& 255)) * 1099511628211) ^^^ ((dg_sh x2 40) &&& 255)) * 1099511628211) ^^^ ((dg_sh x2 32) &&& 255)) * 1099511628211) ^^^ ((dg_sh x2 24) &&& 255)) * 1099511628211)), (6, .int 24), (0, .long x1), (2, .long x2)]) hx hb d_G_absorb_27 hl (Nat.le_of_ble_eq_true rfl) rfl (fun ls hl => ?_)
            refine lv_iinc (k := 1) (v := 16) (lv' := [(6, .int 16), (4, .long ((((((((((x1 ^^^ ((dg_sh x2 56) &&& 255)) * 1099511628211) ^^^ ((dg_sh x2 48) &&& 255)) * 1099511628211) ^^^ ((dg_sh x2 40) &&& 255)) * 1099511628211) ^^^ ((dg_sh x2 32) &&& 255)) * 1099511628211) ^^^ ((dg_sh x2 24) &&& 255)) * 1099511628211)), (0, .long x1), (2, .long x2)]) hx hb d_G_absorb_29 hl rfl (by decide) (Nat.le_of_ble_eq_true rfl) rfl (fun ls hl => ?_)
            refine lv_goto (tgt := 7) hx hb d_G_absorb_32 (by decide) ?_
            refine lv_iload hx hb d_G_absorb_7 (lv_at hl 0 rfl) ?_
            refine lv_if_lt (tgt := 35) hx hb d_G_absorb_9 (by decide) (fun h6 => ?_) (fun h6 => ?_)
            · exact absurd h6 (by decide)
            · refine lv_lload hx hb d_G_absorb_12 (lv_at hl 1 rfl) ?_
              refine lv_lload_n hx hb d_G_absorb_14 rfl (lv_at hl 3 rfl) ?_
              refine lv_iload hx hb d_G_absorb_15 (lv_at hl 0 rfl) ?_
              refine lv_lushr (v := dg_sh x2 16) hx hb d_G_absorb_17 rfl ?_
              refine lv_ldc2 (v := 255) hx hb hown (hw _ ww_107) d_G_absorb_18 ?_
              refine lv_land hx hb d_G_absorb_21 ?_
              refine lv_lxor hx hb d_G_absorb_22 ?_
              refine lv_ldc2 (v := 1099511628211) hx hb hown (hw _ ww_108) d_G_absorb_23 ?_
              refine lv_lmul hx hb d_G_absorb_26 ?_
              refine lv_lstore (lv' := [(4, .long ((((((((((((x1 ^^^ ((dg_sh x2 56) &&& 255)) * 1099511628211) ^^^ ((dg_sh x2 48) &&& 255)) * 1099511628211) ^^^ ((dg_sh x2 40) &&& 255)) * 1099511628211) ^^^ ((dg_sh x2 32) &&& 255)) * 1099511628211) ^^^ ((dg_sh x2 24) &&& 255)) * 1099511628211) ^^^ ((dg_sh x2 16) &&& 255)) * 1099511628211)), (6, .int 16), (0, .long x1), (2, .long x2)]) hx hb d_G_absorb_27 hl (Nat.le_of_ble_eq_true rfl) rfl (fun ls hl => ?_)
              refine lv_iinc (k := 1) (v := 8) (lv' := [(6, .int 8), (4, .long ((((((((((((x1 ^^^ ((dg_sh x2 56) &&& 255)) * 1099511628211) ^^^ ((dg_sh x2 48) &&& 255)) * 1099511628211) ^^^ ((dg_sh x2 40) &&& 255)) * 1099511628211) ^^^ ((dg_sh x2 32) &&& 255)) * 1099511628211) ^^^ ((dg_sh x2 24) &&& 255)) * 1099511628211) ^^^ ((dg_sh x2 16) &&& 255)) * 1099511628211)), (0, .long x1), (2, .long x2)]) hx hb d_G_absorb_29 hl rfl (by decide) (Nat.le_of_ble_eq_true rfl) rfl (fun ls hl => ?_)
              refine lv_goto (tgt := 7) hx hb d_G_absorb_32 (by decide) ?_
              refine lv_iload hx hb d_G_absorb_7 (lv_at hl 0 rfl) ?_
              refine lv_if_lt (tgt := 35) hx hb d_G_absorb_9 (by decide) (fun h7 => ?_) (fun h7 => ?_)
              · exact absurd h7 (by decide)
              · refine lv_lload hx hb d_G_absorb_12 (lv_at hl 1 rfl) ?_
                refine lv_lload_n hx hb d_G_absorb_14 rfl (lv_at hl 3 rfl) ?_
                refine lv_iload hx hb d_G_absorb_15 (lv_at hl 0 rfl) ?_
                refine lv_lushr (v := dg_sh x2 8) hx hb d_G_absorb_17 rfl ?_
                refine lv_ldc2 (v := 255) hx hb hown (hw _ ww_107) d_G_absorb_18 ?_
                refine lv_land hx hb d_G_absorb_21 ?_
                refine lv_lxor hx hb d_G_absorb_22 ?_
                refine lv_ldc2 (v := 1099511628211) hx hb hown (hw _ ww_108) d_G_absorb_23 ?_
                refine lv_lmul hx hb d_G_absorb_26 ?_
                refine lv_lstore (lv' := [(4, .long ((((((((((((((x1 ^^^ ((dg_sh x2 56) &&& 255)) * 1099511628211) ^^^ ((dg_sh x2 48) &&& 255)) * 1099511628211) ^^^ ((dg_sh x2 40) &&& 255)) * 1099511628211) ^^^ ((dg_sh x2 32) &&& 255)) * 1099511628211) ^^^ ((dg_sh x2 24) &&& 255)) * 1099511628211) ^^^ ((dg_sh x2 16) &&& 255)) * 1099511628211) ^^^ ((dg_sh x2 8) &&& 255)) * 1099511628211)), (6, .int 8), (0, .long x1), (2, .long x2)]) hx hb d_G_absorb_27 hl (Nat.le_of_ble_eq_true rfl) rfl (fun ls hl => ?_)
                refine lv_iinc (k := 1) (v := 0) (lv' := [(6, .int 0), (4, .long ((((((((((((((x1 ^^^ ((dg_sh x2 56) &&& 255)) * 1099511628211) ^^^ ((dg_sh x2 48) &&& 255)) * 1099511628211) ^^^ ((dg_sh x2 40) &&& 255)) * 1099511628211) ^^^ ((dg_sh x2 32) &&& 255)) * 1099511628211) ^^^ ((dg_sh x2 24) &&& 255)) * 1099511628211) ^^^ ((dg_sh x2 16) &&& 255)) * 1099511628211) ^^^ ((dg_sh x2 8) &&& 255)) * 1099511628211)), (0, .long x1), (2, .long x2)]) hx hb d_G_absorb_29 hl rfl (by decide) (Nat.le_of_ble_eq_true rfl) rfl (fun ls hl => ?_)
                refine lv_goto (tgt := 7) hx hb d_G_absorb_32 (by decide) ?_
                refine lv_iload hx hb d_G_absorb_7 (lv_at hl 0 rfl) ?_
                refine lv_if_lt (tgt := 35) hx hb d_G_absorb_9 (by decide) (fun h8 => ?_) (fun h8 => ?_)
                · exact absurd h8 (by decide)
                · refine lv_lload hx hb d_G_absorb_12 (lv_at hl 1 rfl) ?_
                  refine lv_lload_n hx hb d_G_absorb_14 rfl (lv_at hl 3 rfl) ?_
                  refine lv_iload hx hb d_G_absorb_15 (lv_at hl 0 rfl) ?_
                  refine lv_lushr (v := dg_sh x2 0) hx hb d_G_absorb_17 rfl ?_
                  refine lv_ldc2 (v := 255) hx hb hown (hw _ ww_107) d_G_absorb_18 ?_
                  refine lv_land hx hb d_G_absorb_21 ?_
                  refine lv_lxor hx hb d_G_absorb_22 ?_
                  refine lv_ldc2 (v := 1099511628211) hx hb hown (hw _ ww_108) d_G_absorb_23 ?_
                  refine lv_lmul hx hb d_G_absorb_26 ?_
                  refine lv_lstore (lv' := [(4, .long ((((((((((((((((x1 ^^^ ((dg_sh x2 56) &&& 255)) * 1099511628211) ^^^ ((dg_sh x2 48) &&& 255)) * 1099511628211) ^^^ ((dg_sh x2 40) &&& 255)) * 1099511628211) ^^^ ((dg_sh x2 32) &&& 255)) * 1099511628211) ^^^ ((dg_sh x2 24) &&& 255)) * 1099511628211) ^^^ ((dg_sh x2 16) &&& 255)) * 1099511628211) ^^^ ((dg_sh x2 8) &&& 255)) * 1099511628211) ^^^ ((dg_sh x2 0) &&& 255)) * 1099511628211)), (6, .int 0), (0, .long x1), (2, .long x2)]) hx hb d_G_absorb_27 hl (Nat.le_of_ble_eq_true rfl) rfl (fun ls hl => ?_)
                  refine lv_iinc (k := 1) (v := (-8)) (lv' := [(6, .int (-8)), (4, .long ((((((((((((((((x1 ^^^ ((dg_sh x2 56) &&& 255)) * 1099511628211) ^^^ ((dg_sh x2 48) &&& 255)) * 1099511628211) ^^^ ((dg_sh x2 40) &&& 255)) * 1099511628211) ^^^ ((dg_sh x2 32) &&& 255)) * 1099511628211) ^^^ ((dg_sh x2 24) &&& 255)) * 1099511628211) ^^^ ((dg_sh x2 16) &&& 255)) * 1099511628211) ^^^ ((dg_sh x2 8) &&& 255)) * 1099511628211) ^^^ ((dg_sh x2 0) &&& 255)) * 1099511628211)), (0, .long x1), (2, .long x2)]) hx hb d_G_absorb_29 hl rfl (by decide) (Nat.le_of_ble_eq_true rfl) rfl (fun ls hl => ?_)
                  refine lv_goto (tgt := 7) hx hb d_G_absorb_32 (by decide) ?_
                  refine lv_iload hx hb d_G_absorb_7 (lv_at hl 0 rfl) ?_
                  refine lv_if_lt (tgt := 35) hx hb d_G_absorb_9 (by decide) (fun h9 => ?_) (fun h9 => ?_)
                  · refine lv_lload hx hb d_G_absorb_35 (lv_at hl 1 rfl) ?_
                    exact W.lret (v := (((((((((((((((x1 ^^^ ((dg_sh x2 56) &&& 255)) * 1099511628211) ^^^ ((dg_sh x2 48) &&& 255)) * 1099511628211) ^^^ ((dg_sh x2 40) &&& 255)) * 1099511628211) ^^^ ((dg_sh x2 32) &&& 255)) * 1099511628211) ^^^ ((dg_sh x2 24) &&& 255)) * 1099511628211) ^^^ ((dg_sh x2 16) &&& 255)) * 1099511628211) ^^^ ((dg_sh x2 8) &&& 255)) * 1099511628211) ^^^ ((dg_sh x2 0) &&& 255)) * 1099511628211) hx hb hr (fun t ht hW => ⟨(((((((((((((((x1 ^^^ ((dg_sh x2 56) &&& 255)) * 1099511628211) ^^^ ((dg_sh x2 48) &&& 255)) * 1099511628211) ^^^ ((dg_sh x2 40) &&& 255)) * 1099511628211) ^^^ ((dg_sh x2 32) &&& 255)) * 1099511628211) ^^^ ((dg_sh x2 24) &&& 255)) * 1099511628211) ^^^ ((dg_sh x2 16) &&& 255)) * 1099511628211) ^^^ ((dg_sh x2 8) &&& 255)) * 1099511628211) ^^^ ((dg_sh x2 0) &&& 255)) * 1099511628211, rfl, rfl, ht⟩) (fun q h => nomatch h) d_G_absorb_37
                  · exact absurd h9 (by decide)
set_option maxHeartbeats 4000000 in
set_option maxRecDepth 100000 in
theorem c_G_of3 (l : Launch) (x1 x2 x3 : Int64) : Met l my_G_of3 (tb_w my_G_of3 mb_G_of3 6 (some .long)) ({ frames := 1, cells := 0, slots := 0, locals := 26 }) (fun av _ => av = [.long x1, .long x2, .long x3].toArray) (vp_Sl (fun r => r = dg_3 x1 x2 x3)) 0 0 (fun _ => False) := by
  refine Met.ofW (cc := mb_G_of3) (maxL := 6) (ret := (some .long)) (by decide) rfl ?_
  intro p e s m args below meth c s₁ B hml hv
  subst hv
  have hx := B.exec
  have hb := B.bytes
  have hr := B.returns
  have hts := atoms_spec (ws := tb_w my_G_of3 mb_G_of3 6 (some .long)) B.pre
  have hw : ∀ w ∈ gt_tbl, w.before [.long x1, .long x2, .long x3].toArray s = true := fun w h => hts w (List.mem_cons_of_mem _ h)
  have hown : s.vm.findClass cr_G = some m.cls := findClass_of_methodNamed B.named
  have hlocks := B.notSynchronized
  have hl := lv_entry ([.long x1, .long x2, .long x3]) (n := 6) (Nat.le_of_ble_eq_true rfl)
  rw [lg_entry_eq]
  generalize (lg_sl ([.long x1, .long x2, .long x3]) ++ List.replicate (6 - (lg_sl ([.long x1, .long x2, .long x3])).length) Slot.unset).toArray = ls at hl ⊢
  have hl : lv_has ls 6 [(0, .long x1), (2, .long x2), (4, .long x3)] := hl
  refine lv_ldc2 (v := 1469598103934665603) hx hb hown (hw _ ww_103) d_G_of3_0 ?_
  refine lv_lload_n hx hb d_G_of3_3 rfl (lv_at hl 0 rfl) ?_
  refine vp_callSl (W.runS (As := [.long 1469598103934665603, .long x1]) (rest := []) ⟨hx, hb, hml, hown, hts⟩ (c_G_absorb l 1469598103934665603 x1) (tb_S hw cy_G_absorb ww_104 ww_105 rfl rfl ⟨Nat.le_of_ble_eq_true rfl, Nat.le_of_ble_eq_true rfl⟩) preEq rfl rfl hl.1 rfl (lv_room (Nat.le_of_ble_eq_true rfl)) d_G_of3_4 ⟨Nat.le_of_ble_eq_true rfl, Nat.le_of_ble_eq_true rfl⟩) (fun r10 er10 => ?_)
  subst er10
  refine lv_lload_n hx hb d_G_of3_7 rfl (lv_at hl 1 rfl) ?_
  refine vp_callSl (W.runS (As := [.long (dg_a 1469598103934665603 x1), .long x2]) (rest := []) ⟨hx, hb, hml, hown, hts⟩ (c_G_absorb l (dg_a 1469598103934665603 x1) x2) (tb_S hw cy_G_absorb ww_104 ww_105 rfl rfl ⟨Nat.le_of_ble_eq_true rfl, Nat.le_of_ble_eq_true rfl⟩) preEq rfl rfl hl.1 rfl (lv_room (Nat.le_of_ble_eq_true rfl)) d_G_of3_8 ⟨Nat.le_of_ble_eq_true rfl, Nat.le_of_ble_eq_true rfl⟩) (fun r11 er11 => ?_)
  subst er11
  refine lv_lload hx hb d_G_of3_11 (lv_at hl 2 rfl) ?_
  refine vp_callSl (W.runS (As := [.long (dg_a (dg_a 1469598103934665603 x1) x2), .long x3]) (rest := []) ⟨hx, hb, hml, hown, hts⟩ (c_G_absorb l (dg_a (dg_a 1469598103934665603 x1) x2) x3) (tb_S hw cy_G_absorb ww_104 ww_105 rfl rfl ⟨Nat.le_of_ble_eq_true rfl, Nat.le_of_ble_eq_true rfl⟩) preEq rfl rfl hl.1 rfl (lv_room (Nat.le_of_ble_eq_true rfl)) d_G_of3_13 ⟨Nat.le_of_ble_eq_true rfl, Nat.le_of_ble_eq_true rfl⟩) (fun r12 er12 => ?_)
  subst er12
  refine vp_callSl (W.runS (As := [.long (dg_a (dg_a (dg_a 1469598103934665603 x1) x2) x3)]) (rest := []) ⟨hx, hb, hml, hown, hts⟩ (c_G_finish l (dg_a (dg_a (dg_a 1469598103934665603 x1) x2) x3)) (tb_S hw cy_G_finish ww_109 ww_110 rfl rfl ⟨Nat.le_of_ble_eq_true rfl, Nat.le_of_ble_eq_true rfl⟩) preEq rfl rfl hl.1 rfl (lv_room (Nat.le_of_ble_eq_true rfl)) d_G_of3_16 ⟨Nat.le_of_ble_eq_true rfl, Nat.le_of_ble_eq_true rfl⟩) (fun r13 er13 => ?_)
  subst er13
  exact W.lret (v := dg_f (dg_a (dg_a (dg_a 1469598103934665603 x1) x2) x3)) hx hb hr (fun t ht hW => ⟨dg_f (dg_a (dg_a (dg_a 1469598103934665603 x1) x2) x3), rfl, rfl, ht⟩) (fun q h => nomatch h) d_G_of3_19
set_option maxHeartbeats 4000000 in
set_option maxRecDepth 100000 in
theorem c_G_of4 (l : Launch) (x1 x2 x3 x4 : Int64) : Met l my_G_of4 (tb_w my_G_of4 mb_G_of4 8 (some .long)) ({ frames := 1, cells := 0, slots := 0, locals := 26 }) (fun av _ => av = [.long x1, .long x2, .long x3, .long x4].toArray) (vp_Sl (fun r => r = dg_4 x1 x2 x3 x4)) 0 0 (fun _ => False) := by
  refine Met.ofW (cc := mb_G_of4) (maxL := 8) (ret := (some .long)) (by decide) rfl ?_
  intro p e s m args below meth c s₁ B hml hv
  subst hv
  have hx := B.exec
  have hb := B.bytes
  have hr := B.returns
  have hts := atoms_spec (ws := tb_w my_G_of4 mb_G_of4 8 (some .long)) B.pre
  have hw : ∀ w ∈ gt_tbl, w.before [.long x1, .long x2, .long x3, .long x4].toArray s = true := fun w h => hts w (List.mem_cons_of_mem _ h)
  have hown : s.vm.findClass cr_G = some m.cls := findClass_of_methodNamed B.named
  have hlocks := B.notSynchronized
  have hl := lv_entry ([.long x1, .long x2, .long x3, .long x4]) (n := 8) (Nat.le_of_ble_eq_true rfl)
  rw [lg_entry_eq]
  generalize (lg_sl ([.long x1, .long x2, .long x3, .long x4]) ++ List.replicate (8 - (lg_sl ([.long x1, .long x2, .long x3, .long x4])).length) Slot.unset).toArray = ls at hl ⊢
  have hl : lv_has ls 8 [(0, .long x1), (2, .long x2), (4, .long x3), (6, .long x4)] := hl
  refine lv_ldc2 (v := 1469598103934665603) hx hb hown (hw _ ww_103) d_G_of4_0 ?_
  refine lv_lload_n hx hb d_G_of4_3 rfl (lv_at hl 0 rfl) ?_
  refine vp_callSl (W.runS (As := [.long 1469598103934665603, .long x1]) (rest := []) ⟨hx, hb, hml, hown, hts⟩ (c_G_absorb l 1469598103934665603 x1) (tb_S hw cy_G_absorb ww_104 ww_105 rfl rfl ⟨Nat.le_of_ble_eq_true rfl, Nat.le_of_ble_eq_true rfl⟩) preEq rfl rfl hl.1 rfl (lv_room (Nat.le_of_ble_eq_true rfl)) d_G_of4_4 ⟨Nat.le_of_ble_eq_true rfl, Nat.le_of_ble_eq_true rfl⟩) (fun r14 er14 => ?_)
  subst er14
  refine lv_lload_n hx hb d_G_of4_7 rfl (lv_at hl 1 rfl) ?_
  refine vp_callSl (W.runS (As := [.long (dg_a 1469598103934665603 x1), .long x2]) (rest := []) ⟨hx, hb, hml, hown, hts⟩ (c_G_absorb l (dg_a 1469598103934665603 x1) x2) (tb_S hw cy_G_absorb ww_104 ww_105 rfl rfl ⟨Nat.le_of_ble_eq_true rfl, Nat.le_of_ble_eq_true rfl⟩) preEq rfl rfl hl.1 rfl (lv_room (Nat.le_of_ble_eq_true rfl)) d_G_of4_8 ⟨Nat.le_of_ble_eq_true rfl, Nat.le_of_ble_eq_true rfl⟩) (fun r15 er15 => ?_)
  subst er15
  refine lv_lload hx hb d_G_of4_11 (lv_at hl 2 rfl) ?_
  refine vp_callSl (W.runS (As := [.long (dg_a (dg_a 1469598103934665603 x1) x2), .long x3]) (rest := []) ⟨hx, hb, hml, hown, hts⟩ (c_G_absorb l (dg_a (dg_a 1469598103934665603 x1) x2) x3) (tb_S hw cy_G_absorb ww_104 ww_105 rfl rfl ⟨Nat.le_of_ble_eq_true rfl, Nat.le_of_ble_eq_true rfl⟩) preEq rfl rfl hl.1 rfl (lv_room (Nat.le_of_ble_eq_true rfl)) d_G_of4_13 ⟨Nat.le_of_ble_eq_true rfl, Nat.le_of_ble_eq_true rfl⟩) (fun r16 er16 => ?_)
  subst er16
  refine lv_lload hx hb d_G_of4_16 (lv_at hl 3 rfl) ?_
  refine vp_callSl (W.runS (As := [.long (dg_a (dg_a (dg_a 1469598103934665603 x1) x2) x3), .long x4]) (rest := []) ⟨hx, hb, hml, hown, hts⟩ (c_G_absorb l (dg_a (dg_a (dg_a 1469598103934665603 x1) x2) x3) x4) (tb_S hw cy_G_absorb ww_104 ww_105 rfl rfl ⟨Nat.le_of_ble_eq_true rfl, Nat.le_of_ble_eq_true rfl⟩) preEq rfl rfl hl.1 rfl (lv_room (Nat.le_of_ble_eq_true rfl)) d_G_of4_18 ⟨Nat.le_of_ble_eq_true rfl, Nat.le_of_ble_eq_true rfl⟩) (fun r17 er17 => ?_)
  subst er17
  refine vp_callSl (W.runS (As := [.long (dg_a (dg_a (dg_a (dg_a 1469598103934665603 x1) x2) x3) x4)]) (rest := []) ⟨hx, hb, hml, hown, hts⟩ (c_G_finish l (dg_a (dg_a (dg_a (dg_a 1469598103934665603 x1) x2) x3) x4)) (tb_S hw cy_G_finish ww_109 ww_110 rfl rfl ⟨Nat.le_of_ble_eq_true rfl, Nat.le_of_ble_eq_true rfl⟩) preEq rfl rfl hl.1 rfl (lv_room (Nat.le_of_ble_eq_true rfl)) d_G_of4_21 ⟨Nat.le_of_ble_eq_true rfl, Nat.le_of_ble_eq_true rfl⟩) (fun r18 er18 => ?_)
  subst er18
  exact W.lret (v := dg_f (dg_a (dg_a (dg_a (dg_a 1469598103934665603 x1) x2) x3) x4)) hx hb hr (fun t ht hW => ⟨dg_f (dg_a (dg_a (dg_a (dg_a 1469598103934665603 x1) x2) x3) x4), rfl, rfl, ht⟩) (fun q h => nomatch h) d_G_of4_24
set_option maxHeartbeats 4000000 in
set_option maxRecDepth 100000 in
theorem c_G_of5 (l : Launch) (x1 x2 x3 x4 x5 : Int64) : Met l my_G_of5 (tb_w my_G_of5 mb_G_of5 10 (some .long)) ({ frames := 1, cells := 0, slots := 0, locals := 26 }) (fun av _ => av = [.long x1, .long x2, .long x3, .long x4, .long x5].toArray) (vp_Sl (fun r => r = dg_5 x1 x2 x3 x4 x5)) 0 0 (fun _ => False) := by
  refine Met.ofW (cc := mb_G_of5) (maxL := 10) (ret := (some .long)) (by decide) rfl ?_
  intro p e s m args below meth c s₁ B hml hv
  subst hv
  have hx := B.exec
  have hb := B.bytes
  have hr := B.returns
  have hts := atoms_spec (ws := tb_w my_G_of5 mb_G_of5 10 (some .long)) B.pre
  have hw : ∀ w ∈ gt_tbl, w.before [.long x1, .long x2, .long x3, .long x4, .long x5].toArray s = true := fun w h => hts w (List.mem_cons_of_mem _ h)
  have hown : s.vm.findClass cr_G = some m.cls := findClass_of_methodNamed B.named
  have hlocks := B.notSynchronized
  have hl := lv_entry ([.long x1, .long x2, .long x3, .long x4, .long x5]) (n := 10) (Nat.le_of_ble_eq_true rfl)
  rw [lg_entry_eq]
  generalize (lg_sl ([.long x1, .long x2, .long x3, .long x4, .long x5]) ++ List.replicate (10 - (lg_sl ([.long x1, .long x2, .long x3, .long x4, .long x5])).length) Slot.unset).toArray = ls at hl ⊢
  have hl : lv_has ls 10 [(0, .long x1), (2, .long x2), (4, .long x3), (6, .long x4), (8, .long x5)] := hl
  refine lv_ldc2 (v := 1469598103934665603) hx hb hown (hw _ ww_103) d_G_of5_0 ?_
  refine lv_lload_n hx hb d_G_of5_3 rfl (lv_at hl 0 rfl) ?_
  refine vp_callSl (W.runS (As := [.long 1469598103934665603, .long x1]) (rest := []) ⟨hx, hb, hml, hown, hts⟩ (c_G_absorb l 1469598103934665603 x1) (tb_S hw cy_G_absorb ww_104 ww_105 rfl rfl ⟨Nat.le_of_ble_eq_true rfl, Nat.le_of_ble_eq_true rfl⟩) preEq rfl rfl hl.1 rfl (lv_room (Nat.le_of_ble_eq_true rfl)) d_G_of5_4 ⟨Nat.le_of_ble_eq_true rfl, Nat.le_of_ble_eq_true rfl⟩) (fun r19 er19 => ?_)
  subst er19
  refine lv_lload_n hx hb d_G_of5_7 rfl (lv_at hl 1 rfl) ?_
  refine vp_callSl (W.runS (As := [.long (dg_a 1469598103934665603 x1), .long x2]) (rest := []) ⟨hx, hb, hml, hown, hts⟩ (c_G_absorb l (dg_a 1469598103934665603 x1) x2) (tb_S hw cy_G_absorb ww_104 ww_105 rfl rfl ⟨Nat.le_of_ble_eq_true rfl, Nat.le_of_ble_eq_true rfl⟩) preEq rfl rfl hl.1 rfl (lv_room (Nat.le_of_ble_eq_true rfl)) d_G_of5_8 ⟨Nat.le_of_ble_eq_true rfl, Nat.le_of_ble_eq_true rfl⟩) (fun r20 er20 => ?_)
  subst er20
  refine lv_lload hx hb d_G_of5_11 (lv_at hl 2 rfl) ?_
  refine vp_callSl (W.runS (As := [.long (dg_a (dg_a 1469598103934665603 x1) x2), .long x3]) (rest := []) ⟨hx, hb, hml, hown, hts⟩ (c_G_absorb l (dg_a (dg_a 1469598103934665603 x1) x2) x3) (tb_S hw cy_G_absorb ww_104 ww_105 rfl rfl ⟨Nat.le_of_ble_eq_true rfl, Nat.le_of_ble_eq_true rfl⟩) preEq rfl rfl hl.1 rfl (lv_room (Nat.le_of_ble_eq_true rfl)) d_G_of5_13 ⟨Nat.le_of_ble_eq_true rfl, Nat.le_of_ble_eq_true rfl⟩) (fun r21 er21 => ?_)
  subst er21
  refine lv_lload hx hb d_G_of5_16 (lv_at hl 3 rfl) ?_
  refine vp_callSl (W.runS (As := [.long (dg_a (dg_a (dg_a 1469598103934665603 x1) x2) x3), .long x4]) (rest := []) ⟨hx, hb, hml, hown, hts⟩ (c_G_absorb l (dg_a (dg_a (dg_a 1469598103934665603 x1) x2) x3) x4) (tb_S hw cy_G_absorb ww_104 ww_105 rfl rfl ⟨Nat.le_of_ble_eq_true rfl, Nat.le_of_ble_eq_true rfl⟩) preEq rfl rfl hl.1 rfl (lv_room (Nat.le_of_ble_eq_true rfl)) d_G_of5_18 ⟨Nat.le_of_ble_eq_true rfl, Nat.le_of_ble_eq_true rfl⟩) (fun r22 er22 => ?_)
  subst er22
  refine lv_lload hx hb d_G_of5_21 (lv_at hl 4 rfl) ?_
  refine vp_callSl (W.runS (As := [.long (dg_a (dg_a (dg_a (dg_a 1469598103934665603 x1) x2) x3) x4), .long x5]) (rest := []) ⟨hx, hb, hml, hown, hts⟩ (c_G_absorb l (dg_a (dg_a (dg_a (dg_a 1469598103934665603 x1) x2) x3) x4) x5) (tb_S hw cy_G_absorb ww_104 ww_105 rfl rfl ⟨Nat.le_of_ble_eq_true rfl, Nat.le_of_ble_eq_true rfl⟩) preEq rfl rfl hl.1 rfl (lv_room (Nat.le_of_ble_eq_true rfl)) d_G_of5_23 ⟨Nat.le_of_ble_eq_true rfl, Nat.le_of_ble_eq_true rfl⟩) (fun r23 er23 => ?_)
  subst er23
  refine vp_callSl (W.runS (As := [.long (dg_a (dg_a (dg_a (dg_a (dg_a 1469598103934665603 x1) x2) x3) x4) x5)]) (rest := []) ⟨hx, hb, hml, hown, hts⟩ (c_G_finish l (dg_a (dg_a (dg_a (dg_a (dg_a 1469598103934665603 x1) x2) x3) x4) x5)) (tb_S hw cy_G_finish ww_109 ww_110 rfl rfl ⟨Nat.le_of_ble_eq_true rfl, Nat.le_of_ble_eq_true rfl⟩) preEq rfl rfl hl.1 rfl (lv_room (Nat.le_of_ble_eq_true rfl)) d_G_of5_26 ⟨Nat.le_of_ble_eq_true rfl, Nat.le_of_ble_eq_true rfl⟩) (fun r24 er24 => ?_)
  subst er24
  exact W.lret (v := dg_f (dg_a (dg_a (dg_a (dg_a (dg_a 1469598103934665603 x1) x2) x3) x4) x5)) hx hb hr (fun t ht hW => ⟨dg_f (dg_a (dg_a (dg_a (dg_a (dg_a 1469598103934665603 x1) x2) x3) x4) x5), rfl, rfl, ht⟩) (fun q h => nomatch h) d_G_of5_29
set_option maxHeartbeats 4000000 in
set_option maxRecDepth 100000 in
theorem c_G_of6 (l : Launch) (x1 x2 x3 x4 x5 x6 : Int64) : Met l my_G_of6 (tb_w my_G_of6 mb_G_of6 14 (some .long)) ({ frames := 1, cells := 0, slots := 0, locals := 26 }) (fun av _ => av = [.long x1, .long x2, .long x3, .long x4, .long x5, .long x6].toArray) (vp_Sl (fun r => r = dg_6 x1 x2 x3 x4 x5 x6)) 0 0 (fun _ => False) := by
  refine Met.ofW (cc := mb_G_of6) (maxL := 14) (ret := (some .long)) (by decide) rfl ?_
  intro p e s m args below meth c s₁ B hml hv
  subst hv
  have hx := B.exec
  have hb := B.bytes
  have hr := B.returns
  have hts := atoms_spec (ws := tb_w my_G_of6 mb_G_of6 14 (some .long)) B.pre
  have hw : ∀ w ∈ gt_tbl, w.before [.long x1, .long x2, .long x3, .long x4, .long x5, .long x6].toArray s = true := fun w h => hts w (List.mem_cons_of_mem _ h)
  have hown : s.vm.findClass cr_G = some m.cls := findClass_of_methodNamed B.named
  have hlocks := B.notSynchronized
  have hl := lv_entry ([.long x1, .long x2, .long x3, .long x4, .long x5, .long x6]) (n := 14) (Nat.le_of_ble_eq_true rfl)
  rw [lg_entry_eq]
  generalize (lg_sl ([.long x1, .long x2, .long x3, .long x4, .long x5, .long x6]) ++ List.replicate (14 - (lg_sl ([.long x1, .long x2, .long x3, .long x4, .long x5, .long x6])).length) Slot.unset).toArray = ls at hl ⊢
  have hl : lv_has ls 14 [(0, .long x1), (2, .long x2), (4, .long x3), (6, .long x4), (8, .long x5), (10, .long x6)] := hl
  refine lv_ldc2 (v := 1469598103934665603) hx hb hown (hw _ ww_103) d_G_of6_0 ?_
  refine lv_lload_n hx hb d_G_of6_3 rfl (lv_at hl 0 rfl) ?_
  refine vp_callSl (W.runS (As := [.long 1469598103934665603, .long x1]) (rest := []) ⟨hx, hb, hml, hown, hts⟩ (c_G_absorb l 1469598103934665603 x1) (tb_S hw cy_G_absorb ww_104 ww_105 rfl rfl ⟨Nat.le_of_ble_eq_true rfl, Nat.le_of_ble_eq_true rfl⟩) preEq rfl rfl hl.1 rfl (lv_room (Nat.le_of_ble_eq_true rfl)) d_G_of6_4 ⟨Nat.le_of_ble_eq_true rfl, Nat.le_of_ble_eq_true rfl⟩) (fun r25 er25 => ?_)
  subst er25
  refine lv_lload_n hx hb d_G_of6_7 rfl (lv_at hl 1 rfl) ?_
  refine vp_callSl (W.runS (As := [.long (dg_a 1469598103934665603 x1), .long x2]) (rest := []) ⟨hx, hb, hml, hown, hts⟩ (c_G_absorb l (dg_a 1469598103934665603 x1) x2) (tb_S hw cy_G_absorb ww_104 ww_105 rfl rfl ⟨Nat.le_of_ble_eq_true rfl, Nat.le_of_ble_eq_true rfl⟩) preEq rfl rfl hl.1 rfl (lv_room (Nat.le_of_ble_eq_true rfl)) d_G_of6_8 ⟨Nat.le_of_ble_eq_true rfl, Nat.le_of_ble_eq_true rfl⟩) (fun r26 er26 => ?_)
  subst er26
  refine lv_lload hx hb d_G_of6_11 (lv_at hl 2 rfl) ?_
  refine vp_callSl (W.runS (As := [.long (dg_a (dg_a 1469598103934665603 x1) x2), .long x3]) (rest := []) ⟨hx, hb, hml, hown, hts⟩ (c_G_absorb l (dg_a (dg_a 1469598103934665603 x1) x2) x3) (tb_S hw cy_G_absorb ww_104 ww_105 rfl rfl ⟨Nat.le_of_ble_eq_true rfl, Nat.le_of_ble_eq_true rfl⟩) preEq rfl rfl hl.1 rfl (lv_room (Nat.le_of_ble_eq_true rfl)) d_G_of6_13 ⟨Nat.le_of_ble_eq_true rfl, Nat.le_of_ble_eq_true rfl⟩) (fun r27 er27 => ?_)
  subst er27
  refine lv_lstore (lv' := [(12, .long (dg_a (dg_a (dg_a 1469598103934665603 x1) x2) x3)), (0, .long x1), (2, .long x2), (4, .long x3), (6, .long x4), (8, .long x5), (10, .long x6)]) hx hb d_G_of6_16 hl (Nat.le_of_ble_eq_true rfl) rfl (fun ls hl => ?_)
  refine lv_lload hx hb d_G_of6_18 (lv_at hl 0 rfl) ?_
  refine lv_lload hx hb d_G_of6_20 (lv_at hl 4 rfl) ?_
  refine vp_callSl (W.runS (As := [.long (dg_a (dg_a (dg_a 1469598103934665603 x1) x2) x3), .long x4]) (rest := []) ⟨hx, hb, hml, hown, hts⟩ (c_G_absorb l (dg_a (dg_a (dg_a 1469598103934665603 x1) x2) x3) x4) (tb_S hw cy_G_absorb ww_104 ww_105 rfl rfl ⟨Nat.le_of_ble_eq_true rfl, Nat.le_of_ble_eq_true rfl⟩) preEq rfl rfl hl.1 rfl (lv_room (Nat.le_of_ble_eq_true rfl)) d_G_of6_22 ⟨Nat.le_of_ble_eq_true rfl, Nat.le_of_ble_eq_true rfl⟩) (fun r28 er28 => ?_)
  subst er28
  refine lv_lload hx hb d_G_of6_25 (lv_at hl 5 rfl) ?_
  refine vp_callSl (W.runS (As := [.long (dg_a (dg_a (dg_a (dg_a 1469598103934665603 x1) x2) x3) x4), .long x5]) (rest := []) ⟨hx, hb, hml, hown, hts⟩ (c_G_absorb l (dg_a (dg_a (dg_a (dg_a 1469598103934665603 x1) x2) x3) x4) x5) (tb_S hw cy_G_absorb ww_104 ww_105 rfl rfl ⟨Nat.le_of_ble_eq_true rfl, Nat.le_of_ble_eq_true rfl⟩) preEq rfl rfl hl.1 rfl (lv_room (Nat.le_of_ble_eq_true rfl)) d_G_of6_27 ⟨Nat.le_of_ble_eq_true rfl, Nat.le_of_ble_eq_true rfl⟩) (fun r29 er29 => ?_)
  subst er29
  refine lv_lload hx hb d_G_of6_30 (lv_at hl 6 rfl) ?_
  refine vp_callSl (W.runS (As := [.long (dg_a (dg_a (dg_a (dg_a (dg_a 1469598103934665603 x1) x2) x3) x4) x5), .long x6]) (rest := []) ⟨hx, hb, hml, hown, hts⟩ (c_G_absorb l (dg_a (dg_a (dg_a (dg_a (dg_a 1469598103934665603 x1) x2) x3) x4) x5) x6) (tb_S hw cy_G_absorb ww_104 ww_105 rfl rfl ⟨Nat.le_of_ble_eq_true rfl, Nat.le_of_ble_eq_true rfl⟩) preEq rfl rfl hl.1 rfl (lv_room (Nat.le_of_ble_eq_true rfl)) d_G_of6_32 ⟨Nat.le_of_ble_eq_true rfl, Nat.le_of_ble_eq_true rfl⟩) (fun r30 er30 => ?_)
  subst er30
  refine vp_callSl (W.runS (As := [.long (dg_a (dg_a (dg_a (dg_a (dg_a (dg_a 1469598103934665603 x1) x2) x3) x4) x5) x6)]) (rest := []) ⟨hx, hb, hml, hown, hts⟩ (c_G_finish l (dg_a (dg_a (dg_a (dg_a (dg_a (dg_a 1469598103934665603 x1) x2) x3) x4) x5) x6)) (tb_S hw cy_G_finish ww_109 ww_110 rfl rfl ⟨Nat.le_of_ble_eq_true rfl, Nat.le_of_ble_eq_true rfl⟩) preEq rfl rfl hl.1 rfl (lv_room (Nat.le_of_ble_eq_true rfl)) d_G_of6_35 ⟨Nat.le_of_ble_eq_true rfl, Nat.le_of_ble_eq_true rfl⟩) (fun r31 er31 => ?_)
  subst er31
  exact W.lret (v := dg_f (dg_a (dg_a (dg_a (dg_a (dg_a (dg_a 1469598103934665603 x1) x2) x3) x4) x5) x6)) hx hb hr (fun t ht hW => ⟨dg_f (dg_a (dg_a (dg_a (dg_a (dg_a (dg_a 1469598103934665603 x1) x2) x3) x4) x5) x6), rfl, rfl, ht⟩) (fun q h => nomatch h) d_G_of6_38
