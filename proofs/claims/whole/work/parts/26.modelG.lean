theorem ww_645 : (Jvm.Cond.fieldLink "PakeDeskModel" (13 : Nat) "PakeDeskModel" "words" "[J") ∈ gt_tbl := gt_m (List.mem_append_right _ (List.mem_append_right _ (List.mem_append_right _ (List.mem_append_left _ (List.mem_of_getElem? (i := 165) (by decide +kernel)))))) (by decide)
theorem ww_647 : (Jvm.Cond.fieldLink "PakeDeskModel" (20 : Nat) "PakeDeskModel" "verifiers" "[J") ∈ gt_tbl := gt_m (List.mem_append_right _ (List.mem_append_right _ (List.mem_append_right _ (List.mem_append_left _ (List.mem_of_getElem? (i := 167) (by decide +kernel)))))) (by decide)
theorem ww_727 : (Jvm.Cond.methodLink "PakeDeskModel" (113 : Nat) ({ cls := "PakeDeskModel", name := "isUser", desc := "(I)Z" } : Jvm.MethodName)) ∈ gt_tbl := gt_m (List.mem_append_right _ (List.mem_append_right _ (List.mem_append_right _ (List.mem_append_right _ (List.mem_of_getElem? (i := 7) (by decide +kernel)))))) (by decide)
theorem ww_728 : (Jvm.Cond.static ({ cls := "PakeDeskModel", name := "isUser", desc := "(I)Z" } : Jvm.MethodName)) ∈ gt_tbl := gt_m (List.mem_append_right _ (List.mem_append_right _ (List.mem_append_right _ (List.mem_append_right _ (List.mem_of_getElem? (i := 8) (by decide +kernel)))))) (by decide)
theorem ww_729 : (Jvm.Cond.code ({ cls := "PakeDeskModel", name := "isUser", desc := "(I)Z" } : Jvm.MethodName) prog_9_method_11_code (1 : Nat) (Option.some Jvm.ClassFile.FieldType.boolean)) ∈ gt_tbl := gt_m (List.mem_append_right _ (List.mem_append_right _ (List.mem_append_right _ (List.mem_append_right _ (List.mem_of_getElem? (i := 9) (by decide +kernel)))))) (by decide)
theorem ww_730 : (Jvm.Cond.methodLink "PakeDeskModel" (117 : Nat) ({ cls := "PakeDeskModel", name := "isWay", desc := "(I)Z" } : Jvm.MethodName)) ∈ gt_tbl := gt_m (List.mem_append_right _ (List.mem_append_right _ (List.mem_append_right _ (List.mem_append_right _ (List.mem_of_getElem? (i := 10) (by decide +kernel)))))) (by decide)
theorem ww_731 : (Jvm.Cond.static ({ cls := "PakeDeskModel", name := "isWay", desc := "(I)Z" } : Jvm.MethodName)) ∈ gt_tbl := gt_m (List.mem_append_right _ (List.mem_append_right _ (List.mem_append_right _ (List.mem_append_right _ (List.mem_of_getElem? (i := 11) (by decide +kernel)))))) (by decide)
theorem ww_732 : (Jvm.Cond.code ({ cls := "PakeDeskModel", name := "isWay", desc := "(I)Z" } : Jvm.MethodName) prog_9_method_12_code (1 : Nat) (Option.some Jvm.ClassFile.FieldType.boolean)) ∈ gt_tbl := gt_m (List.mem_append_right _ (List.mem_append_right _ (List.mem_append_right _ (List.mem_append_right _ (List.mem_of_getElem? (i := 12) (by decide +kernel)))))) (by decide)
theorem ww_733 : (Jvm.Cond.methodLink "PakeDeskModel" (120 : Nat) ({ cls := "PakeDeskModel", name := "word", desc := "(IJ)J" } : Jvm.MethodName)) ∈ gt_tbl := gt_m (List.mem_append_right _ (List.mem_append_right _ (List.mem_append_right _ (List.mem_append_right _ (List.mem_of_getElem? (i := 13) (by decide +kernel)))))) (by decide)
theorem ww_735 : (Jvm.Cond.instanceMethod ({ cls := "PakeDeskModel", name := "word", desc := "(IJ)J" } : Jvm.MethodName)) ∈ gt_tbl := gt_m (List.mem_append_right _ (List.mem_append_right _ (List.mem_append_right _ (List.mem_append_right _ (List.mem_of_getElem? (i := 15) (by decide +kernel)))))) (by decide)
theorem ww_736 : (Jvm.Cond.code ({ cls := "PakeDeskModel", name := "word", desc := "(IJ)J" } : Jvm.MethodName) prog_9_method_8_code (4 : Nat) (Option.some Jvm.ClassFile.FieldType.long)) ∈ gt_tbl := gt_m (List.mem_append_right _ (List.mem_append_right _ (List.mem_append_right _ (List.mem_append_right _ (List.mem_of_getElem? (i := 16) (by decide +kernel)))))) (by decide)
theorem ww_791 : (Jvm.Cond.methodLink "PakeDeskModel" (148 : Nat) ({ cls := "PakeDeskModel", name := "open", desc := "(IIJ)I" } : Jvm.MethodName)) ∈ gt_tbl := gt_m (List.mem_append_right _ (List.mem_append_right _ (List.mem_append_right _ (List.mem_append_right _ (List.mem_of_getElem? (i := 71) (by decide +kernel)))))) (by decide)
theorem ww_793 : (Jvm.Cond.instanceMethod ({ cls := "PakeDeskModel", name := "open", desc := "(IIJ)I" } : Jvm.MethodName)) ∈ gt_tbl := gt_m (List.mem_append_right _ (List.mem_append_right _ (List.mem_append_right _ (List.mem_append_right _ (List.mem_of_getElem? (i := 73) (by decide +kernel)))))) (by decide)
theorem ww_794 : (Jvm.Cond.code ({ cls := "PakeDeskModel", name := "open", desc := "(IIJ)I" } : Jvm.MethodName) prog_9_method_18_code (6 : Nat) (Option.some Jvm.ClassFile.FieldType.int)) ∈ gt_tbl := gt_m (List.mem_append_right _ (List.mem_append_right _ (List.mem_append_right _ (List.mem_append_right _ (List.mem_of_getElem? (i := 74) (by decide +kernel)))))) (by decide)
theorem ww_800 : (Jvm.Cond.methodLink "PakeDeskModel" (154 : Nat) ({ cls := "PakeDeskModel", name := "isBlocked", desc := "(I)Z" } : Jvm.MethodName)) ∈ gt_tbl := gt_m (List.mem_append_right _ (List.mem_append_right _ (List.mem_append_right _ (List.mem_append_right _ (List.mem_of_getElem? (i := 80) (by decide +kernel)))))) (by decide)
theorem ww_802 : (Jvm.Cond.instanceMethod ({ cls := "PakeDeskModel", name := "isBlocked", desc := "(I)Z" } : Jvm.MethodName)) ∈ gt_tbl := gt_m (List.mem_append_right _ (List.mem_append_right _ (List.mem_append_right _ (List.mem_append_right _ (List.mem_of_getElem? (i := 82) (by decide +kernel)))))) (by decide)
theorem ww_803 : (Jvm.Cond.code ({ cls := "PakeDeskModel", name := "isBlocked", desc := "(I)Z" } : Jvm.MethodName) prog_9_method_20_code (2 : Nat) (Option.some Jvm.ClassFile.FieldType.boolean)) ∈ gt_tbl := gt_m (List.mem_append_right _ (List.mem_append_right _ (List.mem_append_right _ (List.mem_append_right _ (List.mem_of_getElem? (i := 83) (by decide +kernel)))))) (by decide)
theorem cy_M_isUser : tb_C my_M_isUser mb_M_isUser 1 (some .boolean) 1 := ⟨ww_729, ww_3, by decide, by decide, by decide +kernel⟩
theorem cy_M_isWay : tb_C my_M_isWay mb_M_isWay 1 (some .boolean) 1 := ⟨ww_732, ww_3, by decide, by decide, by decide +kernel⟩
theorem cy_M_word : tb_C my_M_word mb_M_word 4 (some .long) 2 := ⟨ww_736, ww_3, by decide, by decide, by decide +kernel⟩
theorem cy_M_open : tb_C my_M_open mb_M_open 6 (some .int) 3 := ⟨ww_794, ww_3, by decide, by decide, by decide +kernel⟩
theorem cy_M_isBlocked : tb_C my_M_isBlocked mb_M_isBlocked 2 (some .boolean) 1 := ⟨ww_803, ww_3, by decide, by decide, by decide +kernel⟩
theorem wp_M_word : Cond.selects "PakeDeskModel" ⟨"PakeDeskModel", "word", "(IJ)J"⟩ ⟨"PakeDeskModel", "word", "(IJ)J"⟩ ∈ gt_tbl := gt_m (List.mem_append_left _ (List.mem_map.mpr ⟨(⟨"PakeDeskModel", "word", "(IJ)J"⟩, 25), by decide +kernel, rfl⟩)) (by decide)
theorem wp_M_open : Cond.selects "PakeDeskModel" ⟨"PakeDeskModel", "open", "(IIJ)I"⟩ ⟨"PakeDeskModel", "open", "(IIJ)I"⟩ ∈ gt_tbl := gt_m (List.mem_append_left _ (List.mem_map.mpr ⟨(⟨"PakeDeskModel", "open", "(IIJ)I"⟩, 25), by decide +kernel, rfl⟩)) (by decide)
theorem wp_M_isBlocked : Cond.selects "PakeDeskModel" ⟨"PakeDeskModel", "isBlocked", "(I)Z"⟩ ⟨"PakeDeskModel", "isBlocked", "(I)Z"⟩ ∈ gt_tbl := gt_m (List.mem_append_left _ (List.mem_map.mpr ⟨(⟨"PakeDeskModel", "isBlocked", "(I)Z"⟩, 25), by decide +kernel, rfl⟩)) (by decide)
theorem n40 {n : Nat} (h : n < 40) : ¬ nI n = 40 := fun q => by
  have : nI n = nI 40 := q
  rw [nI_eq (by omega) (by decide)] at this
  omega
set_option maxHeartbeats 4000000 in
set_option maxRecDepth 100000 in
theorem c_M_register1 (l : Launch) (G : va_G) (ct : Nat → ClassId) (sz : Nat) (hm : Nat) (th : Int32) (sd : Int64) (nw : Int32) (hh : Int64) (q1 : Nat) (q2 : Nat) (q3 : Nat) (q4 : Nat) (q5 : Nat) (q6 : Nat) (q7 : Nat) (q8 : Nat) (q9 : Nat) (q10 : Nat) (q11 : Nat) (q12 : Nat) (q13 : Nat) (q14 : Nat) (q15 : Nat) (q16 : Nat) (q17 : Nat) (q18 : Nat) (q19 : Nat) (q20 : Nat) (n : Nat) (a1 : Nat → Int32) (a2 : Nat → Int64) (a3 : Nat → Int64) (a4 : Nat → Int64) (k : Nat) (wy : Int32) (pw : Int64) (sl : Int64) (hk : k < 8) (hwi : wy_in wy) : Met l my_M_register (tb_w my_M_register mb_M_register 7 (some .boolean)) ({ frames := 3, cells := 0, slots := 0, locals := 72 }) (wk_P [.ref hm, .int (nI k), .int wy, .long pw, .long sl] G ct [(hm, .inr (4, [.int th, .long sd, .int nw, .long hh, .ref q1, .ref q2, .ref q3, .ref q4, .ref q5, .ref q6, .ref q7, .ref q8, .int (nI n), .ref q9, .ref q10, .ref q11, .ref q12, .ref q13, .ref q14, .ref q15, .ref q16, .ref q17, .ref q18, .ref q19, .ref q20])), (q1, .inl ((ct 0), 8, .inl a1)), (q2, .inl ((ct 1), 8, .inr (.inl a2))), (q3, .inl ((ct 1), 8, .inr (.inl a3))), (q4, .inl ((ct 1), 8, .inr (.inl a4)))] sz) (wk_Q (wk_oi (S := Int64) (fun z2 => 1) (fun _ => True)) (fun z2 : Int64 => [(hm, .inr (4, [.int 0, .long sd, .int nw, .long z2, .ref q1, .ref q2, .ref q3, .ref q4, .ref q5, .ref q6, .ref q7, .ref q8, .int (nI n), .ref q9, .ref q10, .ref q11, .ref q12, .ref q13, .ref q14, .ref q15, .ref q16, .ref q17, .ref q18, .ref q19, .ref q20])), (q1, .inl ((ct 0), 8, .inl (upd a1 k wy))), (q2, .inl ((ct 1), 8, .inr (.inl (vp_updL a2 k (lN (wd_n (nI k) pw)))))), (q3, .inl ((ct 1), 8, .inr (.inl (vp_updL a3 k sl)))), (q4, .inl ((ct 1), 8, .inr (.inl (vp_updL a4 k (lN (pw_m 4 (ex_n sl (nI k) pw)))))))]) G (va_A [(hm, .inr (4, [.int th, .long sd, .int nw, .long hh, .ref q1, .ref q2, .ref q3, .ref q4, .ref q5, .ref q6, .ref q7, .ref q8, .int (nI n), .ref q9, .ref q10, .ref q11, .ref q12, .ref q13, .ref q14, .ref q15, .ref q16, .ref q17, .ref q18, .ref q19, .ref q20])), (q1, .inl ((ct 0), 8, .inl a1)), (q2, .inl ((ct 1), 8, .inr (.inl a2))), (q3, .inl ((ct 1), 8, .inr (.inl a3))), (q4, .inl ((ct 1), 8, .inr (.inl a4)))] sz)) 0 0 (va_A [(hm, .inr (4, [.int th, .long sd, .int nw, .long hh, .ref q1, .ref q2, .ref q3, .ref q4, .ref q5, .ref q6, .ref q7, .ref q8, .int (nI n), .ref q9, .ref q10, .ref q11, .ref q12, .ref q13, .ref q14, .ref q15, .ref q16, .ref q17, .ref q18, .ref q19, .ref q20])), (q1, .inl ((ct 0), 8, .inl a1)), (q2, .inl ((ct 1), 8, .inr (.inl a2))), (q3, .inl ((ct 1), 8, .inr (.inl a3))), (q4, .inl ((ct 1), 8, .inr (.inl a4)))] sz) := by
  refine Met.ofW (cc := mb_M_register) (maxL := 7) (ret := (some .boolean)) (by decide) rfl ?_
  intro p e s m args below meth c s₁ B hml hv
  obtain ⟨rfl, hsz, hP, hK, hD0⟩ := hv
  have hx := B.exec
  have hb := B.bytes
  have hr := B.returns
  have hts := atoms_spec (ws := tb_w my_M_register mb_M_register 7 (some .boolean)) B.pre
  have hw : ∀ w ∈ gt_tbl, w.before [.ref hm, .int (nI k), .int wy, .long pw, .long sl].toArray s = true := fun w h => hts w (List.mem_cons_of_mem _ h)
  have hown : s.vm.findClass cr_M = some m.cls := findClass_of_methodNamed B.named
  have hlocks := B.notSynchronized
  subst hsz
  have hD := hD0.self (sz := s.heap.size)
  generalize hAe : va_A [(hm, .inr (4, [.int th, .long sd, .int nw, .long hh, .ref q1, .ref q2, .ref q3, .ref q4, .ref q5, .ref q6, .ref q7, .ref q8, .int (nI n), .ref q9, .ref q10, .ref q11, .ref q12, .ref q13, .ref q14, .ref q15, .ref q16, .ref q17, .ref q18, .ref q19, .ref q20])), (q1, .inl ((ct 0), 8, .inl a1)), (q2, .inl ((ct 1), 8, .inr (.inl a2))), (q3, .inl ((ct 1), 8, .inr (.inl a3))), (q4, .inl ((ct 1), 8, .inr (.inl a4)))] s.heap.size = A at hD ⊢
  have hA : ∀ q : Nat, s.heap.size ≤ q → A q := fun q h => by rw [← hAe]; exact Or.inr h
  have hS : va_S A s.heap s.heap [] := va_S.rf
  have hP : va_P G classes [(hm, .inr (4, [.int th, .long sd, .int nw, .long hh, .ref q1, .ref q2, .ref q3, .ref q4, .ref q5, .ref q6, .ref q7, .ref q8, .int (nI n), .ref q9, .ref q10, .ref q11, .ref q12, .ref q13, .ref q14, .ref q15, .ref q16, .ref q17, .ref q18, .ref q19, .ref q20])), (q1, .inl ((ct 0), 8, .inl a1)), (q2, .inl ((ct 1), 8, .inr (.inl a2))), (q3, .inl ((ct 1), 8, .inr (.inl a3))), (q4, .inl ((ct 1), 8, .inr (.inl a4)))] s.heap := hP
  have hl := lv_entry ([.ref hm, .int (nI k), .int wy, .long pw, .long sl]) (n := 7) (Nat.le_of_ble_eq_true rfl)
  rw [lg_entry_eq]
  generalize (lg_sl ([.ref hm, .int (nI k), .int wy, .long pw, .long sl]) ++ List.replicate (7 - (lg_sl ([.ref hm, .int (nI k), .int wy, .long pw, .long sl])).length) Slot.unset).toArray = ls at hl ⊢
  have hl : lv_has ls 7 [(0, .ref hm), (1, .int (nI k)), (2, .int wy), (3, .long pw), (5, .long sl)] := hl
  refine lv_aload_n hx hb d_M_register_0 rfl (lv_at hl 0 rfl) ?_
  refine lv_iconst (v := 0) hx hb d_M_register_1 (by decide) ?_
  refine va_put (D := G) (ci := 4) (v := .int 0) (ty := .int) (C := cr_M) (T := cf_M) (N := 25) hx hb hw uw_M ct_M ct_M_ok ct_M_nm hown hK.1 hP hD hS 0 rfl rfl 0 (by decide) (hw _ ww_640) (fun _ h9 => h9) rfl (by decide +kernel) rfl rfl (Nat.le_of_ble_eq_true rfl) d_M_register_2 (fun H locs hP hD hS => ?_)
  have hP : va_P G classes [(hm, .inr (4, [.int 0, .long sd, .int nw, .long hh, .ref q1, .ref q2, .ref q3, .ref q4, .ref q5, .ref q6, .ref q7, .ref q8, .int (nI n), .ref q9, .ref q10, .ref q11, .ref q12, .ref q13, .ref q14, .ref q15, .ref q16, .ref q17, .ref q18, .ref q19, .ref q20])), (q1, .inl ((ct 0), 8, .inl a1)), (q2, .inl ((ct 1), 8, .inr (.inl a2))), (q3, .inl ((ct 1), 8, .inr (.inl a3))), (q4, .inl ((ct 1), 8, .inr (.inl a4)))] H := hP
  have hD : va_D A [(hm, .inr (4, [.int 0, .long sd, .int nw, .long hh, .ref q1, .ref q2, .ref q3, .ref q4, .ref q5, .ref q6, .ref q7, .ref q8, .int (nI n), .ref q9, .ref q10, .ref q11, .ref q12, .ref q13, .ref q14, .ref q15, .ref q16, .ref q17, .ref q18, .ref q19, .ref q20])), (q1, .inl ((ct 0), 8, .inl a1)), (q2, .inl ((ct 1), 8, .inr (.inl a2))), (q3, .inl ((ct 1), 8, .inr (.inl a3))), (q4, .inl ((ct 1), 8, .inr (.inl a4)))] := hD
  refine lv_iload_n hx hb d_M_register_5 rfl (lv_at hl 1 rfl) ?_
  refine vp_callSi (W.runS (As := [.int (nI k)]) (rest := []) ⟨hx, hb, hml, hown, hts⟩ (c_M_isUser l (nI k)) (tb_S hw cy_M_isUser ww_727 ww_728 rfl rfl ⟨Nat.le_of_ble_eq_true rfl, Nat.le_of_ble_eq_true rfl⟩) preEq rfl rfl hl.1 rfl (lv_room (Nat.le_of_ble_eq_true rfl)) d_M_register_6 ⟨Nat.le_of_ble_eq_true rfl, Nat.le_of_ble_eq_true rfl⟩) (fun r537 er537 => ?_)
  subst er537
  refine tp_i (if_pos (us_k hk)) ?_
  refine lv_if_eq (tgt := 19) hx hb d_M_register_9 (by decide) (fun h538 => ?_) (fun h538 => ?_)
  · exact absurd h538 (by decide)
  · refine lv_iload_n hx hb d_M_register_12 rfl (lv_at hl 2 rfl) ?_
    refine vp_callSi (W.runS (As := [.int wy]) (rest := []) ⟨hx, hb, hml, hown, hts⟩ (c_M_isWay l wy) (tb_S hw cy_M_isWay ww_730 ww_731 rfl rfl ⟨Nat.le_of_ble_eq_true rfl, Nat.le_of_ble_eq_true rfl⟩) preEq rfl rfl hl.1 rfl (lv_room (Nat.le_of_ble_eq_true rfl)) d_M_register_13 ⟨Nat.le_of_ble_eq_true rfl, Nat.le_of_ble_eq_true rfl⟩) (fun r539 er539 => ?_)
    subst er539
    refine tp_i (if_pos hwi) ?_
    refine lv_if_ne (tgt := 21) hx hb d_M_register_16 (by decide) (fun h540 => ?_) (fun h540 => ?_)
    · refine lv_aload_n hx hb d_M_register_21 rfl (lv_at hl 0 rfl) ?_
      refine va_get (D := G) (ci := 4) (v := .ref q1) (C := cr_M) (T := cf_M) (N := 25) hx hb hw uw_M hown hK.1 hP 0 rfl rfl 4 (by decide) (hw _ ww_644) (fun _ h9 => h9) rfl d_M_register_22 ?_
      refine lv_iload_n hx hb d_M_register_25 rfl (lv_at hl 1 rfl) ?_
      refine lv_iload_n hx hb d_M_register_26 rfl (lv_at hl 2 rfl) ?_
      refine ra_is hx hb hK.1 hP hD hS 1 0 rfl rfl (k := k) (by omega) (by decide) d_M_register_27 (fun H locs hP hD hS => ?_)
      have hP : va_P G classes [(hm, .inr (4, [.int 0, .long sd, .int nw, .long hh, .ref q1, .ref q2, .ref q3, .ref q4, .ref q5, .ref q6, .ref q7, .ref q8, .int (nI n), .ref q9, .ref q10, .ref q11, .ref q12, .ref q13, .ref q14, .ref q15, .ref q16, .ref q17, .ref q18, .ref q19, .ref q20])), (q1, .inl ((ct 0), 8, .inl (upd a1 k wy))), (q2, .inl ((ct 1), 8, .inr (.inl a2))), (q3, .inl ((ct 1), 8, .inr (.inl a3))), (q4, .inl ((ct 1), 8, .inr (.inl a4)))] H := hP
      have hD : va_D A [(hm, .inr (4, [.int 0, .long sd, .int nw, .long hh, .ref q1, .ref q2, .ref q3, .ref q4, .ref q5, .ref q6, .ref q7, .ref q8, .int (nI n), .ref q9, .ref q10, .ref q11, .ref q12, .ref q13, .ref q14, .ref q15, .ref q16, .ref q17, .ref q18, .ref q19, .ref q20])), (q1, .inl ((ct 0), 8, .inl (upd a1 k wy))), (q2, .inl ((ct 1), 8, .inr (.inl a2))), (q3, .inl ((ct 1), 8, .inr (.inl a3))), (q4, .inl ((ct 1), 8, .inr (.inl a4)))] := hD
      refine lv_aload_n hx hb d_M_register_28 rfl (lv_at hl 0 rfl) ?_
      refine va_get (D := G) (ci := 4) (v := .ref q2) (C := cr_M) (T := cf_M) (N := 25) hx hb hw uw_M hown hK.1 hP 0 rfl rfl 5 (by decide) (hw _ ww_645) (fun _ h9 => h9) rfl d_M_register_29 ?_
      refine lv_iload_n hx hb d_M_register_32 rfl (lv_at hl 1 rfl) ?_
      refine lv_aload_n hx hb d_M_register_33 rfl (lv_at hl 0 rfl) ?_
      refine lv_iload_n hx hb d_M_register_34 rfl (lv_at hl 1 rfl) ?_
      refine lv_lload_n hx hb d_M_register_35 rfl (lv_at hl 3 rfl) ?_
      have hPc : va_P G classes [(hm, .inr (4, [.int 0, .long sd, .int nw, .long hh, .ref q1, .ref q2, .ref q3, .ref q4, .ref q5, .ref q6, .ref q7, .ref q8, .int (nI n), .ref q9, .ref q10, .ref q11, .ref q12, .ref q13, .ref q14, .ref q15, .ref q16, .ref q17, .ref q18, .ref q19, .ref q20]))] H := hP.sub [0] rfl
      have hDc := hD.sub (ws' := [(hm, .inr (4, [.int 0, .long sd, .int nw, .long hh, .ref q1, .ref q2, .ref q3, .ref q4, .ref q5, .ref q6, .ref q7, .ref q8, .int (nI n), .ref q9, .ref q10, .ref q11, .ref q12, .ref q13, .ref q14, .ref q15, .ref q16, .ref q17, .ref q18, .ref q19, .ref q20]))]) [0] (by decide) rfl
      refine wk_l (va_runV (As := [.int (nI k), .long pw]) (rest := [.int (nI k), .ref q2]) ⟨hx, hb, hml, hown, hts⟩ (c_M_word l G ct H.size hm 0 sd nw hh q1 q2 q3 q4 q5 q6 q7 q8 q9 q10 q11 q12 q13 q14 q15 q16 q17 q18 q19 q20 n (nI k) pw) (tb_V hw cy_M_word ww_733 ww_735 wp_M_word rfl rfl ⟨Nat.le_of_ble_eq_true rfl, Nat.le_of_ble_eq_true rfl⟩) (wk_preV (ci := 4) (q0 := 0) hPc hK hDc rfl rfl) rfl rfl hl.1 rfl (lv_room (Nat.le_of_ble_eq_true rfl)) d_M_register_36 ⟨Nat.le_of_ble_eq_true rfl, Nat.le_of_ble_eq_true rfl⟩) hP hD hS hA [0] (by decide) rfl (fun _ => by simp only [List.map_cons, List.map_nil]) (fun z2541 H locs ok542 hP hD hS => ?_)
      have hP : va_P G classes [(hm, .inr (4, [.int 0, .long sd, .int nw, .long z2541, .ref q1, .ref q2, .ref q3, .ref q4, .ref q5, .ref q6, .ref q7, .ref q8, .int (nI n), .ref q9, .ref q10, .ref q11, .ref q12, .ref q13, .ref q14, .ref q15, .ref q16, .ref q17, .ref q18, .ref q19, .ref q20])), (q1, .inl ((ct 0), 8, .inl (upd a1 k wy))), (q2, .inl ((ct 1), 8, .inr (.inl a2))), (q3, .inl ((ct 1), 8, .inr (.inl a3))), (q4, .inl ((ct 1), 8, .inr (.inl a4)))] H := hP
      have hD : va_D A [(hm, .inr (4, [.int 0, .long sd, .int nw, .long z2541, .ref q1, .ref q2, .ref q3, .ref q4, .ref q5, .ref q6, .ref q7, .ref q8, .int (nI n), .ref q9, .ref q10, .ref q11, .ref q12, .ref q13, .ref q14, .ref q15, .ref q16, .ref q17, .ref q18, .ref q19, .ref q20])), (q1, .inl ((ct 0), 8, .inl (upd a1 k wy))), (q2, .inl ((ct 1), 8, .inr (.inl a2))), (q3, .inl ((ct 1), 8, .inr (.inl a3))), (q4, .inl ((ct 1), 8, .inr (.inl a4)))] := hD
      refine ra_ls hx hb hK.1 hP hD hS 2 1 rfl rfl (k := k) (by omega) (by decide) d_M_register_39 (fun H locs hP hD hS => ?_)
      have hP : va_P G classes [(hm, .inr (4, [.int 0, .long sd, .int nw, .long z2541, .ref q1, .ref q2, .ref q3, .ref q4, .ref q5, .ref q6, .ref q7, .ref q8, .int (nI n), .ref q9, .ref q10, .ref q11, .ref q12, .ref q13, .ref q14, .ref q15, .ref q16, .ref q17, .ref q18, .ref q19, .ref q20])), (q1, .inl ((ct 0), 8, .inl (upd a1 k wy))), (q2, .inl ((ct 1), 8, .inr (.inl (vp_updL a2 k (lN (wd_n (nI k) pw)))))), (q3, .inl ((ct 1), 8, .inr (.inl a3))), (q4, .inl ((ct 1), 8, .inr (.inl a4)))] H := hP
      have hD : va_D A [(hm, .inr (4, [.int 0, .long sd, .int nw, .long z2541, .ref q1, .ref q2, .ref q3, .ref q4, .ref q5, .ref q6, .ref q7, .ref q8, .int (nI n), .ref q9, .ref q10, .ref q11, .ref q12, .ref q13, .ref q14, .ref q15, .ref q16, .ref q17, .ref q18, .ref q19, .ref q20])), (q1, .inl ((ct 0), 8, .inl (upd a1 k wy))), (q2, .inl ((ct 1), 8, .inr (.inl (vp_updL a2 k (lN (wd_n (nI k) pw)))))), (q3, .inl ((ct 1), 8, .inr (.inl a3))), (q4, .inl ((ct 1), 8, .inr (.inl a4)))] := hD
      refine lv_aload_n hx hb d_M_register_40 rfl (lv_at hl 0 rfl) ?_
      refine va_get (D := G) (ci := 4) (v := .ref q3) (C := cr_M) (T := cf_M) (N := 25) hx hb hw uw_M hown hK.1 hP 0 rfl rfl 6 (by decide) (hw _ ww_646) (fun _ h9 => h9) rfl d_M_register_41 ?_
      refine lv_iload_n hx hb d_M_register_44 rfl (lv_at hl 1 rfl) ?_
      refine lv_lload hx hb d_M_register_45 (lv_at hl 4 rfl) ?_
      refine ra_ls hx hb hK.1 hP hD hS 3 1 rfl rfl (k := k) (by omega) (by decide) d_M_register_47 (fun H locs hP hD hS => ?_)
      have hP : va_P G classes [(hm, .inr (4, [.int 0, .long sd, .int nw, .long z2541, .ref q1, .ref q2, .ref q3, .ref q4, .ref q5, .ref q6, .ref q7, .ref q8, .int (nI n), .ref q9, .ref q10, .ref q11, .ref q12, .ref q13, .ref q14, .ref q15, .ref q16, .ref q17, .ref q18, .ref q19, .ref q20])), (q1, .inl ((ct 0), 8, .inl (upd a1 k wy))), (q2, .inl ((ct 1), 8, .inr (.inl (vp_updL a2 k (lN (wd_n (nI k) pw)))))), (q3, .inl ((ct 1), 8, .inr (.inl (vp_updL a3 k sl)))), (q4, .inl ((ct 1), 8, .inr (.inl a4)))] H := hP
      have hD : va_D A [(hm, .inr (4, [.int 0, .long sd, .int nw, .long z2541, .ref q1, .ref q2, .ref q3, .ref q4, .ref q5, .ref q6, .ref q7, .ref q8, .int (nI n), .ref q9, .ref q10, .ref q11, .ref q12, .ref q13, .ref q14, .ref q15, .ref q16, .ref q17, .ref q18, .ref q19, .ref q20])), (q1, .inl ((ct 0), 8, .inl (upd a1 k wy))), (q2, .inl ((ct 1), 8, .inr (.inl (vp_updL a2 k (lN (wd_n (nI k) pw)))))), (q3, .inl ((ct 1), 8, .inr (.inl (vp_updL a3 k sl)))), (q4, .inl ((ct 1), 8, .inr (.inl a4)))] := hD
      refine lv_aload_n hx hb d_M_register_48 rfl (lv_at hl 0 rfl) ?_
      refine va_get (D := G) (ci := 4) (v := .ref q4) (C := cr_M) (T := cf_M) (N := 25) hx hb hw uw_M hown hK.1 hP 0 rfl rfl 7 (by decide) (hw _ ww_647) (fun _ h9 => h9) rfl d_M_register_49 ?_
      refine lv_iload_n hx hb d_M_register_52 rfl (lv_at hl 1 rfl) ?_
      refine lv_ldc2 (v := 4) hx hb hown (hw _ ww_757) d_M_register_53 ?_
      refine lv_aload_n hx hb d_M_register_56 rfl (lv_at hl 0 rfl) ?_
      refine lv_lload hx hb d_M_register_57 (lv_at hl 4 rfl) ?_
      refine lv_iload_n hx hb d_M_register_59 rfl (lv_at hl 1 rfl) ?_
      refine lv_lload_n hx hb d_M_register_60 rfl (lv_at hl 3 rfl) ?_
      have hPc : va_P G classes [(hm, .inr (4, [.int 0, .long sd, .int nw, .long z2541, .ref q1, .ref q2, .ref q3, .ref q4, .ref q5, .ref q6, .ref q7, .ref q8, .int (nI n), .ref q9, .ref q10, .ref q11, .ref q12, .ref q13, .ref q14, .ref q15, .ref q16, .ref q17, .ref q18, .ref q19, .ref q20]))] H := hP.sub [0] rfl
      have hDc := hD.sub (ws' := [(hm, .inr (4, [.int 0, .long sd, .int nw, .long z2541, .ref q1, .ref q2, .ref q3, .ref q4, .ref q5, .ref q6, .ref q7, .ref q8, .int (nI n), .ref q9, .ref q10, .ref q11, .ref q12, .ref q13, .ref q14, .ref q15, .ref q16, .ref q17, .ref q18, .ref q19, .ref q20]))]) [0] (by decide) rfl
      refine wk_l (va_runV (As := [.long sl, .int (nI k), .long pw]) (rest := [.long 4, .int (nI k), .ref q4]) ⟨hx, hb, hml, hown, hts⟩ (c_M_exponent l G ct H.size hm 0 sd nw z2541 q1 q2 q3 q4 q5 q6 q7 q8 q9 q10 q11 q12 q13 q14 q15 q16 q17 q18 q19 q20 n sl (nI k) pw) (tb_V hw cy_M_exponent ww_758 ww_760 wp_M_exponent rfl rfl ⟨Nat.le_of_ble_eq_true rfl, Nat.le_of_ble_eq_true rfl⟩) (wk_preV (ci := 4) (q0 := 0) hPc hK hDc rfl rfl) rfl rfl hl.1 rfl (lv_room (Nat.le_of_ble_eq_true rfl)) d_M_register_61 ⟨Nat.le_of_ble_eq_true rfl, Nat.le_of_ble_eq_true rfl⟩) hP hD hS hA [0] (by decide) rfl (fun _ => by simp only [List.map_cons, List.map_nil]) (fun z2543 H locs ok544 hP hD hS => ?_)
      have hP : va_P G classes [(hm, .inr (4, [.int 0, .long sd, .int nw, .long z2543, .ref q1, .ref q2, .ref q3, .ref q4, .ref q5, .ref q6, .ref q7, .ref q8, .int (nI n), .ref q9, .ref q10, .ref q11, .ref q12, .ref q13, .ref q14, .ref q15, .ref q16, .ref q17, .ref q18, .ref q19, .ref q20])), (q1, .inl ((ct 0), 8, .inl (upd a1 k wy))), (q2, .inl ((ct 1), 8, .inr (.inl (vp_updL a2 k (lN (wd_n (nI k) pw)))))), (q3, .inl ((ct 1), 8, .inr (.inl (vp_updL a3 k sl)))), (q4, .inl ((ct 1), 8, .inr (.inl a4)))] H := hP
      have hD : va_D A [(hm, .inr (4, [.int 0, .long sd, .int nw, .long z2543, .ref q1, .ref q2, .ref q3, .ref q4, .ref q5, .ref q6, .ref q7, .ref q8, .int (nI n), .ref q9, .ref q10, .ref q11, .ref q12, .ref q13, .ref q14, .ref q15, .ref q16, .ref q17, .ref q18, .ref q19, .ref q20])), (q1, .inl ((ct 0), 8, .inl (upd a1 k wy))), (q2, .inl ((ct 1), 8, .inr (.inl (vp_updL a2 k (lN (wd_n (nI k) pw)))))), (q3, .inl ((ct 1), 8, .inr (.inl (vp_updL a3 k sl)))), (q4, .inl ((ct 1), 8, .inr (.inl a4)))] := hD
      refine vp_callSl (W.runS (As := [.long (lN 4), .long (lN (ex_n sl (nI k) pw))]) (rest := [.int (nI k), .ref q4]) ⟨hx, hb, hml, hown, hts⟩ (c_M_power l 4 (ex_n sl (nI k) pw) (by decide) (m63 (qs_P (sc_lt _)))) (tb_S hw cy_M_power ww_763 ww_764 rfl rfl ⟨Nat.le_of_ble_eq_true rfl, Nat.le_of_ble_eq_true rfl⟩) preEq rfl rfl hl.1 rfl (lv_room (Nat.le_of_ble_eq_true rfl)) d_M_register_64 ⟨Nat.le_of_ble_eq_true rfl, Nat.le_of_ble_eq_true rfl⟩) (fun r545 er545 => ?_)
      subst er545
      refine ra_ls hx hb hK.1 hP hD hS 4 1 rfl rfl (k := k) (by omega) (by decide) d_M_register_67 (fun H locs hP hD hS => ?_)
      have hP : va_P G classes [(hm, .inr (4, [.int 0, .long sd, .int nw, .long z2543, .ref q1, .ref q2, .ref q3, .ref q4, .ref q5, .ref q6, .ref q7, .ref q8, .int (nI n), .ref q9, .ref q10, .ref q11, .ref q12, .ref q13, .ref q14, .ref q15, .ref q16, .ref q17, .ref q18, .ref q19, .ref q20])), (q1, .inl ((ct 0), 8, .inl (upd a1 k wy))), (q2, .inl ((ct 1), 8, .inr (.inl (vp_updL a2 k (lN (wd_n (nI k) pw)))))), (q3, .inl ((ct 1), 8, .inr (.inl (vp_updL a3 k sl)))), (q4, .inl ((ct 1), 8, .inr (.inl (vp_updL a4 k (lN (pw_m 4 (ex_n sl (nI k) pw)))))))] H := hP
      have hD : va_D A [(hm, .inr (4, [.int 0, .long sd, .int nw, .long z2543, .ref q1, .ref q2, .ref q3, .ref q4, .ref q5, .ref q6, .ref q7, .ref q8, .int (nI n), .ref q9, .ref q10, .ref q11, .ref q12, .ref q13, .ref q14, .ref q15, .ref q16, .ref q17, .ref q18, .ref q19, .ref q20])), (q1, .inl ((ct 0), 8, .inl (upd a1 k wy))), (q2, .inl ((ct 1), 8, .inr (.inl (vp_updL a2 k (lN (wd_n (nI k) pw)))))), (q3, .inl ((ct 1), 8, .inr (.inl (vp_updL a3 k sl)))), (q4, .inl ((ct 1), 8, .inr (.inl (vp_updL a4 k (lN (pw_m 4 (ex_n sl (nI k) pw)))))))] := hD
      refine lv_iconst (v := 1) hx hb d_M_register_68 (by decide) ?_
      exact W.zret (v := 1) (ty := .boolean) hx hb hr rfl (fun t ht hW => ⟨⟨z2543, ⟨rfl, trivial⟩, by rw [ht]; exact hP, hD⟩, hS.F ht⟩) hS.2.2 d_M_register_69
    · exact absurd h540 (by decide)
set_option maxHeartbeats 4000000 in
set_option maxRecDepth 100000 in
theorem c_M_register0 (l : Launch) (G : va_G) (ct : Nat → ClassId) (sz : Nat) (hm : Nat) (th : Int32) (sd : Int64) (nw : Int32) (hh : Int64) (q1 : Nat) (q2 : Nat) (q3 : Nat) (q4 : Nat) (q5 : Nat) (q6 : Nat) (q7 : Nat) (q8 : Nat) (q9 : Nat) (q10 : Nat) (q11 : Nat) (q12 : Nat) (q13 : Nat) (q14 : Nat) (q15 : Nat) (q16 : Nat) (q17 : Nat) (q18 : Nat) (q19 : Nat) (q20 : Nat) (n : Nat) (ua : Int32) (wy : Int32) (pw : Int64) (sl : Int64) (hno : ¬ (us_in ua ∧ wy_in wy)) : Met l my_M_register (tb_w my_M_register mb_M_register 7 (some .boolean)) ({ frames := 1, cells := 0, slots := 0, locals := 20 }) (wk_P [.ref hm, .int ua, .int wy, .long pw, .long sl] G ct [(hm, .inr (4, [.int th, .long sd, .int nw, .long hh, .ref q1, .ref q2, .ref q3, .ref q4, .ref q5, .ref q6, .ref q7, .ref q8, .int (nI n), .ref q9, .ref q10, .ref q11, .ref q12, .ref q13, .ref q14, .ref q15, .ref q16, .ref q17, .ref q18, .ref q19, .ref q20]))] sz) (wk_Q (wk_oi (S := Unit) (fun _ => 0) (fun _ => True)) (fun _ : Unit => [(hm, .inr (4, [.int 0, .long sd, .int nw, .long hh, .ref q1, .ref q2, .ref q3, .ref q4, .ref q5, .ref q6, .ref q7, .ref q8, .int (nI n), .ref q9, .ref q10, .ref q11, .ref q12, .ref q13, .ref q14, .ref q15, .ref q16, .ref q17, .ref q18, .ref q19, .ref q20]))]) G (va_A [(hm, .inr (4, [.int th, .long sd, .int nw, .long hh, .ref q1, .ref q2, .ref q3, .ref q4, .ref q5, .ref q6, .ref q7, .ref q8, .int (nI n), .ref q9, .ref q10, .ref q11, .ref q12, .ref q13, .ref q14, .ref q15, .ref q16, .ref q17, .ref q18, .ref q19, .ref q20]))] sz)) 0 0 (va_A [(hm, .inr (4, [.int th, .long sd, .int nw, .long hh, .ref q1, .ref q2, .ref q3, .ref q4, .ref q5, .ref q6, .ref q7, .ref q8, .int (nI n), .ref q9, .ref q10, .ref q11, .ref q12, .ref q13, .ref q14, .ref q15, .ref q16, .ref q17, .ref q18, .ref q19, .ref q20]))] sz) := by
  refine Met.ofW (cc := mb_M_register) (maxL := 7) (ret := (some .boolean)) (by decide) rfl ?_
  intro p e s m args below meth c s₁ B hml hv
  obtain ⟨rfl, hsz, hP, hK, hD0⟩ := hv
  have hx := B.exec
  have hb := B.bytes
  have hr := B.returns
  have hts := atoms_spec (ws := tb_w my_M_register mb_M_register 7 (some .boolean)) B.pre
  have hw : ∀ w ∈ gt_tbl, w.before [.ref hm, .int ua, .int wy, .long pw, .long sl].toArray s = true := fun w h => hts w (List.mem_cons_of_mem _ h)
  have hown : s.vm.findClass cr_M = some m.cls := findClass_of_methodNamed B.named
  have hlocks := B.notSynchronized
  subst hsz
  have hD := hD0.self (sz := s.heap.size)
  generalize hAe : va_A [(hm, .inr (4, [.int th, .long sd, .int nw, .long hh, .ref q1, .ref q2, .ref q3, .ref q4, .ref q5, .ref q6, .ref q7, .ref q8, .int (nI n), .ref q9, .ref q10, .ref q11, .ref q12, .ref q13, .ref q14, .ref q15, .ref q16, .ref q17, .ref q18, .ref q19, .ref q20]))] s.heap.size = A at hD ⊢
  have hA : ∀ q : Nat, s.heap.size ≤ q → A q := fun q h => by rw [← hAe]; exact Or.inr h
  have hS : va_S A s.heap s.heap [] := va_S.rf
  have hP : va_P G classes [(hm, .inr (4, [.int th, .long sd, .int nw, .long hh, .ref q1, .ref q2, .ref q3, .ref q4, .ref q5, .ref q6, .ref q7, .ref q8, .int (nI n), .ref q9, .ref q10, .ref q11, .ref q12, .ref q13, .ref q14, .ref q15, .ref q16, .ref q17, .ref q18, .ref q19, .ref q20]))] s.heap := hP
  have hl := lv_entry ([.ref hm, .int ua, .int wy, .long pw, .long sl]) (n := 7) (Nat.le_of_ble_eq_true rfl)
  rw [lg_entry_eq]
  generalize (lg_sl ([.ref hm, .int ua, .int wy, .long pw, .long sl]) ++ List.replicate (7 - (lg_sl ([.ref hm, .int ua, .int wy, .long pw, .long sl])).length) Slot.unset).toArray = ls at hl ⊢
  have hl : lv_has ls 7 [(0, .ref hm), (1, .int ua), (2, .int wy), (3, .long pw), (5, .long sl)] := hl
  refine lv_aload_n hx hb d_M_register_0 rfl (lv_at hl 0 rfl) ?_
  refine lv_iconst (v := 0) hx hb d_M_register_1 (by decide) ?_
  refine va_put (D := G) (ci := 4) (v := .int 0) (ty := .int) (C := cr_M) (T := cf_M) (N := 25) hx hb hw uw_M ct_M ct_M_ok ct_M_nm hown hK.1 hP hD hS 0 rfl rfl 0 (by decide) (hw _ ww_640) (fun _ h9 => h9) rfl (by decide +kernel) rfl rfl (Nat.le_of_ble_eq_true rfl) d_M_register_2 (fun H locs hP hD hS => ?_)
  have hP : va_P G classes [(hm, .inr (4, [.int 0, .long sd, .int nw, .long hh, .ref q1, .ref q2, .ref q3, .ref q4, .ref q5, .ref q6, .ref q7, .ref q8, .int (nI n), .ref q9, .ref q10, .ref q11, .ref q12, .ref q13, .ref q14, .ref q15, .ref q16, .ref q17, .ref q18, .ref q19, .ref q20]))] H := hP
  have hD : va_D A [(hm, .inr (4, [.int 0, .long sd, .int nw, .long hh, .ref q1, .ref q2, .ref q3, .ref q4, .ref q5, .ref q6, .ref q7, .ref q8, .int (nI n), .ref q9, .ref q10, .ref q11, .ref q12, .ref q13, .ref q14, .ref q15, .ref q16, .ref q17, .ref q18, .ref q19, .ref q20]))] := hD
  refine lv_iload_n hx hb d_M_register_5 rfl (lv_at hl 1 rfl) ?_
  refine vp_callSi (W.runS (As := [.int ua]) (rest := []) ⟨hx, hb, hml, hown, hts⟩ (c_M_isUser l ua) (tb_S hw cy_M_isUser ww_727 ww_728 rfl rfl ⟨Nat.le_of_ble_eq_true rfl, Nat.le_of_ble_eq_true rfl⟩) preEq rfl rfl hl.1 rfl (lv_room (Nat.le_of_ble_eq_true rfl)) d_M_register_6 ⟨Nat.le_of_ble_eq_true rfl, Nat.le_of_ble_eq_true rfl⟩) (fun r546 er546 => ?_)
  subst er546
  refine lv_if_eq (tgt := 19) hx hb d_M_register_9 (by decide) (fun h547 => ?_) (fun h547 => ?_)
  · refine lv_iconst (v := 0) hx hb d_M_register_19 (by decide) ?_
    exact W.zret (v := 0) (ty := .boolean) hx hb hr rfl (fun t ht hW => ⟨⟨(), ⟨rfl, trivial⟩, by rw [ht]; exact hP, hD⟩, hS.F ht⟩) hS.2.2 d_M_register_20
  · refine lv_iload_n hx hb d_M_register_12 rfl (lv_at hl 2 rfl) ?_
    refine vp_callSi (W.runS (As := [.int wy]) (rest := []) ⟨hx, hb, hml, hown, hts⟩ (c_M_isWay l wy) (tb_S hw cy_M_isWay ww_730 ww_731 rfl rfl ⟨Nat.le_of_ble_eq_true rfl, Nat.le_of_ble_eq_true rfl⟩) preEq rfl rfl hl.1 rfl (lv_room (Nat.le_of_ble_eq_true rfl)) d_M_register_13 ⟨Nat.le_of_ble_eq_true rfl, Nat.le_of_ble_eq_true rfl⟩) (fun r548 er548 => ?_)
    subst er548
    refine lv_if_ne (tgt := 21) hx hb d_M_register_16 (by decide) (fun h549 => ?_) (fun h549 => ?_)
    · exact absurd ⟨bz_t h547, bz_t h549⟩ hno
    · refine lv_iconst (v := 0) hx hb d_M_register_19 (by decide) ?_
      exact W.zret (v := 0) (ty := .boolean) hx hb hr rfl (fun t ht hW => ⟨⟨(), ⟨rfl, trivial⟩, by rw [ht]; exact hP, hD⟩, hS.F ht⟩) hS.2.2 d_M_register_20
set_option maxHeartbeats 4000000 in
set_option maxRecDepth 100000 in
theorem c_M_forget1 (l : Launch) (G : va_G) (ct : Nat → ClassId) (sz : Nat) (hm : Nat) (th : Int32) (sd : Int64) (nw : Int32) (hh : Int64) (q1 : Nat) (q2 : Nat) (q3 : Nat) (q4 : Nat) (q5 : Nat) (q6 : Nat) (q7 : Nat) (q8 : Nat) (q9 : Nat) (q10 : Nat) (q11 : Nat) (q12 : Nat) (q13 : Nat) (q14 : Nat) (q15 : Nat) (q16 : Nat) (q17 : Nat) (q18 : Nat) (q19 : Nat) (q20 : Nat) (n : Nat) (a1 : Nat → Int32) (k : Nat) (hk : k < 8) (hge : 0 ≤ a1 k) : Met l my_M_forget (tb_w my_M_forget mb_M_forget 2 (some .boolean)) ({ frames := 1, cells := 0, slots := 0, locals := 20 }) (wk_P [.ref hm, .int (nI k)] G ct [(hm, .inr (4, [.int th, .long sd, .int nw, .long hh, .ref q1, .ref q2, .ref q3, .ref q4, .ref q5, .ref q6, .ref q7, .ref q8, .int (nI n), .ref q9, .ref q10, .ref q11, .ref q12, .ref q13, .ref q14, .ref q15, .ref q16, .ref q17, .ref q18, .ref q19, .ref q20])), (q1, .inl ((ct 0), 8, .inl a1))] sz) (wk_Q (wk_oi (S := Unit) (fun _ => 1) (fun _ => True)) (fun _ : Unit => [(hm, .inr (4, [.int 0, .long sd, .int nw, .long hh, .ref q1, .ref q2, .ref q3, .ref q4, .ref q5, .ref q6, .ref q7, .ref q8, .int (nI n), .ref q9, .ref q10, .ref q11, .ref q12, .ref q13, .ref q14, .ref q15, .ref q16, .ref q17, .ref q18, .ref q19, .ref q20])), (q1, .inl ((ct 0), 8, .inl (upd a1 k (-1))))]) G (va_A [(hm, .inr (4, [.int th, .long sd, .int nw, .long hh, .ref q1, .ref q2, .ref q3, .ref q4, .ref q5, .ref q6, .ref q7, .ref q8, .int (nI n), .ref q9, .ref q10, .ref q11, .ref q12, .ref q13, .ref q14, .ref q15, .ref q16, .ref q17, .ref q18, .ref q19, .ref q20])), (q1, .inl ((ct 0), 8, .inl a1))] sz)) 0 0 (va_A [(hm, .inr (4, [.int th, .long sd, .int nw, .long hh, .ref q1, .ref q2, .ref q3, .ref q4, .ref q5, .ref q6, .ref q7, .ref q8, .int (nI n), .ref q9, .ref q10, .ref q11, .ref q12, .ref q13, .ref q14, .ref q15, .ref q16, .ref q17, .ref q18, .ref q19, .ref q20])), (q1, .inl ((ct 0), 8, .inl a1))] sz) := by
  refine Met.ofW (cc := mb_M_forget) (maxL := 2) (ret := (some .boolean)) (by decide) rfl ?_
  intro p e s m args below meth c s₁ B hml hv
  obtain ⟨rfl, hsz, hP, hK, hD0⟩ := hv
  have hx := B.exec
  have hb := B.bytes
  have hr := B.returns
  have hts := atoms_spec (ws := tb_w my_M_forget mb_M_forget 2 (some .boolean)) B.pre
  have hw : ∀ w ∈ gt_tbl, w.before [.ref hm, .int (nI k)].toArray s = true := fun w h => hts w (List.mem_cons_of_mem _ h)
  have hown : s.vm.findClass cr_M = some m.cls := findClass_of_methodNamed B.named
  have hlocks := B.notSynchronized
  subst hsz
  have hD := hD0.self (sz := s.heap.size)
  generalize hAe : va_A [(hm, .inr (4, [.int th, .long sd, .int nw, .long hh, .ref q1, .ref q2, .ref q3, .ref q4, .ref q5, .ref q6, .ref q7, .ref q8, .int (nI n), .ref q9, .ref q10, .ref q11, .ref q12, .ref q13, .ref q14, .ref q15, .ref q16, .ref q17, .ref q18, .ref q19, .ref q20])), (q1, .inl ((ct 0), 8, .inl a1))] s.heap.size = A at hD ⊢
  have hA : ∀ q : Nat, s.heap.size ≤ q → A q := fun q h => by rw [← hAe]; exact Or.inr h
  have hS : va_S A s.heap s.heap [] := va_S.rf
  have hP : va_P G classes [(hm, .inr (4, [.int th, .long sd, .int nw, .long hh, .ref q1, .ref q2, .ref q3, .ref q4, .ref q5, .ref q6, .ref q7, .ref q8, .int (nI n), .ref q9, .ref q10, .ref q11, .ref q12, .ref q13, .ref q14, .ref q15, .ref q16, .ref q17, .ref q18, .ref q19, .ref q20])), (q1, .inl ((ct 0), 8, .inl a1))] s.heap := hP
  have hl := lv_entry ([.ref hm, .int (nI k)]) (n := 2) (Nat.le_of_ble_eq_true rfl)
  rw [lg_entry_eq]
  generalize (lg_sl ([.ref hm, .int (nI k)]) ++ List.replicate (2 - (lg_sl ([.ref hm, .int (nI k)])).length) Slot.unset).toArray = ls at hl ⊢
  have hl : lv_has ls 2 [(0, .ref hm), (1, .int (nI k))] := hl
  refine lv_aload_n hx hb d_M_forget_0 rfl (lv_at hl 0 rfl) ?_
  refine lv_iconst (v := 0) hx hb d_M_forget_1 (by decide) ?_
  refine va_put (D := G) (ci := 4) (v := .int 0) (ty := .int) (C := cr_M) (T := cf_M) (N := 25) hx hb hw uw_M ct_M ct_M_ok ct_M_nm hown hK.1 hP hD hS 0 rfl rfl 0 (by decide) (hw _ ww_640) (fun _ h9 => h9) rfl (by decide +kernel) rfl rfl (Nat.le_of_ble_eq_true rfl) d_M_forget_2 (fun H locs hP hD hS => ?_)
  have hP : va_P G classes [(hm, .inr (4, [.int 0, .long sd, .int nw, .long hh, .ref q1, .ref q2, .ref q3, .ref q4, .ref q5, .ref q6, .ref q7, .ref q8, .int (nI n), .ref q9, .ref q10, .ref q11, .ref q12, .ref q13, .ref q14, .ref q15, .ref q16, .ref q17, .ref q18, .ref q19, .ref q20])), (q1, .inl ((ct 0), 8, .inl a1))] H := hP
  have hD : va_D A [(hm, .inr (4, [.int 0, .long sd, .int nw, .long hh, .ref q1, .ref q2, .ref q3, .ref q4, .ref q5, .ref q6, .ref q7, .ref q8, .int (nI n), .ref q9, .ref q10, .ref q11, .ref q12, .ref q13, .ref q14, .ref q15, .ref q16, .ref q17, .ref q18, .ref q19, .ref q20])), (q1, .inl ((ct 0), 8, .inl a1))] := hD
  refine lv_iload_n hx hb d_M_forget_5 rfl (lv_at hl 1 rfl) ?_
  refine vp_callSi (W.runS (As := [.int (nI k)]) (rest := []) ⟨hx, hb, hml, hown, hts⟩ (c_M_isUser l (nI k)) (tb_S hw cy_M_isUser ww_727 ww_728 rfl rfl ⟨Nat.le_of_ble_eq_true rfl, Nat.le_of_ble_eq_true rfl⟩) preEq rfl rfl hl.1 rfl (lv_room (Nat.le_of_ble_eq_true rfl)) d_M_forget_6 ⟨Nat.le_of_ble_eq_true rfl, Nat.le_of_ble_eq_true rfl⟩) (fun r550 er550 => ?_)
  subst er550
  refine tp_i (if_pos (us_k hk)) ?_
  refine lv_if_eq (tgt := 21) hx hb d_M_forget_9 (by decide) (fun h551 => ?_) (fun h551 => ?_)
  · exact absurd h551 (by decide)
  · refine lv_aload_n hx hb d_M_forget_12 rfl (lv_at hl 0 rfl) ?_
    refine va_get (D := G) (ci := 4) (v := .ref q1) (C := cr_M) (T := cf_M) (N := 25) hx hb hw uw_M hown hK.1 hP 0 rfl rfl 4 (by decide) (hw _ ww_644) (fun _ h9 => h9) rfl d_M_forget_13 ?_
    refine lv_iload_n hx hb d_M_forget_16 rfl (lv_at hl 1 rfl) ?_
    refine ra_il hx hb hK.1 hP 1 0 rfl rfl (k := k) (by omega) (by decide) d_M_forget_17 ?_
    refine lv_if_ge (tgt := 23) hx hb d_M_forget_18 (by decide) (fun h552 => ?_) (fun h552 => ?_)
    · refine lv_aload_n hx hb d_M_forget_23 rfl (lv_at hl 0 rfl) ?_
      refine va_get (D := G) (ci := 4) (v := .ref q1) (C := cr_M) (T := cf_M) (N := 25) hx hb hw uw_M hown hK.1 hP 0 rfl rfl 4 (by decide) (hw _ ww_644) (fun _ h9 => h9) rfl d_M_forget_24 ?_
      refine lv_iload_n hx hb d_M_forget_27 rfl (lv_at hl 1 rfl) ?_
      refine lv_iconst (v := (-1)) hx hb d_M_forget_28 (by decide) ?_
      refine ra_is hx hb hK.1 hP hD hS 1 0 rfl rfl (k := k) (by omega) (by decide) d_M_forget_29 (fun H locs hP hD hS => ?_)
      have hP : va_P G classes [(hm, .inr (4, [.int 0, .long sd, .int nw, .long hh, .ref q1, .ref q2, .ref q3, .ref q4, .ref q5, .ref q6, .ref q7, .ref q8, .int (nI n), .ref q9, .ref q10, .ref q11, .ref q12, .ref q13, .ref q14, .ref q15, .ref q16, .ref q17, .ref q18, .ref q19, .ref q20])), (q1, .inl ((ct 0), 8, .inl (upd a1 k (-1))))] H := hP
      have hD : va_D A [(hm, .inr (4, [.int 0, .long sd, .int nw, .long hh, .ref q1, .ref q2, .ref q3, .ref q4, .ref q5, .ref q6, .ref q7, .ref q8, .int (nI n), .ref q9, .ref q10, .ref q11, .ref q12, .ref q13, .ref q14, .ref q15, .ref q16, .ref q17, .ref q18, .ref q19, .ref q20])), (q1, .inl ((ct 0), 8, .inl (upd a1 k (-1))))] := hD
      refine lv_iconst (v := 1) hx hb d_M_forget_30 (by decide) ?_
      exact W.zret (v := 1) (ty := .boolean) hx hb hr rfl (fun t ht hW => ⟨⟨(), ⟨rfl, trivial⟩, by rw [ht]; exact hP, hD⟩, hS.F ht⟩) hS.2.2 d_M_forget_31
    · exact absurd hge h552
set_option maxHeartbeats 4000000 in
set_option maxRecDepth 100000 in
theorem c_M_forget2 (l : Launch) (G : va_G) (ct : Nat → ClassId) (sz : Nat) (hm : Nat) (th : Int32) (sd : Int64) (nw : Int32) (hh : Int64) (q1 : Nat) (q2 : Nat) (q3 : Nat) (q4 : Nat) (q5 : Nat) (q6 : Nat) (q7 : Nat) (q8 : Nat) (q9 : Nat) (q10 : Nat) (q11 : Nat) (q12 : Nat) (q13 : Nat) (q14 : Nat) (q15 : Nat) (q16 : Nat) (q17 : Nat) (q18 : Nat) (q19 : Nat) (q20 : Nat) (n : Nat) (a1 : Nat → Int32) (k : Nat) (hk : k < 8) (hge : ¬ 0 ≤ a1 k) : Met l my_M_forget (tb_w my_M_forget mb_M_forget 2 (some .boolean)) ({ frames := 1, cells := 0, slots := 0, locals := 20 }) (wk_P [.ref hm, .int (nI k)] G ct [(hm, .inr (4, [.int th, .long sd, .int nw, .long hh, .ref q1, .ref q2, .ref q3, .ref q4, .ref q5, .ref q6, .ref q7, .ref q8, .int (nI n), .ref q9, .ref q10, .ref q11, .ref q12, .ref q13, .ref q14, .ref q15, .ref q16, .ref q17, .ref q18, .ref q19, .ref q20])), (q1, .inl ((ct 0), 8, .inl a1))] sz) (wk_Q (wk_oi (S := Unit) (fun _ => 0) (fun _ => True)) (fun _ : Unit => [(hm, .inr (4, [.int 0, .long sd, .int nw, .long hh, .ref q1, .ref q2, .ref q3, .ref q4, .ref q5, .ref q6, .ref q7, .ref q8, .int (nI n), .ref q9, .ref q10, .ref q11, .ref q12, .ref q13, .ref q14, .ref q15, .ref q16, .ref q17, .ref q18, .ref q19, .ref q20])), (q1, .inl ((ct 0), 8, .inl a1))]) G (va_A [(hm, .inr (4, [.int th, .long sd, .int nw, .long hh, .ref q1, .ref q2, .ref q3, .ref q4, .ref q5, .ref q6, .ref q7, .ref q8, .int (nI n), .ref q9, .ref q10, .ref q11, .ref q12, .ref q13, .ref q14, .ref q15, .ref q16, .ref q17, .ref q18, .ref q19, .ref q20])), (q1, .inl ((ct 0), 8, .inl a1))] sz)) 0 0 (va_A [(hm, .inr (4, [.int th, .long sd, .int nw, .long hh, .ref q1, .ref q2, .ref q3, .ref q4, .ref q5, .ref q6, .ref q7, .ref q8, .int (nI n), .ref q9, .ref q10, .ref q11, .ref q12, .ref q13, .ref q14, .ref q15, .ref q16, .ref q17, .ref q18, .ref q19, .ref q20])), (q1, .inl ((ct 0), 8, .inl a1))] sz) := by
  refine Met.ofW (cc := mb_M_forget) (maxL := 2) (ret := (some .boolean)) (by decide) rfl ?_
  intro p e s m args below meth c s₁ B hml hv
  obtain ⟨rfl, hsz, hP, hK, hD0⟩ := hv
  have hx := B.exec
  have hb := B.bytes
  have hr := B.returns
  have hts := atoms_spec (ws := tb_w my_M_forget mb_M_forget 2 (some .boolean)) B.pre
  have hw : ∀ w ∈ gt_tbl, w.before [.ref hm, .int (nI k)].toArray s = true := fun w h => hts w (List.mem_cons_of_mem _ h)
  have hown : s.vm.findClass cr_M = some m.cls := findClass_of_methodNamed B.named
  have hlocks := B.notSynchronized
  subst hsz
  have hD := hD0.self (sz := s.heap.size)
  generalize hAe : va_A [(hm, .inr (4, [.int th, .long sd, .int nw, .long hh, .ref q1, .ref q2, .ref q3, .ref q4, .ref q5, .ref q6, .ref q7, .ref q8, .int (nI n), .ref q9, .ref q10, .ref q11, .ref q12, .ref q13, .ref q14, .ref q15, .ref q16, .ref q17, .ref q18, .ref q19, .ref q20])), (q1, .inl ((ct 0), 8, .inl a1))] s.heap.size = A at hD ⊢
  have hA : ∀ q : Nat, s.heap.size ≤ q → A q := fun q h => by rw [← hAe]; exact Or.inr h
  have hS : va_S A s.heap s.heap [] := va_S.rf
  have hP : va_P G classes [(hm, .inr (4, [.int th, .long sd, .int nw, .long hh, .ref q1, .ref q2, .ref q3, .ref q4, .ref q5, .ref q6, .ref q7, .ref q8, .int (nI n), .ref q9, .ref q10, .ref q11, .ref q12, .ref q13, .ref q14, .ref q15, .ref q16, .ref q17, .ref q18, .ref q19, .ref q20])), (q1, .inl ((ct 0), 8, .inl a1))] s.heap := hP
  have hl := lv_entry ([.ref hm, .int (nI k)]) (n := 2) (Nat.le_of_ble_eq_true rfl)
  rw [lg_entry_eq]
  generalize (lg_sl ([.ref hm, .int (nI k)]) ++ List.replicate (2 - (lg_sl ([.ref hm, .int (nI k)])).length) Slot.unset).toArray = ls at hl ⊢
  have hl : lv_has ls 2 [(0, .ref hm), (1, .int (nI k))] := hl
  refine lv_aload_n hx hb d_M_forget_0 rfl (lv_at hl 0 rfl) ?_
  refine lv_iconst (v := 0) hx hb d_M_forget_1 (by decide) ?_
  refine va_put (D := G) (ci := 4) (v := .int 0) (ty := .int) (C := cr_M) (T := cf_M) (N := 25) hx hb hw uw_M ct_M ct_M_ok ct_M_nm hown hK.1 hP hD hS 0 rfl rfl 0 (by decide) (hw _ ww_640) (fun _ h9 => h9) rfl (by decide +kernel) rfl rfl (Nat.le_of_ble_eq_true rfl) d_M_forget_2 (fun H locs hP hD hS => ?_)
  have hP : va_P G classes [(hm, .inr (4, [.int 0, .long sd, .int nw, .long hh, .ref q1, .ref q2, .ref q3, .ref q4, .ref q5, .ref q6, .ref q7, .ref q8, .int (nI n), .ref q9, .ref q10, .ref q11, .ref q12, .ref q13, .ref q14, .ref q15, .ref q16, .ref q17, .ref q18, .ref q19, .ref q20])), (q1, .inl ((ct 0), 8, .inl a1))] H := hP
  have hD : va_D A [(hm, .inr (4, [.int 0, .long sd, .int nw, .long hh, .ref q1, .ref q2, .ref q3, .ref q4, .ref q5, .ref q6, .ref q7, .ref q8, .int (nI n), .ref q9, .ref q10, .ref q11, .ref q12, .ref q13, .ref q14, .ref q15, .ref q16, .ref q17, .ref q18, .ref q19, .ref q20])), (q1, .inl ((ct 0), 8, .inl a1))] := hD
  refine lv_iload_n hx hb d_M_forget_5 rfl (lv_at hl 1 rfl) ?_
  refine vp_callSi (W.runS (As := [.int (nI k)]) (rest := []) ⟨hx, hb, hml, hown, hts⟩ (c_M_isUser l (nI k)) (tb_S hw cy_M_isUser ww_727 ww_728 rfl rfl ⟨Nat.le_of_ble_eq_true rfl, Nat.le_of_ble_eq_true rfl⟩) preEq rfl rfl hl.1 rfl (lv_room (Nat.le_of_ble_eq_true rfl)) d_M_forget_6 ⟨Nat.le_of_ble_eq_true rfl, Nat.le_of_ble_eq_true rfl⟩) (fun r553 er553 => ?_)
  subst er553
  refine tp_i (if_pos (us_k hk)) ?_
  refine lv_if_eq (tgt := 21) hx hb d_M_forget_9 (by decide) (fun h554 => ?_) (fun h554 => ?_)
  · exact absurd h554 (by decide)
  · refine lv_aload_n hx hb d_M_forget_12 rfl (lv_at hl 0 rfl) ?_
    refine va_get (D := G) (ci := 4) (v := .ref q1) (C := cr_M) (T := cf_M) (N := 25) hx hb hw uw_M hown hK.1 hP 0 rfl rfl 4 (by decide) (hw _ ww_644) (fun _ h9 => h9) rfl d_M_forget_13 ?_
    refine lv_iload_n hx hb d_M_forget_16 rfl (lv_at hl 1 rfl) ?_
    refine ra_il hx hb hK.1 hP 1 0 rfl rfl (k := k) (by omega) (by decide) d_M_forget_17 ?_
    refine lv_if_ge (tgt := 23) hx hb d_M_forget_18 (by decide) (fun h555 => ?_) (fun h555 => ?_)
    · exact absurd h555 hge
    · refine lv_iconst (v := 0) hx hb d_M_forget_21 (by decide) ?_
      exact W.zret (v := 0) (ty := .boolean) hx hb hr rfl (fun t ht hW => ⟨⟨(), ⟨rfl, trivial⟩, by rw [ht]; exact hP, hD⟩, hS.F ht⟩) hS.2.2 d_M_forget_22
set_option maxHeartbeats 4000000 in
set_option maxRecDepth 100000 in
theorem c_M_forget0 (l : Launch) (G : va_G) (ct : Nat → ClassId) (sz : Nat) (hm : Nat) (th : Int32) (sd : Int64) (nw : Int32) (hh : Int64) (q1 : Nat) (q2 : Nat) (q3 : Nat) (q4 : Nat) (q5 : Nat) (q6 : Nat) (q7 : Nat) (q8 : Nat) (q9 : Nat) (q10 : Nat) (q11 : Nat) (q12 : Nat) (q13 : Nat) (q14 : Nat) (q15 : Nat) (q16 : Nat) (q17 : Nat) (q18 : Nat) (q19 : Nat) (q20 : Nat) (n : Nat) (ua : Int32) (hno : ¬ us_in ua) : Met l my_M_forget (tb_w my_M_forget mb_M_forget 2 (some .boolean)) ({ frames := 1, cells := 0, slots := 0, locals := 20 }) (wk_P [.ref hm, .int ua] G ct [(hm, .inr (4, [.int th, .long sd, .int nw, .long hh, .ref q1, .ref q2, .ref q3, .ref q4, .ref q5, .ref q6, .ref q7, .ref q8, .int (nI n), .ref q9, .ref q10, .ref q11, .ref q12, .ref q13, .ref q14, .ref q15, .ref q16, .ref q17, .ref q18, .ref q19, .ref q20]))] sz) (wk_Q (wk_oi (S := Unit) (fun _ => 0) (fun _ => True)) (fun _ : Unit => [(hm, .inr (4, [.int 0, .long sd, .int nw, .long hh, .ref q1, .ref q2, .ref q3, .ref q4, .ref q5, .ref q6, .ref q7, .ref q8, .int (nI n), .ref q9, .ref q10, .ref q11, .ref q12, .ref q13, .ref q14, .ref q15, .ref q16, .ref q17, .ref q18, .ref q19, .ref q20]))]) G (va_A [(hm, .inr (4, [.int th, .long sd, .int nw, .long hh, .ref q1, .ref q2, .ref q3, .ref q4, .ref q5, .ref q6, .ref q7, .ref q8, .int (nI n), .ref q9, .ref q10, .ref q11, .ref q12, .ref q13, .ref q14, .ref q15, .ref q16, .ref q17, .ref q18, .ref q19, .ref q20]))] sz)) 0 0 (va_A [(hm, .inr (4, [.int th, .long sd, .int nw, .long hh, .ref q1, .ref q2, .ref q3, .ref q4, .ref q5, .ref q6, .ref q7, .ref q8, .int (nI n), .ref q9, .ref q10, .ref q11, .ref q12, .ref q13, .ref q14, .ref q15, .ref q16, .ref q17, .ref q18, .ref q19, .ref q20]))] sz) := by
  refine Met.ofW (cc := mb_M_forget) (maxL := 2) (ret := (some .boolean)) (by decide) rfl ?_
  intro p e s m args below meth c s₁ B hml hv
  obtain ⟨rfl, hsz, hP, hK, hD0⟩ := hv
  have hx := B.exec
  have hb := B.bytes
  have hr := B.returns
  have hts := atoms_spec (ws := tb_w my_M_forget mb_M_forget 2 (some .boolean)) B.pre
  have hw : ∀ w ∈ gt_tbl, w.before [.ref hm, .int ua].toArray s = true := fun w h => hts w (List.mem_cons_of_mem _ h)
  have hown : s.vm.findClass cr_M = some m.cls := findClass_of_methodNamed B.named
  have hlocks := B.notSynchronized
  subst hsz
  have hD := hD0.self (sz := s.heap.size)
  generalize hAe : va_A [(hm, .inr (4, [.int th, .long sd, .int nw, .long hh, .ref q1, .ref q2, .ref q3, .ref q4, .ref q5, .ref q6, .ref q7, .ref q8, .int (nI n), .ref q9, .ref q10, .ref q11, .ref q12, .ref q13, .ref q14, .ref q15, .ref q16, .ref q17, .ref q18, .ref q19, .ref q20]))] s.heap.size = A at hD ⊢
  have hA : ∀ q : Nat, s.heap.size ≤ q → A q := fun q h => by rw [← hAe]; exact Or.inr h
  have hS : va_S A s.heap s.heap [] := va_S.rf
  have hP : va_P G classes [(hm, .inr (4, [.int th, .long sd, .int nw, .long hh, .ref q1, .ref q2, .ref q3, .ref q4, .ref q5, .ref q6, .ref q7, .ref q8, .int (nI n), .ref q9, .ref q10, .ref q11, .ref q12, .ref q13, .ref q14, .ref q15, .ref q16, .ref q17, .ref q18, .ref q19, .ref q20]))] s.heap := hP
  have hl := lv_entry ([.ref hm, .int ua]) (n := 2) (Nat.le_of_ble_eq_true rfl)
  rw [lg_entry_eq]
  generalize (lg_sl ([.ref hm, .int ua]) ++ List.replicate (2 - (lg_sl ([.ref hm, .int ua])).length) Slot.unset).toArray = ls at hl ⊢
  have hl : lv_has ls 2 [(0, .ref hm), (1, .int ua)] := hl
  refine lv_aload_n hx hb d_M_forget_0 rfl (lv_at hl 0 rfl) ?_
  refine lv_iconst (v := 0) hx hb d_M_forget_1 (by decide) ?_
  refine va_put (D := G) (ci := 4) (v := .int 0) (ty := .int) (C := cr_M) (T := cf_M) (N := 25) hx hb hw uw_M ct_M ct_M_ok ct_M_nm hown hK.1 hP hD hS 0 rfl rfl 0 (by decide) (hw _ ww_640) (fun _ h9 => h9) rfl (by decide +kernel) rfl rfl (Nat.le_of_ble_eq_true rfl) d_M_forget_2 (fun H locs hP hD hS => ?_)
  have hP : va_P G classes [(hm, .inr (4, [.int 0, .long sd, .int nw, .long hh, .ref q1, .ref q2, .ref q3, .ref q4, .ref q5, .ref q6, .ref q7, .ref q8, .int (nI n), .ref q9, .ref q10, .ref q11, .ref q12, .ref q13, .ref q14, .ref q15, .ref q16, .ref q17, .ref q18, .ref q19, .ref q20]))] H := hP
  have hD : va_D A [(hm, .inr (4, [.int 0, .long sd, .int nw, .long hh, .ref q1, .ref q2, .ref q3, .ref q4, .ref q5, .ref q6, .ref q7, .ref q8, .int (nI n), .ref q9, .ref q10, .ref q11, .ref q12, .ref q13, .ref q14, .ref q15, .ref q16, .ref q17, .ref q18, .ref q19, .ref q20]))] := hD
  refine lv_iload_n hx hb d_M_forget_5 rfl (lv_at hl 1 rfl) ?_
  refine vp_callSi (W.runS (As := [.int ua]) (rest := []) ⟨hx, hb, hml, hown, hts⟩ (c_M_isUser l ua) (tb_S hw cy_M_isUser ww_727 ww_728 rfl rfl ⟨Nat.le_of_ble_eq_true rfl, Nat.le_of_ble_eq_true rfl⟩) preEq rfl rfl hl.1 rfl (lv_room (Nat.le_of_ble_eq_true rfl)) d_M_forget_6 ⟨Nat.le_of_ble_eq_true rfl, Nat.le_of_ble_eq_true rfl⟩) (fun r556 er556 => ?_)
  subst er556
  refine tp_i (if_neg hno) ?_
  refine lv_if_eq (tgt := 21) hx hb d_M_forget_9 (by decide) (fun h557 => ?_) (fun h557 => ?_)
  · refine lv_iconst (v := 0) hx hb d_M_forget_21 (by decide) ?_
    exact W.zret (v := 0) (ty := .boolean) hx hb hr rfl (fun t ht hW => ⟨⟨(), ⟨rfl, trivial⟩, by rw [ht]; exact hP, hD⟩, hS.F ht⟩) hS.2.2 d_M_forget_22
  · exact absurd h557 (by decide)
set_option maxHeartbeats 4000000 in
set_option maxRecDepth 100000 in
theorem c_M_way1 (l : Launch) (G : va_G) (ct : Nat → ClassId) (sz : Nat) (hm : Nat) (th : Int32) (sd : Int64) (nw : Int32) (hh : Int64) (q1 : Nat) (q2 : Nat) (q3 : Nat) (q4 : Nat) (q5 : Nat) (q6 : Nat) (q7 : Nat) (q8 : Nat) (q9 : Nat) (q10 : Nat) (q11 : Nat) (q12 : Nat) (q13 : Nat) (q14 : Nat) (q15 : Nat) (q16 : Nat) (q17 : Nat) (q18 : Nat) (q19 : Nat) (q20 : Nat) (n : Nat) (a1 : Nat → Int32) (k : Nat) (hk : k < 8) : Met l my_M_way (tb_w my_M_way mb_M_way 2 (some .int)) ({ frames := 1, cells := 0, slots := 0, locals := 20 }) (wk_P [.ref hm, .int (nI k)] G ct [(hm, .inr (4, [.int th, .long sd, .int nw, .long hh, .ref q1, .ref q2, .ref q3, .ref q4, .ref q5, .ref q6, .ref q7, .ref q8, .int (nI n), .ref q9, .ref q10, .ref q11, .ref q12, .ref q13, .ref q14, .ref q15, .ref q16, .ref q17, .ref q18, .ref q19, .ref q20])), (q1, .inl ((ct 0), 8, .inl a1))] sz) (wk_Q (wk_oi (S := Unit) (fun _ => a1 k) (fun _ => True)) (fun _ : Unit => [(hm, .inr (4, [.int 0, .long sd, .int nw, .long hh, .ref q1, .ref q2, .ref q3, .ref q4, .ref q5, .ref q6, .ref q7, .ref q8, .int (nI n), .ref q9, .ref q10, .ref q11, .ref q12, .ref q13, .ref q14, .ref q15, .ref q16, .ref q17, .ref q18, .ref q19, .ref q20])), (q1, .inl ((ct 0), 8, .inl a1))]) G (va_A [(hm, .inr (4, [.int th, .long sd, .int nw, .long hh, .ref q1, .ref q2, .ref q3, .ref q4, .ref q5, .ref q6, .ref q7, .ref q8, .int (nI n), .ref q9, .ref q10, .ref q11, .ref q12, .ref q13, .ref q14, .ref q15, .ref q16, .ref q17, .ref q18, .ref q19, .ref q20])), (q1, .inl ((ct 0), 8, .inl a1))] sz)) 0 0 (va_A [(hm, .inr (4, [.int th, .long sd, .int nw, .long hh, .ref q1, .ref q2, .ref q3, .ref q4, .ref q5, .ref q6, .ref q7, .ref q8, .int (nI n), .ref q9, .ref q10, .ref q11, .ref q12, .ref q13, .ref q14, .ref q15, .ref q16, .ref q17, .ref q18, .ref q19, .ref q20])), (q1, .inl ((ct 0), 8, .inl a1))] sz) := by
  refine Met.ofW (cc := mb_M_way) (maxL := 2) (ret := (some .int)) (by decide) rfl ?_
  intro p e s m args below meth c s₁ B hml hv
  obtain ⟨rfl, hsz, hP, hK, hD0⟩ := hv
  have hx := B.exec
  have hb := B.bytes
  have hr := B.returns
  have hts := atoms_spec (ws := tb_w my_M_way mb_M_way 2 (some .int)) B.pre
  have hw : ∀ w ∈ gt_tbl, w.before [.ref hm, .int (nI k)].toArray s = true := fun w h => hts w (List.mem_cons_of_mem _ h)
  have hown : s.vm.findClass cr_M = some m.cls := findClass_of_methodNamed B.named
  have hlocks := B.notSynchronized
  subst hsz
  have hD := hD0.self (sz := s.heap.size)
  generalize hAe : va_A [(hm, .inr (4, [.int th, .long sd, .int nw, .long hh, .ref q1, .ref q2, .ref q3, .ref q4, .ref q5, .ref q6, .ref q7, .ref q8, .int (nI n), .ref q9, .ref q10, .ref q11, .ref q12, .ref q13, .ref q14, .ref q15, .ref q16, .ref q17, .ref q18, .ref q19, .ref q20])), (q1, .inl ((ct 0), 8, .inl a1))] s.heap.size = A at hD ⊢
  have hA : ∀ q : Nat, s.heap.size ≤ q → A q := fun q h => by rw [← hAe]; exact Or.inr h
  have hS : va_S A s.heap s.heap [] := va_S.rf
  have hP : va_P G classes [(hm, .inr (4, [.int th, .long sd, .int nw, .long hh, .ref q1, .ref q2, .ref q3, .ref q4, .ref q5, .ref q6, .ref q7, .ref q8, .int (nI n), .ref q9, .ref q10, .ref q11, .ref q12, .ref q13, .ref q14, .ref q15, .ref q16, .ref q17, .ref q18, .ref q19, .ref q20])), (q1, .inl ((ct 0), 8, .inl a1))] s.heap := hP
  have hl := lv_entry ([.ref hm, .int (nI k)]) (n := 2) (Nat.le_of_ble_eq_true rfl)
  rw [lg_entry_eq]
  generalize (lg_sl ([.ref hm, .int (nI k)]) ++ List.replicate (2 - (lg_sl ([.ref hm, .int (nI k)])).length) Slot.unset).toArray = ls at hl ⊢
  have hl : lv_has ls 2 [(0, .ref hm), (1, .int (nI k))] := hl
  refine lv_aload_n hx hb d_M_way_0 rfl (lv_at hl 0 rfl) ?_
  refine lv_iconst (v := 0) hx hb d_M_way_1 (by decide) ?_
  refine va_put (D := G) (ci := 4) (v := .int 0) (ty := .int) (C := cr_M) (T := cf_M) (N := 25) hx hb hw uw_M ct_M ct_M_ok ct_M_nm hown hK.1 hP hD hS 0 rfl rfl 0 (by decide) (hw _ ww_640) (fun _ h9 => h9) rfl (by decide +kernel) rfl rfl (Nat.le_of_ble_eq_true rfl) d_M_way_2 (fun H locs hP hD hS => ?_)
  have hP : va_P G classes [(hm, .inr (4, [.int 0, .long sd, .int nw, .long hh, .ref q1, .ref q2, .ref q3, .ref q4, .ref q5, .ref q6, .ref q7, .ref q8, .int (nI n), .ref q9, .ref q10, .ref q11, .ref q12, .ref q13, .ref q14, .ref q15, .ref q16, .ref q17, .ref q18, .ref q19, .ref q20])), (q1, .inl ((ct 0), 8, .inl a1))] H := hP
  have hD : va_D A [(hm, .inr (4, [.int 0, .long sd, .int nw, .long hh, .ref q1, .ref q2, .ref q3, .ref q4, .ref q5, .ref q6, .ref q7, .ref q8, .int (nI n), .ref q9, .ref q10, .ref q11, .ref q12, .ref q13, .ref q14, .ref q15, .ref q16, .ref q17, .ref q18, .ref q19, .ref q20])), (q1, .inl ((ct 0), 8, .inl a1))] := hD
  refine lv_iload_n hx hb d_M_way_5 rfl (lv_at hl 1 rfl) ?_
  refine vp_callSi (W.runS (As := [.int (nI k)]) (rest := []) ⟨hx, hb, hml, hown, hts⟩ (c_M_isUser l (nI k)) (tb_S hw cy_M_isUser ww_727 ww_728 rfl rfl ⟨Nat.le_of_ble_eq_true rfl, Nat.le_of_ble_eq_true rfl⟩) preEq rfl rfl hl.1 rfl (lv_room (Nat.le_of_ble_eq_true rfl)) d_M_way_6 ⟨Nat.le_of_ble_eq_true rfl, Nat.le_of_ble_eq_true rfl⟩) (fun r558 er558 => ?_)
  subst er558
  refine tp_i (if_pos (us_k hk)) ?_
  refine lv_if_eq (tgt := 21) hx hb d_M_way_9 (by decide) (fun h559 => ?_) (fun h559 => ?_)
  · exact absurd h559 (by decide)
  · refine lv_aload_n hx hb d_M_way_12 rfl (lv_at hl 0 rfl) ?_
    refine va_get (D := G) (ci := 4) (v := .ref q1) (C := cr_M) (T := cf_M) (N := 25) hx hb hw uw_M hown hK.1 hP 0 rfl rfl 4 (by decide) (hw _ ww_644) (fun _ h9 => h9) rfl d_M_way_13 ?_
    refine lv_iload_n hx hb d_M_way_16 rfl (lv_at hl 1 rfl) ?_
    refine ra_il hx hb hK.1 hP 1 0 rfl rfl (k := k) (by omega) (by decide) d_M_way_17 ?_
    refine lv_goto (tgt := 22) hx hb d_M_way_18 (by decide) ?_
    exact W.iret (v := a1 k) hx hb hr (fun t ht hW => ⟨⟨(), ⟨rfl, trivial⟩, by rw [ht]; exact hP, hD⟩, hS.F ht⟩) hS.2.2 d_M_way_22
set_option maxHeartbeats 4000000 in
set_option maxRecDepth 100000 in
theorem c_M_way0 (l : Launch) (G : va_G) (ct : Nat → ClassId) (sz : Nat) (hm : Nat) (th : Int32) (sd : Int64) (nw : Int32) (hh : Int64) (q1 : Nat) (q2 : Nat) (q3 : Nat) (q4 : Nat) (q5 : Nat) (q6 : Nat) (q7 : Nat) (q8 : Nat) (q9 : Nat) (q10 : Nat) (q11 : Nat) (q12 : Nat) (q13 : Nat) (q14 : Nat) (q15 : Nat) (q16 : Nat) (q17 : Nat) (q18 : Nat) (q19 : Nat) (q20 : Nat) (n : Nat) (ua : Int32) (hno : ¬ us_in ua) : Met l my_M_way (tb_w my_M_way mb_M_way 2 (some .int)) ({ frames := 1, cells := 0, slots := 0, locals := 20 }) (wk_P [.ref hm, .int ua] G ct [(hm, .inr (4, [.int th, .long sd, .int nw, .long hh, .ref q1, .ref q2, .ref q3, .ref q4, .ref q5, .ref q6, .ref q7, .ref q8, .int (nI n), .ref q9, .ref q10, .ref q11, .ref q12, .ref q13, .ref q14, .ref q15, .ref q16, .ref q17, .ref q18, .ref q19, .ref q20]))] sz) (wk_Q (wk_oi (S := Unit) (fun _ => (-1)) (fun _ => True)) (fun _ : Unit => [(hm, .inr (4, [.int 0, .long sd, .int nw, .long hh, .ref q1, .ref q2, .ref q3, .ref q4, .ref q5, .ref q6, .ref q7, .ref q8, .int (nI n), .ref q9, .ref q10, .ref q11, .ref q12, .ref q13, .ref q14, .ref q15, .ref q16, .ref q17, .ref q18, .ref q19, .ref q20]))]) G (va_A [(hm, .inr (4, [.int th, .long sd, .int nw, .long hh, .ref q1, .ref q2, .ref q3, .ref q4, .ref q5, .ref q6, .ref q7, .ref q8, .int (nI n), .ref q9, .ref q10, .ref q11, .ref q12, .ref q13, .ref q14, .ref q15, .ref q16, .ref q17, .ref q18, .ref q19, .ref q20]))] sz)) 0 0 (va_A [(hm, .inr (4, [.int th, .long sd, .int nw, .long hh, .ref q1, .ref q2, .ref q3, .ref q4, .ref q5, .ref q6, .ref q7, .ref q8, .int (nI n), .ref q9, .ref q10, .ref q11, .ref q12, .ref q13, .ref q14, .ref q15, .ref q16, .ref q17, .ref q18, .ref q19, .ref q20]))] sz) := by
  refine Met.ofW (cc := mb_M_way) (maxL := 2) (ret := (some .int)) (by decide) rfl ?_
  intro p e s m args below meth c s₁ B hml hv
  obtain ⟨rfl, hsz, hP, hK, hD0⟩ := hv
  have hx := B.exec
  have hb := B.bytes
  have hr := B.returns
  have hts := atoms_spec (ws := tb_w my_M_way mb_M_way 2 (some .int)) B.pre
  have hw : ∀ w ∈ gt_tbl, w.before [.ref hm, .int ua].toArray s = true := fun w h => hts w (List.mem_cons_of_mem _ h)
  have hown : s.vm.findClass cr_M = some m.cls := findClass_of_methodNamed B.named
  have hlocks := B.notSynchronized
  subst hsz
  have hD := hD0.self (sz := s.heap.size)
  generalize hAe : va_A [(hm, .inr (4, [.int th, .long sd, .int nw, .long hh, .ref q1, .ref q2, .ref q3, .ref q4, .ref q5, .ref q6, .ref q7, .ref q8, .int (nI n), .ref q9, .ref q10, .ref q11, .ref q12, .ref q13, .ref q14, .ref q15, .ref q16, .ref q17, .ref q18, .ref q19, .ref q20]))] s.heap.size = A at hD ⊢
  have hA : ∀ q : Nat, s.heap.size ≤ q → A q := fun q h => by rw [← hAe]; exact Or.inr h
  have hS : va_S A s.heap s.heap [] := va_S.rf
  have hP : va_P G classes [(hm, .inr (4, [.int th, .long sd, .int nw, .long hh, .ref q1, .ref q2, .ref q3, .ref q4, .ref q5, .ref q6, .ref q7, .ref q8, .int (nI n), .ref q9, .ref q10, .ref q11, .ref q12, .ref q13, .ref q14, .ref q15, .ref q16, .ref q17, .ref q18, .ref q19, .ref q20]))] s.heap := hP
  have hl := lv_entry ([.ref hm, .int ua]) (n := 2) (Nat.le_of_ble_eq_true rfl)
  rw [lg_entry_eq]
  generalize (lg_sl ([.ref hm, .int ua]) ++ List.replicate (2 - (lg_sl ([.ref hm, .int ua])).length) Slot.unset).toArray = ls at hl ⊢
  have hl : lv_has ls 2 [(0, .ref hm), (1, .int ua)] := hl
  refine lv_aload_n hx hb d_M_way_0 rfl (lv_at hl 0 rfl) ?_
  refine lv_iconst (v := 0) hx hb d_M_way_1 (by decide) ?_
  refine va_put (D := G) (ci := 4) (v := .int 0) (ty := .int) (C := cr_M) (T := cf_M) (N := 25) hx hb hw uw_M ct_M ct_M_ok ct_M_nm hown hK.1 hP hD hS 0 rfl rfl 0 (by decide) (hw _ ww_640) (fun _ h9 => h9) rfl (by decide +kernel) rfl rfl (Nat.le_of_ble_eq_true rfl) d_M_way_2 (fun H locs hP hD hS => ?_)
  have hP : va_P G classes [(hm, .inr (4, [.int 0, .long sd, .int nw, .long hh, .ref q1, .ref q2, .ref q3, .ref q4, .ref q5, .ref q6, .ref q7, .ref q8, .int (nI n), .ref q9, .ref q10, .ref q11, .ref q12, .ref q13, .ref q14, .ref q15, .ref q16, .ref q17, .ref q18, .ref q19, .ref q20]))] H := hP
  have hD : va_D A [(hm, .inr (4, [.int 0, .long sd, .int nw, .long hh, .ref q1, .ref q2, .ref q3, .ref q4, .ref q5, .ref q6, .ref q7, .ref q8, .int (nI n), .ref q9, .ref q10, .ref q11, .ref q12, .ref q13, .ref q14, .ref q15, .ref q16, .ref q17, .ref q18, .ref q19, .ref q20]))] := hD
  refine lv_iload_n hx hb d_M_way_5 rfl (lv_at hl 1 rfl) ?_
  refine vp_callSi (W.runS (As := [.int ua]) (rest := []) ⟨hx, hb, hml, hown, hts⟩ (c_M_isUser l ua) (tb_S hw cy_M_isUser ww_727 ww_728 rfl rfl ⟨Nat.le_of_ble_eq_true rfl, Nat.le_of_ble_eq_true rfl⟩) preEq rfl rfl hl.1 rfl (lv_room (Nat.le_of_ble_eq_true rfl)) d_M_way_6 ⟨Nat.le_of_ble_eq_true rfl, Nat.le_of_ble_eq_true rfl⟩) (fun r560 er560 => ?_)
  subst er560
  refine tp_i (if_neg hno) ?_
  refine lv_if_eq (tgt := 21) hx hb d_M_way_9 (by decide) (fun h561 => ?_) (fun h561 => ?_)
  · refine lv_iconst (v := (-1)) hx hb d_M_way_21 (by decide) ?_
    exact W.iret (v := (-1)) hx hb hr (fun t ht hW => ⟨⟨(), ⟨rfl, trivial⟩, by rw [ht]; exact hP, hD⟩, hS.F ht⟩) hS.2.2 d_M_way_22
  · exact absurd h561 (by decide)
set_option maxHeartbeats 4000000 in
set_option maxRecDepth 100000 in
theorem c_M_salt1 (l : Launch) (G : va_G) (ct : Nat → ClassId) (sz : Nat) (hm : Nat) (th : Int32) (sd : Int64) (nw : Int32) (hh : Int64) (q1 : Nat) (q2 : Nat) (q3 : Nat) (q4 : Nat) (q5 : Nat) (q6 : Nat) (q7 : Nat) (q8 : Nat) (q9 : Nat) (q10 : Nat) (q11 : Nat) (q12 : Nat) (q13 : Nat) (q14 : Nat) (q15 : Nat) (q16 : Nat) (q17 : Nat) (q18 : Nat) (q19 : Nat) (q20 : Nat) (n : Nat) (a1 : Nat → Int32) (a3 : Nat → Int64) (k : Nat) (hk : k < 8) : Met l my_M_salt (tb_w my_M_salt mb_M_salt 2 (some .long)) ({ frames := 4, cells := 0, slots := 0, locals := 90 }) (wk_P [.ref hm, .int (nI k)] G ct [(hm, .inr (4, [.int th, .long sd, .int nw, .long hh, .ref q1, .ref q2, .ref q3, .ref q4, .ref q5, .ref q6, .ref q7, .ref q8, .int (nI n), .ref q9, .ref q10, .ref q11, .ref q12, .ref q13, .ref q14, .ref q15, .ref q16, .ref q17, .ref q18, .ref q19, .ref q20])), (q1, .inl ((ct 0), 8, .inl a1)), (q3, .inl ((ct 1), 8, .inr (.inl a3)))] sz) (wk_Q (wk_ol (S := Int64) (fun z2 => sm_sa sd (nI k) (a1 k) (a3 k)) (fun _ => True)) (fun z2 : Int64 => [(hm, .inr (4, [.int 0, .long sd, .int nw, .long z2, .ref q1, .ref q2, .ref q3, .ref q4, .ref q5, .ref q6, .ref q7, .ref q8, .int (nI n), .ref q9, .ref q10, .ref q11, .ref q12, .ref q13, .ref q14, .ref q15, .ref q16, .ref q17, .ref q18, .ref q19, .ref q20])), (q1, .inl ((ct 0), 8, .inl a1)), (q3, .inl ((ct 1), 8, .inr (.inl a3)))]) G (va_A [(hm, .inr (4, [.int th, .long sd, .int nw, .long hh, .ref q1, .ref q2, .ref q3, .ref q4, .ref q5, .ref q6, .ref q7, .ref q8, .int (nI n), .ref q9, .ref q10, .ref q11, .ref q12, .ref q13, .ref q14, .ref q15, .ref q16, .ref q17, .ref q18, .ref q19, .ref q20])), (q1, .inl ((ct 0), 8, .inl a1)), (q3, .inl ((ct 1), 8, .inr (.inl a3)))] sz)) 0 0 (va_A [(hm, .inr (4, [.int th, .long sd, .int nw, .long hh, .ref q1, .ref q2, .ref q3, .ref q4, .ref q5, .ref q6, .ref q7, .ref q8, .int (nI n), .ref q9, .ref q10, .ref q11, .ref q12, .ref q13, .ref q14, .ref q15, .ref q16, .ref q17, .ref q18, .ref q19, .ref q20])), (q1, .inl ((ct 0), 8, .inl a1)), (q3, .inl ((ct 1), 8, .inr (.inl a3)))] sz) := by
  refine Met.ofW (cc := mb_M_salt) (maxL := 2) (ret := (some .long)) (by decide) rfl ?_
  intro p e s m args below meth c s₁ B hml hv
  obtain ⟨rfl, hsz, hP, hK, hD0⟩ := hv
  have hx := B.exec
  have hb := B.bytes
  have hr := B.returns
  have hts := atoms_spec (ws := tb_w my_M_salt mb_M_salt 2 (some .long)) B.pre
  have hw : ∀ w ∈ gt_tbl, w.before [.ref hm, .int (nI k)].toArray s = true := fun w h => hts w (List.mem_cons_of_mem _ h)
  have hown : s.vm.findClass cr_M = some m.cls := findClass_of_methodNamed B.named
  have hlocks := B.notSynchronized
  subst hsz
  have hD := hD0.self (sz := s.heap.size)
  generalize hAe : va_A [(hm, .inr (4, [.int th, .long sd, .int nw, .long hh, .ref q1, .ref q2, .ref q3, .ref q4, .ref q5, .ref q6, .ref q7, .ref q8, .int (nI n), .ref q9, .ref q10, .ref q11, .ref q12, .ref q13, .ref q14, .ref q15, .ref q16, .ref q17, .ref q18, .ref q19, .ref q20])), (q1, .inl ((ct 0), 8, .inl a1)), (q3, .inl ((ct 1), 8, .inr (.inl a3)))] s.heap.size = A at hD ⊢
  have hA : ∀ q : Nat, s.heap.size ≤ q → A q := fun q h => by rw [← hAe]; exact Or.inr h
  have hS : va_S A s.heap s.heap [] := va_S.rf
  have hP : va_P G classes [(hm, .inr (4, [.int th, .long sd, .int nw, .long hh, .ref q1, .ref q2, .ref q3, .ref q4, .ref q5, .ref q6, .ref q7, .ref q8, .int (nI n), .ref q9, .ref q10, .ref q11, .ref q12, .ref q13, .ref q14, .ref q15, .ref q16, .ref q17, .ref q18, .ref q19, .ref q20])), (q1, .inl ((ct 0), 8, .inl a1)), (q3, .inl ((ct 1), 8, .inr (.inl a3)))] s.heap := hP
  have hl := lv_entry ([.ref hm, .int (nI k)]) (n := 2) (Nat.le_of_ble_eq_true rfl)
  rw [lg_entry_eq]
  generalize (lg_sl ([.ref hm, .int (nI k)]) ++ List.replicate (2 - (lg_sl ([.ref hm, .int (nI k)])).length) Slot.unset).toArray = ls at hl ⊢
  have hl : lv_has ls 2 [(0, .ref hm), (1, .int (nI k))] := hl
  refine lv_aload_n hx hb d_M_salt_0 rfl (lv_at hl 0 rfl) ?_
  refine lv_iconst (v := 0) hx hb d_M_salt_1 (by decide) ?_
  refine va_put (D := G) (ci := 4) (v := .int 0) (ty := .int) (C := cr_M) (T := cf_M) (N := 25) hx hb hw uw_M ct_M ct_M_ok ct_M_nm hown hK.1 hP hD hS 0 rfl rfl 0 (by decide) (hw _ ww_640) (fun _ h9 => h9) rfl (by decide +kernel) rfl rfl (Nat.le_of_ble_eq_true rfl) d_M_salt_2 (fun H locs hP hD hS => ?_)
  have hP : va_P G classes [(hm, .inr (4, [.int 0, .long sd, .int nw, .long hh, .ref q1, .ref q2, .ref q3, .ref q4, .ref q5, .ref q6, .ref q7, .ref q8, .int (nI n), .ref q9, .ref q10, .ref q11, .ref q12, .ref q13, .ref q14, .ref q15, .ref q16, .ref q17, .ref q18, .ref q19, .ref q20])), (q1, .inl ((ct 0), 8, .inl a1)), (q3, .inl ((ct 1), 8, .inr (.inl a3)))] H := hP
  have hD : va_D A [(hm, .inr (4, [.int 0, .long sd, .int nw, .long hh, .ref q1, .ref q2, .ref q3, .ref q4, .ref q5, .ref q6, .ref q7, .ref q8, .int (nI n), .ref q9, .ref q10, .ref q11, .ref q12, .ref q13, .ref q14, .ref q15, .ref q16, .ref q17, .ref q18, .ref q19, .ref q20])), (q1, .inl ((ct 0), 8, .inl a1)), (q3, .inl ((ct 1), 8, .inr (.inl a3)))] := hD
  refine lv_iload_n hx hb d_M_salt_5 rfl (lv_at hl 1 rfl) ?_
  refine vp_callSi (W.runS (As := [.int (nI k)]) (rest := []) ⟨hx, hb, hml, hown, hts⟩ (c_M_isUser l (nI k)) (tb_S hw cy_M_isUser ww_727 ww_728 rfl rfl ⟨Nat.le_of_ble_eq_true rfl, Nat.le_of_ble_eq_true rfl⟩) preEq rfl rfl hl.1 rfl (lv_room (Nat.le_of_ble_eq_true rfl)) d_M_salt_6 ⟨Nat.le_of_ble_eq_true rfl, Nat.le_of_ble_eq_true rfl⟩) (fun r562 er562 => ?_)
  subst er562
  refine tp_i (if_pos (us_k hk)) ?_
  refine lv_if_eq (tgt := 20) hx hb d_M_salt_9 (by decide) (fun h563 => ?_) (fun h563 => ?_)
  · exact absurd h563 (by decide)
  · refine lv_aload_n hx hb d_M_salt_12 rfl (lv_at hl 0 rfl) ?_
    refine lv_iload_n hx hb d_M_salt_13 rfl (lv_at hl 1 rfl) ?_
    have hPc : va_P G classes [(hm, .inr (4, [.int 0, .long sd, .int nw, .long hh, .ref q1, .ref q2, .ref q3, .ref q4, .ref q5, .ref q6, .ref q7, .ref q8, .int (nI n), .ref q9, .ref q10, .ref q11, .ref q12, .ref q13, .ref q14, .ref q15, .ref q16, .ref q17, .ref q18, .ref q19, .ref q20])), (q1, .inl ((ct 0), 8, .inl a1)), (q3, .inl ((ct 1), 8, .inr (.inl a3)))] H := hP.sub [0, 1, 2] rfl
    have hDc := hD.sub (ws' := [(hm, .inr (4, [.int 0, .long sd, .int nw, .long hh, .ref q1, .ref q2, .ref q3, .ref q4, .ref q5, .ref q6, .ref q7, .ref q8, .int (nI n), .ref q9, .ref q10, .ref q11, .ref q12, .ref q13, .ref q14, .ref q15, .ref q16, .ref q17, .ref q18, .ref q19, .ref q20])), (q1, .inl ((ct 0), 8, .inl a1)), (q3, .inl ((ct 1), 8, .inr (.inl a3)))]) [0, 1, 2] (by decide) rfl
    refine wk_l (va_runV (As := [.int (nI k)]) (rest := []) ⟨hx, hb, hml, hown, hts⟩ (c_M_saltOf l G ct H.size hm 0 sd nw hh q1 q2 q3 q4 q5 q6 q7 q8 q9 q10 q11 q12 q13 q14 q15 q16 q17 q18 q19 q20 n a1 a3 k (by first | assumption | exact m63 (by first | assumption | exact qs_P (by assumption)) | decide | exact pw_lt _ _ | exact Nat.mod_lt _ pq_pos | exact sc_lt _ | exact sc_pos _ | exact m63 (by first | assumption | exact pw_lt _ _ | exact Nat.mod_lt _ pq_pos | exact qs_P (by first | assumption | exact sc_lt _ | exact qz_Q _)) | exact up_se _ _ _ | exact ul_se _ _ _ | omega)) (tb_V hw cy_M_saltOf ww_779 ww_781 wp_M_saltOf rfl rfl ⟨Nat.le_of_ble_eq_true rfl, Nat.le_of_ble_eq_true rfl⟩) (wk_preV (ci := 4) (q0 := 0) hPc hK hDc rfl rfl) rfl rfl hl.1 rfl (lv_room (Nat.le_of_ble_eq_true rfl)) d_M_salt_14 ⟨Nat.le_of_ble_eq_true rfl, Nat.le_of_ble_eq_true rfl⟩) hP hD hS hA [0, 1, 2] (by decide) rfl (fun _ => by simp only [List.map_cons, List.map_nil]) (fun z2564 H locs ok565 hP hD hS => ?_)
    have hP : va_P G classes [(hm, .inr (4, [.int 0, .long sd, .int nw, .long z2564, .ref q1, .ref q2, .ref q3, .ref q4, .ref q5, .ref q6, .ref q7, .ref q8, .int (nI n), .ref q9, .ref q10, .ref q11, .ref q12, .ref q13, .ref q14, .ref q15, .ref q16, .ref q17, .ref q18, .ref q19, .ref q20])), (q1, .inl ((ct 0), 8, .inl a1)), (q3, .inl ((ct 1), 8, .inr (.inl a3)))] H := hP
    have hD : va_D A [(hm, .inr (4, [.int 0, .long sd, .int nw, .long z2564, .ref q1, .ref q2, .ref q3, .ref q4, .ref q5, .ref q6, .ref q7, .ref q8, .int (nI n), .ref q9, .ref q10, .ref q11, .ref q12, .ref q13, .ref q14, .ref q15, .ref q16, .ref q17, .ref q18, .ref q19, .ref q20])), (q1, .inl ((ct 0), 8, .inl a1)), (q3, .inl ((ct 1), 8, .inr (.inl a3)))] := hD
    refine lv_goto (tgt := 21) hx hb d_M_salt_17 (by decide) ?_
    exact W.lret (v := sm_sa sd (nI k) (a1 k) (a3 k)) hx hb hr (fun t ht hW => ⟨⟨z2564, ⟨rfl, trivial⟩, by rw [ht]; exact hP, hD⟩, hS.F ht⟩) hS.2.2 d_M_salt_21
set_option maxHeartbeats 4000000 in
set_option maxRecDepth 100000 in
theorem c_M_salt0 (l : Launch) (G : va_G) (ct : Nat → ClassId) (sz : Nat) (hm : Nat) (th : Int32) (sd : Int64) (nw : Int32) (hh : Int64) (q1 : Nat) (q2 : Nat) (q3 : Nat) (q4 : Nat) (q5 : Nat) (q6 : Nat) (q7 : Nat) (q8 : Nat) (q9 : Nat) (q10 : Nat) (q11 : Nat) (q12 : Nat) (q13 : Nat) (q14 : Nat) (q15 : Nat) (q16 : Nat) (q17 : Nat) (q18 : Nat) (q19 : Nat) (q20 : Nat) (n : Nat) (ua : Int32) (hno : ¬ us_in ua) : Met l my_M_salt (tb_w my_M_salt mb_M_salt 2 (some .long)) ({ frames := 1, cells := 0, slots := 0, locals := 20 }) (wk_P [.ref hm, .int ua] G ct [(hm, .inr (4, [.int th, .long sd, .int nw, .long hh, .ref q1, .ref q2, .ref q3, .ref q4, .ref q5, .ref q6, .ref q7, .ref q8, .int (nI n), .ref q9, .ref q10, .ref q11, .ref q12, .ref q13, .ref q14, .ref q15, .ref q16, .ref q17, .ref q18, .ref q19, .ref q20]))] sz) (wk_Q (wk_ol (S := Unit) (fun _ => 0) (fun _ => True)) (fun _ : Unit => [(hm, .inr (4, [.int 0, .long sd, .int nw, .long hh, .ref q1, .ref q2, .ref q3, .ref q4, .ref q5, .ref q6, .ref q7, .ref q8, .int (nI n), .ref q9, .ref q10, .ref q11, .ref q12, .ref q13, .ref q14, .ref q15, .ref q16, .ref q17, .ref q18, .ref q19, .ref q20]))]) G (va_A [(hm, .inr (4, [.int th, .long sd, .int nw, .long hh, .ref q1, .ref q2, .ref q3, .ref q4, .ref q5, .ref q6, .ref q7, .ref q8, .int (nI n), .ref q9, .ref q10, .ref q11, .ref q12, .ref q13, .ref q14, .ref q15, .ref q16, .ref q17, .ref q18, .ref q19, .ref q20]))] sz)) 0 0 (va_A [(hm, .inr (4, [.int th, .long sd, .int nw, .long hh, .ref q1, .ref q2, .ref q3, .ref q4, .ref q5, .ref q6, .ref q7, .ref q8, .int (nI n), .ref q9, .ref q10, .ref q11, .ref q12, .ref q13, .ref q14, .ref q15, .ref q16, .ref q17, .ref q18, .ref q19, .ref q20]))] sz) := by
  refine Met.ofW (cc := mb_M_salt) (maxL := 2) (ret := (some .long)) (by decide) rfl ?_
  intro p e s m args below meth c s₁ B hml hv
  obtain ⟨rfl, hsz, hP, hK, hD0⟩ := hv
  have hx := B.exec
  have hb := B.bytes
  have hr := B.returns
  have hts := atoms_spec (ws := tb_w my_M_salt mb_M_salt 2 (some .long)) B.pre
  have hw : ∀ w ∈ gt_tbl, w.before [.ref hm, .int ua].toArray s = true := fun w h => hts w (List.mem_cons_of_mem _ h)
  have hown : s.vm.findClass cr_M = some m.cls := findClass_of_methodNamed B.named
  have hlocks := B.notSynchronized
  subst hsz
  have hD := hD0.self (sz := s.heap.size)
  generalize hAe : va_A [(hm, .inr (4, [.int th, .long sd, .int nw, .long hh, .ref q1, .ref q2, .ref q3, .ref q4, .ref q5, .ref q6, .ref q7, .ref q8, .int (nI n), .ref q9, .ref q10, .ref q11, .ref q12, .ref q13, .ref q14, .ref q15, .ref q16, .ref q17, .ref q18, .ref q19, .ref q20]))] s.heap.size = A at hD ⊢
  have hA : ∀ q : Nat, s.heap.size ≤ q → A q := fun q h => by rw [← hAe]; exact Or.inr h
  have hS : va_S A s.heap s.heap [] := va_S.rf
  have hP : va_P G classes [(hm, .inr (4, [.int th, .long sd, .int nw, .long hh, .ref q1, .ref q2, .ref q3, .ref q4, .ref q5, .ref q6, .ref q7, .ref q8, .int (nI n), .ref q9, .ref q10, .ref q11, .ref q12, .ref q13, .ref q14, .ref q15, .ref q16, .ref q17, .ref q18, .ref q19, .ref q20]))] s.heap := hP
  have hl := lv_entry ([.ref hm, .int ua]) (n := 2) (Nat.le_of_ble_eq_true rfl)
  rw [lg_entry_eq]
  generalize (lg_sl ([.ref hm, .int ua]) ++ List.replicate (2 - (lg_sl ([.ref hm, .int ua])).length) Slot.unset).toArray = ls at hl ⊢
  have hl : lv_has ls 2 [(0, .ref hm), (1, .int ua)] := hl
  refine lv_aload_n hx hb d_M_salt_0 rfl (lv_at hl 0 rfl) ?_
  refine lv_iconst (v := 0) hx hb d_M_salt_1 (by decide) ?_
  refine va_put (D := G) (ci := 4) (v := .int 0) (ty := .int) (C := cr_M) (T := cf_M) (N := 25) hx hb hw uw_M ct_M ct_M_ok ct_M_nm hown hK.1 hP hD hS 0 rfl rfl 0 (by decide) (hw _ ww_640) (fun _ h9 => h9) rfl (by decide +kernel) rfl rfl (Nat.le_of_ble_eq_true rfl) d_M_salt_2 (fun H locs hP hD hS => ?_)
  have hP : va_P G classes [(hm, .inr (4, [.int 0, .long sd, .int nw, .long hh, .ref q1, .ref q2, .ref q3, .ref q4, .ref q5, .ref q6, .ref q7, .ref q8, .int (nI n), .ref q9, .ref q10, .ref q11, .ref q12, .ref q13, .ref q14, .ref q15, .ref q16, .ref q17, .ref q18, .ref q19, .ref q20]))] H := hP
  have hD : va_D A [(hm, .inr (4, [.int 0, .long sd, .int nw, .long hh, .ref q1, .ref q2, .ref q3, .ref q4, .ref q5, .ref q6, .ref q7, .ref q8, .int (nI n), .ref q9, .ref q10, .ref q11, .ref q12, .ref q13, .ref q14, .ref q15, .ref q16, .ref q17, .ref q18, .ref q19, .ref q20]))] := hD
  refine lv_iload_n hx hb d_M_salt_5 rfl (lv_at hl 1 rfl) ?_
  refine vp_callSi (W.runS (As := [.int ua]) (rest := []) ⟨hx, hb, hml, hown, hts⟩ (c_M_isUser l ua) (tb_S hw cy_M_isUser ww_727 ww_728 rfl rfl ⟨Nat.le_of_ble_eq_true rfl, Nat.le_of_ble_eq_true rfl⟩) preEq rfl rfl hl.1 rfl (lv_room (Nat.le_of_ble_eq_true rfl)) d_M_salt_6 ⟨Nat.le_of_ble_eq_true rfl, Nat.le_of_ble_eq_true rfl⟩) (fun r566 er566 => ?_)
  subst er566
  refine tp_i (if_neg hno) ?_
  refine lv_if_eq (tgt := 20) hx hb d_M_salt_9 (by decide) (fun h567 => ?_) (fun h567 => ?_)
  · refine lv_lconst (v := 0) hx hb d_M_salt_20 (by decide) ?_
    exact W.lret (v := 0) hx hb hr (fun t ht hW => ⟨⟨(), ⟨rfl, trivial⟩, by rw [ht]; exact hP, hD⟩, hS.F ht⟩) hS.2.2 d_M_salt_21
  · exact absurd h567 (by decide)
set_option maxHeartbeats 4000000 in
set_option maxRecDepth 100000 in
theorem c_M_client1W (l : Launch) (G : va_G) (ct : Nat → ClassId) (sz : Nat) (hm : Nat) (th : Int32) (sd : Int64) (nw : Int32) (hh : Int64) (q1 : Nat) (q2 : Nat) (q3 : Nat) (q4 : Nat) (q5 : Nat) (q6 : Nat) (q7 : Nat) (q8 : Nat) (q9 : Nat) (q10 : Nat) (q11 : Nat) (q12 : Nat) (q13 : Nat) (q14 : Nat) (q15 : Nat) (q16 : Nat) (q17 : Nat) (q18 : Nat) (q19 : Nat) (q20 : Nat) (n : Nat) (a9 : Nat → Int32) (b0 : Nat → Int32) (b1 : Nat → Int32) (b2 : Nat → Int32) (b3 : Nat → Int32) (b4 : Nat → Int64) (b5 : Nat → Int64) (b6 : Nat → Int64) (b7 : Nat → Int64) (b10 : Nat → Int64) (k : Nat) (wy : Int32) (pw : Int64) (se : Int64) (hk : k < 8) (hn : n < 40) (hwy : wy = 0) : Met l my_M_client (tb_w my_M_client mb_M_client 10 (some .int)) ({ frames := 3, cells := 0, slots := 0, locals := 70 }) (wk_P [.ref hm, .int (nI k), .int wy, .long pw, .long se] G ct [(hm, .inr (4, [.int th, .long sd, .int nw, .long hh, .ref q1, .ref q2, .ref q3, .ref q4, .ref q5, .ref q6, .ref q7, .ref q8, .int (nI n), .ref q9, .ref q10, .ref q11, .ref q12, .ref q13, .ref q14, .ref q15, .ref q16, .ref q17, .ref q18, .ref q19, .ref q20])), (q9, .inl ((ct 2), 40, .inl a9)), (q10, .inl ((ct 0), 40, .inl b0)), (q11, .inl ((ct 0), 40, .inl b1)), (q12, .inl ((ct 0), 40, .inl b2)), (q13, .inl ((ct 0), 40, .inl b3)), (q14, .inl ((ct 1), 40, .inr (.inl b4))), (q15, .inl ((ct 1), 40, .inr (.inl b5))), (q16, .inl ((ct 1), 40, .inr (.inl b6))), (q17, .inl ((ct 1), 40, .inr (.inl b7))), (q20, .inl ((ct 1), 40, .inr (.inl b10)))] sz) (wk_Q (wk_oi (S := Int64) (fun z2 => nI n) (fun _ => True)) (fun z2 : Int64 => [(hm, .inr (4, [.int 0, .long sd, .int nw, .long z2, .ref q1, .ref q2, .ref q3, .ref q4, .ref q5, .ref q6, .ref q7, .ref q8, .int (nI (n + 1)), .ref q9, .ref q10, .ref q11, .ref q12, .ref q13, .ref q14, .ref q15, .ref q16, .ref q17, .ref q18, .ref q19, .ref q20])), (q9, .inl ((ct 2), 40, .inl (upd a9 n 0))), (q10, .inl ((ct 0), 40, .inl (upd b0 n wy))), (q11, .inl ((ct 0), 40, .inl (upd b1 n (nI k)))), (q12, .inl ((ct 0), 40, .inl (upd b2 n 0))), (q13, .inl ((ct 0), 40, .inl (upd b3 n nw))), (q14, .inl ((ct 1), 40, .inr (.inl (vp_updL b4 n (lN (sc_n se)))))), (q15, .inl ((ct 1), 40, .inr (.inl (vp_updL b5 n pw)))), (q16, .inl ((ct 1), 40, .inr (.inl (vp_updL b6 n (lN (wd_n (nI k) pw)))))), (q17, .inl ((ct 1), 40, .inr (.inl (vp_updL b7 n (lN (pw_m 4 (sc_n se) * pw_m 9 (wd_n (nI k) pw) % pq_P)))))), (q20, .inl ((ct 1), 40, .inr (.inl (vp_updL (vp_updL b10 n 0) n (lN (pw_m 4 (sc_n se) * pw_m 9 (wd_n (nI k) pw) % pq_P))))))]) G (va_A [(hm, .inr (4, [.int th, .long sd, .int nw, .long hh, .ref q1, .ref q2, .ref q3, .ref q4, .ref q5, .ref q6, .ref q7, .ref q8, .int (nI n), .ref q9, .ref q10, .ref q11, .ref q12, .ref q13, .ref q14, .ref q15, .ref q16, .ref q17, .ref q18, .ref q19, .ref q20])), (q9, .inl ((ct 2), 40, .inl a9)), (q10, .inl ((ct 0), 40, .inl b0)), (q11, .inl ((ct 0), 40, .inl b1)), (q12, .inl ((ct 0), 40, .inl b2)), (q13, .inl ((ct 0), 40, .inl b3)), (q14, .inl ((ct 1), 40, .inr (.inl b4))), (q15, .inl ((ct 1), 40, .inr (.inl b5))), (q16, .inl ((ct 1), 40, .inr (.inl b6))), (q17, .inl ((ct 1), 40, .inr (.inl b7))), (q20, .inl ((ct 1), 40, .inr (.inl b10)))] sz)) 0 0 (va_A [(hm, .inr (4, [.int th, .long sd, .int nw, .long hh, .ref q1, .ref q2, .ref q3, .ref q4, .ref q5, .ref q6, .ref q7, .ref q8, .int (nI n), .ref q9, .ref q10, .ref q11, .ref q12, .ref q13, .ref q14, .ref q15, .ref q16, .ref q17, .ref q18, .ref q19, .ref q20])), (q9, .inl ((ct 2), 40, .inl a9)), (q10, .inl ((ct 0), 40, .inl b0)), (q11, .inl ((ct 0), 40, .inl b1)), (q12, .inl ((ct 0), 40, .inl b2)), (q13, .inl ((ct 0), 40, .inl b3)), (q14, .inl ((ct 1), 40, .inr (.inl b4))), (q15, .inl ((ct 1), 40, .inr (.inl b5))), (q16, .inl ((ct 1), 40, .inr (.inl b6))), (q17, .inl ((ct 1), 40, .inr (.inl b7))), (q20, .inl ((ct 1), 40, .inr (.inl b10)))] sz) := by
  refine Met.ofW (cc := mb_M_client) (maxL := 10) (ret := (some .int)) (by decide) rfl ?_
  intro p e s m args below meth c s₁ B hml hv
  obtain ⟨rfl, hsz, hP, hK, hD0⟩ := hv
  have hx := B.exec
  have hb := B.bytes
  have hr := B.returns
  have hts := atoms_spec (ws := tb_w my_M_client mb_M_client 10 (some .int)) B.pre
  have hw : ∀ w ∈ gt_tbl, w.before [.ref hm, .int (nI k), .int wy, .long pw, .long se].toArray s = true := fun w h => hts w (List.mem_cons_of_mem _ h)
  have hown : s.vm.findClass cr_M = some m.cls := findClass_of_methodNamed B.named
  have hlocks := B.notSynchronized
  subst hsz
  have hD := hD0.self (sz := s.heap.size)
  generalize hAe : va_A [(hm, .inr (4, [.int th, .long sd, .int nw, .long hh, .ref q1, .ref q2, .ref q3, .ref q4, .ref q5, .ref q6, .ref q7, .ref q8, .int (nI n), .ref q9, .ref q10, .ref q11, .ref q12, .ref q13, .ref q14, .ref q15, .ref q16, .ref q17, .ref q18, .ref q19, .ref q20])), (q9, .inl ((ct 2), 40, .inl a9)), (q10, .inl ((ct 0), 40, .inl b0)), (q11, .inl ((ct 0), 40, .inl b1)), (q12, .inl ((ct 0), 40, .inl b2)), (q13, .inl ((ct 0), 40, .inl b3)), (q14, .inl ((ct 1), 40, .inr (.inl b4))), (q15, .inl ((ct 1), 40, .inr (.inl b5))), (q16, .inl ((ct 1), 40, .inr (.inl b6))), (q17, .inl ((ct 1), 40, .inr (.inl b7))), (q20, .inl ((ct 1), 40, .inr (.inl b10)))] s.heap.size = A at hD ⊢
  have hA : ∀ q : Nat, s.heap.size ≤ q → A q := fun q h => by rw [← hAe]; exact Or.inr h
  have hS : va_S A s.heap s.heap [] := va_S.rf
  have hP : va_P G classes [(hm, .inr (4, [.int th, .long sd, .int nw, .long hh, .ref q1, .ref q2, .ref q3, .ref q4, .ref q5, .ref q6, .ref q7, .ref q8, .int (nI n), .ref q9, .ref q10, .ref q11, .ref q12, .ref q13, .ref q14, .ref q15, .ref q16, .ref q17, .ref q18, .ref q19, .ref q20])), (q9, .inl ((ct 2), 40, .inl a9)), (q10, .inl ((ct 0), 40, .inl b0)), (q11, .inl ((ct 0), 40, .inl b1)), (q12, .inl ((ct 0), 40, .inl b2)), (q13, .inl ((ct 0), 40, .inl b3)), (q14, .inl ((ct 1), 40, .inr (.inl b4))), (q15, .inl ((ct 1), 40, .inr (.inl b5))), (q16, .inl ((ct 1), 40, .inr (.inl b6))), (q17, .inl ((ct 1), 40, .inr (.inl b7))), (q20, .inl ((ct 1), 40, .inr (.inl b10)))] s.heap := hP
  have hl := lv_entry ([.ref hm, .int (nI k), .int wy, .long pw, .long se]) (n := 10) (Nat.le_of_ble_eq_true rfl)
  rw [lg_entry_eq]
  generalize (lg_sl ([.ref hm, .int (nI k), .int wy, .long pw, .long se]) ++ List.replicate (10 - (lg_sl ([.ref hm, .int (nI k), .int wy, .long pw, .long se])).length) Slot.unset).toArray = ls at hl ⊢
  have hl : lv_has ls 10 [(0, .ref hm), (1, .int (nI k)), (2, .int wy), (3, .long pw), (5, .long se)] := hl
  have hwi : wy_in wy := Or.inl hwy
  refine lv_aload_n hx hb d_M_client_0 rfl (lv_at hl 0 rfl) ?_
  refine lv_iload_n hx hb d_M_client_1 rfl (lv_at hl 1 rfl) ?_
  refine vp_callSi (W.runS (As := [.int (nI k)]) (rest := [.ref hm]) ⟨hx, hb, hml, hown, hts⟩ (c_M_isUser l (nI k)) (tb_S hw cy_M_isUser ww_727 ww_728 rfl rfl ⟨Nat.le_of_ble_eq_true rfl, Nat.le_of_ble_eq_true rfl⟩) preEq rfl rfl hl.1 rfl (lv_room (Nat.le_of_ble_eq_true rfl)) d_M_client_2 ⟨Nat.le_of_ble_eq_true rfl, Nat.le_of_ble_eq_true rfl⟩) (fun r568 er568 => ?_)
  subst er568
  refine tp_i (if_pos (us_k hk)) ?_
  refine lv_if_eq (tgt := 15) hx hb d_M_client_5 (by decide) (fun h569 => ?_) (fun h569 => ?_)
  · exact absurd h569 (by decide)
  · refine lv_iload_n hx hb d_M_client_8 rfl (lv_at hl 2 rfl) ?_
    refine vp_callSi (W.runS (As := [.int wy]) (rest := [.ref hm]) ⟨hx, hb, hml, hown, hts⟩ (c_M_isWay l wy) (tb_S hw cy_M_isWay ww_730 ww_731 rfl rfl ⟨Nat.le_of_ble_eq_true rfl, Nat.le_of_ble_eq_true rfl⟩) preEq rfl rfl hl.1 rfl (lv_room (Nat.le_of_ble_eq_true rfl)) d_M_client_9 ⟨Nat.le_of_ble_eq_true rfl, Nat.le_of_ble_eq_true rfl⟩) (fun r570 er570 => ?_)
    subst er570
    refine tp_i (if_pos hwi) ?_
    refine lv_if_ne (tgt := 19) hx hb d_M_client_12 (by decide) (fun h571 => ?_) (fun h571 => ?_)
    · refine lv_aload_n hx hb d_M_client_19 rfl (lv_at hl 0 rfl) ?_
      refine va_get (D := G) (ci := 4) (v := .int (nI n)) (C := cr_M) (T := cf_M) (N := 25) hx hb hw uw_M hown hK.1 hP 0 rfl rfl 12 (by decide) (hw _ ww_652) (fun _ h9 => h9) rfl d_M_client_20 ?_
      refine lv_bipush (v := 40) hx hb d_M_client_23 (by decide) ?_
      refine lv_icmp_ne (tgt := 32) hx hb d_M_client_25 (by decide) (fun h572 => ?_) (fun h572 => ?_)
      · refine lv_iconst (v := 0) hx hb d_M_client_32 (by decide) ?_
        refine va_put (D := G) (ci := 4) (v := .int 0) (ty := .int) (C := cr_M) (T := cf_M) (N := 25) hx hb hw uw_M ct_M ct_M_ok ct_M_nm hown hK.1 hP hD hS 0 rfl rfl 0 (by decide) (hw _ ww_640) (fun _ h9 => h9) rfl (by decide +kernel) rfl rfl (Nat.le_of_ble_eq_true rfl) d_M_client_33 (fun H locs hP hD hS => ?_)
        have hP : va_P G classes [(hm, .inr (4, [.int 0, .long sd, .int nw, .long hh, .ref q1, .ref q2, .ref q3, .ref q4, .ref q5, .ref q6, .ref q7, .ref q8, .int (nI n), .ref q9, .ref q10, .ref q11, .ref q12, .ref q13, .ref q14, .ref q15, .ref q16, .ref q17, .ref q18, .ref q19, .ref q20])), (q9, .inl ((ct 2), 40, .inl a9)), (q10, .inl ((ct 0), 40, .inl b0)), (q11, .inl ((ct 0), 40, .inl b1)), (q12, .inl ((ct 0), 40, .inl b2)), (q13, .inl ((ct 0), 40, .inl b3)), (q14, .inl ((ct 1), 40, .inr (.inl b4))), (q15, .inl ((ct 1), 40, .inr (.inl b5))), (q16, .inl ((ct 1), 40, .inr (.inl b6))), (q17, .inl ((ct 1), 40, .inr (.inl b7))), (q20, .inl ((ct 1), 40, .inr (.inl b10)))] H := hP
        have hD : va_D A [(hm, .inr (4, [.int 0, .long sd, .int nw, .long hh, .ref q1, .ref q2, .ref q3, .ref q4, .ref q5, .ref q6, .ref q7, .ref q8, .int (nI n), .ref q9, .ref q10, .ref q11, .ref q12, .ref q13, .ref q14, .ref q15, .ref q16, .ref q17, .ref q18, .ref q19, .ref q20])), (q9, .inl ((ct 2), 40, .inl a9)), (q10, .inl ((ct 0), 40, .inl b0)), (q11, .inl ((ct 0), 40, .inl b1)), (q12, .inl ((ct 0), 40, .inl b2)), (q13, .inl ((ct 0), 40, .inl b3)), (q14, .inl ((ct 1), 40, .inr (.inl b4))), (q15, .inl ((ct 1), 40, .inr (.inl b5))), (q16, .inl ((ct 1), 40, .inr (.inl b6))), (q17, .inl ((ct 1), 40, .inr (.inl b7))), (q20, .inl ((ct 1), 40, .inr (.inl b10)))] := hD
        refine lv_aload_n hx hb d_M_client_36 rfl (lv_at hl 0 rfl) ?_
        refine va_get (D := G) (ci := 4) (v := .int 0) (C := cr_M) (T := cf_M) (N := 25) hx hb hw uw_M hown hK.1 hP 0 rfl rfl 0 (by decide) (hw _ ww_640) (fun _ h9 => h9) rfl d_M_client_37 ?_
        refine lv_if_le (tgt := 45) hx hb d_M_client_40 (by decide) (fun h573 => ?_) (fun h573 => ?_)
        · refine lv_aload_n hx hb d_M_client_45 rfl (lv_at hl 0 rfl) ?_
          refine lv_iload_n hx hb d_M_client_46 rfl (lv_at hl 1 rfl) ?_
          refine lv_iload_n hx hb d_M_client_47 rfl (lv_at hl 2 rfl) ?_
          refine lv_lload hx hb d_M_client_48 (lv_at hl 4 rfl) ?_
          have hPc : va_P G classes [(hm, .inr (4, [.int 0, .long sd, .int nw, .long hh, .ref q1, .ref q2, .ref q3, .ref q4, .ref q5, .ref q6, .ref q7, .ref q8, .int (nI n), .ref q9, .ref q10, .ref q11, .ref q12, .ref q13, .ref q14, .ref q15, .ref q16, .ref q17, .ref q18, .ref q19, .ref q20])), (q10, .inl ((ct 0), 40, .inl b0)), (q11, .inl ((ct 0), 40, .inl b1)), (q12, .inl ((ct 0), 40, .inl b2)), (q13, .inl ((ct 0), 40, .inl b3)), (q14, .inl ((ct 1), 40, .inr (.inl b4))), (q20, .inl ((ct 1), 40, .inr (.inl b10)))] H := hP.sub [0, 2, 3, 4, 5, 6, 10] rfl
          have hDc := hD.sub (ws' := [(hm, .inr (4, [.int 0, .long sd, .int nw, .long hh, .ref q1, .ref q2, .ref q3, .ref q4, .ref q5, .ref q6, .ref q7, .ref q8, .int (nI n), .ref q9, .ref q10, .ref q11, .ref q12, .ref q13, .ref q14, .ref q15, .ref q16, .ref q17, .ref q18, .ref q19, .ref q20])), (q10, .inl ((ct 0), 40, .inl b0)), (q11, .inl ((ct 0), 40, .inl b1)), (q12, .inl ((ct 0), 40, .inl b2)), (q13, .inl ((ct 0), 40, .inl b3)), (q14, .inl ((ct 1), 40, .inr (.inl b4))), (q20, .inl ((ct 1), 40, .inr (.inl b10)))]) [0, 2, 3, 4, 5, 6, 10] (by decide) rfl
          refine wk_i (va_runV (As := [.int (nI k), .int wy, .long se]) (rest := []) ⟨hx, hb, hml, hown, hts⟩ (c_M_open l G ct H.size hm 0 sd nw hh q1 q2 q3 q4 q5 q6 q7 q8 q9 q10 q11 q12 q13 q14 q15 q16 q17 q18 q19 q20 n b0 b1 b2 b3 b4 b10 (nI k) wy se (by first | assumption | exact m63 (by first | assumption | exact qs_P (by assumption)) | decide | exact pw_lt _ _ | exact Nat.mod_lt _ pq_pos | exact sc_lt _ | exact sc_pos _ | exact m63 (by first | assumption | exact pw_lt _ _ | exact Nat.mod_lt _ pq_pos | exact qs_P (by first | assumption | exact sc_lt _ | exact qz_Q _)) | exact up_se _ _ _ | exact ul_se _ _ _ | omega)) (tb_V hw cy_M_open ww_791 ww_793 wp_M_open rfl rfl ⟨Nat.le_of_ble_eq_true rfl, Nat.le_of_ble_eq_true rfl⟩) (wk_preV (ci := 4) (q0 := 0) hPc hK hDc rfl rfl) rfl rfl hl.1 rfl (lv_room (Nat.le_of_ble_eq_true rfl)) d_M_client_50 ⟨Nat.le_of_ble_eq_true rfl, Nat.le_of_ble_eq_true rfl⟩) hP hD hS hA [0, 2, 3, 4, 5, 6, 10] (by decide) rfl (fun _ => by simp only [List.map_cons, List.map_nil]) (fun _ H locs ok574 hP hD hS => ?_)
          have hP : va_P G classes [(hm, .inr (4, [.int 0, .long sd, .int nw, .long hh, .ref q1, .ref q2, .ref q3, .ref q4, .ref q5, .ref q6, .ref q7, .ref q8, .int (nI (n + 1)), .ref q9, .ref q10, .ref q11, .ref q12, .ref q13, .ref q14, .ref q15, .ref q16, .ref q17, .ref q18, .ref q19, .ref q20])), (q9, .inl ((ct 2), 40, .inl a9)), (q10, .inl ((ct 0), 40, .inl (upd b0 n wy))), (q11, .inl ((ct 0), 40, .inl (upd b1 n (nI k)))), (q12, .inl ((ct 0), 40, .inl (upd b2 n 0))), (q13, .inl ((ct 0), 40, .inl (upd b3 n nw))), (q14, .inl ((ct 1), 40, .inr (.inl (vp_updL b4 n (lN (sc_n se)))))), (q15, .inl ((ct 1), 40, .inr (.inl b5))), (q16, .inl ((ct 1), 40, .inr (.inl b6))), (q17, .inl ((ct 1), 40, .inr (.inl b7))), (q20, .inl ((ct 1), 40, .inr (.inl (vp_updL b10 n 0))))] H := hP
          have hD : va_D A [(hm, .inr (4, [.int 0, .long sd, .int nw, .long hh, .ref q1, .ref q2, .ref q3, .ref q4, .ref q5, .ref q6, .ref q7, .ref q8, .int (nI (n + 1)), .ref q9, .ref q10, .ref q11, .ref q12, .ref q13, .ref q14, .ref q15, .ref q16, .ref q17, .ref q18, .ref q19, .ref q20])), (q9, .inl ((ct 2), 40, .inl a9)), (q10, .inl ((ct 0), 40, .inl (upd b0 n wy))), (q11, .inl ((ct 0), 40, .inl (upd b1 n (nI k)))), (q12, .inl ((ct 0), 40, .inl (upd b2 n 0))), (q13, .inl ((ct 0), 40, .inl (upd b3 n nw))), (q14, .inl ((ct 1), 40, .inr (.inl (vp_updL b4 n (lN (sc_n se)))))), (q15, .inl ((ct 1), 40, .inr (.inl b5))), (q16, .inl ((ct 1), 40, .inr (.inl b6))), (q17, .inl ((ct 1), 40, .inr (.inl b7))), (q20, .inl ((ct 1), 40, .inr (.inl (vp_updL b10 n 0))))] := hD
          refine lv_istore (lv' := [(7, .int (nI n)), (0, .ref hm), (1, .int (nI k)), (2, .int wy), (3, .long pw), (5, .long se)]) hx hb d_M_client_53 hl (Nat.le_of_ble_eq_true rfl) rfl (fun ls hl => ?_)
          refine lv_aload_n hx hb d_M_client_55 rfl (lv_at hl 1 rfl) ?_
          refine va_get (D := G) (ci := 4) (v := .ref q9) (C := cr_M) (T := cf_M) (N := 25) hx hb hw uw_M hown hK.1 hP 0 rfl rfl 13 (by decide) (hw _ ww_653) (fun _ h9 => h9) rfl d_M_client_56 ?_
          refine lv_iload hx hb d_M_client_59 (lv_at hl 0 rfl) ?_
          refine lv_iconst (v := 0) hx hb d_M_client_61 (by decide) ?_
          refine ra_zs hx hb hK.1 hP hD hS 1 2 rfl rfl (k := n) (by omega) (by decide) rfl d_M_client_62 (fun H locs hP hD hS => ?_)
          have hP : va_P G classes [(hm, .inr (4, [.int 0, .long sd, .int nw, .long hh, .ref q1, .ref q2, .ref q3, .ref q4, .ref q5, .ref q6, .ref q7, .ref q8, .int (nI (n + 1)), .ref q9, .ref q10, .ref q11, .ref q12, .ref q13, .ref q14, .ref q15, .ref q16, .ref q17, .ref q18, .ref q19, .ref q20])), (q9, .inl ((ct 2), 40, .inl (upd a9 n 0))), (q10, .inl ((ct 0), 40, .inl (upd b0 n wy))), (q11, .inl ((ct 0), 40, .inl (upd b1 n (nI k)))), (q12, .inl ((ct 0), 40, .inl (upd b2 n 0))), (q13, .inl ((ct 0), 40, .inl (upd b3 n nw))), (q14, .inl ((ct 1), 40, .inr (.inl (vp_updL b4 n (lN (sc_n se)))))), (q15, .inl ((ct 1), 40, .inr (.inl b5))), (q16, .inl ((ct 1), 40, .inr (.inl b6))), (q17, .inl ((ct 1), 40, .inr (.inl b7))), (q20, .inl ((ct 1), 40, .inr (.inl (vp_updL b10 n 0))))] H := hP
          have hD : va_D A [(hm, .inr (4, [.int 0, .long sd, .int nw, .long hh, .ref q1, .ref q2, .ref q3, .ref q4, .ref q5, .ref q6, .ref q7, .ref q8, .int (nI (n + 1)), .ref q9, .ref q10, .ref q11, .ref q12, .ref q13, .ref q14, .ref q15, .ref q16, .ref q17, .ref q18, .ref q19, .ref q20])), (q9, .inl ((ct 2), 40, .inl (upd a9 n 0))), (q10, .inl ((ct 0), 40, .inl (upd b0 n wy))), (q11, .inl ((ct 0), 40, .inl (upd b1 n (nI k)))), (q12, .inl ((ct 0), 40, .inl (upd b2 n 0))), (q13, .inl ((ct 0), 40, .inl (upd b3 n nw))), (q14, .inl ((ct 1), 40, .inr (.inl (vp_updL b4 n (lN (sc_n se)))))), (q15, .inl ((ct 1), 40, .inr (.inl b5))), (q16, .inl ((ct 1), 40, .inr (.inl b6))), (q17, .inl ((ct 1), 40, .inr (.inl b7))), (q20, .inl ((ct 1), 40, .inr (.inl (vp_updL b10 n 0))))] := hD
          refine lv_aload_n hx hb d_M_client_63 rfl (lv_at hl 1 rfl) ?_
          refine va_get (D := G) (ci := 4) (v := .ref q15) (C := cr_M) (T := cf_M) (N := 25) hx hb hw uw_M hown hK.1 hP 0 rfl rfl 19 (by decide) (hw _ ww_659) (fun _ h9 => h9) rfl d_M_client_64 ?_
          refine lv_iload hx hb d_M_client_67 (lv_at hl 0 rfl) ?_
          refine lv_lload_n hx hb d_M_client_69 rfl (lv_at hl 4 rfl) ?_
          refine ra_ls hx hb hK.1 hP hD hS 7 1 rfl rfl (k := n) (by omega) (by decide) d_M_client_70 (fun H locs hP hD hS => ?_)
          have hP : va_P G classes [(hm, .inr (4, [.int 0, .long sd, .int nw, .long hh, .ref q1, .ref q2, .ref q3, .ref q4, .ref q5, .ref q6, .ref q7, .ref q8, .int (nI (n + 1)), .ref q9, .ref q10, .ref q11, .ref q12, .ref q13, .ref q14, .ref q15, .ref q16, .ref q17, .ref q18, .ref q19, .ref q20])), (q9, .inl ((ct 2), 40, .inl (upd a9 n 0))), (q10, .inl ((ct 0), 40, .inl (upd b0 n wy))), (q11, .inl ((ct 0), 40, .inl (upd b1 n (nI k)))), (q12, .inl ((ct 0), 40, .inl (upd b2 n 0))), (q13, .inl ((ct 0), 40, .inl (upd b3 n nw))), (q14, .inl ((ct 1), 40, .inr (.inl (vp_updL b4 n (lN (sc_n se)))))), (q15, .inl ((ct 1), 40, .inr (.inl (vp_updL b5 n pw)))), (q16, .inl ((ct 1), 40, .inr (.inl b6))), (q17, .inl ((ct 1), 40, .inr (.inl b7))), (q20, .inl ((ct 1), 40, .inr (.inl (vp_updL b10 n 0))))] H := hP
          have hD : va_D A [(hm, .inr (4, [.int 0, .long sd, .int nw, .long hh, .ref q1, .ref q2, .ref q3, .ref q4, .ref q5, .ref q6, .ref q7, .ref q8, .int (nI (n + 1)), .ref q9, .ref q10, .ref q11, .ref q12, .ref q13, .ref q14, .ref q15, .ref q16, .ref q17, .ref q18, .ref q19, .ref q20])), (q9, .inl ((ct 2), 40, .inl (upd a9 n 0))), (q10, .inl ((ct 0), 40, .inl (upd b0 n wy))), (q11, .inl ((ct 0), 40, .inl (upd b1 n (nI k)))), (q12, .inl ((ct 0), 40, .inl (upd b2 n 0))), (q13, .inl ((ct 0), 40, .inl (upd b3 n nw))), (q14, .inl ((ct 1), 40, .inr (.inl (vp_updL b4 n (lN (sc_n se)))))), (q15, .inl ((ct 1), 40, .inr (.inl (vp_updL b5 n pw)))), (q16, .inl ((ct 1), 40, .inr (.inl b6))), (q17, .inl ((ct 1), 40, .inr (.inl b7))), (q20, .inl ((ct 1), 40, .inr (.inl (vp_updL b10 n 0))))] := hD
          refine lv_aload_n hx hb d_M_client_71 rfl (lv_at hl 1 rfl) ?_
          refine va_get (D := G) (ci := 4) (v := .ref q16) (C := cr_M) (T := cf_M) (N := 25) hx hb hw uw_M hown hK.1 hP 0 rfl rfl 20 (by decide) (hw _ ww_660) (fun _ h9 => h9) rfl d_M_client_72 ?_
          refine lv_iload hx hb d_M_client_75 (lv_at hl 0 rfl) ?_
          refine lv_aload_n hx hb d_M_client_77 rfl (lv_at hl 1 rfl) ?_
          refine lv_iload_n hx hb d_M_client_78 rfl (lv_at hl 2 rfl) ?_
          refine lv_lload_n hx hb d_M_client_79 rfl (lv_at hl 4 rfl) ?_
          have hPc : va_P G classes [(hm, .inr (4, [.int 0, .long sd, .int nw, .long hh, .ref q1, .ref q2, .ref q3, .ref q4, .ref q5, .ref q6, .ref q7, .ref q8, .int (nI (n + 1)), .ref q9, .ref q10, .ref q11, .ref q12, .ref q13, .ref q14, .ref q15, .ref q16, .ref q17, .ref q18, .ref q19, .ref q20]))] H := hP.sub [0] rfl
          have hDc := hD.sub (ws' := [(hm, .inr (4, [.int 0, .long sd, .int nw, .long hh, .ref q1, .ref q2, .ref q3, .ref q4, .ref q5, .ref q6, .ref q7, .ref q8, .int (nI (n + 1)), .ref q9, .ref q10, .ref q11, .ref q12, .ref q13, .ref q14, .ref q15, .ref q16, .ref q17, .ref q18, .ref q19, .ref q20]))]) [0] (by decide) rfl
          refine wk_l (va_runV (As := [.int (nI k), .long pw]) (rest := [.int (nI n), .ref q16]) ⟨hx, hb, hml, hown, hts⟩ (c_M_word l G ct H.size hm 0 sd nw hh q1 q2 q3 q4 q5 q6 q7 q8 q9 q10 q11 q12 q13 q14 q15 q16 q17 q18 q19 q20 (n + 1) (nI k) pw) (tb_V hw cy_M_word ww_733 ww_735 wp_M_word rfl rfl ⟨Nat.le_of_ble_eq_true rfl, Nat.le_of_ble_eq_true rfl⟩) (wk_preV (ci := 4) (q0 := 0) hPc hK hDc rfl rfl) rfl rfl hl.1 rfl (lv_room (Nat.le_of_ble_eq_true rfl)) d_M_client_80 ⟨Nat.le_of_ble_eq_true rfl, Nat.le_of_ble_eq_true rfl⟩) hP hD hS hA [0] (by decide) rfl (fun _ => by simp only [List.map_cons, List.map_nil]) (fun z2575 H locs ok576 hP hD hS => ?_)
          have hP : va_P G classes [(hm, .inr (4, [.int 0, .long sd, .int nw, .long z2575, .ref q1, .ref q2, .ref q3, .ref q4, .ref q5, .ref q6, .ref q7, .ref q8, .int (nI (n + 1)), .ref q9, .ref q10, .ref q11, .ref q12, .ref q13, .ref q14, .ref q15, .ref q16, .ref q17, .ref q18, .ref q19, .ref q20])), (q9, .inl ((ct 2), 40, .inl (upd a9 n 0))), (q10, .inl ((ct 0), 40, .inl (upd b0 n wy))), (q11, .inl ((ct 0), 40, .inl (upd b1 n (nI k)))), (q12, .inl ((ct 0), 40, .inl (upd b2 n 0))), (q13, .inl ((ct 0), 40, .inl (upd b3 n nw))), (q14, .inl ((ct 1), 40, .inr (.inl (vp_updL b4 n (lN (sc_n se)))))), (q15, .inl ((ct 1), 40, .inr (.inl (vp_updL b5 n pw)))), (q16, .inl ((ct 1), 40, .inr (.inl b6))), (q17, .inl ((ct 1), 40, .inr (.inl b7))), (q20, .inl ((ct 1), 40, .inr (.inl (vp_updL b10 n 0))))] H := hP
          have hD : va_D A [(hm, .inr (4, [.int 0, .long sd, .int nw, .long z2575, .ref q1, .ref q2, .ref q3, .ref q4, .ref q5, .ref q6, .ref q7, .ref q8, .int (nI (n + 1)), .ref q9, .ref q10, .ref q11, .ref q12, .ref q13, .ref q14, .ref q15, .ref q16, .ref q17, .ref q18, .ref q19, .ref q20])), (q9, .inl ((ct 2), 40, .inl (upd a9 n 0))), (q10, .inl ((ct 0), 40, .inl (upd b0 n wy))), (q11, .inl ((ct 0), 40, .inl (upd b1 n (nI k)))), (q12, .inl ((ct 0), 40, .inl (upd b2 n 0))), (q13, .inl ((ct 0), 40, .inl (upd b3 n nw))), (q14, .inl ((ct 1), 40, .inr (.inl (vp_updL b4 n (lN (sc_n se)))))), (q15, .inl ((ct 1), 40, .inr (.inl (vp_updL b5 n pw)))), (q16, .inl ((ct 1), 40, .inr (.inl b6))), (q17, .inl ((ct 1), 40, .inr (.inl b7))), (q20, .inl ((ct 1), 40, .inr (.inl (vp_updL b10 n 0))))] := hD
          refine ra_ls hx hb hK.1 hP hD hS 8 1 rfl rfl (k := n) (by omega) (by decide) d_M_client_83 (fun H locs hP hD hS => ?_)
          have hP : va_P G classes [(hm, .inr (4, [.int 0, .long sd, .int nw, .long z2575, .ref q1, .ref q2, .ref q3, .ref q4, .ref q5, .ref q6, .ref q7, .ref q8, .int (nI (n + 1)), .ref q9, .ref q10, .ref q11, .ref q12, .ref q13, .ref q14, .ref q15, .ref q16, .ref q17, .ref q18, .ref q19, .ref q20])), (q9, .inl ((ct 2), 40, .inl (upd a9 n 0))), (q10, .inl ((ct 0), 40, .inl (upd b0 n wy))), (q11, .inl ((ct 0), 40, .inl (upd b1 n (nI k)))), (q12, .inl ((ct 0), 40, .inl (upd b2 n 0))), (q13, .inl ((ct 0), 40, .inl (upd b3 n nw))), (q14, .inl ((ct 1), 40, .inr (.inl (vp_updL b4 n (lN (sc_n se)))))), (q15, .inl ((ct 1), 40, .inr (.inl (vp_updL b5 n pw)))), (q16, .inl ((ct 1), 40, .inr (.inl (vp_updL b6 n (lN (wd_n (nI k) pw)))))), (q17, .inl ((ct 1), 40, .inr (.inl b7))), (q20, .inl ((ct 1), 40, .inr (.inl (vp_updL b10 n 0))))] H := hP
          have hD : va_D A [(hm, .inr (4, [.int 0, .long sd, .int nw, .long z2575, .ref q1, .ref q2, .ref q3, .ref q4, .ref q5, .ref q6, .ref q7, .ref q8, .int (nI (n + 1)), .ref q9, .ref q10, .ref q11, .ref q12, .ref q13, .ref q14, .ref q15, .ref q16, .ref q17, .ref q18, .ref q19, .ref q20])), (q9, .inl ((ct 2), 40, .inl (upd a9 n 0))), (q10, .inl ((ct 0), 40, .inl (upd b0 n wy))), (q11, .inl ((ct 0), 40, .inl (upd b1 n (nI k)))), (q12, .inl ((ct 0), 40, .inl (upd b2 n 0))), (q13, .inl ((ct 0), 40, .inl (upd b3 n nw))), (q14, .inl ((ct 1), 40, .inr (.inl (vp_updL b4 n (lN (sc_n se)))))), (q15, .inl ((ct 1), 40, .inr (.inl (vp_updL b5 n pw)))), (q16, .inl ((ct 1), 40, .inr (.inl (vp_updL b6 n (lN (wd_n (nI k) pw)))))), (q17, .inl ((ct 1), 40, .inr (.inl b7))), (q20, .inl ((ct 1), 40, .inr (.inl (vp_updL b10 n 0))))] := hD
          refine lv_ldc2 (v := 4) hx hb hown (hw _ ww_757) d_M_client_84 ?_
          refine lv_aload_n hx hb d_M_client_87 rfl (lv_at hl 1 rfl) ?_
          refine va_get (D := G) (ci := 4) (v := .ref q14) (C := cr_M) (T := cf_M) (N := 25) hx hb hw uw_M hown hK.1 hP 0 rfl rfl 18 (by decide) (hw _ ww_658) (fun _ h9 => h9) rfl d_M_client_88 ?_
          refine lv_iload hx hb d_M_client_91 (lv_at hl 0 rfl) ?_
          refine ra_ll hx hb hK.1 hP 6 1 rfl rfl (k := n) (by omega) (by decide) d_M_client_93 ?_
          refine tp_l (ul_se _ _ _) ?_
          refine vp_callSl (W.runS (As := [.long (lN 4), .long (lN (sc_n se))]) (rest := []) ⟨hx, hb, hml, hown, hts⟩ (c_M_power l 4 (sc_n se) (by decide) (m63 (qs_P (sc_lt _)))) (tb_S hw cy_M_power ww_763 ww_764 rfl rfl ⟨Nat.le_of_ble_eq_true rfl, Nat.le_of_ble_eq_true rfl⟩) preEq rfl rfl hl.1 rfl (lv_room (Nat.le_of_ble_eq_true rfl)) d_M_client_94 ⟨Nat.le_of_ble_eq_true rfl, Nat.le_of_ble_eq_true rfl⟩) (fun r577 er577 => ?_)
          subst er577
          refine lv_lstore (lv' := [(8, .long (lN (pw_m 4 (sc_n se)))), (7, .int (nI n)), (0, .ref hm), (1, .int (nI k)), (2, .int wy), (3, .long pw), (5, .long se)]) hx hb d_M_client_97 hl (Nat.le_of_ble_eq_true rfl) rfl (fun ls hl => ?_)
          refine lv_aload_n hx hb d_M_client_99 rfl (lv_at hl 2 rfl) ?_
          refine va_get (D := G) (ci := 4) (v := .ref q20) (C := cr_M) (T := cf_M) (N := 25) hx hb hw uw_M hown hK.1 hP 0 rfl rfl 24 (by decide) (hw _ ww_664) (fun _ h9 => h9) rfl d_M_client_100 ?_
          refine lv_iload hx hb d_M_client_103 (lv_at hl 1 rfl) ?_
          refine lv_iload_n hx hb d_M_client_105 rfl (lv_at hl 4 rfl) ?_
          refine lv_if_ne (tgt := 132) hx hb d_M_client_106 (by decide) (fun h578 => ?_) (fun h578 => ?_)
          · exact absurd hwy h578
          · refine lv_lload hx hb d_M_client_109 (lv_at hl 0 rfl) ?_
            refine lv_ldc2 (v := 9) hx hb hown (hw _ ww_795) d_M_client_111 ?_
            refine lv_aload_n hx hb d_M_client_114 rfl (lv_at hl 2 rfl) ?_
            refine va_get (D := G) (ci := 4) (v := .ref q16) (C := cr_M) (T := cf_M) (N := 25) hx hb hw uw_M hown hK.1 hP 0 rfl rfl 20 (by decide) (hw _ ww_660) (fun _ h9 => h9) rfl d_M_client_115 ?_
            refine lv_iload hx hb d_M_client_118 (lv_at hl 1 rfl) ?_
            refine ra_ll hx hb hK.1 hP 8 1 rfl rfl (k := n) (by omega) (by decide) d_M_client_120 ?_
            refine tp_l (ul_se _ _ _) ?_
            refine vp_callSl (W.runS (As := [.long (lN 9), .long (lN (wd_n (nI k) pw))]) (rest := [.long (lN (pw_m 4 (sc_n se))), .int (nI n), .ref q20]) ⟨hx, hb, hml, hown, hts⟩ (c_M_power l 9 (wd_n (nI k) pw) (by decide) (m63 (qs_P (sc_lt _)))) (tb_S hw cy_M_power ww_763 ww_764 rfl rfl ⟨Nat.le_of_ble_eq_true rfl, Nat.le_of_ble_eq_true rfl⟩) preEq rfl rfl hl.1 rfl (lv_room (Nat.le_of_ble_eq_true rfl)) d_M_client_121 ⟨Nat.le_of_ble_eq_true rfl, Nat.le_of_ble_eq_true rfl⟩) (fun r579 er579 => ?_)
            subst er579
            refine lv_lmul hx hb d_M_client_124 ?_
            refine lv_ldc2 (v := 2147483579) hx hb hown (hw _ ww_766) d_M_client_125 ?_
            refine lv_lrem hx hb d_M_client_128 (by decide) ?_
            refine tp_l (ln_mulP (pw_lt _ _) (pw_lt _ _)) ?_
            refine lv_goto (tgt := 134) hx hb d_M_client_129 (by decide) ?_
            refine ra_ls hx hb hK.1 hP hD hS 10 1 rfl rfl (k := n) (by omega) (by decide) d_M_client_134 (fun H locs hP hD hS => ?_)
            have hP : va_P G classes [(hm, .inr (4, [.int 0, .long sd, .int nw, .long z2575, .ref q1, .ref q2, .ref q3, .ref q4, .ref q5, .ref q6, .ref q7, .ref q8, .int (nI (n + 1)), .ref q9, .ref q10, .ref q11, .ref q12, .ref q13, .ref q14, .ref q15, .ref q16, .ref q17, .ref q18, .ref q19, .ref q20])), (q9, .inl ((ct 2), 40, .inl (upd a9 n 0))), (q10, .inl ((ct 0), 40, .inl (upd b0 n wy))), (q11, .inl ((ct 0), 40, .inl (upd b1 n (nI k)))), (q12, .inl ((ct 0), 40, .inl (upd b2 n 0))), (q13, .inl ((ct 0), 40, .inl (upd b3 n nw))), (q14, .inl ((ct 1), 40, .inr (.inl (vp_updL b4 n (lN (sc_n se)))))), (q15, .inl ((ct 1), 40, .inr (.inl (vp_updL b5 n pw)))), (q16, .inl ((ct 1), 40, .inr (.inl (vp_updL b6 n (lN (wd_n (nI k) pw)))))), (q17, .inl ((ct 1), 40, .inr (.inl b7))), (q20, .inl ((ct 1), 40, .inr (.inl (vp_updL (vp_updL b10 n 0) n (lN (pw_m 4 (sc_n se) * pw_m 9 (wd_n (nI k) pw) % pq_P))))))] H := hP
            have hD : va_D A [(hm, .inr (4, [.int 0, .long sd, .int nw, .long z2575, .ref q1, .ref q2, .ref q3, .ref q4, .ref q5, .ref q6, .ref q7, .ref q8, .int (nI (n + 1)), .ref q9, .ref q10, .ref q11, .ref q12, .ref q13, .ref q14, .ref q15, .ref q16, .ref q17, .ref q18, .ref q19, .ref q20])), (q9, .inl ((ct 2), 40, .inl (upd a9 n 0))), (q10, .inl ((ct 0), 40, .inl (upd b0 n wy))), (q11, .inl ((ct 0), 40, .inl (upd b1 n (nI k)))), (q12, .inl ((ct 0), 40, .inl (upd b2 n 0))), (q13, .inl ((ct 0), 40, .inl (upd b3 n nw))), (q14, .inl ((ct 1), 40, .inr (.inl (vp_updL b4 n (lN (sc_n se)))))), (q15, .inl ((ct 1), 40, .inr (.inl (vp_updL b5 n pw)))), (q16, .inl ((ct 1), 40, .inr (.inl (vp_updL b6 n (lN (wd_n (nI k) pw)))))), (q17, .inl ((ct 1), 40, .inr (.inl b7))), (q20, .inl ((ct 1), 40, .inr (.inl (vp_updL (vp_updL b10 n 0) n (lN (pw_m 4 (sc_n se) * pw_m 9 (wd_n (nI k) pw) % pq_P))))))] := hD
            refine lv_aload_n hx hb d_M_client_135 rfl (lv_at hl 2 rfl) ?_
            refine va_get (D := G) (ci := 4) (v := .ref q17) (C := cr_M) (T := cf_M) (N := 25) hx hb hw uw_M hown hK.1 hP 0 rfl rfl 21 (by decide) (hw _ ww_661) (fun _ h9 => h9) rfl d_M_client_136 ?_
            refine lv_iload hx hb d_M_client_139 (lv_at hl 1 rfl) ?_
            refine lv_aload_n hx hb d_M_client_141 rfl (lv_at hl 2 rfl) ?_
            refine va_get (D := G) (ci := 4) (v := .ref q20) (C := cr_M) (T := cf_M) (N := 25) hx hb hw uw_M hown hK.1 hP 0 rfl rfl 24 (by decide) (hw _ ww_664) (fun _ h9 => h9) rfl d_M_client_142 ?_
            refine lv_iload hx hb d_M_client_145 (lv_at hl 1 rfl) ?_
            refine ra_ll hx hb hK.1 hP 10 1 rfl rfl (k := n) (by omega) (by decide) d_M_client_147 ?_
            refine tp_l (ul_se _ _ _) ?_
            refine ra_ls hx hb hK.1 hP hD hS 9 1 rfl rfl (k := n) (by omega) (by decide) d_M_client_148 (fun H locs hP hD hS => ?_)
            have hP : va_P G classes [(hm, .inr (4, [.int 0, .long sd, .int nw, .long z2575, .ref q1, .ref q2, .ref q3, .ref q4, .ref q5, .ref q6, .ref q7, .ref q8, .int (nI (n + 1)), .ref q9, .ref q10, .ref q11, .ref q12, .ref q13, .ref q14, .ref q15, .ref q16, .ref q17, .ref q18, .ref q19, .ref q20])), (q9, .inl ((ct 2), 40, .inl (upd a9 n 0))), (q10, .inl ((ct 0), 40, .inl (upd b0 n wy))), (q11, .inl ((ct 0), 40, .inl (upd b1 n (nI k)))), (q12, .inl ((ct 0), 40, .inl (upd b2 n 0))), (q13, .inl ((ct 0), 40, .inl (upd b3 n nw))), (q14, .inl ((ct 1), 40, .inr (.inl (vp_updL b4 n (lN (sc_n se)))))), (q15, .inl ((ct 1), 40, .inr (.inl (vp_updL b5 n pw)))), (q16, .inl ((ct 1), 40, .inr (.inl (vp_updL b6 n (lN (wd_n (nI k) pw)))))), (q17, .inl ((ct 1), 40, .inr (.inl (vp_updL b7 n (lN (pw_m 4 (sc_n se) * pw_m 9 (wd_n (nI k) pw) % pq_P)))))), (q20, .inl ((ct 1), 40, .inr (.inl (vp_updL (vp_updL b10 n 0) n (lN (pw_m 4 (sc_n se) * pw_m 9 (wd_n (nI k) pw) % pq_P))))))] H := hP
            have hD : va_D A [(hm, .inr (4, [.int 0, .long sd, .int nw, .long z2575, .ref q1, .ref q2, .ref q3, .ref q4, .ref q5, .ref q6, .ref q7, .ref q8, .int (nI (n + 1)), .ref q9, .ref q10, .ref q11, .ref q12, .ref q13, .ref q14, .ref q15, .ref q16, .ref q17, .ref q18, .ref q19, .ref q20])), (q9, .inl ((ct 2), 40, .inl (upd a9 n 0))), (q10, .inl ((ct 0), 40, .inl (upd b0 n wy))), (q11, .inl ((ct 0), 40, .inl (upd b1 n (nI k)))), (q12, .inl ((ct 0), 40, .inl (upd b2 n 0))), (q13, .inl ((ct 0), 40, .inl (upd b3 n nw))), (q14, .inl ((ct 1), 40, .inr (.inl (vp_updL b4 n (lN (sc_n se)))))), (q15, .inl ((ct 1), 40, .inr (.inl (vp_updL b5 n pw)))), (q16, .inl ((ct 1), 40, .inr (.inl (vp_updL b6 n (lN (wd_n (nI k) pw)))))), (q17, .inl ((ct 1), 40, .inr (.inl (vp_updL b7 n (lN (pw_m 4 (sc_n se) * pw_m 9 (wd_n (nI k) pw) % pq_P)))))), (q20, .inl ((ct 1), 40, .inr (.inl (vp_updL (vp_updL b10 n 0) n (lN (pw_m 4 (sc_n se) * pw_m 9 (wd_n (nI k) pw) % pq_P))))))] := hD
            refine lv_iload hx hb d_M_client_149 (lv_at hl 1 rfl) ?_
            exact W.iret (v := nI n) hx hb hr (fun t ht hW => ⟨⟨z2575, ⟨rfl, trivial⟩, by rw [ht]; exact hP, hD⟩, hS.F ht⟩) hS.2.2 d_M_client_151
        · exact absurd h573 (by decide)
      · exact absurd h572 (n40 hn)
    · exact absurd h571 (by decide)
set_option maxHeartbeats 4000000 in
set_option maxRecDepth 100000 in
theorem c_M_client1S (l : Launch) (G : va_G) (ct : Nat → ClassId) (sz : Nat) (hm : Nat) (th : Int32) (sd : Int64) (nw : Int32) (hh : Int64) (q1 : Nat) (q2 : Nat) (q3 : Nat) (q4 : Nat) (q5 : Nat) (q6 : Nat) (q7 : Nat) (q8 : Nat) (q9 : Nat) (q10 : Nat) (q11 : Nat) (q12 : Nat) (q13 : Nat) (q14 : Nat) (q15 : Nat) (q16 : Nat) (q17 : Nat) (q18 : Nat) (q19 : Nat) (q20 : Nat) (n : Nat) (a9 : Nat → Int32) (b0 : Nat → Int32) (b1 : Nat → Int32) (b2 : Nat → Int32) (b3 : Nat → Int32) (b4 : Nat → Int64) (b5 : Nat → Int64) (b6 : Nat → Int64) (b7 : Nat → Int64) (b10 : Nat → Int64) (k : Nat) (wy : Int32) (pw : Int64) (se : Int64) (hk : k < 8) (hn : n < 40) (hwy : wy = 1) : Met l my_M_client (tb_w my_M_client mb_M_client 10 (some .int)) ({ frames := 3, cells := 0, slots := 0, locals := 70 }) (wk_P [.ref hm, .int (nI k), .int wy, .long pw, .long se] G ct [(hm, .inr (4, [.int th, .long sd, .int nw, .long hh, .ref q1, .ref q2, .ref q3, .ref q4, .ref q5, .ref q6, .ref q7, .ref q8, .int (nI n), .ref q9, .ref q10, .ref q11, .ref q12, .ref q13, .ref q14, .ref q15, .ref q16, .ref q17, .ref q18, .ref q19, .ref q20])), (q9, .inl ((ct 2), 40, .inl a9)), (q10, .inl ((ct 0), 40, .inl b0)), (q11, .inl ((ct 0), 40, .inl b1)), (q12, .inl ((ct 0), 40, .inl b2)), (q13, .inl ((ct 0), 40, .inl b3)), (q14, .inl ((ct 1), 40, .inr (.inl b4))), (q15, .inl ((ct 1), 40, .inr (.inl b5))), (q16, .inl ((ct 1), 40, .inr (.inl b6))), (q17, .inl ((ct 1), 40, .inr (.inl b7))), (q20, .inl ((ct 1), 40, .inr (.inl b10)))] sz) (wk_Q (wk_oi (S := Int64) (fun z2 => nI n) (fun _ => True)) (fun z2 : Int64 => [(hm, .inr (4, [.int 0, .long sd, .int nw, .long z2, .ref q1, .ref q2, .ref q3, .ref q4, .ref q5, .ref q6, .ref q7, .ref q8, .int (nI (n + 1)), .ref q9, .ref q10, .ref q11, .ref q12, .ref q13, .ref q14, .ref q15, .ref q16, .ref q17, .ref q18, .ref q19, .ref q20])), (q9, .inl ((ct 2), 40, .inl (upd a9 n 0))), (q10, .inl ((ct 0), 40, .inl (upd b0 n wy))), (q11, .inl ((ct 0), 40, .inl (upd b1 n (nI k)))), (q12, .inl ((ct 0), 40, .inl (upd b2 n 0))), (q13, .inl ((ct 0), 40, .inl (upd b3 n nw))), (q14, .inl ((ct 1), 40, .inr (.inl (vp_updL b4 n (lN (sc_n se)))))), (q15, .inl ((ct 1), 40, .inr (.inl (vp_updL b5 n pw)))), (q16, .inl ((ct 1), 40, .inr (.inl (vp_updL b6 n (lN (wd_n (nI k) pw)))))), (q17, .inl ((ct 1), 40, .inr (.inl (vp_updL b7 n (lN (pw_m 4 (sc_n se))))))), (q20, .inl ((ct 1), 40, .inr (.inl (vp_updL (vp_updL b10 n 0) n (lN (pw_m 4 (sc_n se)))))))]) G (va_A [(hm, .inr (4, [.int th, .long sd, .int nw, .long hh, .ref q1, .ref q2, .ref q3, .ref q4, .ref q5, .ref q6, .ref q7, .ref q8, .int (nI n), .ref q9, .ref q10, .ref q11, .ref q12, .ref q13, .ref q14, .ref q15, .ref q16, .ref q17, .ref q18, .ref q19, .ref q20])), (q9, .inl ((ct 2), 40, .inl a9)), (q10, .inl ((ct 0), 40, .inl b0)), (q11, .inl ((ct 0), 40, .inl b1)), (q12, .inl ((ct 0), 40, .inl b2)), (q13, .inl ((ct 0), 40, .inl b3)), (q14, .inl ((ct 1), 40, .inr (.inl b4))), (q15, .inl ((ct 1), 40, .inr (.inl b5))), (q16, .inl ((ct 1), 40, .inr (.inl b6))), (q17, .inl ((ct 1), 40, .inr (.inl b7))), (q20, .inl ((ct 1), 40, .inr (.inl b10)))] sz)) 0 0 (va_A [(hm, .inr (4, [.int th, .long sd, .int nw, .long hh, .ref q1, .ref q2, .ref q3, .ref q4, .ref q5, .ref q6, .ref q7, .ref q8, .int (nI n), .ref q9, .ref q10, .ref q11, .ref q12, .ref q13, .ref q14, .ref q15, .ref q16, .ref q17, .ref q18, .ref q19, .ref q20])), (q9, .inl ((ct 2), 40, .inl a9)), (q10, .inl ((ct 0), 40, .inl b0)), (q11, .inl ((ct 0), 40, .inl b1)), (q12, .inl ((ct 0), 40, .inl b2)), (q13, .inl ((ct 0), 40, .inl b3)), (q14, .inl ((ct 1), 40, .inr (.inl b4))), (q15, .inl ((ct 1), 40, .inr (.inl b5))), (q16, .inl ((ct 1), 40, .inr (.inl b6))), (q17, .inl ((ct 1), 40, .inr (.inl b7))), (q20, .inl ((ct 1), 40, .inr (.inl b10)))] sz) := by
  refine Met.ofW (cc := mb_M_client) (maxL := 10) (ret := (some .int)) (by decide) rfl ?_
  intro p e s m args below meth c s₁ B hml hv
  obtain ⟨rfl, hsz, hP, hK, hD0⟩ := hv
  have hx := B.exec
  have hb := B.bytes
  have hr := B.returns
  have hts := atoms_spec (ws := tb_w my_M_client mb_M_client 10 (some .int)) B.pre
  have hw : ∀ w ∈ gt_tbl, w.before [.ref hm, .int (nI k), .int wy, .long pw, .long se].toArray s = true := fun w h => hts w (List.mem_cons_of_mem _ h)
  have hown : s.vm.findClass cr_M = some m.cls := findClass_of_methodNamed B.named
  have hlocks := B.notSynchronized
  subst hsz
  have hD := hD0.self (sz := s.heap.size)
  generalize hAe : va_A [(hm, .inr (4, [.int th, .long sd, .int nw, .long hh, .ref q1, .ref q2, .ref q3, .ref q4, .ref q5, .ref q6, .ref q7, .ref q8, .int (nI n), .ref q9, .ref q10, .ref q11, .ref q12, .ref q13, .ref q14, .ref q15, .ref q16, .ref q17, .ref q18, .ref q19, .ref q20])), (q9, .inl ((ct 2), 40, .inl a9)), (q10, .inl ((ct 0), 40, .inl b0)), (q11, .inl ((ct 0), 40, .inl b1)), (q12, .inl ((ct 0), 40, .inl b2)), (q13, .inl ((ct 0), 40, .inl b3)), (q14, .inl ((ct 1), 40, .inr (.inl b4))), (q15, .inl ((ct 1), 40, .inr (.inl b5))), (q16, .inl ((ct 1), 40, .inr (.inl b6))), (q17, .inl ((ct 1), 40, .inr (.inl b7))), (q20, .inl ((ct 1), 40, .inr (.inl b10)))] s.heap.size = A at hD ⊢
  have hA : ∀ q : Nat, s.heap.size ≤ q → A q := fun q h => by rw [← hAe]; exact Or.inr h
  have hS : va_S A s.heap s.heap [] := va_S.rf
  have hP : va_P G classes [(hm, .inr (4, [.int th, .long sd, .int nw, .long hh, .ref q1, .ref q2, .ref q3, .ref q4, .ref q5, .ref q6, .ref q7, .ref q8, .int (nI n), .ref q9, .ref q10, .ref q11, .ref q12, .ref q13, .ref q14, .ref q15, .ref q16, .ref q17, .ref q18, .ref q19, .ref q20])), (q9, .inl ((ct 2), 40, .inl a9)), (q10, .inl ((ct 0), 40, .inl b0)), (q11, .inl ((ct 0), 40, .inl b1)), (q12, .inl ((ct 0), 40, .inl b2)), (q13, .inl ((ct 0), 40, .inl b3)), (q14, .inl ((ct 1), 40, .inr (.inl b4))), (q15, .inl ((ct 1), 40, .inr (.inl b5))), (q16, .inl ((ct 1), 40, .inr (.inl b6))), (q17, .inl ((ct 1), 40, .inr (.inl b7))), (q20, .inl ((ct 1), 40, .inr (.inl b10)))] s.heap := hP
  have hl := lv_entry ([.ref hm, .int (nI k), .int wy, .long pw, .long se]) (n := 10) (Nat.le_of_ble_eq_true rfl)
  rw [lg_entry_eq]
  generalize (lg_sl ([.ref hm, .int (nI k), .int wy, .long pw, .long se]) ++ List.replicate (10 - (lg_sl ([.ref hm, .int (nI k), .int wy, .long pw, .long se])).length) Slot.unset).toArray = ls at hl ⊢
  have hl : lv_has ls 10 [(0, .ref hm), (1, .int (nI k)), (2, .int wy), (3, .long pw), (5, .long se)] := hl
  have hwi : wy_in wy := Or.inr hwy
  refine lv_aload_n hx hb d_M_client_0 rfl (lv_at hl 0 rfl) ?_
  refine lv_iload_n hx hb d_M_client_1 rfl (lv_at hl 1 rfl) ?_
  refine vp_callSi (W.runS (As := [.int (nI k)]) (rest := [.ref hm]) ⟨hx, hb, hml, hown, hts⟩ (c_M_isUser l (nI k)) (tb_S hw cy_M_isUser ww_727 ww_728 rfl rfl ⟨Nat.le_of_ble_eq_true rfl, Nat.le_of_ble_eq_true rfl⟩) preEq rfl rfl hl.1 rfl (lv_room (Nat.le_of_ble_eq_true rfl)) d_M_client_2 ⟨Nat.le_of_ble_eq_true rfl, Nat.le_of_ble_eq_true rfl⟩) (fun r580 er580 => ?_)
  subst er580
  refine tp_i (if_pos (us_k hk)) ?_
  refine lv_if_eq (tgt := 15) hx hb d_M_client_5 (by decide) (fun h581 => ?_) (fun h581 => ?_)
  · exact absurd h581 (by decide)
  · refine lv_iload_n hx hb d_M_client_8 rfl (lv_at hl 2 rfl) ?_
    refine vp_callSi (W.runS (As := [.int wy]) (rest := [.ref hm]) ⟨hx, hb, hml, hown, hts⟩ (c_M_isWay l wy) (tb_S hw cy_M_isWay ww_730 ww_731 rfl rfl ⟨Nat.le_of_ble_eq_true rfl, Nat.le_of_ble_eq_true rfl⟩) preEq rfl rfl hl.1 rfl (lv_room (Nat.le_of_ble_eq_true rfl)) d_M_client_9 ⟨Nat.le_of_ble_eq_true rfl, Nat.le_of_ble_eq_true rfl⟩) (fun r582 er582 => ?_)
    subst er582
    refine tp_i (if_pos hwi) ?_
    refine lv_if_ne (tgt := 19) hx hb d_M_client_12 (by decide) (fun h583 => ?_) (fun h583 => ?_)
    · refine lv_aload_n hx hb d_M_client_19 rfl (lv_at hl 0 rfl) ?_
      refine va_get (D := G) (ci := 4) (v := .int (nI n)) (C := cr_M) (T := cf_M) (N := 25) hx hb hw uw_M hown hK.1 hP 0 rfl rfl 12 (by decide) (hw _ ww_652) (fun _ h9 => h9) rfl d_M_client_20 ?_
      refine lv_bipush (v := 40) hx hb d_M_client_23 (by decide) ?_
      refine lv_icmp_ne (tgt := 32) hx hb d_M_client_25 (by decide) (fun h584 => ?_) (fun h584 => ?_)
      · refine lv_iconst (v := 0) hx hb d_M_client_32 (by decide) ?_
        refine va_put (D := G) (ci := 4) (v := .int 0) (ty := .int) (C := cr_M) (T := cf_M) (N := 25) hx hb hw uw_M ct_M ct_M_ok ct_M_nm hown hK.1 hP hD hS 0 rfl rfl 0 (by decide) (hw _ ww_640) (fun _ h9 => h9) rfl (by decide +kernel) rfl rfl (Nat.le_of_ble_eq_true rfl) d_M_client_33 (fun H locs hP hD hS => ?_)
        have hP : va_P G classes [(hm, .inr (4, [.int 0, .long sd, .int nw, .long hh, .ref q1, .ref q2, .ref q3, .ref q4, .ref q5, .ref q6, .ref q7, .ref q8, .int (nI n), .ref q9, .ref q10, .ref q11, .ref q12, .ref q13, .ref q14, .ref q15, .ref q16, .ref q17, .ref q18, .ref q19, .ref q20])), (q9, .inl ((ct 2), 40, .inl a9)), (q10, .inl ((ct 0), 40, .inl b0)), (q11, .inl ((ct 0), 40, .inl b1)), (q12, .inl ((ct 0), 40, .inl b2)), (q13, .inl ((ct 0), 40, .inl b3)), (q14, .inl ((ct 1), 40, .inr (.inl b4))), (q15, .inl ((ct 1), 40, .inr (.inl b5))), (q16, .inl ((ct 1), 40, .inr (.inl b6))), (q17, .inl ((ct 1), 40, .inr (.inl b7))), (q20, .inl ((ct 1), 40, .inr (.inl b10)))] H := hP
        have hD : va_D A [(hm, .inr (4, [.int 0, .long sd, .int nw, .long hh, .ref q1, .ref q2, .ref q3, .ref q4, .ref q5, .ref q6, .ref q7, .ref q8, .int (nI n), .ref q9, .ref q10, .ref q11, .ref q12, .ref q13, .ref q14, .ref q15, .ref q16, .ref q17, .ref q18, .ref q19, .ref q20])), (q9, .inl ((ct 2), 40, .inl a9)), (q10, .inl ((ct 0), 40, .inl b0)), (q11, .inl ((ct 0), 40, .inl b1)), (q12, .inl ((ct 0), 40, .inl b2)), (q13, .inl ((ct 0), 40, .inl b3)), (q14, .inl ((ct 1), 40, .inr (.inl b4))), (q15, .inl ((ct 1), 40, .inr (.inl b5))), (q16, .inl ((ct 1), 40, .inr (.inl b6))), (q17, .inl ((ct 1), 40, .inr (.inl b7))), (q20, .inl ((ct 1), 40, .inr (.inl b10)))] := hD
        refine lv_aload_n hx hb d_M_client_36 rfl (lv_at hl 0 rfl) ?_
        refine va_get (D := G) (ci := 4) (v := .int 0) (C := cr_M) (T := cf_M) (N := 25) hx hb hw uw_M hown hK.1 hP 0 rfl rfl 0 (by decide) (hw _ ww_640) (fun _ h9 => h9) rfl d_M_client_37 ?_
        refine lv_if_le (tgt := 45) hx hb d_M_client_40 (by decide) (fun h585 => ?_) (fun h585 => ?_)
        · refine lv_aload_n hx hb d_M_client_45 rfl (lv_at hl 0 rfl) ?_
          refine lv_iload_n hx hb d_M_client_46 rfl (lv_at hl 1 rfl) ?_
          refine lv_iload_n hx hb d_M_client_47 rfl (lv_at hl 2 rfl) ?_
          refine lv_lload hx hb d_M_client_48 (lv_at hl 4 rfl) ?_
          have hPc : va_P G classes [(hm, .inr (4, [.int 0, .long sd, .int nw, .long hh, .ref q1, .ref q2, .ref q3, .ref q4, .ref q5, .ref q6, .ref q7, .ref q8, .int (nI n), .ref q9, .ref q10, .ref q11, .ref q12, .ref q13, .ref q14, .ref q15, .ref q16, .ref q17, .ref q18, .ref q19, .ref q20])), (q10, .inl ((ct 0), 40, .inl b0)), (q11, .inl ((ct 0), 40, .inl b1)), (q12, .inl ((ct 0), 40, .inl b2)), (q13, .inl ((ct 0), 40, .inl b3)), (q14, .inl ((ct 1), 40, .inr (.inl b4))), (q20, .inl ((ct 1), 40, .inr (.inl b10)))] H := hP.sub [0, 2, 3, 4, 5, 6, 10] rfl
          have hDc := hD.sub (ws' := [(hm, .inr (4, [.int 0, .long sd, .int nw, .long hh, .ref q1, .ref q2, .ref q3, .ref q4, .ref q5, .ref q6, .ref q7, .ref q8, .int (nI n), .ref q9, .ref q10, .ref q11, .ref q12, .ref q13, .ref q14, .ref q15, .ref q16, .ref q17, .ref q18, .ref q19, .ref q20])), (q10, .inl ((ct 0), 40, .inl b0)), (q11, .inl ((ct 0), 40, .inl b1)), (q12, .inl ((ct 0), 40, .inl b2)), (q13, .inl ((ct 0), 40, .inl b3)), (q14, .inl ((ct 1), 40, .inr (.inl b4))), (q20, .inl ((ct 1), 40, .inr (.inl b10)))]) [0, 2, 3, 4, 5, 6, 10] (by decide) rfl
          refine wk_i (va_runV (As := [.int (nI k), .int wy, .long se]) (rest := []) ⟨hx, hb, hml, hown, hts⟩ (c_M_open l G ct H.size hm 0 sd nw hh q1 q2 q3 q4 q5 q6 q7 q8 q9 q10 q11 q12 q13 q14 q15 q16 q17 q18 q19 q20 n b0 b1 b2 b3 b4 b10 (nI k) wy se (by first | assumption | exact m63 (by first | assumption | exact qs_P (by assumption)) | decide | exact pw_lt _ _ | exact Nat.mod_lt _ pq_pos | exact sc_lt _ | exact sc_pos _ | exact m63 (by first | assumption | exact pw_lt _ _ | exact Nat.mod_lt _ pq_pos | exact qs_P (by first | assumption | exact sc_lt _ | exact qz_Q _)) | exact up_se _ _ _ | exact ul_se _ _ _ | omega)) (tb_V hw cy_M_open ww_791 ww_793 wp_M_open rfl rfl ⟨Nat.le_of_ble_eq_true rfl, Nat.le_of_ble_eq_true rfl⟩) (wk_preV (ci := 4) (q0 := 0) hPc hK hDc rfl rfl) rfl rfl hl.1 rfl (lv_room (Nat.le_of_ble_eq_true rfl)) d_M_client_50 ⟨Nat.le_of_ble_eq_true rfl, Nat.le_of_ble_eq_true rfl⟩) hP hD hS hA [0, 2, 3, 4, 5, 6, 10] (by decide) rfl (fun _ => by simp only [List.map_cons, List.map_nil]) (fun _ H locs ok586 hP hD hS => ?_)
          have hP : va_P G classes [(hm, .inr (4, [.int 0, .long sd, .int nw, .long hh, .ref q1, .ref q2, .ref q3, .ref q4, .ref q5, .ref q6, .ref q7, .ref q8, .int (nI (n + 1)), .ref q9, .ref q10, .ref q11, .ref q12, .ref q13, .ref q14, .ref q15, .ref q16, .ref q17, .ref q18, .ref q19, .ref q20])), (q9, .inl ((ct 2), 40, .inl a9)), (q10, .inl ((ct 0), 40, .inl (upd b0 n wy))), (q11, .inl ((ct 0), 40, .inl (upd b1 n (nI k)))), (q12, .inl ((ct 0), 40, .inl (upd b2 n 0))), (q13, .inl ((ct 0), 40, .inl (upd b3 n nw))), (q14, .inl ((ct 1), 40, .inr (.inl (vp_updL b4 n (lN (sc_n se)))))), (q15, .inl ((ct 1), 40, .inr (.inl b5))), (q16, .inl ((ct 1), 40, .inr (.inl b6))), (q17, .inl ((ct 1), 40, .inr (.inl b7))), (q20, .inl ((ct 1), 40, .inr (.inl (vp_updL b10 n 0))))] H := hP
          have hD : va_D A [(hm, .inr (4, [.int 0, .long sd, .int nw, .long hh, .ref q1, .ref q2, .ref q3, .ref q4, .ref q5, .ref q6, .ref q7, .ref q8, .int (nI (n + 1)), .ref q9, .ref q10, .ref q11, .ref q12, .ref q13, .ref q14, .ref q15, .ref q16, .ref q17, .ref q18, .ref q19, .ref q20])), (q9, .inl ((ct 2), 40, .inl a9)), (q10, .inl ((ct 0), 40, .inl (upd b0 n wy))), (q11, .inl ((ct 0), 40, .inl (upd b1 n (nI k)))), (q12, .inl ((ct 0), 40, .inl (upd b2 n 0))), (q13, .inl ((ct 0), 40, .inl (upd b3 n nw))), (q14, .inl ((ct 1), 40, .inr (.inl (vp_updL b4 n (lN (sc_n se)))))), (q15, .inl ((ct 1), 40, .inr (.inl b5))), (q16, .inl ((ct 1), 40, .inr (.inl b6))), (q17, .inl ((ct 1), 40, .inr (.inl b7))), (q20, .inl ((ct 1), 40, .inr (.inl (vp_updL b10 n 0))))] := hD
          refine lv_istore (lv' := [(7, .int (nI n)), (0, .ref hm), (1, .int (nI k)), (2, .int wy), (3, .long pw), (5, .long se)]) hx hb d_M_client_53 hl (Nat.le_of_ble_eq_true rfl) rfl (fun ls hl => ?_)
          refine lv_aload_n hx hb d_M_client_55 rfl (lv_at hl 1 rfl) ?_
          refine va_get (D := G) (ci := 4) (v := .ref q9) (C := cr_M) (T := cf_M) (N := 25) hx hb hw uw_M hown hK.1 hP 0 rfl rfl 13 (by decide) (hw _ ww_653) (fun _ h9 => h9) rfl d_M_client_56 ?_
          refine lv_iload hx hb d_M_client_59 (lv_at hl 0 rfl) ?_
          refine lv_iconst (v := 0) hx hb d_M_client_61 (by decide) ?_
          refine ra_zs hx hb hK.1 hP hD hS 1 2 rfl rfl (k := n) (by omega) (by decide) rfl d_M_client_62 (fun H locs hP hD hS => ?_)
          have hP : va_P G classes [(hm, .inr (4, [.int 0, .long sd, .int nw, .long hh, .ref q1, .ref q2, .ref q3, .ref q4, .ref q5, .ref q6, .ref q7, .ref q8, .int (nI (n + 1)), .ref q9, .ref q10, .ref q11, .ref q12, .ref q13, .ref q14, .ref q15, .ref q16, .ref q17, .ref q18, .ref q19, .ref q20])), (q9, .inl ((ct 2), 40, .inl (upd a9 n 0))), (q10, .inl ((ct 0), 40, .inl (upd b0 n wy))), (q11, .inl ((ct 0), 40, .inl (upd b1 n (nI k)))), (q12, .inl ((ct 0), 40, .inl (upd b2 n 0))), (q13, .inl ((ct 0), 40, .inl (upd b3 n nw))), (q14, .inl ((ct 1), 40, .inr (.inl (vp_updL b4 n (lN (sc_n se)))))), (q15, .inl ((ct 1), 40, .inr (.inl b5))), (q16, .inl ((ct 1), 40, .inr (.inl b6))), (q17, .inl ((ct 1), 40, .inr (.inl b7))), (q20, .inl ((ct 1), 40, .inr (.inl (vp_updL b10 n 0))))] H := hP
          have hD : va_D A [(hm, .inr (4, [.int 0, .long sd, .int nw, .long hh, .ref q1, .ref q2, .ref q3, .ref q4, .ref q5, .ref q6, .ref q7, .ref q8, .int (nI (n + 1)), .ref q9, .ref q10, .ref q11, .ref q12, .ref q13, .ref q14, .ref q15, .ref q16, .ref q17, .ref q18, .ref q19, .ref q20])), (q9, .inl ((ct 2), 40, .inl (upd a9 n 0))), (q10, .inl ((ct 0), 40, .inl (upd b0 n wy))), (q11, .inl ((ct 0), 40, .inl (upd b1 n (nI k)))), (q12, .inl ((ct 0), 40, .inl (upd b2 n 0))), (q13, .inl ((ct 0), 40, .inl (upd b3 n nw))), (q14, .inl ((ct 1), 40, .inr (.inl (vp_updL b4 n (lN (sc_n se)))))), (q15, .inl ((ct 1), 40, .inr (.inl b5))), (q16, .inl ((ct 1), 40, .inr (.inl b6))), (q17, .inl ((ct 1), 40, .inr (.inl b7))), (q20, .inl ((ct 1), 40, .inr (.inl (vp_updL b10 n 0))))] := hD
          refine lv_aload_n hx hb d_M_client_63 rfl (lv_at hl 1 rfl) ?_
          refine va_get (D := G) (ci := 4) (v := .ref q15) (C := cr_M) (T := cf_M) (N := 25) hx hb hw uw_M hown hK.1 hP 0 rfl rfl 19 (by decide) (hw _ ww_659) (fun _ h9 => h9) rfl d_M_client_64 ?_
          refine lv_iload hx hb d_M_client_67 (lv_at hl 0 rfl) ?_
          refine lv_lload_n hx hb d_M_client_69 rfl (lv_at hl 4 rfl) ?_
          refine ra_ls hx hb hK.1 hP hD hS 7 1 rfl rfl (k := n) (by omega) (by decide) d_M_client_70 (fun H locs hP hD hS => ?_)
          have hP : va_P G classes [(hm, .inr (4, [.int 0, .long sd, .int nw, .long hh, .ref q1, .ref q2, .ref q3, .ref q4, .ref q5, .ref q6, .ref q7, .ref q8, .int (nI (n + 1)), .ref q9, .ref q10, .ref q11, .ref q12, .ref q13, .ref q14, .ref q15, .ref q16, .ref q17, .ref q18, .ref q19, .ref q20])), (q9, .inl ((ct 2), 40, .inl (upd a9 n 0))), (q10, .inl ((ct 0), 40, .inl (upd b0 n wy))), (q11, .inl ((ct 0), 40, .inl (upd b1 n (nI k)))), (q12, .inl ((ct 0), 40, .inl (upd b2 n 0))), (q13, .inl ((ct 0), 40, .inl (upd b3 n nw))), (q14, .inl ((ct 1), 40, .inr (.inl (vp_updL b4 n (lN (sc_n se)))))), (q15, .inl ((ct 1), 40, .inr (.inl (vp_updL b5 n pw)))), (q16, .inl ((ct 1), 40, .inr (.inl b6))), (q17, .inl ((ct 1), 40, .inr (.inl b7))), (q20, .inl ((ct 1), 40, .inr (.inl (vp_updL b10 n 0))))] H := hP
          have hD : va_D A [(hm, .inr (4, [.int 0, .long sd, .int nw, .long hh, .ref q1, .ref q2, .ref q3, .ref q4, .ref q5, .ref q6, .ref q7, .ref q8, .int (nI (n + 1)), .ref q9, .ref q10, .ref q11, .ref q12, .ref q13, .ref q14, .ref q15, .ref q16, .ref q17, .ref q18, .ref q19, .ref q20])), (q9, .inl ((ct 2), 40, .inl (upd a9 n 0))), (q10, .inl ((ct 0), 40, .inl (upd b0 n wy))), (q11, .inl ((ct 0), 40, .inl (upd b1 n (nI k)))), (q12, .inl ((ct 0), 40, .inl (upd b2 n 0))), (q13, .inl ((ct 0), 40, .inl (upd b3 n nw))), (q14, .inl ((ct 1), 40, .inr (.inl (vp_updL b4 n (lN (sc_n se)))))), (q15, .inl ((ct 1), 40, .inr (.inl (vp_updL b5 n pw)))), (q16, .inl ((ct 1), 40, .inr (.inl b6))), (q17, .inl ((ct 1), 40, .inr (.inl b7))), (q20, .inl ((ct 1), 40, .inr (.inl (vp_updL b10 n 0))))] := hD
          refine lv_aload_n hx hb d_M_client_71 rfl (lv_at hl 1 rfl) ?_
          refine va_get (D := G) (ci := 4) (v := .ref q16) (C := cr_M) (T := cf_M) (N := 25) hx hb hw uw_M hown hK.1 hP 0 rfl rfl 20 (by decide) (hw _ ww_660) (fun _ h9 => h9) rfl d_M_client_72 ?_
          refine lv_iload hx hb d_M_client_75 (lv_at hl 0 rfl) ?_
          refine lv_aload_n hx hb d_M_client_77 rfl (lv_at hl 1 rfl) ?_
          refine lv_iload_n hx hb d_M_client_78 rfl (lv_at hl 2 rfl) ?_
          refine lv_lload_n hx hb d_M_client_79 rfl (lv_at hl 4 rfl) ?_
          have hPc : va_P G classes [(hm, .inr (4, [.int 0, .long sd, .int nw, .long hh, .ref q1, .ref q2, .ref q3, .ref q4, .ref q5, .ref q6, .ref q7, .ref q8, .int (nI (n + 1)), .ref q9, .ref q10, .ref q11, .ref q12, .ref q13, .ref q14, .ref q15, .ref q16, .ref q17, .ref q18, .ref q19, .ref q20]))] H := hP.sub [0] rfl
          have hDc := hD.sub (ws' := [(hm, .inr (4, [.int 0, .long sd, .int nw, .long hh, .ref q1, .ref q2, .ref q3, .ref q4, .ref q5, .ref q6, .ref q7, .ref q8, .int (nI (n + 1)), .ref q9, .ref q10, .ref q11, .ref q12, .ref q13, .ref q14, .ref q15, .ref q16, .ref q17, .ref q18, .ref q19, .ref q20]))]) [0] (by decide) rfl
          refine wk_l (va_runV (As := [.int (nI k), .long pw]) (rest := [.int (nI n), .ref q16]) ⟨hx, hb, hml, hown, hts⟩ (c_M_word l G ct H.size hm 0 sd nw hh q1 q2 q3 q4 q5 q6 q7 q8 q9 q10 q11 q12 q13 q14 q15 q16 q17 q18 q19 q20 (n + 1) (nI k) pw) (tb_V hw cy_M_word ww_733 ww_735 wp_M_word rfl rfl ⟨Nat.le_of_ble_eq_true rfl, Nat.le_of_ble_eq_true rfl⟩) (wk_preV (ci := 4) (q0 := 0) hPc hK hDc rfl rfl) rfl rfl hl.1 rfl (lv_room (Nat.le_of_ble_eq_true rfl)) d_M_client_80 ⟨Nat.le_of_ble_eq_true rfl, Nat.le_of_ble_eq_true rfl⟩) hP hD hS hA [0] (by decide) rfl (fun _ => by simp only [List.map_cons, List.map_nil]) (fun z2587 H locs ok588 hP hD hS => ?_)
          have hP : va_P G classes [(hm, .inr (4, [.int 0, .long sd, .int nw, .long z2587, .ref q1, .ref q2, .ref q3, .ref q4, .ref q5, .ref q6, .ref q7, .ref q8, .int (nI (n + 1)), .ref q9, .ref q10, .ref q11, .ref q12, .ref q13, .ref q14, .ref q15, .ref q16, .ref q17, .ref q18, .ref q19, .ref q20])), (q9, .inl ((ct 2), 40, .inl (upd a9 n 0))), (q10, .inl ((ct 0), 40, .inl (upd b0 n wy))), (q11, .inl ((ct 0), 40, .inl (upd b1 n (nI k)))), (q12, .inl ((ct 0), 40, .inl (upd b2 n 0))), (q13, .inl ((ct 0), 40, .inl (upd b3 n nw))), (q14, .inl ((ct 1), 40, .inr (.inl (vp_updL b4 n (lN (sc_n se)))))), (q15, .inl ((ct 1), 40, .inr (.inl (vp_updL b5 n pw)))), (q16, .inl ((ct 1), 40, .inr (.inl b6))), (q17, .inl ((ct 1), 40, .inr (.inl b7))), (q20, .inl ((ct 1), 40, .inr (.inl (vp_updL b10 n 0))))] H := hP
          have hD : va_D A [(hm, .inr (4, [.int 0, .long sd, .int nw, .long z2587, .ref q1, .ref q2, .ref q3, .ref q4, .ref q5, .ref q6, .ref q7, .ref q8, .int (nI (n + 1)), .ref q9, .ref q10, .ref q11, .ref q12, .ref q13, .ref q14, .ref q15, .ref q16, .ref q17, .ref q18, .ref q19, .ref q20])), (q9, .inl ((ct 2), 40, .inl (upd a9 n 0))), (q10, .inl ((ct 0), 40, .inl (upd b0 n wy))), (q11, .inl ((ct 0), 40, .inl (upd b1 n (nI k)))), (q12, .inl ((ct 0), 40, .inl (upd b2 n 0))), (q13, .inl ((ct 0), 40, .inl (upd b3 n nw))), (q14, .inl ((ct 1), 40, .inr (.inl (vp_updL b4 n (lN (sc_n se)))))), (q15, .inl ((ct 1), 40, .inr (.inl (vp_updL b5 n pw)))), (q16, .inl ((ct 1), 40, .inr (.inl b6))), (q17, .inl ((ct 1), 40, .inr (.inl b7))), (q20, .inl ((ct 1), 40, .inr (.inl (vp_updL b10 n 0))))] := hD
          refine ra_ls hx hb hK.1 hP hD hS 8 1 rfl rfl (k := n) (by omega) (by decide) d_M_client_83 (fun H locs hP hD hS => ?_)
          have hP : va_P G classes [(hm, .inr (4, [.int 0, .long sd, .int nw, .long z2587, .ref q1, .ref q2, .ref q3, .ref q4, .ref q5, .ref q6, .ref q7, .ref q8, .int (nI (n + 1)), .ref q9, .ref q10, .ref q11, .ref q12, .ref q13, .ref q14, .ref q15, .ref q16, .ref q17, .ref q18, .ref q19, .ref q20])), (q9, .inl ((ct 2), 40, .inl (upd a9 n 0))), (q10, .inl ((ct 0), 40, .inl (upd b0 n wy))), (q11, .inl ((ct 0), 40, .inl (upd b1 n (nI k)))), (q12, .inl ((ct 0), 40, .inl (upd b2 n 0))), (q13, .inl ((ct 0), 40, .inl (upd b3 n nw))), (q14, .inl ((ct 1), 40, .inr (.inl (vp_updL b4 n (lN (sc_n se)))))), (q15, .inl ((ct 1), 40, .inr (.inl (vp_updL b5 n pw)))), (q16, .inl ((ct 1), 40, .inr (.inl (vp_updL b6 n (lN (wd_n (nI k) pw)))))), (q17, .inl ((ct 1), 40, .inr (.inl b7))), (q20, .inl ((ct 1), 40, .inr (.inl (vp_updL b10 n 0))))] H := hP
          have hD : va_D A [(hm, .inr (4, [.int 0, .long sd, .int nw, .long z2587, .ref q1, .ref q2, .ref q3, .ref q4, .ref q5, .ref q6, .ref q7, .ref q8, .int (nI (n + 1)), .ref q9, .ref q10, .ref q11, .ref q12, .ref q13, .ref q14, .ref q15, .ref q16, .ref q17, .ref q18, .ref q19, .ref q20])), (q9, .inl ((ct 2), 40, .inl (upd a9 n 0))), (q10, .inl ((ct 0), 40, .inl (upd b0 n wy))), (q11, .inl ((ct 0), 40, .inl (upd b1 n (nI k)))), (q12, .inl ((ct 0), 40, .inl (upd b2 n 0))), (q13, .inl ((ct 0), 40, .inl (upd b3 n nw))), (q14, .inl ((ct 1), 40, .inr (.inl (vp_updL b4 n (lN (sc_n se)))))), (q15, .inl ((ct 1), 40, .inr (.inl (vp_updL b5 n pw)))), (q16, .inl ((ct 1), 40, .inr (.inl (vp_updL b6 n (lN (wd_n (nI k) pw)))))), (q17, .inl ((ct 1), 40, .inr (.inl b7))), (q20, .inl ((ct 1), 40, .inr (.inl (vp_updL b10 n 0))))] := hD
          refine lv_ldc2 (v := 4) hx hb hown (hw _ ww_757) d_M_client_84 ?_
          refine lv_aload_n hx hb d_M_client_87 rfl (lv_at hl 1 rfl) ?_
          refine va_get (D := G) (ci := 4) (v := .ref q14) (C := cr_M) (T := cf_M) (N := 25) hx hb hw uw_M hown hK.1 hP 0 rfl rfl 18 (by decide) (hw _ ww_658) (fun _ h9 => h9) rfl d_M_client_88 ?_
          refine lv_iload hx hb d_M_client_91 (lv_at hl 0 rfl) ?_
          refine ra_ll hx hb hK.1 hP 6 1 rfl rfl (k := n) (by omega) (by decide) d_M_client_93 ?_
          refine tp_l (ul_se _ _ _) ?_
          refine vp_callSl (W.runS (As := [.long (lN 4), .long (lN (sc_n se))]) (rest := []) ⟨hx, hb, hml, hown, hts⟩ (c_M_power l 4 (sc_n se) (by decide) (m63 (qs_P (sc_lt _)))) (tb_S hw cy_M_power ww_763 ww_764 rfl rfl ⟨Nat.le_of_ble_eq_true rfl, Nat.le_of_ble_eq_true rfl⟩) preEq rfl rfl hl.1 rfl (lv_room (Nat.le_of_ble_eq_true rfl)) d_M_client_94 ⟨Nat.le_of_ble_eq_true rfl, Nat.le_of_ble_eq_true rfl⟩) (fun r589 er589 => ?_)
          subst er589
          refine lv_lstore (lv' := [(8, .long (lN (pw_m 4 (sc_n se)))), (7, .int (nI n)), (0, .ref hm), (1, .int (nI k)), (2, .int wy), (3, .long pw), (5, .long se)]) hx hb d_M_client_97 hl (Nat.le_of_ble_eq_true rfl) rfl (fun ls hl => ?_)
          refine lv_aload_n hx hb d_M_client_99 rfl (lv_at hl 2 rfl) ?_
          refine va_get (D := G) (ci := 4) (v := .ref q20) (C := cr_M) (T := cf_M) (N := 25) hx hb hw uw_M hown hK.1 hP 0 rfl rfl 24 (by decide) (hw _ ww_664) (fun _ h9 => h9) rfl d_M_client_100 ?_
          refine lv_iload hx hb d_M_client_103 (lv_at hl 1 rfl) ?_
          refine lv_iload_n hx hb d_M_client_105 rfl (lv_at hl 4 rfl) ?_
          refine lv_if_ne (tgt := 132) hx hb d_M_client_106 (by decide) (fun h590 => ?_) (fun h590 => ?_)
          · refine lv_lload hx hb d_M_client_132 (lv_at hl 0 rfl) ?_
            refine ra_ls hx hb hK.1 hP hD hS 10 1 rfl rfl (k := n) (by omega) (by decide) d_M_client_134 (fun H locs hP hD hS => ?_)
            have hP : va_P G classes [(hm, .inr (4, [.int 0, .long sd, .int nw, .long z2587, .ref q1, .ref q2, .ref q3, .ref q4, .ref q5, .ref q6, .ref q7, .ref q8, .int (nI (n + 1)), .ref q9, .ref q10, .ref q11, .ref q12, .ref q13, .ref q14, .ref q15, .ref q16, .ref q17, .ref q18, .ref q19, .ref q20])), (q9, .inl ((ct 2), 40, .inl (upd a9 n 0))), (q10, .inl ((ct 0), 40, .inl (upd b0 n wy))), (q11, .inl ((ct 0), 40, .inl (upd b1 n (nI k)))), (q12, .inl ((ct 0), 40, .inl (upd b2 n 0))), (q13, .inl ((ct 0), 40, .inl (upd b3 n nw))), (q14, .inl ((ct 1), 40, .inr (.inl (vp_updL b4 n (lN (sc_n se)))))), (q15, .inl ((ct 1), 40, .inr (.inl (vp_updL b5 n pw)))), (q16, .inl ((ct 1), 40, .inr (.inl (vp_updL b6 n (lN (wd_n (nI k) pw)))))), (q17, .inl ((ct 1), 40, .inr (.inl b7))), (q20, .inl ((ct 1), 40, .inr (.inl (vp_updL (vp_updL b10 n 0) n (lN (pw_m 4 (sc_n se)))))))] H := hP
            have hD : va_D A [(hm, .inr (4, [.int 0, .long sd, .int nw, .long z2587, .ref q1, .ref q2, .ref q3, .ref q4, .ref q5, .ref q6, .ref q7, .ref q8, .int (nI (n + 1)), .ref q9, .ref q10, .ref q11, .ref q12, .ref q13, .ref q14, .ref q15, .ref q16, .ref q17, .ref q18, .ref q19, .ref q20])), (q9, .inl ((ct 2), 40, .inl (upd a9 n 0))), (q10, .inl ((ct 0), 40, .inl (upd b0 n wy))), (q11, .inl ((ct 0), 40, .inl (upd b1 n (nI k)))), (q12, .inl ((ct 0), 40, .inl (upd b2 n 0))), (q13, .inl ((ct 0), 40, .inl (upd b3 n nw))), (q14, .inl ((ct 1), 40, .inr (.inl (vp_updL b4 n (lN (sc_n se)))))), (q15, .inl ((ct 1), 40, .inr (.inl (vp_updL b5 n pw)))), (q16, .inl ((ct 1), 40, .inr (.inl (vp_updL b6 n (lN (wd_n (nI k) pw)))))), (q17, .inl ((ct 1), 40, .inr (.inl b7))), (q20, .inl ((ct 1), 40, .inr (.inl (vp_updL (vp_updL b10 n 0) n (lN (pw_m 4 (sc_n se)))))))] := hD
            refine lv_aload_n hx hb d_M_client_135 rfl (lv_at hl 2 rfl) ?_
            refine va_get (D := G) (ci := 4) (v := .ref q17) (C := cr_M) (T := cf_M) (N := 25) hx hb hw uw_M hown hK.1 hP 0 rfl rfl 21 (by decide) (hw _ ww_661) (fun _ h9 => h9) rfl d_M_client_136 ?_
            refine lv_iload hx hb d_M_client_139 (lv_at hl 1 rfl) ?_
            refine lv_aload_n hx hb d_M_client_141 rfl (lv_at hl 2 rfl) ?_
            refine va_get (D := G) (ci := 4) (v := .ref q20) (C := cr_M) (T := cf_M) (N := 25) hx hb hw uw_M hown hK.1 hP 0 rfl rfl 24 (by decide) (hw _ ww_664) (fun _ h9 => h9) rfl d_M_client_142 ?_
            refine lv_iload hx hb d_M_client_145 (lv_at hl 1 rfl) ?_
            refine ra_ll hx hb hK.1 hP 10 1 rfl rfl (k := n) (by omega) (by decide) d_M_client_147 ?_
            refine tp_l (ul_se _ _ _) ?_
            refine ra_ls hx hb hK.1 hP hD hS 9 1 rfl rfl (k := n) (by omega) (by decide) d_M_client_148 (fun H locs hP hD hS => ?_)
            have hP : va_P G classes [(hm, .inr (4, [.int 0, .long sd, .int nw, .long z2587, .ref q1, .ref q2, .ref q3, .ref q4, .ref q5, .ref q6, .ref q7, .ref q8, .int (nI (n + 1)), .ref q9, .ref q10, .ref q11, .ref q12, .ref q13, .ref q14, .ref q15, .ref q16, .ref q17, .ref q18, .ref q19, .ref q20])), (q9, .inl ((ct 2), 40, .inl (upd a9 n 0))), (q10, .inl ((ct 0), 40, .inl (upd b0 n wy))), (q11, .inl ((ct 0), 40, .inl (upd b1 n (nI k)))), (q12, .inl ((ct 0), 40, .inl (upd b2 n 0))), (q13, .inl ((ct 0), 40, .inl (upd b3 n nw))), (q14, .inl ((ct 1), 40, .inr (.inl (vp_updL b4 n (lN (sc_n se)))))), (q15, .inl ((ct 1), 40, .inr (.inl (vp_updL b5 n pw)))), (q16, .inl ((ct 1), 40, .inr (.inl (vp_updL b6 n (lN (wd_n (nI k) pw)))))), (q17, .inl ((ct 1), 40, .inr (.inl (vp_updL b7 n (lN (pw_m 4 (sc_n se))))))), (q20, .inl ((ct 1), 40, .inr (.inl (vp_updL (vp_updL b10 n 0) n (lN (pw_m 4 (sc_n se)))))))] H := hP
            have hD : va_D A [(hm, .inr (4, [.int 0, .long sd, .int nw, .long z2587, .ref q1, .ref q2, .ref q3, .ref q4, .ref q5, .ref q6, .ref q7, .ref q8, .int (nI (n + 1)), .ref q9, .ref q10, .ref q11, .ref q12, .ref q13, .ref q14, .ref q15, .ref q16, .ref q17, .ref q18, .ref q19, .ref q20])), (q9, .inl ((ct 2), 40, .inl (upd a9 n 0))), (q10, .inl ((ct 0), 40, .inl (upd b0 n wy))), (q11, .inl ((ct 0), 40, .inl (upd b1 n (nI k)))), (q12, .inl ((ct 0), 40, .inl (upd b2 n 0))), (q13, .inl ((ct 0), 40, .inl (upd b3 n nw))), (q14, .inl ((ct 1), 40, .inr (.inl (vp_updL b4 n (lN (sc_n se)))))), (q15, .inl ((ct 1), 40, .inr (.inl (vp_updL b5 n pw)))), (q16, .inl ((ct 1), 40, .inr (.inl (vp_updL b6 n (lN (wd_n (nI k) pw)))))), (q17, .inl ((ct 1), 40, .inr (.inl (vp_updL b7 n (lN (pw_m 4 (sc_n se))))))), (q20, .inl ((ct 1), 40, .inr (.inl (vp_updL (vp_updL b10 n 0) n (lN (pw_m 4 (sc_n se)))))))] := hD
            refine lv_iload hx hb d_M_client_149 (lv_at hl 1 rfl) ?_
            exact W.iret (v := nI n) hx hb hr (fun t ht hW => ⟨⟨z2587, ⟨rfl, trivial⟩, by rw [ht]; exact hP, hD⟩, hS.F ht⟩) hS.2.2 d_M_client_151
          · exact absurd (h590.symm.trans hwy) (by decide)
        · exact absurd h585 (by decide)
      · exact absurd h584 (n40 hn)
    · exact absurd h583 (by decide)
set_option maxHeartbeats 4000000 in
set_option maxRecDepth 100000 in
theorem c_M_client0 (l : Launch) (G : va_G) (ct : Nat → ClassId) (sz : Nat) (hm : Nat) (th : Int32) (sd : Int64) (nw : Int32) (hh : Int64) (q1 : Nat) (q2 : Nat) (q3 : Nat) (q4 : Nat) (q5 : Nat) (q6 : Nat) (q7 : Nat) (q8 : Nat) (q9 : Nat) (q10 : Nat) (q11 : Nat) (q12 : Nat) (q13 : Nat) (q14 : Nat) (q15 : Nat) (q16 : Nat) (q17 : Nat) (q18 : Nat) (q19 : Nat) (q20 : Nat) (n : Nat) (ua : Int32) (wy : Int32) (pw : Int64) (se : Int64) (hno : ¬ (us_in ua ∧ wy_in wy)) : Met l my_M_client (tb_w my_M_client mb_M_client 10 (some .int)) ({ frames := 1, cells := 0, slots := 0, locals := 20 }) (wk_P [.ref hm, .int ua, .int wy, .long pw, .long se] G ct [(hm, .inr (4, [.int th, .long sd, .int nw, .long hh, .ref q1, .ref q2, .ref q3, .ref q4, .ref q5, .ref q6, .ref q7, .ref q8, .int (nI n), .ref q9, .ref q10, .ref q11, .ref q12, .ref q13, .ref q14, .ref q15, .ref q16, .ref q17, .ref q18, .ref q19, .ref q20]))] sz) (wk_Q (wk_oi (S := Unit) (fun _ => 0) (fun _ => True)) (fun _ : Unit => [(hm, .inr (4, [.int 1, .long sd, .int nw, .long hh, .ref q1, .ref q2, .ref q3, .ref q4, .ref q5, .ref q6, .ref q7, .ref q8, .int (nI n), .ref q9, .ref q10, .ref q11, .ref q12, .ref q13, .ref q14, .ref q15, .ref q16, .ref q17, .ref q18, .ref q19, .ref q20]))]) G (va_A [(hm, .inr (4, [.int th, .long sd, .int nw, .long hh, .ref q1, .ref q2, .ref q3, .ref q4, .ref q5, .ref q6, .ref q7, .ref q8, .int (nI n), .ref q9, .ref q10, .ref q11, .ref q12, .ref q13, .ref q14, .ref q15, .ref q16, .ref q17, .ref q18, .ref q19, .ref q20]))] sz)) 0 0 (va_A [(hm, .inr (4, [.int th, .long sd, .int nw, .long hh, .ref q1, .ref q2, .ref q3, .ref q4, .ref q5, .ref q6, .ref q7, .ref q8, .int (nI n), .ref q9, .ref q10, .ref q11, .ref q12, .ref q13, .ref q14, .ref q15, .ref q16, .ref q17, .ref q18, .ref q19, .ref q20]))] sz) := by
  refine Met.ofW (cc := mb_M_client) (maxL := 10) (ret := (some .int)) (by decide) rfl ?_
  intro p e s m args below meth c s₁ B hml hv
  obtain ⟨rfl, hsz, hP, hK, hD0⟩ := hv
  have hx := B.exec
  have hb := B.bytes
  have hr := B.returns
  have hts := atoms_spec (ws := tb_w my_M_client mb_M_client 10 (some .int)) B.pre
  have hw : ∀ w ∈ gt_tbl, w.before [.ref hm, .int ua, .int wy, .long pw, .long se].toArray s = true := fun w h => hts w (List.mem_cons_of_mem _ h)
  have hown : s.vm.findClass cr_M = some m.cls := findClass_of_methodNamed B.named
  have hlocks := B.notSynchronized
  subst hsz
  have hD := hD0.self (sz := s.heap.size)
  generalize hAe : va_A [(hm, .inr (4, [.int th, .long sd, .int nw, .long hh, .ref q1, .ref q2, .ref q3, .ref q4, .ref q5, .ref q6, .ref q7, .ref q8, .int (nI n), .ref q9, .ref q10, .ref q11, .ref q12, .ref q13, .ref q14, .ref q15, .ref q16, .ref q17, .ref q18, .ref q19, .ref q20]))] s.heap.size = A at hD ⊢
  have hA : ∀ q : Nat, s.heap.size ≤ q → A q := fun q h => by rw [← hAe]; exact Or.inr h
  have hS : va_S A s.heap s.heap [] := va_S.rf
  have hP : va_P G classes [(hm, .inr (4, [.int th, .long sd, .int nw, .long hh, .ref q1, .ref q2, .ref q3, .ref q4, .ref q5, .ref q6, .ref q7, .ref q8, .int (nI n), .ref q9, .ref q10, .ref q11, .ref q12, .ref q13, .ref q14, .ref q15, .ref q16, .ref q17, .ref q18, .ref q19, .ref q20]))] s.heap := hP
  have hl := lv_entry ([.ref hm, .int ua, .int wy, .long pw, .long se]) (n := 10) (Nat.le_of_ble_eq_true rfl)
  rw [lg_entry_eq]
  generalize (lg_sl ([.ref hm, .int ua, .int wy, .long pw, .long se]) ++ List.replicate (10 - (lg_sl ([.ref hm, .int ua, .int wy, .long pw, .long se])).length) Slot.unset).toArray = ls at hl ⊢
  have hl : lv_has ls 10 [(0, .ref hm), (1, .int ua), (2, .int wy), (3, .long pw), (5, .long se)] := hl
  refine lv_aload_n hx hb d_M_client_0 rfl (lv_at hl 0 rfl) ?_
  refine lv_iload_n hx hb d_M_client_1 rfl (lv_at hl 1 rfl) ?_
  refine vp_callSi (W.runS (As := [.int ua]) (rest := [.ref hm]) ⟨hx, hb, hml, hown, hts⟩ (c_M_isUser l ua) (tb_S hw cy_M_isUser ww_727 ww_728 rfl rfl ⟨Nat.le_of_ble_eq_true rfl, Nat.le_of_ble_eq_true rfl⟩) preEq rfl rfl hl.1 rfl (lv_room (Nat.le_of_ble_eq_true rfl)) d_M_client_2 ⟨Nat.le_of_ble_eq_true rfl, Nat.le_of_ble_eq_true rfl⟩) (fun r591 er591 => ?_)
  subst er591
  refine lv_if_eq (tgt := 15) hx hb d_M_client_5 (by decide) (fun h592 => ?_) (fun h592 => ?_)
  · refine lv_iconst (v := 1) hx hb d_M_client_15 (by decide) ?_
    refine lv_goto (tgt := 33) hx hb d_M_client_16 (by decide) ?_
    refine va_put (D := G) (ci := 4) (v := .int 1) (ty := .int) (C := cr_M) (T := cf_M) (N := 25) hx hb hw uw_M ct_M ct_M_ok ct_M_nm hown hK.1 hP hD hS 0 rfl rfl 0 (by decide) (hw _ ww_640) (fun _ h9 => h9) rfl (by decide +kernel) rfl rfl (Nat.le_of_ble_eq_true rfl) d_M_client_33 (fun H locs hP hD hS => ?_)
    have hP : va_P G classes [(hm, .inr (4, [.int 1, .long sd, .int nw, .long hh, .ref q1, .ref q2, .ref q3, .ref q4, .ref q5, .ref q6, .ref q7, .ref q8, .int (nI n), .ref q9, .ref q10, .ref q11, .ref q12, .ref q13, .ref q14, .ref q15, .ref q16, .ref q17, .ref q18, .ref q19, .ref q20]))] H := hP
    have hD : va_D A [(hm, .inr (4, [.int 1, .long sd, .int nw, .long hh, .ref q1, .ref q2, .ref q3, .ref q4, .ref q5, .ref q6, .ref q7, .ref q8, .int (nI n), .ref q9, .ref q10, .ref q11, .ref q12, .ref q13, .ref q14, .ref q15, .ref q16, .ref q17, .ref q18, .ref q19, .ref q20]))] := hD
    refine lv_aload_n hx hb d_M_client_36 rfl (lv_at hl 0 rfl) ?_
    refine va_get (D := G) (ci := 4) (v := .int 1) (C := cr_M) (T := cf_M) (N := 25) hx hb hw uw_M hown hK.1 hP 0 rfl rfl 0 (by decide) (hw _ ww_640) (fun _ h9 => h9) rfl d_M_client_37 ?_
    refine lv_if_le (tgt := 45) hx hb d_M_client_40 (by decide) (fun h593 => ?_) (fun h593 => ?_)
    · exact absurd h593 (by decide)
    · refine lv_iconst (v := 0) hx hb d_M_client_43 (by decide) ?_
      exact W.iret (v := 0) hx hb hr (fun t ht hW => ⟨⟨(), ⟨rfl, trivial⟩, by rw [ht]; exact hP, hD⟩, hS.F ht⟩) hS.2.2 d_M_client_44
  · refine lv_iload_n hx hb d_M_client_8 rfl (lv_at hl 2 rfl) ?_
    refine vp_callSi (W.runS (As := [.int wy]) (rest := [.ref hm]) ⟨hx, hb, hml, hown, hts⟩ (c_M_isWay l wy) (tb_S hw cy_M_isWay ww_730 ww_731 rfl rfl ⟨Nat.le_of_ble_eq_true rfl, Nat.le_of_ble_eq_true rfl⟩) preEq rfl rfl hl.1 rfl (lv_room (Nat.le_of_ble_eq_true rfl)) d_M_client_9 ⟨Nat.le_of_ble_eq_true rfl, Nat.le_of_ble_eq_true rfl⟩) (fun r594 er594 => ?_)
    subst er594
    refine lv_if_ne (tgt := 19) hx hb d_M_client_12 (by decide) (fun h595 => ?_) (fun h595 => ?_)
    · exact absurd ⟨bz_t h592, bz_t h595⟩ hno
    · refine lv_iconst (v := 1) hx hb d_M_client_15 (by decide) ?_
      refine lv_goto (tgt := 33) hx hb d_M_client_16 (by decide) ?_
      refine va_put (D := G) (ci := 4) (v := .int 1) (ty := .int) (C := cr_M) (T := cf_M) (N := 25) hx hb hw uw_M ct_M ct_M_ok ct_M_nm hown hK.1 hP hD hS 0 rfl rfl 0 (by decide) (hw _ ww_640) (fun _ h9 => h9) rfl (by decide +kernel) rfl rfl (Nat.le_of_ble_eq_true rfl) d_M_client_33 (fun H locs hP hD hS => ?_)
      have hP : va_P G classes [(hm, .inr (4, [.int 1, .long sd, .int nw, .long hh, .ref q1, .ref q2, .ref q3, .ref q4, .ref q5, .ref q6, .ref q7, .ref q8, .int (nI n), .ref q9, .ref q10, .ref q11, .ref q12, .ref q13, .ref q14, .ref q15, .ref q16, .ref q17, .ref q18, .ref q19, .ref q20]))] H := hP
      have hD : va_D A [(hm, .inr (4, [.int 1, .long sd, .int nw, .long hh, .ref q1, .ref q2, .ref q3, .ref q4, .ref q5, .ref q6, .ref q7, .ref q8, .int (nI n), .ref q9, .ref q10, .ref q11, .ref q12, .ref q13, .ref q14, .ref q15, .ref q16, .ref q17, .ref q18, .ref q19, .ref q20]))] := hD
      refine lv_aload_n hx hb d_M_client_36 rfl (lv_at hl 0 rfl) ?_
      refine va_get (D := G) (ci := 4) (v := .int 1) (C := cr_M) (T := cf_M) (N := 25) hx hb hw uw_M hown hK.1 hP 0 rfl rfl 0 (by decide) (hw _ ww_640) (fun _ h9 => h9) rfl d_M_client_37 ?_
      refine lv_if_le (tgt := 45) hx hb d_M_client_40 (by decide) (fun h596 => ?_) (fun h596 => ?_)
      · exact absurd h596 (by decide)
      · refine lv_iconst (v := 0) hx hb d_M_client_43 (by decide) ?_
        exact W.iret (v := 0) hx hb hr (fun t ht hW => ⟨⟨(), ⟨rfl, trivial⟩, by rw [ht]; exact hP, hD⟩, hS.F ht⟩) hS.2.2 d_M_client_44
set_option maxHeartbeats 4000000 in
set_option maxRecDepth 100000 in
theorem c_M_client2 (l : Launch) (G : va_G) (ct : Nat → ClassId) (sz : Nat) (hm : Nat) (th : Int32) (sd : Int64) (nw : Int32) (hh : Int64) (q1 : Nat) (q2 : Nat) (q3 : Nat) (q4 : Nat) (q5 : Nat) (q6 : Nat) (q7 : Nat) (q8 : Nat) (q9 : Nat) (q10 : Nat) (q11 : Nat) (q12 : Nat) (q13 : Nat) (q14 : Nat) (q15 : Nat) (q16 : Nat) (q17 : Nat) (q18 : Nat) (q19 : Nat) (q20 : Nat) (n : Nat) (ua : Int32) (wy : Int32) (pw : Int64) (se : Int64) (hui : us_in ua) (hwi : wy_in wy) (hn : nI n = 40) : Met l my_M_client (tb_w my_M_client mb_M_client 10 (some .int)) ({ frames := 1, cells := 0, slots := 0, locals := 20 }) (wk_P [.ref hm, .int ua, .int wy, .long pw, .long se] G ct [(hm, .inr (4, [.int th, .long sd, .int nw, .long hh, .ref q1, .ref q2, .ref q3, .ref q4, .ref q5, .ref q6, .ref q7, .ref q8, .int (nI n), .ref q9, .ref q10, .ref q11, .ref q12, .ref q13, .ref q14, .ref q15, .ref q16, .ref q17, .ref q18, .ref q19, .ref q20]))] sz) (wk_Q (wk_oi (S := Unit) (fun _ => 0) (fun _ => True)) (fun _ : Unit => [(hm, .inr (4, [.int 2, .long sd, .int nw, .long hh, .ref q1, .ref q2, .ref q3, .ref q4, .ref q5, .ref q6, .ref q7, .ref q8, .int (nI n), .ref q9, .ref q10, .ref q11, .ref q12, .ref q13, .ref q14, .ref q15, .ref q16, .ref q17, .ref q18, .ref q19, .ref q20]))]) G (va_A [(hm, .inr (4, [.int th, .long sd, .int nw, .long hh, .ref q1, .ref q2, .ref q3, .ref q4, .ref q5, .ref q6, .ref q7, .ref q8, .int (nI n), .ref q9, .ref q10, .ref q11, .ref q12, .ref q13, .ref q14, .ref q15, .ref q16, .ref q17, .ref q18, .ref q19, .ref q20]))] sz)) 0 0 (va_A [(hm, .inr (4, [.int th, .long sd, .int nw, .long hh, .ref q1, .ref q2, .ref q3, .ref q4, .ref q5, .ref q6, .ref q7, .ref q8, .int (nI n), .ref q9, .ref q10, .ref q11, .ref q12, .ref q13, .ref q14, .ref q15, .ref q16, .ref q17, .ref q18, .ref q19, .ref q20]))] sz) := by
  refine Met.ofW (cc := mb_M_client) (maxL := 10) (ret := (some .int)) (by decide) rfl ?_
  intro p e s m args below meth c s₁ B hml hv
  obtain ⟨rfl, hsz, hP, hK, hD0⟩ := hv
  have hx := B.exec
  have hb := B.bytes
  have hr := B.returns
  have hts := atoms_spec (ws := tb_w my_M_client mb_M_client 10 (some .int)) B.pre
  have hw : ∀ w ∈ gt_tbl, w.before [.ref hm, .int ua, .int wy, .long pw, .long se].toArray s = true := fun w h => hts w (List.mem_cons_of_mem _ h)
  have hown : s.vm.findClass cr_M = some m.cls := findClass_of_methodNamed B.named
  have hlocks := B.notSynchronized
  subst hsz
  have hD := hD0.self (sz := s.heap.size)
  generalize hAe : va_A [(hm, .inr (4, [.int th, .long sd, .int nw, .long hh, .ref q1, .ref q2, .ref q3, .ref q4, .ref q5, .ref q6, .ref q7, .ref q8, .int (nI n), .ref q9, .ref q10, .ref q11, .ref q12, .ref q13, .ref q14, .ref q15, .ref q16, .ref q17, .ref q18, .ref q19, .ref q20]))] s.heap.size = A at hD ⊢
  have hA : ∀ q : Nat, s.heap.size ≤ q → A q := fun q h => by rw [← hAe]; exact Or.inr h
  have hS : va_S A s.heap s.heap [] := va_S.rf
  have hP : va_P G classes [(hm, .inr (4, [.int th, .long sd, .int nw, .long hh, .ref q1, .ref q2, .ref q3, .ref q4, .ref q5, .ref q6, .ref q7, .ref q8, .int (nI n), .ref q9, .ref q10, .ref q11, .ref q12, .ref q13, .ref q14, .ref q15, .ref q16, .ref q17, .ref q18, .ref q19, .ref q20]))] s.heap := hP
  have hl := lv_entry ([.ref hm, .int ua, .int wy, .long pw, .long se]) (n := 10) (Nat.le_of_ble_eq_true rfl)
  rw [lg_entry_eq]
  generalize (lg_sl ([.ref hm, .int ua, .int wy, .long pw, .long se]) ++ List.replicate (10 - (lg_sl ([.ref hm, .int ua, .int wy, .long pw, .long se])).length) Slot.unset).toArray = ls at hl ⊢
  have hl : lv_has ls 10 [(0, .ref hm), (1, .int ua), (2, .int wy), (3, .long pw), (5, .long se)] := hl
  refine lv_aload_n hx hb d_M_client_0 rfl (lv_at hl 0 rfl) ?_
  refine lv_iload_n hx hb d_M_client_1 rfl (lv_at hl 1 rfl) ?_
  refine vp_callSi (W.runS (As := [.int ua]) (rest := [.ref hm]) ⟨hx, hb, hml, hown, hts⟩ (c_M_isUser l ua) (tb_S hw cy_M_isUser ww_727 ww_728 rfl rfl ⟨Nat.le_of_ble_eq_true rfl, Nat.le_of_ble_eq_true rfl⟩) preEq rfl rfl hl.1 rfl (lv_room (Nat.le_of_ble_eq_true rfl)) d_M_client_2 ⟨Nat.le_of_ble_eq_true rfl, Nat.le_of_ble_eq_true rfl⟩) (fun r597 er597 => ?_)
  subst er597
  refine tp_i (if_pos hui) ?_
  refine lv_if_eq (tgt := 15) hx hb d_M_client_5 (by decide) (fun h598 => ?_) (fun h598 => ?_)
  · exact absurd h598 (by decide)
  · refine lv_iload_n hx hb d_M_client_8 rfl (lv_at hl 2 rfl) ?_
    refine vp_callSi (W.runS (As := [.int wy]) (rest := [.ref hm]) ⟨hx, hb, hml, hown, hts⟩ (c_M_isWay l wy) (tb_S hw cy_M_isWay ww_730 ww_731 rfl rfl ⟨Nat.le_of_ble_eq_true rfl, Nat.le_of_ble_eq_true rfl⟩) preEq rfl rfl hl.1 rfl (lv_room (Nat.le_of_ble_eq_true rfl)) d_M_client_9 ⟨Nat.le_of_ble_eq_true rfl, Nat.le_of_ble_eq_true rfl⟩) (fun r599 er599 => ?_)
    subst er599
    refine tp_i (if_pos hwi) ?_
    refine lv_if_ne (tgt := 19) hx hb d_M_client_12 (by decide) (fun h600 => ?_) (fun h600 => ?_)
    · refine lv_aload_n hx hb d_M_client_19 rfl (lv_at hl 0 rfl) ?_
      refine va_get (D := G) (ci := 4) (v := .int (nI n)) (C := cr_M) (T := cf_M) (N := 25) hx hb hw uw_M hown hK.1 hP 0 rfl rfl 12 (by decide) (hw _ ww_652) (fun _ h9 => h9) rfl d_M_client_20 ?_
      refine lv_bipush (v := 40) hx hb d_M_client_23 (by decide) ?_
      refine lv_icmp_ne (tgt := 32) hx hb d_M_client_25 (by decide) (fun h601 => ?_) (fun h601 => ?_)
      · exact absurd hn h601
      · refine lv_iconst (v := 2) hx hb d_M_client_28 (by decide) ?_
        refine lv_goto (tgt := 33) hx hb d_M_client_29 (by decide) ?_
        refine va_put (D := G) (ci := 4) (v := .int 2) (ty := .int) (C := cr_M) (T := cf_M) (N := 25) hx hb hw uw_M ct_M ct_M_ok ct_M_nm hown hK.1 hP hD hS 0 rfl rfl 0 (by decide) (hw _ ww_640) (fun _ h9 => h9) rfl (by decide +kernel) rfl rfl (Nat.le_of_ble_eq_true rfl) d_M_client_33 (fun H locs hP hD hS => ?_)
        have hP : va_P G classes [(hm, .inr (4, [.int 2, .long sd, .int nw, .long hh, .ref q1, .ref q2, .ref q3, .ref q4, .ref q5, .ref q6, .ref q7, .ref q8, .int (nI n), .ref q9, .ref q10, .ref q11, .ref q12, .ref q13, .ref q14, .ref q15, .ref q16, .ref q17, .ref q18, .ref q19, .ref q20]))] H := hP
        have hD : va_D A [(hm, .inr (4, [.int 2, .long sd, .int nw, .long hh, .ref q1, .ref q2, .ref q3, .ref q4, .ref q5, .ref q6, .ref q7, .ref q8, .int (nI n), .ref q9, .ref q10, .ref q11, .ref q12, .ref q13, .ref q14, .ref q15, .ref q16, .ref q17, .ref q18, .ref q19, .ref q20]))] := hD
        refine lv_aload_n hx hb d_M_client_36 rfl (lv_at hl 0 rfl) ?_
        refine va_get (D := G) (ci := 4) (v := .int 2) (C := cr_M) (T := cf_M) (N := 25) hx hb hw uw_M hown hK.1 hP 0 rfl rfl 0 (by decide) (hw _ ww_640) (fun _ h9 => h9) rfl d_M_client_37 ?_
        refine lv_if_le (tgt := 45) hx hb d_M_client_40 (by decide) (fun h602 => ?_) (fun h602 => ?_)
        · exact absurd h602 (by decide)
        · refine lv_iconst (v := 0) hx hb d_M_client_43 (by decide) ?_
          exact W.iret (v := 0) hx hb hr (fun t ht hW => ⟨⟨(), ⟨rfl, trivial⟩, by rw [ht]; exact hP, hD⟩, hS.F ht⟩) hS.2.2 d_M_client_44
    · exact absurd h600 (by decide)
set_option maxHeartbeats 4000000 in
set_option maxRecDepth 100000 in
theorem c_M_server0 (l : Launch) (G : va_G) (ct : Nat → ClassId) (sz : Nat) (hm : Nat) (th : Int32) (sd : Int64) (nw : Int32) (hh : Int64) (q1 : Nat) (q2 : Nat) (q3 : Nat) (q4 : Nat) (q5 : Nat) (q6 : Nat) (q7 : Nat) (q8 : Nat) (q9 : Nat) (q10 : Nat) (q11 : Nat) (q12 : Nat) (q13 : Nat) (q14 : Nat) (q15 : Nat) (q16 : Nat) (q17 : Nat) (q18 : Nat) (q19 : Nat) (q20 : Nat) (n : Nat) (ua : Int32) (wy : Int32) (se : Int64) (hno : ¬ (us_in ua ∧ wy_in wy)) : Met l my_M_server (tb_w my_M_server mb_M_server 7 (some .int)) ({ frames := 1, cells := 0, slots := 0, locals := 20 }) (wk_P [.ref hm, .int ua, .int wy, .long se] G ct [(hm, .inr (4, [.int th, .long sd, .int nw, .long hh, .ref q1, .ref q2, .ref q3, .ref q4, .ref q5, .ref q6, .ref q7, .ref q8, .int (nI n), .ref q9, .ref q10, .ref q11, .ref q12, .ref q13, .ref q14, .ref q15, .ref q16, .ref q17, .ref q18, .ref q19, .ref q20]))] sz) (wk_Q (wk_oi (S := Unit) (fun _ => 0) (fun _ => True)) (fun _ : Unit => [(hm, .inr (4, [.int 1, .long sd, .int nw, .long hh, .ref q1, .ref q2, .ref q3, .ref q4, .ref q5, .ref q6, .ref q7, .ref q8, .int (nI n), .ref q9, .ref q10, .ref q11, .ref q12, .ref q13, .ref q14, .ref q15, .ref q16, .ref q17, .ref q18, .ref q19, .ref q20]))]) G (va_A [(hm, .inr (4, [.int th, .long sd, .int nw, .long hh, .ref q1, .ref q2, .ref q3, .ref q4, .ref q5, .ref q6, .ref q7, .ref q8, .int (nI n), .ref q9, .ref q10, .ref q11, .ref q12, .ref q13, .ref q14, .ref q15, .ref q16, .ref q17, .ref q18, .ref q19, .ref q20]))] sz)) 0 0 (va_A [(hm, .inr (4, [.int th, .long sd, .int nw, .long hh, .ref q1, .ref q2, .ref q3, .ref q4, .ref q5, .ref q6, .ref q7, .ref q8, .int (nI n), .ref q9, .ref q10, .ref q11, .ref q12, .ref q13, .ref q14, .ref q15, .ref q16, .ref q17, .ref q18, .ref q19, .ref q20]))] sz) := by
  refine Met.ofW (cc := mb_M_server) (maxL := 7) (ret := (some .int)) (by decide) rfl ?_
  intro p e s m args below meth c s₁ B hml hv
  obtain ⟨rfl, hsz, hP, hK, hD0⟩ := hv
  have hx := B.exec
  have hb := B.bytes
  have hr := B.returns
  have hts := atoms_spec (ws := tb_w my_M_server mb_M_server 7 (some .int)) B.pre
  have hw : ∀ w ∈ gt_tbl, w.before [.ref hm, .int ua, .int wy, .long se].toArray s = true := fun w h => hts w (List.mem_cons_of_mem _ h)
  have hown : s.vm.findClass cr_M = some m.cls := findClass_of_methodNamed B.named
  have hlocks := B.notSynchronized
  subst hsz
  have hD := hD0.self (sz := s.heap.size)
  generalize hAe : va_A [(hm, .inr (4, [.int th, .long sd, .int nw, .long hh, .ref q1, .ref q2, .ref q3, .ref q4, .ref q5, .ref q6, .ref q7, .ref q8, .int (nI n), .ref q9, .ref q10, .ref q11, .ref q12, .ref q13, .ref q14, .ref q15, .ref q16, .ref q17, .ref q18, .ref q19, .ref q20]))] s.heap.size = A at hD ⊢
  have hA : ∀ q : Nat, s.heap.size ≤ q → A q := fun q h => by rw [← hAe]; exact Or.inr h
  have hS : va_S A s.heap s.heap [] := va_S.rf
  have hP : va_P G classes [(hm, .inr (4, [.int th, .long sd, .int nw, .long hh, .ref q1, .ref q2, .ref q3, .ref q4, .ref q5, .ref q6, .ref q7, .ref q8, .int (nI n), .ref q9, .ref q10, .ref q11, .ref q12, .ref q13, .ref q14, .ref q15, .ref q16, .ref q17, .ref q18, .ref q19, .ref q20]))] s.heap := hP
  have hl := lv_entry ([.ref hm, .int ua, .int wy, .long se]) (n := 7) (Nat.le_of_ble_eq_true rfl)
  rw [lg_entry_eq]
  generalize (lg_sl ([.ref hm, .int ua, .int wy, .long se]) ++ List.replicate (7 - (lg_sl ([.ref hm, .int ua, .int wy, .long se])).length) Slot.unset).toArray = ls at hl ⊢
  have hl : lv_has ls 7 [(0, .ref hm), (1, .int ua), (2, .int wy), (3, .long se)] := hl
  refine lv_aload_n hx hb d_M_server_0 rfl (lv_at hl 0 rfl) ?_
  refine lv_iload_n hx hb d_M_server_1 rfl (lv_at hl 1 rfl) ?_
  refine vp_callSi (W.runS (As := [.int ua]) (rest := [.ref hm]) ⟨hx, hb, hml, hown, hts⟩ (c_M_isUser l ua) (tb_S hw cy_M_isUser ww_727 ww_728 rfl rfl ⟨Nat.le_of_ble_eq_true rfl, Nat.le_of_ble_eq_true rfl⟩) preEq rfl rfl hl.1 rfl (lv_room (Nat.le_of_ble_eq_true rfl)) d_M_server_2 ⟨Nat.le_of_ble_eq_true rfl, Nat.le_of_ble_eq_true rfl⟩) (fun r603 er603 => ?_)
  subst er603
  refine lv_if_eq (tgt := 15) hx hb d_M_server_5 (by decide) (fun h604 => ?_) (fun h604 => ?_)
  · refine lv_iconst (v := 1) hx hb d_M_server_15 (by decide) ?_
    refine lv_goto (tgt := 41) hx hb d_M_server_16 (by decide) ?_
    refine va_put (D := G) (ci := 4) (v := .int 1) (ty := .int) (C := cr_M) (T := cf_M) (N := 25) hx hb hw uw_M ct_M ct_M_ok ct_M_nm hown hK.1 hP hD hS 0 rfl rfl 0 (by decide) (hw _ ww_640) (fun _ h9 => h9) rfl (by decide +kernel) rfl rfl (Nat.le_of_ble_eq_true rfl) d_M_server_41 (fun H locs hP hD hS => ?_)
    have hP : va_P G classes [(hm, .inr (4, [.int 1, .long sd, .int nw, .long hh, .ref q1, .ref q2, .ref q3, .ref q4, .ref q5, .ref q6, .ref q7, .ref q8, .int (nI n), .ref q9, .ref q10, .ref q11, .ref q12, .ref q13, .ref q14, .ref q15, .ref q16, .ref q17, .ref q18, .ref q19, .ref q20]))] H := hP
    have hD : va_D A [(hm, .inr (4, [.int 1, .long sd, .int nw, .long hh, .ref q1, .ref q2, .ref q3, .ref q4, .ref q5, .ref q6, .ref q7, .ref q8, .int (nI n), .ref q9, .ref q10, .ref q11, .ref q12, .ref q13, .ref q14, .ref q15, .ref q16, .ref q17, .ref q18, .ref q19, .ref q20]))] := hD
    refine lv_aload_n hx hb d_M_server_44 rfl (lv_at hl 0 rfl) ?_
    refine va_get (D := G) (ci := 4) (v := .int 1) (C := cr_M) (T := cf_M) (N := 25) hx hb hw uw_M hown hK.1 hP 0 rfl rfl 0 (by decide) (hw _ ww_640) (fun _ h9 => h9) rfl d_M_server_45 ?_
    refine lv_if_le (tgt := 53) hx hb d_M_server_48 (by decide) (fun h605 => ?_) (fun h605 => ?_)
    · exact absurd h605 (by decide)
    · refine lv_iconst (v := 0) hx hb d_M_server_51 (by decide) ?_
      exact W.iret (v := 0) hx hb hr (fun t ht hW => ⟨⟨(), ⟨rfl, trivial⟩, by rw [ht]; exact hP, hD⟩, hS.F ht⟩) hS.2.2 d_M_server_52
  · refine lv_iload_n hx hb d_M_server_8 rfl (lv_at hl 2 rfl) ?_
    refine vp_callSi (W.runS (As := [.int wy]) (rest := [.ref hm]) ⟨hx, hb, hml, hown, hts⟩ (c_M_isWay l wy) (tb_S hw cy_M_isWay ww_730 ww_731 rfl rfl ⟨Nat.le_of_ble_eq_true rfl, Nat.le_of_ble_eq_true rfl⟩) preEq rfl rfl hl.1 rfl (lv_room (Nat.le_of_ble_eq_true rfl)) d_M_server_9 ⟨Nat.le_of_ble_eq_true rfl, Nat.le_of_ble_eq_true rfl⟩) (fun r606 er606 => ?_)
    subst er606
    refine lv_if_ne (tgt := 19) hx hb d_M_server_12 (by decide) (fun h607 => ?_) (fun h607 => ?_)
    · exact absurd ⟨bz_t h604, bz_t h607⟩ hno
    · refine lv_iconst (v := 1) hx hb d_M_server_15 (by decide) ?_
      refine lv_goto (tgt := 41) hx hb d_M_server_16 (by decide) ?_
      refine va_put (D := G) (ci := 4) (v := .int 1) (ty := .int) (C := cr_M) (T := cf_M) (N := 25) hx hb hw uw_M ct_M ct_M_ok ct_M_nm hown hK.1 hP hD hS 0 rfl rfl 0 (by decide) (hw _ ww_640) (fun _ h9 => h9) rfl (by decide +kernel) rfl rfl (Nat.le_of_ble_eq_true rfl) d_M_server_41 (fun H locs hP hD hS => ?_)
      have hP : va_P G classes [(hm, .inr (4, [.int 1, .long sd, .int nw, .long hh, .ref q1, .ref q2, .ref q3, .ref q4, .ref q5, .ref q6, .ref q7, .ref q8, .int (nI n), .ref q9, .ref q10, .ref q11, .ref q12, .ref q13, .ref q14, .ref q15, .ref q16, .ref q17, .ref q18, .ref q19, .ref q20]))] H := hP
      have hD : va_D A [(hm, .inr (4, [.int 1, .long sd, .int nw, .long hh, .ref q1, .ref q2, .ref q3, .ref q4, .ref q5, .ref q6, .ref q7, .ref q8, .int (nI n), .ref q9, .ref q10, .ref q11, .ref q12, .ref q13, .ref q14, .ref q15, .ref q16, .ref q17, .ref q18, .ref q19, .ref q20]))] := hD
      refine lv_aload_n hx hb d_M_server_44 rfl (lv_at hl 0 rfl) ?_
      refine va_get (D := G) (ci := 4) (v := .int 1) (C := cr_M) (T := cf_M) (N := 25) hx hb hw uw_M hown hK.1 hP 0 rfl rfl 0 (by decide) (hw _ ww_640) (fun _ h9 => h9) rfl d_M_server_45 ?_
      refine lv_if_le (tgt := 53) hx hb d_M_server_48 (by decide) (fun h608 => ?_) (fun h608 => ?_)
      · exact absurd h608 (by decide)
      · refine lv_iconst (v := 0) hx hb d_M_server_51 (by decide) ?_
        exact W.iret (v := 0) hx hb hr (fun t ht hW => ⟨⟨(), ⟨rfl, trivial⟩, by rw [ht]; exact hP, hD⟩, hS.F ht⟩) hS.2.2 d_M_server_52
set_option maxHeartbeats 4000000 in
set_option maxRecDepth 100000 in
theorem c_M_server2 (l : Launch) (G : va_G) (ct : Nat → ClassId) (sz : Nat) (hm : Nat) (th : Int32) (sd : Int64) (nw : Int32) (hh : Int64) (q1 : Nat) (q2 : Nat) (q3 : Nat) (q4 : Nat) (q5 : Nat) (q6 : Nat) (q7 : Nat) (q8 : Nat) (q9 : Nat) (q10 : Nat) (q11 : Nat) (q12 : Nat) (q13 : Nat) (q14 : Nat) (q15 : Nat) (q16 : Nat) (q17 : Nat) (q18 : Nat) (q19 : Nat) (q20 : Nat) (n : Nat) (ua : Int32) (wy : Int32) (se : Int64) (hui : us_in ua) (hwi : wy_in wy) (hn : nI n = 40) : Met l my_M_server (tb_w my_M_server mb_M_server 7 (some .int)) ({ frames := 1, cells := 0, slots := 0, locals := 20 }) (wk_P [.ref hm, .int ua, .int wy, .long se] G ct [(hm, .inr (4, [.int th, .long sd, .int nw, .long hh, .ref q1, .ref q2, .ref q3, .ref q4, .ref q5, .ref q6, .ref q7, .ref q8, .int (nI n), .ref q9, .ref q10, .ref q11, .ref q12, .ref q13, .ref q14, .ref q15, .ref q16, .ref q17, .ref q18, .ref q19, .ref q20]))] sz) (wk_Q (wk_oi (S := Unit) (fun _ => 0) (fun _ => True)) (fun _ : Unit => [(hm, .inr (4, [.int 2, .long sd, .int nw, .long hh, .ref q1, .ref q2, .ref q3, .ref q4, .ref q5, .ref q6, .ref q7, .ref q8, .int (nI n), .ref q9, .ref q10, .ref q11, .ref q12, .ref q13, .ref q14, .ref q15, .ref q16, .ref q17, .ref q18, .ref q19, .ref q20]))]) G (va_A [(hm, .inr (4, [.int th, .long sd, .int nw, .long hh, .ref q1, .ref q2, .ref q3, .ref q4, .ref q5, .ref q6, .ref q7, .ref q8, .int (nI n), .ref q9, .ref q10, .ref q11, .ref q12, .ref q13, .ref q14, .ref q15, .ref q16, .ref q17, .ref q18, .ref q19, .ref q20]))] sz)) 0 0 (va_A [(hm, .inr (4, [.int th, .long sd, .int nw, .long hh, .ref q1, .ref q2, .ref q3, .ref q4, .ref q5, .ref q6, .ref q7, .ref q8, .int (nI n), .ref q9, .ref q10, .ref q11, .ref q12, .ref q13, .ref q14, .ref q15, .ref q16, .ref q17, .ref q18, .ref q19, .ref q20]))] sz) := by
  refine Met.ofW (cc := mb_M_server) (maxL := 7) (ret := (some .int)) (by decide) rfl ?_
  intro p e s m args below meth c s₁ B hml hv
  obtain ⟨rfl, hsz, hP, hK, hD0⟩ := hv
  have hx := B.exec
  have hb := B.bytes
  have hr := B.returns
  have hts := atoms_spec (ws := tb_w my_M_server mb_M_server 7 (some .int)) B.pre
  have hw : ∀ w ∈ gt_tbl, w.before [.ref hm, .int ua, .int wy, .long se].toArray s = true := fun w h => hts w (List.mem_cons_of_mem _ h)
  have hown : s.vm.findClass cr_M = some m.cls := findClass_of_methodNamed B.named
  have hlocks := B.notSynchronized
  subst hsz
  have hD := hD0.self (sz := s.heap.size)
  generalize hAe : va_A [(hm, .inr (4, [.int th, .long sd, .int nw, .long hh, .ref q1, .ref q2, .ref q3, .ref q4, .ref q5, .ref q6, .ref q7, .ref q8, .int (nI n), .ref q9, .ref q10, .ref q11, .ref q12, .ref q13, .ref q14, .ref q15, .ref q16, .ref q17, .ref q18, .ref q19, .ref q20]))] s.heap.size = A at hD ⊢
  have hA : ∀ q : Nat, s.heap.size ≤ q → A q := fun q h => by rw [← hAe]; exact Or.inr h
  have hS : va_S A s.heap s.heap [] := va_S.rf
  have hP : va_P G classes [(hm, .inr (4, [.int th, .long sd, .int nw, .long hh, .ref q1, .ref q2, .ref q3, .ref q4, .ref q5, .ref q6, .ref q7, .ref q8, .int (nI n), .ref q9, .ref q10, .ref q11, .ref q12, .ref q13, .ref q14, .ref q15, .ref q16, .ref q17, .ref q18, .ref q19, .ref q20]))] s.heap := hP
  have hl := lv_entry ([.ref hm, .int ua, .int wy, .long se]) (n := 7) (Nat.le_of_ble_eq_true rfl)
  rw [lg_entry_eq]
  generalize (lg_sl ([.ref hm, .int ua, .int wy, .long se]) ++ List.replicate (7 - (lg_sl ([.ref hm, .int ua, .int wy, .long se])).length) Slot.unset).toArray = ls at hl ⊢
  have hl : lv_has ls 7 [(0, .ref hm), (1, .int ua), (2, .int wy), (3, .long se)] := hl
  refine lv_aload_n hx hb d_M_server_0 rfl (lv_at hl 0 rfl) ?_
  refine lv_iload_n hx hb d_M_server_1 rfl (lv_at hl 1 rfl) ?_
  refine vp_callSi (W.runS (As := [.int ua]) (rest := [.ref hm]) ⟨hx, hb, hml, hown, hts⟩ (c_M_isUser l ua) (tb_S hw cy_M_isUser ww_727 ww_728 rfl rfl ⟨Nat.le_of_ble_eq_true rfl, Nat.le_of_ble_eq_true rfl⟩) preEq rfl rfl hl.1 rfl (lv_room (Nat.le_of_ble_eq_true rfl)) d_M_server_2 ⟨Nat.le_of_ble_eq_true rfl, Nat.le_of_ble_eq_true rfl⟩) (fun r609 er609 => ?_)
  subst er609
  refine tp_i (if_pos hui) ?_
  refine lv_if_eq (tgt := 15) hx hb d_M_server_5 (by decide) (fun h610 => ?_) (fun h610 => ?_)
  · exact absurd h610 (by decide)
  · refine lv_iload_n hx hb d_M_server_8 rfl (lv_at hl 2 rfl) ?_
    refine vp_callSi (W.runS (As := [.int wy]) (rest := [.ref hm]) ⟨hx, hb, hml, hown, hts⟩ (c_M_isWay l wy) (tb_S hw cy_M_isWay ww_730 ww_731 rfl rfl ⟨Nat.le_of_ble_eq_true rfl, Nat.le_of_ble_eq_true rfl⟩) preEq rfl rfl hl.1 rfl (lv_room (Nat.le_of_ble_eq_true rfl)) d_M_server_9 ⟨Nat.le_of_ble_eq_true rfl, Nat.le_of_ble_eq_true rfl⟩) (fun r611 er611 => ?_)
    subst er611
    refine tp_i (if_pos hwi) ?_
    refine lv_if_ne (tgt := 19) hx hb d_M_server_12 (by decide) (fun h612 => ?_) (fun h612 => ?_)
    · refine lv_aload_n hx hb d_M_server_19 rfl (lv_at hl 0 rfl) ?_
      refine va_get (D := G) (ci := 4) (v := .int (nI n)) (C := cr_M) (T := cf_M) (N := 25) hx hb hw uw_M hown hK.1 hP 0 rfl rfl 12 (by decide) (hw _ ww_652) (fun _ h9 => h9) rfl d_M_server_20 ?_
      refine lv_bipush (v := 40) hx hb d_M_server_23 (by decide) ?_
      refine lv_icmp_eq (tgt := 36) hx hb d_M_server_25 (by decide) (fun h613 => ?_) (fun h613 => ?_)
      · refine lv_iconst (v := 2) hx hb d_M_server_36 (by decide) ?_
        refine lv_goto (tgt := 41) hx hb d_M_server_37 (by decide) ?_
        refine va_put (D := G) (ci := 4) (v := .int 2) (ty := .int) (C := cr_M) (T := cf_M) (N := 25) hx hb hw uw_M ct_M ct_M_ok ct_M_nm hown hK.1 hP hD hS 0 rfl rfl 0 (by decide) (hw _ ww_640) (fun _ h9 => h9) rfl (by decide +kernel) rfl rfl (Nat.le_of_ble_eq_true rfl) d_M_server_41 (fun H locs hP hD hS => ?_)
        have hP : va_P G classes [(hm, .inr (4, [.int 2, .long sd, .int nw, .long hh, .ref q1, .ref q2, .ref q3, .ref q4, .ref q5, .ref q6, .ref q7, .ref q8, .int (nI n), .ref q9, .ref q10, .ref q11, .ref q12, .ref q13, .ref q14, .ref q15, .ref q16, .ref q17, .ref q18, .ref q19, .ref q20]))] H := hP
        have hD : va_D A [(hm, .inr (4, [.int 2, .long sd, .int nw, .long hh, .ref q1, .ref q2, .ref q3, .ref q4, .ref q5, .ref q6, .ref q7, .ref q8, .int (nI n), .ref q9, .ref q10, .ref q11, .ref q12, .ref q13, .ref q14, .ref q15, .ref q16, .ref q17, .ref q18, .ref q19, .ref q20]))] := hD
        refine lv_aload_n hx hb d_M_server_44 rfl (lv_at hl 0 rfl) ?_
        refine va_get (D := G) (ci := 4) (v := .int 2) (C := cr_M) (T := cf_M) (N := 25) hx hb hw uw_M hown hK.1 hP 0 rfl rfl 0 (by decide) (hw _ ww_640) (fun _ h9 => h9) rfl d_M_server_45 ?_
        refine lv_if_le (tgt := 53) hx hb d_M_server_48 (by decide) (fun h614 => ?_) (fun h614 => ?_)
        · exact absurd h614 (by decide)
        · refine lv_iconst (v := 0) hx hb d_M_server_51 (by decide) ?_
          exact W.iret (v := 0) hx hb hr (fun t ht hW => ⟨⟨(), ⟨rfl, trivial⟩, by rw [ht]; exact hP, hD⟩, hS.F ht⟩) hS.2.2 d_M_server_52
      · exact absurd hn h613
    · exact absurd h612 (by decide)
set_option maxHeartbeats 4000000 in
set_option maxRecDepth 100000 in
theorem c_M_server3 (l : Launch) (G : va_G) (ct : Nat → ClassId) (sz : Nat) (hm : Nat) (th : Int32) (sd : Int64) (nw : Int32) (hh : Int64) (q1 : Nat) (q2 : Nat) (q3 : Nat) (q4 : Nat) (q5 : Nat) (q6 : Nat) (q7 : Nat) (q8 : Nat) (q9 : Nat) (q10 : Nat) (q11 : Nat) (q12 : Nat) (q13 : Nat) (q14 : Nat) (q15 : Nat) (q16 : Nat) (q17 : Nat) (q18 : Nat) (q19 : Nat) (q20 : Nat) (n : Nat) (a5 : Nat → Int32) (a8 : Nat → Int32) (k : Nat) (wy : Int32) (se : Int64) (hk : k < 8) (hwi : wy_in wy) (hn : n < 40) (hbl : sm_bl (a5 k) (a8 k) nw) : Met l my_M_server (tb_w my_M_server mb_M_server 7 (some .int)) ({ frames := 1, cells := 0, slots := 0, locals := 21 }) (wk_P [.ref hm, .int (nI k), .int wy, .long se] G ct [(hm, .inr (4, [.int th, .long sd, .int nw, .long hh, .ref q1, .ref q2, .ref q3, .ref q4, .ref q5, .ref q6, .ref q7, .ref q8, .int (nI n), .ref q9, .ref q10, .ref q11, .ref q12, .ref q13, .ref q14, .ref q15, .ref q16, .ref q17, .ref q18, .ref q19, .ref q20])), (q5, .inl ((ct 0), 8, .inl a5)), (q8, .inl ((ct 0), 8, .inl a8))] sz) (wk_Q (wk_oi (S := Unit) (fun _ => 0) (fun _ => True)) (fun _ : Unit => [(hm, .inr (4, [.int 2, .long sd, .int nw, .long hh, .ref q1, .ref q2, .ref q3, .ref q4, .ref q5, .ref q6, .ref q7, .ref q8, .int (nI n), .ref q9, .ref q10, .ref q11, .ref q12, .ref q13, .ref q14, .ref q15, .ref q16, .ref q17, .ref q18, .ref q19, .ref q20])), (q5, .inl ((ct 0), 8, .inl a5)), (q8, .inl ((ct 0), 8, .inl a8))]) G (va_A [(hm, .inr (4, [.int th, .long sd, .int nw, .long hh, .ref q1, .ref q2, .ref q3, .ref q4, .ref q5, .ref q6, .ref q7, .ref q8, .int (nI n), .ref q9, .ref q10, .ref q11, .ref q12, .ref q13, .ref q14, .ref q15, .ref q16, .ref q17, .ref q18, .ref q19, .ref q20])), (q5, .inl ((ct 0), 8, .inl a5)), (q8, .inl ((ct 0), 8, .inl a8))] sz)) 0 0 (va_A [(hm, .inr (4, [.int th, .long sd, .int nw, .long hh, .ref q1, .ref q2, .ref q3, .ref q4, .ref q5, .ref q6, .ref q7, .ref q8, .int (nI n), .ref q9, .ref q10, .ref q11, .ref q12, .ref q13, .ref q14, .ref q15, .ref q16, .ref q17, .ref q18, .ref q19, .ref q20])), (q5, .inl ((ct 0), 8, .inl a5)), (q8, .inl ((ct 0), 8, .inl a8))] sz) := by
  refine Met.ofW (cc := mb_M_server) (maxL := 7) (ret := (some .int)) (by decide) rfl ?_
  intro p e s m args below meth c s₁ B hml hv
  obtain ⟨rfl, hsz, hP, hK, hD0⟩ := hv
  have hx := B.exec
  have hb := B.bytes
  have hr := B.returns
  have hts := atoms_spec (ws := tb_w my_M_server mb_M_server 7 (some .int)) B.pre
  have hw : ∀ w ∈ gt_tbl, w.before [.ref hm, .int (nI k), .int wy, .long se].toArray s = true := fun w h => hts w (List.mem_cons_of_mem _ h)
  have hown : s.vm.findClass cr_M = some m.cls := findClass_of_methodNamed B.named
  have hlocks := B.notSynchronized
  subst hsz
  have hD := hD0.self (sz := s.heap.size)
  generalize hAe : va_A [(hm, .inr (4, [.int th, .long sd, .int nw, .long hh, .ref q1, .ref q2, .ref q3, .ref q4, .ref q5, .ref q6, .ref q7, .ref q8, .int (nI n), .ref q9, .ref q10, .ref q11, .ref q12, .ref q13, .ref q14, .ref q15, .ref q16, .ref q17, .ref q18, .ref q19, .ref q20])), (q5, .inl ((ct 0), 8, .inl a5)), (q8, .inl ((ct 0), 8, .inl a8))] s.heap.size = A at hD ⊢
  have hA : ∀ q : Nat, s.heap.size ≤ q → A q := fun q h => by rw [← hAe]; exact Or.inr h
  have hS : va_S A s.heap s.heap [] := va_S.rf
  have hP : va_P G classes [(hm, .inr (4, [.int th, .long sd, .int nw, .long hh, .ref q1, .ref q2, .ref q3, .ref q4, .ref q5, .ref q6, .ref q7, .ref q8, .int (nI n), .ref q9, .ref q10, .ref q11, .ref q12, .ref q13, .ref q14, .ref q15, .ref q16, .ref q17, .ref q18, .ref q19, .ref q20])), (q5, .inl ((ct 0), 8, .inl a5)), (q8, .inl ((ct 0), 8, .inl a8))] s.heap := hP
  have hl := lv_entry ([.ref hm, .int (nI k), .int wy, .long se]) (n := 7) (Nat.le_of_ble_eq_true rfl)
  rw [lg_entry_eq]
  generalize (lg_sl ([.ref hm, .int (nI k), .int wy, .long se]) ++ List.replicate (7 - (lg_sl ([.ref hm, .int (nI k), .int wy, .long se])).length) Slot.unset).toArray = ls at hl ⊢
  have hl : lv_has ls 7 [(0, .ref hm), (1, .int (nI k)), (2, .int wy), (3, .long se)] := hl
  refine lv_aload_n hx hb d_M_server_0 rfl (lv_at hl 0 rfl) ?_
  refine lv_iload_n hx hb d_M_server_1 rfl (lv_at hl 1 rfl) ?_
  refine vp_callSi (W.runS (As := [.int (nI k)]) (rest := [.ref hm]) ⟨hx, hb, hml, hown, hts⟩ (c_M_isUser l (nI k)) (tb_S hw cy_M_isUser ww_727 ww_728 rfl rfl ⟨Nat.le_of_ble_eq_true rfl, Nat.le_of_ble_eq_true rfl⟩) preEq rfl rfl hl.1 rfl (lv_room (Nat.le_of_ble_eq_true rfl)) d_M_server_2 ⟨Nat.le_of_ble_eq_true rfl, Nat.le_of_ble_eq_true rfl⟩) (fun r615 er615 => ?_)
  subst er615
  refine tp_i (if_pos (us_k hk)) ?_
  refine lv_if_eq (tgt := 15) hx hb d_M_server_5 (by decide) (fun h616 => ?_) (fun h616 => ?_)
  · exact absurd h616 (by decide)
  · refine lv_iload_n hx hb d_M_server_8 rfl (lv_at hl 2 rfl) ?_
    refine vp_callSi (W.runS (As := [.int wy]) (rest := [.ref hm]) ⟨hx, hb, hml, hown, hts⟩ (c_M_isWay l wy) (tb_S hw cy_M_isWay ww_730 ww_731 rfl rfl ⟨Nat.le_of_ble_eq_true rfl, Nat.le_of_ble_eq_true rfl⟩) preEq rfl rfl hl.1 rfl (lv_room (Nat.le_of_ble_eq_true rfl)) d_M_server_9 ⟨Nat.le_of_ble_eq_true rfl, Nat.le_of_ble_eq_true rfl⟩) (fun r617 er617 => ?_)
    subst er617
    refine tp_i (if_pos hwi) ?_
    refine lv_if_ne (tgt := 19) hx hb d_M_server_12 (by decide) (fun h618 => ?_) (fun h618 => ?_)
    · refine lv_aload_n hx hb d_M_server_19 rfl (lv_at hl 0 rfl) ?_
      refine va_get (D := G) (ci := 4) (v := .int (nI n)) (C := cr_M) (T := cf_M) (N := 25) hx hb hw uw_M hown hK.1 hP 0 rfl rfl 12 (by decide) (hw _ ww_652) (fun _ h9 => h9) rfl d_M_server_20 ?_
      refine lv_bipush (v := 40) hx hb d_M_server_23 (by decide) ?_
      refine lv_icmp_eq (tgt := 36) hx hb d_M_server_25 (by decide) (fun h619 => ?_) (fun h619 => ?_)
      · exact absurd h619 (n40 hn)
      · refine lv_aload_n hx hb d_M_server_28 rfl (lv_at hl 0 rfl) ?_
        refine lv_iload_n hx hb d_M_server_29 rfl (lv_at hl 1 rfl) ?_
        have hPc : va_P G classes [(hm, .inr (4, [.int th, .long sd, .int nw, .long hh, .ref q1, .ref q2, .ref q3, .ref q4, .ref q5, .ref q6, .ref q7, .ref q8, .int (nI n), .ref q9, .ref q10, .ref q11, .ref q12, .ref q13, .ref q14, .ref q15, .ref q16, .ref q17, .ref q18, .ref q19, .ref q20])), (q5, .inl ((ct 0), 8, .inl a5)), (q8, .inl ((ct 0), 8, .inl a8))] s.heap := hP.sub [0, 1, 2] rfl
        have hDc := hD.sub (ws' := [(hm, .inr (4, [.int th, .long sd, .int nw, .long hh, .ref q1, .ref q2, .ref q3, .ref q4, .ref q5, .ref q6, .ref q7, .ref q8, .int (nI n), .ref q9, .ref q10, .ref q11, .ref q12, .ref q13, .ref q14, .ref q15, .ref q16, .ref q17, .ref q18, .ref q19, .ref q20])), (q5, .inl ((ct 0), 8, .inl a5)), (q8, .inl ((ct 0), 8, .inl a8))]) [0, 1, 2] (by decide) rfl
        refine vp_callSi (W.runV (As := [.int (nI k)]) (rest := [.ref hm]) ⟨hx, hb, hml, hown, hts⟩ (c_M_isBlocked l G ct s.heap.size hm th sd nw hh q1 q2 q3 q4 q5 q6 q7 q8 q9 q10 q11 q12 q13 q14 q15 q16 q17 q18 q19 q20 n a5 a8 k (by first | assumption | exact m63 (by first | assumption | exact qs_P (by assumption)) | decide | exact pw_lt _ _ | exact Nat.mod_lt _ pq_pos | exact sc_lt _ | exact sc_pos _ | exact m63 (by first | assumption | exact pw_lt _ _ | exact Nat.mod_lt _ pq_pos | exact qs_P (by first | assumption | exact sc_lt _ | exact qz_Q _)) | exact up_se _ _ _ | exact ul_se _ _ _ | omega)) (tb_V hw cy_M_isBlocked ww_800 ww_802 wp_M_isBlocked rfl rfl ⟨Nat.le_of_ble_eq_true rfl, Nat.le_of_ble_eq_true rfl⟩) (wk_preV (ci := 4) (q0 := 0) hPc hK hDc rfl rfl) rfl rfl hl.1 rfl (lv_room (Nat.le_of_ble_eq_true rfl)) d_M_server_30 ⟨Nat.le_of_ble_eq_true rfl, Nat.le_of_ble_eq_true rfl⟩) (fun r620 er620 => ?_)
        subst er620
        refine tp_i (if_pos hbl) ?_
        refine lv_if_eq (tgt := 40) hx hb d_M_server_33 (by decide) (fun h621 => ?_) (fun h621 => ?_)
        · exact absurd h621 (by decide)
        · refine lv_iconst (v := 2) hx hb d_M_server_36 (by decide) ?_
          refine lv_goto (tgt := 41) hx hb d_M_server_37 (by decide) ?_
          refine va_put (D := G) (ci := 4) (v := .int 2) (ty := .int) (C := cr_M) (T := cf_M) (N := 25) hx hb hw uw_M ct_M ct_M_ok ct_M_nm hown hK.1 hP hD hS 0 rfl rfl 0 (by decide) (hw _ ww_640) (fun _ h9 => h9) rfl (by decide +kernel) rfl rfl (Nat.le_of_ble_eq_true rfl) d_M_server_41 (fun H locs hP hD hS => ?_)
          have hP : va_P G classes [(hm, .inr (4, [.int 2, .long sd, .int nw, .long hh, .ref q1, .ref q2, .ref q3, .ref q4, .ref q5, .ref q6, .ref q7, .ref q8, .int (nI n), .ref q9, .ref q10, .ref q11, .ref q12, .ref q13, .ref q14, .ref q15, .ref q16, .ref q17, .ref q18, .ref q19, .ref q20])), (q5, .inl ((ct 0), 8, .inl a5)), (q8, .inl ((ct 0), 8, .inl a8))] H := hP
          have hD : va_D A [(hm, .inr (4, [.int 2, .long sd, .int nw, .long hh, .ref q1, .ref q2, .ref q3, .ref q4, .ref q5, .ref q6, .ref q7, .ref q8, .int (nI n), .ref q9, .ref q10, .ref q11, .ref q12, .ref q13, .ref q14, .ref q15, .ref q16, .ref q17, .ref q18, .ref q19, .ref q20])), (q5, .inl ((ct 0), 8, .inl a5)), (q8, .inl ((ct 0), 8, .inl a8))] := hD
          refine lv_aload_n hx hb d_M_server_44 rfl (lv_at hl 0 rfl) ?_
          refine va_get (D := G) (ci := 4) (v := .int 2) (C := cr_M) (T := cf_M) (N := 25) hx hb hw uw_M hown hK.1 hP 0 rfl rfl 0 (by decide) (hw _ ww_640) (fun _ h9 => h9) rfl d_M_server_45 ?_
          refine lv_if_le (tgt := 53) hx hb d_M_server_48 (by decide) (fun h622 => ?_) (fun h622 => ?_)
          · exact absurd h622 (by decide)
          · refine lv_iconst (v := 0) hx hb d_M_server_51 (by decide) ?_
            exact W.iret (v := 0) hx hb hr (fun t ht hW => ⟨⟨(), ⟨rfl, trivial⟩, by rw [ht]; exact hP, hD⟩, hS.F ht⟩) hS.2.2 d_M_server_52
    · exact absurd h618 (by decide)
set_option maxHeartbeats 4000000 in
set_option maxRecDepth 100000 in
theorem c_M_server1W1 (l : Launch) (G : va_G) (ct : Nat → ClassId) (sz : Nat) (hm : Nat) (th : Int32) (sd : Int64) (nw : Int32) (hh : Int64) (q1 : Nat) (q2 : Nat) (q3 : Nat) (q4 : Nat) (q5 : Nat) (q6 : Nat) (q7 : Nat) (q8 : Nat) (q9 : Nat) (q10 : Nat) (q11 : Nat) (q12 : Nat) (q13 : Nat) (q14 : Nat) (q15 : Nat) (q16 : Nat) (q17 : Nat) (q18 : Nat) (q19 : Nat) (q20 : Nat) (n : Nat) (a1 : Nat → Int32) (a2 : Nat → Int64) (a4 : Nat → Int64) (a5 : Nat → Int32) (a8 : Nat → Int32) (a9 : Nat → Int32) (b0 : Nat → Int32) (b1 : Nat → Int32) (b2 : Nat → Int32) (b3 : Nat → Int32) (b4 : Nat → Int64) (b6 : Nat → Int64) (b10 : Nat → Int64) (k : Nat) (wy : Int32) (se : Int64) (hk : k < 8) (hn : n < 40) (hwy : wy = 0) (how : a1 k = wy) (hbl : ¬ sm_bl (a5 k) (a8 k) nw) : Met l my_M_server (tb_w my_M_server mb_M_server 7 (some .int)) ({ frames := 2, cells := 0, slots := 0, locals := 46 }) (wk_P [.ref hm, .int (nI k), .int wy, .long se] G ct [(hm, .inr (4, [.int th, .long sd, .int nw, .long hh, .ref q1, .ref q2, .ref q3, .ref q4, .ref q5, .ref q6, .ref q7, .ref q8, .int (nI n), .ref q9, .ref q10, .ref q11, .ref q12, .ref q13, .ref q14, .ref q15, .ref q16, .ref q17, .ref q18, .ref q19, .ref q20])), (q1, .inl ((ct 0), 8, .inl a1)), (q2, .inl ((ct 1), 8, .inr (.inl a2))), (q4, .inl ((ct 1), 8, .inr (.inl a4))), (q5, .inl ((ct 0), 8, .inl a5)), (q8, .inl ((ct 0), 8, .inl a8)), (q9, .inl ((ct 2), 40, .inl a9)), (q10, .inl ((ct 0), 40, .inl b0)), (q11, .inl ((ct 0), 40, .inl b1)), (q12, .inl ((ct 0), 40, .inl b2)), (q13, .inl ((ct 0), 40, .inl b3)), (q14, .inl ((ct 1), 40, .inr (.inl b4))), (q16, .inl ((ct 1), 40, .inr (.inl b6))), (q20, .inl ((ct 1), 40, .inr (.inl b10)))] sz) (wk_Q (wk_oi (S := Int64) (fun z2 => nI n) (fun _ => True)) (fun z2 : Int64 => [(hm, .inr (4, [.int 0, .long sd, .int nw, .long z2, .ref q1, .ref q2, .ref q3, .ref q4, .ref q5, .ref q6, .ref q7, .ref q8, .int (nI (n + 1)), .ref q9, .ref q10, .ref q11, .ref q12, .ref q13, .ref q14, .ref q15, .ref q16, .ref q17, .ref q18, .ref q19, .ref q20])), (q1, .inl ((ct 0), 8, .inl a1)), (q2, .inl ((ct 1), 8, .inr (.inl a2))), (q4, .inl ((ct 1), 8, .inr (.inl a4))), (q5, .inl ((ct 0), 8, .inl a5)), (q8, .inl ((ct 0), 8, .inl a8)), (q9, .inl ((ct 2), 40, .inl (upd a9 n 1))), (q10, .inl ((ct 0), 40, .inl (upd b0 n wy))), (q11, .inl ((ct 0), 40, .inl (upd b1 n (nI k)))), (q12, .inl ((ct 0), 40, .inl (upd b2 n 0))), (q13, .inl ((ct 0), 40, .inl (upd b3 n nw))), (q14, .inl ((ct 1), 40, .inr (.inl (vp_updL b4 n (lN (sc_n se)))))), (q16, .inl ((ct 1), 40, .inr (.inl (vp_updL b6 n (a2 k))))), (q20, .inl ((ct 1), 40, .inr (.inl (vp_updL b10 n 0))))]) G (va_A [(hm, .inr (4, [.int th, .long sd, .int nw, .long hh, .ref q1, .ref q2, .ref q3, .ref q4, .ref q5, .ref q6, .ref q7, .ref q8, .int (nI n), .ref q9, .ref q10, .ref q11, .ref q12, .ref q13, .ref q14, .ref q15, .ref q16, .ref q17, .ref q18, .ref q19, .ref q20])), (q1, .inl ((ct 0), 8, .inl a1)), (q2, .inl ((ct 1), 8, .inr (.inl a2))), (q4, .inl ((ct 1), 8, .inr (.inl a4))), (q5, .inl ((ct 0), 8, .inl a5)), (q8, .inl ((ct 0), 8, .inl a8)), (q9, .inl ((ct 2), 40, .inl a9)), (q10, .inl ((ct 0), 40, .inl b0)), (q11, .inl ((ct 0), 40, .inl b1)), (q12, .inl ((ct 0), 40, .inl b2)), (q13, .inl ((ct 0), 40, .inl b3)), (q14, .inl ((ct 1), 40, .inr (.inl b4))), (q16, .inl ((ct 1), 40, .inr (.inl b6))), (q20, .inl ((ct 1), 40, .inr (.inl b10)))] sz)) 0 0 (va_A [(hm, .inr (4, [.int th, .long sd, .int nw, .long hh, .ref q1, .ref q2, .ref q3, .ref q4, .ref q5, .ref q6, .ref q7, .ref q8, .int (nI n), .ref q9, .ref q10, .ref q11, .ref q12, .ref q13, .ref q14, .ref q15, .ref q16, .ref q17, .ref q18, .ref q19, .ref q20])), (q1, .inl ((ct 0), 8, .inl a1)), (q2, .inl ((ct 1), 8, .inr (.inl a2))), (q4, .inl ((ct 1), 8, .inr (.inl a4))), (q5, .inl ((ct 0), 8, .inl a5)), (q8, .inl ((ct 0), 8, .inl a8)), (q9, .inl ((ct 2), 40, .inl a9)), (q10, .inl ((ct 0), 40, .inl b0)), (q11, .inl ((ct 0), 40, .inl b1)), (q12, .inl ((ct 0), 40, .inl b2)), (q13, .inl ((ct 0), 40, .inl b3)), (q14, .inl ((ct 1), 40, .inr (.inl b4))), (q16, .inl ((ct 1), 40, .inr (.inl b6))), (q20, .inl ((ct 1), 40, .inr (.inl b10)))] sz) := by
  refine Met.ofW (cc := mb_M_server) (maxL := 7) (ret := (some .int)) (by decide) rfl ?_
  intro p e s m args below meth c s₁ B hml hv
  obtain ⟨rfl, hsz, hP, hK, hD0⟩ := hv
  have hx := B.exec
  have hb := B.bytes
  have hr := B.returns
  have hts := atoms_spec (ws := tb_w my_M_server mb_M_server 7 (some .int)) B.pre
  have hw : ∀ w ∈ gt_tbl, w.before [.ref hm, .int (nI k), .int wy, .long se].toArray s = true := fun w h => hts w (List.mem_cons_of_mem _ h)
  have hown : s.vm.findClass cr_M = some m.cls := findClass_of_methodNamed B.named
  have hlocks := B.notSynchronized
  subst hsz
  have hD := hD0.self (sz := s.heap.size)
  generalize hAe : va_A [(hm, .inr (4, [.int th, .long sd, .int nw, .long hh, .ref q1, .ref q2, .ref q3, .ref q4, .ref q5, .ref q6, .ref q7, .ref q8, .int (nI n), .ref q9, .ref q10, .ref q11, .ref q12, .ref q13, .ref q14, .ref q15, .ref q16, .ref q17, .ref q18, .ref q19, .ref q20])), (q1, .inl ((ct 0), 8, .inl a1)), (q2, .inl ((ct 1), 8, .inr (.inl a2))), (q4, .inl ((ct 1), 8, .inr (.inl a4))), (q5, .inl ((ct 0), 8, .inl a5)), (q8, .inl ((ct 0), 8, .inl a8)), (q9, .inl ((ct 2), 40, .inl a9)), (q10, .inl ((ct 0), 40, .inl b0)), (q11, .inl ((ct 0), 40, .inl b1)), (q12, .inl ((ct 0), 40, .inl b2)), (q13, .inl ((ct 0), 40, .inl b3)), (q14, .inl ((ct 1), 40, .inr (.inl b4))), (q16, .inl ((ct 1), 40, .inr (.inl b6))), (q20, .inl ((ct 1), 40, .inr (.inl b10)))] s.heap.size = A at hD ⊢
  have hA : ∀ q : Nat, s.heap.size ≤ q → A q := fun q h => by rw [← hAe]; exact Or.inr h
  have hS : va_S A s.heap s.heap [] := va_S.rf
  have hP : va_P G classes [(hm, .inr (4, [.int th, .long sd, .int nw, .long hh, .ref q1, .ref q2, .ref q3, .ref q4, .ref q5, .ref q6, .ref q7, .ref q8, .int (nI n), .ref q9, .ref q10, .ref q11, .ref q12, .ref q13, .ref q14, .ref q15, .ref q16, .ref q17, .ref q18, .ref q19, .ref q20])), (q1, .inl ((ct 0), 8, .inl a1)), (q2, .inl ((ct 1), 8, .inr (.inl a2))), (q4, .inl ((ct 1), 8, .inr (.inl a4))), (q5, .inl ((ct 0), 8, .inl a5)), (q8, .inl ((ct 0), 8, .inl a8)), (q9, .inl ((ct 2), 40, .inl a9)), (q10, .inl ((ct 0), 40, .inl b0)), (q11, .inl ((ct 0), 40, .inl b1)), (q12, .inl ((ct 0), 40, .inl b2)), (q13, .inl ((ct 0), 40, .inl b3)), (q14, .inl ((ct 1), 40, .inr (.inl b4))), (q16, .inl ((ct 1), 40, .inr (.inl b6))), (q20, .inl ((ct 1), 40, .inr (.inl b10)))] s.heap := hP
  have hl := lv_entry ([.ref hm, .int (nI k), .int wy, .long se]) (n := 7) (Nat.le_of_ble_eq_true rfl)
  rw [lg_entry_eq]
  generalize (lg_sl ([.ref hm, .int (nI k), .int wy, .long se]) ++ List.replicate (7 - (lg_sl ([.ref hm, .int (nI k), .int wy, .long se])).length) Slot.unset).toArray = ls at hl ⊢
  have hl : lv_has ls 7 [(0, .ref hm), (1, .int (nI k)), (2, .int wy), (3, .long se)] := hl
  have hwi : wy_in wy := Or.inl hwy
  refine lv_aload_n hx hb d_M_server_0 rfl (lv_at hl 0 rfl) ?_
  refine lv_iload_n hx hb d_M_server_1 rfl (lv_at hl 1 rfl) ?_
  refine vp_callSi (W.runS (As := [.int (nI k)]) (rest := [.ref hm]) ⟨hx, hb, hml, hown, hts⟩ (c_M_isUser l (nI k)) (tb_S hw cy_M_isUser ww_727 ww_728 rfl rfl ⟨Nat.le_of_ble_eq_true rfl, Nat.le_of_ble_eq_true rfl⟩) preEq rfl rfl hl.1 rfl (lv_room (Nat.le_of_ble_eq_true rfl)) d_M_server_2 ⟨Nat.le_of_ble_eq_true rfl, Nat.le_of_ble_eq_true rfl⟩) (fun r623 er623 => ?_)
  subst er623
  refine tp_i (if_pos (us_k hk)) ?_
  refine lv_if_eq (tgt := 15) hx hb d_M_server_5 (by decide) (fun h624 => ?_) (fun h624 => ?_)
  · exact absurd h624 (by decide)
  · refine lv_iload_n hx hb d_M_server_8 rfl (lv_at hl 2 rfl) ?_
    refine vp_callSi (W.runS (As := [.int wy]) (rest := [.ref hm]) ⟨hx, hb, hml, hown, hts⟩ (c_M_isWay l wy) (tb_S hw cy_M_isWay ww_730 ww_731 rfl rfl ⟨Nat.le_of_ble_eq_true rfl, Nat.le_of_ble_eq_true rfl⟩) preEq rfl rfl hl.1 rfl (lv_room (Nat.le_of_ble_eq_true rfl)) d_M_server_9 ⟨Nat.le_of_ble_eq_true rfl, Nat.le_of_ble_eq_true rfl⟩) (fun r625 er625 => ?_)
    subst er625
    refine tp_i (if_pos hwi) ?_
    refine lv_if_ne (tgt := 19) hx hb d_M_server_12 (by decide) (fun h626 => ?_) (fun h626 => ?_)
    · refine lv_aload_n hx hb d_M_server_19 rfl (lv_at hl 0 rfl) ?_
      refine va_get (D := G) (ci := 4) (v := .int (nI n)) (C := cr_M) (T := cf_M) (N := 25) hx hb hw uw_M hown hK.1 hP 0 rfl rfl 12 (by decide) (hw _ ww_652) (fun _ h9 => h9) rfl d_M_server_20 ?_
      refine lv_bipush (v := 40) hx hb d_M_server_23 (by decide) ?_
      refine lv_icmp_eq (tgt := 36) hx hb d_M_server_25 (by decide) (fun h627 => ?_) (fun h627 => ?_)
      · exact absurd h627 (n40 hn)
      · refine lv_aload_n hx hb d_M_server_28 rfl (lv_at hl 0 rfl) ?_
        refine lv_iload_n hx hb d_M_server_29 rfl (lv_at hl 1 rfl) ?_
        have hPc : va_P G classes [(hm, .inr (4, [.int th, .long sd, .int nw, .long hh, .ref q1, .ref q2, .ref q3, .ref q4, .ref q5, .ref q6, .ref q7, .ref q8, .int (nI n), .ref q9, .ref q10, .ref q11, .ref q12, .ref q13, .ref q14, .ref q15, .ref q16, .ref q17, .ref q18, .ref q19, .ref q20])), (q5, .inl ((ct 0), 8, .inl a5)), (q8, .inl ((ct 0), 8, .inl a8))] s.heap := hP.sub [0, 4, 5] rfl
        have hDc := hD.sub (ws' := [(hm, .inr (4, [.int th, .long sd, .int nw, .long hh, .ref q1, .ref q2, .ref q3, .ref q4, .ref q5, .ref q6, .ref q7, .ref q8, .int (nI n), .ref q9, .ref q10, .ref q11, .ref q12, .ref q13, .ref q14, .ref q15, .ref q16, .ref q17, .ref q18, .ref q19, .ref q20])), (q5, .inl ((ct 0), 8, .inl a5)), (q8, .inl ((ct 0), 8, .inl a8))]) [0, 4, 5] (by decide) rfl
        refine vp_callSi (W.runV (As := [.int (nI k)]) (rest := [.ref hm]) ⟨hx, hb, hml, hown, hts⟩ (c_M_isBlocked l G ct s.heap.size hm th sd nw hh q1 q2 q3 q4 q5 q6 q7 q8 q9 q10 q11 q12 q13 q14 q15 q16 q17 q18 q19 q20 n a5 a8 k (by first | assumption | exact m63 (by first | assumption | exact qs_P (by assumption)) | decide | exact pw_lt _ _ | exact Nat.mod_lt _ pq_pos | exact sc_lt _ | exact sc_pos _ | exact m63 (by first | assumption | exact pw_lt _ _ | exact Nat.mod_lt _ pq_pos | exact qs_P (by first | assumption | exact sc_lt _ | exact qz_Q _)) | exact up_se _ _ _ | exact ul_se _ _ _ | omega)) (tb_V hw cy_M_isBlocked ww_800 ww_802 wp_M_isBlocked rfl rfl ⟨Nat.le_of_ble_eq_true rfl, Nat.le_of_ble_eq_true rfl⟩) (wk_preV (ci := 4) (q0 := 0) hPc hK hDc rfl rfl) rfl rfl hl.1 rfl (lv_room (Nat.le_of_ble_eq_true rfl)) d_M_server_30 ⟨Nat.le_of_ble_eq_true rfl, Nat.le_of_ble_eq_true rfl⟩) (fun r628 er628 => ?_)
        subst er628
        refine tp_i (if_neg hbl) ?_
        refine lv_if_eq (tgt := 40) hx hb d_M_server_33 (by decide) (fun h629 => ?_) (fun h629 => ?_)
        · refine lv_iconst (v := 0) hx hb d_M_server_40 (by decide) ?_
          refine va_put (D := G) (ci := 4) (v := .int 0) (ty := .int) (C := cr_M) (T := cf_M) (N := 25) hx hb hw uw_M ct_M ct_M_ok ct_M_nm hown hK.1 hP hD hS 0 rfl rfl 0 (by decide) (hw _ ww_640) (fun _ h9 => h9) rfl (by decide +kernel) rfl rfl (Nat.le_of_ble_eq_true rfl) d_M_server_41 (fun H locs hP hD hS => ?_)
          have hP : va_P G classes [(hm, .inr (4, [.int 0, .long sd, .int nw, .long hh, .ref q1, .ref q2, .ref q3, .ref q4, .ref q5, .ref q6, .ref q7, .ref q8, .int (nI n), .ref q9, .ref q10, .ref q11, .ref q12, .ref q13, .ref q14, .ref q15, .ref q16, .ref q17, .ref q18, .ref q19, .ref q20])), (q1, .inl ((ct 0), 8, .inl a1)), (q2, .inl ((ct 1), 8, .inr (.inl a2))), (q4, .inl ((ct 1), 8, .inr (.inl a4))), (q5, .inl ((ct 0), 8, .inl a5)), (q8, .inl ((ct 0), 8, .inl a8)), (q9, .inl ((ct 2), 40, .inl a9)), (q10, .inl ((ct 0), 40, .inl b0)), (q11, .inl ((ct 0), 40, .inl b1)), (q12, .inl ((ct 0), 40, .inl b2)), (q13, .inl ((ct 0), 40, .inl b3)), (q14, .inl ((ct 1), 40, .inr (.inl b4))), (q16, .inl ((ct 1), 40, .inr (.inl b6))), (q20, .inl ((ct 1), 40, .inr (.inl b10)))] H := hP
          have hD : va_D A [(hm, .inr (4, [.int 0, .long sd, .int nw, .long hh, .ref q1, .ref q2, .ref q3, .ref q4, .ref q5, .ref q6, .ref q7, .ref q8, .int (nI n), .ref q9, .ref q10, .ref q11, .ref q12, .ref q13, .ref q14, .ref q15, .ref q16, .ref q17, .ref q18, .ref q19, .ref q20])), (q1, .inl ((ct 0), 8, .inl a1)), (q2, .inl ((ct 1), 8, .inr (.inl a2))), (q4, .inl ((ct 1), 8, .inr (.inl a4))), (q5, .inl ((ct 0), 8, .inl a5)), (q8, .inl ((ct 0), 8, .inl a8)), (q9, .inl ((ct 2), 40, .inl a9)), (q10, .inl ((ct 0), 40, .inl b0)), (q11, .inl ((ct 0), 40, .inl b1)), (q12, .inl ((ct 0), 40, .inl b2)), (q13, .inl ((ct 0), 40, .inl b3)), (q14, .inl ((ct 1), 40, .inr (.inl b4))), (q16, .inl ((ct 1), 40, .inr (.inl b6))), (q20, .inl ((ct 1), 40, .inr (.inl b10)))] := hD
          refine lv_aload_n hx hb d_M_server_44 rfl (lv_at hl 0 rfl) ?_
          refine va_get (D := G) (ci := 4) (v := .int 0) (C := cr_M) (T := cf_M) (N := 25) hx hb hw uw_M hown hK.1 hP 0 rfl rfl 0 (by decide) (hw _ ww_640) (fun _ h9 => h9) rfl d_M_server_45 ?_
          refine lv_if_le (tgt := 53) hx hb d_M_server_48 (by decide) (fun h630 => ?_) (fun h630 => ?_)
          · refine lv_aload_n hx hb d_M_server_53 rfl (lv_at hl 0 rfl) ?_
            refine lv_iload_n hx hb d_M_server_54 rfl (lv_at hl 1 rfl) ?_
            refine lv_iload_n hx hb d_M_server_55 rfl (lv_at hl 2 rfl) ?_
            refine lv_lload_n hx hb d_M_server_56 rfl (lv_at hl 3 rfl) ?_
            have hPc : va_P G classes [(hm, .inr (4, [.int 0, .long sd, .int nw, .long hh, .ref q1, .ref q2, .ref q3, .ref q4, .ref q5, .ref q6, .ref q7, .ref q8, .int (nI n), .ref q9, .ref q10, .ref q11, .ref q12, .ref q13, .ref q14, .ref q15, .ref q16, .ref q17, .ref q18, .ref q19, .ref q20])), (q10, .inl ((ct 0), 40, .inl b0)), (q11, .inl ((ct 0), 40, .inl b1)), (q12, .inl ((ct 0), 40, .inl b2)), (q13, .inl ((ct 0), 40, .inl b3)), (q14, .inl ((ct 1), 40, .inr (.inl b4))), (q20, .inl ((ct 1), 40, .inr (.inl b10)))] H := hP.sub [0, 7, 8, 9, 10, 11, 13] rfl
            have hDc := hD.sub (ws' := [(hm, .inr (4, [.int 0, .long sd, .int nw, .long hh, .ref q1, .ref q2, .ref q3, .ref q4, .ref q5, .ref q6, .ref q7, .ref q8, .int (nI n), .ref q9, .ref q10, .ref q11, .ref q12, .ref q13, .ref q14, .ref q15, .ref q16, .ref q17, .ref q18, .ref q19, .ref q20])), (q10, .inl ((ct 0), 40, .inl b0)), (q11, .inl ((ct 0), 40, .inl b1)), (q12, .inl ((ct 0), 40, .inl b2)), (q13, .inl ((ct 0), 40, .inl b3)), (q14, .inl ((ct 1), 40, .inr (.inl b4))), (q20, .inl ((ct 1), 40, .inr (.inl b10)))]) [0, 7, 8, 9, 10, 11, 13] (by decide) rfl
            refine wk_i (va_runV (As := [.int (nI k), .int wy, .long se]) (rest := []) ⟨hx, hb, hml, hown, hts⟩ (c_M_open l G ct H.size hm 0 sd nw hh q1 q2 q3 q4 q5 q6 q7 q8 q9 q10 q11 q12 q13 q14 q15 q16 q17 q18 q19 q20 n b0 b1 b2 b3 b4 b10 (nI k) wy se (by first | assumption | exact m63 (by first | assumption | exact qs_P (by assumption)) | decide | exact pw_lt _ _ | exact Nat.mod_lt _ pq_pos | exact sc_lt _ | exact sc_pos _ | exact m63 (by first | assumption | exact pw_lt _ _ | exact Nat.mod_lt _ pq_pos | exact qs_P (by first | assumption | exact sc_lt _ | exact qz_Q _)) | exact up_se _ _ _ | exact ul_se _ _ _ | omega)) (tb_V hw cy_M_open ww_791 ww_793 wp_M_open rfl rfl ⟨Nat.le_of_ble_eq_true rfl, Nat.le_of_ble_eq_true rfl⟩) (wk_preV (ci := 4) (q0 := 0) hPc hK hDc rfl rfl) rfl rfl hl.1 rfl (lv_room (Nat.le_of_ble_eq_true rfl)) d_M_server_57 ⟨Nat.le_of_ble_eq_true rfl, Nat.le_of_ble_eq_true rfl⟩) hP hD hS hA [0, 7, 8, 9, 10, 11, 13] (by decide) rfl (fun _ => by simp only [List.map_cons, List.map_nil]) (fun _ H locs ok631 hP hD hS => ?_)
            have hP : va_P G classes [(hm, .inr (4, [.int 0, .long sd, .int nw, .long hh, .ref q1, .ref q2, .ref q3, .ref q4, .ref q5, .ref q6, .ref q7, .ref q8, .int (nI (n + 1)), .ref q9, .ref q10, .ref q11, .ref q12, .ref q13, .ref q14, .ref q15, .ref q16, .ref q17, .ref q18, .ref q19, .ref q20])), (q1, .inl ((ct 0), 8, .inl a1)), (q2, .inl ((ct 1), 8, .inr (.inl a2))), (q4, .inl ((ct 1), 8, .inr (.inl a4))), (q5, .inl ((ct 0), 8, .inl a5)), (q8, .inl ((ct 0), 8, .inl a8)), (q9, .inl ((ct 2), 40, .inl a9)), (q10, .inl ((ct 0), 40, .inl (upd b0 n wy))), (q11, .inl ((ct 0), 40, .inl (upd b1 n (nI k)))), (q12, .inl ((ct 0), 40, .inl (upd b2 n 0))), (q13, .inl ((ct 0), 40, .inl (upd b3 n nw))), (q14, .inl ((ct 1), 40, .inr (.inl (vp_updL b4 n (lN (sc_n se)))))), (q16, .inl ((ct 1), 40, .inr (.inl b6))), (q20, .inl ((ct 1), 40, .inr (.inl (vp_updL b10 n 0))))] H := hP
            have hD : va_D A [(hm, .inr (4, [.int 0, .long sd, .int nw, .long hh, .ref q1, .ref q2, .ref q3, .ref q4, .ref q5, .ref q6, .ref q7, .ref q8, .int (nI (n + 1)), .ref q9, .ref q10, .ref q11, .ref q12, .ref q13, .ref q14, .ref q15, .ref q16, .ref q17, .ref q18, .ref q19, .ref q20])), (q1, .inl ((ct 0), 8, .inl a1)), (q2, .inl ((ct 1), 8, .inr (.inl a2))), (q4, .inl ((ct 1), 8, .inr (.inl a4))), (q5, .inl ((ct 0), 8, .inl a5)), (q8, .inl ((ct 0), 8, .inl a8)), (q9, .inl ((ct 2), 40, .inl a9)), (q10, .inl ((ct 0), 40, .inl (upd b0 n wy))), (q11, .inl ((ct 0), 40, .inl (upd b1 n (nI k)))), (q12, .inl ((ct 0), 40, .inl (upd b2 n 0))), (q13, .inl ((ct 0), 40, .inl (upd b3 n nw))), (q14, .inl ((ct 1), 40, .inr (.inl (vp_updL b4 n (lN (sc_n se)))))), (q16, .inl ((ct 1), 40, .inr (.inl b6))), (q20, .inl ((ct 1), 40, .inr (.inl (vp_updL b10 n 0))))] := hD
            refine lv_istore (lv' := [(5, .int (nI n)), (0, .ref hm), (1, .int (nI k)), (2, .int wy), (3, .long se)]) hx hb d_M_server_60 hl (Nat.le_of_ble_eq_true rfl) rfl (fun ls hl => ?_)
            refine lv_aload_n hx hb d_M_server_62 rfl (lv_at hl 1 rfl) ?_
            refine va_get (D := G) (ci := 4) (v := .ref q9) (C := cr_M) (T := cf_M) (N := 25) hx hb hw uw_M hown hK.1 hP 0 rfl rfl 13 (by decide) (hw _ ww_653) (fun _ h9 => h9) rfl d_M_server_63 ?_
            refine lv_iload hx hb d_M_server_66 (lv_at hl 0 rfl) ?_
            refine lv_iconst (v := 1) hx hb d_M_server_68 (by decide) ?_
            refine ra_zs hx hb hK.1 hP hD hS 6 2 rfl rfl (k := n) (by omega) (by decide) rfl d_M_server_69 (fun H locs hP hD hS => ?_)
            have hP : va_P G classes [(hm, .inr (4, [.int 0, .long sd, .int nw, .long hh, .ref q1, .ref q2, .ref q3, .ref q4, .ref q5, .ref q6, .ref q7, .ref q8, .int (nI (n + 1)), .ref q9, .ref q10, .ref q11, .ref q12, .ref q13, .ref q14, .ref q15, .ref q16, .ref q17, .ref q18, .ref q19, .ref q20])), (q1, .inl ((ct 0), 8, .inl a1)), (q2, .inl ((ct 1), 8, .inr (.inl a2))), (q4, .inl ((ct 1), 8, .inr (.inl a4))), (q5, .inl ((ct 0), 8, .inl a5)), (q8, .inl ((ct 0), 8, .inl a8)), (q9, .inl ((ct 2), 40, .inl (upd a9 n 1))), (q10, .inl ((ct 0), 40, .inl (upd b0 n wy))), (q11, .inl ((ct 0), 40, .inl (upd b1 n (nI k)))), (q12, .inl ((ct 0), 40, .inl (upd b2 n 0))), (q13, .inl ((ct 0), 40, .inl (upd b3 n nw))), (q14, .inl ((ct 1), 40, .inr (.inl (vp_updL b4 n (lN (sc_n se)))))), (q16, .inl ((ct 1), 40, .inr (.inl b6))), (q20, .inl ((ct 1), 40, .inr (.inl (vp_updL b10 n 0))))] H := hP
            have hD : va_D A [(hm, .inr (4, [.int 0, .long sd, .int nw, .long hh, .ref q1, .ref q2, .ref q3, .ref q4, .ref q5, .ref q6, .ref q7, .ref q8, .int (nI (n + 1)), .ref q9, .ref q10, .ref q11, .ref q12, .ref q13, .ref q14, .ref q15, .ref q16, .ref q17, .ref q18, .ref q19, .ref q20])), (q1, .inl ((ct 0), 8, .inl a1)), (q2, .inl ((ct 1), 8, .inr (.inl a2))), (q4, .inl ((ct 1), 8, .inr (.inl a4))), (q5, .inl ((ct 0), 8, .inl a5)), (q8, .inl ((ct 0), 8, .inl a8)), (q9, .inl ((ct 2), 40, .inl (upd a9 n 1))), (q10, .inl ((ct 0), 40, .inl (upd b0 n wy))), (q11, .inl ((ct 0), 40, .inl (upd b1 n (nI k)))), (q12, .inl ((ct 0), 40, .inl (upd b2 n 0))), (q13, .inl ((ct 0), 40, .inl (upd b3 n nw))), (q14, .inl ((ct 1), 40, .inr (.inl (vp_updL b4 n (lN (sc_n se)))))), (q16, .inl ((ct 1), 40, .inr (.inl b6))), (q20, .inl ((ct 1), 40, .inr (.inl (vp_updL b10 n 0))))] := hD
            refine lv_aload_n hx hb d_M_server_70 rfl (lv_at hl 1 rfl) ?_
            refine va_get (D := G) (ci := 4) (v := .ref q1) (C := cr_M) (T := cf_M) (N := 25) hx hb hw uw_M hown hK.1 hP 0 rfl rfl 4 (by decide) (hw _ ww_644) (fun _ h9 => h9) rfl d_M_server_71 ?_
            refine lv_iload_n hx hb d_M_server_74 rfl (lv_at hl 2 rfl) ?_
            refine ra_il hx hb hK.1 hP 1 0 rfl rfl (k := k) (by omega) (by decide) d_M_server_75 ?_
            refine lv_iload_n hx hb d_M_server_76 rfl (lv_at hl 3 rfl) ?_
            refine lv_icmp_ne (tgt := 84) hx hb d_M_server_77 (by decide) (fun h632 => ?_) (fun h632 => ?_)
            · exact absurd how h632
            · refine lv_iconst (v := 1) hx hb d_M_server_80 (by decide) ?_
              refine lv_goto (tgt := 85) hx hb d_M_server_81 (by decide) ?_
              refine lv_istore (lv' := [(6, .int 1), (5, .int (nI n)), (0, .ref hm), (1, .int (nI k)), (2, .int wy), (3, .long se)]) hx hb d_M_server_85 hl (Nat.le_of_ble_eq_true rfl) rfl (fun ls hl => ?_)
              refine lv_iload_n hx hb d_M_server_87 rfl (lv_at hl 4 rfl) ?_
              refine lv_if_ne (tgt := 124) hx hb d_M_server_88 (by decide) (fun h633 => ?_) (fun h633 => ?_)
              · exact absurd hwy h633
              · refine lv_aload_n hx hb d_M_server_91 rfl (lv_at hl 2 rfl) ?_
                refine va_get (D := G) (ci := 4) (v := .ref q16) (C := cr_M) (T := cf_M) (N := 25) hx hb hw uw_M hown hK.1 hP 0 rfl rfl 20 (by decide) (hw _ ww_660) (fun _ h9 => h9) rfl d_M_server_92 ?_
                refine lv_iload hx hb d_M_server_95 (lv_at hl 1 rfl) ?_
                refine lv_iload hx hb d_M_server_97 (lv_at hl 0 rfl) ?_
                refine lv_if_eq (tgt := 111) hx hb d_M_server_99 (by decide) (fun h634 => ?_) (fun h634 => ?_)
                · exact absurd h634 (by decide)
                · refine lv_aload_n hx hb d_M_server_102 rfl (lv_at hl 2 rfl) ?_
                  refine va_get (D := G) (ci := 4) (v := .ref q2) (C := cr_M) (T := cf_M) (N := 25) hx hb hw uw_M hown hK.1 hP 0 rfl rfl 5 (by decide) (hw _ ww_645) (fun _ h9 => h9) rfl d_M_server_103 ?_
                  refine lv_iload_n hx hb d_M_server_106 rfl (lv_at hl 3 rfl) ?_
                  refine ra_ll hx hb hK.1 hP 2 1 rfl rfl (k := k) (by omega) (by decide) d_M_server_107 ?_
                  refine lv_goto (tgt := 120) hx hb d_M_server_108 (by decide) ?_
                  refine ra_ls hx hb hK.1 hP hD hS 12 1 rfl rfl (k := n) (by omega) (by decide) d_M_server_120 (fun H locs hP hD hS => ?_)
                  have hP : va_P G classes [(hm, .inr (4, [.int 0, .long sd, .int nw, .long hh, .ref q1, .ref q2, .ref q3, .ref q4, .ref q5, .ref q6, .ref q7, .ref q8, .int (nI (n + 1)), .ref q9, .ref q10, .ref q11, .ref q12, .ref q13, .ref q14, .ref q15, .ref q16, .ref q17, .ref q18, .ref q19, .ref q20])), (q1, .inl ((ct 0), 8, .inl a1)), (q2, .inl ((ct 1), 8, .inr (.inl a2))), (q4, .inl ((ct 1), 8, .inr (.inl a4))), (q5, .inl ((ct 0), 8, .inl a5)), (q8, .inl ((ct 0), 8, .inl a8)), (q9, .inl ((ct 2), 40, .inl (upd a9 n 1))), (q10, .inl ((ct 0), 40, .inl (upd b0 n wy))), (q11, .inl ((ct 0), 40, .inl (upd b1 n (nI k)))), (q12, .inl ((ct 0), 40, .inl (upd b2 n 0))), (q13, .inl ((ct 0), 40, .inl (upd b3 n nw))), (q14, .inl ((ct 1), 40, .inr (.inl (vp_updL b4 n (lN (sc_n se)))))), (q16, .inl ((ct 1), 40, .inr (.inl (vp_updL b6 n (a2 k))))), (q20, .inl ((ct 1), 40, .inr (.inl (vp_updL b10 n 0))))] H := hP
                  have hD : va_D A [(hm, .inr (4, [.int 0, .long sd, .int nw, .long hh, .ref q1, .ref q2, .ref q3, .ref q4, .ref q5, .ref q6, .ref q7, .ref q8, .int (nI (n + 1)), .ref q9, .ref q10, .ref q11, .ref q12, .ref q13, .ref q14, .ref q15, .ref q16, .ref q17, .ref q18, .ref q19, .ref q20])), (q1, .inl ((ct 0), 8, .inl a1)), (q2, .inl ((ct 1), 8, .inr (.inl a2))), (q4, .inl ((ct 1), 8, .inr (.inl a4))), (q5, .inl ((ct 0), 8, .inl a5)), (q8, .inl ((ct 0), 8, .inl a8)), (q9, .inl ((ct 2), 40, .inl (upd a9 n 1))), (q10, .inl ((ct 0), 40, .inl (upd b0 n wy))), (q11, .inl ((ct 0), 40, .inl (upd b1 n (nI k)))), (q12, .inl ((ct 0), 40, .inl (upd b2 n 0))), (q13, .inl ((ct 0), 40, .inl (upd b3 n nw))), (q14, .inl ((ct 1), 40, .inr (.inl (vp_updL b4 n (lN (sc_n se)))))), (q16, .inl ((ct 1), 40, .inr (.inl (vp_updL b6 n (a2 k))))), (q20, .inl ((ct 1), 40, .inr (.inl (vp_updL b10 n 0))))] := hD
                  refine lv_goto (tgt := 160) hx hb d_M_server_121 (by decide) ?_
                  refine lv_iload hx hb d_M_server_160 (lv_at hl 1 rfl) ?_
                  exact W.iret (v := nI n) hx hb hr (fun t ht hW => ⟨⟨hh, ⟨rfl, trivial⟩, by rw [ht]; exact hP, hD⟩, hS.F ht⟩) hS.2.2 d_M_server_162
          · exact absurd h630 (by decide)
        · exact absurd h629 (by decide)
    · exact absurd h626 (by decide)
set_option maxHeartbeats 4000000 in
set_option maxRecDepth 100000 in
theorem c_M_server1W0 (l : Launch) (G : va_G) (ct : Nat → ClassId) (sz : Nat) (hm : Nat) (th : Int32) (sd : Int64) (nw : Int32) (hh : Int64) (q1 : Nat) (q2 : Nat) (q3 : Nat) (q4 : Nat) (q5 : Nat) (q6 : Nat) (q7 : Nat) (q8 : Nat) (q9 : Nat) (q10 : Nat) (q11 : Nat) (q12 : Nat) (q13 : Nat) (q14 : Nat) (q15 : Nat) (q16 : Nat) (q17 : Nat) (q18 : Nat) (q19 : Nat) (q20 : Nat) (n : Nat) (a1 : Nat → Int32) (a2 : Nat → Int64) (a4 : Nat → Int64) (a5 : Nat → Int32) (a8 : Nat → Int32) (a9 : Nat → Int32) (b0 : Nat → Int32) (b1 : Nat → Int32) (b2 : Nat → Int32) (b3 : Nat → Int32) (b4 : Nat → Int64) (b6 : Nat → Int64) (b10 : Nat → Int64) (k : Nat) (wy : Int32) (se : Int64) (hk : k < 8) (hn : n < 40) (hwy : wy = 0) (how : ¬ a1 k = wy) (hbl : ¬ sm_bl (a5 k) (a8 k) nw) : Met l my_M_server (tb_w my_M_server mb_M_server 7 (some .int)) ({ frames := 3, cells := 0, slots := 0, locals := 69 }) (wk_P [.ref hm, .int (nI k), .int wy, .long se] G ct [(hm, .inr (4, [.int th, .long sd, .int nw, .long hh, .ref q1, .ref q2, .ref q3, .ref q4, .ref q5, .ref q6, .ref q7, .ref q8, .int (nI n), .ref q9, .ref q10, .ref q11, .ref q12, .ref q13, .ref q14, .ref q15, .ref q16, .ref q17, .ref q18, .ref q19, .ref q20])), (q1, .inl ((ct 0), 8, .inl a1)), (q2, .inl ((ct 1), 8, .inr (.inl a2))), (q4, .inl ((ct 1), 8, .inr (.inl a4))), (q5, .inl ((ct 0), 8, .inl a5)), (q8, .inl ((ct 0), 8, .inl a8)), (q9, .inl ((ct 2), 40, .inl a9)), (q10, .inl ((ct 0), 40, .inl b0)), (q11, .inl ((ct 0), 40, .inl b1)), (q12, .inl ((ct 0), 40, .inl b2)), (q13, .inl ((ct 0), 40, .inl b3)), (q14, .inl ((ct 1), 40, .inr (.inl b4))), (q16, .inl ((ct 1), 40, .inr (.inl b6))), (q20, .inl ((ct 1), 40, .inr (.inl b10)))] sz) (wk_Q (wk_oi (S := Int64) (fun z2 => nI n) (fun _ => True)) (fun z2 : Int64 => [(hm, .inr (4, [.int 0, .long sd, .int nw, .long z2, .ref q1, .ref q2, .ref q3, .ref q4, .ref q5, .ref q6, .ref q7, .ref q8, .int (nI (n + 1)), .ref q9, .ref q10, .ref q11, .ref q12, .ref q13, .ref q14, .ref q15, .ref q16, .ref q17, .ref q18, .ref q19, .ref q20])), (q1, .inl ((ct 0), 8, .inl a1)), (q2, .inl ((ct 1), 8, .inr (.inl a2))), (q4, .inl ((ct 1), 8, .inr (.inl a4))), (q5, .inl ((ct 0), 8, .inl a5)), (q8, .inl ((ct 0), 8, .inl a8)), (q9, .inl ((ct 2), 40, .inl (upd a9 n 1))), (q10, .inl ((ct 0), 40, .inl (upd b0 n wy))), (q11, .inl ((ct 0), 40, .inl (upd b1 n (nI k)))), (q12, .inl ((ct 0), 40, .inl (upd b2 n 0))), (q13, .inl ((ct 0), 40, .inl (upd b3 n nw))), (q14, .inl ((ct 1), 40, .inr (.inl (vp_updL b4 n (lN (sc_n se)))))), (q16, .inl ((ct 1), 40, .inr (.inl (vp_updL b6 n (lN (sc_n (dg_3 (Int32.toInt64 3) sd (Int32.toInt64 (nI k))))))))), (q20, .inl ((ct 1), 40, .inr (.inl (vp_updL b10 n 0))))]) G (va_A [(hm, .inr (4, [.int th, .long sd, .int nw, .long hh, .ref q1, .ref q2, .ref q3, .ref q4, .ref q5, .ref q6, .ref q7, .ref q8, .int (nI n), .ref q9, .ref q10, .ref q11, .ref q12, .ref q13, .ref q14, .ref q15, .ref q16, .ref q17, .ref q18, .ref q19, .ref q20])), (q1, .inl ((ct 0), 8, .inl a1)), (q2, .inl ((ct 1), 8, .inr (.inl a2))), (q4, .inl ((ct 1), 8, .inr (.inl a4))), (q5, .inl ((ct 0), 8, .inl a5)), (q8, .inl ((ct 0), 8, .inl a8)), (q9, .inl ((ct 2), 40, .inl a9)), (q10, .inl ((ct 0), 40, .inl b0)), (q11, .inl ((ct 0), 40, .inl b1)), (q12, .inl ((ct 0), 40, .inl b2)), (q13, .inl ((ct 0), 40, .inl b3)), (q14, .inl ((ct 1), 40, .inr (.inl b4))), (q16, .inl ((ct 1), 40, .inr (.inl b6))), (q20, .inl ((ct 1), 40, .inr (.inl b10)))] sz)) 0 0 (va_A [(hm, .inr (4, [.int th, .long sd, .int nw, .long hh, .ref q1, .ref q2, .ref q3, .ref q4, .ref q5, .ref q6, .ref q7, .ref q8, .int (nI n), .ref q9, .ref q10, .ref q11, .ref q12, .ref q13, .ref q14, .ref q15, .ref q16, .ref q17, .ref q18, .ref q19, .ref q20])), (q1, .inl ((ct 0), 8, .inl a1)), (q2, .inl ((ct 1), 8, .inr (.inl a2))), (q4, .inl ((ct 1), 8, .inr (.inl a4))), (q5, .inl ((ct 0), 8, .inl a5)), (q8, .inl ((ct 0), 8, .inl a8)), (q9, .inl ((ct 2), 40, .inl a9)), (q10, .inl ((ct 0), 40, .inl b0)), (q11, .inl ((ct 0), 40, .inl b1)), (q12, .inl ((ct 0), 40, .inl b2)), (q13, .inl ((ct 0), 40, .inl b3)), (q14, .inl ((ct 1), 40, .inr (.inl b4))), (q16, .inl ((ct 1), 40, .inr (.inl b6))), (q20, .inl ((ct 1), 40, .inr (.inl b10)))] sz) := by
  refine Met.ofW (cc := mb_M_server) (maxL := 7) (ret := (some .int)) (by decide) rfl ?_
  intro p e s m args below meth c s₁ B hml hv
  obtain ⟨rfl, hsz, hP, hK, hD0⟩ := hv
  have hx := B.exec
  have hb := B.bytes
  have hr := B.returns
  have hts := atoms_spec (ws := tb_w my_M_server mb_M_server 7 (some .int)) B.pre
  have hw : ∀ w ∈ gt_tbl, w.before [.ref hm, .int (nI k), .int wy, .long se].toArray s = true := fun w h => hts w (List.mem_cons_of_mem _ h)
  have hown : s.vm.findClass cr_M = some m.cls := findClass_of_methodNamed B.named
  have hlocks := B.notSynchronized
  subst hsz
  have hD := hD0.self (sz := s.heap.size)
  generalize hAe : va_A [(hm, .inr (4, [.int th, .long sd, .int nw, .long hh, .ref q1, .ref q2, .ref q3, .ref q4, .ref q5, .ref q6, .ref q7, .ref q8, .int (nI n), .ref q9, .ref q10, .ref q11, .ref q12, .ref q13, .ref q14, .ref q15, .ref q16, .ref q17, .ref q18, .ref q19, .ref q20])), (q1, .inl ((ct 0), 8, .inl a1)), (q2, .inl ((ct 1), 8, .inr (.inl a2))), (q4, .inl ((ct 1), 8, .inr (.inl a4))), (q5, .inl ((ct 0), 8, .inl a5)), (q8, .inl ((ct 0), 8, .inl a8)), (q9, .inl ((ct 2), 40, .inl a9)), (q10, .inl ((ct 0), 40, .inl b0)), (q11, .inl ((ct 0), 40, .inl b1)), (q12, .inl ((ct 0), 40, .inl b2)), (q13, .inl ((ct 0), 40, .inl b3)), (q14, .inl ((ct 1), 40, .inr (.inl b4))), (q16, .inl ((ct 1), 40, .inr (.inl b6))), (q20, .inl ((ct 1), 40, .inr (.inl b10)))] s.heap.size = A at hD ⊢
  have hA : ∀ q : Nat, s.heap.size ≤ q → A q := fun q h => by rw [← hAe]; exact Or.inr h
  have hS : va_S A s.heap s.heap [] := va_S.rf
  have hP : va_P G classes [(hm, .inr (4, [.int th, .long sd, .int nw, .long hh, .ref q1, .ref q2, .ref q3, .ref q4, .ref q5, .ref q6, .ref q7, .ref q8, .int (nI n), .ref q9, .ref q10, .ref q11, .ref q12, .ref q13, .ref q14, .ref q15, .ref q16, .ref q17, .ref q18, .ref q19, .ref q20])), (q1, .inl ((ct 0), 8, .inl a1)), (q2, .inl ((ct 1), 8, .inr (.inl a2))), (q4, .inl ((ct 1), 8, .inr (.inl a4))), (q5, .inl ((ct 0), 8, .inl a5)), (q8, .inl ((ct 0), 8, .inl a8)), (q9, .inl ((ct 2), 40, .inl a9)), (q10, .inl ((ct 0), 40, .inl b0)), (q11, .inl ((ct 0), 40, .inl b1)), (q12, .inl ((ct 0), 40, .inl b2)), (q13, .inl ((ct 0), 40, .inl b3)), (q14, .inl ((ct 1), 40, .inr (.inl b4))), (q16, .inl ((ct 1), 40, .inr (.inl b6))), (q20, .inl ((ct 1), 40, .inr (.inl b10)))] s.heap := hP
  have hl := lv_entry ([.ref hm, .int (nI k), .int wy, .long se]) (n := 7) (Nat.le_of_ble_eq_true rfl)
  rw [lg_entry_eq]
  generalize (lg_sl ([.ref hm, .int (nI k), .int wy, .long se]) ++ List.replicate (7 - (lg_sl ([.ref hm, .int (nI k), .int wy, .long se])).length) Slot.unset).toArray = ls at hl ⊢
  have hl : lv_has ls 7 [(0, .ref hm), (1, .int (nI k)), (2, .int wy), (3, .long se)] := hl
  have hwi : wy_in wy := Or.inl hwy
  refine lv_aload_n hx hb d_M_server_0 rfl (lv_at hl 0 rfl) ?_
  refine lv_iload_n hx hb d_M_server_1 rfl (lv_at hl 1 rfl) ?_
  refine vp_callSi (W.runS (As := [.int (nI k)]) (rest := [.ref hm]) ⟨hx, hb, hml, hown, hts⟩ (c_M_isUser l (nI k)) (tb_S hw cy_M_isUser ww_727 ww_728 rfl rfl ⟨Nat.le_of_ble_eq_true rfl, Nat.le_of_ble_eq_true rfl⟩) preEq rfl rfl hl.1 rfl (lv_room (Nat.le_of_ble_eq_true rfl)) d_M_server_2 ⟨Nat.le_of_ble_eq_true rfl, Nat.le_of_ble_eq_true rfl⟩) (fun r635 er635 => ?_)
  subst er635
  refine tp_i (if_pos (us_k hk)) ?_
  refine lv_if_eq (tgt := 15) hx hb d_M_server_5 (by decide) (fun h636 => ?_) (fun h636 => ?_)
  · exact absurd h636 (by decide)
  · refine lv_iload_n hx hb d_M_server_8 rfl (lv_at hl 2 rfl) ?_
    refine vp_callSi (W.runS (As := [.int wy]) (rest := [.ref hm]) ⟨hx, hb, hml, hown, hts⟩ (c_M_isWay l wy) (tb_S hw cy_M_isWay ww_730 ww_731 rfl rfl ⟨Nat.le_of_ble_eq_true rfl, Nat.le_of_ble_eq_true rfl⟩) preEq rfl rfl hl.1 rfl (lv_room (Nat.le_of_ble_eq_true rfl)) d_M_server_9 ⟨Nat.le_of_ble_eq_true rfl, Nat.le_of_ble_eq_true rfl⟩) (fun r637 er637 => ?_)
    subst er637
    refine tp_i (if_pos hwi) ?_
    refine lv_if_ne (tgt := 19) hx hb d_M_server_12 (by decide) (fun h638 => ?_) (fun h638 => ?_)
    · refine lv_aload_n hx hb d_M_server_19 rfl (lv_at hl 0 rfl) ?_
      refine va_get (D := G) (ci := 4) (v := .int (nI n)) (C := cr_M) (T := cf_M) (N := 25) hx hb hw uw_M hown hK.1 hP 0 rfl rfl 12 (by decide) (hw _ ww_652) (fun _ h9 => h9) rfl d_M_server_20 ?_
      refine lv_bipush (v := 40) hx hb d_M_server_23 (by decide) ?_
      refine lv_icmp_eq (tgt := 36) hx hb d_M_server_25 (by decide) (fun h639 => ?_) (fun h639 => ?_)
      · exact absurd h639 (n40 hn)
      · refine lv_aload_n hx hb d_M_server_28 rfl (lv_at hl 0 rfl) ?_
        refine lv_iload_n hx hb d_M_server_29 rfl (lv_at hl 1 rfl) ?_
        have hPc : va_P G classes [(hm, .inr (4, [.int th, .long sd, .int nw, .long hh, .ref q1, .ref q2, .ref q3, .ref q4, .ref q5, .ref q6, .ref q7, .ref q8, .int (nI n), .ref q9, .ref q10, .ref q11, .ref q12, .ref q13, .ref q14, .ref q15, .ref q16, .ref q17, .ref q18, .ref q19, .ref q20])), (q5, .inl ((ct 0), 8, .inl a5)), (q8, .inl ((ct 0), 8, .inl a8))] s.heap := hP.sub [0, 4, 5] rfl
        have hDc := hD.sub (ws' := [(hm, .inr (4, [.int th, .long sd, .int nw, .long hh, .ref q1, .ref q2, .ref q3, .ref q4, .ref q5, .ref q6, .ref q7, .ref q8, .int (nI n), .ref q9, .ref q10, .ref q11, .ref q12, .ref q13, .ref q14, .ref q15, .ref q16, .ref q17, .ref q18, .ref q19, .ref q20])), (q5, .inl ((ct 0), 8, .inl a5)), (q8, .inl ((ct 0), 8, .inl a8))]) [0, 4, 5] (by decide) rfl
        refine vp_callSi (W.runV (As := [.int (nI k)]) (rest := [.ref hm]) ⟨hx, hb, hml, hown, hts⟩ (c_M_isBlocked l G ct s.heap.size hm th sd nw hh q1 q2 q3 q4 q5 q6 q7 q8 q9 q10 q11 q12 q13 q14 q15 q16 q17 q18 q19 q20 n a5 a8 k (by first | assumption | exact m63 (by first | assumption | exact qs_P (by assumption)) | decide | exact pw_lt _ _ | exact Nat.mod_lt _ pq_pos | exact sc_lt _ | exact sc_pos _ | exact m63 (by first | assumption | exact pw_lt _ _ | exact Nat.mod_lt _ pq_pos | exact qs_P (by first | assumption | exact sc_lt _ | exact qz_Q _)) | exact up_se _ _ _ | exact ul_se _ _ _ | omega)) (tb_V hw cy_M_isBlocked ww_800 ww_802 wp_M_isBlocked rfl rfl ⟨Nat.le_of_ble_eq_true rfl, Nat.le_of_ble_eq_true rfl⟩) (wk_preV (ci := 4) (q0 := 0) hPc hK hDc rfl rfl) rfl rfl hl.1 rfl (lv_room (Nat.le_of_ble_eq_true rfl)) d_M_server_30 ⟨Nat.le_of_ble_eq_true rfl, Nat.le_of_ble_eq_true rfl⟩) (fun r640 er640 => ?_)
        subst er640
        refine tp_i (if_neg hbl) ?_
        refine lv_if_eq (tgt := 40) hx hb d_M_server_33 (by decide) (fun h641 => ?_) (fun h641 => ?_)
        · refine lv_iconst (v := 0) hx hb d_M_server_40 (by decide) ?_
          refine va_put (D := G) (ci := 4) (v := .int 0) (ty := .int) (C := cr_M) (T := cf_M) (N := 25) hx hb hw uw_M ct_M ct_M_ok ct_M_nm hown hK.1 hP hD hS 0 rfl rfl 0 (by decide) (hw _ ww_640) (fun _ h9 => h9) rfl (by decide +kernel) rfl rfl (Nat.le_of_ble_eq_true rfl) d_M_server_41 (fun H locs hP hD hS => ?_)
          have hP : va_P G classes [(hm, .inr (4, [.int 0, .long sd, .int nw, .long hh, .ref q1, .ref q2, .ref q3, .ref q4, .ref q5, .ref q6, .ref q7, .ref q8, .int (nI n), .ref q9, .ref q10, .ref q11, .ref q12, .ref q13, .ref q14, .ref q15, .ref q16, .ref q17, .ref q18, .ref q19, .ref q20])), (q1, .inl ((ct 0), 8, .inl a1)), (q2, .inl ((ct 1), 8, .inr (.inl a2))), (q4, .inl ((ct 1), 8, .inr (.inl a4))), (q5, .inl ((ct 0), 8, .inl a5)), (q8, .inl ((ct 0), 8, .inl a8)), (q9, .inl ((ct 2), 40, .inl a9)), (q10, .inl ((ct 0), 40, .inl b0)), (q11, .inl ((ct 0), 40, .inl b1)), (q12, .inl ((ct 0), 40, .inl b2)), (q13, .inl ((ct 0), 40, .inl b3)), (q14, .inl ((ct 1), 40, .inr (.inl b4))), (q16, .inl ((ct 1), 40, .inr (.inl b6))), (q20, .inl ((ct 1), 40, .inr (.inl b10)))] H := hP
          have hD : va_D A [(hm, .inr (4, [.int 0, .long sd, .int nw, .long hh, .ref q1, .ref q2, .ref q3, .ref q4, .ref q5, .ref q6, .ref q7, .ref q8, .int (nI n), .ref q9, .ref q10, .ref q11, .ref q12, .ref q13, .ref q14, .ref q15, .ref q16, .ref q17, .ref q18, .ref q19, .ref q20])), (q1, .inl ((ct 0), 8, .inl a1)), (q2, .inl ((ct 1), 8, .inr (.inl a2))), (q4, .inl ((ct 1), 8, .inr (.inl a4))), (q5, .inl ((ct 0), 8, .inl a5)), (q8, .inl ((ct 0), 8, .inl a8)), (q9, .inl ((ct 2), 40, .inl a9)), (q10, .inl ((ct 0), 40, .inl b0)), (q11, .inl ((ct 0), 40, .inl b1)), (q12, .inl ((ct 0), 40, .inl b2)), (q13, .inl ((ct 0), 40, .inl b3)), (q14, .inl ((ct 1), 40, .inr (.inl b4))), (q16, .inl ((ct 1), 40, .inr (.inl b6))), (q20, .inl ((ct 1), 40, .inr (.inl b10)))] := hD
          refine lv_aload_n hx hb d_M_server_44 rfl (lv_at hl 0 rfl) ?_
          refine va_get (D := G) (ci := 4) (v := .int 0) (C := cr_M) (T := cf_M) (N := 25) hx hb hw uw_M hown hK.1 hP 0 rfl rfl 0 (by decide) (hw _ ww_640) (fun _ h9 => h9) rfl d_M_server_45 ?_
          refine lv_if_le (tgt := 53) hx hb d_M_server_48 (by decide) (fun h642 => ?_) (fun h642 => ?_)
          · refine lv_aload_n hx hb d_M_server_53 rfl (lv_at hl 0 rfl) ?_
            refine lv_iload_n hx hb d_M_server_54 rfl (lv_at hl 1 rfl) ?_
            refine lv_iload_n hx hb d_M_server_55 rfl (lv_at hl 2 rfl) ?_
            refine lv_lload_n hx hb d_M_server_56 rfl (lv_at hl 3 rfl) ?_
            have hPc : va_P G classes [(hm, .inr (4, [.int 0, .long sd, .int nw, .long hh, .ref q1, .ref q2, .ref q3, .ref q4, .ref q5, .ref q6, .ref q7, .ref q8, .int (nI n), .ref q9, .ref q10, .ref q11, .ref q12, .ref q13, .ref q14, .ref q15, .ref q16, .ref q17, .ref q18, .ref q19, .ref q20])), (q10, .inl ((ct 0), 40, .inl b0)), (q11, .inl ((ct 0), 40, .inl b1)), (q12, .inl ((ct 0), 40, .inl b2)), (q13, .inl ((ct 0), 40, .inl b3)), (q14, .inl ((ct 1), 40, .inr (.inl b4))), (q20, .inl ((ct 1), 40, .inr (.inl b10)))] H := hP.sub [0, 7, 8, 9, 10, 11, 13] rfl
            have hDc := hD.sub (ws' := [(hm, .inr (4, [.int 0, .long sd, .int nw, .long hh, .ref q1, .ref q2, .ref q3, .ref q4, .ref q5, .ref q6, .ref q7, .ref q8, .int (nI n), .ref q9, .ref q10, .ref q11, .ref q12, .ref q13, .ref q14, .ref q15, .ref q16, .ref q17, .ref q18, .ref q19, .ref q20])), (q10, .inl ((ct 0), 40, .inl b0)), (q11, .inl ((ct 0), 40, .inl b1)), (q12, .inl ((ct 0), 40, .inl b2)), (q13, .inl ((ct 0), 40, .inl b3)), (q14, .inl ((ct 1), 40, .inr (.inl b4))), (q20, .inl ((ct 1), 40, .inr (.inl b10)))]) [0, 7, 8, 9, 10, 11, 13] (by decide) rfl
            refine wk_i (va_runV (As := [.int (nI k), .int wy, .long se]) (rest := []) ⟨hx, hb, hml, hown, hts⟩ (c_M_open l G ct H.size hm 0 sd nw hh q1 q2 q3 q4 q5 q6 q7 q8 q9 q10 q11 q12 q13 q14 q15 q16 q17 q18 q19 q20 n b0 b1 b2 b3 b4 b10 (nI k) wy se (by first | assumption | exact m63 (by first | assumption | exact qs_P (by assumption)) | decide | exact pw_lt _ _ | exact Nat.mod_lt _ pq_pos | exact sc_lt _ | exact sc_pos _ | exact m63 (by first | assumption | exact pw_lt _ _ | exact Nat.mod_lt _ pq_pos | exact qs_P (by first | assumption | exact sc_lt _ | exact qz_Q _)) | exact up_se _ _ _ | exact ul_se _ _ _ | omega)) (tb_V hw cy_M_open ww_791 ww_793 wp_M_open rfl rfl ⟨Nat.le_of_ble_eq_true rfl, Nat.le_of_ble_eq_true rfl⟩) (wk_preV (ci := 4) (q0 := 0) hPc hK hDc rfl rfl) rfl rfl hl.1 rfl (lv_room (Nat.le_of_ble_eq_true rfl)) d_M_server_57 ⟨Nat.le_of_ble_eq_true rfl, Nat.le_of_ble_eq_true rfl⟩) hP hD hS hA [0, 7, 8, 9, 10, 11, 13] (by decide) rfl (fun _ => by simp only [List.map_cons, List.map_nil]) (fun _ H locs ok643 hP hD hS => ?_)
            have hP : va_P G classes [(hm, .inr (4, [.int 0, .long sd, .int nw, .long hh, .ref q1, .ref q2, .ref q3, .ref q4, .ref q5, .ref q6, .ref q7, .ref q8, .int (nI (n + 1)), .ref q9, .ref q10, .ref q11, .ref q12, .ref q13, .ref q14, .ref q15, .ref q16, .ref q17, .ref q18, .ref q19, .ref q20])), (q1, .inl ((ct 0), 8, .inl a1)), (q2, .inl ((ct 1), 8, .inr (.inl a2))), (q4, .inl ((ct 1), 8, .inr (.inl a4))), (q5, .inl ((ct 0), 8, .inl a5)), (q8, .inl ((ct 0), 8, .inl a8)), (q9, .inl ((ct 2), 40, .inl a9)), (q10, .inl ((ct 0), 40, .inl (upd b0 n wy))), (q11, .inl ((ct 0), 40, .inl (upd b1 n (nI k)))), (q12, .inl ((ct 0), 40, .inl (upd b2 n 0))), (q13, .inl ((ct 0), 40, .inl (upd b3 n nw))), (q14, .inl ((ct 1), 40, .inr (.inl (vp_updL b4 n (lN (sc_n se)))))), (q16, .inl ((ct 1), 40, .inr (.inl b6))), (q20, .inl ((ct 1), 40, .inr (.inl (vp_updL b10 n 0))))] H := hP
            have hD : va_D A [(hm, .inr (4, [.int 0, .long sd, .int nw, .long hh, .ref q1, .ref q2, .ref q3, .ref q4, .ref q5, .ref q6, .ref q7, .ref q8, .int (nI (n + 1)), .ref q9, .ref q10, .ref q11, .ref q12, .ref q13, .ref q14, .ref q15, .ref q16, .ref q17, .ref q18, .ref q19, .ref q20])), (q1, .inl ((ct 0), 8, .inl a1)), (q2, .inl ((ct 1), 8, .inr (.inl a2))), (q4, .inl ((ct 1), 8, .inr (.inl a4))), (q5, .inl ((ct 0), 8, .inl a5)), (q8, .inl ((ct 0), 8, .inl a8)), (q9, .inl ((ct 2), 40, .inl a9)), (q10, .inl ((ct 0), 40, .inl (upd b0 n wy))), (q11, .inl ((ct 0), 40, .inl (upd b1 n (nI k)))), (q12, .inl ((ct 0), 40, .inl (upd b2 n 0))), (q13, .inl ((ct 0), 40, .inl (upd b3 n nw))), (q14, .inl ((ct 1), 40, .inr (.inl (vp_updL b4 n (lN (sc_n se)))))), (q16, .inl ((ct 1), 40, .inr (.inl b6))), (q20, .inl ((ct 1), 40, .inr (.inl (vp_updL b10 n 0))))] := hD
            refine lv_istore (lv' := [(5, .int (nI n)), (0, .ref hm), (1, .int (nI k)), (2, .int wy), (3, .long se)]) hx hb d_M_server_60 hl (Nat.le_of_ble_eq_true rfl) rfl (fun ls hl => ?_)
            refine lv_aload_n hx hb d_M_server_62 rfl (lv_at hl 1 rfl) ?_
            refine va_get (D := G) (ci := 4) (v := .ref q9) (C := cr_M) (T := cf_M) (N := 25) hx hb hw uw_M hown hK.1 hP 0 rfl rfl 13 (by decide) (hw _ ww_653) (fun _ h9 => h9) rfl d_M_server_63 ?_
            refine lv_iload hx hb d_M_server_66 (lv_at hl 0 rfl) ?_
            refine lv_iconst (v := 1) hx hb d_M_server_68 (by decide) ?_
            refine ra_zs hx hb hK.1 hP hD hS 6 2 rfl rfl (k := n) (by omega) (by decide) rfl d_M_server_69 (fun H locs hP hD hS => ?_)
            have hP : va_P G classes [(hm, .inr (4, [.int 0, .long sd, .int nw, .long hh, .ref q1, .ref q2, .ref q3, .ref q4, .ref q5, .ref q6, .ref q7, .ref q8, .int (nI (n + 1)), .ref q9, .ref q10, .ref q11, .ref q12, .ref q13, .ref q14, .ref q15, .ref q16, .ref q17, .ref q18, .ref q19, .ref q20])), (q1, .inl ((ct 0), 8, .inl a1)), (q2, .inl ((ct 1), 8, .inr (.inl a2))), (q4, .inl ((ct 1), 8, .inr (.inl a4))), (q5, .inl ((ct 0), 8, .inl a5)), (q8, .inl ((ct 0), 8, .inl a8)), (q9, .inl ((ct 2), 40, .inl (upd a9 n 1))), (q10, .inl ((ct 0), 40, .inl (upd b0 n wy))), (q11, .inl ((ct 0), 40, .inl (upd b1 n (nI k)))), (q12, .inl ((ct 0), 40, .inl (upd b2 n 0))), (q13, .inl ((ct 0), 40, .inl (upd b3 n nw))), (q14, .inl ((ct 1), 40, .inr (.inl (vp_updL b4 n (lN (sc_n se)))))), (q16, .inl ((ct 1), 40, .inr (.inl b6))), (q20, .inl ((ct 1), 40, .inr (.inl (vp_updL b10 n 0))))] H := hP
            have hD : va_D A [(hm, .inr (4, [.int 0, .long sd, .int nw, .long hh, .ref q1, .ref q2, .ref q3, .ref q4, .ref q5, .ref q6, .ref q7, .ref q8, .int (nI (n + 1)), .ref q9, .ref q10, .ref q11, .ref q12, .ref q13, .ref q14, .ref q15, .ref q16, .ref q17, .ref q18, .ref q19, .ref q20])), (q1, .inl ((ct 0), 8, .inl a1)), (q2, .inl ((ct 1), 8, .inr (.inl a2))), (q4, .inl ((ct 1), 8, .inr (.inl a4))), (q5, .inl ((ct 0), 8, .inl a5)), (q8, .inl ((ct 0), 8, .inl a8)), (q9, .inl ((ct 2), 40, .inl (upd a9 n 1))), (q10, .inl ((ct 0), 40, .inl (upd b0 n wy))), (q11, .inl ((ct 0), 40, .inl (upd b1 n (nI k)))), (q12, .inl ((ct 0), 40, .inl (upd b2 n 0))), (q13, .inl ((ct 0), 40, .inl (upd b3 n nw))), (q14, .inl ((ct 1), 40, .inr (.inl (vp_updL b4 n (lN (sc_n se)))))), (q16, .inl ((ct 1), 40, .inr (.inl b6))), (q20, .inl ((ct 1), 40, .inr (.inl (vp_updL b10 n 0))))] := hD
            refine lv_aload_n hx hb d_M_server_70 rfl (lv_at hl 1 rfl) ?_
            refine va_get (D := G) (ci := 4) (v := .ref q1) (C := cr_M) (T := cf_M) (N := 25) hx hb hw uw_M hown hK.1 hP 0 rfl rfl 4 (by decide) (hw _ ww_644) (fun _ h9 => h9) rfl d_M_server_71 ?_
            refine lv_iload_n hx hb d_M_server_74 rfl (lv_at hl 2 rfl) ?_
            refine ra_il hx hb hK.1 hP 1 0 rfl rfl (k := k) (by omega) (by decide) d_M_server_75 ?_
            refine lv_iload_n hx hb d_M_server_76 rfl (lv_at hl 3 rfl) ?_
            refine lv_icmp_ne (tgt := 84) hx hb d_M_server_77 (by decide) (fun h644 => ?_) (fun h644 => ?_)
            · refine lv_iconst (v := 0) hx hb d_M_server_84 (by decide) ?_
              refine lv_istore (lv' := [(6, .int 0), (5, .int (nI n)), (0, .ref hm), (1, .int (nI k)), (2, .int wy), (3, .long se)]) hx hb d_M_server_85 hl (Nat.le_of_ble_eq_true rfl) rfl (fun ls hl => ?_)
              refine lv_iload_n hx hb d_M_server_87 rfl (lv_at hl 4 rfl) ?_
              refine lv_if_ne (tgt := 124) hx hb d_M_server_88 (by decide) (fun h645 => ?_) (fun h645 => ?_)
              · exact absurd hwy h645
              · refine lv_aload_n hx hb d_M_server_91 rfl (lv_at hl 2 rfl) ?_
                refine va_get (D := G) (ci := 4) (v := .ref q16) (C := cr_M) (T := cf_M) (N := 25) hx hb hw uw_M hown hK.1 hP 0 rfl rfl 20 (by decide) (hw _ ww_660) (fun _ h9 => h9) rfl d_M_server_92 ?_
                refine lv_iload hx hb d_M_server_95 (lv_at hl 1 rfl) ?_
                refine lv_iload hx hb d_M_server_97 (lv_at hl 0 rfl) ?_
                refine lv_if_eq (tgt := 111) hx hb d_M_server_99 (by decide) (fun h646 => ?_) (fun h646 => ?_)
                · refine lv_aload_n hx hb d_M_server_111 rfl (lv_at hl 2 rfl) ?_
                  refine lv_iconst (v := 3) hx hb d_M_server_112 (by decide) ?_
                  refine lv_iload_n hx hb d_M_server_113 rfl (lv_at hl 3 rfl) ?_
                  have hPc : va_P G classes [(hm, .inr (4, [.int 0, .long sd, .int nw, .long hh, .ref q1, .ref q2, .ref q3, .ref q4, .ref q5, .ref q6, .ref q7, .ref q8, .int (nI (n + 1)), .ref q9, .ref q10, .ref q11, .ref q12, .ref q13, .ref q14, .ref q15, .ref q16, .ref q17, .ref q18, .ref q19, .ref q20]))] H := hP.sub [0] rfl
                  have hDc := hD.sub (ws' := [(hm, .inr (4, [.int 0, .long sd, .int nw, .long hh, .ref q1, .ref q2, .ref q3, .ref q4, .ref q5, .ref q6, .ref q7, .ref q8, .int (nI (n + 1)), .ref q9, .ref q10, .ref q11, .ref q12, .ref q13, .ref q14, .ref q15, .ref q16, .ref q17, .ref q18, .ref q19, .ref q20]))]) [0] (by decide) rfl
                  refine wk_l (va_runV (As := [.int 3, .int (nI k)]) (rest := [.int (nI n), .ref q16]) ⟨hx, hb, hml, hown, hts⟩ (c_M_fake l G ct H.size hm 0 sd nw hh q1 q2 q3 q4 q5 q6 q7 q8 q9 q10 q11 q12 q13 q14 q15 q16 q17 q18 q19 q20 (n + 1) 3 (nI k)) (tb_V hw cy_M_fake ww_783 ww_785 wp_M_fake rfl rfl ⟨Nat.le_of_ble_eq_true rfl, Nat.le_of_ble_eq_true rfl⟩) (wk_preV (ci := 4) (q0 := 0) hPc hK hDc rfl rfl) rfl rfl hl.1 rfl (lv_room (Nat.le_of_ble_eq_true rfl)) d_M_server_114 ⟨Nat.le_of_ble_eq_true rfl, Nat.le_of_ble_eq_true rfl⟩) hP hD hS hA [0] (by decide) rfl (fun _ => by simp only [List.map_cons, List.map_nil]) (fun z2647 H locs ok648 hP hD hS => ?_)
                  have hP : va_P G classes [(hm, .inr (4, [.int 0, .long sd, .int nw, .long z2647, .ref q1, .ref q2, .ref q3, .ref q4, .ref q5, .ref q6, .ref q7, .ref q8, .int (nI (n + 1)), .ref q9, .ref q10, .ref q11, .ref q12, .ref q13, .ref q14, .ref q15, .ref q16, .ref q17, .ref q18, .ref q19, .ref q20])), (q1, .inl ((ct 0), 8, .inl a1)), (q2, .inl ((ct 1), 8, .inr (.inl a2))), (q4, .inl ((ct 1), 8, .inr (.inl a4))), (q5, .inl ((ct 0), 8, .inl a5)), (q8, .inl ((ct 0), 8, .inl a8)), (q9, .inl ((ct 2), 40, .inl (upd a9 n 1))), (q10, .inl ((ct 0), 40, .inl (upd b0 n wy))), (q11, .inl ((ct 0), 40, .inl (upd b1 n (nI k)))), (q12, .inl ((ct 0), 40, .inl (upd b2 n 0))), (q13, .inl ((ct 0), 40, .inl (upd b3 n nw))), (q14, .inl ((ct 1), 40, .inr (.inl (vp_updL b4 n (lN (sc_n se)))))), (q16, .inl ((ct 1), 40, .inr (.inl b6))), (q20, .inl ((ct 1), 40, .inr (.inl (vp_updL b10 n 0))))] H := hP
                  have hD : va_D A [(hm, .inr (4, [.int 0, .long sd, .int nw, .long z2647, .ref q1, .ref q2, .ref q3, .ref q4, .ref q5, .ref q6, .ref q7, .ref q8, .int (nI (n + 1)), .ref q9, .ref q10, .ref q11, .ref q12, .ref q13, .ref q14, .ref q15, .ref q16, .ref q17, .ref q18, .ref q19, .ref q20])), (q1, .inl ((ct 0), 8, .inl a1)), (q2, .inl ((ct 1), 8, .inr (.inl a2))), (q4, .inl ((ct 1), 8, .inr (.inl a4))), (q5, .inl ((ct 0), 8, .inl a5)), (q8, .inl ((ct 0), 8, .inl a8)), (q9, .inl ((ct 2), 40, .inl (upd a9 n 1))), (q10, .inl ((ct 0), 40, .inl (upd b0 n wy))), (q11, .inl ((ct 0), 40, .inl (upd b1 n (nI k)))), (q12, .inl ((ct 0), 40, .inl (upd b2 n 0))), (q13, .inl ((ct 0), 40, .inl (upd b3 n nw))), (q14, .inl ((ct 1), 40, .inr (.inl (vp_updL b4 n (lN (sc_n se)))))), (q16, .inl ((ct 1), 40, .inr (.inl b6))), (q20, .inl ((ct 1), 40, .inr (.inl (vp_updL b10 n 0))))] := hD
                  refine vp_callSl (W.runS (As := [.long (dg_3 (Int32.toInt64 3) sd (Int32.toInt64 (nI k)))]) (rest := [.int (nI n), .ref q16]) ⟨hx, hb, hml, hown, hts⟩ (c_M_scalar l (dg_3 (Int32.toInt64 3) sd (Int32.toInt64 (nI k)))) (tb_S hw cy_M_scalar ww_753 ww_754 rfl rfl ⟨Nat.le_of_ble_eq_true rfl, Nat.le_of_ble_eq_true rfl⟩) preEq rfl rfl hl.1 rfl (lv_room (Nat.le_of_ble_eq_true rfl)) d_M_server_117 ⟨Nat.le_of_ble_eq_true rfl, Nat.le_of_ble_eq_true rfl⟩) (fun r649 er649 => ?_)
                  subst er649
                  refine ra_ls hx hb hK.1 hP hD hS 12 1 rfl rfl (k := n) (by omega) (by decide) d_M_server_120 (fun H locs hP hD hS => ?_)
                  have hP : va_P G classes [(hm, .inr (4, [.int 0, .long sd, .int nw, .long z2647, .ref q1, .ref q2, .ref q3, .ref q4, .ref q5, .ref q6, .ref q7, .ref q8, .int (nI (n + 1)), .ref q9, .ref q10, .ref q11, .ref q12, .ref q13, .ref q14, .ref q15, .ref q16, .ref q17, .ref q18, .ref q19, .ref q20])), (q1, .inl ((ct 0), 8, .inl a1)), (q2, .inl ((ct 1), 8, .inr (.inl a2))), (q4, .inl ((ct 1), 8, .inr (.inl a4))), (q5, .inl ((ct 0), 8, .inl a5)), (q8, .inl ((ct 0), 8, .inl a8)), (q9, .inl ((ct 2), 40, .inl (upd a9 n 1))), (q10, .inl ((ct 0), 40, .inl (upd b0 n wy))), (q11, .inl ((ct 0), 40, .inl (upd b1 n (nI k)))), (q12, .inl ((ct 0), 40, .inl (upd b2 n 0))), (q13, .inl ((ct 0), 40, .inl (upd b3 n nw))), (q14, .inl ((ct 1), 40, .inr (.inl (vp_updL b4 n (lN (sc_n se)))))), (q16, .inl ((ct 1), 40, .inr (.inl (vp_updL b6 n (lN (sc_n (dg_3 (Int32.toInt64 3) sd (Int32.toInt64 (nI k))))))))), (q20, .inl ((ct 1), 40, .inr (.inl (vp_updL b10 n 0))))] H := hP
                  have hD : va_D A [(hm, .inr (4, [.int 0, .long sd, .int nw, .long z2647, .ref q1, .ref q2, .ref q3, .ref q4, .ref q5, .ref q6, .ref q7, .ref q8, .int (nI (n + 1)), .ref q9, .ref q10, .ref q11, .ref q12, .ref q13, .ref q14, .ref q15, .ref q16, .ref q17, .ref q18, .ref q19, .ref q20])), (q1, .inl ((ct 0), 8, .inl a1)), (q2, .inl ((ct 1), 8, .inr (.inl a2))), (q4, .inl ((ct 1), 8, .inr (.inl a4))), (q5, .inl ((ct 0), 8, .inl a5)), (q8, .inl ((ct 0), 8, .inl a8)), (q9, .inl ((ct 2), 40, .inl (upd a9 n 1))), (q10, .inl ((ct 0), 40, .inl (upd b0 n wy))), (q11, .inl ((ct 0), 40, .inl (upd b1 n (nI k)))), (q12, .inl ((ct 0), 40, .inl (upd b2 n 0))), (q13, .inl ((ct 0), 40, .inl (upd b3 n nw))), (q14, .inl ((ct 1), 40, .inr (.inl (vp_updL b4 n (lN (sc_n se)))))), (q16, .inl ((ct 1), 40, .inr (.inl (vp_updL b6 n (lN (sc_n (dg_3 (Int32.toInt64 3) sd (Int32.toInt64 (nI k))))))))), (q20, .inl ((ct 1), 40, .inr (.inl (vp_updL b10 n 0))))] := hD
                  refine lv_goto (tgt := 160) hx hb d_M_server_121 (by decide) ?_
                  refine lv_iload hx hb d_M_server_160 (lv_at hl 1 rfl) ?_
                  exact W.iret (v := nI n) hx hb hr (fun t ht hW => ⟨⟨z2647, ⟨rfl, trivial⟩, by rw [ht]; exact hP, hD⟩, hS.F ht⟩) hS.2.2 d_M_server_162
                · exact absurd h646 (by decide)
            · exact absurd h644 how
          · exact absurd h642 (by decide)
        · exact absurd h641 (by decide)
    · exact absurd h638 (by decide)
set_option maxHeartbeats 4000000 in
set_option maxRecDepth 100000 in
theorem c_M_server1S1 (l : Launch) (G : va_G) (ct : Nat → ClassId) (sz : Nat) (hm : Nat) (th : Int32) (sd : Int64) (nw : Int32) (hh : Int64) (q1 : Nat) (q2 : Nat) (q3 : Nat) (q4 : Nat) (q5 : Nat) (q6 : Nat) (q7 : Nat) (q8 : Nat) (q9 : Nat) (q10 : Nat) (q11 : Nat) (q12 : Nat) (q13 : Nat) (q14 : Nat) (q15 : Nat) (q16 : Nat) (q17 : Nat) (q18 : Nat) (q19 : Nat) (q20 : Nat) (n : Nat) (a1 : Nat → Int32) (a2 : Nat → Int64) (a4 : Nat → Int64) (a5 : Nat → Int32) (a8 : Nat → Int32) (a9 : Nat → Int32) (b0 : Nat → Int32) (b1 : Nat → Int32) (b2 : Nat → Int32) (b3 : Nat → Int32) (b4 : Nat → Int64) (b6 : Nat → Int64) (b10 : Nat → Int64) (k : Nat) (wy : Int32) (se : Int64) (hk : k < 8) (hn : n < 40) (hwy : wy = 1) (how : a1 k = wy) (hbl : ¬ sm_bl (a5 k) (a8 k) nw) : Met l my_M_server (tb_w my_M_server mb_M_server 7 (some .int)) ({ frames := 2, cells := 0, slots := 0, locals := 46 }) (wk_P [.ref hm, .int (nI k), .int wy, .long se] G ct [(hm, .inr (4, [.int th, .long sd, .int nw, .long hh, .ref q1, .ref q2, .ref q3, .ref q4, .ref q5, .ref q6, .ref q7, .ref q8, .int (nI n), .ref q9, .ref q10, .ref q11, .ref q12, .ref q13, .ref q14, .ref q15, .ref q16, .ref q17, .ref q18, .ref q19, .ref q20])), (q1, .inl ((ct 0), 8, .inl a1)), (q2, .inl ((ct 1), 8, .inr (.inl a2))), (q4, .inl ((ct 1), 8, .inr (.inl a4))), (q5, .inl ((ct 0), 8, .inl a5)), (q8, .inl ((ct 0), 8, .inl a8)), (q9, .inl ((ct 2), 40, .inl a9)), (q10, .inl ((ct 0), 40, .inl b0)), (q11, .inl ((ct 0), 40, .inl b1)), (q12, .inl ((ct 0), 40, .inl b2)), (q13, .inl ((ct 0), 40, .inl b3)), (q14, .inl ((ct 1), 40, .inr (.inl b4))), (q16, .inl ((ct 1), 40, .inr (.inl b6))), (q20, .inl ((ct 1), 40, .inr (.inl b10)))] sz) (wk_Q (wk_oi (S := Int64) (fun z2 => nI n) (fun _ => True)) (fun z2 : Int64 => [(hm, .inr (4, [.int 0, .long sd, .int nw, .long z2, .ref q1, .ref q2, .ref q3, .ref q4, .ref q5, .ref q6, .ref q7, .ref q8, .int (nI (n + 1)), .ref q9, .ref q10, .ref q11, .ref q12, .ref q13, .ref q14, .ref q15, .ref q16, .ref q17, .ref q18, .ref q19, .ref q20])), (q1, .inl ((ct 0), 8, .inl a1)), (q2, .inl ((ct 1), 8, .inr (.inl a2))), (q4, .inl ((ct 1), 8, .inr (.inl a4))), (q5, .inl ((ct 0), 8, .inl a5)), (q8, .inl ((ct 0), 8, .inl a8)), (q9, .inl ((ct 2), 40, .inl (upd a9 n 1))), (q10, .inl ((ct 0), 40, .inl (upd b0 n wy))), (q11, .inl ((ct 0), 40, .inl (upd b1 n (nI k)))), (q12, .inl ((ct 0), 40, .inl (upd b2 n 0))), (q13, .inl ((ct 0), 40, .inl (upd b3 n nw))), (q14, .inl ((ct 1), 40, .inr (.inl (vp_updL b4 n (lN (sc_n se)))))), (q16, .inl ((ct 1), 40, .inr (.inl (vp_updL b6 n (a4 k))))), (q20, .inl ((ct 1), 40, .inr (.inl (vp_updL b10 n 0))))]) G (va_A [(hm, .inr (4, [.int th, .long sd, .int nw, .long hh, .ref q1, .ref q2, .ref q3, .ref q4, .ref q5, .ref q6, .ref q7, .ref q8, .int (nI n), .ref q9, .ref q10, .ref q11, .ref q12, .ref q13, .ref q14, .ref q15, .ref q16, .ref q17, .ref q18, .ref q19, .ref q20])), (q1, .inl ((ct 0), 8, .inl a1)), (q2, .inl ((ct 1), 8, .inr (.inl a2))), (q4, .inl ((ct 1), 8, .inr (.inl a4))), (q5, .inl ((ct 0), 8, .inl a5)), (q8, .inl ((ct 0), 8, .inl a8)), (q9, .inl ((ct 2), 40, .inl a9)), (q10, .inl ((ct 0), 40, .inl b0)), (q11, .inl ((ct 0), 40, .inl b1)), (q12, .inl ((ct 0), 40, .inl b2)), (q13, .inl ((ct 0), 40, .inl b3)), (q14, .inl ((ct 1), 40, .inr (.inl b4))), (q16, .inl ((ct 1), 40, .inr (.inl b6))), (q20, .inl ((ct 1), 40, .inr (.inl b10)))] sz)) 0 0 (va_A [(hm, .inr (4, [.int th, .long sd, .int nw, .long hh, .ref q1, .ref q2, .ref q3, .ref q4, .ref q5, .ref q6, .ref q7, .ref q8, .int (nI n), .ref q9, .ref q10, .ref q11, .ref q12, .ref q13, .ref q14, .ref q15, .ref q16, .ref q17, .ref q18, .ref q19, .ref q20])), (q1, .inl ((ct 0), 8, .inl a1)), (q2, .inl ((ct 1), 8, .inr (.inl a2))), (q4, .inl ((ct 1), 8, .inr (.inl a4))), (q5, .inl ((ct 0), 8, .inl a5)), (q8, .inl ((ct 0), 8, .inl a8)), (q9, .inl ((ct 2), 40, .inl a9)), (q10, .inl ((ct 0), 40, .inl b0)), (q11, .inl ((ct 0), 40, .inl b1)), (q12, .inl ((ct 0), 40, .inl b2)), (q13, .inl ((ct 0), 40, .inl b3)), (q14, .inl ((ct 1), 40, .inr (.inl b4))), (q16, .inl ((ct 1), 40, .inr (.inl b6))), (q20, .inl ((ct 1), 40, .inr (.inl b10)))] sz) := by
  refine Met.ofW (cc := mb_M_server) (maxL := 7) (ret := (some .int)) (by decide) rfl ?_
  intro p e s m args below meth c s₁ B hml hv
  obtain ⟨rfl, hsz, hP, hK, hD0⟩ := hv
  have hx := B.exec
  have hb := B.bytes
  have hr := B.returns
  have hts := atoms_spec (ws := tb_w my_M_server mb_M_server 7 (some .int)) B.pre
  have hw : ∀ w ∈ gt_tbl, w.before [.ref hm, .int (nI k), .int wy, .long se].toArray s = true := fun w h => hts w (List.mem_cons_of_mem _ h)
  have hown : s.vm.findClass cr_M = some m.cls := findClass_of_methodNamed B.named
  have hlocks := B.notSynchronized
  subst hsz
  have hD := hD0.self (sz := s.heap.size)
  generalize hAe : va_A [(hm, .inr (4, [.int th, .long sd, .int nw, .long hh, .ref q1, .ref q2, .ref q3, .ref q4, .ref q5, .ref q6, .ref q7, .ref q8, .int (nI n), .ref q9, .ref q10, .ref q11, .ref q12, .ref q13, .ref q14, .ref q15, .ref q16, .ref q17, .ref q18, .ref q19, .ref q20])), (q1, .inl ((ct 0), 8, .inl a1)), (q2, .inl ((ct 1), 8, .inr (.inl a2))), (q4, .inl ((ct 1), 8, .inr (.inl a4))), (q5, .inl ((ct 0), 8, .inl a5)), (q8, .inl ((ct 0), 8, .inl a8)), (q9, .inl ((ct 2), 40, .inl a9)), (q10, .inl ((ct 0), 40, .inl b0)), (q11, .inl ((ct 0), 40, .inl b1)), (q12, .inl ((ct 0), 40, .inl b2)), (q13, .inl ((ct 0), 40, .inl b3)), (q14, .inl ((ct 1), 40, .inr (.inl b4))), (q16, .inl ((ct 1), 40, .inr (.inl b6))), (q20, .inl ((ct 1), 40, .inr (.inl b10)))] s.heap.size = A at hD ⊢
  have hA : ∀ q : Nat, s.heap.size ≤ q → A q := fun q h => by rw [← hAe]; exact Or.inr h
  have hS : va_S A s.heap s.heap [] := va_S.rf
  have hP : va_P G classes [(hm, .inr (4, [.int th, .long sd, .int nw, .long hh, .ref q1, .ref q2, .ref q3, .ref q4, .ref q5, .ref q6, .ref q7, .ref q8, .int (nI n), .ref q9, .ref q10, .ref q11, .ref q12, .ref q13, .ref q14, .ref q15, .ref q16, .ref q17, .ref q18, .ref q19, .ref q20])), (q1, .inl ((ct 0), 8, .inl a1)), (q2, .inl ((ct 1), 8, .inr (.inl a2))), (q4, .inl ((ct 1), 8, .inr (.inl a4))), (q5, .inl ((ct 0), 8, .inl a5)), (q8, .inl ((ct 0), 8, .inl a8)), (q9, .inl ((ct 2), 40, .inl a9)), (q10, .inl ((ct 0), 40, .inl b0)), (q11, .inl ((ct 0), 40, .inl b1)), (q12, .inl ((ct 0), 40, .inl b2)), (q13, .inl ((ct 0), 40, .inl b3)), (q14, .inl ((ct 1), 40, .inr (.inl b4))), (q16, .inl ((ct 1), 40, .inr (.inl b6))), (q20, .inl ((ct 1), 40, .inr (.inl b10)))] s.heap := hP
  have hl := lv_entry ([.ref hm, .int (nI k), .int wy, .long se]) (n := 7) (Nat.le_of_ble_eq_true rfl)
  rw [lg_entry_eq]
  generalize (lg_sl ([.ref hm, .int (nI k), .int wy, .long se]) ++ List.replicate (7 - (lg_sl ([.ref hm, .int (nI k), .int wy, .long se])).length) Slot.unset).toArray = ls at hl ⊢
  have hl : lv_has ls 7 [(0, .ref hm), (1, .int (nI k)), (2, .int wy), (3, .long se)] := hl
  have hwi : wy_in wy := Or.inr hwy
  refine lv_aload_n hx hb d_M_server_0 rfl (lv_at hl 0 rfl) ?_
  refine lv_iload_n hx hb d_M_server_1 rfl (lv_at hl 1 rfl) ?_
  refine vp_callSi (W.runS (As := [.int (nI k)]) (rest := [.ref hm]) ⟨hx, hb, hml, hown, hts⟩ (c_M_isUser l (nI k)) (tb_S hw cy_M_isUser ww_727 ww_728 rfl rfl ⟨Nat.le_of_ble_eq_true rfl, Nat.le_of_ble_eq_true rfl⟩) preEq rfl rfl hl.1 rfl (lv_room (Nat.le_of_ble_eq_true rfl)) d_M_server_2 ⟨Nat.le_of_ble_eq_true rfl, Nat.le_of_ble_eq_true rfl⟩) (fun r650 er650 => ?_)
  subst er650
  refine tp_i (if_pos (us_k hk)) ?_
  refine lv_if_eq (tgt := 15) hx hb d_M_server_5 (by decide) (fun h651 => ?_) (fun h651 => ?_)
  · exact absurd h651 (by decide)
  · refine lv_iload_n hx hb d_M_server_8 rfl (lv_at hl 2 rfl) ?_
    refine vp_callSi (W.runS (As := [.int wy]) (rest := [.ref hm]) ⟨hx, hb, hml, hown, hts⟩ (c_M_isWay l wy) (tb_S hw cy_M_isWay ww_730 ww_731 rfl rfl ⟨Nat.le_of_ble_eq_true rfl, Nat.le_of_ble_eq_true rfl⟩) preEq rfl rfl hl.1 rfl (lv_room (Nat.le_of_ble_eq_true rfl)) d_M_server_9 ⟨Nat.le_of_ble_eq_true rfl, Nat.le_of_ble_eq_true rfl⟩) (fun r652 er652 => ?_)
    subst er652
    refine tp_i (if_pos hwi) ?_
    refine lv_if_ne (tgt := 19) hx hb d_M_server_12 (by decide) (fun h653 => ?_) (fun h653 => ?_)
    · refine lv_aload_n hx hb d_M_server_19 rfl (lv_at hl 0 rfl) ?_
      refine va_get (D := G) (ci := 4) (v := .int (nI n)) (C := cr_M) (T := cf_M) (N := 25) hx hb hw uw_M hown hK.1 hP 0 rfl rfl 12 (by decide) (hw _ ww_652) (fun _ h9 => h9) rfl d_M_server_20 ?_
      refine lv_bipush (v := 40) hx hb d_M_server_23 (by decide) ?_
      refine lv_icmp_eq (tgt := 36) hx hb d_M_server_25 (by decide) (fun h654 => ?_) (fun h654 => ?_)
      · exact absurd h654 (n40 hn)
      · refine lv_aload_n hx hb d_M_server_28 rfl (lv_at hl 0 rfl) ?_
        refine lv_iload_n hx hb d_M_server_29 rfl (lv_at hl 1 rfl) ?_
        have hPc : va_P G classes [(hm, .inr (4, [.int th, .long sd, .int nw, .long hh, .ref q1, .ref q2, .ref q3, .ref q4, .ref q5, .ref q6, .ref q7, .ref q8, .int (nI n), .ref q9, .ref q10, .ref q11, .ref q12, .ref q13, .ref q14, .ref q15, .ref q16, .ref q17, .ref q18, .ref q19, .ref q20])), (q5, .inl ((ct 0), 8, .inl a5)), (q8, .inl ((ct 0), 8, .inl a8))] s.heap := hP.sub [0, 4, 5] rfl
        have hDc := hD.sub (ws' := [(hm, .inr (4, [.int th, .long sd, .int nw, .long hh, .ref q1, .ref q2, .ref q3, .ref q4, .ref q5, .ref q6, .ref q7, .ref q8, .int (nI n), .ref q9, .ref q10, .ref q11, .ref q12, .ref q13, .ref q14, .ref q15, .ref q16, .ref q17, .ref q18, .ref q19, .ref q20])), (q5, .inl ((ct 0), 8, .inl a5)), (q8, .inl ((ct 0), 8, .inl a8))]) [0, 4, 5] (by decide) rfl
        refine vp_callSi (W.runV (As := [.int (nI k)]) (rest := [.ref hm]) ⟨hx, hb, hml, hown, hts⟩ (c_M_isBlocked l G ct s.heap.size hm th sd nw hh q1 q2 q3 q4 q5 q6 q7 q8 q9 q10 q11 q12 q13 q14 q15 q16 q17 q18 q19 q20 n a5 a8 k (by first | assumption | exact m63 (by first | assumption | exact qs_P (by assumption)) | decide | exact pw_lt _ _ | exact Nat.mod_lt _ pq_pos | exact sc_lt _ | exact sc_pos _ | exact m63 (by first | assumption | exact pw_lt _ _ | exact Nat.mod_lt _ pq_pos | exact qs_P (by first | assumption | exact sc_lt _ | exact qz_Q _)) | exact up_se _ _ _ | exact ul_se _ _ _ | omega)) (tb_V hw cy_M_isBlocked ww_800 ww_802 wp_M_isBlocked rfl rfl ⟨Nat.le_of_ble_eq_true rfl, Nat.le_of_ble_eq_true rfl⟩) (wk_preV (ci := 4) (q0 := 0) hPc hK hDc rfl rfl) rfl rfl hl.1 rfl (lv_room (Nat.le_of_ble_eq_true rfl)) d_M_server_30 ⟨Nat.le_of_ble_eq_true rfl, Nat.le_of_ble_eq_true rfl⟩) (fun r655 er655 => ?_)
        subst er655
        refine tp_i (if_neg hbl) ?_
        refine lv_if_eq (tgt := 40) hx hb d_M_server_33 (by decide) (fun h656 => ?_) (fun h656 => ?_)
        · refine lv_iconst (v := 0) hx hb d_M_server_40 (by decide) ?_
          refine va_put (D := G) (ci := 4) (v := .int 0) (ty := .int) (C := cr_M) (T := cf_M) (N := 25) hx hb hw uw_M ct_M ct_M_ok ct_M_nm hown hK.1 hP hD hS 0 rfl rfl 0 (by decide) (hw _ ww_640) (fun _ h9 => h9) rfl (by decide +kernel) rfl rfl (Nat.le_of_ble_eq_true rfl) d_M_server_41 (fun H locs hP hD hS => ?_)
          have hP : va_P G classes [(hm, .inr (4, [.int 0, .long sd, .int nw, .long hh, .ref q1, .ref q2, .ref q3, .ref q4, .ref q5, .ref q6, .ref q7, .ref q8, .int (nI n), .ref q9, .ref q10, .ref q11, .ref q12, .ref q13, .ref q14, .ref q15, .ref q16, .ref q17, .ref q18, .ref q19, .ref q20])), (q1, .inl ((ct 0), 8, .inl a1)), (q2, .inl ((ct 1), 8, .inr (.inl a2))), (q4, .inl ((ct 1), 8, .inr (.inl a4))), (q5, .inl ((ct 0), 8, .inl a5)), (q8, .inl ((ct 0), 8, .inl a8)), (q9, .inl ((ct 2), 40, .inl a9)), (q10, .inl ((ct 0), 40, .inl b0)), (q11, .inl ((ct 0), 40, .inl b1)), (q12, .inl ((ct 0), 40, .inl b2)), (q13, .inl ((ct 0), 40, .inl b3)), (q14, .inl ((ct 1), 40, .inr (.inl b4))), (q16, .inl ((ct 1), 40, .inr (.inl b6))), (q20, .inl ((ct 1), 40, .inr (.inl b10)))] H := hP
          have hD : va_D A [(hm, .inr (4, [.int 0, .long sd, .int nw, .long hh, .ref q1, .ref q2, .ref q3, .ref q4, .ref q5, .ref q6, .ref q7, .ref q8, .int (nI n), .ref q9, .ref q10, .ref q11, .ref q12, .ref q13, .ref q14, .ref q15, .ref q16, .ref q17, .ref q18, .ref q19, .ref q20])), (q1, .inl ((ct 0), 8, .inl a1)), (q2, .inl ((ct 1), 8, .inr (.inl a2))), (q4, .inl ((ct 1), 8, .inr (.inl a4))), (q5, .inl ((ct 0), 8, .inl a5)), (q8, .inl ((ct 0), 8, .inl a8)), (q9, .inl ((ct 2), 40, .inl a9)), (q10, .inl ((ct 0), 40, .inl b0)), (q11, .inl ((ct 0), 40, .inl b1)), (q12, .inl ((ct 0), 40, .inl b2)), (q13, .inl ((ct 0), 40, .inl b3)), (q14, .inl ((ct 1), 40, .inr (.inl b4))), (q16, .inl ((ct 1), 40, .inr (.inl b6))), (q20, .inl ((ct 1), 40, .inr (.inl b10)))] := hD
          refine lv_aload_n hx hb d_M_server_44 rfl (lv_at hl 0 rfl) ?_
          refine va_get (D := G) (ci := 4) (v := .int 0) (C := cr_M) (T := cf_M) (N := 25) hx hb hw uw_M hown hK.1 hP 0 rfl rfl 0 (by decide) (hw _ ww_640) (fun _ h9 => h9) rfl d_M_server_45 ?_
          refine lv_if_le (tgt := 53) hx hb d_M_server_48 (by decide) (fun h657 => ?_) (fun h657 => ?_)
          · refine lv_aload_n hx hb d_M_server_53 rfl (lv_at hl 0 rfl) ?_
            refine lv_iload_n hx hb d_M_server_54 rfl (lv_at hl 1 rfl) ?_
            refine lv_iload_n hx hb d_M_server_55 rfl (lv_at hl 2 rfl) ?_
            refine lv_lload_n hx hb d_M_server_56 rfl (lv_at hl 3 rfl) ?_
            have hPc : va_P G classes [(hm, .inr (4, [.int 0, .long sd, .int nw, .long hh, .ref q1, .ref q2, .ref q3, .ref q4, .ref q5, .ref q6, .ref q7, .ref q8, .int (nI n), .ref q9, .ref q10, .ref q11, .ref q12, .ref q13, .ref q14, .ref q15, .ref q16, .ref q17, .ref q18, .ref q19, .ref q20])), (q10, .inl ((ct 0), 40, .inl b0)), (q11, .inl ((ct 0), 40, .inl b1)), (q12, .inl ((ct 0), 40, .inl b2)), (q13, .inl ((ct 0), 40, .inl b3)), (q14, .inl ((ct 1), 40, .inr (.inl b4))), (q20, .inl ((ct 1), 40, .inr (.inl b10)))] H := hP.sub [0, 7, 8, 9, 10, 11, 13] rfl
            have hDc := hD.sub (ws' := [(hm, .inr (4, [.int 0, .long sd, .int nw, .long hh, .ref q1, .ref q2, .ref q3, .ref q4, .ref q5, .ref q6, .ref q7, .ref q8, .int (nI n), .ref q9, .ref q10, .ref q11, .ref q12, .ref q13, .ref q14, .ref q15, .ref q16, .ref q17, .ref q18, .ref q19, .ref q20])), (q10, .inl ((ct 0), 40, .inl b0)), (q11, .inl ((ct 0), 40, .inl b1)), (q12, .inl ((ct 0), 40, .inl b2)), (q13, .inl ((ct 0), 40, .inl b3)), (q14, .inl ((ct 1), 40, .inr (.inl b4))), (q20, .inl ((ct 1), 40, .inr (.inl b10)))]) [0, 7, 8, 9, 10, 11, 13] (by decide) rfl
            refine wk_i (va_runV (As := [.int (nI k), .int wy, .long se]) (rest := []) ⟨hx, hb, hml, hown, hts⟩ (c_M_open l G ct H.size hm 0 sd nw hh q1 q2 q3 q4 q5 q6 q7 q8 q9 q10 q11 q12 q13 q14 q15 q16 q17 q18 q19 q20 n b0 b1 b2 b3 b4 b10 (nI k) wy se (by first | assumption | exact m63 (by first | assumption | exact qs_P (by assumption)) | decide | exact pw_lt _ _ | exact Nat.mod_lt _ pq_pos | exact sc_lt _ | exact sc_pos _ | exact m63 (by first | assumption | exact pw_lt _ _ | exact Nat.mod_lt _ pq_pos | exact qs_P (by first | assumption | exact sc_lt _ | exact qz_Q _)) | exact up_se _ _ _ | exact ul_se _ _ _ | omega)) (tb_V hw cy_M_open ww_791 ww_793 wp_M_open rfl rfl ⟨Nat.le_of_ble_eq_true rfl, Nat.le_of_ble_eq_true rfl⟩) (wk_preV (ci := 4) (q0 := 0) hPc hK hDc rfl rfl) rfl rfl hl.1 rfl (lv_room (Nat.le_of_ble_eq_true rfl)) d_M_server_57 ⟨Nat.le_of_ble_eq_true rfl, Nat.le_of_ble_eq_true rfl⟩) hP hD hS hA [0, 7, 8, 9, 10, 11, 13] (by decide) rfl (fun _ => by simp only [List.map_cons, List.map_nil]) (fun _ H locs ok658 hP hD hS => ?_)
            have hP : va_P G classes [(hm, .inr (4, [.int 0, .long sd, .int nw, .long hh, .ref q1, .ref q2, .ref q3, .ref q4, .ref q5, .ref q6, .ref q7, .ref q8, .int (nI (n + 1)), .ref q9, .ref q10, .ref q11, .ref q12, .ref q13, .ref q14, .ref q15, .ref q16, .ref q17, .ref q18, .ref q19, .ref q20])), (q1, .inl ((ct 0), 8, .inl a1)), (q2, .inl ((ct 1), 8, .inr (.inl a2))), (q4, .inl ((ct 1), 8, .inr (.inl a4))), (q5, .inl ((ct 0), 8, .inl a5)), (q8, .inl ((ct 0), 8, .inl a8)), (q9, .inl ((ct 2), 40, .inl a9)), (q10, .inl ((ct 0), 40, .inl (upd b0 n wy))), (q11, .inl ((ct 0), 40, .inl (upd b1 n (nI k)))), (q12, .inl ((ct 0), 40, .inl (upd b2 n 0))), (q13, .inl ((ct 0), 40, .inl (upd b3 n nw))), (q14, .inl ((ct 1), 40, .inr (.inl (vp_updL b4 n (lN (sc_n se)))))), (q16, .inl ((ct 1), 40, .inr (.inl b6))), (q20, .inl ((ct 1), 40, .inr (.inl (vp_updL b10 n 0))))] H := hP
            have hD : va_D A [(hm, .inr (4, [.int 0, .long sd, .int nw, .long hh, .ref q1, .ref q2, .ref q3, .ref q4, .ref q5, .ref q6, .ref q7, .ref q8, .int (nI (n + 1)), .ref q9, .ref q10, .ref q11, .ref q12, .ref q13, .ref q14, .ref q15, .ref q16, .ref q17, .ref q18, .ref q19, .ref q20])), (q1, .inl ((ct 0), 8, .inl a1)), (q2, .inl ((ct 1), 8, .inr (.inl a2))), (q4, .inl ((ct 1), 8, .inr (.inl a4))), (q5, .inl ((ct 0), 8, .inl a5)), (q8, .inl ((ct 0), 8, .inl a8)), (q9, .inl ((ct 2), 40, .inl a9)), (q10, .inl ((ct 0), 40, .inl (upd b0 n wy))), (q11, .inl ((ct 0), 40, .inl (upd b1 n (nI k)))), (q12, .inl ((ct 0), 40, .inl (upd b2 n 0))), (q13, .inl ((ct 0), 40, .inl (upd b3 n nw))), (q14, .inl ((ct 1), 40, .inr (.inl (vp_updL b4 n (lN (sc_n se)))))), (q16, .inl ((ct 1), 40, .inr (.inl b6))), (q20, .inl ((ct 1), 40, .inr (.inl (vp_updL b10 n 0))))] := hD
            refine lv_istore (lv' := [(5, .int (nI n)), (0, .ref hm), (1, .int (nI k)), (2, .int wy), (3, .long se)]) hx hb d_M_server_60 hl (Nat.le_of_ble_eq_true rfl) rfl (fun ls hl => ?_)
            refine lv_aload_n hx hb d_M_server_62 rfl (lv_at hl 1 rfl) ?_
            refine va_get (D := G) (ci := 4) (v := .ref q9) (C := cr_M) (T := cf_M) (N := 25) hx hb hw uw_M hown hK.1 hP 0 rfl rfl 13 (by decide) (hw _ ww_653) (fun _ h9 => h9) rfl d_M_server_63 ?_
            refine lv_iload hx hb d_M_server_66 (lv_at hl 0 rfl) ?_
            refine lv_iconst (v := 1) hx hb d_M_server_68 (by decide) ?_
            refine ra_zs hx hb hK.1 hP hD hS 6 2 rfl rfl (k := n) (by omega) (by decide) rfl d_M_server_69 (fun H locs hP hD hS => ?_)
            have hP : va_P G classes [(hm, .inr (4, [.int 0, .long sd, .int nw, .long hh, .ref q1, .ref q2, .ref q3, .ref q4, .ref q5, .ref q6, .ref q7, .ref q8, .int (nI (n + 1)), .ref q9, .ref q10, .ref q11, .ref q12, .ref q13, .ref q14, .ref q15, .ref q16, .ref q17, .ref q18, .ref q19, .ref q20])), (q1, .inl ((ct 0), 8, .inl a1)), (q2, .inl ((ct 1), 8, .inr (.inl a2))), (q4, .inl ((ct 1), 8, .inr (.inl a4))), (q5, .inl ((ct 0), 8, .inl a5)), (q8, .inl ((ct 0), 8, .inl a8)), (q9, .inl ((ct 2), 40, .inl (upd a9 n 1))), (q10, .inl ((ct 0), 40, .inl (upd b0 n wy))), (q11, .inl ((ct 0), 40, .inl (upd b1 n (nI k)))), (q12, .inl ((ct 0), 40, .inl (upd b2 n 0))), (q13, .inl ((ct 0), 40, .inl (upd b3 n nw))), (q14, .inl ((ct 1), 40, .inr (.inl (vp_updL b4 n (lN (sc_n se)))))), (q16, .inl ((ct 1), 40, .inr (.inl b6))), (q20, .inl ((ct 1), 40, .inr (.inl (vp_updL b10 n 0))))] H := hP
            have hD : va_D A [(hm, .inr (4, [.int 0, .long sd, .int nw, .long hh, .ref q1, .ref q2, .ref q3, .ref q4, .ref q5, .ref q6, .ref q7, .ref q8, .int (nI (n + 1)), .ref q9, .ref q10, .ref q11, .ref q12, .ref q13, .ref q14, .ref q15, .ref q16, .ref q17, .ref q18, .ref q19, .ref q20])), (q1, .inl ((ct 0), 8, .inl a1)), (q2, .inl ((ct 1), 8, .inr (.inl a2))), (q4, .inl ((ct 1), 8, .inr (.inl a4))), (q5, .inl ((ct 0), 8, .inl a5)), (q8, .inl ((ct 0), 8, .inl a8)), (q9, .inl ((ct 2), 40, .inl (upd a9 n 1))), (q10, .inl ((ct 0), 40, .inl (upd b0 n wy))), (q11, .inl ((ct 0), 40, .inl (upd b1 n (nI k)))), (q12, .inl ((ct 0), 40, .inl (upd b2 n 0))), (q13, .inl ((ct 0), 40, .inl (upd b3 n nw))), (q14, .inl ((ct 1), 40, .inr (.inl (vp_updL b4 n (lN (sc_n se)))))), (q16, .inl ((ct 1), 40, .inr (.inl b6))), (q20, .inl ((ct 1), 40, .inr (.inl (vp_updL b10 n 0))))] := hD
            refine lv_aload_n hx hb d_M_server_70 rfl (lv_at hl 1 rfl) ?_
            refine va_get (D := G) (ci := 4) (v := .ref q1) (C := cr_M) (T := cf_M) (N := 25) hx hb hw uw_M hown hK.1 hP 0 rfl rfl 4 (by decide) (hw _ ww_644) (fun _ h9 => h9) rfl d_M_server_71 ?_
            refine lv_iload_n hx hb d_M_server_74 rfl (lv_at hl 2 rfl) ?_
            refine ra_il hx hb hK.1 hP 1 0 rfl rfl (k := k) (by omega) (by decide) d_M_server_75 ?_
            refine lv_iload_n hx hb d_M_server_76 rfl (lv_at hl 3 rfl) ?_
            refine lv_icmp_ne (tgt := 84) hx hb d_M_server_77 (by decide) (fun h659 => ?_) (fun h659 => ?_)
            · exact absurd how h659
            · refine lv_iconst (v := 1) hx hb d_M_server_80 (by decide) ?_
              refine lv_goto (tgt := 85) hx hb d_M_server_81 (by decide) ?_
              refine lv_istore (lv' := [(6, .int 1), (5, .int (nI n)), (0, .ref hm), (1, .int (nI k)), (2, .int wy), (3, .long se)]) hx hb d_M_server_85 hl (Nat.le_of_ble_eq_true rfl) rfl (fun ls hl => ?_)
              refine lv_iload_n hx hb d_M_server_87 rfl (lv_at hl 4 rfl) ?_
              refine lv_if_ne (tgt := 124) hx hb d_M_server_88 (by decide) (fun h660 => ?_) (fun h660 => ?_)
              · refine lv_aload_n hx hb d_M_server_124 rfl (lv_at hl 2 rfl) ?_
                refine va_get (D := G) (ci := 4) (v := .ref q16) (C := cr_M) (T := cf_M) (N := 25) hx hb hw uw_M hown hK.1 hP 0 rfl rfl 20 (by decide) (hw _ ww_660) (fun _ h9 => h9) rfl d_M_server_125 ?_
                refine lv_iload hx hb d_M_server_128 (lv_at hl 1 rfl) ?_
                refine lv_iload hx hb d_M_server_130 (lv_at hl 0 rfl) ?_
                refine lv_if_eq (tgt := 144) hx hb d_M_server_132 (by decide) (fun h661 => ?_) (fun h661 => ?_)
                · exact absurd h661 (by decide)
                · refine lv_aload_n hx hb d_M_server_135 rfl (lv_at hl 2 rfl) ?_
                  refine va_get (D := G) (ci := 4) (v := .ref q4) (C := cr_M) (T := cf_M) (N := 25) hx hb hw uw_M hown hK.1 hP 0 rfl rfl 7 (by decide) (hw _ ww_647) (fun _ h9 => h9) rfl d_M_server_136 ?_
                  refine lv_iload_n hx hb d_M_server_139 rfl (lv_at hl 3 rfl) ?_
                  refine ra_ll hx hb hK.1 hP 3 1 rfl rfl (k := k) (by omega) (by decide) d_M_server_140 ?_
                  refine lv_goto (tgt := 159) hx hb d_M_server_141 (by decide) ?_
                  refine ra_ls hx hb hK.1 hP hD hS 12 1 rfl rfl (k := n) (by omega) (by decide) d_M_server_159 (fun H locs hP hD hS => ?_)
                  have hP : va_P G classes [(hm, .inr (4, [.int 0, .long sd, .int nw, .long hh, .ref q1, .ref q2, .ref q3, .ref q4, .ref q5, .ref q6, .ref q7, .ref q8, .int (nI (n + 1)), .ref q9, .ref q10, .ref q11, .ref q12, .ref q13, .ref q14, .ref q15, .ref q16, .ref q17, .ref q18, .ref q19, .ref q20])), (q1, .inl ((ct 0), 8, .inl a1)), (q2, .inl ((ct 1), 8, .inr (.inl a2))), (q4, .inl ((ct 1), 8, .inr (.inl a4))), (q5, .inl ((ct 0), 8, .inl a5)), (q8, .inl ((ct 0), 8, .inl a8)), (q9, .inl ((ct 2), 40, .inl (upd a9 n 1))), (q10, .inl ((ct 0), 40, .inl (upd b0 n wy))), (q11, .inl ((ct 0), 40, .inl (upd b1 n (nI k)))), (q12, .inl ((ct 0), 40, .inl (upd b2 n 0))), (q13, .inl ((ct 0), 40, .inl (upd b3 n nw))), (q14, .inl ((ct 1), 40, .inr (.inl (vp_updL b4 n (lN (sc_n se)))))), (q16, .inl ((ct 1), 40, .inr (.inl (vp_updL b6 n (a4 k))))), (q20, .inl ((ct 1), 40, .inr (.inl (vp_updL b10 n 0))))] H := hP
                  have hD : va_D A [(hm, .inr (4, [.int 0, .long sd, .int nw, .long hh, .ref q1, .ref q2, .ref q3, .ref q4, .ref q5, .ref q6, .ref q7, .ref q8, .int (nI (n + 1)), .ref q9, .ref q10, .ref q11, .ref q12, .ref q13, .ref q14, .ref q15, .ref q16, .ref q17, .ref q18, .ref q19, .ref q20])), (q1, .inl ((ct 0), 8, .inl a1)), (q2, .inl ((ct 1), 8, .inr (.inl a2))), (q4, .inl ((ct 1), 8, .inr (.inl a4))), (q5, .inl ((ct 0), 8, .inl a5)), (q8, .inl ((ct 0), 8, .inl a8)), (q9, .inl ((ct 2), 40, .inl (upd a9 n 1))), (q10, .inl ((ct 0), 40, .inl (upd b0 n wy))), (q11, .inl ((ct 0), 40, .inl (upd b1 n (nI k)))), (q12, .inl ((ct 0), 40, .inl (upd b2 n 0))), (q13, .inl ((ct 0), 40, .inl (upd b3 n nw))), (q14, .inl ((ct 1), 40, .inr (.inl (vp_updL b4 n (lN (sc_n se)))))), (q16, .inl ((ct 1), 40, .inr (.inl (vp_updL b6 n (a4 k))))), (q20, .inl ((ct 1), 40, .inr (.inl (vp_updL b10 n 0))))] := hD
                  refine lv_iload hx hb d_M_server_160 (lv_at hl 1 rfl) ?_
                  exact W.iret (v := nI n) hx hb hr (fun t ht hW => ⟨⟨hh, ⟨rfl, trivial⟩, by rw [ht]; exact hP, hD⟩, hS.F ht⟩) hS.2.2 d_M_server_162
              · exact absurd (h660.symm.trans hwy) (by decide)
          · exact absurd h657 (by decide)
        · exact absurd h656 (by decide)
    · exact absurd h653 (by decide)
set_option maxHeartbeats 4000000 in
set_option maxRecDepth 100000 in
theorem c_M_server1S0 (l : Launch) (G : va_G) (ct : Nat → ClassId) (sz : Nat) (hm : Nat) (th : Int32) (sd : Int64) (nw : Int32) (hh : Int64) (q1 : Nat) (q2 : Nat) (q3 : Nat) (q4 : Nat) (q5 : Nat) (q6 : Nat) (q7 : Nat) (q8 : Nat) (q9 : Nat) (q10 : Nat) (q11 : Nat) (q12 : Nat) (q13 : Nat) (q14 : Nat) (q15 : Nat) (q16 : Nat) (q17 : Nat) (q18 : Nat) (q19 : Nat) (q20 : Nat) (n : Nat) (a1 : Nat → Int32) (a2 : Nat → Int64) (a4 : Nat → Int64) (a5 : Nat → Int32) (a8 : Nat → Int32) (a9 : Nat → Int32) (b0 : Nat → Int32) (b1 : Nat → Int32) (b2 : Nat → Int32) (b3 : Nat → Int32) (b4 : Nat → Int64) (b6 : Nat → Int64) (b10 : Nat → Int64) (k : Nat) (wy : Int32) (se : Int64) (hk : k < 8) (hn : n < 40) (hwy : wy = 1) (how : ¬ a1 k = wy) (hbl : ¬ sm_bl (a5 k) (a8 k) nw) : Met l my_M_server (tb_w my_M_server mb_M_server 7 (some .int)) ({ frames := 3, cells := 0, slots := 0, locals := 69 }) (wk_P [.ref hm, .int (nI k), .int wy, .long se] G ct [(hm, .inr (4, [.int th, .long sd, .int nw, .long hh, .ref q1, .ref q2, .ref q3, .ref q4, .ref q5, .ref q6, .ref q7, .ref q8, .int (nI n), .ref q9, .ref q10, .ref q11, .ref q12, .ref q13, .ref q14, .ref q15, .ref q16, .ref q17, .ref q18, .ref q19, .ref q20])), (q1, .inl ((ct 0), 8, .inl a1)), (q2, .inl ((ct 1), 8, .inr (.inl a2))), (q4, .inl ((ct 1), 8, .inr (.inl a4))), (q5, .inl ((ct 0), 8, .inl a5)), (q8, .inl ((ct 0), 8, .inl a8)), (q9, .inl ((ct 2), 40, .inl a9)), (q10, .inl ((ct 0), 40, .inl b0)), (q11, .inl ((ct 0), 40, .inl b1)), (q12, .inl ((ct 0), 40, .inl b2)), (q13, .inl ((ct 0), 40, .inl b3)), (q14, .inl ((ct 1), 40, .inr (.inl b4))), (q16, .inl ((ct 1), 40, .inr (.inl b6))), (q20, .inl ((ct 1), 40, .inr (.inl b10)))] sz) (wk_Q (wk_oi (S := Int64) (fun z2 => nI n) (fun _ => True)) (fun z2 : Int64 => [(hm, .inr (4, [.int 0, .long sd, .int nw, .long z2, .ref q1, .ref q2, .ref q3, .ref q4, .ref q5, .ref q6, .ref q7, .ref q8, .int (nI (n + 1)), .ref q9, .ref q10, .ref q11, .ref q12, .ref q13, .ref q14, .ref q15, .ref q16, .ref q17, .ref q18, .ref q19, .ref q20])), (q1, .inl ((ct 0), 8, .inl a1)), (q2, .inl ((ct 1), 8, .inr (.inl a2))), (q4, .inl ((ct 1), 8, .inr (.inl a4))), (q5, .inl ((ct 0), 8, .inl a5)), (q8, .inl ((ct 0), 8, .inl a8)), (q9, .inl ((ct 2), 40, .inl (upd a9 n 1))), (q10, .inl ((ct 0), 40, .inl (upd b0 n wy))), (q11, .inl ((ct 0), 40, .inl (upd b1 n (nI k)))), (q12, .inl ((ct 0), 40, .inl (upd b2 n 0))), (q13, .inl ((ct 0), 40, .inl (upd b3 n nw))), (q14, .inl ((ct 1), 40, .inr (.inl (vp_updL b4 n (lN (sc_n se)))))), (q16, .inl ((ct 1), 40, .inr (.inl (vp_updL b6 n (lN (pw_m 4 (sc_n (dg_3 (Int32.toInt64 5) sd (Int32.toInt64 (nI k)))))))))), (q20, .inl ((ct 1), 40, .inr (.inl (vp_updL b10 n 0))))]) G (va_A [(hm, .inr (4, [.int th, .long sd, .int nw, .long hh, .ref q1, .ref q2, .ref q3, .ref q4, .ref q5, .ref q6, .ref q7, .ref q8, .int (nI n), .ref q9, .ref q10, .ref q11, .ref q12, .ref q13, .ref q14, .ref q15, .ref q16, .ref q17, .ref q18, .ref q19, .ref q20])), (q1, .inl ((ct 0), 8, .inl a1)), (q2, .inl ((ct 1), 8, .inr (.inl a2))), (q4, .inl ((ct 1), 8, .inr (.inl a4))), (q5, .inl ((ct 0), 8, .inl a5)), (q8, .inl ((ct 0), 8, .inl a8)), (q9, .inl ((ct 2), 40, .inl a9)), (q10, .inl ((ct 0), 40, .inl b0)), (q11, .inl ((ct 0), 40, .inl b1)), (q12, .inl ((ct 0), 40, .inl b2)), (q13, .inl ((ct 0), 40, .inl b3)), (q14, .inl ((ct 1), 40, .inr (.inl b4))), (q16, .inl ((ct 1), 40, .inr (.inl b6))), (q20, .inl ((ct 1), 40, .inr (.inl b10)))] sz)) 0 0 (va_A [(hm, .inr (4, [.int th, .long sd, .int nw, .long hh, .ref q1, .ref q2, .ref q3, .ref q4, .ref q5, .ref q6, .ref q7, .ref q8, .int (nI n), .ref q9, .ref q10, .ref q11, .ref q12, .ref q13, .ref q14, .ref q15, .ref q16, .ref q17, .ref q18, .ref q19, .ref q20])), (q1, .inl ((ct 0), 8, .inl a1)), (q2, .inl ((ct 1), 8, .inr (.inl a2))), (q4, .inl ((ct 1), 8, .inr (.inl a4))), (q5, .inl ((ct 0), 8, .inl a5)), (q8, .inl ((ct 0), 8, .inl a8)), (q9, .inl ((ct 2), 40, .inl a9)), (q10, .inl ((ct 0), 40, .inl b0)), (q11, .inl ((ct 0), 40, .inl b1)), (q12, .inl ((ct 0), 40, .inl b2)), (q13, .inl ((ct 0), 40, .inl b3)), (q14, .inl ((ct 1), 40, .inr (.inl b4))), (q16, .inl ((ct 1), 40, .inr (.inl b6))), (q20, .inl ((ct 1), 40, .inr (.inl b10)))] sz) := by
  refine Met.ofW (cc := mb_M_server) (maxL := 7) (ret := (some .int)) (by decide) rfl ?_
  intro p e s m args below meth c s₁ B hml hv
  obtain ⟨rfl, hsz, hP, hK, hD0⟩ := hv
  have hx := B.exec
  have hb := B.bytes
  have hr := B.returns
  have hts := atoms_spec (ws := tb_w my_M_server mb_M_server 7 (some .int)) B.pre
  have hw : ∀ w ∈ gt_tbl, w.before [.ref hm, .int (nI k), .int wy, .long se].toArray s = true := fun w h => hts w (List.mem_cons_of_mem _ h)
  have hown : s.vm.findClass cr_M = some m.cls := findClass_of_methodNamed B.named
  have hlocks := B.notSynchronized
  subst hsz
  have hD := hD0.self (sz := s.heap.size)
  generalize hAe : va_A [(hm, .inr (4, [.int th, .long sd, .int nw, .long hh, .ref q1, .ref q2, .ref q3, .ref q4, .ref q5, .ref q6, .ref q7, .ref q8, .int (nI n), .ref q9, .ref q10, .ref q11, .ref q12, .ref q13, .ref q14, .ref q15, .ref q16, .ref q17, .ref q18, .ref q19, .ref q20])), (q1, .inl ((ct 0), 8, .inl a1)), (q2, .inl ((ct 1), 8, .inr (.inl a2))), (q4, .inl ((ct 1), 8, .inr (.inl a4))), (q5, .inl ((ct 0), 8, .inl a5)), (q8, .inl ((ct 0), 8, .inl a8)), (q9, .inl ((ct 2), 40, .inl a9)), (q10, .inl ((ct 0), 40, .inl b0)), (q11, .inl ((ct 0), 40, .inl b1)), (q12, .inl ((ct 0), 40, .inl b2)), (q13, .inl ((ct 0), 40, .inl b3)), (q14, .inl ((ct 1), 40, .inr (.inl b4))), (q16, .inl ((ct 1), 40, .inr (.inl b6))), (q20, .inl ((ct 1), 40, .inr (.inl b10)))] s.heap.size = A at hD ⊢
  have hA : ∀ q : Nat, s.heap.size ≤ q → A q := fun q h => by rw [← hAe]; exact Or.inr h
  have hS : va_S A s.heap s.heap [] := va_S.rf
  have hP : va_P G classes [(hm, .inr (4, [.int th, .long sd, .int nw, .long hh, .ref q1, .ref q2, .ref q3, .ref q4, .ref q5, .ref q6, .ref q7, .ref q8, .int (nI n), .ref q9, .ref q10, .ref q11, .ref q12, .ref q13, .ref q14, .ref q15, .ref q16, .ref q17, .ref q18, .ref q19, .ref q20])), (q1, .inl ((ct 0), 8, .inl a1)), (q2, .inl ((ct 1), 8, .inr (.inl a2))), (q4, .inl ((ct 1), 8, .inr (.inl a4))), (q5, .inl ((ct 0), 8, .inl a5)), (q8, .inl ((ct 0), 8, .inl a8)), (q9, .inl ((ct 2), 40, .inl a9)), (q10, .inl ((ct 0), 40, .inl b0)), (q11, .inl ((ct 0), 40, .inl b1)), (q12, .inl ((ct 0), 40, .inl b2)), (q13, .inl ((ct 0), 40, .inl b3)), (q14, .inl ((ct 1), 40, .inr (.inl b4))), (q16, .inl ((ct 1), 40, .inr (.inl b6))), (q20, .inl ((ct 1), 40, .inr (.inl b10)))] s.heap := hP
  have hl := lv_entry ([.ref hm, .int (nI k), .int wy, .long se]) (n := 7) (Nat.le_of_ble_eq_true rfl)
  rw [lg_entry_eq]
  generalize (lg_sl ([.ref hm, .int (nI k), .int wy, .long se]) ++ List.replicate (7 - (lg_sl ([.ref hm, .int (nI k), .int wy, .long se])).length) Slot.unset).toArray = ls at hl ⊢
  have hl : lv_has ls 7 [(0, .ref hm), (1, .int (nI k)), (2, .int wy), (3, .long se)] := hl
  have hwi : wy_in wy := Or.inr hwy
  refine lv_aload_n hx hb d_M_server_0 rfl (lv_at hl 0 rfl) ?_
  refine lv_iload_n hx hb d_M_server_1 rfl (lv_at hl 1 rfl) ?_
  refine vp_callSi (W.runS (As := [.int (nI k)]) (rest := [.ref hm]) ⟨hx, hb, hml, hown, hts⟩ (c_M_isUser l (nI k)) (tb_S hw cy_M_isUser ww_727 ww_728 rfl rfl ⟨Nat.le_of_ble_eq_true rfl, Nat.le_of_ble_eq_true rfl⟩) preEq rfl rfl hl.1 rfl (lv_room (Nat.le_of_ble_eq_true rfl)) d_M_server_2 ⟨Nat.le_of_ble_eq_true rfl, Nat.le_of_ble_eq_true rfl⟩) (fun r662 er662 => ?_)
  subst er662
  refine tp_i (if_pos (us_k hk)) ?_
  refine lv_if_eq (tgt := 15) hx hb d_M_server_5 (by decide) (fun h663 => ?_) (fun h663 => ?_)
  · exact absurd h663 (by decide)
  · refine lv_iload_n hx hb d_M_server_8 rfl (lv_at hl 2 rfl) ?_
    refine vp_callSi (W.runS (As := [.int wy]) (rest := [.ref hm]) ⟨hx, hb, hml, hown, hts⟩ (c_M_isWay l wy) (tb_S hw cy_M_isWay ww_730 ww_731 rfl rfl ⟨Nat.le_of_ble_eq_true rfl, Nat.le_of_ble_eq_true rfl⟩) preEq rfl rfl hl.1 rfl (lv_room (Nat.le_of_ble_eq_true rfl)) d_M_server_9 ⟨Nat.le_of_ble_eq_true rfl, Nat.le_of_ble_eq_true rfl⟩) (fun r664 er664 => ?_)
    subst er664
    refine tp_i (if_pos hwi) ?_
    refine lv_if_ne (tgt := 19) hx hb d_M_server_12 (by decide) (fun h665 => ?_) (fun h665 => ?_)
    · refine lv_aload_n hx hb d_M_server_19 rfl (lv_at hl 0 rfl) ?_
      refine va_get (D := G) (ci := 4) (v := .int (nI n)) (C := cr_M) (T := cf_M) (N := 25) hx hb hw uw_M hown hK.1 hP 0 rfl rfl 12 (by decide) (hw _ ww_652) (fun _ h9 => h9) rfl d_M_server_20 ?_
      refine lv_bipush (v := 40) hx hb d_M_server_23 (by decide) ?_
      refine lv_icmp_eq (tgt := 36) hx hb d_M_server_25 (by decide) (fun h666 => ?_) (fun h666 => ?_)
      · exact absurd h666 (n40 hn)
      · refine lv_aload_n hx hb d_M_server_28 rfl (lv_at hl 0 rfl) ?_
        refine lv_iload_n hx hb d_M_server_29 rfl (lv_at hl 1 rfl) ?_
        have hPc : va_P G classes [(hm, .inr (4, [.int th, .long sd, .int nw, .long hh, .ref q1, .ref q2, .ref q3, .ref q4, .ref q5, .ref q6, .ref q7, .ref q8, .int (nI n), .ref q9, .ref q10, .ref q11, .ref q12, .ref q13, .ref q14, .ref q15, .ref q16, .ref q17, .ref q18, .ref q19, .ref q20])), (q5, .inl ((ct 0), 8, .inl a5)), (q8, .inl ((ct 0), 8, .inl a8))] s.heap := hP.sub [0, 4, 5] rfl
        have hDc := hD.sub (ws' := [(hm, .inr (4, [.int th, .long sd, .int nw, .long hh, .ref q1, .ref q2, .ref q3, .ref q4, .ref q5, .ref q6, .ref q7, .ref q8, .int (nI n), .ref q9, .ref q10, .ref q11, .ref q12, .ref q13, .ref q14, .ref q15, .ref q16, .ref q17, .ref q18, .ref q19, .ref q20])), (q5, .inl ((ct 0), 8, .inl a5)), (q8, .inl ((ct 0), 8, .inl a8))]) [0, 4, 5] (by decide) rfl
        refine vp_callSi (W.runV (As := [.int (nI k)]) (rest := [.ref hm]) ⟨hx, hb, hml, hown, hts⟩ (c_M_isBlocked l G ct s.heap.size hm th sd nw hh q1 q2 q3 q4 q5 q6 q7 q8 q9 q10 q11 q12 q13 q14 q15 q16 q17 q18 q19 q20 n a5 a8 k (by first | assumption | exact m63 (by first | assumption | exact qs_P (by assumption)) | decide | exact pw_lt _ _ | exact Nat.mod_lt _ pq_pos | exact sc_lt _ | exact sc_pos _ | exact m63 (by first | assumption | exact pw_lt _ _ | exact Nat.mod_lt _ pq_pos | exact qs_P (by first | assumption | exact sc_lt _ | exact qz_Q _)) | exact up_se _ _ _ | exact ul_se _ _ _ | omega)) (tb_V hw cy_M_isBlocked ww_800 ww_802 wp_M_isBlocked rfl rfl ⟨Nat.le_of_ble_eq_true rfl, Nat.le_of_ble_eq_true rfl⟩) (wk_preV (ci := 4) (q0 := 0) hPc hK hDc rfl rfl) rfl rfl hl.1 rfl (lv_room (Nat.le_of_ble_eq_true rfl)) d_M_server_30 ⟨Nat.le_of_ble_eq_true rfl, Nat.le_of_ble_eq_true rfl⟩) (fun r667 er667 => ?_)
        subst er667
        refine tp_i (if_neg hbl) ?_
        refine lv_if_eq (tgt := 40) hx hb d_M_server_33 (by decide) (fun h668 => ?_) (fun h668 => ?_)
        · refine lv_iconst (v := 0) hx hb d_M_server_40 (by decide) ?_
          refine va_put (D := G) (ci := 4) (v := .int 0) (ty := .int) (C := cr_M) (T := cf_M) (N := 25) hx hb hw uw_M ct_M ct_M_ok ct_M_nm hown hK.1 hP hD hS 0 rfl rfl 0 (by decide) (hw _ ww_640) (fun _ h9 => h9) rfl (by decide +kernel) rfl rfl (Nat.le_of_ble_eq_true rfl) d_M_server_41 (fun H locs hP hD hS => ?_)
          have hP : va_P G classes [(hm, .inr (4, [.int 0, .long sd, .int nw, .long hh, .ref q1, .ref q2, .ref q3, .ref q4, .ref q5, .ref q6, .ref q7, .ref q8, .int (nI n), .ref q9, .ref q10, .ref q11, .ref q12, .ref q13, .ref q14, .ref q15, .ref q16, .ref q17, .ref q18, .ref q19, .ref q20])), (q1, .inl ((ct 0), 8, .inl a1)), (q2, .inl ((ct 1), 8, .inr (.inl a2))), (q4, .inl ((ct 1), 8, .inr (.inl a4))), (q5, .inl ((ct 0), 8, .inl a5)), (q8, .inl ((ct 0), 8, .inl a8)), (q9, .inl ((ct 2), 40, .inl a9)), (q10, .inl ((ct 0), 40, .inl b0)), (q11, .inl ((ct 0), 40, .inl b1)), (q12, .inl ((ct 0), 40, .inl b2)), (q13, .inl ((ct 0), 40, .inl b3)), (q14, .inl ((ct 1), 40, .inr (.inl b4))), (q16, .inl ((ct 1), 40, .inr (.inl b6))), (q20, .inl ((ct 1), 40, .inr (.inl b10)))] H := hP
          have hD : va_D A [(hm, .inr (4, [.int 0, .long sd, .int nw, .long hh, .ref q1, .ref q2, .ref q3, .ref q4, .ref q5, .ref q6, .ref q7, .ref q8, .int (nI n), .ref q9, .ref q10, .ref q11, .ref q12, .ref q13, .ref q14, .ref q15, .ref q16, .ref q17, .ref q18, .ref q19, .ref q20])), (q1, .inl ((ct 0), 8, .inl a1)), (q2, .inl ((ct 1), 8, .inr (.inl a2))), (q4, .inl ((ct 1), 8, .inr (.inl a4))), (q5, .inl ((ct 0), 8, .inl a5)), (q8, .inl ((ct 0), 8, .inl a8)), (q9, .inl ((ct 2), 40, .inl a9)), (q10, .inl ((ct 0), 40, .inl b0)), (q11, .inl ((ct 0), 40, .inl b1)), (q12, .inl ((ct 0), 40, .inl b2)), (q13, .inl ((ct 0), 40, .inl b3)), (q14, .inl ((ct 1), 40, .inr (.inl b4))), (q16, .inl ((ct 1), 40, .inr (.inl b6))), (q20, .inl ((ct 1), 40, .inr (.inl b10)))] := hD
          refine lv_aload_n hx hb d_M_server_44 rfl (lv_at hl 0 rfl) ?_
          refine va_get (D := G) (ci := 4) (v := .int 0) (C := cr_M) (T := cf_M) (N := 25) hx hb hw uw_M hown hK.1 hP 0 rfl rfl 0 (by decide) (hw _ ww_640) (fun _ h9 => h9) rfl d_M_server_45 ?_
          refine lv_if_le (tgt := 53) hx hb d_M_server_48 (by decide) (fun h669 => ?_) (fun h669 => ?_)
          · refine lv_aload_n hx hb d_M_server_53 rfl (lv_at hl 0 rfl) ?_
            refine lv_iload_n hx hb d_M_server_54 rfl (lv_at hl 1 rfl) ?_
            refine lv_iload_n hx hb d_M_server_55 rfl (lv_at hl 2 rfl) ?_
            refine lv_lload_n hx hb d_M_server_56 rfl (lv_at hl 3 rfl) ?_
            have hPc : va_P G classes [(hm, .inr (4, [.int 0, .long sd, .int nw, .long hh, .ref q1, .ref q2, .ref q3, .ref q4, .ref q5, .ref q6, .ref q7, .ref q8, .int (nI n), .ref q9, .ref q10, .ref q11, .ref q12, .ref q13, .ref q14, .ref q15, .ref q16, .ref q17, .ref q18, .ref q19, .ref q20])), (q10, .inl ((ct 0), 40, .inl b0)), (q11, .inl ((ct 0), 40, .inl b1)), (q12, .inl ((ct 0), 40, .inl b2)), (q13, .inl ((ct 0), 40, .inl b3)), (q14, .inl ((ct 1), 40, .inr (.inl b4))), (q20, .inl ((ct 1), 40, .inr (.inl b10)))] H := hP.sub [0, 7, 8, 9, 10, 11, 13] rfl
            have hDc := hD.sub (ws' := [(hm, .inr (4, [.int 0, .long sd, .int nw, .long hh, .ref q1, .ref q2, .ref q3, .ref q4, .ref q5, .ref q6, .ref q7, .ref q8, .int (nI n), .ref q9, .ref q10, .ref q11, .ref q12, .ref q13, .ref q14, .ref q15, .ref q16, .ref q17, .ref q18, .ref q19, .ref q20])), (q10, .inl ((ct 0), 40, .inl b0)), (q11, .inl ((ct 0), 40, .inl b1)), (q12, .inl ((ct 0), 40, .inl b2)), (q13, .inl ((ct 0), 40, .inl b3)), (q14, .inl ((ct 1), 40, .inr (.inl b4))), (q20, .inl ((ct 1), 40, .inr (.inl b10)))]) [0, 7, 8, 9, 10, 11, 13] (by decide) rfl
            refine wk_i (va_runV (As := [.int (nI k), .int wy, .long se]) (rest := []) ⟨hx, hb, hml, hown, hts⟩ (c_M_open l G ct H.size hm 0 sd nw hh q1 q2 q3 q4 q5 q6 q7 q8 q9 q10 q11 q12 q13 q14 q15 q16 q17 q18 q19 q20 n b0 b1 b2 b3 b4 b10 (nI k) wy se (by first | assumption | exact m63 (by first | assumption | exact qs_P (by assumption)) | decide | exact pw_lt _ _ | exact Nat.mod_lt _ pq_pos | exact sc_lt _ | exact sc_pos _ | exact m63 (by first | assumption | exact pw_lt _ _ | exact Nat.mod_lt _ pq_pos | exact qs_P (by first | assumption | exact sc_lt _ | exact qz_Q _)) | exact up_se _ _ _ | exact ul_se _ _ _ | omega)) (tb_V hw cy_M_open ww_791 ww_793 wp_M_open rfl rfl ⟨Nat.le_of_ble_eq_true rfl, Nat.le_of_ble_eq_true rfl⟩) (wk_preV (ci := 4) (q0 := 0) hPc hK hDc rfl rfl) rfl rfl hl.1 rfl (lv_room (Nat.le_of_ble_eq_true rfl)) d_M_server_57 ⟨Nat.le_of_ble_eq_true rfl, Nat.le_of_ble_eq_true rfl⟩) hP hD hS hA [0, 7, 8, 9, 10, 11, 13] (by decide) rfl (fun _ => by simp only [List.map_cons, List.map_nil]) (fun _ H locs ok670 hP hD hS => ?_)
            have hP : va_P G classes [(hm, .inr (4, [.int 0, .long sd, .int nw, .long hh, .ref q1, .ref q2, .ref q3, .ref q4, .ref q5, .ref q6, .ref q7, .ref q8, .int (nI (n + 1)), .ref q9, .ref q10, .ref q11, .ref q12, .ref q13, .ref q14, .ref q15, .ref q16, .ref q17, .ref q18, .ref q19, .ref q20])), (q1, .inl ((ct 0), 8, .inl a1)), (q2, .inl ((ct 1), 8, .inr (.inl a2))), (q4, .inl ((ct 1), 8, .inr (.inl a4))), (q5, .inl ((ct 0), 8, .inl a5)), (q8, .inl ((ct 0), 8, .inl a8)), (q9, .inl ((ct 2), 40, .inl a9)), (q10, .inl ((ct 0), 40, .inl (upd b0 n wy))), (q11, .inl ((ct 0), 40, .inl (upd b1 n (nI k)))), (q12, .inl ((ct 0), 40, .inl (upd b2 n 0))), (q13, .inl ((ct 0), 40, .inl (upd b3 n nw))), (q14, .inl ((ct 1), 40, .inr (.inl (vp_updL b4 n (lN (sc_n se)))))), (q16, .inl ((ct 1), 40, .inr (.inl b6))), (q20, .inl ((ct 1), 40, .inr (.inl (vp_updL b10 n 0))))] H := hP
            have hD : va_D A [(hm, .inr (4, [.int 0, .long sd, .int nw, .long hh, .ref q1, .ref q2, .ref q3, .ref q4, .ref q5, .ref q6, .ref q7, .ref q8, .int (nI (n + 1)), .ref q9, .ref q10, .ref q11, .ref q12, .ref q13, .ref q14, .ref q15, .ref q16, .ref q17, .ref q18, .ref q19, .ref q20])), (q1, .inl ((ct 0), 8, .inl a1)), (q2, .inl ((ct 1), 8, .inr (.inl a2))), (q4, .inl ((ct 1), 8, .inr (.inl a4))), (q5, .inl ((ct 0), 8, .inl a5)), (q8, .inl ((ct 0), 8, .inl a8)), (q9, .inl ((ct 2), 40, .inl a9)), (q10, .inl ((ct 0), 40, .inl (upd b0 n wy))), (q11, .inl ((ct 0), 40, .inl (upd b1 n (nI k)))), (q12, .inl ((ct 0), 40, .inl (upd b2 n 0))), (q13, .inl ((ct 0), 40, .inl (upd b3 n nw))), (q14, .inl ((ct 1), 40, .inr (.inl (vp_updL b4 n (lN (sc_n se)))))), (q16, .inl ((ct 1), 40, .inr (.inl b6))), (q20, .inl ((ct 1), 40, .inr (.inl (vp_updL b10 n 0))))] := hD
            refine lv_istore (lv' := [(5, .int (nI n)), (0, .ref hm), (1, .int (nI k)), (2, .int wy), (3, .long se)]) hx hb d_M_server_60 hl (Nat.le_of_ble_eq_true rfl) rfl (fun ls hl => ?_)
            refine lv_aload_n hx hb d_M_server_62 rfl (lv_at hl 1 rfl) ?_
            refine va_get (D := G) (ci := 4) (v := .ref q9) (C := cr_M) (T := cf_M) (N := 25) hx hb hw uw_M hown hK.1 hP 0 rfl rfl 13 (by decide) (hw _ ww_653) (fun _ h9 => h9) rfl d_M_server_63 ?_
            refine lv_iload hx hb d_M_server_66 (lv_at hl 0 rfl) ?_
            refine lv_iconst (v := 1) hx hb d_M_server_68 (by decide) ?_
            refine ra_zs hx hb hK.1 hP hD hS 6 2 rfl rfl (k := n) (by omega) (by decide) rfl d_M_server_69 (fun H locs hP hD hS => ?_)
            have hP : va_P G classes [(hm, .inr (4, [.int 0, .long sd, .int nw, .long hh, .ref q1, .ref q2, .ref q3, .ref q4, .ref q5, .ref q6, .ref q7, .ref q8, .int (nI (n + 1)), .ref q9, .ref q10, .ref q11, .ref q12, .ref q13, .ref q14, .ref q15, .ref q16, .ref q17, .ref q18, .ref q19, .ref q20])), (q1, .inl ((ct 0), 8, .inl a1)), (q2, .inl ((ct 1), 8, .inr (.inl a2))), (q4, .inl ((ct 1), 8, .inr (.inl a4))), (q5, .inl ((ct 0), 8, .inl a5)), (q8, .inl ((ct 0), 8, .inl a8)), (q9, .inl ((ct 2), 40, .inl (upd a9 n 1))), (q10, .inl ((ct 0), 40, .inl (upd b0 n wy))), (q11, .inl ((ct 0), 40, .inl (upd b1 n (nI k)))), (q12, .inl ((ct 0), 40, .inl (upd b2 n 0))), (q13, .inl ((ct 0), 40, .inl (upd b3 n nw))), (q14, .inl ((ct 1), 40, .inr (.inl (vp_updL b4 n (lN (sc_n se)))))), (q16, .inl ((ct 1), 40, .inr (.inl b6))), (q20, .inl ((ct 1), 40, .inr (.inl (vp_updL b10 n 0))))] H := hP
            have hD : va_D A [(hm, .inr (4, [.int 0, .long sd, .int nw, .long hh, .ref q1, .ref q2, .ref q3, .ref q4, .ref q5, .ref q6, .ref q7, .ref q8, .int (nI (n + 1)), .ref q9, .ref q10, .ref q11, .ref q12, .ref q13, .ref q14, .ref q15, .ref q16, .ref q17, .ref q18, .ref q19, .ref q20])), (q1, .inl ((ct 0), 8, .inl a1)), (q2, .inl ((ct 1), 8, .inr (.inl a2))), (q4, .inl ((ct 1), 8, .inr (.inl a4))), (q5, .inl ((ct 0), 8, .inl a5)), (q8, .inl ((ct 0), 8, .inl a8)), (q9, .inl ((ct 2), 40, .inl (upd a9 n 1))), (q10, .inl ((ct 0), 40, .inl (upd b0 n wy))), (q11, .inl ((ct 0), 40, .inl (upd b1 n (nI k)))), (q12, .inl ((ct 0), 40, .inl (upd b2 n 0))), (q13, .inl ((ct 0), 40, .inl (upd b3 n nw))), (q14, .inl ((ct 1), 40, .inr (.inl (vp_updL b4 n (lN (sc_n se)))))), (q16, .inl ((ct 1), 40, .inr (.inl b6))), (q20, .inl ((ct 1), 40, .inr (.inl (vp_updL b10 n 0))))] := hD
            refine lv_aload_n hx hb d_M_server_70 rfl (lv_at hl 1 rfl) ?_
            refine va_get (D := G) (ci := 4) (v := .ref q1) (C := cr_M) (T := cf_M) (N := 25) hx hb hw uw_M hown hK.1 hP 0 rfl rfl 4 (by decide) (hw _ ww_644) (fun _ h9 => h9) rfl d_M_server_71 ?_
            refine lv_iload_n hx hb d_M_server_74 rfl (lv_at hl 2 rfl) ?_
            refine ra_il hx hb hK.1 hP 1 0 rfl rfl (k := k) (by omega) (by decide) d_M_server_75 ?_
            refine lv_iload_n hx hb d_M_server_76 rfl (lv_at hl 3 rfl) ?_
            refine lv_icmp_ne (tgt := 84) hx hb d_M_server_77 (by decide) (fun h671 => ?_) (fun h671 => ?_)
            · refine lv_iconst (v := 0) hx hb d_M_server_84 (by decide) ?_
              refine lv_istore (lv' := [(6, .int 0), (5, .int (nI n)), (0, .ref hm), (1, .int (nI k)), (2, .int wy), (3, .long se)]) hx hb d_M_server_85 hl (Nat.le_of_ble_eq_true rfl) rfl (fun ls hl => ?_)
              refine lv_iload_n hx hb d_M_server_87 rfl (lv_at hl 4 rfl) ?_
              refine lv_if_ne (tgt := 124) hx hb d_M_server_88 (by decide) (fun h672 => ?_) (fun h672 => ?_)
              · refine lv_aload_n hx hb d_M_server_124 rfl (lv_at hl 2 rfl) ?_
                refine va_get (D := G) (ci := 4) (v := .ref q16) (C := cr_M) (T := cf_M) (N := 25) hx hb hw uw_M hown hK.1 hP 0 rfl rfl 20 (by decide) (hw _ ww_660) (fun _ h9 => h9) rfl d_M_server_125 ?_
                refine lv_iload hx hb d_M_server_128 (lv_at hl 1 rfl) ?_
                refine lv_iload hx hb d_M_server_130 (lv_at hl 0 rfl) ?_
                refine lv_if_eq (tgt := 144) hx hb d_M_server_132 (by decide) (fun h673 => ?_) (fun h673 => ?_)
                · refine lv_ldc2 (v := 4) hx hb hown (hw _ ww_757) d_M_server_144 ?_
                  refine lv_aload_n hx hb d_M_server_147 rfl (lv_at hl 2 rfl) ?_
                  refine lv_iconst (v := 5) hx hb d_M_server_148 (by decide) ?_
                  refine lv_iload_n hx hb d_M_server_149 rfl (lv_at hl 3 rfl) ?_
                  have hPc : va_P G classes [(hm, .inr (4, [.int 0, .long sd, .int nw, .long hh, .ref q1, .ref q2, .ref q3, .ref q4, .ref q5, .ref q6, .ref q7, .ref q8, .int (nI (n + 1)), .ref q9, .ref q10, .ref q11, .ref q12, .ref q13, .ref q14, .ref q15, .ref q16, .ref q17, .ref q18, .ref q19, .ref q20]))] H := hP.sub [0] rfl
                  have hDc := hD.sub (ws' := [(hm, .inr (4, [.int 0, .long sd, .int nw, .long hh, .ref q1, .ref q2, .ref q3, .ref q4, .ref q5, .ref q6, .ref q7, .ref q8, .int (nI (n + 1)), .ref q9, .ref q10, .ref q11, .ref q12, .ref q13, .ref q14, .ref q15, .ref q16, .ref q17, .ref q18, .ref q19, .ref q20]))]) [0] (by decide) rfl
                  refine wk_l (va_runV (As := [.int 5, .int (nI k)]) (rest := [.long 4, .int (nI n), .ref q16]) ⟨hx, hb, hml, hown, hts⟩ (c_M_fake l G ct H.size hm 0 sd nw hh q1 q2 q3 q4 q5 q6 q7 q8 q9 q10 q11 q12 q13 q14 q15 q16 q17 q18 q19 q20 (n + 1) 5 (nI k)) (tb_V hw cy_M_fake ww_783 ww_785 wp_M_fake rfl rfl ⟨Nat.le_of_ble_eq_true rfl, Nat.le_of_ble_eq_true rfl⟩) (wk_preV (ci := 4) (q0 := 0) hPc hK hDc rfl rfl) rfl rfl hl.1 rfl (lv_room (Nat.le_of_ble_eq_true rfl)) d_M_server_150 ⟨Nat.le_of_ble_eq_true rfl, Nat.le_of_ble_eq_true rfl⟩) hP hD hS hA [0] (by decide) rfl (fun _ => by simp only [List.map_cons, List.map_nil]) (fun z2674 H locs ok675 hP hD hS => ?_)
                  have hP : va_P G classes [(hm, .inr (4, [.int 0, .long sd, .int nw, .long z2674, .ref q1, .ref q2, .ref q3, .ref q4, .ref q5, .ref q6, .ref q7, .ref q8, .int (nI (n + 1)), .ref q9, .ref q10, .ref q11, .ref q12, .ref q13, .ref q14, .ref q15, .ref q16, .ref q17, .ref q18, .ref q19, .ref q20])), (q1, .inl ((ct 0), 8, .inl a1)), (q2, .inl ((ct 1), 8, .inr (.inl a2))), (q4, .inl ((ct 1), 8, .inr (.inl a4))), (q5, .inl ((ct 0), 8, .inl a5)), (q8, .inl ((ct 0), 8, .inl a8)), (q9, .inl ((ct 2), 40, .inl (upd a9 n 1))), (q10, .inl ((ct 0), 40, .inl (upd b0 n wy))), (q11, .inl ((ct 0), 40, .inl (upd b1 n (nI k)))), (q12, .inl ((ct 0), 40, .inl (upd b2 n 0))), (q13, .inl ((ct 0), 40, .inl (upd b3 n nw))), (q14, .inl ((ct 1), 40, .inr (.inl (vp_updL b4 n (lN (sc_n se)))))), (q16, .inl ((ct 1), 40, .inr (.inl b6))), (q20, .inl ((ct 1), 40, .inr (.inl (vp_updL b10 n 0))))] H := hP
                  have hD : va_D A [(hm, .inr (4, [.int 0, .long sd, .int nw, .long z2674, .ref q1, .ref q2, .ref q3, .ref q4, .ref q5, .ref q6, .ref q7, .ref q8, .int (nI (n + 1)), .ref q9, .ref q10, .ref q11, .ref q12, .ref q13, .ref q14, .ref q15, .ref q16, .ref q17, .ref q18, .ref q19, .ref q20])), (q1, .inl ((ct 0), 8, .inl a1)), (q2, .inl ((ct 1), 8, .inr (.inl a2))), (q4, .inl ((ct 1), 8, .inr (.inl a4))), (q5, .inl ((ct 0), 8, .inl a5)), (q8, .inl ((ct 0), 8, .inl a8)), (q9, .inl ((ct 2), 40, .inl (upd a9 n 1))), (q10, .inl ((ct 0), 40, .inl (upd b0 n wy))), (q11, .inl ((ct 0), 40, .inl (upd b1 n (nI k)))), (q12, .inl ((ct 0), 40, .inl (upd b2 n 0))), (q13, .inl ((ct 0), 40, .inl (upd b3 n nw))), (q14, .inl ((ct 1), 40, .inr (.inl (vp_updL b4 n (lN (sc_n se)))))), (q16, .inl ((ct 1), 40, .inr (.inl b6))), (q20, .inl ((ct 1), 40, .inr (.inl (vp_updL b10 n 0))))] := hD
                  refine vp_callSl (W.runS (As := [.long (dg_3 (Int32.toInt64 5) sd (Int32.toInt64 (nI k)))]) (rest := [.long 4, .int (nI n), .ref q16]) ⟨hx, hb, hml, hown, hts⟩ (c_M_scalar l (dg_3 (Int32.toInt64 5) sd (Int32.toInt64 (nI k)))) (tb_S hw cy_M_scalar ww_753 ww_754 rfl rfl ⟨Nat.le_of_ble_eq_true rfl, Nat.le_of_ble_eq_true rfl⟩) preEq rfl rfl hl.1 rfl (lv_room (Nat.le_of_ble_eq_true rfl)) d_M_server_153 ⟨Nat.le_of_ble_eq_true rfl, Nat.le_of_ble_eq_true rfl⟩) (fun r676 er676 => ?_)
                  subst er676
                  refine vp_callSl (W.runS (As := [.long (lN 4), .long (lN (sc_n (dg_3 (Int32.toInt64 5) sd (Int32.toInt64 (nI k)))))]) (rest := [.int (nI n), .ref q16]) ⟨hx, hb, hml, hown, hts⟩ (c_M_power l 4 (sc_n (dg_3 (Int32.toInt64 5) sd (Int32.toInt64 (nI k)))) (by decide) (m63 (qs_P (sc_lt _)))) (tb_S hw cy_M_power ww_763 ww_764 rfl rfl ⟨Nat.le_of_ble_eq_true rfl, Nat.le_of_ble_eq_true rfl⟩) preEq rfl rfl hl.1 rfl (lv_room (Nat.le_of_ble_eq_true rfl)) d_M_server_156 ⟨Nat.le_of_ble_eq_true rfl, Nat.le_of_ble_eq_true rfl⟩) (fun r677 er677 => ?_)
                  subst er677
                  refine ra_ls hx hb hK.1 hP hD hS 12 1 rfl rfl (k := n) (by omega) (by decide) d_M_server_159 (fun H locs hP hD hS => ?_)
                  have hP : va_P G classes [(hm, .inr (4, [.int 0, .long sd, .int nw, .long z2674, .ref q1, .ref q2, .ref q3, .ref q4, .ref q5, .ref q6, .ref q7, .ref q8, .int (nI (n + 1)), .ref q9, .ref q10, .ref q11, .ref q12, .ref q13, .ref q14, .ref q15, .ref q16, .ref q17, .ref q18, .ref q19, .ref q20])), (q1, .inl ((ct 0), 8, .inl a1)), (q2, .inl ((ct 1), 8, .inr (.inl a2))), (q4, .inl ((ct 1), 8, .inr (.inl a4))), (q5, .inl ((ct 0), 8, .inl a5)), (q8, .inl ((ct 0), 8, .inl a8)), (q9, .inl ((ct 2), 40, .inl (upd a9 n 1))), (q10, .inl ((ct 0), 40, .inl (upd b0 n wy))), (q11, .inl ((ct 0), 40, .inl (upd b1 n (nI k)))), (q12, .inl ((ct 0), 40, .inl (upd b2 n 0))), (q13, .inl ((ct 0), 40, .inl (upd b3 n nw))), (q14, .inl ((ct 1), 40, .inr (.inl (vp_updL b4 n (lN (sc_n se)))))), (q16, .inl ((ct 1), 40, .inr (.inl (vp_updL b6 n (lN (pw_m 4 (sc_n (dg_3 (Int32.toInt64 5) sd (Int32.toInt64 (nI k)))))))))), (q20, .inl ((ct 1), 40, .inr (.inl (vp_updL b10 n 0))))] H := hP
                  have hD : va_D A [(hm, .inr (4, [.int 0, .long sd, .int nw, .long z2674, .ref q1, .ref q2, .ref q3, .ref q4, .ref q5, .ref q6, .ref q7, .ref q8, .int (nI (n + 1)), .ref q9, .ref q10, .ref q11, .ref q12, .ref q13, .ref q14, .ref q15, .ref q16, .ref q17, .ref q18, .ref q19, .ref q20])), (q1, .inl ((ct 0), 8, .inl a1)), (q2, .inl ((ct 1), 8, .inr (.inl a2))), (q4, .inl ((ct 1), 8, .inr (.inl a4))), (q5, .inl ((ct 0), 8, .inl a5)), (q8, .inl ((ct 0), 8, .inl a8)), (q9, .inl ((ct 2), 40, .inl (upd a9 n 1))), (q10, .inl ((ct 0), 40, .inl (upd b0 n wy))), (q11, .inl ((ct 0), 40, .inl (upd b1 n (nI k)))), (q12, .inl ((ct 0), 40, .inl (upd b2 n 0))), (q13, .inl ((ct 0), 40, .inl (upd b3 n nw))), (q14, .inl ((ct 1), 40, .inr (.inl (vp_updL b4 n (lN (sc_n se)))))), (q16, .inl ((ct 1), 40, .inr (.inl (vp_updL b6 n (lN (pw_m 4 (sc_n (dg_3 (Int32.toInt64 5) sd (Int32.toInt64 (nI k)))))))))), (q20, .inl ((ct 1), 40, .inr (.inl (vp_updL b10 n 0))))] := hD
                  refine lv_iload hx hb d_M_server_160 (lv_at hl 1 rfl) ?_
                  exact W.iret (v := nI n) hx hb hr (fun t ht hW => ⟨⟨z2674, ⟨rfl, trivial⟩, by rw [ht]; exact hP, hD⟩, hS.F ht⟩) hS.2.2 d_M_server_162
                · exact absurd h673 (by decide)
              · exact absurd (h672.symm.trans hwy) (by decide)
            · exact absurd h671 how
          · exact absurd h669 (by decide)
        · exact absurd h668 (by decide)
    · exact absurd h665 (by decide)
set_option maxHeartbeats 4000000 in
set_option maxRecDepth 100000 in
theorem c_M_message1 (l : Launch) (G : va_G) (ct : Nat → ClassId) (sz : Nat) (hm : Nat) (th : Int32) (sd : Int64) (nw : Int32) (hh : Int64) (q1 : Nat) (q2 : Nat) (q3 : Nat) (q4 : Nat) (q5 : Nat) (q6 : Nat) (q7 : Nat) (q8 : Nat) (q9 : Nat) (q10 : Nat) (q11 : Nat) (q12 : Nat) (q13 : Nat) (q14 : Nat) (q15 : Nat) (q16 : Nat) (q17 : Nat) (q18 : Nat) (q19 : Nat) (q20 : Nat) (n : Nat) (b10 : Nat → Int64) (k : Nat) (hn : n ≤ 40) (hkn : k < n) : Met l my_M_message (tb_w my_M_message mb_M_message 2 (some .long)) ({ frames := 1, cells := 0, slots := 0, locals := 21 }) (wk_P [.ref hm, .int (nI k)] G ct [(hm, .inr (4, [.int th, .long sd, .int nw, .long hh, .ref q1, .ref q2, .ref q3, .ref q4, .ref q5, .ref q6, .ref q7, .ref q8, .int (nI n), .ref q9, .ref q10, .ref q11, .ref q12, .ref q13, .ref q14, .ref q15, .ref q16, .ref q17, .ref q18, .ref q19, .ref q20])), (q20, .inl ((ct 1), 40, .inr (.inl b10)))] sz) (wk_Q (wk_ol (S := Unit) (fun _ => b10 k) (fun _ => True)) (fun _ : Unit => [(hm, .inr (4, [.int 0, .long sd, .int nw, .long hh, .ref q1, .ref q2, .ref q3, .ref q4, .ref q5, .ref q6, .ref q7, .ref q8, .int (nI n), .ref q9, .ref q10, .ref q11, .ref q12, .ref q13, .ref q14, .ref q15, .ref q16, .ref q17, .ref q18, .ref q19, .ref q20])), (q20, .inl ((ct 1), 40, .inr (.inl b10)))]) G (va_A [(hm, .inr (4, [.int th, .long sd, .int nw, .long hh, .ref q1, .ref q2, .ref q3, .ref q4, .ref q5, .ref q6, .ref q7, .ref q8, .int (nI n), .ref q9, .ref q10, .ref q11, .ref q12, .ref q13, .ref q14, .ref q15, .ref q16, .ref q17, .ref q18, .ref q19, .ref q20])), (q20, .inl ((ct 1), 40, .inr (.inl b10)))] sz)) 0 0 (va_A [(hm, .inr (4, [.int th, .long sd, .int nw, .long hh, .ref q1, .ref q2, .ref q3, .ref q4, .ref q5, .ref q6, .ref q7, .ref q8, .int (nI n), .ref q9, .ref q10, .ref q11, .ref q12, .ref q13, .ref q14, .ref q15, .ref q16, .ref q17, .ref q18, .ref q19, .ref q20])), (q20, .inl ((ct 1), 40, .inr (.inl b10)))] sz) := by
  refine Met.ofW (cc := mb_M_message) (maxL := 2) (ret := (some .long)) (by decide) rfl ?_
  intro p e s m args below meth c s₁ B hml hv
  obtain ⟨rfl, hsz, hP, hK, hD0⟩ := hv
  have hx := B.exec
  have hb := B.bytes
  have hr := B.returns
  have hts := atoms_spec (ws := tb_w my_M_message mb_M_message 2 (some .long)) B.pre
  have hw : ∀ w ∈ gt_tbl, w.before [.ref hm, .int (nI k)].toArray s = true := fun w h => hts w (List.mem_cons_of_mem _ h)
  have hown : s.vm.findClass cr_M = some m.cls := findClass_of_methodNamed B.named
  have hlocks := B.notSynchronized
  subst hsz
  have hD := hD0.self (sz := s.heap.size)
  generalize hAe : va_A [(hm, .inr (4, [.int th, .long sd, .int nw, .long hh, .ref q1, .ref q2, .ref q3, .ref q4, .ref q5, .ref q6, .ref q7, .ref q8, .int (nI n), .ref q9, .ref q10, .ref q11, .ref q12, .ref q13, .ref q14, .ref q15, .ref q16, .ref q17, .ref q18, .ref q19, .ref q20])), (q20, .inl ((ct 1), 40, .inr (.inl b10)))] s.heap.size = A at hD ⊢
  have hA : ∀ q : Nat, s.heap.size ≤ q → A q := fun q h => by rw [← hAe]; exact Or.inr h
  have hS : va_S A s.heap s.heap [] := va_S.rf
  have hP : va_P G classes [(hm, .inr (4, [.int th, .long sd, .int nw, .long hh, .ref q1, .ref q2, .ref q3, .ref q4, .ref q5, .ref q6, .ref q7, .ref q8, .int (nI n), .ref q9, .ref q10, .ref q11, .ref q12, .ref q13, .ref q14, .ref q15, .ref q16, .ref q17, .ref q18, .ref q19, .ref q20])), (q20, .inl ((ct 1), 40, .inr (.inl b10)))] s.heap := hP
  have hl := lv_entry ([.ref hm, .int (nI k)]) (n := 2) (Nat.le_of_ble_eq_true rfl)
  rw [lg_entry_eq]
  generalize (lg_sl ([.ref hm, .int (nI k)]) ++ List.replicate (2 - (lg_sl ([.ref hm, .int (nI k)])).length) Slot.unset).toArray = ls at hl ⊢
  have hl : lv_has ls 2 [(0, .ref hm), (1, .int (nI k))] := hl
  have hk : k < 40 := by omega
  refine lv_aload_n hx hb d_M_message_0 rfl (lv_at hl 0 rfl) ?_
  refine lv_iconst (v := 0) hx hb d_M_message_1 (by decide) ?_
  refine va_put (D := G) (ci := 4) (v := .int 0) (ty := .int) (C := cr_M) (T := cf_M) (N := 25) hx hb hw uw_M ct_M ct_M_ok ct_M_nm hown hK.1 hP hD hS 0 rfl rfl 0 (by decide) (hw _ ww_640) (fun _ h9 => h9) rfl (by decide +kernel) rfl rfl (Nat.le_of_ble_eq_true rfl) d_M_message_2 (fun H locs hP hD hS => ?_)
  have hP : va_P G classes [(hm, .inr (4, [.int 0, .long sd, .int nw, .long hh, .ref q1, .ref q2, .ref q3, .ref q4, .ref q5, .ref q6, .ref q7, .ref q8, .int (nI n), .ref q9, .ref q10, .ref q11, .ref q12, .ref q13, .ref q14, .ref q15, .ref q16, .ref q17, .ref q18, .ref q19, .ref q20])), (q20, .inl ((ct 1), 40, .inr (.inl b10)))] H := hP
  have hD : va_D A [(hm, .inr (4, [.int 0, .long sd, .int nw, .long hh, .ref q1, .ref q2, .ref q3, .ref q4, .ref q5, .ref q6, .ref q7, .ref q8, .int (nI n), .ref q9, .ref q10, .ref q11, .ref q12, .ref q13, .ref q14, .ref q15, .ref q16, .ref q17, .ref q18, .ref q19, .ref q20])), (q20, .inl ((ct 1), 40, .inr (.inl b10)))] := hD
  refine lv_aload_n hx hb d_M_message_5 rfl (lv_at hl 0 rfl) ?_
  refine lv_iload_n hx hb d_M_message_6 rfl (lv_at hl 1 rfl) ?_
  have hPc : va_P G classes [(hm, .inr (4, [.int 0, .long sd, .int nw, .long hh, .ref q1, .ref q2, .ref q3, .ref q4, .ref q5, .ref q6, .ref q7, .ref q8, .int (nI n), .ref q9, .ref q10, .ref q11, .ref q12, .ref q13, .ref q14, .ref q15, .ref q16, .ref q17, .ref q18, .ref q19, .ref q20]))] H := hP.sub [0] rfl
  have hDc := hD.sub (ws' := [(hm, .inr (4, [.int 0, .long sd, .int nw, .long hh, .ref q1, .ref q2, .ref q3, .ref q4, .ref q5, .ref q6, .ref q7, .ref q8, .int (nI n), .ref q9, .ref q10, .ref q11, .ref q12, .ref q13, .ref q14, .ref q15, .ref q16, .ref q17, .ref q18, .ref q19, .ref q20]))]) [0] (by decide) rfl
  refine vp_callSi (W.runV (As := [.int (nI k)]) (rest := []) ⟨hx, hb, hml, hown, hts⟩ (c_M_there l G ct H.size hm 0 sd nw hh q1 q2 q3 q4 q5 q6 q7 q8 q9 q10 q11 q12 q13 q14 q15 q16 q17 q18 q19 q20 n (nI k)) (tb_V hw cy_M_there ww_812 ww_814 wp_M_there rfl rfl ⟨Nat.le_of_ble_eq_true rfl, Nat.le_of_ble_eq_true rfl⟩) (wk_preV (ci := 4) (q0 := 0) hPc hK hDc rfl rfl) rfl rfl hl.1 rfl (lv_room (Nat.le_of_ble_eq_true rfl)) d_M_message_7 ⟨Nat.le_of_ble_eq_true rfl, Nat.le_of_ble_eq_true rfl⟩) (fun r678 er678 => ?_)
  subst er678
  refine tp_i (if_pos (th_k hn hkn)) ?_
  refine lv_if_eq (tgt := 22) hx hb d_M_message_10 (by decide) (fun h679 => ?_) (fun h679 => ?_)
  · exact absurd h679 (by decide)
  · refine lv_aload_n hx hb d_M_message_13 rfl (lv_at hl 0 rfl) ?_
    refine va_get (D := G) (ci := 4) (v := .ref q20) (C := cr_M) (T := cf_M) (N := 25) hx hb hw uw_M hown hK.1 hP 0 rfl rfl 24 (by decide) (hw _ ww_664) (fun _ h9 => h9) rfl d_M_message_14 ?_
    refine lv_iload_n hx hb d_M_message_17 rfl (lv_at hl 1 rfl) ?_
    refine ra_ll hx hb hK.1 hP 1 1 rfl rfl (k := k) (by omega) (by decide) d_M_message_18 ?_
    refine lv_goto (tgt := 23) hx hb d_M_message_19 (by decide) ?_
    exact W.lret (v := b10 k) hx hb hr (fun t ht hW => ⟨⟨(), ⟨rfl, trivial⟩, by rw [ht]; exact hP, hD⟩, hS.F ht⟩) hS.2.2 d_M_message_23
set_option maxHeartbeats 4000000 in
set_option maxRecDepth 100000 in
theorem c_M_message0 (l : Launch) (G : va_G) (ct : Nat → ClassId) (sz : Nat) (hm : Nat) (th : Int32) (sd : Int64) (nw : Int32) (hh : Int64) (q1 : Nat) (q2 : Nat) (q3 : Nat) (q4 : Nat) (q5 : Nat) (q6 : Nat) (q7 : Nat) (q8 : Nat) (q9 : Nat) (q10 : Nat) (q11 : Nat) (q12 : Nat) (q13 : Nat) (q14 : Nat) (q15 : Nat) (q16 : Nat) (q17 : Nat) (q18 : Nat) (q19 : Nat) (q20 : Nat) (n : Nat) (sa : Int32) (hno : ¬ th_in sa n) : Met l my_M_message (tb_w my_M_message mb_M_message 2 (some .long)) ({ frames := 1, cells := 0, slots := 0, locals := 21 }) (wk_P [.ref hm, .int sa] G ct [(hm, .inr (4, [.int th, .long sd, .int nw, .long hh, .ref q1, .ref q2, .ref q3, .ref q4, .ref q5, .ref q6, .ref q7, .ref q8, .int (nI n), .ref q9, .ref q10, .ref q11, .ref q12, .ref q13, .ref q14, .ref q15, .ref q16, .ref q17, .ref q18, .ref q19, .ref q20]))] sz) (wk_Q (wk_ol (S := Unit) (fun _ => 0) (fun _ => True)) (fun _ : Unit => [(hm, .inr (4, [.int 0, .long sd, .int nw, .long hh, .ref q1, .ref q2, .ref q3, .ref q4, .ref q5, .ref q6, .ref q7, .ref q8, .int (nI n), .ref q9, .ref q10, .ref q11, .ref q12, .ref q13, .ref q14, .ref q15, .ref q16, .ref q17, .ref q18, .ref q19, .ref q20]))]) G (va_A [(hm, .inr (4, [.int th, .long sd, .int nw, .long hh, .ref q1, .ref q2, .ref q3, .ref q4, .ref q5, .ref q6, .ref q7, .ref q8, .int (nI n), .ref q9, .ref q10, .ref q11, .ref q12, .ref q13, .ref q14, .ref q15, .ref q16, .ref q17, .ref q18, .ref q19, .ref q20]))] sz)) 0 0 (va_A [(hm, .inr (4, [.int th, .long sd, .int nw, .long hh, .ref q1, .ref q2, .ref q3, .ref q4, .ref q5, .ref q6, .ref q7, .ref q8, .int (nI n), .ref q9, .ref q10, .ref q11, .ref q12, .ref q13, .ref q14, .ref q15, .ref q16, .ref q17, .ref q18, .ref q19, .ref q20]))] sz) := by
  refine Met.ofW (cc := mb_M_message) (maxL := 2) (ret := (some .long)) (by decide) rfl ?_
  intro p e s m args below meth c s₁ B hml hv
  obtain ⟨rfl, hsz, hP, hK, hD0⟩ := hv
  have hx := B.exec
  have hb := B.bytes
  have hr := B.returns
  have hts := atoms_spec (ws := tb_w my_M_message mb_M_message 2 (some .long)) B.pre
  have hw : ∀ w ∈ gt_tbl, w.before [.ref hm, .int sa].toArray s = true := fun w h => hts w (List.mem_cons_of_mem _ h)
  have hown : s.vm.findClass cr_M = some m.cls := findClass_of_methodNamed B.named
  have hlocks := B.notSynchronized
  subst hsz
  have hD := hD0.self (sz := s.heap.size)
  generalize hAe : va_A [(hm, .inr (4, [.int th, .long sd, .int nw, .long hh, .ref q1, .ref q2, .ref q3, .ref q4, .ref q5, .ref q6, .ref q7, .ref q8, .int (nI n), .ref q9, .ref q10, .ref q11, .ref q12, .ref q13, .ref q14, .ref q15, .ref q16, .ref q17, .ref q18, .ref q19, .ref q20]))] s.heap.size = A at hD ⊢
  have hA : ∀ q : Nat, s.heap.size ≤ q → A q := fun q h => by rw [← hAe]; exact Or.inr h
  have hS : va_S A s.heap s.heap [] := va_S.rf
  have hP : va_P G classes [(hm, .inr (4, [.int th, .long sd, .int nw, .long hh, .ref q1, .ref q2, .ref q3, .ref q4, .ref q5, .ref q6, .ref q7, .ref q8, .int (nI n), .ref q9, .ref q10, .ref q11, .ref q12, .ref q13, .ref q14, .ref q15, .ref q16, .ref q17, .ref q18, .ref q19, .ref q20]))] s.heap := hP
  have hl := lv_entry ([.ref hm, .int sa]) (n := 2) (Nat.le_of_ble_eq_true rfl)
  rw [lg_entry_eq]
  generalize (lg_sl ([.ref hm, .int sa]) ++ List.replicate (2 - (lg_sl ([.ref hm, .int sa])).length) Slot.unset).toArray = ls at hl ⊢
  have hl : lv_has ls 2 [(0, .ref hm), (1, .int sa)] := hl
  refine lv_aload_n hx hb d_M_message_0 rfl (lv_at hl 0 rfl) ?_
  refine lv_iconst (v := 0) hx hb d_M_message_1 (by decide) ?_
  refine va_put (D := G) (ci := 4) (v := .int 0) (ty := .int) (C := cr_M) (T := cf_M) (N := 25) hx hb hw uw_M ct_M ct_M_ok ct_M_nm hown hK.1 hP hD hS 0 rfl rfl 0 (by decide) (hw _ ww_640) (fun _ h9 => h9) rfl (by decide +kernel) rfl rfl (Nat.le_of_ble_eq_true rfl) d_M_message_2 (fun H locs hP hD hS => ?_)
  have hP : va_P G classes [(hm, .inr (4, [.int 0, .long sd, .int nw, .long hh, .ref q1, .ref q2, .ref q3, .ref q4, .ref q5, .ref q6, .ref q7, .ref q8, .int (nI n), .ref q9, .ref q10, .ref q11, .ref q12, .ref q13, .ref q14, .ref q15, .ref q16, .ref q17, .ref q18, .ref q19, .ref q20]))] H := hP
  have hD : va_D A [(hm, .inr (4, [.int 0, .long sd, .int nw, .long hh, .ref q1, .ref q2, .ref q3, .ref q4, .ref q5, .ref q6, .ref q7, .ref q8, .int (nI n), .ref q9, .ref q10, .ref q11, .ref q12, .ref q13, .ref q14, .ref q15, .ref q16, .ref q17, .ref q18, .ref q19, .ref q20]))] := hD
  refine lv_aload_n hx hb d_M_message_5 rfl (lv_at hl 0 rfl) ?_
  refine lv_iload_n hx hb d_M_message_6 rfl (lv_at hl 1 rfl) ?_
  have hPc : va_P G classes [(hm, .inr (4, [.int 0, .long sd, .int nw, .long hh, .ref q1, .ref q2, .ref q3, .ref q4, .ref q5, .ref q6, .ref q7, .ref q8, .int (nI n), .ref q9, .ref q10, .ref q11, .ref q12, .ref q13, .ref q14, .ref q15, .ref q16, .ref q17, .ref q18, .ref q19, .ref q20]))] H := hP.sub [0] rfl
  have hDc := hD.sub (ws' := [(hm, .inr (4, [.int 0, .long sd, .int nw, .long hh, .ref q1, .ref q2, .ref q3, .ref q4, .ref q5, .ref q6, .ref q7, .ref q8, .int (nI n), .ref q9, .ref q10, .ref q11, .ref q12, .ref q13, .ref q14, .ref q15, .ref q16, .ref q17, .ref q18, .ref q19, .ref q20]))]) [0] (by decide) rfl
  refine vp_callSi (W.runV (As := [.int sa]) (rest := []) ⟨hx, hb, hml, hown, hts⟩ (c_M_there l G ct H.size hm 0 sd nw hh q1 q2 q3 q4 q5 q6 q7 q8 q9 q10 q11 q12 q13 q14 q15 q16 q17 q18 q19 q20 n sa) (tb_V hw cy_M_there ww_812 ww_814 wp_M_there rfl rfl ⟨Nat.le_of_ble_eq_true rfl, Nat.le_of_ble_eq_true rfl⟩) (wk_preV (ci := 4) (q0 := 0) hPc hK hDc rfl rfl) rfl rfl hl.1 rfl (lv_room (Nat.le_of_ble_eq_true rfl)) d_M_message_7 ⟨Nat.le_of_ble_eq_true rfl, Nat.le_of_ble_eq_true rfl⟩) (fun r680 er680 => ?_)
  subst er680
  refine tp_i (if_neg hno) ?_
  refine lv_if_eq (tgt := 22) hx hb d_M_message_10 (by decide) (fun h681 => ?_) (fun h681 => ?_)
  · refine lv_lconst (v := 0) hx hb d_M_message_22 (by decide) ?_
    exact W.lret (v := 0) hx hb hr (fun t ht hW => ⟨⟨(), ⟨rfl, trivial⟩, by rw [ht]; exact hP, hD⟩, hS.F ht⟩) hS.2.2 d_M_message_23
  · exact absurd h681 (by decide)
set_option maxHeartbeats 4000000 in
set_option maxRecDepth 100000 in
theorem c_M_key1 (l : Launch) (G : va_G) (ct : Nat → ClassId) (sz : Nat) (hm : Nat) (th : Int32) (sd : Int64) (nw : Int32) (hh : Int64) (q1 : Nat) (q2 : Nat) (q3 : Nat) (q4 : Nat) (q5 : Nat) (q6 : Nat) (q7 : Nat) (q8 : Nat) (q9 : Nat) (q10 : Nat) (q11 : Nat) (q12 : Nat) (q13 : Nat) (q14 : Nat) (q15 : Nat) (q16 : Nat) (q17 : Nat) (q18 : Nat) (q19 : Nat) (q20 : Nat) (n : Nat) (b2 : Nat → Int32) (b9 : Nat → Int64) (k : Nat) (hn : n ≤ 40) (hkn : k < n) (hf : b2 k = 2) : Met l my_M_key (tb_w my_M_key mb_M_key 2 (some .long)) ({ frames := 1, cells := 0, slots := 0, locals := 21 }) (wk_P [.ref hm, .int (nI k)] G ct [(hm, .inr (4, [.int th, .long sd, .int nw, .long hh, .ref q1, .ref q2, .ref q3, .ref q4, .ref q5, .ref q6, .ref q7, .ref q8, .int (nI n), .ref q9, .ref q10, .ref q11, .ref q12, .ref q13, .ref q14, .ref q15, .ref q16, .ref q17, .ref q18, .ref q19, .ref q20])), (q12, .inl ((ct 0), 40, .inl b2)), (q19, .inl ((ct 1), 40, .inr (.inl b9)))] sz) (wk_Q (wk_ol (S := Unit) (fun _ => b9 k) (fun _ => True)) (fun _ : Unit => [(hm, .inr (4, [.int 0, .long sd, .int nw, .long hh, .ref q1, .ref q2, .ref q3, .ref q4, .ref q5, .ref q6, .ref q7, .ref q8, .int (nI n), .ref q9, .ref q10, .ref q11, .ref q12, .ref q13, .ref q14, .ref q15, .ref q16, .ref q17, .ref q18, .ref q19, .ref q20])), (q12, .inl ((ct 0), 40, .inl b2)), (q19, .inl ((ct 1), 40, .inr (.inl b9)))]) G (va_A [(hm, .inr (4, [.int th, .long sd, .int nw, .long hh, .ref q1, .ref q2, .ref q3, .ref q4, .ref q5, .ref q6, .ref q7, .ref q8, .int (nI n), .ref q9, .ref q10, .ref q11, .ref q12, .ref q13, .ref q14, .ref q15, .ref q16, .ref q17, .ref q18, .ref q19, .ref q20])), (q12, .inl ((ct 0), 40, .inl b2)), (q19, .inl ((ct 1), 40, .inr (.inl b9)))] sz)) 0 0 (va_A [(hm, .inr (4, [.int th, .long sd, .int nw, .long hh, .ref q1, .ref q2, .ref q3, .ref q4, .ref q5, .ref q6, .ref q7, .ref q8, .int (nI n), .ref q9, .ref q10, .ref q11, .ref q12, .ref q13, .ref q14, .ref q15, .ref q16, .ref q17, .ref q18, .ref q19, .ref q20])), (q12, .inl ((ct 0), 40, .inl b2)), (q19, .inl ((ct 1), 40, .inr (.inl b9)))] sz) := by
  refine Met.ofW (cc := mb_M_key) (maxL := 2) (ret := (some .long)) (by decide) rfl ?_
  intro p e s m args below meth c s₁ B hml hv
  obtain ⟨rfl, hsz, hP, hK, hD0⟩ := hv
  have hx := B.exec
  have hb := B.bytes
  have hr := B.returns
  have hts := atoms_spec (ws := tb_w my_M_key mb_M_key 2 (some .long)) B.pre
  have hw : ∀ w ∈ gt_tbl, w.before [.ref hm, .int (nI k)].toArray s = true := fun w h => hts w (List.mem_cons_of_mem _ h)
  have hown : s.vm.findClass cr_M = some m.cls := findClass_of_methodNamed B.named
  have hlocks := B.notSynchronized
  subst hsz
  have hD := hD0.self (sz := s.heap.size)
  generalize hAe : va_A [(hm, .inr (4, [.int th, .long sd, .int nw, .long hh, .ref q1, .ref q2, .ref q3, .ref q4, .ref q5, .ref q6, .ref q7, .ref q8, .int (nI n), .ref q9, .ref q10, .ref q11, .ref q12, .ref q13, .ref q14, .ref q15, .ref q16, .ref q17, .ref q18, .ref q19, .ref q20])), (q12, .inl ((ct 0), 40, .inl b2)), (q19, .inl ((ct 1), 40, .inr (.inl b9)))] s.heap.size = A at hD ⊢
  have hA : ∀ q : Nat, s.heap.size ≤ q → A q := fun q h => by rw [← hAe]; exact Or.inr h
  have hS : va_S A s.heap s.heap [] := va_S.rf
  have hP : va_P G classes [(hm, .inr (4, [.int th, .long sd, .int nw, .long hh, .ref q1, .ref q2, .ref q3, .ref q4, .ref q5, .ref q6, .ref q7, .ref q8, .int (nI n), .ref q9, .ref q10, .ref q11, .ref q12, .ref q13, .ref q14, .ref q15, .ref q16, .ref q17, .ref q18, .ref q19, .ref q20])), (q12, .inl ((ct 0), 40, .inl b2)), (q19, .inl ((ct 1), 40, .inr (.inl b9)))] s.heap := hP
  have hl := lv_entry ([.ref hm, .int (nI k)]) (n := 2) (Nat.le_of_ble_eq_true rfl)
  rw [lg_entry_eq]
  generalize (lg_sl ([.ref hm, .int (nI k)]) ++ List.replicate (2 - (lg_sl ([.ref hm, .int (nI k)])).length) Slot.unset).toArray = ls at hl ⊢
  have hl : lv_has ls 2 [(0, .ref hm), (1, .int (nI k))] := hl
  have hk : k < 40 := by omega
  refine lv_aload_n hx hb d_M_key_0 rfl (lv_at hl 0 rfl) ?_
  refine lv_aload_n hx hb d_M_key_1 rfl (lv_at hl 0 rfl) ?_
  refine lv_iload_n hx hb d_M_key_2 rfl (lv_at hl 1 rfl) ?_
  have hPc : va_P G classes [(hm, .inr (4, [.int th, .long sd, .int nw, .long hh, .ref q1, .ref q2, .ref q3, .ref q4, .ref q5, .ref q6, .ref q7, .ref q8, .int (nI n), .ref q9, .ref q10, .ref q11, .ref q12, .ref q13, .ref q14, .ref q15, .ref q16, .ref q17, .ref q18, .ref q19, .ref q20]))] s.heap := hP.sub [0] rfl
  have hDc := hD.sub (ws' := [(hm, .inr (4, [.int th, .long sd, .int nw, .long hh, .ref q1, .ref q2, .ref q3, .ref q4, .ref q5, .ref q6, .ref q7, .ref q8, .int (nI n), .ref q9, .ref q10, .ref q11, .ref q12, .ref q13, .ref q14, .ref q15, .ref q16, .ref q17, .ref q18, .ref q19, .ref q20]))]) [0] (by decide) rfl
  refine vp_callSi (W.runV (As := [.int (nI k)]) (rest := [.ref hm]) ⟨hx, hb, hml, hown, hts⟩ (c_M_there l G ct s.heap.size hm th sd nw hh q1 q2 q3 q4 q5 q6 q7 q8 q9 q10 q11 q12 q13 q14 q15 q16 q17 q18 q19 q20 n (nI k)) (tb_V hw cy_M_there ww_812 ww_814 wp_M_there rfl rfl ⟨Nat.le_of_ble_eq_true rfl, Nat.le_of_ble_eq_true rfl⟩) (wk_preV (ci := 4) (q0 := 0) hPc hK hDc rfl rfl) rfl rfl hl.1 rfl (lv_room (Nat.le_of_ble_eq_true rfl)) d_M_key_3 ⟨Nat.le_of_ble_eq_true rfl, Nat.le_of_ble_eq_true rfl⟩) (fun r682 er682 => ?_)
  subst er682
  refine tp_i (if_pos (th_k hn hkn)) ?_
  refine lv_if_ne (tgt := 13) hx hb d_M_key_6 (by decide) (fun h683 => ?_) (fun h683 => ?_)
  · refine lv_aload_n hx hb d_M_key_13 rfl (lv_at hl 0 rfl) ?_
    refine va_get (D := G) (ci := 4) (v := .ref q12) (C := cr_M) (T := cf_M) (N := 25) hx hb hw uw_M hown hK.1 hP 0 rfl rfl 16 (by decide) (hw _ ww_656) (fun _ h9 => h9) rfl d_M_key_14 ?_
    refine lv_iload_n hx hb d_M_key_17 rfl (lv_at hl 1 rfl) ?_
    refine ra_il hx hb hK.1 hP 1 0 rfl rfl (k := k) (by omega) (by decide) d_M_key_18 ?_
    refine lv_iconst (v := 2) hx hb d_M_key_19 (by decide) ?_
    refine lv_icmp_eq (tgt := 27) hx hb d_M_key_20 (by decide) (fun h684 => ?_) (fun h684 => ?_)
    · refine lv_iconst (v := 0) hx hb d_M_key_27 (by decide) ?_
      refine va_put (D := G) (ci := 4) (v := .int 0) (ty := .int) (C := cr_M) (T := cf_M) (N := 25) hx hb hw uw_M ct_M ct_M_ok ct_M_nm hown hK.1 hP hD hS 0 rfl rfl 0 (by decide) (hw _ ww_640) (fun _ h9 => h9) rfl (by decide +kernel) rfl rfl (Nat.le_of_ble_eq_true rfl) d_M_key_28 (fun H locs hP hD hS => ?_)
      have hP : va_P G classes [(hm, .inr (4, [.int 0, .long sd, .int nw, .long hh, .ref q1, .ref q2, .ref q3, .ref q4, .ref q5, .ref q6, .ref q7, .ref q8, .int (nI n), .ref q9, .ref q10, .ref q11, .ref q12, .ref q13, .ref q14, .ref q15, .ref q16, .ref q17, .ref q18, .ref q19, .ref q20])), (q12, .inl ((ct 0), 40, .inl b2)), (q19, .inl ((ct 1), 40, .inr (.inl b9)))] H := hP
      have hD : va_D A [(hm, .inr (4, [.int 0, .long sd, .int nw, .long hh, .ref q1, .ref q2, .ref q3, .ref q4, .ref q5, .ref q6, .ref q7, .ref q8, .int (nI n), .ref q9, .ref q10, .ref q11, .ref q12, .ref q13, .ref q14, .ref q15, .ref q16, .ref q17, .ref q18, .ref q19, .ref q20])), (q12, .inl ((ct 0), 40, .inl b2)), (q19, .inl ((ct 1), 40, .inr (.inl b9)))] := hD
      refine lv_aload_n hx hb d_M_key_31 rfl (lv_at hl 0 rfl) ?_
      refine va_get (D := G) (ci := 4) (v := .int 0) (C := cr_M) (T := cf_M) (N := 25) hx hb hw uw_M hown hK.1 hP 0 rfl rfl 0 (by decide) (hw _ ww_640) (fun _ h9 => h9) rfl d_M_key_32 ?_
      refine lv_if_le (tgt := 42) hx hb d_M_key_35 (by decide) (fun h685 => ?_) (fun h685 => ?_)
      · refine lv_aload_n hx hb d_M_key_42 rfl (lv_at hl 0 rfl) ?_
        refine va_get (D := G) (ci := 4) (v := .ref q19) (C := cr_M) (T := cf_M) (N := 25) hx hb hw uw_M hown hK.1 hP 0 rfl rfl 23 (by decide) (hw _ ww_663) (fun _ h9 => h9) rfl d_M_key_43 ?_
        refine lv_iload_n hx hb d_M_key_46 rfl (lv_at hl 1 rfl) ?_
        refine ra_ll hx hb hK.1 hP 2 1 rfl rfl (k := k) (by omega) (by decide) d_M_key_47 ?_
        exact W.lret (v := b9 k) hx hb hr (fun t ht hW => ⟨⟨(), ⟨rfl, trivial⟩, by rw [ht]; exact hP, hD⟩, hS.F ht⟩) hS.2.2 d_M_key_48
      · exact absurd h685 (by decide)
    · exact absurd hf h684
  · exact absurd h683 (by decide)
set_option maxHeartbeats 4000000 in
set_option maxRecDepth 100000 in
theorem c_M_key2 (l : Launch) (G : va_G) (ct : Nat → ClassId) (sz : Nat) (hm : Nat) (th : Int32) (sd : Int64) (nw : Int32) (hh : Int64) (q1 : Nat) (q2 : Nat) (q3 : Nat) (q4 : Nat) (q5 : Nat) (q6 : Nat) (q7 : Nat) (q8 : Nat) (q9 : Nat) (q10 : Nat) (q11 : Nat) (q12 : Nat) (q13 : Nat) (q14 : Nat) (q15 : Nat) (q16 : Nat) (q17 : Nat) (q18 : Nat) (q19 : Nat) (q20 : Nat) (n : Nat) (b2 : Nat → Int32) (b9 : Nat → Int64) (k : Nat) (hn : n ≤ 40) (hkn : k < n) (hf : ¬ b2 k = 2) : Met l my_M_key (tb_w my_M_key mb_M_key 2 (some .long)) ({ frames := 1, cells := 0, slots := 0, locals := 21 }) (wk_P [.ref hm, .int (nI k)] G ct [(hm, .inr (4, [.int th, .long sd, .int nw, .long hh, .ref q1, .ref q2, .ref q3, .ref q4, .ref q5, .ref q6, .ref q7, .ref q8, .int (nI n), .ref q9, .ref q10, .ref q11, .ref q12, .ref q13, .ref q14, .ref q15, .ref q16, .ref q17, .ref q18, .ref q19, .ref q20])), (q12, .inl ((ct 0), 40, .inl b2)), (q19, .inl ((ct 1), 40, .inr (.inl b9)))] sz) (wk_Q (wk_ol (S := Unit) (fun _ => 0) (fun _ => True)) (fun _ : Unit => [(hm, .inr (4, [.int 2, .long sd, .int nw, .long hh, .ref q1, .ref q2, .ref q3, .ref q4, .ref q5, .ref q6, .ref q7, .ref q8, .int (nI n), .ref q9, .ref q10, .ref q11, .ref q12, .ref q13, .ref q14, .ref q15, .ref q16, .ref q17, .ref q18, .ref q19, .ref q20])), (q12, .inl ((ct 0), 40, .inl b2)), (q19, .inl ((ct 1), 40, .inr (.inl b9)))]) G (va_A [(hm, .inr (4, [.int th, .long sd, .int nw, .long hh, .ref q1, .ref q2, .ref q3, .ref q4, .ref q5, .ref q6, .ref q7, .ref q8, .int (nI n), .ref q9, .ref q10, .ref q11, .ref q12, .ref q13, .ref q14, .ref q15, .ref q16, .ref q17, .ref q18, .ref q19, .ref q20])), (q12, .inl ((ct 0), 40, .inl b2)), (q19, .inl ((ct 1), 40, .inr (.inl b9)))] sz)) 0 0 (va_A [(hm, .inr (4, [.int th, .long sd, .int nw, .long hh, .ref q1, .ref q2, .ref q3, .ref q4, .ref q5, .ref q6, .ref q7, .ref q8, .int (nI n), .ref q9, .ref q10, .ref q11, .ref q12, .ref q13, .ref q14, .ref q15, .ref q16, .ref q17, .ref q18, .ref q19, .ref q20])), (q12, .inl ((ct 0), 40, .inl b2)), (q19, .inl ((ct 1), 40, .inr (.inl b9)))] sz) := by
  refine Met.ofW (cc := mb_M_key) (maxL := 2) (ret := (some .long)) (by decide) rfl ?_
  intro p e s m args below meth c s₁ B hml hv
  obtain ⟨rfl, hsz, hP, hK, hD0⟩ := hv
  have hx := B.exec
  have hb := B.bytes
  have hr := B.returns
  have hts := atoms_spec (ws := tb_w my_M_key mb_M_key 2 (some .long)) B.pre
  have hw : ∀ w ∈ gt_tbl, w.before [.ref hm, .int (nI k)].toArray s = true := fun w h => hts w (List.mem_cons_of_mem _ h)
  have hown : s.vm.findClass cr_M = some m.cls := findClass_of_methodNamed B.named
  have hlocks := B.notSynchronized
  subst hsz
  have hD := hD0.self (sz := s.heap.size)
  generalize hAe : va_A [(hm, .inr (4, [.int th, .long sd, .int nw, .long hh, .ref q1, .ref q2, .ref q3, .ref q4, .ref q5, .ref q6, .ref q7, .ref q8, .int (nI n), .ref q9, .ref q10, .ref q11, .ref q12, .ref q13, .ref q14, .ref q15, .ref q16, .ref q17, .ref q18, .ref q19, .ref q20])), (q12, .inl ((ct 0), 40, .inl b2)), (q19, .inl ((ct 1), 40, .inr (.inl b9)))] s.heap.size = A at hD ⊢
  have hA : ∀ q : Nat, s.heap.size ≤ q → A q := fun q h => by rw [← hAe]; exact Or.inr h
  have hS : va_S A s.heap s.heap [] := va_S.rf
  have hP : va_P G classes [(hm, .inr (4, [.int th, .long sd, .int nw, .long hh, .ref q1, .ref q2, .ref q3, .ref q4, .ref q5, .ref q6, .ref q7, .ref q8, .int (nI n), .ref q9, .ref q10, .ref q11, .ref q12, .ref q13, .ref q14, .ref q15, .ref q16, .ref q17, .ref q18, .ref q19, .ref q20])), (q12, .inl ((ct 0), 40, .inl b2)), (q19, .inl ((ct 1), 40, .inr (.inl b9)))] s.heap := hP
  have hl := lv_entry ([.ref hm, .int (nI k)]) (n := 2) (Nat.le_of_ble_eq_true rfl)
  rw [lg_entry_eq]
  generalize (lg_sl ([.ref hm, .int (nI k)]) ++ List.replicate (2 - (lg_sl ([.ref hm, .int (nI k)])).length) Slot.unset).toArray = ls at hl ⊢
  have hl : lv_has ls 2 [(0, .ref hm), (1, .int (nI k))] := hl
  have hk : k < 40 := by omega
  refine lv_aload_n hx hb d_M_key_0 rfl (lv_at hl 0 rfl) ?_
  refine lv_aload_n hx hb d_M_key_1 rfl (lv_at hl 0 rfl) ?_
  refine lv_iload_n hx hb d_M_key_2 rfl (lv_at hl 1 rfl) ?_
  have hPc : va_P G classes [(hm, .inr (4, [.int th, .long sd, .int nw, .long hh, .ref q1, .ref q2, .ref q3, .ref q4, .ref q5, .ref q6, .ref q7, .ref q8, .int (nI n), .ref q9, .ref q10, .ref q11, .ref q12, .ref q13, .ref q14, .ref q15, .ref q16, .ref q17, .ref q18, .ref q19, .ref q20]))] s.heap := hP.sub [0] rfl
  have hDc := hD.sub (ws' := [(hm, .inr (4, [.int th, .long sd, .int nw, .long hh, .ref q1, .ref q2, .ref q3, .ref q4, .ref q5, .ref q6, .ref q7, .ref q8, .int (nI n), .ref q9, .ref q10, .ref q11, .ref q12, .ref q13, .ref q14, .ref q15, .ref q16, .ref q17, .ref q18, .ref q19, .ref q20]))]) [0] (by decide) rfl
  refine vp_callSi (W.runV (As := [.int (nI k)]) (rest := [.ref hm]) ⟨hx, hb, hml, hown, hts⟩ (c_M_there l G ct s.heap.size hm th sd nw hh q1 q2 q3 q4 q5 q6 q7 q8 q9 q10 q11 q12 q13 q14 q15 q16 q17 q18 q19 q20 n (nI k)) (tb_V hw cy_M_there ww_812 ww_814 wp_M_there rfl rfl ⟨Nat.le_of_ble_eq_true rfl, Nat.le_of_ble_eq_true rfl⟩) (wk_preV (ci := 4) (q0 := 0) hPc hK hDc rfl rfl) rfl rfl hl.1 rfl (lv_room (Nat.le_of_ble_eq_true rfl)) d_M_key_3 ⟨Nat.le_of_ble_eq_true rfl, Nat.le_of_ble_eq_true rfl⟩) (fun r686 er686 => ?_)
  subst er686
  refine tp_i (if_pos (th_k hn hkn)) ?_
  refine lv_if_ne (tgt := 13) hx hb d_M_key_6 (by decide) (fun h687 => ?_) (fun h687 => ?_)
  · refine lv_aload_n hx hb d_M_key_13 rfl (lv_at hl 0 rfl) ?_
    refine va_get (D := G) (ci := 4) (v := .ref q12) (C := cr_M) (T := cf_M) (N := 25) hx hb hw uw_M hown hK.1 hP 0 rfl rfl 16 (by decide) (hw _ ww_656) (fun _ h9 => h9) rfl d_M_key_14 ?_
    refine lv_iload_n hx hb d_M_key_17 rfl (lv_at hl 1 rfl) ?_
    refine ra_il hx hb hK.1 hP 1 0 rfl rfl (k := k) (by omega) (by decide) d_M_key_18 ?_
    refine lv_iconst (v := 2) hx hb d_M_key_19 (by decide) ?_
    refine lv_icmp_eq (tgt := 27) hx hb d_M_key_20 (by decide) (fun h688 => ?_) (fun h688 => ?_)
    · exact absurd h688 hf
    · refine lv_iconst (v := 2) hx hb d_M_key_23 (by decide) ?_
      refine lv_goto (tgt := 28) hx hb d_M_key_24 (by decide) ?_
      refine va_put (D := G) (ci := 4) (v := .int 2) (ty := .int) (C := cr_M) (T := cf_M) (N := 25) hx hb hw uw_M ct_M ct_M_ok ct_M_nm hown hK.1 hP hD hS 0 rfl rfl 0 (by decide) (hw _ ww_640) (fun _ h9 => h9) rfl (by decide +kernel) rfl rfl (Nat.le_of_ble_eq_true rfl) d_M_key_28 (fun H locs hP hD hS => ?_)
      have hP : va_P G classes [(hm, .inr (4, [.int 2, .long sd, .int nw, .long hh, .ref q1, .ref q2, .ref q3, .ref q4, .ref q5, .ref q6, .ref q7, .ref q8, .int (nI n), .ref q9, .ref q10, .ref q11, .ref q12, .ref q13, .ref q14, .ref q15, .ref q16, .ref q17, .ref q18, .ref q19, .ref q20])), (q12, .inl ((ct 0), 40, .inl b2)), (q19, .inl ((ct 1), 40, .inr (.inl b9)))] H := hP
      have hD : va_D A [(hm, .inr (4, [.int 2, .long sd, .int nw, .long hh, .ref q1, .ref q2, .ref q3, .ref q4, .ref q5, .ref q6, .ref q7, .ref q8, .int (nI n), .ref q9, .ref q10, .ref q11, .ref q12, .ref q13, .ref q14, .ref q15, .ref q16, .ref q17, .ref q18, .ref q19, .ref q20])), (q12, .inl ((ct 0), 40, .inl b2)), (q19, .inl ((ct 1), 40, .inr (.inl b9)))] := hD
      refine lv_aload_n hx hb d_M_key_31 rfl (lv_at hl 0 rfl) ?_
      refine va_get (D := G) (ci := 4) (v := .int 2) (C := cr_M) (T := cf_M) (N := 25) hx hb hw uw_M hown hK.1 hP 0 rfl rfl 0 (by decide) (hw _ ww_640) (fun _ h9 => h9) rfl d_M_key_32 ?_
      refine lv_if_le (tgt := 42) hx hb d_M_key_35 (by decide) (fun h689 => ?_) (fun h689 => ?_)
      · exact absurd h689 (by decide)
      · refine lv_lconst (v := 0) hx hb d_M_key_38 (by decide) ?_
        refine lv_goto (tgt := 48) hx hb d_M_key_39 (by decide) ?_
        exact W.lret (v := 0) hx hb hr (fun t ht hW => ⟨⟨(), ⟨rfl, trivial⟩, by rw [ht]; exact hP, hD⟩, hS.F ht⟩) hS.2.2 d_M_key_48
  · exact absurd h687 (by decide)
set_option maxHeartbeats 4000000 in
set_option maxRecDepth 100000 in
theorem c_M_key0 (l : Launch) (G : va_G) (ct : Nat → ClassId) (sz : Nat) (hm : Nat) (th : Int32) (sd : Int64) (nw : Int32) (hh : Int64) (q1 : Nat) (q2 : Nat) (q3 : Nat) (q4 : Nat) (q5 : Nat) (q6 : Nat) (q7 : Nat) (q8 : Nat) (q9 : Nat) (q10 : Nat) (q11 : Nat) (q12 : Nat) (q13 : Nat) (q14 : Nat) (q15 : Nat) (q16 : Nat) (q17 : Nat) (q18 : Nat) (q19 : Nat) (q20 : Nat) (n : Nat) (sa : Int32) (hno : ¬ th_in sa n) : Met l my_M_key (tb_w my_M_key mb_M_key 2 (some .long)) ({ frames := 1, cells := 0, slots := 0, locals := 21 }) (wk_P [.ref hm, .int sa] G ct [(hm, .inr (4, [.int th, .long sd, .int nw, .long hh, .ref q1, .ref q2, .ref q3, .ref q4, .ref q5, .ref q6, .ref q7, .ref q8, .int (nI n), .ref q9, .ref q10, .ref q11, .ref q12, .ref q13, .ref q14, .ref q15, .ref q16, .ref q17, .ref q18, .ref q19, .ref q20]))] sz) (wk_Q (wk_ol (S := Unit) (fun _ => 0) (fun _ => True)) (fun _ : Unit => [(hm, .inr (4, [.int 1, .long sd, .int nw, .long hh, .ref q1, .ref q2, .ref q3, .ref q4, .ref q5, .ref q6, .ref q7, .ref q8, .int (nI n), .ref q9, .ref q10, .ref q11, .ref q12, .ref q13, .ref q14, .ref q15, .ref q16, .ref q17, .ref q18, .ref q19, .ref q20]))]) G (va_A [(hm, .inr (4, [.int th, .long sd, .int nw, .long hh, .ref q1, .ref q2, .ref q3, .ref q4, .ref q5, .ref q6, .ref q7, .ref q8, .int (nI n), .ref q9, .ref q10, .ref q11, .ref q12, .ref q13, .ref q14, .ref q15, .ref q16, .ref q17, .ref q18, .ref q19, .ref q20]))] sz)) 0 0 (va_A [(hm, .inr (4, [.int th, .long sd, .int nw, .long hh, .ref q1, .ref q2, .ref q3, .ref q4, .ref q5, .ref q6, .ref q7, .ref q8, .int (nI n), .ref q9, .ref q10, .ref q11, .ref q12, .ref q13, .ref q14, .ref q15, .ref q16, .ref q17, .ref q18, .ref q19, .ref q20]))] sz) := by
  refine Met.ofW (cc := mb_M_key) (maxL := 2) (ret := (some .long)) (by decide) rfl ?_
  intro p e s m args below meth c s₁ B hml hv
  obtain ⟨rfl, hsz, hP, hK, hD0⟩ := hv
  have hx := B.exec
  have hb := B.bytes
  have hr := B.returns
  have hts := atoms_spec (ws := tb_w my_M_key mb_M_key 2 (some .long)) B.pre
  have hw : ∀ w ∈ gt_tbl, w.before [.ref hm, .int sa].toArray s = true := fun w h => hts w (List.mem_cons_of_mem _ h)
  have hown : s.vm.findClass cr_M = some m.cls := findClass_of_methodNamed B.named
  have hlocks := B.notSynchronized
  subst hsz
  have hD := hD0.self (sz := s.heap.size)
  generalize hAe : va_A [(hm, .inr (4, [.int th, .long sd, .int nw, .long hh, .ref q1, .ref q2, .ref q3, .ref q4, .ref q5, .ref q6, .ref q7, .ref q8, .int (nI n), .ref q9, .ref q10, .ref q11, .ref q12, .ref q13, .ref q14, .ref q15, .ref q16, .ref q17, .ref q18, .ref q19, .ref q20]))] s.heap.size = A at hD ⊢
  have hA : ∀ q : Nat, s.heap.size ≤ q → A q := fun q h => by rw [← hAe]; exact Or.inr h
  have hS : va_S A s.heap s.heap [] := va_S.rf
  have hP : va_P G classes [(hm, .inr (4, [.int th, .long sd, .int nw, .long hh, .ref q1, .ref q2, .ref q3, .ref q4, .ref q5, .ref q6, .ref q7, .ref q8, .int (nI n), .ref q9, .ref q10, .ref q11, .ref q12, .ref q13, .ref q14, .ref q15, .ref q16, .ref q17, .ref q18, .ref q19, .ref q20]))] s.heap := hP
  have hl := lv_entry ([.ref hm, .int sa]) (n := 2) (Nat.le_of_ble_eq_true rfl)
  rw [lg_entry_eq]
  generalize (lg_sl ([.ref hm, .int sa]) ++ List.replicate (2 - (lg_sl ([.ref hm, .int sa])).length) Slot.unset).toArray = ls at hl ⊢
  have hl : lv_has ls 2 [(0, .ref hm), (1, .int sa)] := hl
  refine lv_aload_n hx hb d_M_key_0 rfl (lv_at hl 0 rfl) ?_
  refine lv_aload_n hx hb d_M_key_1 rfl (lv_at hl 0 rfl) ?_
  refine lv_iload_n hx hb d_M_key_2 rfl (lv_at hl 1 rfl) ?_
  have hPc : va_P G classes [(hm, .inr (4, [.int th, .long sd, .int nw, .long hh, .ref q1, .ref q2, .ref q3, .ref q4, .ref q5, .ref q6, .ref q7, .ref q8, .int (nI n), .ref q9, .ref q10, .ref q11, .ref q12, .ref q13, .ref q14, .ref q15, .ref q16, .ref q17, .ref q18, .ref q19, .ref q20]))] s.heap := hP.sub [0] rfl
  have hDc := hD.sub (ws' := [(hm, .inr (4, [.int th, .long sd, .int nw, .long hh, .ref q1, .ref q2, .ref q3, .ref q4, .ref q5, .ref q6, .ref q7, .ref q8, .int (nI n), .ref q9, .ref q10, .ref q11, .ref q12, .ref q13, .ref q14, .ref q15, .ref q16, .ref q17, .ref q18, .ref q19, .ref q20]))]) [0] (by decide) rfl
  refine vp_callSi (W.runV (As := [.int sa]) (rest := [.ref hm]) ⟨hx, hb, hml, hown, hts⟩ (c_M_there l G ct s.heap.size hm th sd nw hh q1 q2 q3 q4 q5 q6 q7 q8 q9 q10 q11 q12 q13 q14 q15 q16 q17 q18 q19 q20 n sa) (tb_V hw cy_M_there ww_812 ww_814 wp_M_there rfl rfl ⟨Nat.le_of_ble_eq_true rfl, Nat.le_of_ble_eq_true rfl⟩) (wk_preV (ci := 4) (q0 := 0) hPc hK hDc rfl rfl) rfl rfl hl.1 rfl (lv_room (Nat.le_of_ble_eq_true rfl)) d_M_key_3 ⟨Nat.le_of_ble_eq_true rfl, Nat.le_of_ble_eq_true rfl⟩) (fun r690 er690 => ?_)
  subst er690
  refine tp_i (if_neg hno) ?_
  refine lv_if_ne (tgt := 13) hx hb d_M_key_6 (by decide) (fun h691 => ?_) (fun h691 => ?_)
  · exact absurd h691 (by decide)
  · refine lv_iconst (v := 1) hx hb d_M_key_9 (by decide) ?_
    refine lv_goto (tgt := 28) hx hb d_M_key_10 (by decide) ?_
    refine va_put (D := G) (ci := 4) (v := .int 1) (ty := .int) (C := cr_M) (T := cf_M) (N := 25) hx hb hw uw_M ct_M ct_M_ok ct_M_nm hown hK.1 hP hD hS 0 rfl rfl 0 (by decide) (hw _ ww_640) (fun _ h9 => h9) rfl (by decide +kernel) rfl rfl (Nat.le_of_ble_eq_true rfl) d_M_key_28 (fun H locs hP hD hS => ?_)
    have hP : va_P G classes [(hm, .inr (4, [.int 1, .long sd, .int nw, .long hh, .ref q1, .ref q2, .ref q3, .ref q4, .ref q5, .ref q6, .ref q7, .ref q8, .int (nI n), .ref q9, .ref q10, .ref q11, .ref q12, .ref q13, .ref q14, .ref q15, .ref q16, .ref q17, .ref q18, .ref q19, .ref q20]))] H := hP
    have hD : va_D A [(hm, .inr (4, [.int 1, .long sd, .int nw, .long hh, .ref q1, .ref q2, .ref q3, .ref q4, .ref q5, .ref q6, .ref q7, .ref q8, .int (nI n), .ref q9, .ref q10, .ref q11, .ref q12, .ref q13, .ref q14, .ref q15, .ref q16, .ref q17, .ref q18, .ref q19, .ref q20]))] := hD
    refine lv_aload_n hx hb d_M_key_31 rfl (lv_at hl 0 rfl) ?_
    refine va_get (D := G) (ci := 4) (v := .int 1) (C := cr_M) (T := cf_M) (N := 25) hx hb hw uw_M hown hK.1 hP 0 rfl rfl 0 (by decide) (hw _ ww_640) (fun _ h9 => h9) rfl d_M_key_32 ?_
    refine lv_if_le (tgt := 42) hx hb d_M_key_35 (by decide) (fun h692 => ?_) (fun h692 => ?_)
    · exact absurd h692 (by decide)
    · refine lv_lconst (v := 0) hx hb d_M_key_38 (by decide) ?_
      refine lv_goto (tgt := 48) hx hb d_M_key_39 (by decide) ?_
      exact W.lret (v := 0) hx hb hr (fun t ht hW => ⟨⟨(), ⟨rfl, trivial⟩, by rw [ht]; exact hP, hD⟩, hS.F ht⟩) hS.2.2 d_M_key_48
set_option maxHeartbeats 4000000 in
set_option maxRecDepth 100000 in
theorem c_M_state1 (l : Launch) (G : va_G) (ct : Nat → ClassId) (sz : Nat) (hm : Nat) (th : Int32) (sd : Int64) (nw : Int32) (hh : Int64) (q1 : Nat) (q2 : Nat) (q3 : Nat) (q4 : Nat) (q5 : Nat) (q6 : Nat) (q7 : Nat) (q8 : Nat) (q9 : Nat) (q10 : Nat) (q11 : Nat) (q12 : Nat) (q13 : Nat) (q14 : Nat) (q15 : Nat) (q16 : Nat) (q17 : Nat) (q18 : Nat) (q19 : Nat) (q20 : Nat) (n : Nat) (b2 : Nat → Int32) (b3 : Nat → Int32) (k : Nat) (hn : n ≤ 40) (hkn : k < n) : Met l my_M_state (tb_w my_M_state mb_M_state 2 (some .int)) ({ frames := 1, cells := 0, slots := 0, locals := 21 }) (wk_P [.ref hm, .int (nI k)] G ct [(hm, .inr (4, [.int th, .long sd, .int nw, .long hh, .ref q1, .ref q2, .ref q3, .ref q4, .ref q5, .ref q6, .ref q7, .ref q8, .int (nI n), .ref q9, .ref q10, .ref q11, .ref q12, .ref q13, .ref q14, .ref q15, .ref q16, .ref q17, .ref q18, .ref q19, .ref q20])), (q12, .inl ((ct 0), 40, .inl b2)), (q13, .inl ((ct 0), 40, .inl b3))] sz) (wk_Q (wk_oi (S := Unit) (fun _ => sm_at (b2 k) (b3 k) nw) (fun _ => True)) (fun _ : Unit => [(hm, .inr (4, [.int 0, .long sd, .int nw, .long hh, .ref q1, .ref q2, .ref q3, .ref q4, .ref q5, .ref q6, .ref q7, .ref q8, .int (nI n), .ref q9, .ref q10, .ref q11, .ref q12, .ref q13, .ref q14, .ref q15, .ref q16, .ref q17, .ref q18, .ref q19, .ref q20])), (q12, .inl ((ct 0), 40, .inl b2)), (q13, .inl ((ct 0), 40, .inl b3))]) G (va_A [(hm, .inr (4, [.int th, .long sd, .int nw, .long hh, .ref q1, .ref q2, .ref q3, .ref q4, .ref q5, .ref q6, .ref q7, .ref q8, .int (nI n), .ref q9, .ref q10, .ref q11, .ref q12, .ref q13, .ref q14, .ref q15, .ref q16, .ref q17, .ref q18, .ref q19, .ref q20])), (q12, .inl ((ct 0), 40, .inl b2)), (q13, .inl ((ct 0), 40, .inl b3))] sz)) 0 0 (va_A [(hm, .inr (4, [.int th, .long sd, .int nw, .long hh, .ref q1, .ref q2, .ref q3, .ref q4, .ref q5, .ref q6, .ref q7, .ref q8, .int (nI n), .ref q9, .ref q10, .ref q11, .ref q12, .ref q13, .ref q14, .ref q15, .ref q16, .ref q17, .ref q18, .ref q19, .ref q20])), (q12, .inl ((ct 0), 40, .inl b2)), (q13, .inl ((ct 0), 40, .inl b3))] sz) := by
  refine Met.ofW (cc := mb_M_state) (maxL := 2) (ret := (some .int)) (by decide) rfl ?_
  intro p e s m args below meth c s₁ B hml hv
  obtain ⟨rfl, hsz, hP, hK, hD0⟩ := hv
  have hx := B.exec
  have hb := B.bytes
  have hr := B.returns
  have hts := atoms_spec (ws := tb_w my_M_state mb_M_state 2 (some .int)) B.pre
  have hw : ∀ w ∈ gt_tbl, w.before [.ref hm, .int (nI k)].toArray s = true := fun w h => hts w (List.mem_cons_of_mem _ h)
  have hown : s.vm.findClass cr_M = some m.cls := findClass_of_methodNamed B.named
  have hlocks := B.notSynchronized
  subst hsz
  have hD := hD0.self (sz := s.heap.size)
  generalize hAe : va_A [(hm, .inr (4, [.int th, .long sd, .int nw, .long hh, .ref q1, .ref q2, .ref q3, .ref q4, .ref q5, .ref q6, .ref q7, .ref q8, .int (nI n), .ref q9, .ref q10, .ref q11, .ref q12, .ref q13, .ref q14, .ref q15, .ref q16, .ref q17, .ref q18, .ref q19, .ref q20])), (q12, .inl ((ct 0), 40, .inl b2)), (q13, .inl ((ct 0), 40, .inl b3))] s.heap.size = A at hD ⊢
  have hA : ∀ q : Nat, s.heap.size ≤ q → A q := fun q h => by rw [← hAe]; exact Or.inr h
  have hS : va_S A s.heap s.heap [] := va_S.rf
  have hP : va_P G classes [(hm, .inr (4, [.int th, .long sd, .int nw, .long hh, .ref q1, .ref q2, .ref q3, .ref q4, .ref q5, .ref q6, .ref q7, .ref q8, .int (nI n), .ref q9, .ref q10, .ref q11, .ref q12, .ref q13, .ref q14, .ref q15, .ref q16, .ref q17, .ref q18, .ref q19, .ref q20])), (q12, .inl ((ct 0), 40, .inl b2)), (q13, .inl ((ct 0), 40, .inl b3))] s.heap := hP
  have hl := lv_entry ([.ref hm, .int (nI k)]) (n := 2) (Nat.le_of_ble_eq_true rfl)
  rw [lg_entry_eq]
  generalize (lg_sl ([.ref hm, .int (nI k)]) ++ List.replicate (2 - (lg_sl ([.ref hm, .int (nI k)])).length) Slot.unset).toArray = ls at hl ⊢
  have hl : lv_has ls 2 [(0, .ref hm), (1, .int (nI k))] := hl
  have hk : k < 40 := by omega
  refine lv_aload_n hx hb d_M_state_0 rfl (lv_at hl 0 rfl) ?_
  refine lv_iconst (v := 0) hx hb d_M_state_1 (by decide) ?_
  refine va_put (D := G) (ci := 4) (v := .int 0) (ty := .int) (C := cr_M) (T := cf_M) (N := 25) hx hb hw uw_M ct_M ct_M_ok ct_M_nm hown hK.1 hP hD hS 0 rfl rfl 0 (by decide) (hw _ ww_640) (fun _ h9 => h9) rfl (by decide +kernel) rfl rfl (Nat.le_of_ble_eq_true rfl) d_M_state_2 (fun H locs hP hD hS => ?_)
  have hP : va_P G classes [(hm, .inr (4, [.int 0, .long sd, .int nw, .long hh, .ref q1, .ref q2, .ref q3, .ref q4, .ref q5, .ref q6, .ref q7, .ref q8, .int (nI n), .ref q9, .ref q10, .ref q11, .ref q12, .ref q13, .ref q14, .ref q15, .ref q16, .ref q17, .ref q18, .ref q19, .ref q20])), (q12, .inl ((ct 0), 40, .inl b2)), (q13, .inl ((ct 0), 40, .inl b3))] H := hP
  have hD : va_D A [(hm, .inr (4, [.int 0, .long sd, .int nw, .long hh, .ref q1, .ref q2, .ref q3, .ref q4, .ref q5, .ref q6, .ref q7, .ref q8, .int (nI n), .ref q9, .ref q10, .ref q11, .ref q12, .ref q13, .ref q14, .ref q15, .ref q16, .ref q17, .ref q18, .ref q19, .ref q20])), (q12, .inl ((ct 0), 40, .inl b2)), (q13, .inl ((ct 0), 40, .inl b3))] := hD
  refine lv_aload_n hx hb d_M_state_5 rfl (lv_at hl 0 rfl) ?_
  refine lv_iload_n hx hb d_M_state_6 rfl (lv_at hl 1 rfl) ?_
  have hPc : va_P G classes [(hm, .inr (4, [.int 0, .long sd, .int nw, .long hh, .ref q1, .ref q2, .ref q3, .ref q4, .ref q5, .ref q6, .ref q7, .ref q8, .int (nI n), .ref q9, .ref q10, .ref q11, .ref q12, .ref q13, .ref q14, .ref q15, .ref q16, .ref q17, .ref q18, .ref q19, .ref q20]))] H := hP.sub [0] rfl
  have hDc := hD.sub (ws' := [(hm, .inr (4, [.int 0, .long sd, .int nw, .long hh, .ref q1, .ref q2, .ref q3, .ref q4, .ref q5, .ref q6, .ref q7, .ref q8, .int (nI n), .ref q9, .ref q10, .ref q11, .ref q12, .ref q13, .ref q14, .ref q15, .ref q16, .ref q17, .ref q18, .ref q19, .ref q20]))]) [0] (by decide) rfl
  refine vp_callSi (W.runV (As := [.int (nI k)]) (rest := []) ⟨hx, hb, hml, hown, hts⟩ (c_M_there l G ct H.size hm 0 sd nw hh q1 q2 q3 q4 q5 q6 q7 q8 q9 q10 q11 q12 q13 q14 q15 q16 q17 q18 q19 q20 n (nI k)) (tb_V hw cy_M_there ww_812 ww_814 wp_M_there rfl rfl ⟨Nat.le_of_ble_eq_true rfl, Nat.le_of_ble_eq_true rfl⟩) (wk_preV (ci := 4) (q0 := 0) hPc hK hDc rfl rfl) rfl rfl hl.1 rfl (lv_room (Nat.le_of_ble_eq_true rfl)) d_M_state_7 ⟨Nat.le_of_ble_eq_true rfl, Nat.le_of_ble_eq_true rfl⟩) (fun r693 er693 => ?_)
  subst er693
  refine tp_i (if_pos (th_k hn hkn)) ?_
  refine lv_if_eq (tgt := 21) hx hb d_M_state_10 (by decide) (fun h694 => ?_) (fun h694 => ?_)
  · exact absurd h694 (by decide)
  · refine lv_aload_n hx hb d_M_state_13 rfl (lv_at hl 0 rfl) ?_
    refine lv_iload_n hx hb d_M_state_14 rfl (lv_at hl 1 rfl) ?_
    have hPc : va_P G classes [(hm, .inr (4, [.int 0, .long sd, .int nw, .long hh, .ref q1, .ref q2, .ref q3, .ref q4, .ref q5, .ref q6, .ref q7, .ref q8, .int (nI n), .ref q9, .ref q10, .ref q11, .ref q12, .ref q13, .ref q14, .ref q15, .ref q16, .ref q17, .ref q18, .ref q19, .ref q20])), (q12, .inl ((ct 0), 40, .inl b2)), (q13, .inl ((ct 0), 40, .inl b3))] H := hP.sub [0, 1, 2] rfl
    have hDc := hD.sub (ws' := [(hm, .inr (4, [.int 0, .long sd, .int nw, .long hh, .ref q1, .ref q2, .ref q3, .ref q4, .ref q5, .ref q6, .ref q7, .ref q8, .int (nI n), .ref q9, .ref q10, .ref q11, .ref q12, .ref q13, .ref q14, .ref q15, .ref q16, .ref q17, .ref q18, .ref q19, .ref q20])), (q12, .inl ((ct 0), 40, .inl b2)), (q13, .inl ((ct 0), 40, .inl b3))]) [0, 1, 2] (by decide) rfl
    refine vp_callSi (W.runV (As := [.int (nI k)]) (rest := []) ⟨hx, hb, hml, hown, hts⟩ (c_M_stateOf l G ct H.size hm 0 sd nw hh q1 q2 q3 q4 q5 q6 q7 q8 q9 q10 q11 q12 q13 q14 q15 q16 q17 q18 q19 q20 n b2 b3 k (by first | assumption | exact m63 (by first | assumption | exact qs_P (by assumption)) | decide | exact pw_lt _ _ | exact Nat.mod_lt _ pq_pos | exact sc_lt _ | exact sc_pos _ | exact m63 (by first | assumption | exact pw_lt _ _ | exact Nat.mod_lt _ pq_pos | exact qs_P (by first | assumption | exact sc_lt _ | exact qz_Q _)) | exact up_se _ _ _ | exact ul_se _ _ _ | omega)) (tb_V hw cy_M_stateOf ww_816 ww_818 wp_M_stateOf rfl rfl ⟨Nat.le_of_ble_eq_true rfl, Nat.le_of_ble_eq_true rfl⟩) (wk_preV (ci := 4) (q0 := 0) hPc hK hDc rfl rfl) rfl rfl hl.1 rfl (lv_room (Nat.le_of_ble_eq_true rfl)) d_M_state_15 ⟨Nat.le_of_ble_eq_true rfl, Nat.le_of_ble_eq_true rfl⟩) (fun r695 er695 => ?_)
    subst er695
    refine lv_goto (tgt := 22) hx hb d_M_state_18 (by decide) ?_
    exact W.iret (v := sm_at (b2 k) (b3 k) nw) hx hb hr (fun t ht hW => ⟨⟨(), ⟨rfl, trivial⟩, by rw [ht]; exact hP, hD⟩, hS.F ht⟩) hS.2.2 d_M_state_22
set_option maxHeartbeats 4000000 in
set_option maxRecDepth 100000 in
theorem c_M_state0 (l : Launch) (G : va_G) (ct : Nat → ClassId) (sz : Nat) (hm : Nat) (th : Int32) (sd : Int64) (nw : Int32) (hh : Int64) (q1 : Nat) (q2 : Nat) (q3 : Nat) (q4 : Nat) (q5 : Nat) (q6 : Nat) (q7 : Nat) (q8 : Nat) (q9 : Nat) (q10 : Nat) (q11 : Nat) (q12 : Nat) (q13 : Nat) (q14 : Nat) (q15 : Nat) (q16 : Nat) (q17 : Nat) (q18 : Nat) (q19 : Nat) (q20 : Nat) (n : Nat) (sa : Int32) (hno : ¬ th_in sa n) : Met l my_M_state (tb_w my_M_state mb_M_state 2 (some .int)) ({ frames := 1, cells := 0, slots := 0, locals := 21 }) (wk_P [.ref hm, .int sa] G ct [(hm, .inr (4, [.int th, .long sd, .int nw, .long hh, .ref q1, .ref q2, .ref q3, .ref q4, .ref q5, .ref q6, .ref q7, .ref q8, .int (nI n), .ref q9, .ref q10, .ref q11, .ref q12, .ref q13, .ref q14, .ref q15, .ref q16, .ref q17, .ref q18, .ref q19, .ref q20]))] sz) (wk_Q (wk_oi (S := Unit) (fun _ => (-1)) (fun _ => True)) (fun _ : Unit => [(hm, .inr (4, [.int 0, .long sd, .int nw, .long hh, .ref q1, .ref q2, .ref q3, .ref q4, .ref q5, .ref q6, .ref q7, .ref q8, .int (nI n), .ref q9, .ref q10, .ref q11, .ref q12, .ref q13, .ref q14, .ref q15, .ref q16, .ref q17, .ref q18, .ref q19, .ref q20]))]) G (va_A [(hm, .inr (4, [.int th, .long sd, .int nw, .long hh, .ref q1, .ref q2, .ref q3, .ref q4, .ref q5, .ref q6, .ref q7, .ref q8, .int (nI n), .ref q9, .ref q10, .ref q11, .ref q12, .ref q13, .ref q14, .ref q15, .ref q16, .ref q17, .ref q18, .ref q19, .ref q20]))] sz)) 0 0 (va_A [(hm, .inr (4, [.int th, .long sd, .int nw, .long hh, .ref q1, .ref q2, .ref q3, .ref q4, .ref q5, .ref q6, .ref q7, .ref q8, .int (nI n), .ref q9, .ref q10, .ref q11, .ref q12, .ref q13, .ref q14, .ref q15, .ref q16, .ref q17, .ref q18, .ref q19, .ref q20]))] sz) := by
  refine Met.ofW (cc := mb_M_state) (maxL := 2) (ret := (some .int)) (by decide) rfl ?_
  intro p e s m args below meth c s₁ B hml hv
  obtain ⟨rfl, hsz, hP, hK, hD0⟩ := hv
  have hx := B.exec
  have hb := B.bytes
  have hr := B.returns
  have hts := atoms_spec (ws := tb_w my_M_state mb_M_state 2 (some .int)) B.pre
  have hw : ∀ w ∈ gt_tbl, w.before [.ref hm, .int sa].toArray s = true := fun w h => hts w (List.mem_cons_of_mem _ h)
  have hown : s.vm.findClass cr_M = some m.cls := findClass_of_methodNamed B.named
  have hlocks := B.notSynchronized
  subst hsz
  have hD := hD0.self (sz := s.heap.size)
  generalize hAe : va_A [(hm, .inr (4, [.int th, .long sd, .int nw, .long hh, .ref q1, .ref q2, .ref q3, .ref q4, .ref q5, .ref q6, .ref q7, .ref q8, .int (nI n), .ref q9, .ref q10, .ref q11, .ref q12, .ref q13, .ref q14, .ref q15, .ref q16, .ref q17, .ref q18, .ref q19, .ref q20]))] s.heap.size = A at hD ⊢
  have hA : ∀ q : Nat, s.heap.size ≤ q → A q := fun q h => by rw [← hAe]; exact Or.inr h
  have hS : va_S A s.heap s.heap [] := va_S.rf
  have hP : va_P G classes [(hm, .inr (4, [.int th, .long sd, .int nw, .long hh, .ref q1, .ref q2, .ref q3, .ref q4, .ref q5, .ref q6, .ref q7, .ref q8, .int (nI n), .ref q9, .ref q10, .ref q11, .ref q12, .ref q13, .ref q14, .ref q15, .ref q16, .ref q17, .ref q18, .ref q19, .ref q20]))] s.heap := hP
  have hl := lv_entry ([.ref hm, .int sa]) (n := 2) (Nat.le_of_ble_eq_true rfl)
  rw [lg_entry_eq]
  generalize (lg_sl ([.ref hm, .int sa]) ++ List.replicate (2 - (lg_sl ([.ref hm, .int sa])).length) Slot.unset).toArray = ls at hl ⊢
  have hl : lv_has ls 2 [(0, .ref hm), (1, .int sa)] := hl
  refine lv_aload_n hx hb d_M_state_0 rfl (lv_at hl 0 rfl) ?_
  refine lv_iconst (v := 0) hx hb d_M_state_1 (by decide) ?_
  refine va_put (D := G) (ci := 4) (v := .int 0) (ty := .int) (C := cr_M) (T := cf_M) (N := 25) hx hb hw uw_M ct_M ct_M_ok ct_M_nm hown hK.1 hP hD hS 0 rfl rfl 0 (by decide) (hw _ ww_640) (fun _ h9 => h9) rfl (by decide +kernel) rfl rfl (Nat.le_of_ble_eq_true rfl) d_M_state_2 (fun H locs hP hD hS => ?_)
  have hP : va_P G classes [(hm, .inr (4, [.int 0, .long sd, .int nw, .long hh, .ref q1, .ref q2, .ref q3, .ref q4, .ref q5, .ref q6, .ref q7, .ref q8, .int (nI n), .ref q9, .ref q10, .ref q11, .ref q12, .ref q13, .ref q14, .ref q15, .ref q16, .ref q17, .ref q18, .ref q19, .ref q20]))] H := hP
  have hD : va_D A [(hm, .inr (4, [.int 0, .long sd, .int nw, .long hh, .ref q1, .ref q2, .ref q3, .ref q4, .ref q5, .ref q6, .ref q7, .ref q8, .int (nI n), .ref q9, .ref q10, .ref q11, .ref q12, .ref q13, .ref q14, .ref q15, .ref q16, .ref q17, .ref q18, .ref q19, .ref q20]))] := hD
  refine lv_aload_n hx hb d_M_state_5 rfl (lv_at hl 0 rfl) ?_
  refine lv_iload_n hx hb d_M_state_6 rfl (lv_at hl 1 rfl) ?_
  have hPc : va_P G classes [(hm, .inr (4, [.int 0, .long sd, .int nw, .long hh, .ref q1, .ref q2, .ref q3, .ref q4, .ref q5, .ref q6, .ref q7, .ref q8, .int (nI n), .ref q9, .ref q10, .ref q11, .ref q12, .ref q13, .ref q14, .ref q15, .ref q16, .ref q17, .ref q18, .ref q19, .ref q20]))] H := hP.sub [0] rfl
  have hDc := hD.sub (ws' := [(hm, .inr (4, [.int 0, .long sd, .int nw, .long hh, .ref q1, .ref q2, .ref q3, .ref q4, .ref q5, .ref q6, .ref q7, .ref q8, .int (nI n), .ref q9, .ref q10, .ref q11, .ref q12, .ref q13, .ref q14, .ref q15, .ref q16, .ref q17, .ref q18, .ref q19, .ref q20]))]) [0] (by decide) rfl
  refine vp_callSi (W.runV (As := [.int sa]) (rest := []) ⟨hx, hb, hml, hown, hts⟩ (c_M_there l G ct H.size hm 0 sd nw hh q1 q2 q3 q4 q5 q6 q7 q8 q9 q10 q11 q12 q13 q14 q15 q16 q17 q18 q19 q20 n sa) (tb_V hw cy_M_there ww_812 ww_814 wp_M_there rfl rfl ⟨Nat.le_of_ble_eq_true rfl, Nat.le_of_ble_eq_true rfl⟩) (wk_preV (ci := 4) (q0 := 0) hPc hK hDc rfl rfl) rfl rfl hl.1 rfl (lv_room (Nat.le_of_ble_eq_true rfl)) d_M_state_7 ⟨Nat.le_of_ble_eq_true rfl, Nat.le_of_ble_eq_true rfl⟩) (fun r696 er696 => ?_)
  subst er696
  refine tp_i (if_neg hno) ?_
  refine lv_if_eq (tgt := 21) hx hb d_M_state_10 (by decide) (fun h697 => ?_) (fun h697 => ?_)
  · refine lv_iconst (v := (-1)) hx hb d_M_state_21 (by decide) ?_
    exact W.iret (v := (-1)) hx hb hr (fun t ht hW => ⟨⟨(), ⟨rfl, trivial⟩, by rw [ht]; exact hP, hD⟩, hS.F ht⟩) hS.2.2 d_M_state_22
  · exact absurd h697 (by decide)
set_option maxHeartbeats 4000000 in
set_option maxRecDepth 100000 in
theorem c_M_blocked1 (l : Launch) (G : va_G) (ct : Nat → ClassId) (sz : Nat) (hm : Nat) (th : Int32) (sd : Int64) (nw : Int32) (hh : Int64) (q1 : Nat) (q2 : Nat) (q3 : Nat) (q4 : Nat) (q5 : Nat) (q6 : Nat) (q7 : Nat) (q8 : Nat) (q9 : Nat) (q10 : Nat) (q11 : Nat) (q12 : Nat) (q13 : Nat) (q14 : Nat) (q15 : Nat) (q16 : Nat) (q17 : Nat) (q18 : Nat) (q19 : Nat) (q20 : Nat) (n : Nat) (a5 : Nat → Int32) (a8 : Nat → Int32) (k : Nat) (hk : k < 8) : Met l my_M_blocked (tb_w my_M_blocked mb_M_blocked 2 (some .boolean)) ({ frames := 1, cells := 0, slots := 0, locals := 21 }) (wk_P [.ref hm, .int (nI k)] G ct [(hm, .inr (4, [.int th, .long sd, .int nw, .long hh, .ref q1, .ref q2, .ref q3, .ref q4, .ref q5, .ref q6, .ref q7, .ref q8, .int (nI n), .ref q9, .ref q10, .ref q11, .ref q12, .ref q13, .ref q14, .ref q15, .ref q16, .ref q17, .ref q18, .ref q19, .ref q20])), (q5, .inl ((ct 0), 8, .inl a5)), (q8, .inl ((ct 0), 8, .inl a8))] sz) (wk_Q (wk_oi (S := Unit) (fun _ => (if sm_bl (a5 k) (a8 k) nw then 1 else 0)) (fun _ => True)) (fun _ : Unit => [(hm, .inr (4, [.int 0, .long sd, .int nw, .long hh, .ref q1, .ref q2, .ref q3, .ref q4, .ref q5, .ref q6, .ref q7, .ref q8, .int (nI n), .ref q9, .ref q10, .ref q11, .ref q12, .ref q13, .ref q14, .ref q15, .ref q16, .ref q17, .ref q18, .ref q19, .ref q20])), (q5, .inl ((ct 0), 8, .inl a5)), (q8, .inl ((ct 0), 8, .inl a8))]) G (va_A [(hm, .inr (4, [.int th, .long sd, .int nw, .long hh, .ref q1, .ref q2, .ref q3, .ref q4, .ref q5, .ref q6, .ref q7, .ref q8, .int (nI n), .ref q9, .ref q10, .ref q11, .ref q12, .ref q13, .ref q14, .ref q15, .ref q16, .ref q17, .ref q18, .ref q19, .ref q20])), (q5, .inl ((ct 0), 8, .inl a5)), (q8, .inl ((ct 0), 8, .inl a8))] sz)) 0 0 (va_A [(hm, .inr (4, [.int th, .long sd, .int nw, .long hh, .ref q1, .ref q2, .ref q3, .ref q4, .ref q5, .ref q6, .ref q7, .ref q8, .int (nI n), .ref q9, .ref q10, .ref q11, .ref q12, .ref q13, .ref q14, .ref q15, .ref q16, .ref q17, .ref q18, .ref q19, .ref q20])), (q5, .inl ((ct 0), 8, .inl a5)), (q8, .inl ((ct 0), 8, .inl a8))] sz) := by
  refine Met.ofW (cc := mb_M_blocked) (maxL := 2) (ret := (some .boolean)) (by decide) rfl ?_
  intro p e s m args below meth c s₁ B hml hv
  obtain ⟨rfl, hsz, hP, hK, hD0⟩ := hv
  have hx := B.exec
  have hb := B.bytes
  have hr := B.returns
  have hts := atoms_spec (ws := tb_w my_M_blocked mb_M_blocked 2 (some .boolean)) B.pre
  have hw : ∀ w ∈ gt_tbl, w.before [.ref hm, .int (nI k)].toArray s = true := fun w h => hts w (List.mem_cons_of_mem _ h)
  have hown : s.vm.findClass cr_M = some m.cls := findClass_of_methodNamed B.named
  have hlocks := B.notSynchronized
  subst hsz
  have hD := hD0.self (sz := s.heap.size)
  generalize hAe : va_A [(hm, .inr (4, [.int th, .long sd, .int nw, .long hh, .ref q1, .ref q2, .ref q3, .ref q4, .ref q5, .ref q6, .ref q7, .ref q8, .int (nI n), .ref q9, .ref q10, .ref q11, .ref q12, .ref q13, .ref q14, .ref q15, .ref q16, .ref q17, .ref q18, .ref q19, .ref q20])), (q5, .inl ((ct 0), 8, .inl a5)), (q8, .inl ((ct 0), 8, .inl a8))] s.heap.size = A at hD ⊢
  have hA : ∀ q : Nat, s.heap.size ≤ q → A q := fun q h => by rw [← hAe]; exact Or.inr h
  have hS : va_S A s.heap s.heap [] := va_S.rf
  have hP : va_P G classes [(hm, .inr (4, [.int th, .long sd, .int nw, .long hh, .ref q1, .ref q2, .ref q3, .ref q4, .ref q5, .ref q6, .ref q7, .ref q8, .int (nI n), .ref q9, .ref q10, .ref q11, .ref q12, .ref q13, .ref q14, .ref q15, .ref q16, .ref q17, .ref q18, .ref q19, .ref q20])), (q5, .inl ((ct 0), 8, .inl a5)), (q8, .inl ((ct 0), 8, .inl a8))] s.heap := hP
  have hl := lv_entry ([.ref hm, .int (nI k)]) (n := 2) (Nat.le_of_ble_eq_true rfl)
  rw [lg_entry_eq]
  generalize (lg_sl ([.ref hm, .int (nI k)]) ++ List.replicate (2 - (lg_sl ([.ref hm, .int (nI k)])).length) Slot.unset).toArray = ls at hl ⊢
  have hl : lv_has ls 2 [(0, .ref hm), (1, .int (nI k))] := hl
  refine lv_aload_n hx hb d_M_blocked_0 rfl (lv_at hl 0 rfl) ?_
  refine lv_iconst (v := 0) hx hb d_M_blocked_1 (by decide) ?_
  refine va_put (D := G) (ci := 4) (v := .int 0) (ty := .int) (C := cr_M) (T := cf_M) (N := 25) hx hb hw uw_M ct_M ct_M_ok ct_M_nm hown hK.1 hP hD hS 0 rfl rfl 0 (by decide) (hw _ ww_640) (fun _ h9 => h9) rfl (by decide +kernel) rfl rfl (Nat.le_of_ble_eq_true rfl) d_M_blocked_2 (fun H locs hP hD hS => ?_)
  have hP : va_P G classes [(hm, .inr (4, [.int 0, .long sd, .int nw, .long hh, .ref q1, .ref q2, .ref q3, .ref q4, .ref q5, .ref q6, .ref q7, .ref q8, .int (nI n), .ref q9, .ref q10, .ref q11, .ref q12, .ref q13, .ref q14, .ref q15, .ref q16, .ref q17, .ref q18, .ref q19, .ref q20])), (q5, .inl ((ct 0), 8, .inl a5)), (q8, .inl ((ct 0), 8, .inl a8))] H := hP
  have hD : va_D A [(hm, .inr (4, [.int 0, .long sd, .int nw, .long hh, .ref q1, .ref q2, .ref q3, .ref q4, .ref q5, .ref q6, .ref q7, .ref q8, .int (nI n), .ref q9, .ref q10, .ref q11, .ref q12, .ref q13, .ref q14, .ref q15, .ref q16, .ref q17, .ref q18, .ref q19, .ref q20])), (q5, .inl ((ct 0), 8, .inl a5)), (q8, .inl ((ct 0), 8, .inl a8))] := hD
  refine lv_iload_n hx hb d_M_blocked_5 rfl (lv_at hl 1 rfl) ?_
  refine vp_callSi (W.runS (As := [.int (nI k)]) (rest := []) ⟨hx, hb, hml, hown, hts⟩ (c_M_isUser l (nI k)) (tb_S hw cy_M_isUser ww_727 ww_728 rfl rfl ⟨Nat.le_of_ble_eq_true rfl, Nat.le_of_ble_eq_true rfl⟩) preEq rfl rfl hl.1 rfl (lv_room (Nat.le_of_ble_eq_true rfl)) d_M_blocked_6 ⟨Nat.le_of_ble_eq_true rfl, Nat.le_of_ble_eq_true rfl⟩) (fun r698 er698 => ?_)
  subst er698
  refine tp_i (if_pos (us_k hk)) ?_
  refine lv_if_eq (tgt := 24) hx hb d_M_blocked_9 (by decide) (fun h699 => ?_) (fun h699 => ?_)
  · exact absurd h699 (by decide)
  · refine lv_aload_n hx hb d_M_blocked_12 rfl (lv_at hl 0 rfl) ?_
    refine lv_iload_n hx hb d_M_blocked_13 rfl (lv_at hl 1 rfl) ?_
    have hPc : va_P G classes [(hm, .inr (4, [.int 0, .long sd, .int nw, .long hh, .ref q1, .ref q2, .ref q3, .ref q4, .ref q5, .ref q6, .ref q7, .ref q8, .int (nI n), .ref q9, .ref q10, .ref q11, .ref q12, .ref q13, .ref q14, .ref q15, .ref q16, .ref q17, .ref q18, .ref q19, .ref q20])), (q5, .inl ((ct 0), 8, .inl a5)), (q8, .inl ((ct 0), 8, .inl a8))] H := hP.sub [0, 1, 2] rfl
    have hDc := hD.sub (ws' := [(hm, .inr (4, [.int 0, .long sd, .int nw, .long hh, .ref q1, .ref q2, .ref q3, .ref q4, .ref q5, .ref q6, .ref q7, .ref q8, .int (nI n), .ref q9, .ref q10, .ref q11, .ref q12, .ref q13, .ref q14, .ref q15, .ref q16, .ref q17, .ref q18, .ref q19, .ref q20])), (q5, .inl ((ct 0), 8, .inl a5)), (q8, .inl ((ct 0), 8, .inl a8))]) [0, 1, 2] (by decide) rfl
    refine vp_callSi (W.runV (As := [.int (nI k)]) (rest := []) ⟨hx, hb, hml, hown, hts⟩ (c_M_isBlocked l G ct H.size hm 0 sd nw hh q1 q2 q3 q4 q5 q6 q7 q8 q9 q10 q11 q12 q13 q14 q15 q16 q17 q18 q19 q20 n a5 a8 k (by first | assumption | exact m63 (by first | assumption | exact qs_P (by assumption)) | decide | exact pw_lt _ _ | exact Nat.mod_lt _ pq_pos | exact sc_lt _ | exact sc_pos _ | exact m63 (by first | assumption | exact pw_lt _ _ | exact Nat.mod_lt _ pq_pos | exact qs_P (by first | assumption | exact sc_lt _ | exact qz_Q _)) | exact up_se _ _ _ | exact ul_se _ _ _ | omega)) (tb_V hw cy_M_isBlocked ww_800 ww_802 wp_M_isBlocked rfl rfl ⟨Nat.le_of_ble_eq_true rfl, Nat.le_of_ble_eq_true rfl⟩) (wk_preV (ci := 4) (q0 := 0) hPc hK hDc rfl rfl) rfl rfl hl.1 rfl (lv_room (Nat.le_of_ble_eq_true rfl)) d_M_blocked_14 ⟨Nat.le_of_ble_eq_true rfl, Nat.le_of_ble_eq_true rfl⟩) (fun r700 er700 => ?_)
    subst er700
    refine lv_if_eq (tgt := 24) hx hb d_M_blocked_17 (by decide) (fun h701 => ?_) (fun h701 => ?_)
    · refine lv_iconst (v := 0) hx hb d_M_blocked_24 (by decide) ?_
      exact W.zret (v := 0) (ty := .boolean) hx hb hr rfl (fun t ht hW => ⟨⟨(), ⟨congrArg (fun z => Outcome.returned (some (.int z))) ((by rw [if_neg (bz_f h701)])), trivial⟩, by rw [ht]; exact hP, hD⟩, hS.F ht⟩) hS.2.2 d_M_blocked_25
    · refine lv_iconst (v := 1) hx hb d_M_blocked_20 (by decide) ?_
      refine lv_goto (tgt := 25) hx hb d_M_blocked_21 (by decide) ?_
      exact W.zret (v := 1) (ty := .boolean) hx hb hr rfl (fun t ht hW => ⟨⟨(), ⟨congrArg (fun z => Outcome.returned (some (.int z))) ((by rw [if_pos (bz_t h701)])), trivial⟩, by rw [ht]; exact hP, hD⟩, hS.F ht⟩) hS.2.2 d_M_blocked_25
set_option maxHeartbeats 4000000 in
set_option maxRecDepth 100000 in
theorem c_M_blocked0 (l : Launch) (G : va_G) (ct : Nat → ClassId) (sz : Nat) (hm : Nat) (th : Int32) (sd : Int64) (nw : Int32) (hh : Int64) (q1 : Nat) (q2 : Nat) (q3 : Nat) (q4 : Nat) (q5 : Nat) (q6 : Nat) (q7 : Nat) (q8 : Nat) (q9 : Nat) (q10 : Nat) (q11 : Nat) (q12 : Nat) (q13 : Nat) (q14 : Nat) (q15 : Nat) (q16 : Nat) (q17 : Nat) (q18 : Nat) (q19 : Nat) (q20 : Nat) (n : Nat) (ua : Int32) (hno : ¬ us_in ua) : Met l my_M_blocked (tb_w my_M_blocked mb_M_blocked 2 (some .boolean)) ({ frames := 1, cells := 0, slots := 0, locals := 20 }) (wk_P [.ref hm, .int ua] G ct [(hm, .inr (4, [.int th, .long sd, .int nw, .long hh, .ref q1, .ref q2, .ref q3, .ref q4, .ref q5, .ref q6, .ref q7, .ref q8, .int (nI n), .ref q9, .ref q10, .ref q11, .ref q12, .ref q13, .ref q14, .ref q15, .ref q16, .ref q17, .ref q18, .ref q19, .ref q20]))] sz) (wk_Q (wk_oi (S := Unit) (fun _ => 0) (fun _ => True)) (fun _ : Unit => [(hm, .inr (4, [.int 0, .long sd, .int nw, .long hh, .ref q1, .ref q2, .ref q3, .ref q4, .ref q5, .ref q6, .ref q7, .ref q8, .int (nI n), .ref q9, .ref q10, .ref q11, .ref q12, .ref q13, .ref q14, .ref q15, .ref q16, .ref q17, .ref q18, .ref q19, .ref q20]))]) G (va_A [(hm, .inr (4, [.int th, .long sd, .int nw, .long hh, .ref q1, .ref q2, .ref q3, .ref q4, .ref q5, .ref q6, .ref q7, .ref q8, .int (nI n), .ref q9, .ref q10, .ref q11, .ref q12, .ref q13, .ref q14, .ref q15, .ref q16, .ref q17, .ref q18, .ref q19, .ref q20]))] sz)) 0 0 (va_A [(hm, .inr (4, [.int th, .long sd, .int nw, .long hh, .ref q1, .ref q2, .ref q3, .ref q4, .ref q5, .ref q6, .ref q7, .ref q8, .int (nI n), .ref q9, .ref q10, .ref q11, .ref q12, .ref q13, .ref q14, .ref q15, .ref q16, .ref q17, .ref q18, .ref q19, .ref q20]))] sz) := by
  refine Met.ofW (cc := mb_M_blocked) (maxL := 2) (ret := (some .boolean)) (by decide) rfl ?_
  intro p e s m args below meth c s₁ B hml hv
  obtain ⟨rfl, hsz, hP, hK, hD0⟩ := hv
  have hx := B.exec
  have hb := B.bytes
  have hr := B.returns
  have hts := atoms_spec (ws := tb_w my_M_blocked mb_M_blocked 2 (some .boolean)) B.pre
  have hw : ∀ w ∈ gt_tbl, w.before [.ref hm, .int ua].toArray s = true := fun w h => hts w (List.mem_cons_of_mem _ h)
  have hown : s.vm.findClass cr_M = some m.cls := findClass_of_methodNamed B.named
  have hlocks := B.notSynchronized
  subst hsz
  have hD := hD0.self (sz := s.heap.size)
  generalize hAe : va_A [(hm, .inr (4, [.int th, .long sd, .int nw, .long hh, .ref q1, .ref q2, .ref q3, .ref q4, .ref q5, .ref q6, .ref q7, .ref q8, .int (nI n), .ref q9, .ref q10, .ref q11, .ref q12, .ref q13, .ref q14, .ref q15, .ref q16, .ref q17, .ref q18, .ref q19, .ref q20]))] s.heap.size = A at hD ⊢
  have hA : ∀ q : Nat, s.heap.size ≤ q → A q := fun q h => by rw [← hAe]; exact Or.inr h
  have hS : va_S A s.heap s.heap [] := va_S.rf
  have hP : va_P G classes [(hm, .inr (4, [.int th, .long sd, .int nw, .long hh, .ref q1, .ref q2, .ref q3, .ref q4, .ref q5, .ref q6, .ref q7, .ref q8, .int (nI n), .ref q9, .ref q10, .ref q11, .ref q12, .ref q13, .ref q14, .ref q15, .ref q16, .ref q17, .ref q18, .ref q19, .ref q20]))] s.heap := hP
  have hl := lv_entry ([.ref hm, .int ua]) (n := 2) (Nat.le_of_ble_eq_true rfl)
  rw [lg_entry_eq]
  generalize (lg_sl ([.ref hm, .int ua]) ++ List.replicate (2 - (lg_sl ([.ref hm, .int ua])).length) Slot.unset).toArray = ls at hl ⊢
  have hl : lv_has ls 2 [(0, .ref hm), (1, .int ua)] := hl
  refine lv_aload_n hx hb d_M_blocked_0 rfl (lv_at hl 0 rfl) ?_
  refine lv_iconst (v := 0) hx hb d_M_blocked_1 (by decide) ?_
  refine va_put (D := G) (ci := 4) (v := .int 0) (ty := .int) (C := cr_M) (T := cf_M) (N := 25) hx hb hw uw_M ct_M ct_M_ok ct_M_nm hown hK.1 hP hD hS 0 rfl rfl 0 (by decide) (hw _ ww_640) (fun _ h9 => h9) rfl (by decide +kernel) rfl rfl (Nat.le_of_ble_eq_true rfl) d_M_blocked_2 (fun H locs hP hD hS => ?_)
  have hP : va_P G classes [(hm, .inr (4, [.int 0, .long sd, .int nw, .long hh, .ref q1, .ref q2, .ref q3, .ref q4, .ref q5, .ref q6, .ref q7, .ref q8, .int (nI n), .ref q9, .ref q10, .ref q11, .ref q12, .ref q13, .ref q14, .ref q15, .ref q16, .ref q17, .ref q18, .ref q19, .ref q20]))] H := hP
  have hD : va_D A [(hm, .inr (4, [.int 0, .long sd, .int nw, .long hh, .ref q1, .ref q2, .ref q3, .ref q4, .ref q5, .ref q6, .ref q7, .ref q8, .int (nI n), .ref q9, .ref q10, .ref q11, .ref q12, .ref q13, .ref q14, .ref q15, .ref q16, .ref q17, .ref q18, .ref q19, .ref q20]))] := hD
  refine lv_iload_n hx hb d_M_blocked_5 rfl (lv_at hl 1 rfl) ?_
  refine vp_callSi (W.runS (As := [.int ua]) (rest := []) ⟨hx, hb, hml, hown, hts⟩ (c_M_isUser l ua) (tb_S hw cy_M_isUser ww_727 ww_728 rfl rfl ⟨Nat.le_of_ble_eq_true rfl, Nat.le_of_ble_eq_true rfl⟩) preEq rfl rfl hl.1 rfl (lv_room (Nat.le_of_ble_eq_true rfl)) d_M_blocked_6 ⟨Nat.le_of_ble_eq_true rfl, Nat.le_of_ble_eq_true rfl⟩) (fun r702 er702 => ?_)
  subst er702
  refine tp_i (if_neg hno) ?_
  refine lv_if_eq (tgt := 24) hx hb d_M_blocked_9 (by decide) (fun h703 => ?_) (fun h703 => ?_)
  · refine lv_iconst (v := 0) hx hb d_M_blocked_24 (by decide) ?_
    exact W.zret (v := 0) (ty := .boolean) hx hb hr rfl (fun t ht hW => ⟨⟨(), ⟨rfl, trivial⟩, by rw [ht]; exact hP, hD⟩, hS.F ht⟩) hS.2.2 d_M_blocked_25
  · exact absurd h703 (by decide)
set_option maxHeartbeats 4000000 in
set_option maxRecDepth 100000 in
theorem c_M_tick1 (l : Launch) (G : va_G) (ct : Nat → ClassId) (sz : Nat) (hm : Nat) (th : Int32) (sd : Int64) (nw : Int32) (hh : Int64) (q1 : Nat) (q2 : Nat) (q3 : Nat) (q4 : Nat) (q5 : Nat) (q6 : Nat) (q7 : Nat) (q8 : Nat) (q9 : Nat) (q10 : Nat) (q11 : Nat) (q12 : Nat) (q13 : Nat) (q14 : Nat) (q15 : Nat) (q16 : Nat) (q17 : Nat) (q18 : Nat) (q19 : Nat) (q20 : Nat) (n : Nat) (tk : Int32) (ht0 : 0 ≤ tk) (ht1 : tk ≤ 100) : Met l my_M_tick (tb_w my_M_tick mb_M_tick 2 (some .int)) ({ frames := 0, cells := 0, slots := 0, locals := 0 }) (wk_P [.ref hm, .int tk] G ct [(hm, .inr (4, [.int th, .long sd, .int nw, .long hh, .ref q1, .ref q2, .ref q3, .ref q4, .ref q5, .ref q6, .ref q7, .ref q8, .int (nI n), .ref q9, .ref q10, .ref q11, .ref q12, .ref q13, .ref q14, .ref q15, .ref q16, .ref q17, .ref q18, .ref q19, .ref q20]))] sz) (wk_Q (wk_oi (S := Unit) (fun _ => nw + tk) (fun _ => True)) (fun _ : Unit => [(hm, .inr (4, [.int 0, .long sd, .int (nw + tk), .long hh, .ref q1, .ref q2, .ref q3, .ref q4, .ref q5, .ref q6, .ref q7, .ref q8, .int (nI n), .ref q9, .ref q10, .ref q11, .ref q12, .ref q13, .ref q14, .ref q15, .ref q16, .ref q17, .ref q18, .ref q19, .ref q20]))]) G (va_A [(hm, .inr (4, [.int th, .long sd, .int nw, .long hh, .ref q1, .ref q2, .ref q3, .ref q4, .ref q5, .ref q6, .ref q7, .ref q8, .int (nI n), .ref q9, .ref q10, .ref q11, .ref q12, .ref q13, .ref q14, .ref q15, .ref q16, .ref q17, .ref q18, .ref q19, .ref q20]))] sz)) 0 0 (va_A [(hm, .inr (4, [.int th, .long sd, .int nw, .long hh, .ref q1, .ref q2, .ref q3, .ref q4, .ref q5, .ref q6, .ref q7, .ref q8, .int (nI n), .ref q9, .ref q10, .ref q11, .ref q12, .ref q13, .ref q14, .ref q15, .ref q16, .ref q17, .ref q18, .ref q19, .ref q20]))] sz) := by
  refine Met.ofW (cc := mb_M_tick) (maxL := 2) (ret := (some .int)) (by decide) rfl ?_
  intro p e s m args below meth c s₁ B hml hv
  obtain ⟨rfl, hsz, hP, hK, hD0⟩ := hv
  have hx := B.exec
  have hb := B.bytes
  have hr := B.returns
  have hts := atoms_spec (ws := tb_w my_M_tick mb_M_tick 2 (some .int)) B.pre
  have hw : ∀ w ∈ gt_tbl, w.before [.ref hm, .int tk].toArray s = true := fun w h => hts w (List.mem_cons_of_mem _ h)
  have hown : s.vm.findClass cr_M = some m.cls := findClass_of_methodNamed B.named
  have hlocks := B.notSynchronized
  subst hsz
  have hD := hD0.self (sz := s.heap.size)
  generalize hAe : va_A [(hm, .inr (4, [.int th, .long sd, .int nw, .long hh, .ref q1, .ref q2, .ref q3, .ref q4, .ref q5, .ref q6, .ref q7, .ref q8, .int (nI n), .ref q9, .ref q10, .ref q11, .ref q12, .ref q13, .ref q14, .ref q15, .ref q16, .ref q17, .ref q18, .ref q19, .ref q20]))] s.heap.size = A at hD ⊢
  have hA : ∀ q : Nat, s.heap.size ≤ q → A q := fun q h => by rw [← hAe]; exact Or.inr h
  have hS : va_S A s.heap s.heap [] := va_S.rf
  have hP : va_P G classes [(hm, .inr (4, [.int th, .long sd, .int nw, .long hh, .ref q1, .ref q2, .ref q3, .ref q4, .ref q5, .ref q6, .ref q7, .ref q8, .int (nI n), .ref q9, .ref q10, .ref q11, .ref q12, .ref q13, .ref q14, .ref q15, .ref q16, .ref q17, .ref q18, .ref q19, .ref q20]))] s.heap := hP
  have hl := lv_entry ([.ref hm, .int tk]) (n := 2) (Nat.le_of_ble_eq_true rfl)
  rw [lg_entry_eq]
  generalize (lg_sl ([.ref hm, .int tk]) ++ List.replicate (2 - (lg_sl ([.ref hm, .int tk])).length) Slot.unset).toArray = ls at hl ⊢
  have hl : lv_has ls 2 [(0, .ref hm), (1, .int tk)] := hl
  refine lv_aload_n hx hb d_M_tick_0 rfl (lv_at hl 0 rfl) ?_
  refine lv_iload_n hx hb d_M_tick_1 rfl (lv_at hl 1 rfl) ?_
  refine lv_if_lt (tgt := 11) hx hb d_M_tick_2 (by decide) (fun h704 => ?_) (fun h704 => ?_)
  · exact absurd h704 (Int32.not_lt.mpr ht0)
  · refine lv_iload_n hx hb d_M_tick_5 rfl (lv_at hl 1 rfl) ?_
    refine lv_bipush (v := 100) hx hb d_M_tick_6 (by decide) ?_
    refine lv_icmp_le (tgt := 15) hx hb d_M_tick_8 (by decide) (fun h705 => ?_) (fun h705 => ?_)
    · refine lv_iconst (v := 0) hx hb d_M_tick_15 (by decide) ?_
      refine va_put (D := G) (ci := 4) (v := .int 0) (ty := .int) (C := cr_M) (T := cf_M) (N := 25) hx hb hw uw_M ct_M ct_M_ok ct_M_nm hown hK.1 hP hD hS 0 rfl rfl 0 (by decide) (hw _ ww_640) (fun _ h9 => h9) rfl (by decide +kernel) rfl rfl (Nat.le_of_ble_eq_true rfl) d_M_tick_16 (fun H locs hP hD hS => ?_)
      have hP : va_P G classes [(hm, .inr (4, [.int 0, .long sd, .int nw, .long hh, .ref q1, .ref q2, .ref q3, .ref q4, .ref q5, .ref q6, .ref q7, .ref q8, .int (nI n), .ref q9, .ref q10, .ref q11, .ref q12, .ref q13, .ref q14, .ref q15, .ref q16, .ref q17, .ref q18, .ref q19, .ref q20]))] H := hP
      have hD : va_D A [(hm, .inr (4, [.int 0, .long sd, .int nw, .long hh, .ref q1, .ref q2, .ref q3, .ref q4, .ref q5, .ref q6, .ref q7, .ref q8, .int (nI n), .ref q9, .ref q10, .ref q11, .ref q12, .ref q13, .ref q14, .ref q15, .ref q16, .ref q17, .ref q18, .ref q19, .ref q20]))] := hD
      refine lv_aload_n hx hb d_M_tick_19 rfl (lv_at hl 0 rfl) ?_
      refine lv_aload_n hx hb d_M_tick_20 rfl (lv_at hl 0 rfl) ?_
      refine va_get (D := G) (ci := 4) (v := .int 0) (C := cr_M) (T := cf_M) (N := 25) hx hb hw uw_M hown hK.1 hP 0 rfl rfl 0 (by decide) (hw _ ww_640) (fun _ h9 => h9) rfl d_M_tick_21 ?_
      refine lv_if_le (tgt := 34) hx hb d_M_tick_24 (by decide) (fun h706 => ?_) (fun h706 => ?_)
      · refine lv_aload_n hx hb d_M_tick_34 rfl (lv_at hl 0 rfl) ?_
        refine va_get (D := G) (ci := 4) (v := .int nw) (C := cr_M) (T := cf_M) (N := 25) hx hb hw uw_M hown hK.1 hP 0 rfl rfl 2 (by decide) (hw _ ww_642) (fun _ h9 => h9) rfl d_M_tick_35 ?_
        refine lv_iload_n hx hb d_M_tick_38 rfl (lv_at hl 1 rfl) ?_
        refine lv_iadd hx hb d_M_tick_39 ?_
        refine va_put (D := G) (ci := 4) (v := .int (nw + tk)) (ty := .int) (C := cr_M) (T := cf_M) (N := 25) hx hb hw uw_M ct_M ct_M_ok ct_M_nm hown hK.1 hP hD hS 0 rfl rfl 2 (by decide) (hw _ ww_642) (fun _ h9 => h9) rfl (by decide +kernel) rfl rfl (Nat.le_of_ble_eq_true rfl) d_M_tick_40 (fun H locs hP hD hS => ?_)
        have hP : va_P G classes [(hm, .inr (4, [.int 0, .long sd, .int (nw + tk), .long hh, .ref q1, .ref q2, .ref q3, .ref q4, .ref q5, .ref q6, .ref q7, .ref q8, .int (nI n), .ref q9, .ref q10, .ref q11, .ref q12, .ref q13, .ref q14, .ref q15, .ref q16, .ref q17, .ref q18, .ref q19, .ref q20]))] H := hP
        have hD : va_D A [(hm, .inr (4, [.int 0, .long sd, .int (nw + tk), .long hh, .ref q1, .ref q2, .ref q3, .ref q4, .ref q5, .ref q6, .ref q7, .ref q8, .int (nI n), .ref q9, .ref q10, .ref q11, .ref q12, .ref q13, .ref q14, .ref q15, .ref q16, .ref q17, .ref q18, .ref q19, .ref q20]))] := hD
        refine lv_aload_n hx hb d_M_tick_43 rfl (lv_at hl 0 rfl) ?_
        refine va_get (D := G) (ci := 4) (v := .int 0) (C := cr_M) (T := cf_M) (N := 25) hx hb hw uw_M hown hK.1 hP 0 rfl rfl 0 (by decide) (hw _ ww_640) (fun _ h9 => h9) rfl d_M_tick_44 ?_
        refine lv_if_le (tgt := 54) hx hb d_M_tick_47 (by decide) (fun h707 => ?_) (fun h707 => ?_)
        · refine lv_aload_n hx hb d_M_tick_54 rfl (lv_at hl 0 rfl) ?_
          refine va_get (D := G) (ci := 4) (v := .int (nw + tk)) (C := cr_M) (T := cf_M) (N := 25) hx hb hw uw_M hown hK.1 hP 0 rfl rfl 2 (by decide) (hw _ ww_642) (fun _ h9 => h9) rfl d_M_tick_55 ?_
          exact W.iret (v := nw + tk) hx hb hr (fun t ht hW => ⟨⟨(), ⟨rfl, trivial⟩, by rw [ht]; exact hP, hD⟩, hS.F ht⟩) hS.2.2 d_M_tick_58
        · exact absurd h707 (by decide)
      · exact absurd h706 (by decide)
    · exact absurd ht1 h705
set_option maxHeartbeats 4000000 in
set_option maxRecDepth 100000 in
theorem c_M_tick0 (l : Launch) (G : va_G) (ct : Nat → ClassId) (sz : Nat) (hm : Nat) (th : Int32) (sd : Int64) (nw : Int32) (hh : Int64) (q1 : Nat) (q2 : Nat) (q3 : Nat) (q4 : Nat) (q5 : Nat) (q6 : Nat) (q7 : Nat) (q8 : Nat) (q9 : Nat) (q10 : Nat) (q11 : Nat) (q12 : Nat) (q13 : Nat) (q14 : Nat) (q15 : Nat) (q16 : Nat) (q17 : Nat) (q18 : Nat) (q19 : Nat) (q20 : Nat) (n : Nat) (tk : Int32) (hno : ¬ (0 ≤ tk ∧ tk ≤ 100)) : Met l my_M_tick (tb_w my_M_tick mb_M_tick 2 (some .int)) ({ frames := 0, cells := 0, slots := 0, locals := 0 }) (wk_P [.ref hm, .int tk] G ct [(hm, .inr (4, [.int th, .long sd, .int nw, .long hh, .ref q1, .ref q2, .ref q3, .ref q4, .ref q5, .ref q6, .ref q7, .ref q8, .int (nI n), .ref q9, .ref q10, .ref q11, .ref q12, .ref q13, .ref q14, .ref q15, .ref q16, .ref q17, .ref q18, .ref q19, .ref q20]))] sz) (wk_Q (wk_oi (S := Unit) (fun _ => 0) (fun _ => True)) (fun _ : Unit => [(hm, .inr (4, [.int 1, .long sd, .int nw, .long hh, .ref q1, .ref q2, .ref q3, .ref q4, .ref q5, .ref q6, .ref q7, .ref q8, .int (nI n), .ref q9, .ref q10, .ref q11, .ref q12, .ref q13, .ref q14, .ref q15, .ref q16, .ref q17, .ref q18, .ref q19, .ref q20]))]) G (va_A [(hm, .inr (4, [.int th, .long sd, .int nw, .long hh, .ref q1, .ref q2, .ref q3, .ref q4, .ref q5, .ref q6, .ref q7, .ref q8, .int (nI n), .ref q9, .ref q10, .ref q11, .ref q12, .ref q13, .ref q14, .ref q15, .ref q16, .ref q17, .ref q18, .ref q19, .ref q20]))] sz)) 0 0 (va_A [(hm, .inr (4, [.int th, .long sd, .int nw, .long hh, .ref q1, .ref q2, .ref q3, .ref q4, .ref q5, .ref q6, .ref q7, .ref q8, .int (nI n), .ref q9, .ref q10, .ref q11, .ref q12, .ref q13, .ref q14, .ref q15, .ref q16, .ref q17, .ref q18, .ref q19, .ref q20]))] sz) := by
  refine Met.ofW (cc := mb_M_tick) (maxL := 2) (ret := (some .int)) (by decide) rfl ?_
  intro p e s m args below meth c s₁ B hml hv
  obtain ⟨rfl, hsz, hP, hK, hD0⟩ := hv
  have hx := B.exec
  have hb := B.bytes
  have hr := B.returns
  have hts := atoms_spec (ws := tb_w my_M_tick mb_M_tick 2 (some .int)) B.pre
  have hw : ∀ w ∈ gt_tbl, w.before [.ref hm, .int tk].toArray s = true := fun w h => hts w (List.mem_cons_of_mem _ h)
  have hown : s.vm.findClass cr_M = some m.cls := findClass_of_methodNamed B.named
  have hlocks := B.notSynchronized
  subst hsz
  have hD := hD0.self (sz := s.heap.size)
  generalize hAe : va_A [(hm, .inr (4, [.int th, .long sd, .int nw, .long hh, .ref q1, .ref q2, .ref q3, .ref q4, .ref q5, .ref q6, .ref q7, .ref q8, .int (nI n), .ref q9, .ref q10, .ref q11, .ref q12, .ref q13, .ref q14, .ref q15, .ref q16, .ref q17, .ref q18, .ref q19, .ref q20]))] s.heap.size = A at hD ⊢
  have hA : ∀ q : Nat, s.heap.size ≤ q → A q := fun q h => by rw [← hAe]; exact Or.inr h
  have hS : va_S A s.heap s.heap [] := va_S.rf
  have hP : va_P G classes [(hm, .inr (4, [.int th, .long sd, .int nw, .long hh, .ref q1, .ref q2, .ref q3, .ref q4, .ref q5, .ref q6, .ref q7, .ref q8, .int (nI n), .ref q9, .ref q10, .ref q11, .ref q12, .ref q13, .ref q14, .ref q15, .ref q16, .ref q17, .ref q18, .ref q19, .ref q20]))] s.heap := hP
  have hl := lv_entry ([.ref hm, .int tk]) (n := 2) (Nat.le_of_ble_eq_true rfl)
  rw [lg_entry_eq]
  generalize (lg_sl ([.ref hm, .int tk]) ++ List.replicate (2 - (lg_sl ([.ref hm, .int tk])).length) Slot.unset).toArray = ls at hl ⊢
  have hl : lv_has ls 2 [(0, .ref hm), (1, .int tk)] := hl
  refine lv_aload_n hx hb d_M_tick_0 rfl (lv_at hl 0 rfl) ?_
  refine lv_iload_n hx hb d_M_tick_1 rfl (lv_at hl 1 rfl) ?_
  refine lv_if_lt (tgt := 11) hx hb d_M_tick_2 (by decide) (fun h708 => ?_) (fun h708 => ?_)
  · refine lv_iconst (v := 1) hx hb d_M_tick_11 (by decide) ?_
    refine lv_goto (tgt := 16) hx hb d_M_tick_12 (by decide) ?_
    refine va_put (D := G) (ci := 4) (v := .int 1) (ty := .int) (C := cr_M) (T := cf_M) (N := 25) hx hb hw uw_M ct_M ct_M_ok ct_M_nm hown hK.1 hP hD hS 0 rfl rfl 0 (by decide) (hw _ ww_640) (fun _ h9 => h9) rfl (by decide +kernel) rfl rfl (Nat.le_of_ble_eq_true rfl) d_M_tick_16 (fun H locs hP hD hS => ?_)
    have hP : va_P G classes [(hm, .inr (4, [.int 1, .long sd, .int nw, .long hh, .ref q1, .ref q2, .ref q3, .ref q4, .ref q5, .ref q6, .ref q7, .ref q8, .int (nI n), .ref q9, .ref q10, .ref q11, .ref q12, .ref q13, .ref q14, .ref q15, .ref q16, .ref q17, .ref q18, .ref q19, .ref q20]))] H := hP
    have hD : va_D A [(hm, .inr (4, [.int 1, .long sd, .int nw, .long hh, .ref q1, .ref q2, .ref q3, .ref q4, .ref q5, .ref q6, .ref q7, .ref q8, .int (nI n), .ref q9, .ref q10, .ref q11, .ref q12, .ref q13, .ref q14, .ref q15, .ref q16, .ref q17, .ref q18, .ref q19, .ref q20]))] := hD
    refine lv_aload_n hx hb d_M_tick_19 rfl (lv_at hl 0 rfl) ?_
    refine lv_aload_n hx hb d_M_tick_20 rfl (lv_at hl 0 rfl) ?_
    refine va_get (D := G) (ci := 4) (v := .int 1) (C := cr_M) (T := cf_M) (N := 25) hx hb hw uw_M hown hK.1 hP 0 rfl rfl 0 (by decide) (hw _ ww_640) (fun _ h9 => h9) rfl d_M_tick_21 ?_
    refine lv_if_le (tgt := 34) hx hb d_M_tick_24 (by decide) (fun h709 => ?_) (fun h709 => ?_)
    · exact absurd h709 (by decide)
    · refine lv_aload_n hx hb d_M_tick_27 rfl (lv_at hl 0 rfl) ?_
      refine va_get (D := G) (ci := 4) (v := .int nw) (C := cr_M) (T := cf_M) (N := 25) hx hb hw uw_M hown hK.1 hP 0 rfl rfl 2 (by decide) (hw _ ww_642) (fun _ h9 => h9) rfl d_M_tick_28 ?_
      refine lv_goto (tgt := 40) hx hb d_M_tick_31 (by decide) ?_
      refine va_put (D := G) (ci := 4) (v := .int nw) (ty := .int) (C := cr_M) (T := cf_M) (N := 25) hx hb hw uw_M ct_M ct_M_ok ct_M_nm hown hK.1 hP hD hS 0 rfl rfl 2 (by decide) (hw _ ww_642) (fun _ h9 => h9) rfl (by decide +kernel) rfl rfl (Nat.le_of_ble_eq_true rfl) d_M_tick_40 (fun H locs hP hD hS => ?_)
      have hP : va_P G classes [(hm, .inr (4, [.int 1, .long sd, .int nw, .long hh, .ref q1, .ref q2, .ref q3, .ref q4, .ref q5, .ref q6, .ref q7, .ref q8, .int (nI n), .ref q9, .ref q10, .ref q11, .ref q12, .ref q13, .ref q14, .ref q15, .ref q16, .ref q17, .ref q18, .ref q19, .ref q20]))] H := hP
      have hD : va_D A [(hm, .inr (4, [.int 1, .long sd, .int nw, .long hh, .ref q1, .ref q2, .ref q3, .ref q4, .ref q5, .ref q6, .ref q7, .ref q8, .int (nI n), .ref q9, .ref q10, .ref q11, .ref q12, .ref q13, .ref q14, .ref q15, .ref q16, .ref q17, .ref q18, .ref q19, .ref q20]))] := hD
      refine lv_aload_n hx hb d_M_tick_43 rfl (lv_at hl 0 rfl) ?_
      refine va_get (D := G) (ci := 4) (v := .int 1) (C := cr_M) (T := cf_M) (N := 25) hx hb hw uw_M hown hK.1 hP 0 rfl rfl 0 (by decide) (hw _ ww_640) (fun _ h9 => h9) rfl d_M_tick_44 ?_
      refine lv_if_le (tgt := 54) hx hb d_M_tick_47 (by decide) (fun h710 => ?_) (fun h710 => ?_)
      · exact absurd h710 (by decide)
      · refine lv_iconst (v := 0) hx hb d_M_tick_50 (by decide) ?_
        refine lv_goto (tgt := 58) hx hb d_M_tick_51 (by decide) ?_
        exact W.iret (v := 0) hx hb hr (fun t ht hW => ⟨⟨(), ⟨rfl, trivial⟩, by rw [ht]; exact hP, hD⟩, hS.F ht⟩) hS.2.2 d_M_tick_58
  · refine lv_iload_n hx hb d_M_tick_5 rfl (lv_at hl 1 rfl) ?_
    refine lv_bipush (v := 100) hx hb d_M_tick_6 (by decide) ?_
    refine lv_icmp_le (tgt := 15) hx hb d_M_tick_8 (by decide) (fun h711 => ?_) (fun h711 => ?_)
    · exact absurd ⟨Int32.not_lt.mp h708, h711⟩ hno
    · refine lv_iconst (v := 1) hx hb d_M_tick_11 (by decide) ?_
      refine lv_goto (tgt := 16) hx hb d_M_tick_12 (by decide) ?_
      refine va_put (D := G) (ci := 4) (v := .int 1) (ty := .int) (C := cr_M) (T := cf_M) (N := 25) hx hb hw uw_M ct_M ct_M_ok ct_M_nm hown hK.1 hP hD hS 0 rfl rfl 0 (by decide) (hw _ ww_640) (fun _ h9 => h9) rfl (by decide +kernel) rfl rfl (Nat.le_of_ble_eq_true rfl) d_M_tick_16 (fun H locs hP hD hS => ?_)
      have hP : va_P G classes [(hm, .inr (4, [.int 1, .long sd, .int nw, .long hh, .ref q1, .ref q2, .ref q3, .ref q4, .ref q5, .ref q6, .ref q7, .ref q8, .int (nI n), .ref q9, .ref q10, .ref q11, .ref q12, .ref q13, .ref q14, .ref q15, .ref q16, .ref q17, .ref q18, .ref q19, .ref q20]))] H := hP
      have hD : va_D A [(hm, .inr (4, [.int 1, .long sd, .int nw, .long hh, .ref q1, .ref q2, .ref q3, .ref q4, .ref q5, .ref q6, .ref q7, .ref q8, .int (nI n), .ref q9, .ref q10, .ref q11, .ref q12, .ref q13, .ref q14, .ref q15, .ref q16, .ref q17, .ref q18, .ref q19, .ref q20]))] := hD
      refine lv_aload_n hx hb d_M_tick_19 rfl (lv_at hl 0 rfl) ?_
      refine lv_aload_n hx hb d_M_tick_20 rfl (lv_at hl 0 rfl) ?_
      refine va_get (D := G) (ci := 4) (v := .int 1) (C := cr_M) (T := cf_M) (N := 25) hx hb hw uw_M hown hK.1 hP 0 rfl rfl 0 (by decide) (hw _ ww_640) (fun _ h9 => h9) rfl d_M_tick_21 ?_
      refine lv_if_le (tgt := 34) hx hb d_M_tick_24 (by decide) (fun h712 => ?_) (fun h712 => ?_)
      · exact absurd h712 (by decide)
      · refine lv_aload_n hx hb d_M_tick_27 rfl (lv_at hl 0 rfl) ?_
        refine va_get (D := G) (ci := 4) (v := .int nw) (C := cr_M) (T := cf_M) (N := 25) hx hb hw uw_M hown hK.1 hP 0 rfl rfl 2 (by decide) (hw _ ww_642) (fun _ h9 => h9) rfl d_M_tick_28 ?_
        refine lv_goto (tgt := 40) hx hb d_M_tick_31 (by decide) ?_
        refine va_put (D := G) (ci := 4) (v := .int nw) (ty := .int) (C := cr_M) (T := cf_M) (N := 25) hx hb hw uw_M ct_M ct_M_ok ct_M_nm hown hK.1 hP hD hS 0 rfl rfl 2 (by decide) (hw _ ww_642) (fun _ h9 => h9) rfl (by decide +kernel) rfl rfl (Nat.le_of_ble_eq_true rfl) d_M_tick_40 (fun H locs hP hD hS => ?_)
        have hP : va_P G classes [(hm, .inr (4, [.int 1, .long sd, .int nw, .long hh, .ref q1, .ref q2, .ref q3, .ref q4, .ref q5, .ref q6, .ref q7, .ref q8, .int (nI n), .ref q9, .ref q10, .ref q11, .ref q12, .ref q13, .ref q14, .ref q15, .ref q16, .ref q17, .ref q18, .ref q19, .ref q20]))] H := hP
        have hD : va_D A [(hm, .inr (4, [.int 1, .long sd, .int nw, .long hh, .ref q1, .ref q2, .ref q3, .ref q4, .ref q5, .ref q6, .ref q7, .ref q8, .int (nI n), .ref q9, .ref q10, .ref q11, .ref q12, .ref q13, .ref q14, .ref q15, .ref q16, .ref q17, .ref q18, .ref q19, .ref q20]))] := hD
        refine lv_aload_n hx hb d_M_tick_43 rfl (lv_at hl 0 rfl) ?_
        refine va_get (D := G) (ci := 4) (v := .int 1) (C := cr_M) (T := cf_M) (N := 25) hx hb hw uw_M hown hK.1 hP 0 rfl rfl 0 (by decide) (hw _ ww_640) (fun _ h9 => h9) rfl d_M_tick_44 ?_
        refine lv_if_le (tgt := 54) hx hb d_M_tick_47 (by decide) (fun h713 => ?_) (fun h713 => ?_)
        · exact absurd h713 (by decide)
        · refine lv_iconst (v := 0) hx hb d_M_tick_50 (by decide) ?_
          refine lv_goto (tgt := 58) hx hb d_M_tick_51 (by decide) ?_
          exact W.iret (v := 0) hx hb hr (fun t ht hW => ⟨⟨(), ⟨rfl, trivial⟩, by rw [ht]; exact hP, hD⟩, hS.F ht⟩) hS.2.2 d_M_tick_58
set_option maxHeartbeats 4000000 in
set_option maxRecDepth 100000 in
theorem c_M_sessions (l : Launch) (G : va_G) (ct : Nat → ClassId) (sz : Nat) (hm : Nat) (th : Int32) (sd : Int64) (nw : Int32) (hh : Int64) (q1 : Nat) (q2 : Nat) (q3 : Nat) (q4 : Nat) (q5 : Nat) (q6 : Nat) (q7 : Nat) (q8 : Nat) (q9 : Nat) (q10 : Nat) (q11 : Nat) (q12 : Nat) (q13 : Nat) (q14 : Nat) (q15 : Nat) (q16 : Nat) (q17 : Nat) (q18 : Nat) (q19 : Nat) (q20 : Nat) (n : Nat) : Met l my_M_sessions (tb_w my_M_sessions mb_M_sessions 1 (some .int)) ({ frames := 0, cells := 0, slots := 0, locals := 0 }) (wk_P [.ref hm] G ct [(hm, .inr (4, [.int th, .long sd, .int nw, .long hh, .ref q1, .ref q2, .ref q3, .ref q4, .ref q5, .ref q6, .ref q7, .ref q8, .int (nI n), .ref q9, .ref q10, .ref q11, .ref q12, .ref q13, .ref q14, .ref q15, .ref q16, .ref q17, .ref q18, .ref q19, .ref q20]))] sz) (wk_Q (wk_oi (S := Unit) (fun _ => nI n) (fun _ => True)) (fun _ : Unit => [(hm, .inr (4, [.int 0, .long sd, .int nw, .long hh, .ref q1, .ref q2, .ref q3, .ref q4, .ref q5, .ref q6, .ref q7, .ref q8, .int (nI n), .ref q9, .ref q10, .ref q11, .ref q12, .ref q13, .ref q14, .ref q15, .ref q16, .ref q17, .ref q18, .ref q19, .ref q20]))]) G (va_A [(hm, .inr (4, [.int th, .long sd, .int nw, .long hh, .ref q1, .ref q2, .ref q3, .ref q4, .ref q5, .ref q6, .ref q7, .ref q8, .int (nI n), .ref q9, .ref q10, .ref q11, .ref q12, .ref q13, .ref q14, .ref q15, .ref q16, .ref q17, .ref q18, .ref q19, .ref q20]))] sz)) 0 0 (va_A [(hm, .inr (4, [.int th, .long sd, .int nw, .long hh, .ref q1, .ref q2, .ref q3, .ref q4, .ref q5, .ref q6, .ref q7, .ref q8, .int (nI n), .ref q9, .ref q10, .ref q11, .ref q12, .ref q13, .ref q14, .ref q15, .ref q16, .ref q17, .ref q18, .ref q19, .ref q20]))] sz) := by
  refine Met.ofW (cc := mb_M_sessions) (maxL := 1) (ret := (some .int)) (by decide) rfl ?_
  intro p e s m args below meth c s₁ B hml hv
  obtain ⟨rfl, hsz, hP, hK, hD0⟩ := hv
  have hx := B.exec
  have hb := B.bytes
  have hr := B.returns
  have hts := atoms_spec (ws := tb_w my_M_sessions mb_M_sessions 1 (some .int)) B.pre
  have hw : ∀ w ∈ gt_tbl, w.before [.ref hm].toArray s = true := fun w h => hts w (List.mem_cons_of_mem _ h)
  have hown : s.vm.findClass cr_M = some m.cls := findClass_of_methodNamed B.named
  have hlocks := B.notSynchronized
  subst hsz
  have hD := hD0.self (sz := s.heap.size)
  generalize hAe : va_A [(hm, .inr (4, [.int th, .long sd, .int nw, .long hh, .ref q1, .ref q2, .ref q3, .ref q4, .ref q5, .ref q6, .ref q7, .ref q8, .int (nI n), .ref q9, .ref q10, .ref q11, .ref q12, .ref q13, .ref q14, .ref q15, .ref q16, .ref q17, .ref q18, .ref q19, .ref q20]))] s.heap.size = A at hD ⊢
  have hA : ∀ q : Nat, s.heap.size ≤ q → A q := fun q h => by rw [← hAe]; exact Or.inr h
  have hS : va_S A s.heap s.heap [] := va_S.rf
  have hP : va_P G classes [(hm, .inr (4, [.int th, .long sd, .int nw, .long hh, .ref q1, .ref q2, .ref q3, .ref q4, .ref q5, .ref q6, .ref q7, .ref q8, .int (nI n), .ref q9, .ref q10, .ref q11, .ref q12, .ref q13, .ref q14, .ref q15, .ref q16, .ref q17, .ref q18, .ref q19, .ref q20]))] s.heap := hP
  have hl := lv_entry ([.ref hm]) (n := 1) (Nat.le_of_ble_eq_true rfl)
  rw [lg_entry_eq]
  generalize (lg_sl ([.ref hm]) ++ List.replicate (1 - (lg_sl ([.ref hm])).length) Slot.unset).toArray = ls at hl ⊢
  have hl : lv_has ls 1 [(0, .ref hm)] := hl
  refine lv_aload_n hx hb d_M_sessions_0 rfl (lv_at hl 0 rfl) ?_
  refine lv_iconst (v := 0) hx hb d_M_sessions_1 (by decide) ?_
  refine va_put (D := G) (ci := 4) (v := .int 0) (ty := .int) (C := cr_M) (T := cf_M) (N := 25) hx hb hw uw_M ct_M ct_M_ok ct_M_nm hown hK.1 hP hD hS 0 rfl rfl 0 (by decide) (hw _ ww_640) (fun _ h9 => h9) rfl (by decide +kernel) rfl rfl (Nat.le_of_ble_eq_true rfl) d_M_sessions_2 (fun H locs hP hD hS => ?_)
  have hP : va_P G classes [(hm, .inr (4, [.int 0, .long sd, .int nw, .long hh, .ref q1, .ref q2, .ref q3, .ref q4, .ref q5, .ref q6, .ref q7, .ref q8, .int (nI n), .ref q9, .ref q10, .ref q11, .ref q12, .ref q13, .ref q14, .ref q15, .ref q16, .ref q17, .ref q18, .ref q19, .ref q20]))] H := hP
  have hD : va_D A [(hm, .inr (4, [.int 0, .long sd, .int nw, .long hh, .ref q1, .ref q2, .ref q3, .ref q4, .ref q5, .ref q6, .ref q7, .ref q8, .int (nI n), .ref q9, .ref q10, .ref q11, .ref q12, .ref q13, .ref q14, .ref q15, .ref q16, .ref q17, .ref q18, .ref q19, .ref q20]))] := hD
  refine lv_aload_n hx hb d_M_sessions_5 rfl (lv_at hl 0 rfl) ?_
  refine va_get (D := G) (ci := 4) (v := .int (nI n)) (C := cr_M) (T := cf_M) (N := 25) hx hb hw uw_M hown hK.1 hP 0 rfl rfl 12 (by decide) (hw _ ww_652) (fun _ h9 => h9) rfl d_M_sessions_6 ?_
  exact W.iret (v := nI n) hx hb hr (fun t ht hW => ⟨⟨(), ⟨rfl, trivial⟩, by rw [ht]; exact hP, hD⟩, hS.F ht⟩) hS.2.2 d_M_sessions_9
